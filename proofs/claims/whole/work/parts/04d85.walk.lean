section GEN
variable {p : Program} {l : Launch} {e : Env} {s : State} {m : MethodId} {args : Array Value} {below : List Frame} {meth : Method} {c : Code} {A : Nat → Prop} {D : va_G} {cyI cyJ cyS : ClassId}
abbrev uX8_tellsTenant (cyI cyJ cyS : ClassId) (a0 : Nat → Nat) (c_latest : Int32) (c_typed : Int32) (c_tenants : Int32) (c_room : Int32) (c_events : Int32) (c_gone : Int32) (c_audit : Int32) (c_sights : Int32) (c_drawn : Int32) (c_tenant : Nat → Int32) (c_event : Nat → Int32) (c_floor : Nat → Int32) (c_before : Nat → Int32) (c_left : Nat → Int32) (c_settled : Nat → Int32) (c_fell : Nat → Int32) (c_past : Nat → Int32) (c_highest : Nat → Int32) (c_many : Nat → Int32) (c_floorBy : Nat → Int32) (c_leftBy : Nat → Int32) (c_fellBy : Nat → Int32) (c_sight : Nat → Int32) (c_rows : Nat → Int64) : va_W := [((a0 0), .inr (8, [.ref (a0 1), .ref (a0 2), .ref (a0 3), .ref (a0 4), .int c_latest, .ref (a0 5), .int c_typed, .int c_tenants, .ref (a0 6), .int c_room, .int c_events, .ref (a0 7), .int c_gone, .ref (a0 8), .ref (a0 9), .ref (a0 10), .ref (a0 11), .ref (a0 12), .ref (a0 13), .ref (a0 14), .ref (a0 15), .ref (a0 16), .ref (a0 17), .ref (a0 18), .int c_audit, .int c_sights, .ref (a0 19), .ref (a0 20), .int c_drawn])), ((a0 6), .inl (cyI, 24, .inl c_tenant)), ((a0 7), .inl (cyI, 24, .inl c_event)), ((a0 8), .inl (cyI, 8, .inl c_floor)), ((a0 9), .inl (cyI, 8, .inl c_before)), ((a0 10), .inl (cyI, 8, .inl c_left)), ((a0 11), .inl (cyI, 8, .inl c_settled)), ((a0 12), .inl (cyI, 8, .inl c_fell)), ((a0 13), .inl (cyI, 8, .inl c_past)), ((a0 14), .inl (cyI, 8, .inl c_highest)), ((a0 15), .inl (cyI, 13, .inl c_many)), ((a0 16), .inl (cyI, 192, .inl c_floorBy)), ((a0 17), .inl (cyI, 192, .inl c_leftBy)), ((a0 18), .inl (cyI, 192, .inl c_fellBy)), ((a0 19), .inl (cyI, 24, .inl c_sight)), ((a0 20), .inl (cyJ, 240, .inr (.inl c_rows)))]
abbrev rmX8_tellsTenant : Room := { frames := 8, cells := 0, slots := 0, locals := 187 }
abbrev wdX8_tellsTenant : List Cond := .code yX8_tellsTenant cX8_tellsTenant 7 (some .long) :: wsL_law
theorem hyX8_tellsTenant : yX8_tellsTenant.cls = RX8 ∧ yX8_tellsTenant.cls ≠ "java/lang/invoke/MethodHandle" ∧ yX8_tellsTenant.cls ≠ "java/lang/invoke/VarHandle" ∧ (parseMethodDescriptor yX8_tellsTenant.desc).map (fun d => d.parameters.length) = some 2 := by decide +kernel
set_option maxRecDepth 100000 in
set_option maxHeartbeats 4000000 in
theorem wX8_tellsTenant_147 (K : jK p s m args meth c A D vwCl (tyz cyI cyJ cyS) cX8_tellsTenant 7 RX8 wdX8_tellsTenant (some .long)) (a0 : Nat → Nat) (c_latest : Int32) (c_typed : Int32) (c_drawn : Int32) (l1 : Int64) (i3 : Int32) (c_tenants : Int32) (c_room : Int32) (c_events : Int32) (c_sights : Int32) (c_event : Nat → Int32) (c_sight : Nat → Int32) (o_r : Int64) (o_gone : Int32) (o_sim : jT11) (o_tenant : Nat → Int32) (o_rows : Nat → Int64)   : ∀ (n : Nat) (c_gone : Int32) (c_sim : jT11) (c_tenant : Nat → Int32) (c_rows : Nat → Int64) (l4 : Int64) (i6 : Int32), fX8_tellsTenant_147 l1 i3 c_tenants c_room c_events c_sights c_event c_sight  n c_gone c_sim c_tenant c_rows l4 i6 = some (o_r, o_gone, o_sim, o_tenant, o_rows) → jw p l e rmX8_tellsTenant s m args below meth c (jQ below args s A D vwCl (tyz cyI cyJ cyS) 0 0 (some (.long o_r)) (uX8_tellsTenant cyI cyJ cyS a0 c_latest c_typed c_tenants c_room c_events o_gone o_sim.1 c_sights c_drawn o_tenant c_event o_sim.2.1 o_sim.2.2.1 o_sim.2.2.2.1 o_sim.2.2.2.2.1 o_sim.2.2.2.2.2.1 o_sim.2.2.2.2.2.2.1 o_sim.2.2.2.2.2.2.2.1 o_sim.2.2.2.2.2.2.2.2.1 o_sim.2.2.2.2.2.2.2.2.2.1 o_sim.2.2.2.2.2.2.2.2.2.2.1 o_sim.2.2.2.2.2.2.2.2.2.2.2 c_sight o_rows)) A D vwCl 7 0 0 147 [(0, .ref (a0 0)), (3, .int i3), (4, .long l4), (6, .int i6)] [] (uX8_tellsTenant cyI cyJ cyS a0 c_latest c_typed c_tenants c_room c_events c_gone c_sim.1 c_sights c_drawn c_tenant c_event c_sim.2.1 c_sim.2.2.1 c_sim.2.2.2.1 c_sim.2.2.2.2.1 c_sim.2.2.2.2.2.1 c_sim.2.2.2.2.2.2.1 c_sim.2.2.2.2.2.2.2.1 c_sim.2.2.2.2.2.2.2.2.1 c_sim.2.2.2.2.2.2.2.2.2.1 c_sim.2.2.2.2.2.2.2.2.2.2.1 c_sim.2.2.2.2.2.2.2.2.2.2.2 c_sight c_rows) := by
  intro n
  induction n with
  | zero => intro c_gone c_sim c_tenant c_rows l4 i6 h; cases h
  | succ n ih =>
    intro c_gone c_sim c_tenant c_rows l4 i6 h
    have h : bX8_tellsTenant_147 l1 i3 c_tenants c_room c_events c_sights c_event c_sight  (fX8_tellsTenant_147 l1 i3 c_tenants c_room c_events c_sights c_event c_sight  n) c_gone c_sim c_tenant c_rows l4 i6 = some (o_r, o_gone, o_sim, o_tenant, o_rows) := h
    unfold bX8_tellsTenant_147 at h
    refine j_iload K 3 rfl dX8_tellsTenant_147 rfl ?_
    refine j_iconst (v := (3 : Int32)) K (by decide) dX8_tellsTenant_149 rfl ?_
    refine j_icmp_ge (tgt := 179) K dX8_tellsTenant_150 (by decide) rfl h (fun h => ?_) (fun h => ?_)
    · refine j_ldc2 (v := (31 : Int64)) K (List.mem_cons_of_mem _ mw_42_4) dX8_tellsTenant_179 rfl ?_
      refine j_lload K 2 rfl dX8_tellsTenant_182 rfl ?_
      refine j_lmul K dX8_tellsTenant_184 rfl ?_
      refine j_aload_n K 0 rfl dX8_tellsTenant_185 rfl ?_
      refine j_iload_n K 1 rfl dX8_tellsTenant_186 rfl ?_
      obtain ⟨r_6, c_sim_7, c_tenant_8, c_rows_9, hc, h⟩ := bd4_some h
      refine j_callV (rest := [.long ((31 : Int64) * l4)]) (st1 := [.int r_6, .long ((31 : Int64) * l4)]) (ws' := (uX8_tellsTenant cyI cyJ cyS a0 c_latest c_typed c_tenants c_room c_events c_gone c_sim_7.1 c_sights c_drawn c_tenant_8 c_event c_sim_7.2.1 c_sim_7.2.2.1 c_sim_7.2.2.2.1 c_sim_7.2.2.2.2.1 c_sim_7.2.2.2.2.2.1 c_sim_7.2.2.2.2.2.2.1 c_sim_7.2.2.2.2.2.2.2.1 c_sim_7.2.2.2.2.2.2.2.2.1 c_sim_7.2.2.2.2.2.2.2.2.2.1 c_sim_7.2.2.2.2.2.2.2.2.2.2.1 c_sim_7.2.2.2.2.2.2.2.2.2.2.2 c_sight c_rows_9)) (T := TX8) (N := 29) (ci := 8) K (ctX8_wagesOf l D cyI cyJ cyS a0 i3 c_latest c_typed c_drawn c_tenants c_room c_events c_gone c_sights c_event c_sight c_sim c_tenant c_rows r_6 c_sim_7 c_tenant_8 c_rows_9 hc) (gdV mcL mw_32_16 mw_32_17 mw_32_18 mw_1_5 mw_32_19) rfl ⟨rfl, rfl⟩ hyX8_wagesOf ⟨Nat.le_of_ble_eq_true rfl, Nat.le_of_ble_eq_true rfl, Nat.le_of_ble_eq_true rfl, Nat.le_of_ble_eq_true rfl⟩ [0, 1, 2, 3, 4, 5, 6, 7, 8, 9, 10, 11, 12, 13, 14, 15] (by decide) rfl [some 0, some 1, some 2, some 3, some 4, some 5, some 6, some 7, some 8, some 9, some 10, some 11, some 12, some 13, some 14, some 15] (by decide) rfl rfl 0 rfl rfl rfl rfl (Nat.le_of_ble_eq_true rfl) dX8_tellsTenant_187 rfl rfl ?_
      refine j_i2l K dX8_tellsTenant_190 rfl ?_
      refine j_ladd K dX8_tellsTenant_191 rfl ?_
      refine j_nmL h (fun l4_10 h => ?_)
      refine j_lstore (lv' := [(4, .long l4_10), (0, .ref (a0 0)), (3, .int i3), (6, .int i6)]) K (by decide) rfl dX8_tellsTenant_192 rfl ?_
      refine j_ldc2 (v := (31 : Int64)) K (List.mem_cons_of_mem _ mw_42_4) dX8_tellsTenant_194 rfl ?_
      refine j_lload K 0 rfl dX8_tellsTenant_197 rfl ?_
      refine j_lmul K dX8_tellsTenant_199 rfl ?_
      refine j_aload_n K 1 rfl dX8_tellsTenant_200 rfl ?_
      refine j_iload_n K 2 rfl dX8_tellsTenant_201 rfl ?_
      obtain ⟨r_11, c_sim_12, c_tenant_13, hc, h⟩ := bd3_some h
      refine j_callV (rest := [.long ((31 : Int64) * l4_10)]) (st1 := [.int r_11, .long ((31 : Int64) * l4_10)]) (ws' := (uX8_tellsTenant cyI cyJ cyS a0 c_latest c_typed c_tenants c_room c_events c_gone c_sim_12.1 c_sights c_drawn c_tenant_13 c_event c_sim_12.2.1 c_sim_12.2.2.1 c_sim_12.2.2.2.1 c_sim_12.2.2.2.2.1 c_sim_12.2.2.2.2.2.1 c_sim_12.2.2.2.2.2.2.1 c_sim_12.2.2.2.2.2.2.2.1 c_sim_12.2.2.2.2.2.2.2.2.1 c_sim_12.2.2.2.2.2.2.2.2.2.1 c_sim_12.2.2.2.2.2.2.2.2.2.2.1 c_sim_12.2.2.2.2.2.2.2.2.2.2.2 c_sight c_rows_9)) (T := TX8) (N := 29) (ci := 8) K (ctX8_sortOf l D cyI cyJ cyS a0 i3 c_latest c_typed c_drawn c_tenants c_room c_events c_gone c_sights c_event c_sight c_sim_7 c_tenant_8 r_11 c_sim_12 c_tenant_13 hc) (gdV mcL mw_33_1 mw_33_2 mw_33_3 mw_1_5 mw_33_4) rfl ⟨rfl, rfl⟩ hyX8_sortOf ⟨Nat.le_of_ble_eq_true rfl, Nat.le_of_ble_eq_true rfl, Nat.le_of_ble_eq_true rfl, Nat.le_of_ble_eq_true rfl⟩ [0, 1, 2, 3, 4, 5, 6, 7, 8, 9, 10, 11, 12, 13, 14] (by decide) rfl [some 0, some 1, some 2, some 3, some 4, some 5, some 6, some 7, some 8, some 9, some 10, some 11, some 12, some 13, some 14, none] (by decide) rfl rfl 0 rfl rfl rfl rfl (Nat.le_of_ble_eq_true rfl) dX8_tellsTenant_202 rfl rfl ?_
      refine j_i2l K dX8_tellsTenant_205 rfl ?_
      refine j_ladd K dX8_tellsTenant_206 rfl ?_
      refine j_nmL h (fun l4_14 h => ?_)
      refine j_lstore (lv' := [(4, .long l4_14), (0, .ref (a0 0)), (3, .int i3), (6, .int i6)]) K (by decide) rfl dX8_tellsTenant_207 rfl ?_
      refine j_ldc2 (v := (31 : Int64)) K (List.mem_cons_of_mem _ mw_42_4) dX8_tellsTenant_209 rfl ?_
      refine j_lload K 0 rfl dX8_tellsTenant_212 rfl ?_
      refine j_lmul K dX8_tellsTenant_214 rfl ?_
      refine j_aload_n K 1 rfl dX8_tellsTenant_215 rfl ?_
      refine j_iload_n K 2 rfl dX8_tellsTenant_216 rfl ?_
      obtain ⟨r_15, c_sim_16, c_tenant_17, c_rows_18, hc, h⟩ := bd4_some h
      refine j_callV (rest := [.long ((31 : Int64) * l4_14)]) (st1 := [.int r_15, .long ((31 : Int64) * l4_14)]) (ws' := (uX8_tellsTenant cyI cyJ cyS a0 c_latest c_typed c_tenants c_room c_events c_gone c_sim_16.1 c_sights c_drawn c_tenant_17 c_event c_sim_16.2.1 c_sim_16.2.2.1 c_sim_16.2.2.2.1 c_sim_16.2.2.2.2.1 c_sim_16.2.2.2.2.2.1 c_sim_16.2.2.2.2.2.2.1 c_sim_16.2.2.2.2.2.2.2.1 c_sim_16.2.2.2.2.2.2.2.2.1 c_sim_16.2.2.2.2.2.2.2.2.2.1 c_sim_16.2.2.2.2.2.2.2.2.2.2.1 c_sim_16.2.2.2.2.2.2.2.2.2.2.2 c_sight c_rows_18)) (T := TX8) (N := 29) (ci := 8) K (ctX8_askOf l D cyI cyJ cyS a0 i3 c_latest c_typed c_drawn c_tenants c_room c_events c_gone c_sights c_event c_sight c_sim_12 c_tenant_13 c_rows_9 r_15 c_sim_16 c_tenant_17 c_rows_18 hc) (gdV mcL mw_33_18 mw_33_19 mw_33_20 mw_1_5 mw_33_21) rfl ⟨rfl, rfl⟩ hyX8_askOf ⟨Nat.le_of_ble_eq_true rfl, Nat.le_of_ble_eq_true rfl, Nat.le_of_ble_eq_true rfl, Nat.le_of_ble_eq_true rfl⟩ [0, 1, 2, 3, 4, 5, 6, 7, 8, 9, 10, 11, 12, 13, 14, 15] (by decide) rfl [some 0, some 1, some 2, some 3, some 4, some 5, some 6, some 7, some 8, some 9, some 10, some 11, some 12, some 13, some 14, some 15] (by decide) rfl rfl 0 rfl rfl rfl rfl (Nat.le_of_ble_eq_true rfl) dX8_tellsTenant_217 rfl rfl ?_
      refine j_i2l K dX8_tellsTenant_220 rfl ?_
      refine j_ladd K dX8_tellsTenant_221 rfl ?_
      refine j_nmL h (fun l4_19 h => ?_)
      refine j_lstore (lv' := [(4, .long l4_19), (0, .ref (a0 0)), (3, .int i3), (6, .int i6)]) K (by decide) rfl dX8_tellsTenant_222 rfl ?_
      refine j_ldc2 (v := (31 : Int64)) K (List.mem_cons_of_mem _ mw_42_4) dX8_tellsTenant_224 rfl ?_
      refine j_lload K 0 rfl dX8_tellsTenant_227 rfl ?_
      refine j_lmul K dX8_tellsTenant_229 rfl ?_
      refine j_aload_n K 1 rfl dX8_tellsTenant_230 rfl ?_
      refine j_iconst (v := (5 : Int32)) K (by decide) dX8_tellsTenant_231 rfl ?_
      refine j_iload_n K 2 rfl dX8_tellsTenant_232 rfl ?_
      refine j_iconst (v := (0 : Int32)) K (by decide) dX8_tellsTenant_233 rfl ?_
      obtain ⟨r_20, c_gone_21, c_sim_22, hc, h⟩ := bd3_some h
      refine j_callV (rest := [.long ((31 : Int64) * l4_19)]) (st1 := [.long r_20, .long ((31 : Int64) * l4_19)]) (ws' := (uX8_tellsTenant cyI cyJ cyS a0 c_latest c_typed c_tenants c_room c_events c_gone_21 c_sim_22.1 c_sights c_drawn c_tenant_17 c_event c_sim_22.2.1 c_sim_22.2.2.1 c_sim_22.2.2.2.1 c_sim_22.2.2.2.2.1 c_sim_22.2.2.2.2.2.1 c_sim_22.2.2.2.2.2.2.1 c_sim_22.2.2.2.2.2.2.2.1 c_sim_22.2.2.2.2.2.2.2.2.1 c_sim_22.2.2.2.2.2.2.2.2.2.1 c_sim_22.2.2.2.2.2.2.2.2.2.2.1 c_sim_22.2.2.2.2.2.2.2.2.2.2.2 c_sight c_rows_18)) (T := TX8) (N := 29) (ci := 8) K (ctX8_chanceOf l D cyI cyJ cyS a0 (5 : Int32) i3 (0 : Int32) c_latest c_typed c_sights c_drawn c_tenants c_room c_events c_tenant_17 c_event c_gone c_sim_16 r_20 c_gone_21 c_sim_22 hc) (gdV mcL mw_34_22 mw_34_23 mw_35_0 mw_1_5 mw_35_1) rfl ⟨rfl, rfl⟩ hyX8_chanceOf ⟨Nat.le_of_ble_eq_true rfl, Nat.le_of_ble_eq_true rfl, Nat.le_of_ble_eq_true rfl, Nat.le_of_ble_eq_true rfl⟩ [0, 1, 2, 3, 4, 5, 6, 7, 8, 9, 10, 11, 12, 13] (by decide) rfl [some 0, some 1, some 2, some 3, some 4, some 5, some 6, some 7, some 8, some 9, some 10, some 11, some 12, some 13, none, none] (by decide) rfl rfl 0 rfl rfl rfl rfl (Nat.le_of_ble_eq_true rfl) dX8_tellsTenant_234 rfl rfl ?_
      refine j_ladd K dX8_tellsTenant_237 rfl ?_
      refine j_nmL h (fun l4_23 h => ?_)
      refine j_lstore (lv' := [(4, .long l4_23), (0, .ref (a0 0)), (3, .int i3), (6, .int i6)]) K (by decide) rfl dX8_tellsTenant_238 rfl ?_
      refine j_ldc2 (v := (31 : Int64)) K (List.mem_cons_of_mem _ mw_42_4) dX8_tellsTenant_240 rfl ?_
      refine j_lload K 0 rfl dX8_tellsTenant_243 rfl ?_
      refine j_lmul K dX8_tellsTenant_245 rfl ?_
      refine j_aload_n K 1 rfl dX8_tellsTenant_246 rfl ?_
      refine j_iconst (v := (5 : Int32)) K (by decide) dX8_tellsTenant_247 rfl ?_
      refine j_iload_n K 2 rfl dX8_tellsTenant_248 rfl ?_
      refine j_iconst (v := (1 : Int32)) K (by decide) dX8_tellsTenant_249 rfl ?_
      obtain ⟨r_24, c_gone_25, c_sim_26, hc, h⟩ := bd3_some h
      refine j_callV (rest := [.long ((31 : Int64) * l4_23)]) (st1 := [.long r_24, .long ((31 : Int64) * l4_23)]) (ws' := (uX8_tellsTenant cyI cyJ cyS a0 c_latest c_typed c_tenants c_room c_events c_gone_25 c_sim_26.1 c_sights c_drawn c_tenant_17 c_event c_sim_26.2.1 c_sim_26.2.2.1 c_sim_26.2.2.2.1 c_sim_26.2.2.2.2.1 c_sim_26.2.2.2.2.2.1 c_sim_26.2.2.2.2.2.2.1 c_sim_26.2.2.2.2.2.2.2.1 c_sim_26.2.2.2.2.2.2.2.2.1 c_sim_26.2.2.2.2.2.2.2.2.2.1 c_sim_26.2.2.2.2.2.2.2.2.2.2.1 c_sim_26.2.2.2.2.2.2.2.2.2.2.2 c_sight c_rows_18)) (T := TX8) (N := 29) (ci := 8) K (ctX8_chanceOf l D cyI cyJ cyS a0 (5 : Int32) i3 (1 : Int32) c_latest c_typed c_sights c_drawn c_tenants c_room c_events c_tenant_17 c_event c_gone_21 c_sim_22 r_24 c_gone_25 c_sim_26 hc) (gdV mcL mw_34_22 mw_34_23 mw_35_0 mw_1_5 mw_35_1) rfl ⟨rfl, rfl⟩ hyX8_chanceOf ⟨Nat.le_of_ble_eq_true rfl, Nat.le_of_ble_eq_true rfl, Nat.le_of_ble_eq_true rfl, Nat.le_of_ble_eq_true rfl⟩ [0, 1, 2, 3, 4, 5, 6, 7, 8, 9, 10, 11, 12, 13] (by decide) rfl [some 0, some 1, some 2, some 3, some 4, some 5, some 6, some 7, some 8, some 9, some 10, some 11, some 12, some 13, none, none] (by decide) rfl rfl 0 rfl rfl rfl rfl (Nat.le_of_ble_eq_true rfl) dX8_tellsTenant_250 rfl rfl ?_
      refine j_ladd K dX8_tellsTenant_253 rfl ?_
      obtain ⟨e1, g1⟩ := Prod.mk.inj (Option.some.inj h)
      subst e1
      obtain ⟨e2, g2⟩ := Prod.mk.inj g1
      subst e2
      obtain ⟨e3, g3⟩ := Prod.mk.inj g2
      subst e3
      obtain ⟨e4, g4⟩ := Prod.mk.inj g3
      subst e4
      subst g4
      exact j_lret K dX8_tellsTenant_254
    · refine j_ldc2 (v := (31 : Int64)) K (List.mem_cons_of_mem _ mw_42_4) dX8_tellsTenant_153 rfl ?_
      refine j_lload K 2 rfl dX8_tellsTenant_156 rfl ?_
      refine j_lmul K dX8_tellsTenant_158 rfl ?_
      refine j_aload_n K 0 rfl dX8_tellsTenant_159 rfl ?_
      refine j_iconst (v := (3 : Int32)) K (by decide) dX8_tellsTenant_160 rfl ?_
      refine j_iload_n K 1 rfl dX8_tellsTenant_161 rfl ?_
      refine j_imul K dX8_tellsTenant_162 rfl ?_
      refine j_iconst (v := (4 : Int32)) K (by decide) dX8_tellsTenant_163 rfl ?_
      refine j_iload K 3 rfl dX8_tellsTenant_164 rfl ?_
      obtain ⟨r_27, c_sim_28, c_tenant_29, hc, h⟩ := bd3_some h
      refine j_callV (rest := [.long ((31 : Int64) * l4)]) (st1 := [.int r_27, .long ((31 : Int64) * l4)]) (ws' := (uX8_tellsTenant cyI cyJ cyS a0 c_latest c_typed c_tenants c_room c_events c_gone c_sim_28.1 c_sights c_drawn c_tenant_29 c_event c_sim_28.2.1 c_sim_28.2.2.1 c_sim_28.2.2.2.1 c_sim_28.2.2.2.2.1 c_sim_28.2.2.2.2.2.1 c_sim_28.2.2.2.2.2.2.1 c_sim_28.2.2.2.2.2.2.2.1 c_sim_28.2.2.2.2.2.2.2.2.1 c_sim_28.2.2.2.2.2.2.2.2.2.1 c_sim_28.2.2.2.2.2.2.2.2.2.2.1 c_sim_28.2.2.2.2.2.2.2.2.2.2.2 c_sight c_rows)) (T := TX8) (N := 29) (ci := 8) K (ctX8_tenantBetter l D cyI cyJ cyS a0 ((3 : Int32) * i3) (4 : Int32) i6 c_latest c_typed c_sights c_drawn c_tenants c_room c_events c_gone c_event c_sim c_tenant r_27 c_sim_28 c_tenant_29 hc) (gdV mcL mw_26_21 mw_26_22 mw_26_23 mw_1_5 mw_27_0) rfl ⟨rfl, rfl⟩ hyX8_tenantBetter ⟨Nat.le_of_ble_eq_true rfl, Nat.le_of_ble_eq_true rfl, Nat.le_of_ble_eq_true rfl, Nat.le_of_ble_eq_true rfl⟩ [0, 1, 2, 3, 4, 5, 6, 7, 8, 9, 10, 11, 12, 13] (by decide) rfl [some 0, some 1, some 2, some 3, some 4, some 5, some 6, some 7, some 8, some 9, some 10, some 11, some 12, some 13, none, none] (by decide) rfl rfl 0 rfl rfl rfl rfl (Nat.le_of_ble_eq_true rfl) dX8_tellsTenant_166 rfl rfl ?_
      refine j_i2l K dX8_tellsTenant_169 rfl ?_
      refine j_ladd K dX8_tellsTenant_170 rfl ?_
      refine j_nmL h (fun l4_30 h => ?_)
      refine j_lstore (lv' := [(4, .long l4_30), (0, .ref (a0 0)), (3, .int i3), (6, .int i6)]) K (by decide) rfl dX8_tellsTenant_171 rfl ?_
      refine j_iincN (lf := fun z => [(6, .int z), (4, .long l4_30), (0, .ref (a0 0)), (3, .int i3)]) K (v := i6 + (1 : Int32)) (k := 3) rfl rfl (by decide) (fun _ => rfl) dX8_tellsTenant_173 rfl h (fun i6_31 h => ?_)
      refine j_goto (pc' := 147) K dX8_tellsTenant_176 (by decide) ?_
      refine j_sub [2, 3, 1, 0] (lv' := [(0, .ref (a0 0)), (3, .int i3), (4, .long l4_30), (6, .int i6_31)]) rfl ?_
      exact ih c_gone c_sim_28 c_tenant_29 c_rows l4_30 i6_31 h
set_option maxRecDepth 100000 in
set_option maxHeartbeats 4000000 in
theorem wX8_tellsTenant_109 (K : jK p s m args meth c A D vwCl (tyz cyI cyJ cyS) cX8_tellsTenant 7 RX8 wdX8_tellsTenant (some .long)) (a0 : Nat → Nat) (c_latest : Int32) (c_typed : Int32) (c_drawn : Int32) (l1 : Int64) (i3 : Int32) (c_tenants : Int32) (c_room : Int32) (c_events : Int32) (c_sights : Int32) (c_event : Nat → Int32) (c_sight : Nat → Int32) (o_r : Int64) (o_gone : Int32) (o_sim : jT11) (o_tenant : Nat → Int32) (o_rows : Nat → Int64)   : ∀ (n : Nat) (c_gone : Int32) (c_sim : jT11) (c_tenant : Nat → Int32) (c_rows : Nat → Int64) (l4 : Int64) (i6 : Int32), fX8_tellsTenant_109 l1 i3 c_tenants c_room c_events c_sights c_event c_sight  n c_gone c_sim c_tenant c_rows l4 i6 = some (o_r, o_gone, o_sim, o_tenant, o_rows) → jw p l e rmX8_tellsTenant s m args below meth c (jQ below args s A D vwCl (tyz cyI cyJ cyS) 0 0 (some (.long o_r)) (uX8_tellsTenant cyI cyJ cyS a0 c_latest c_typed c_tenants c_room c_events o_gone o_sim.1 c_sights c_drawn o_tenant c_event o_sim.2.1 o_sim.2.2.1 o_sim.2.2.2.1 o_sim.2.2.2.2.1 o_sim.2.2.2.2.2.1 o_sim.2.2.2.2.2.2.1 o_sim.2.2.2.2.2.2.2.1 o_sim.2.2.2.2.2.2.2.2.1 o_sim.2.2.2.2.2.2.2.2.2.1 o_sim.2.2.2.2.2.2.2.2.2.2.1 o_sim.2.2.2.2.2.2.2.2.2.2.2 c_sight o_rows)) A D vwCl 7 0 0 109 [(0, .ref (a0 0)), (3, .int i3), (4, .long l4), (6, .int i6)] [] (uX8_tellsTenant cyI cyJ cyS a0 c_latest c_typed c_tenants c_room c_events c_gone c_sim.1 c_sights c_drawn c_tenant c_event c_sim.2.1 c_sim.2.2.1 c_sim.2.2.2.1 c_sim.2.2.2.2.1 c_sim.2.2.2.2.2.1 c_sim.2.2.2.2.2.2.1 c_sim.2.2.2.2.2.2.2.1 c_sim.2.2.2.2.2.2.2.2.1 c_sim.2.2.2.2.2.2.2.2.2.1 c_sim.2.2.2.2.2.2.2.2.2.2.1 c_sim.2.2.2.2.2.2.2.2.2.2.2 c_sight c_rows) := by
  intro n
  induction n with
  | zero => intro c_gone c_sim c_tenant c_rows l4 i6 h; cases h
  | succ n ih =>
    intro c_gone c_sim c_tenant c_rows l4 i6 h
    have h : bX8_tellsTenant_109 l1 i3 c_tenants c_room c_events c_sights c_event c_sight  (fX8_tellsTenant_109 l1 i3 c_tenants c_room c_events c_sights c_event c_sight  n) c_gone c_sim c_tenant c_rows l4 i6 = some (o_r, o_gone, o_sim, o_tenant, o_rows) := h
    unfold bX8_tellsTenant_109 at h
    refine j_iload K 3 rfl dX8_tellsTenant_109 rfl ?_
    refine j_iconst (v := (3 : Int32)) K (by decide) dX8_tellsTenant_111 rfl ?_
    refine j_icmp_ge (tgt := 144) K dX8_tellsTenant_112 (by decide) rfl h (fun h => ?_) (fun h => ?_)
    · refine j_iconst (v := (0 : Int32)) K (by decide) dX8_tellsTenant_144 rfl ?_
      refine j_istore (lv' := [(6, .int (0 : Int32)), (0, .ref (a0 0)), (3, .int i3), (4, .long l4)]) K (by decide) rfl dX8_tellsTenant_145 rfl ?_
      refine j_sub [1, 2, 3, 0] (lv' := [(0, .ref (a0 0)), (3, .int i3), (4, .long l4), (6, .int (0 : Int32))]) rfl ?_
      exact wX8_tellsTenant_147 K a0 c_latest c_typed c_drawn l1 i3 c_tenants c_room c_events c_sights c_event c_sight o_r o_gone o_sim o_tenant o_rows jF c_gone c_sim c_tenant c_rows l4 (0 : Int32) h
    · refine j_ldc2 (v := (31 : Int64)) K (List.mem_cons_of_mem _ mw_42_4) dX8_tellsTenant_115 rfl ?_
      refine j_lload K 2 rfl dX8_tellsTenant_118 rfl ?_
      refine j_lmul K dX8_tellsTenant_120 rfl ?_
      refine j_aload_n K 0 rfl dX8_tellsTenant_121 rfl ?_
      refine j_iconst (v := (3 : Int32)) K (by decide) dX8_tellsTenant_122 rfl ?_
      refine j_iload_n K 1 rfl dX8_tellsTenant_123 rfl ?_
      refine j_imul K dX8_tellsTenant_124 rfl ?_
      refine j_iconst (v := (2 : Int32)) K (by decide) dX8_tellsTenant_125 rfl ?_
      refine j_iadd K dX8_tellsTenant_126 rfl ?_
      refine j_bipush (v := (10 : Int32)) K (by decide) dX8_tellsTenant_127 rfl ?_
      refine j_iload K 3 rfl dX8_tellsTenant_129 rfl ?_
      obtain ⟨r_32, c_sim_33, c_tenant_34, hc, h⟩ := bd3_some h
      refine j_callV (rest := [.long ((31 : Int64) * l4)]) (st1 := [.int r_32, .long ((31 : Int64) * l4)]) (ws' := (uX8_tellsTenant cyI cyJ cyS a0 c_latest c_typed c_tenants c_room c_events c_gone c_sim_33.1 c_sights c_drawn c_tenant_34 c_event c_sim_33.2.1 c_sim_33.2.2.1 c_sim_33.2.2.2.1 c_sim_33.2.2.2.2.1 c_sim_33.2.2.2.2.2.1 c_sim_33.2.2.2.2.2.2.1 c_sim_33.2.2.2.2.2.2.2.1 c_sim_33.2.2.2.2.2.2.2.2.1 c_sim_33.2.2.2.2.2.2.2.2.2.1 c_sim_33.2.2.2.2.2.2.2.2.2.2.1 c_sim_33.2.2.2.2.2.2.2.2.2.2.2 c_sight c_rows)) (T := TX8) (N := 29) (ci := 8) K (ctX8_tenantBetter l D cyI cyJ cyS a0 (((3 : Int32) * i3) + (2 : Int32)) (10 : Int32) i6 c_latest c_typed c_sights c_drawn c_tenants c_room c_events c_gone c_event c_sim c_tenant r_32 c_sim_33 c_tenant_34 hc) (gdV mcL mw_26_21 mw_26_22 mw_26_23 mw_1_5 mw_27_0) rfl ⟨rfl, rfl⟩ hyX8_tenantBetter ⟨Nat.le_of_ble_eq_true rfl, Nat.le_of_ble_eq_true rfl, Nat.le_of_ble_eq_true rfl, Nat.le_of_ble_eq_true rfl⟩ [0, 1, 2, 3, 4, 5, 6, 7, 8, 9, 10, 11, 12, 13] (by decide) rfl [some 0, some 1, some 2, some 3, some 4, some 5, some 6, some 7, some 8, some 9, some 10, some 11, some 12, some 13, none, none] (by decide) rfl rfl 0 rfl rfl rfl rfl (Nat.le_of_ble_eq_true rfl) dX8_tellsTenant_131 rfl rfl ?_
      refine j_i2l K dX8_tellsTenant_134 rfl ?_
      refine j_ladd K dX8_tellsTenant_135 rfl ?_
      refine j_nmL h (fun l4_35 h => ?_)
      refine j_lstore (lv' := [(4, .long l4_35), (0, .ref (a0 0)), (3, .int i3), (6, .int i6)]) K (by decide) rfl dX8_tellsTenant_136 rfl ?_
      refine j_iincN (lf := fun z => [(6, .int z), (4, .long l4_35), (0, .ref (a0 0)), (3, .int i3)]) K (v := i6 + (1 : Int32)) (k := 3) rfl rfl (by decide) (fun _ => rfl) dX8_tellsTenant_138 rfl h (fun i6_36 h => ?_)
      refine j_goto (pc' := 109) K dX8_tellsTenant_141 (by decide) ?_
      refine j_sub [2, 3, 1, 0] (lv' := [(0, .ref (a0 0)), (3, .int i3), (4, .long l4_35), (6, .int i6_36)]) rfl ?_
      exact ih c_gone c_sim_33 c_tenant_34 c_rows l4_35 i6_36 h
set_option maxRecDepth 100000 in
set_option maxHeartbeats 4000000 in
theorem wX8_tellsTenant_77 (K : jK p s m args meth c A D vwCl (tyz cyI cyJ cyS) cX8_tellsTenant 7 RX8 wdX8_tellsTenant (some .long)) (a0 : Nat → Nat) (c_latest : Int32) (c_typed : Int32) (c_drawn : Int32) (l1 : Int64) (i3 : Int32) (c_tenants : Int32) (c_room : Int32) (c_events : Int32) (c_sights : Int32) (c_event : Nat → Int32) (c_sight : Nat → Int32) (o_r : Int64) (o_gone : Int32) (o_sim : jT11) (o_tenant : Nat → Int32) (o_rows : Nat → Int64)   : ∀ (n : Nat) (c_gone : Int32) (c_sim : jT11) (c_tenant : Nat → Int32) (c_rows : Nat → Int64) (l4 : Int64) (i6 : Int32), fX8_tellsTenant_77 l1 i3 c_tenants c_room c_events c_sights c_event c_sight  n c_gone c_sim c_tenant c_rows l4 i6 = some (o_r, o_gone, o_sim, o_tenant, o_rows) → jw p l e rmX8_tellsTenant s m args below meth c (jQ below args s A D vwCl (tyz cyI cyJ cyS) 0 0 (some (.long o_r)) (uX8_tellsTenant cyI cyJ cyS a0 c_latest c_typed c_tenants c_room c_events o_gone o_sim.1 c_sights c_drawn o_tenant c_event o_sim.2.1 o_sim.2.2.1 o_sim.2.2.2.1 o_sim.2.2.2.2.1 o_sim.2.2.2.2.2.1 o_sim.2.2.2.2.2.2.1 o_sim.2.2.2.2.2.2.2.1 o_sim.2.2.2.2.2.2.2.2.1 o_sim.2.2.2.2.2.2.2.2.2.1 o_sim.2.2.2.2.2.2.2.2.2.2.1 o_sim.2.2.2.2.2.2.2.2.2.2.2 c_sight o_rows)) A D vwCl 7 0 0 77 [(0, .ref (a0 0)), (3, .int i3), (4, .long l4), (6, .int i6)] [] (uX8_tellsTenant cyI cyJ cyS a0 c_latest c_typed c_tenants c_room c_events c_gone c_sim.1 c_sights c_drawn c_tenant c_event c_sim.2.1 c_sim.2.2.1 c_sim.2.2.2.1 c_sim.2.2.2.2.1 c_sim.2.2.2.2.2.1 c_sim.2.2.2.2.2.2.1 c_sim.2.2.2.2.2.2.2.1 c_sim.2.2.2.2.2.2.2.2.1 c_sim.2.2.2.2.2.2.2.2.2.1 c_sim.2.2.2.2.2.2.2.2.2.2.1 c_sim.2.2.2.2.2.2.2.2.2.2.2 c_sight c_rows) := by
  intro n
  induction n with
  | zero => intro c_gone c_sim c_tenant c_rows l4 i6 h; cases h
  | succ n ih =>
    intro c_gone c_sim c_tenant c_rows l4 i6 h
    have h : bX8_tellsTenant_77 l1 i3 c_tenants c_room c_events c_sights c_event c_sight  (fX8_tellsTenant_77 l1 i3 c_tenants c_room c_events c_sights c_event c_sight  n) c_gone c_sim c_tenant c_rows l4 i6 = some (o_r, o_gone, o_sim, o_tenant, o_rows) := h
    unfold bX8_tellsTenant_77 at h
    refine j_iload K 3 rfl dX8_tellsTenant_77 rfl ?_
    refine j_iconst (v := (4 : Int32)) K (by decide) dX8_tellsTenant_79 rfl ?_
    refine j_icmp_ge (tgt := 106) K dX8_tellsTenant_80 (by decide) rfl h (fun h => ?_) (fun h => ?_)
    · refine j_iconst (v := (0 : Int32)) K (by decide) dX8_tellsTenant_106 rfl ?_
      refine j_istore (lv' := [(6, .int (0 : Int32)), (0, .ref (a0 0)), (3, .int i3), (4, .long l4)]) K (by decide) rfl dX8_tellsTenant_107 rfl ?_
      refine j_sub [1, 2, 3, 0] (lv' := [(0, .ref (a0 0)), (3, .int i3), (4, .long l4), (6, .int (0 : Int32))]) rfl ?_
      exact wX8_tellsTenant_109 K a0 c_latest c_typed c_drawn l1 i3 c_tenants c_room c_events c_sights c_event c_sight o_r o_gone o_sim o_tenant o_rows jF c_gone c_sim c_tenant c_rows l4 (0 : Int32) h
    · refine j_ldc2 (v := (31 : Int64)) K (List.mem_cons_of_mem _ mw_42_4) dX8_tellsTenant_83 rfl ?_
      refine j_lload K 2 rfl dX8_tellsTenant_86 rfl ?_
      refine j_lmul K dX8_tellsTenant_88 rfl ?_
      refine j_aload_n K 0 rfl dX8_tellsTenant_89 rfl ?_
      refine j_iload_n K 1 rfl dX8_tellsTenant_90 rfl ?_
      refine j_iload K 3 rfl dX8_tellsTenant_91 rfl ?_
      obtain ⟨r_37, hc, h⟩ := bd1_some h
      refine j_callV (rest := [.long ((31 : Int64) * l4)]) (st1 := [.int r_37, .long ((31 : Int64) * l4)]) (ws' := (uX8_tellsTenant cyI cyJ cyS a0 c_latest c_typed c_tenants c_room c_events c_gone c_sim.1 c_sights c_drawn c_tenant c_event c_sim.2.1 c_sim.2.2.1 c_sim.2.2.2.1 c_sim.2.2.2.2.1 c_sim.2.2.2.2.2.1 c_sim.2.2.2.2.2.2.1 c_sim.2.2.2.2.2.2.2.1 c_sim.2.2.2.2.2.2.2.2.1 c_sim.2.2.2.2.2.2.2.2.2.1 c_sim.2.2.2.2.2.2.2.2.2.2.1 c_sim.2.2.2.2.2.2.2.2.2.2.2 c_sight c_rows)) (T := TX8) (N := 29) (ci := 8) K (ctX8_endsBy l D cyI cyJ cyS a0 i3 i6 c_latest c_typed c_tenants c_room c_events c_gone c_sim.1 c_sights c_drawn c_sim.2.2.2.2.1 c_sim.2.2.2.2.2.1 c_sim.2.2.2.2.2.2.1 c_sim.2.2.2.2.2.2.2.1 r_37 hc) (gdV mcL mw_21_19 mw_21_20 mw_21_21 mw_1_5 mw_21_22) rfl ⟨rfl, rfl⟩ hyX8_endsBy ⟨Nat.le_of_ble_eq_true rfl, Nat.le_of_ble_eq_true rfl, Nat.le_of_ble_eq_true rfl, Nat.le_of_ble_eq_true rfl⟩ [0, 6, 7, 8, 9] (by decide) rfl [some 0, none, none, none, none, none, some 1, some 2, some 3, some 4, none, none, none, none, none, none] (by decide) rfl rfl 0 rfl rfl rfl rfl (Nat.le_of_ble_eq_true rfl) dX8_tellsTenant_93 rfl rfl ?_
      refine j_i2l K dX8_tellsTenant_96 rfl ?_
      refine j_ladd K dX8_tellsTenant_97 rfl ?_
      refine j_nmL h (fun l4_38 h => ?_)
      refine j_lstore (lv' := [(4, .long l4_38), (0, .ref (a0 0)), (3, .int i3), (6, .int i6)]) K (by decide) rfl dX8_tellsTenant_98 rfl ?_
      refine j_iincN (lf := fun z => [(6, .int z), (4, .long l4_38), (0, .ref (a0 0)), (3, .int i3)]) K (v := i6 + (1 : Int32)) (k := 3) rfl rfl (by decide) (fun _ => rfl) dX8_tellsTenant_100 rfl h (fun i6_39 h => ?_)
      refine j_goto (pc' := 77) K dX8_tellsTenant_103 (by decide) ?_
      refine j_sub [2, 3, 1, 0] (lv' := [(0, .ref (a0 0)), (3, .int i3), (4, .long l4_38), (6, .int i6_39)]) rfl ?_
      exact ih c_gone c_sim c_tenant c_rows l4_38 i6_39 h
set_option maxRecDepth 100000 in
set_option maxHeartbeats 4000000 in
theorem wX8_tellsTenant_10 (K : jK p s m args meth c A D vwCl (tyz cyI cyJ cyS) cX8_tellsTenant 7 RX8 wdX8_tellsTenant (some .long)) (a0 : Nat → Nat) (c_latest : Int32) (c_typed : Int32) (c_drawn : Int32) (l1 : Int64) (i3 : Int32) (c_tenants : Int32) (c_room : Int32) (c_events : Int32) (c_sights : Int32) (c_event : Nat → Int32) (c_sight : Nat → Int32) (o_r : Int64) (o_gone : Int32) (o_sim : jT11) (o_tenant : Nat → Int32) (o_rows : Nat → Int64)   : ∀ (n : Nat) (c_gone : Int32) (c_sim : jT11) (c_tenant : Nat → Int32) (c_rows : Nat → Int64) (l4 : Int64) (i6 : Int32), fX8_tellsTenant_10 l1 i3 c_tenants c_room c_events c_sights c_event c_sight  n c_gone c_sim c_tenant c_rows l4 i6 = some (o_r, o_gone, o_sim, o_tenant, o_rows) → jw p l e rmX8_tellsTenant s m args below meth c (jQ below args s A D vwCl (tyz cyI cyJ cyS) 0 0 (some (.long o_r)) (uX8_tellsTenant cyI cyJ cyS a0 c_latest c_typed c_tenants c_room c_events o_gone o_sim.1 c_sights c_drawn o_tenant c_event o_sim.2.1 o_sim.2.2.1 o_sim.2.2.2.1 o_sim.2.2.2.2.1 o_sim.2.2.2.2.2.1 o_sim.2.2.2.2.2.2.1 o_sim.2.2.2.2.2.2.2.1 o_sim.2.2.2.2.2.2.2.2.1 o_sim.2.2.2.2.2.2.2.2.2.1 o_sim.2.2.2.2.2.2.2.2.2.2.1 o_sim.2.2.2.2.2.2.2.2.2.2.2 c_sight o_rows)) A D vwCl 7 0 0 10 [(0, .ref (a0 0)), (3, .int i3), (4, .long l4), (6, .int i6)] [] (uX8_tellsTenant cyI cyJ cyS a0 c_latest c_typed c_tenants c_room c_events c_gone c_sim.1 c_sights c_drawn c_tenant c_event c_sim.2.1 c_sim.2.2.1 c_sim.2.2.2.1 c_sim.2.2.2.2.1 c_sim.2.2.2.2.2.1 c_sim.2.2.2.2.2.2.1 c_sim.2.2.2.2.2.2.2.1 c_sim.2.2.2.2.2.2.2.2.1 c_sim.2.2.2.2.2.2.2.2.2.1 c_sim.2.2.2.2.2.2.2.2.2.2.1 c_sim.2.2.2.2.2.2.2.2.2.2.2 c_sight c_rows) := by
  intro n
  induction n with
  | zero => intro c_gone c_sim c_tenant c_rows l4 i6 h; cases h
  | succ n ih =>
    intro c_gone c_sim c_tenant c_rows l4 i6 h
    have h : bX8_tellsTenant_10 l1 i3 c_tenants c_room c_events c_sights c_event c_sight  (fX8_tellsTenant_10 l1 i3 c_tenants c_room c_events c_sights c_event c_sight  n) c_gone c_sim c_tenant c_rows l4 i6 = some (o_r, o_gone, o_sim, o_tenant, o_rows) := h
    unfold bX8_tellsTenant_10 at h
    refine j_iload K 3 rfl dX8_tellsTenant_10 rfl ?_
    refine j_iconst (v := (3 : Int32)) K (by decide) dX8_tellsTenant_12 rfl ?_
    refine j_icmp_ge (tgt := 43) K dX8_tellsTenant_13 (by decide) rfl h (fun h => ?_) (fun h => ?_)
    · refine j_aload_n K 0 rfl dX8_tellsTenant_43 rfl ?_
      refine j_aload_n K 0 rfl dX8_tellsTenant_44 rfl ?_
      refine j_aload_n K 0 rfl dX8_tellsTenant_45 rfl ?_
      refine j_aload_n K 0 rfl dX8_tellsTenant_46 rfl ?_
      refine j_lload K 2 rfl dX8_tellsTenant_47 rfl ?_
      refine j_iconst (v := (0 : Int32)) K (by decide) dX8_tellsTenant_49 rfl ?_
      refine j_iload_n K 1 rfl dX8_tellsTenant_50 rfl ?_
      obtain ⟨r_2, hc, h⟩ := bd1_some h
      refine j_callV (rest := [.ref (a0 0), .ref (a0 0), .ref (a0 0)]) (st1 := [.long r_2, .ref (a0 0), .ref (a0 0), .ref (a0 0)]) (ws' := (uX8_tellsTenant cyI cyJ cyS a0 c_latest c_typed c_tenants c_room c_events c_gone c_sim.1 c_sights c_drawn c_tenant c_event c_sim.2.1 c_sim.2.2.1 c_sim.2.2.2.1 c_sim.2.2.2.2.1 c_sim.2.2.2.2.2.1 c_sim.2.2.2.2.2.2.1 c_sim.2.2.2.2.2.2.2.1 c_sim.2.2.2.2.2.2.2.2.1 c_sim.2.2.2.2.2.2.2.2.2.1 c_sim.2.2.2.2.2.2.2.2.2.2.1 c_sim.2.2.2.2.2.2.2.2.2.2.2 c_sight c_rows)) (T := TX8) (N := 29) (ci := 8) K (ctX8_tellsMonth l D cyI cyJ cyS a0 l4 (0 : Int32) i3 c_latest c_typed c_tenants c_room c_events c_gone c_sim.1 c_sights c_drawn c_sim.2.2.2.2.2.2.2.2.2.1 c_sim.2.2.2.2.2.2.2.2.2.2.1 c_sim.2.2.2.2.2.2.2.2.2.2.2 r_2 hc) (gdV mcL mw_42_10 mw_42_11 mw_42_12 mw_1_5 mw_42_13) rfl ⟨rfl, rfl⟩ hyX8_tellsMonth ⟨Nat.le_of_ble_eq_true rfl, Nat.le_of_ble_eq_true rfl, Nat.le_of_ble_eq_true rfl, Nat.le_of_ble_eq_true rfl⟩ [0, 11, 12, 13] (by decide) rfl [some 0, none, none, none, none, none, none, none, none, none, none, some 1, some 2, some 3, none, none] (by decide) rfl rfl 0 rfl rfl rfl rfl (Nat.le_of_ble_eq_true rfl) dX8_tellsTenant_51 rfl rfl ?_
      refine j_bipush (v := (6 : Int32)) K (by decide) dX8_tellsTenant_54 rfl ?_
      refine j_iload_n K 1 rfl dX8_tellsTenant_56 rfl ?_
      obtain ⟨r_3, hc, h⟩ := bd1_some h
      refine j_callV (rest := [.ref (a0 0), .ref (a0 0)]) (st1 := [.long r_3, .ref (a0 0), .ref (a0 0)]) (ws' := (uX8_tellsTenant cyI cyJ cyS a0 c_latest c_typed c_tenants c_room c_events c_gone c_sim.1 c_sights c_drawn c_tenant c_event c_sim.2.1 c_sim.2.2.1 c_sim.2.2.2.1 c_sim.2.2.2.2.1 c_sim.2.2.2.2.2.1 c_sim.2.2.2.2.2.2.1 c_sim.2.2.2.2.2.2.2.1 c_sim.2.2.2.2.2.2.2.2.1 c_sim.2.2.2.2.2.2.2.2.2.1 c_sim.2.2.2.2.2.2.2.2.2.2.1 c_sim.2.2.2.2.2.2.2.2.2.2.2 c_sight c_rows)) (T := TX8) (N := 29) (ci := 8) K (ctX8_tellsMonth l D cyI cyJ cyS a0 r_2 (6 : Int32) i3 c_latest c_typed c_tenants c_room c_events c_gone c_sim.1 c_sights c_drawn c_sim.2.2.2.2.2.2.2.2.2.1 c_sim.2.2.2.2.2.2.2.2.2.2.1 c_sim.2.2.2.2.2.2.2.2.2.2.2 r_3 hc) (gdV mcL mw_42_10 mw_42_11 mw_42_12 mw_1_5 mw_42_13) rfl ⟨rfl, rfl⟩ hyX8_tellsMonth ⟨Nat.le_of_ble_eq_true rfl, Nat.le_of_ble_eq_true rfl, Nat.le_of_ble_eq_true rfl, Nat.le_of_ble_eq_true rfl⟩ [0, 11, 12, 13] (by decide) rfl [some 0, none, none, none, none, none, none, none, none, none, none, some 1, some 2, some 3, none, none] (by decide) rfl rfl 0 rfl rfl rfl rfl (Nat.le_of_ble_eq_true rfl) dX8_tellsTenant_57 rfl rfl ?_
      refine j_bipush (v := (13 : Int32)) K (by decide) dX8_tellsTenant_60 rfl ?_
      refine j_iload_n K 1 rfl dX8_tellsTenant_62 rfl ?_
      obtain ⟨r_4, hc, h⟩ := bd1_some h
      refine j_callV (rest := [.ref (a0 0)]) (st1 := [.long r_4, .ref (a0 0)]) (ws' := (uX8_tellsTenant cyI cyJ cyS a0 c_latest c_typed c_tenants c_room c_events c_gone c_sim.1 c_sights c_drawn c_tenant c_event c_sim.2.1 c_sim.2.2.1 c_sim.2.2.2.1 c_sim.2.2.2.2.1 c_sim.2.2.2.2.2.1 c_sim.2.2.2.2.2.2.1 c_sim.2.2.2.2.2.2.2.1 c_sim.2.2.2.2.2.2.2.2.1 c_sim.2.2.2.2.2.2.2.2.2.1 c_sim.2.2.2.2.2.2.2.2.2.2.1 c_sim.2.2.2.2.2.2.2.2.2.2.2 c_sight c_rows)) (T := TX8) (N := 29) (ci := 8) K (ctX8_tellsMonth l D cyI cyJ cyS a0 r_3 (13 : Int32) i3 c_latest c_typed c_tenants c_room c_events c_gone c_sim.1 c_sights c_drawn c_sim.2.2.2.2.2.2.2.2.2.1 c_sim.2.2.2.2.2.2.2.2.2.2.1 c_sim.2.2.2.2.2.2.2.2.2.2.2 r_4 hc) (gdV mcL mw_42_10 mw_42_11 mw_42_12 mw_1_5 mw_42_13) rfl ⟨rfl, rfl⟩ hyX8_tellsMonth ⟨Nat.le_of_ble_eq_true rfl, Nat.le_of_ble_eq_true rfl, Nat.le_of_ble_eq_true rfl, Nat.le_of_ble_eq_true rfl⟩ [0, 11, 12, 13] (by decide) rfl [some 0, none, none, none, none, none, none, none, none, none, none, some 1, some 2, some 3, none, none] (by decide) rfl rfl 0 rfl rfl rfl rfl (Nat.le_of_ble_eq_true rfl) dX8_tellsTenant_63 rfl rfl ?_
      refine j_bipush (v := (23 : Int32)) K (by decide) dX8_tellsTenant_66 rfl ?_
      refine j_iload_n K 1 rfl dX8_tellsTenant_68 rfl ?_
      obtain ⟨r_5, hc, h⟩ := bd1_some h
      refine j_callV (rest := []) (st1 := [.long r_5]) (ws' := (uX8_tellsTenant cyI cyJ cyS a0 c_latest c_typed c_tenants c_room c_events c_gone c_sim.1 c_sights c_drawn c_tenant c_event c_sim.2.1 c_sim.2.2.1 c_sim.2.2.2.1 c_sim.2.2.2.2.1 c_sim.2.2.2.2.2.1 c_sim.2.2.2.2.2.2.1 c_sim.2.2.2.2.2.2.2.1 c_sim.2.2.2.2.2.2.2.2.1 c_sim.2.2.2.2.2.2.2.2.2.1 c_sim.2.2.2.2.2.2.2.2.2.2.1 c_sim.2.2.2.2.2.2.2.2.2.2.2 c_sight c_rows)) (T := TX8) (N := 29) (ci := 8) K (ctX8_tellsMonth l D cyI cyJ cyS a0 r_4 (23 : Int32) i3 c_latest c_typed c_tenants c_room c_events c_gone c_sim.1 c_sights c_drawn c_sim.2.2.2.2.2.2.2.2.2.1 c_sim.2.2.2.2.2.2.2.2.2.2.1 c_sim.2.2.2.2.2.2.2.2.2.2.2 r_5 hc) (gdV mcL mw_42_10 mw_42_11 mw_42_12 mw_1_5 mw_42_13) rfl ⟨rfl, rfl⟩ hyX8_tellsMonth ⟨Nat.le_of_ble_eq_true rfl, Nat.le_of_ble_eq_true rfl, Nat.le_of_ble_eq_true rfl, Nat.le_of_ble_eq_true rfl⟩ [0, 11, 12, 13] (by decide) rfl [some 0, none, none, none, none, none, none, none, none, none, none, some 1, some 2, some 3, none, none] (by decide) rfl rfl 0 rfl rfl rfl rfl (Nat.le_of_ble_eq_true rfl) dX8_tellsTenant_69 rfl rfl ?_
      refine j_lstore (lv' := [(4, .long r_5), (0, .ref (a0 0)), (3, .int i3), (6, .int i6)]) K (by decide) rfl dX8_tellsTenant_72 rfl ?_
      refine j_iconst (v := (0 : Int32)) K (by decide) dX8_tellsTenant_74 rfl ?_
      refine j_istore (lv' := [(6, .int (0 : Int32)), (4, .long r_5), (0, .ref (a0 0)), (3, .int i3)]) K (by decide) rfl dX8_tellsTenant_75 rfl ?_
      refine j_sub [2, 3, 1, 0] (lv' := [(0, .ref (a0 0)), (3, .int i3), (4, .long r_5), (6, .int (0 : Int32))]) rfl ?_
      exact wX8_tellsTenant_77 K a0 c_latest c_typed c_drawn l1 i3 c_tenants c_room c_events c_sights c_event c_sight o_r o_gone o_sim o_tenant o_rows jF c_gone c_sim c_tenant c_rows r_5 (0 : Int32) h
    · refine j_ldc2 (v := (31 : Int64)) K (List.mem_cons_of_mem _ mw_42_4) dX8_tellsTenant_16 rfl ?_
      refine j_lload K 2 rfl dX8_tellsTenant_19 rfl ?_
      refine j_lmul K dX8_tellsTenant_21 rfl ?_
      refine j_aload_n K 0 rfl dX8_tellsTenant_22 rfl ?_
      refine j_getf (C := RX8) (T := TX8) (N := 29) (ci := 8) K icX8 0 8 (List.mem_cons_of_mem _ mw_5_13) rfl rfl rfl (by decide) rfl dX8_tellsTenant_23 rfl ?_
      refine j_iconst (v := (3 : Int32)) K (by decide) dX8_tellsTenant_26 rfl ?_
      refine j_iload_n K 1 rfl dX8_tellsTenant_27 rfl ?_
      refine j_imul K dX8_tellsTenant_28 rfl ?_
      refine j_iload K 3 rfl dX8_tellsTenant_29 rfl ?_
      refine j_iadd K dX8_tellsTenant_31 rfl ?_
      refine j_iald K 1 0 rfl rfl dX8_tellsTenant_32 rfl h (fun v_40 h => ?_)
      refine j_i2l K dX8_tellsTenant_33 rfl ?_
      refine j_ladd K dX8_tellsTenant_34 rfl ?_
      refine j_nmL h (fun l4_41 h => ?_)
      refine j_lstore (lv' := [(4, .long l4_41), (0, .ref (a0 0)), (3, .int i3), (6, .int i6)]) K (by decide) rfl dX8_tellsTenant_35 rfl ?_
      refine j_iincN (lf := fun z => [(6, .int z), (4, .long l4_41), (0, .ref (a0 0)), (3, .int i3)]) K (v := i6 + (1 : Int32)) (k := 3) rfl rfl (by decide) (fun _ => rfl) dX8_tellsTenant_37 rfl h (fun i6_42 h => ?_)
      refine j_goto (pc' := 10) K dX8_tellsTenant_40 (by decide) ?_
      refine j_sub [2, 3, 1, 0] (lv' := [(0, .ref (a0 0)), (3, .int i3), (4, .long l4_41), (6, .int i6_42)]) rfl ?_
      exact ih c_gone c_sim c_tenant c_rows l4_41 i6_42 h
set_option maxRecDepth 100000 in
set_option maxHeartbeats 4000000 in
theorem ctX8_tellsTenant (l : Launch) (D : va_G) (cyI cyJ cyS : ClassId) (a0 : Nat → Nat) (l1 : Int64) (i3 : Int32) (c_latest : Int32) (c_typed : Int32) (c_drawn : Int32) (c_tenants : Int32) (c_room : Int32) (c_events : Int32) (c_sights : Int32) (c_event : Nat → Int32) (c_sight : Nat → Int32) (c_gone : Int32) (c_sim : jT11) (c_tenant : Nat → Int32) (c_rows : Nat → Int64) (o_r : Int64) (o_gone : Int32) (o_sim : jT11) (o_tenant : Nat → Int32) (o_rows : Nat → Int64) (h : fX8_tellsTenant l1 i3 c_tenants c_room c_events c_sights c_event c_sight c_gone c_sim c_tenant c_rows = some (o_r, o_gone, o_sim, o_tenant, o_rows)) : jC l yX8_tellsTenant wdX8_tellsTenant rmX8_tellsTenant D vwCl (tyz cyI cyJ cyS) [.ref (a0 0), .long l1, .int i3] (uX8_tellsTenant cyI cyJ cyS a0 c_latest c_typed c_tenants c_room c_events c_gone c_sim.1 c_sights c_drawn c_tenant c_event c_sim.2.1 c_sim.2.2.1 c_sim.2.2.2.1 c_sim.2.2.2.2.1 c_sim.2.2.2.2.2.1 c_sim.2.2.2.2.2.2.1 c_sim.2.2.2.2.2.2.2.1 c_sim.2.2.2.2.2.2.2.2.1 c_sim.2.2.2.2.2.2.2.2.2.1 c_sim.2.2.2.2.2.2.2.2.2.2.1 c_sim.2.2.2.2.2.2.2.2.2.2.2 c_sight c_rows) (some (.long o_r)) (uX8_tellsTenant cyI cyJ cyS a0 c_latest c_typed c_tenants c_room c_events o_gone o_sim.1 c_sights c_drawn o_tenant c_event o_sim.2.1 o_sim.2.2.1 o_sim.2.2.2.1 o_sim.2.2.2.2.1 o_sim.2.2.2.2.2.1 o_sim.2.2.2.2.2.2.1 o_sim.2.2.2.2.2.2.2.1 o_sim.2.2.2.2.2.2.2.2.1 o_sim.2.2.2.2.2.2.2.2.2.1 o_sim.2.2.2.2.2.2.2.2.2.2.1 o_sim.2.2.2.2.2.2.2.2.2.2.2 c_sight o_rows) := by
  refine jC_of (cc := cX8_tellsTenant) (nL := 7) (ret := (some .long)) (own := RX8) (lv := [(0, .ref (a0 0)), (1, .long l1), (3, .int i3)]) (by decide) rfl rfl (Nat.le_of_ble_eq_true rfl) rfl ?_
  intro p e s m args below meth c A K
  unfold fX8_tellsTenant at h
  refine j_aload_n K 0 rfl dX8_tellsTenant_0 rfl ?_
  obtain ⟨c_sim_1, hc, h⟩ := bd1_some h
  refine j_callV (rest := []) (st1 := []) (ws' := (uX8_tellsTenant cyI cyJ cyS a0 c_latest c_typed c_tenants c_room c_events c_gone c_sim_1.1 c_sights c_drawn c_tenant c_event c_sim_1.2.1 c_sim_1.2.2.1 c_sim_1.2.2.2.1 c_sim_1.2.2.2.2.1 c_sim_1.2.2.2.2.2.1 c_sim_1.2.2.2.2.2.2.1 c_sim_1.2.2.2.2.2.2.2.1 c_sim_1.2.2.2.2.2.2.2.2.1 c_sim_1.2.2.2.2.2.2.2.2.2.1 c_sim_1.2.2.2.2.2.2.2.2.2.2.1 c_sim_1.2.2.2.2.2.2.2.2.2.2.2 c_sight c_rows)) (T := TX8) (N := 29) (ci := 8) K (ctX8_lives l D cyI cyJ cyS a0 c_latest c_typed c_sights c_drawn c_tenants c_room c_events c_gone c_tenant c_event c_sim c_sim_1 hc) (gdV mcL mw_17_16 mw_17_17 mw_17_18 mw_1_5 mw_17_19) rfl ⟨rfl, rfl⟩ hyX8_lives ⟨Nat.le_of_ble_eq_true rfl, Nat.le_of_ble_eq_true rfl, Nat.le_of_ble_eq_true rfl, Nat.le_of_ble_eq_true rfl⟩ [0, 1, 2, 3, 4, 5, 6, 7, 8, 9, 10, 11, 12, 13] (by decide) rfl [some 0, some 1, some 2, some 3, some 4, some 5, some 6, some 7, some 8, some 9, some 10, some 11, some 12, some 13, none, none] (by decide) rfl rfl 0 rfl rfl rfl rfl (Nat.le_of_ble_eq_true rfl) dX8_tellsTenant_1 rfl rfl ?_
  refine j_lload_n K 1 rfl dX8_tellsTenant_4 rfl ?_
  refine j_lstore (lv' := [(4, .long l1), (0, .ref (a0 0)), (1, .long l1), (3, .int i3)]) K (by decide) rfl dX8_tellsTenant_5 rfl ?_
  refine j_iconst (v := (0 : Int32)) K (by decide) dX8_tellsTenant_7 rfl ?_
  refine j_istore (lv' := [(6, .int (0 : Int32)), (4, .long l1), (0, .ref (a0 0)), (1, .long l1), (3, .int i3)]) K (by decide) rfl dX8_tellsTenant_8 rfl ?_
  refine j_sub [2, 4, 1, 0] (lv' := [(0, .ref (a0 0)), (3, .int i3), (4, .long l1), (6, .int (0 : Int32))]) rfl ?_
  exact wX8_tellsTenant_10 K a0 c_latest c_typed c_drawn l1 i3 c_tenants c_room c_events c_sights c_event c_sight o_r o_gone o_sim o_tenant o_rows jF c_gone c_sim_1 c_tenant c_rows l1 (0 : Int32) h
end GEN
