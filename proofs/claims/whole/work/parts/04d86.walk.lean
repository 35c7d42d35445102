section GEN
variable {p : Program} {l : Launch} {e : Env} {s : State} {m : MethodId} {args : Array Value} {below : List Frame} {meth : Method} {c : Code} {A : Nat → Prop} {D : va_G} {cyI cyJ cyS : ClassId}
abbrev uX8_digest (cyI cyJ cyS : ClassId) (a0 : Nat → Nat) (c_latest : Int32) (c_typed : Int32) (c_tenants : Int32) (c_room : Int32) (c_events : Int32) (c_gone : Int32) (c_audit : Int32) (c_sights : Int32) (c_drawn : Int32) (c_bytes : Nat → Int32) (c_tenant : Nat → Int32) (c_event : Nat → Int32) (c_floor : Nat → Int32) (c_before : Nat → Int32) (c_left : Nat → Int32) (c_settled : Nat → Int32) (c_fell : Nat → Int32) (c_past : Nat → Int32) (c_highest : Nat → Int32) (c_many : Nat → Int32) (c_floorBy : Nat → Int32) (c_leftBy : Nat → Int32) (c_fellBy : Nat → Int32) (c_sight : Nat → Int32) (c_rows : Nat → Int64) : va_W := [((a0 0), .inr (8, [.ref (a0 1), .ref (a0 2), .ref (a0 3), .ref (a0 4), .int c_latest, .ref (a0 5), .int c_typed, .int c_tenants, .ref (a0 6), .int c_room, .int c_events, .ref (a0 7), .int c_gone, .ref (a0 8), .ref (a0 9), .ref (a0 10), .ref (a0 11), .ref (a0 12), .ref (a0 13), .ref (a0 14), .ref (a0 15), .ref (a0 16), .ref (a0 17), .ref (a0 18), .int c_audit, .int c_sights, .ref (a0 19), .ref (a0 20), .int c_drawn])), ((a0 5), .inl (cyI, 31, .inl c_bytes)), ((a0 6), .inl (cyI, 24, .inl c_tenant)), ((a0 7), .inl (cyI, 24, .inl c_event)), ((a0 8), .inl (cyI, 8, .inl c_floor)), ((a0 9), .inl (cyI, 8, .inl c_before)), ((a0 10), .inl (cyI, 8, .inl c_left)), ((a0 11), .inl (cyI, 8, .inl c_settled)), ((a0 12), .inl (cyI, 8, .inl c_fell)), ((a0 13), .inl (cyI, 8, .inl c_past)), ((a0 14), .inl (cyI, 8, .inl c_highest)), ((a0 15), .inl (cyI, 13, .inl c_many)), ((a0 16), .inl (cyI, 192, .inl c_floorBy)), ((a0 17), .inl (cyI, 192, .inl c_leftBy)), ((a0 18), .inl (cyI, 192, .inl c_fellBy)), ((a0 19), .inl (cyI, 24, .inl c_sight)), ((a0 20), .inl (cyJ, 240, .inr (.inl c_rows)))]
abbrev rmX8_digest : Room := { frames := 9, cells := 0, slots := 0, locals := 213 }
abbrev wdX8_digest : List Cond := .code yX8_digest cX8_digest 4 (some .long) :: wsL_law
theorem hyX8_digest : yX8_digest.cls = RX8 ∧ yX8_digest.cls ≠ "java/lang/invoke/MethodHandle" ∧ yX8_digest.cls ≠ "java/lang/invoke/VarHandle" ∧ (parseMethodDescriptor yX8_digest.desc).map (fun d => d.parameters.length) = some 0 := by decide +kernel
set_option maxRecDepth 100000 in
set_option maxHeartbeats 4000000 in
theorem wX8_digest_211 (K : jK p s m args meth c A D vwCl (tyz cyI cyJ cyS) cX8_digest 4 RX8 wdX8_digest (some .long)) (a0 : Nat → Nat)  (c_latest : Int32) (c_typed : Int32) (c_events : Int32) (c_sights : Int32) (c_bytes : Nat → Int32) (c_event : Nat → Int32) (c_sight : Nat → Int32) (o_r : Int64) (o_tenants : Int32) (o_room : Int32) (o_gone : Int32) (o_sim : jT11) (o_drawn : Int32) (o_tenant : Nat → Int32) (o_rows : Nat → Int64)   : ∀ (n : Nat) (c_tenants : Int32) (c_room : Int32) (c_gone : Int32) (c_sim : jT11) (c_drawn : Int32) (c_tenant : Nat → Int32) (c_rows : Nat → Int64) (l1 : Int64) (i3 : Int32), fX8_digest_211 c_latest c_typed c_events c_sights c_bytes c_event c_sight  n c_tenants c_room c_gone c_sim c_drawn c_tenant c_rows l1 i3 = some (o_r, o_tenants, o_room, o_gone, o_sim, o_drawn, o_tenant, o_rows) → jw p l e rmX8_digest s m args below meth c (jQ below args s A D vwCl (tyz cyI cyJ cyS) 0 0 (some (.long o_r)) (uX8_digest cyI cyJ cyS a0 c_latest c_typed o_tenants o_room c_events o_gone o_sim.1 c_sights o_drawn c_bytes o_tenant c_event o_sim.2.1 o_sim.2.2.1 o_sim.2.2.2.1 o_sim.2.2.2.2.1 o_sim.2.2.2.2.2.1 o_sim.2.2.2.2.2.2.1 o_sim.2.2.2.2.2.2.2.1 o_sim.2.2.2.2.2.2.2.2.1 o_sim.2.2.2.2.2.2.2.2.2.1 o_sim.2.2.2.2.2.2.2.2.2.2.1 o_sim.2.2.2.2.2.2.2.2.2.2.2 c_sight o_rows)) A D vwCl 4 0 0 211 [(0, .ref (a0 0)), (1, .long l1), (3, .int i3)] [] (uX8_digest cyI cyJ cyS a0 c_latest c_typed c_tenants c_room c_events c_gone c_sim.1 c_sights c_drawn c_bytes c_tenant c_event c_sim.2.1 c_sim.2.2.1 c_sim.2.2.2.1 c_sim.2.2.2.2.1 c_sim.2.2.2.2.2.1 c_sim.2.2.2.2.2.2.1 c_sim.2.2.2.2.2.2.2.1 c_sim.2.2.2.2.2.2.2.2.1 c_sim.2.2.2.2.2.2.2.2.2.1 c_sim.2.2.2.2.2.2.2.2.2.2.1 c_sim.2.2.2.2.2.2.2.2.2.2.2 c_sight c_rows) := by
  intro n
  induction n with
  | zero => intro c_tenants c_room c_gone c_sim c_drawn c_tenant c_rows l1 i3 h; cases h
  | succ n ih =>
    intro c_tenants c_room c_gone c_sim c_drawn c_tenant c_rows l1 i3 h
    have h : bX8_digest_211 c_latest c_typed c_events c_sights c_bytes c_event c_sight  (fX8_digest_211 c_latest c_typed c_events c_sights c_bytes c_event c_sight  n) c_tenants c_room c_gone c_sim c_drawn c_tenant c_rows l1 i3 = some (o_r, o_tenants, o_room, o_gone, o_sim, o_drawn, o_tenant, o_rows) := h
    unfold bX8_digest_211 at h
    refine j_iload_n K 2 rfl dX8_digest_211 rfl ?_
    refine j_iconst (v := (3 : Int32)) K (by decide) dX8_digest_212 rfl ?_
    refine j_icmp_ge (tgt := 235) K dX8_digest_213 (by decide) rfl h (fun h => ?_) (fun h => ?_)
    · refine j_ldc2 (v := (31 : Int64)) K (List.mem_cons_of_mem _ mw_42_4) dX8_digest_235 rfl ?_
      refine j_lload_n K 1 rfl dX8_digest_238 rfl ?_
      refine j_lmul K dX8_digest_239 rfl ?_
      refine j_aload_n K 0 rfl dX8_digest_240 rfl ?_
      refine j_iconst (v := (-1 : Int32)) K (by decide) dX8_digest_241 rfl ?_
      obtain ⟨r_11, c_gone_12, c_sim_13, hc, h⟩ := bd3_some h
      refine j_callV (rest := [.long ((31 : Int64) * l1)]) (st1 := [.int r_11, .long ((31 : Int64) * l1)]) (ws' := (uX8_digest cyI cyJ cyS a0 c_latest c_typed c_tenants c_room c_events c_gone_12 c_sim_13.1 c_sights c_drawn c_bytes c_tenant c_event c_sim_13.2.1 c_sim_13.2.2.1 c_sim_13.2.2.2.1 c_sim_13.2.2.2.2.1 c_sim_13.2.2.2.2.2.1 c_sim_13.2.2.2.2.2.2.1 c_sim_13.2.2.2.2.2.2.2.1 c_sim_13.2.2.2.2.2.2.2.2.1 c_sim_13.2.2.2.2.2.2.2.2.2.1 c_sim_13.2.2.2.2.2.2.2.2.2.2.1 c_sim_13.2.2.2.2.2.2.2.2.2.2.2 c_sight c_rows)) (T := TX8) (N := 29) (ci := 8) K (ctX8_spareBy l D cyI cyJ cyS a0 (-1 : Int32) c_latest c_typed c_sights c_drawn c_tenants c_room c_events c_tenant c_event c_gone c_sim r_11 c_gone_12 c_sim_13 hc) (gdV mcL mw_29_9 mw_29_10 mw_29_11 mw_1_5 mw_29_12) rfl ⟨rfl, rfl⟩ hyX8_spareBy ⟨Nat.le_of_ble_eq_true rfl, Nat.le_of_ble_eq_true rfl, Nat.le_of_ble_eq_true rfl, Nat.le_of_ble_eq_true rfl⟩ [0, 2, 3, 4, 5, 6, 7, 8, 9, 10, 11, 12, 13, 14] (by decide) rfl [some 0, none, some 1, some 2, some 3, some 4, some 5, some 6, some 7, some 8, some 9, some 10, some 11, some 12, some 13, none, none] (by decide) rfl rfl 0 rfl rfl rfl rfl (Nat.le_of_ble_eq_true rfl) dX8_digest_242 rfl rfl ?_
      refine j_i2l K dX8_digest_245 rfl ?_
      refine j_ladd K dX8_digest_246 rfl ?_
      refine j_nmL h (fun l1_14 h => ?_)
      refine j_lstore_n (lv' := [(1, .long l1_14), (0, .ref (a0 0)), (3, .int i3)]) K (by decide) rfl dX8_digest_247 rfl ?_
      refine j_ldc2 (v := (31 : Int64)) K (List.mem_cons_of_mem _ mw_42_4) dX8_digest_248 rfl ?_
      refine j_lload_n K 0 rfl dX8_digest_251 rfl ?_
      refine j_lmul K dX8_digest_252 rfl ?_
      refine j_aload_n K 1 rfl dX8_digest_253 rfl ?_
      refine j_iconst (v := (0 : Int32)) K (by decide) dX8_digest_254 rfl ?_
      obtain ⟨r_15, c_gone_16, c_sim_17, hc, h⟩ := bd3_some h
      refine j_callV (rest := [.long ((31 : Int64) * l1_14)]) (st1 := [.int r_15, .long ((31 : Int64) * l1_14)]) (ws' := (uX8_digest cyI cyJ cyS a0 c_latest c_typed c_tenants c_room c_events c_gone_16 c_sim_17.1 c_sights c_drawn c_bytes c_tenant c_event c_sim_17.2.1 c_sim_17.2.2.1 c_sim_17.2.2.2.1 c_sim_17.2.2.2.2.1 c_sim_17.2.2.2.2.2.1 c_sim_17.2.2.2.2.2.2.1 c_sim_17.2.2.2.2.2.2.2.1 c_sim_17.2.2.2.2.2.2.2.2.1 c_sim_17.2.2.2.2.2.2.2.2.2.1 c_sim_17.2.2.2.2.2.2.2.2.2.2.1 c_sim_17.2.2.2.2.2.2.2.2.2.2.2 c_sight c_rows)) (T := TX8) (N := 29) (ci := 8) K (ctX8_spareBy l D cyI cyJ cyS a0 (0 : Int32) c_latest c_typed c_sights c_drawn c_tenants c_room c_events c_tenant c_event c_gone_12 c_sim_13 r_15 c_gone_16 c_sim_17 hc) (gdV mcL mw_29_9 mw_29_10 mw_29_11 mw_1_5 mw_29_12) rfl ⟨rfl, rfl⟩ hyX8_spareBy ⟨Nat.le_of_ble_eq_true rfl, Nat.le_of_ble_eq_true rfl, Nat.le_of_ble_eq_true rfl, Nat.le_of_ble_eq_true rfl⟩ [0, 2, 3, 4, 5, 6, 7, 8, 9, 10, 11, 12, 13, 14] (by decide) rfl [some 0, none, some 1, some 2, some 3, some 4, some 5, some 6, some 7, some 8, some 9, some 10, some 11, some 12, some 13, none, none] (by decide) rfl rfl 0 rfl rfl rfl rfl (Nat.le_of_ble_eq_true rfl) dX8_digest_255 rfl rfl ?_
      refine j_i2l K dX8_digest_258 rfl ?_
      refine j_ladd K dX8_digest_259 rfl ?_
      refine j_nmL h (fun l1_18 h => ?_)
      refine j_lstore_n (lv' := [(1, .long l1_18), (0, .ref (a0 0)), (3, .int i3)]) K (by decide) rfl dX8_digest_260 rfl ?_
      refine j_ldc2 (v := (31 : Int64)) K (List.mem_cons_of_mem _ mw_42_4) dX8_digest_261 rfl ?_
      refine j_lload_n K 0 rfl dX8_digest_264 rfl ?_
      refine j_lmul K dX8_digest_265 rfl ?_
      refine j_aload_n K 1 rfl dX8_digest_266 rfl ?_
      obtain ⟨r_19, c_gone_20, c_sim_21, hc, h⟩ := bd3_some h
      refine j_callV (rest := [.long ((31 : Int64) * l1_18)]) (st1 := [.int r_19, .long ((31 : Int64) * l1_18)]) (ws' := (uX8_digest cyI cyJ cyS a0 c_latest c_typed c_tenants c_room c_events c_gone_20 c_sim_21.1 c_sights c_drawn c_bytes c_tenant c_event c_sim_21.2.1 c_sim_21.2.2.1 c_sim_21.2.2.2.1 c_sim_21.2.2.2.2.1 c_sim_21.2.2.2.2.2.1 c_sim_21.2.2.2.2.2.2.1 c_sim_21.2.2.2.2.2.2.2.1 c_sim_21.2.2.2.2.2.2.2.2.1 c_sim_21.2.2.2.2.2.2.2.2.2.1 c_sim_21.2.2.2.2.2.2.2.2.2.2.1 c_sim_21.2.2.2.2.2.2.2.2.2.2.2 c_sight c_rows)) (T := TX8) (N := 29) (ci := 8) K (ctX8_neverNow l D cyI cyJ cyS a0 c_latest c_typed c_drawn c_tenants c_room c_events c_sights c_tenant c_event c_sight c_gone_16 c_sim_17 r_19 c_gone_20 c_sim_21 hc) (gdV mcL mw_31_5 mw_31_6 mw_31_7 mw_1_5 mw_31_8) rfl ⟨rfl, rfl⟩ hyX8_neverNow ⟨Nat.le_of_ble_eq_true rfl, Nat.le_of_ble_eq_true rfl, Nat.le_of_ble_eq_true rfl, Nat.le_of_ble_eq_true rfl⟩ [0, 2, 3, 4, 5, 6, 7, 8, 9, 10, 11, 12, 13, 14, 15] (by decide) rfl [some 0, none, some 1, some 2, some 3, some 4, some 5, some 6, some 7, some 8, some 9, some 10, some 11, some 12, some 13, some 14, none] (by decide) rfl rfl 0 rfl rfl rfl rfl (Nat.le_of_ble_eq_true rfl) dX8_digest_267 rfl rfl ?_
      refine j_i2l K dX8_digest_270 rfl ?_
      refine j_ladd K dX8_digest_271 rfl ?_
      refine j_nmL h (fun l1_22 h => ?_)
      refine j_lstore_n (lv' := [(1, .long l1_22), (0, .ref (a0 0)), (3, .int i3)]) K (by decide) rfl dX8_digest_272 rfl ?_
      refine j_ldc2 (v := (31 : Int64)) K (List.mem_cons_of_mem _ mw_42_4) dX8_digest_273 rfl ?_
      refine j_lload_n K 0 rfl dX8_digest_276 rfl ?_
      refine j_lmul K dX8_digest_277 rfl ?_
      refine j_aload_n K 1 rfl dX8_digest_278 rfl ?_
      refine j_bipush (v := (7 : Int32)) K (by decide) dX8_digest_279 rfl ?_
      refine j_bipush (v := (6 : Int32)) K (by decide) dX8_digest_281 rfl ?_
      refine j_iconst (v := (0 : Int32)) K (by decide) dX8_digest_283 rfl ?_
      obtain ⟨r_23, c_tenants_24, c_sim_25, c_drawn_26, c_tenant_27, hc, h⟩ := bd5_some h
      refine j_callV (rest := [.long ((31 : Int64) * l1_22)]) (st1 := [.int r_23, .long ((31 : Int64) * l1_22)]) (ws' := (uX8_digest cyI cyJ cyS a0 c_latest c_typed c_tenants_24 c_room c_events c_gone_20 c_sim_25.1 c_sights c_drawn_26 c_bytes c_tenant_27 c_event c_sim_25.2.1 c_sim_25.2.2.1 c_sim_25.2.2.2.1 c_sim_25.2.2.2.2.1 c_sim_25.2.2.2.2.2.1 c_sim_25.2.2.2.2.2.2.1 c_sim_25.2.2.2.2.2.2.2.1 c_sim_25.2.2.2.2.2.2.2.2.1 c_sim_25.2.2.2.2.2.2.2.2.2.1 c_sim_25.2.2.2.2.2.2.2.2.2.2.1 c_sim_25.2.2.2.2.2.2.2.2.2.2.2 c_sight c_rows)) (T := TX8) (N := 29) (ci := 8) K (ctX8_housesOf l D cyI cyJ cyS a0 (7 : Int32) (6 : Int32) (0 : Int32) c_latest c_sights c_typed c_room c_events c_gone_20 c_bytes c_event c_tenants c_sim_21 c_drawn c_tenant r_23 c_tenants_24 c_sim_25 c_drawn_26 c_tenant_27 hc) (gdV mcL mw_36_4 mw_36_5 mw_36_6 mw_1_5 mw_36_7) rfl ⟨rfl, rfl⟩ hyX8_housesOf ⟨Nat.le_of_ble_eq_true rfl, Nat.le_of_ble_eq_true rfl, Nat.le_of_ble_eq_true rfl, Nat.le_of_ble_eq_true rfl⟩ [0, 1, 2, 3, 4, 5, 6, 7, 8, 9, 10, 11, 12, 13, 14] (by decide) rfl [some 0, some 1, some 2, some 3, some 4, some 5, some 6, some 7, some 8, some 9, some 10, some 11, some 12, some 13, some 14, none, none] (by decide) rfl rfl 0 rfl rfl rfl rfl (Nat.le_of_ble_eq_true rfl) dX8_digest_284 rfl rfl ?_
      refine j_i2l K dX8_digest_287 rfl ?_
      refine j_ladd K dX8_digest_288 rfl ?_
      refine j_nmL h (fun l1_28 h => ?_)
      refine j_lstore_n (lv' := [(1, .long l1_28), (0, .ref (a0 0)), (3, .int i3)]) K (by decide) rfl dX8_digest_289 rfl ?_
      refine j_ldc2 (v := (31 : Int64)) K (List.mem_cons_of_mem _ mw_42_4) dX8_digest_290 rfl ?_
      refine j_lload_n K 0 rfl dX8_digest_293 rfl ?_
      refine j_lmul K dX8_digest_294 rfl ?_
      refine j_aload_n K 1 rfl dX8_digest_295 rfl ?_
      refine j_bipush (v := (7 : Int32)) K (by decide) dX8_digest_296 rfl ?_
      refine j_bipush (v := (6 : Int32)) K (by decide) dX8_digest_298 rfl ?_
      refine j_iconst (v := (1 : Int32)) K (by decide) dX8_digest_300 rfl ?_
      obtain ⟨r_29, c_tenants_30, c_sim_31, c_drawn_32, c_tenant_33, hc, h⟩ := bd5_some h
      refine j_callV (rest := [.long ((31 : Int64) * l1_28)]) (st1 := [.int r_29, .long ((31 : Int64) * l1_28)]) (ws' := (uX8_digest cyI cyJ cyS a0 c_latest c_typed c_tenants_30 c_room c_events c_gone_20 c_sim_31.1 c_sights c_drawn_32 c_bytes c_tenant_33 c_event c_sim_31.2.1 c_sim_31.2.2.1 c_sim_31.2.2.2.1 c_sim_31.2.2.2.2.1 c_sim_31.2.2.2.2.2.1 c_sim_31.2.2.2.2.2.2.1 c_sim_31.2.2.2.2.2.2.2.1 c_sim_31.2.2.2.2.2.2.2.2.1 c_sim_31.2.2.2.2.2.2.2.2.2.1 c_sim_31.2.2.2.2.2.2.2.2.2.2.1 c_sim_31.2.2.2.2.2.2.2.2.2.2.2 c_sight c_rows)) (T := TX8) (N := 29) (ci := 8) K (ctX8_housesOf l D cyI cyJ cyS a0 (7 : Int32) (6 : Int32) (1 : Int32) c_latest c_sights c_typed c_room c_events c_gone_20 c_bytes c_event c_tenants_24 c_sim_25 c_drawn_26 c_tenant_27 r_29 c_tenants_30 c_sim_31 c_drawn_32 c_tenant_33 hc) (gdV mcL mw_36_4 mw_36_5 mw_36_6 mw_1_5 mw_36_7) rfl ⟨rfl, rfl⟩ hyX8_housesOf ⟨Nat.le_of_ble_eq_true rfl, Nat.le_of_ble_eq_true rfl, Nat.le_of_ble_eq_true rfl, Nat.le_of_ble_eq_true rfl⟩ [0, 1, 2, 3, 4, 5, 6, 7, 8, 9, 10, 11, 12, 13, 14] (by decide) rfl [some 0, some 1, some 2, some 3, some 4, some 5, some 6, some 7, some 8, some 9, some 10, some 11, some 12, some 13, some 14, none, none] (by decide) rfl rfl 0 rfl rfl rfl rfl (Nat.le_of_ble_eq_true rfl) dX8_digest_301 rfl rfl ?_
      refine j_i2l K dX8_digest_304 rfl ?_
      refine j_ladd K dX8_digest_305 rfl ?_
      obtain ⟨e1, g1⟩ := Prod.mk.inj (Option.some.inj h)
      subst e1
      obtain ⟨e2, g2⟩ := Prod.mk.inj g1
      subst e2
      obtain ⟨e3, g3⟩ := Prod.mk.inj g2
      subst e3
      obtain ⟨e4, g4⟩ := Prod.mk.inj g3
      subst e4
      obtain ⟨e5, g5⟩ := Prod.mk.inj g4
      subst e5
      obtain ⟨e6, g6⟩ := Prod.mk.inj g5
      subst e6
      obtain ⟨e7, g7⟩ := Prod.mk.inj g6
      subst e7
      subst g7
      exact j_lret K dX8_digest_306
    · refine j_ldc2 (v := (31 : Int64)) K (List.mem_cons_of_mem _ mw_42_4) dX8_digest_216 rfl ?_
      refine j_lload_n K 1 rfl dX8_digest_219 rfl ?_
      refine j_lmul K dX8_digest_220 rfl ?_
      refine j_aload_n K 0 rfl dX8_digest_221 rfl ?_
      refine j_iload_n K 2 rfl dX8_digest_222 rfl ?_
      obtain ⟨r_34, c_room_35, c_sim_36, hc, h⟩ := bd3_some h
      refine j_callV (rest := [.long ((31 : Int64) * l1)]) (st1 := [.int r_34, .long ((31 : Int64) * l1)]) (ws' := (uX8_digest cyI cyJ cyS a0 c_latest c_typed c_tenants c_room_35 c_events c_gone c_sim_36.1 c_sights c_drawn c_bytes c_tenant c_event c_sim_36.2.1 c_sim_36.2.2.1 c_sim_36.2.2.2.1 c_sim_36.2.2.2.2.1 c_sim_36.2.2.2.2.2.1 c_sim_36.2.2.2.2.2.2.1 c_sim_36.2.2.2.2.2.2.2.1 c_sim_36.2.2.2.2.2.2.2.2.1 c_sim_36.2.2.2.2.2.2.2.2.2.1 c_sim_36.2.2.2.2.2.2.2.2.2.2.1 c_sim_36.2.2.2.2.2.2.2.2.2.2.2 c_sight c_rows)) (T := TX8) (N := 29) (ci := 8) K (ctX8_widenBy l D cyI cyJ cyS a0 i3 c_latest c_typed c_sights c_drawn c_tenants c_events c_gone c_tenant c_event c_room c_sim r_34 c_room_35 c_sim_36 hc) (gdV mcL mw_28_6 mw_28_7 mw_28_8 mw_1_5 mw_28_9) rfl ⟨rfl, rfl⟩ hyX8_widenBy ⟨Nat.le_of_ble_eq_true rfl, Nat.le_of_ble_eq_true rfl, Nat.le_of_ble_eq_true rfl, Nat.le_of_ble_eq_true rfl⟩ [0, 2, 3, 4, 5, 6, 7, 8, 9, 10, 11, 12, 13, 14] (by decide) rfl [some 0, none, some 1, some 2, some 3, some 4, some 5, some 6, some 7, some 8, some 9, some 10, some 11, some 12, some 13, none, none] (by decide) rfl rfl 0 rfl rfl rfl rfl (Nat.le_of_ble_eq_true rfl) dX8_digest_223 rfl rfl ?_
      refine j_i2l K dX8_digest_226 rfl ?_
      refine j_ladd K dX8_digest_227 rfl ?_
      refine j_nmL h (fun l1_37 h => ?_)
      refine j_lstore_n (lv' := [(1, .long l1_37), (0, .ref (a0 0)), (3, .int i3)]) K (by decide) rfl dX8_digest_228 rfl ?_
      refine j_iincN (lf := fun z => [(3, .int z), (1, .long l1_37), (0, .ref (a0 0))]) K (v := i3 + (1 : Int32)) (k := 2) rfl rfl (by decide) (fun _ => rfl) dX8_digest_229 rfl h (fun i3_38 h => ?_)
      refine j_goto (pc' := 211) K dX8_digest_232 (by decide) ?_
      refine j_sub [2, 1, 0] (lv' := [(0, .ref (a0 0)), (1, .long l1_37), (3, .int i3_38)]) rfl ?_
      exact ih c_tenants c_room_35 c_gone c_sim_36 c_drawn c_tenant c_rows l1_37 i3_38 h
set_option maxRecDepth 100000 in
set_option maxHeartbeats 4000000 in
theorem wX8_digest_161 (K : jK p s m args meth c A D vwCl (tyz cyI cyJ cyS) cX8_digest 4 RX8 wdX8_digest (some .long)) (a0 : Nat → Nat)  (c_latest : Int32) (c_typed : Int32) (c_events : Int32) (c_sights : Int32) (c_bytes : Nat → Int32) (c_event : Nat → Int32) (c_sight : Nat → Int32) (o_r : Int64) (o_tenants : Int32) (o_room : Int32) (o_gone : Int32) (o_sim : jT11) (o_drawn : Int32) (o_tenant : Nat → Int32) (o_rows : Nat → Int64)   : ∀ (n : Nat) (c_tenants : Int32) (c_room : Int32) (c_gone : Int32) (c_sim : jT11) (c_drawn : Int32) (c_tenant : Nat → Int32) (c_rows : Nat → Int64) (l1 : Int64) (i3 : Int32), fX8_digest_161 c_latest c_typed c_events c_sights c_bytes c_event c_sight  n c_tenants c_room c_gone c_sim c_drawn c_tenant c_rows l1 i3 = some (o_r, o_tenants, o_room, o_gone, o_sim, o_drawn, o_tenant, o_rows) → jw p l e rmX8_digest s m args below meth c (jQ below args s A D vwCl (tyz cyI cyJ cyS) 0 0 (some (.long o_r)) (uX8_digest cyI cyJ cyS a0 c_latest c_typed o_tenants o_room c_events o_gone o_sim.1 c_sights o_drawn c_bytes o_tenant c_event o_sim.2.1 o_sim.2.2.1 o_sim.2.2.2.1 o_sim.2.2.2.2.1 o_sim.2.2.2.2.2.1 o_sim.2.2.2.2.2.2.1 o_sim.2.2.2.2.2.2.2.1 o_sim.2.2.2.2.2.2.2.2.1 o_sim.2.2.2.2.2.2.2.2.2.1 o_sim.2.2.2.2.2.2.2.2.2.2.1 o_sim.2.2.2.2.2.2.2.2.2.2.2 c_sight o_rows)) A D vwCl 4 0 0 161 [(0, .ref (a0 0)), (1, .long l1), (3, .int i3)] [] (uX8_digest cyI cyJ cyS a0 c_latest c_typed c_tenants c_room c_events c_gone c_sim.1 c_sights c_drawn c_bytes c_tenant c_event c_sim.2.1 c_sim.2.2.1 c_sim.2.2.2.1 c_sim.2.2.2.2.1 c_sim.2.2.2.2.2.1 c_sim.2.2.2.2.2.2.1 c_sim.2.2.2.2.2.2.2.1 c_sim.2.2.2.2.2.2.2.2.1 c_sim.2.2.2.2.2.2.2.2.2.1 c_sim.2.2.2.2.2.2.2.2.2.2.1 c_sim.2.2.2.2.2.2.2.2.2.2.2 c_sight c_rows) := by
  intro n
  induction n with
  | zero => intro c_tenants c_room c_gone c_sim c_drawn c_tenant c_rows l1 i3 h; cases h
  | succ n ih =>
    intro c_tenants c_room c_gone c_sim c_drawn c_tenant c_rows l1 i3 h
    have h : bX8_digest_161 c_latest c_typed c_events c_sights c_bytes c_event c_sight  (fX8_digest_161 c_latest c_typed c_events c_sights c_bytes c_event c_sight  n) c_tenants c_room c_gone c_sim c_drawn c_tenant c_rows l1 i3 = some (o_r, o_tenants, o_room, o_gone, o_sim, o_drawn, o_tenant, o_rows) := h
    unfold bX8_digest_161 at h
    refine j_iload_n K 2 rfl dX8_digest_161 rfl ?_
    refine j_iconst (v := (4 : Int32)) K (by decide) dX8_digest_162 rfl ?_
    refine j_icmp_ge (tgt := 185) K dX8_digest_163 (by decide) rfl h (fun h => ?_) (fun h => ?_)
    · refine j_ldc2 (v := (31 : Int64)) K (List.mem_cons_of_mem _ mw_42_4) dX8_digest_185 rfl ?_
      refine j_lload_n K 1 rfl dX8_digest_188 rfl ?_
      refine j_lmul K dX8_digest_189 rfl ?_
      refine j_aload_n K 0 rfl dX8_digest_190 rfl ?_
      obtain ⟨r_7, hc, h⟩ := bd1_some h
      refine j_callV (rest := [.long ((31 : Int64) * l1)]) (st1 := [.int r_7, .long ((31 : Int64) * l1)]) (ws' := (uX8_digest cyI cyJ cyS a0 c_latest c_typed c_tenants c_room c_events c_gone c_sim.1 c_sights c_drawn c_bytes c_tenant c_event c_sim.2.1 c_sim.2.2.1 c_sim.2.2.2.1 c_sim.2.2.2.2.1 c_sim.2.2.2.2.2.1 c_sim.2.2.2.2.2.2.1 c_sim.2.2.2.2.2.2.2.1 c_sim.2.2.2.2.2.2.2.2.1 c_sim.2.2.2.2.2.2.2.2.2.1 c_sim.2.2.2.2.2.2.2.2.2.2.1 c_sim.2.2.2.2.2.2.2.2.2.2.2 c_sight c_rows)) (T := TX8) (N := 29) (ci := 8) K (ctX8_topNow l D cyI cyJ cyS a0 c_latest c_typed c_room c_events c_gone c_sim.1 c_sights c_drawn c_tenants c_sim.2.1 r_7 hc) (gdV mcL mw_24_18 mw_24_19 mw_24_20 mw_1_5 mw_24_21) rfl ⟨rfl, rfl⟩ hyX8_topNow ⟨Nat.le_of_ble_eq_true rfl, Nat.le_of_ble_eq_true rfl, Nat.le_of_ble_eq_true rfl, Nat.le_of_ble_eq_true rfl⟩ [0, 4] (by decide) rfl [some 0, none, none, none, some 1, none, none, none, none, none, none, none, none, none, none, none, none] (by decide) rfl rfl 0 rfl rfl rfl rfl (Nat.le_of_ble_eq_true rfl) dX8_digest_191 rfl rfl ?_
      refine j_i2l K dX8_digest_194 rfl ?_
      refine j_ladd K dX8_digest_195 rfl ?_
      refine j_nmL h (fun l1_8 h => ?_)
      refine j_lstore_n (lv' := [(1, .long l1_8), (0, .ref (a0 0)), (3, .int i3)]) K (by decide) rfl dX8_digest_196 rfl ?_
      refine j_ldc2 (v := (31 : Int64)) K (List.mem_cons_of_mem _ mw_42_4) dX8_digest_197 rfl ?_
      refine j_lload_n K 0 rfl dX8_digest_200 rfl ?_
      refine j_lmul K dX8_digest_201 rfl ?_
      refine j_aload_n K 1 rfl dX8_digest_202 rfl ?_
      obtain ⟨r_9, hc, h⟩ := bd1_some h
      refine j_callV (rest := [.long ((31 : Int64) * l1_8)]) (st1 := [.int r_9, .long ((31 : Int64) * l1_8)]) (ws' := (uX8_digest cyI cyJ cyS a0 c_latest c_typed c_tenants c_room c_events c_gone c_sim.1 c_sights c_drawn c_bytes c_tenant c_event c_sim.2.1 c_sim.2.2.1 c_sim.2.2.2.1 c_sim.2.2.2.2.1 c_sim.2.2.2.2.2.1 c_sim.2.2.2.2.2.2.1 c_sim.2.2.2.2.2.2.2.1 c_sim.2.2.2.2.2.2.2.2.1 c_sim.2.2.2.2.2.2.2.2.2.1 c_sim.2.2.2.2.2.2.2.2.2.2.1 c_sim.2.2.2.2.2.2.2.2.2.2.2 c_sight c_rows)) (T := TX8) (N := 29) (ci := 8) K (ctX8_heardNow l D cyI cyJ cyS a0 c_latest c_typed c_room c_events c_gone c_sim.1 c_sights c_drawn c_tenants c_sim.2.2.2.2.2.2.2.2.2.1 r_9 hc) (gdV mcL mw_25_10 mw_25_11 mw_25_12 mw_1_5 mw_25_13) rfl ⟨rfl, rfl⟩ hyX8_heardNow ⟨Nat.le_of_ble_eq_true rfl, Nat.le_of_ble_eq_true rfl, Nat.le_of_ble_eq_true rfl, Nat.le_of_ble_eq_true rfl⟩ [0, 12] (by decide) rfl [some 0, none, none, none, none, none, none, none, none, none, none, none, some 1, none, none, none, none] (by decide) rfl rfl 0 rfl rfl rfl rfl (Nat.le_of_ble_eq_true rfl) dX8_digest_203 rfl rfl ?_
      refine j_i2l K dX8_digest_206 rfl ?_
      refine j_ladd K dX8_digest_207 rfl ?_
      refine j_nmL h (fun l1_10 h => ?_)
      refine j_lstore_n (lv' := [(1, .long l1_10), (0, .ref (a0 0)), (3, .int i3)]) K (by decide) rfl dX8_digest_208 rfl ?_
      refine j_iconst (v := (0 : Int32)) K (by decide) dX8_digest_209 rfl ?_
      refine j_istore_n (lv' := [(3, .int (0 : Int32)), (1, .long l1_10), (0, .ref (a0 0))]) K (by decide) rfl dX8_digest_210 rfl ?_
      refine j_sub [2, 1, 0] (lv' := [(0, .ref (a0 0)), (1, .long l1_10), (3, .int (0 : Int32))]) rfl ?_
      exact wX8_digest_211 K a0 c_latest c_typed c_events c_sights c_bytes c_event c_sight o_r o_tenants o_room o_gone o_sim o_drawn o_tenant o_rows jF c_tenants c_room c_gone c_sim c_drawn c_tenant c_rows l1_10 (0 : Int32) h
    · refine j_ldc2 (v := (31 : Int64)) K (List.mem_cons_of_mem _ mw_42_4) dX8_digest_166 rfl ?_
      refine j_lload_n K 1 rfl dX8_digest_169 rfl ?_
      refine j_lmul K dX8_digest_170 rfl ?_
      refine j_aload_n K 0 rfl dX8_digest_171 rfl ?_
      refine j_iload_n K 2 rfl dX8_digest_172 rfl ?_
      obtain ⟨r_39, hc, h⟩ := bd1_some h
      refine j_callV (rest := [.long ((31 : Int64) * l1)]) (st1 := [.int r_39, .long ((31 : Int64) * l1)]) (ws' := (uX8_digest cyI cyJ cyS a0 c_latest c_typed c_tenants c_room c_events c_gone c_sim.1 c_sights c_drawn c_bytes c_tenant c_event c_sim.2.1 c_sim.2.2.1 c_sim.2.2.2.1 c_sim.2.2.2.2.1 c_sim.2.2.2.2.2.1 c_sim.2.2.2.2.2.2.1 c_sim.2.2.2.2.2.2.2.1 c_sim.2.2.2.2.2.2.2.2.1 c_sim.2.2.2.2.2.2.2.2.2.1 c_sim.2.2.2.2.2.2.2.2.2.2.1 c_sim.2.2.2.2.2.2.2.2.2.2.2 c_sight c_rows)) (T := TX8) (N := 29) (ci := 8) K (ctX8_sumBy l D cyI cyJ cyS a0 i3 c_latest c_typed c_room c_events c_gone c_sim.1 c_sights c_drawn c_tenants c_sim.2.2.2.2.1 c_sim.2.2.2.2.2.1 c_sim.2.2.2.2.2.2.1 c_sim.2.2.2.2.2.2.2.2.2.1 c_sim.2.2.2.2.2.2.2.2.2.2.1 r_39 hc) (gdV mcL mw_23_10 mw_23_11 mw_23_12 mw_1_5 mw_23_13) rfl ⟨rfl, rfl⟩ hyX8_sumBy ⟨Nat.le_of_ble_eq_true rfl, Nat.le_of_ble_eq_true rfl, Nat.le_of_ble_eq_true rfl, Nat.le_of_ble_eq_true rfl⟩ [0, 7, 8, 9, 12, 13] (by decide) rfl [some 0, none, none, none, none, none, none, some 1, some 2, some 3, none, none, some 4, some 5, none, none, none] (by decide) rfl rfl 0 rfl rfl rfl rfl (Nat.le_of_ble_eq_true rfl) dX8_digest_173 rfl rfl ?_
      refine j_i2l K dX8_digest_176 rfl ?_
      refine j_ladd K dX8_digest_177 rfl ?_
      refine j_nmL h (fun l1_40 h => ?_)
      refine j_lstore_n (lv' := [(1, .long l1_40), (0, .ref (a0 0)), (3, .int i3)]) K (by decide) rfl dX8_digest_178 rfl ?_
      refine j_iincN (lf := fun z => [(3, .int z), (1, .long l1_40), (0, .ref (a0 0))]) K (v := i3 + (1 : Int32)) (k := 2) rfl rfl (by decide) (fun _ => rfl) dX8_digest_179 rfl h (fun i3_41 h => ?_)
      refine j_goto (pc' := 161) K dX8_digest_182 (by decide) ?_
      refine j_sub [2, 1, 0] (lv' := [(0, .ref (a0 0)), (1, .long l1_40), (3, .int i3_41)]) rfl ?_
      exact ih c_tenants c_room c_gone c_sim c_drawn c_tenant c_rows l1_40 i3_41 h
set_option maxRecDepth 100000 in
set_option maxHeartbeats 4000000 in
theorem wX8_digest_134 (K : jK p s m args meth c A D vwCl (tyz cyI cyJ cyS) cX8_digest 4 RX8 wdX8_digest (some .long)) (a0 : Nat → Nat)  (c_latest : Int32) (c_typed : Int32) (c_events : Int32) (c_sights : Int32) (c_bytes : Nat → Int32) (c_event : Nat → Int32) (c_sight : Nat → Int32) (o_r : Int64) (o_tenants : Int32) (o_room : Int32) (o_gone : Int32) (o_sim : jT11) (o_drawn : Int32) (o_tenant : Nat → Int32) (o_rows : Nat → Int64)   : ∀ (n : Nat) (c_tenants : Int32) (c_room : Int32) (c_gone : Int32) (c_sim : jT11) (c_drawn : Int32) (c_tenant : Nat → Int32) (c_rows : Nat → Int64) (l1 : Int64) (i3 : Int32), fX8_digest_134 c_latest c_typed c_events c_sights c_bytes c_event c_sight  n c_tenants c_room c_gone c_sim c_drawn c_tenant c_rows l1 i3 = some (o_r, o_tenants, o_room, o_gone, o_sim, o_drawn, o_tenant, o_rows) → jw p l e rmX8_digest s m args below meth c (jQ below args s A D vwCl (tyz cyI cyJ cyS) 0 0 (some (.long o_r)) (uX8_digest cyI cyJ cyS a0 c_latest c_typed o_tenants o_room c_events o_gone o_sim.1 c_sights o_drawn c_bytes o_tenant c_event o_sim.2.1 o_sim.2.2.1 o_sim.2.2.2.1 o_sim.2.2.2.2.1 o_sim.2.2.2.2.2.1 o_sim.2.2.2.2.2.2.1 o_sim.2.2.2.2.2.2.2.1 o_sim.2.2.2.2.2.2.2.2.1 o_sim.2.2.2.2.2.2.2.2.2.1 o_sim.2.2.2.2.2.2.2.2.2.2.1 o_sim.2.2.2.2.2.2.2.2.2.2.2 c_sight o_rows)) A D vwCl 4 0 0 134 [(0, .ref (a0 0)), (1, .long l1), (3, .int i3)] [] (uX8_digest cyI cyJ cyS a0 c_latest c_typed c_tenants c_room c_events c_gone c_sim.1 c_sights c_drawn c_bytes c_tenant c_event c_sim.2.1 c_sim.2.2.1 c_sim.2.2.2.1 c_sim.2.2.2.2.1 c_sim.2.2.2.2.2.1 c_sim.2.2.2.2.2.2.1 c_sim.2.2.2.2.2.2.2.1 c_sim.2.2.2.2.2.2.2.2.1 c_sim.2.2.2.2.2.2.2.2.2.1 c_sim.2.2.2.2.2.2.2.2.2.2.1 c_sim.2.2.2.2.2.2.2.2.2.2.2 c_sight c_rows) := by
  intro n
  induction n with
  | zero => intro c_tenants c_room c_gone c_sim c_drawn c_tenant c_rows l1 i3 h; cases h
  | succ n ih =>
    intro c_tenants c_room c_gone c_sim c_drawn c_tenant c_rows l1 i3 h
    have h : bX8_digest_134 c_latest c_typed c_events c_sights c_bytes c_event c_sight  (fX8_digest_134 c_latest c_typed c_events c_sights c_bytes c_event c_sight  n) c_tenants c_room c_gone c_sim c_drawn c_tenant c_rows l1 i3 = some (o_r, o_tenants, o_room, o_gone, o_sim, o_drawn, o_tenant, o_rows) := h
    unfold bX8_digest_134 at h
    refine j_iload_n K 2 rfl dX8_digest_134 rfl ?_
    refine j_aload_n K 0 rfl dX8_digest_135 rfl ?_
    refine j_getf (C := RX8) (T := TX8) (N := 29) (ci := 8) K icX8 0 7 (List.mem_cons_of_mem _ mw_9_6) rfl rfl rfl (by decide) rfl dX8_digest_136 rfl ?_
    refine j_icmp_ge (tgt := 155) K dX8_digest_139 (by decide) rfl h (fun h => ?_) (fun h => ?_)
    · refine j_aload_n K 0 rfl dX8_digest_155 rfl ?_
      obtain ⟨c_sim_6, hc, h⟩ := bd1_some h
      refine j_callV (rest := []) (st1 := []) (ws' := (uX8_digest cyI cyJ cyS a0 c_latest c_typed c_tenants c_room c_events c_gone c_sim_6.1 c_sights c_drawn c_bytes c_tenant c_event c_sim_6.2.1 c_sim_6.2.2.1 c_sim_6.2.2.2.1 c_sim_6.2.2.2.2.1 c_sim_6.2.2.2.2.2.1 c_sim_6.2.2.2.2.2.2.1 c_sim_6.2.2.2.2.2.2.2.1 c_sim_6.2.2.2.2.2.2.2.2.1 c_sim_6.2.2.2.2.2.2.2.2.2.1 c_sim_6.2.2.2.2.2.2.2.2.2.2.1 c_sim_6.2.2.2.2.2.2.2.2.2.2.2 c_sight c_rows)) (T := TX8) (N := 29) (ci := 8) K (ctX8_lives l D cyI cyJ cyS a0 c_latest c_typed c_sights c_drawn c_tenants c_room c_events c_gone c_tenant c_event c_sim c_sim_6 hc) (gdV mcL mw_17_16 mw_17_17 mw_17_18 mw_1_5 mw_17_19) rfl ⟨rfl, rfl⟩ hyX8_lives ⟨Nat.le_of_ble_eq_true rfl, Nat.le_of_ble_eq_true rfl, Nat.le_of_ble_eq_true rfl, Nat.le_of_ble_eq_true rfl⟩ [0, 2, 3, 4, 5, 6, 7, 8, 9, 10, 11, 12, 13, 14] (by decide) rfl [some 0, none, some 1, some 2, some 3, some 4, some 5, some 6, some 7, some 8, some 9, some 10, some 11, some 12, some 13, none, none] (by decide) rfl rfl 0 rfl rfl rfl rfl (Nat.le_of_ble_eq_true rfl) dX8_digest_156 rfl rfl ?_
      refine j_iconst (v := (0 : Int32)) K (by decide) dX8_digest_159 rfl ?_
      refine j_istore_n (lv' := [(3, .int (0 : Int32)), (0, .ref (a0 0)), (1, .long l1)]) K (by decide) rfl dX8_digest_160 rfl ?_
      refine j_sub [1, 2, 0] (lv' := [(0, .ref (a0 0)), (1, .long l1), (3, .int (0 : Int32))]) rfl ?_
      exact wX8_digest_161 K a0 c_latest c_typed c_events c_sights c_bytes c_event c_sight o_r o_tenants o_room o_gone o_sim o_drawn o_tenant o_rows jF c_tenants c_room c_gone c_sim_6 c_drawn c_tenant c_rows l1 (0 : Int32) h
    · refine j_aload_n K 0 rfl dX8_digest_142 rfl ?_
      refine j_lload_n K 1 rfl dX8_digest_143 rfl ?_
      refine j_iload_n K 2 rfl dX8_digest_144 rfl ?_
      obtain ⟨r_42, c_gone_43, c_sim_44, c_tenant_45, c_rows_46, hc, h⟩ := bd5_some h
      refine j_callV (rest := []) (st1 := [.long r_42]) (ws' := (uX8_digest cyI cyJ cyS a0 c_latest c_typed c_tenants c_room c_events c_gone_43 c_sim_44.1 c_sights c_drawn c_bytes c_tenant_45 c_event c_sim_44.2.1 c_sim_44.2.2.1 c_sim_44.2.2.2.1 c_sim_44.2.2.2.2.1 c_sim_44.2.2.2.2.2.1 c_sim_44.2.2.2.2.2.2.1 c_sim_44.2.2.2.2.2.2.2.1 c_sim_44.2.2.2.2.2.2.2.2.1 c_sim_44.2.2.2.2.2.2.2.2.2.1 c_sim_44.2.2.2.2.2.2.2.2.2.2.1 c_sim_44.2.2.2.2.2.2.2.2.2.2.2 c_sight c_rows_46)) (T := TX8) (N := 29) (ci := 8) K (ctX8_tellsTenant l D cyI cyJ cyS a0 l1 i3 c_latest c_typed c_drawn c_tenants c_room c_events c_sights c_event c_sight c_gone c_sim c_tenant c_rows r_42 c_gone_43 c_sim_44 c_tenant_45 c_rows_46 hc) (gdV mcL mw_42_6 mw_42_7 mw_42_8 mw_1_5 mw_42_9) rfl ⟨rfl, rfl⟩ hyX8_tellsTenant ⟨Nat.le_of_ble_eq_true rfl, Nat.le_of_ble_eq_true rfl, Nat.le_of_ble_eq_true rfl, Nat.le_of_ble_eq_true rfl⟩ [0, 2, 3, 4, 5, 6, 7, 8, 9, 10, 11, 12, 13, 14, 15, 16] (by decide) rfl [some 0, none, some 1, some 2, some 3, some 4, some 5, some 6, some 7, some 8, some 9, some 10, some 11, some 12, some 13, some 14, some 15] (by decide) rfl rfl 0 rfl rfl rfl rfl (Nat.le_of_ble_eq_true rfl) dX8_digest_145 rfl rfl ?_
      refine j_lstore_n (lv' := [(1, .long r_42), (0, .ref (a0 0)), (3, .int i3)]) K (by decide) rfl dX8_digest_148 rfl ?_
      refine j_iincN (lf := fun z => [(3, .int z), (1, .long r_42), (0, .ref (a0 0))]) K (v := i3 + (1 : Int32)) (k := 2) rfl rfl (by decide) (fun _ => rfl) dX8_digest_149 rfl h (fun i3_47 h => ?_)
      refine j_goto (pc' := 134) K dX8_digest_152 (by decide) ?_
      refine j_sub [2, 1, 0] (lv' := [(0, .ref (a0 0)), (1, .long r_42), (3, .int i3_47)]) rfl ?_
      exact ih c_tenants c_room c_gone_43 c_sim_44 c_drawn c_tenant_45 c_rows_46 r_42 i3_47 h
set_option maxRecDepth 100000 in
set_option maxHeartbeats 4000000 in
theorem wX8_digest_76 (K : jK p s m args meth c A D vwCl (tyz cyI cyJ cyS) cX8_digest 4 RX8 wdX8_digest (some .long)) (a0 : Nat → Nat)  (c_latest : Int32) (c_typed : Int32) (c_events : Int32) (c_sights : Int32) (c_bytes : Nat → Int32) (c_event : Nat → Int32) (c_sight : Nat → Int32) (o_r : Int64) (o_tenants : Int32) (o_room : Int32) (o_gone : Int32) (o_sim : jT11) (o_drawn : Int32) (o_tenant : Nat → Int32) (o_rows : Nat → Int64)   : ∀ (n : Nat) (c_tenants : Int32) (c_room : Int32) (c_gone : Int32) (c_sim : jT11) (c_drawn : Int32) (c_tenant : Nat → Int32) (c_rows : Nat → Int64) (l1 : Int64) (i3 : Int32), fX8_digest_76 c_latest c_typed c_events c_sights c_bytes c_event c_sight  n c_tenants c_room c_gone c_sim c_drawn c_tenant c_rows l1 i3 = some (o_r, o_tenants, o_room, o_gone, o_sim, o_drawn, o_tenant, o_rows) → jw p l e rmX8_digest s m args below meth c (jQ below args s A D vwCl (tyz cyI cyJ cyS) 0 0 (some (.long o_r)) (uX8_digest cyI cyJ cyS a0 c_latest c_typed o_tenants o_room c_events o_gone o_sim.1 c_sights o_drawn c_bytes o_tenant c_event o_sim.2.1 o_sim.2.2.1 o_sim.2.2.2.1 o_sim.2.2.2.2.1 o_sim.2.2.2.2.2.1 o_sim.2.2.2.2.2.2.1 o_sim.2.2.2.2.2.2.2.1 o_sim.2.2.2.2.2.2.2.2.1 o_sim.2.2.2.2.2.2.2.2.2.1 o_sim.2.2.2.2.2.2.2.2.2.2.1 o_sim.2.2.2.2.2.2.2.2.2.2.2 c_sight o_rows)) A D vwCl 4 0 0 76 [(0, .ref (a0 0)), (1, .long l1), (3, .int i3)] [] (uX8_digest cyI cyJ cyS a0 c_latest c_typed c_tenants c_room c_events c_gone c_sim.1 c_sights c_drawn c_bytes c_tenant c_event c_sim.2.1 c_sim.2.2.1 c_sim.2.2.2.1 c_sim.2.2.2.2.1 c_sim.2.2.2.2.2.1 c_sim.2.2.2.2.2.2.1 c_sim.2.2.2.2.2.2.2.1 c_sim.2.2.2.2.2.2.2.2.1 c_sim.2.2.2.2.2.2.2.2.2.1 c_sim.2.2.2.2.2.2.2.2.2.2.1 c_sim.2.2.2.2.2.2.2.2.2.2.2 c_sight c_rows) := by
  intro n
  induction n with
  | zero => intro c_tenants c_room c_gone c_sim c_drawn c_tenant c_rows l1 i3 h; cases h
  | succ n ih =>
    intro c_tenants c_room c_gone c_sim c_drawn c_tenant c_rows l1 i3 h
    have h : bX8_digest_76 c_latest c_typed c_events c_sights c_bytes c_event c_sight  (fX8_digest_76 c_latest c_typed c_events c_sights c_bytes c_event c_sight  n) c_tenants c_room c_gone c_sim c_drawn c_tenant c_rows l1 i3 = some (o_r, o_tenants, o_room, o_gone, o_sim, o_drawn, o_tenant, o_rows) := h
    unfold bX8_digest_76 at h
    refine j_iload_n K 2 rfl dX8_digest_76 rfl ?_
    refine j_bipush (v := (13 : Int32)) K (by decide) dX8_digest_77 rfl ?_
    refine j_icmp_ge (tgt := 132) K dX8_digest_79 (by decide) rfl h (fun h => ?_) (fun h => ?_)
    · refine j_iconst (v := (0 : Int32)) K (by decide) dX8_digest_132 rfl ?_
      refine j_istore_n (lv' := [(3, .int (0 : Int32)), (0, .ref (a0 0)), (1, .long l1)]) K (by decide) rfl dX8_digest_133 rfl ?_
      refine j_sub [1, 2, 0] (lv' := [(0, .ref (a0 0)), (1, .long l1), (3, .int (0 : Int32))]) rfl ?_
      exact wX8_digest_134 K a0 c_latest c_typed c_events c_sights c_bytes c_event c_sight o_r o_tenants o_room o_gone o_sim o_drawn o_tenant o_rows jF c_tenants c_room c_gone c_sim c_drawn c_tenant c_rows l1 (0 : Int32) h
    · refine j_ldc2 (v := (31 : Int64)) K (List.mem_cons_of_mem _ mw_42_4) dX8_digest_82 rfl ?_
      refine j_lload_n K 1 rfl dX8_digest_85 rfl ?_
      refine j_lmul K dX8_digest_86 rfl ?_
      refine j_aload_n K 0 rfl dX8_digest_87 rfl ?_
      refine j_iconst (v := (3 : Int32)) K (by decide) dX8_digest_88 rfl ?_
      refine j_iload_n K 2 rfl dX8_digest_89 rfl ?_
      obtain ⟨r_48, hc, h⟩ := bd1_some h
      refine j_callV (rest := [.long ((31 : Int64) * l1)]) (st1 := [.int r_48, .long ((31 : Int64) * l1)]) (ws' := (uX8_digest cyI cyJ cyS a0 c_latest c_typed c_tenants c_room c_events c_gone c_sim.1 c_sights c_drawn c_bytes c_tenant c_event c_sim.2.1 c_sim.2.2.1 c_sim.2.2.2.1 c_sim.2.2.2.2.1 c_sim.2.2.2.2.2.1 c_sim.2.2.2.2.2.2.1 c_sim.2.2.2.2.2.2.2.1 c_sim.2.2.2.2.2.2.2.2.1 c_sim.2.2.2.2.2.2.2.2.2.1 c_sim.2.2.2.2.2.2.2.2.2.2.1 c_sim.2.2.2.2.2.2.2.2.2.2.2 c_sight c_rows)) (T := TX8) (N := 29) (ci := 8) K (ctX8_liveBy l D cyI cyJ cyS a0 (3 : Int32) i3 c_latest c_typed c_room c_events c_gone c_sim.1 c_sights c_drawn c_tenants c_sim.2.2.2.2.2.2.2.2.2.1 r_48 hc) (gdV mcL mw_20_7 mw_20_8 mw_20_9 mw_1_5 mw_20_10) rfl ⟨rfl, rfl⟩ hyX8_liveBy ⟨Nat.le_of_ble_eq_true rfl, Nat.le_of_ble_eq_true rfl, Nat.le_of_ble_eq_true rfl, Nat.le_of_ble_eq_true rfl⟩ [0, 12] (by decide) rfl [some 0, none, none, none, none, none, none, none, none, none, none, none, some 1, none, none, none, none] (by decide) rfl rfl 0 rfl rfl rfl rfl (Nat.le_of_ble_eq_true rfl) dX8_digest_90 rfl rfl ?_
      refine j_i2l K dX8_digest_93 rfl ?_
      refine j_ladd K dX8_digest_94 rfl ?_
      refine j_nmL h (fun l1_49 h => ?_)
      refine j_lstore_n (lv' := [(1, .long l1_49), (0, .ref (a0 0)), (3, .int i3)]) K (by decide) rfl dX8_digest_95 rfl ?_
      refine j_ldc2 (v := (31 : Int64)) K (List.mem_cons_of_mem _ mw_42_4) dX8_digest_96 rfl ?_
      refine j_lload_n K 0 rfl dX8_digest_99 rfl ?_
      refine j_lmul K dX8_digest_100 rfl ?_
      refine j_aload_n K 1 rfl dX8_digest_101 rfl ?_
      refine j_bipush (v := (9 : Int32)) K (by decide) dX8_digest_102 rfl ?_
      refine j_iload_n K 2 rfl dX8_digest_104 rfl ?_
      obtain ⟨r_50, hc, h⟩ := bd1_some h
      refine j_callV (rest := [.long ((31 : Int64) * l1_49)]) (st1 := [.int r_50, .long ((31 : Int64) * l1_49)]) (ws' := (uX8_digest cyI cyJ cyS a0 c_latest c_typed c_tenants c_room c_events c_gone c_sim.1 c_sights c_drawn c_bytes c_tenant c_event c_sim.2.1 c_sim.2.2.1 c_sim.2.2.2.1 c_sim.2.2.2.2.1 c_sim.2.2.2.2.2.1 c_sim.2.2.2.2.2.2.1 c_sim.2.2.2.2.2.2.2.1 c_sim.2.2.2.2.2.2.2.2.1 c_sim.2.2.2.2.2.2.2.2.2.1 c_sim.2.2.2.2.2.2.2.2.2.2.1 c_sim.2.2.2.2.2.2.2.2.2.2.2 c_sight c_rows)) (T := TX8) (N := 29) (ci := 8) K (ctX8_liveBy l D cyI cyJ cyS a0 (9 : Int32) i3 c_latest c_typed c_room c_events c_gone c_sim.1 c_sights c_drawn c_tenants c_sim.2.2.2.2.2.2.2.2.2.1 r_50 hc) (gdV mcL mw_20_7 mw_20_8 mw_20_9 mw_1_5 mw_20_10) rfl ⟨rfl, rfl⟩ hyX8_liveBy ⟨Nat.le_of_ble_eq_true rfl, Nat.le_of_ble_eq_true rfl, Nat.le_of_ble_eq_true rfl, Nat.le_of_ble_eq_true rfl⟩ [0, 12] (by decide) rfl [some 0, none, none, none, none, none, none, none, none, none, none, none, some 1, none, none, none, none] (by decide) rfl rfl 0 rfl rfl rfl rfl (Nat.le_of_ble_eq_true rfl) dX8_digest_105 rfl rfl ?_
      refine j_i2l K dX8_digest_108 rfl ?_
      refine j_ladd K dX8_digest_109 rfl ?_
      refine j_nmL h (fun l1_51 h => ?_)
      refine j_lstore_n (lv' := [(1, .long l1_51), (0, .ref (a0 0)), (3, .int i3)]) K (by decide) rfl dX8_digest_110 rfl ?_
      refine j_ldc2 (v := (31 : Int64)) K (List.mem_cons_of_mem _ mw_42_4) dX8_digest_111 rfl ?_
      refine j_lload_n K 0 rfl dX8_digest_114 rfl ?_
      refine j_lmul K dX8_digest_115 rfl ?_
      refine j_aload_n K 1 rfl dX8_digest_116 rfl ?_
      refine j_bipush (v := (23 : Int32)) K (by decide) dX8_digest_117 rfl ?_
      refine j_iload_n K 2 rfl dX8_digest_119 rfl ?_
      obtain ⟨r_52, hc, h⟩ := bd1_some h
      refine j_callV (rest := [.long ((31 : Int64) * l1_51)]) (st1 := [.int r_52, .long ((31 : Int64) * l1_51)]) (ws' := (uX8_digest cyI cyJ cyS a0 c_latest c_typed c_tenants c_room c_events c_gone c_sim.1 c_sights c_drawn c_bytes c_tenant c_event c_sim.2.1 c_sim.2.2.1 c_sim.2.2.2.1 c_sim.2.2.2.2.1 c_sim.2.2.2.2.2.1 c_sim.2.2.2.2.2.2.1 c_sim.2.2.2.2.2.2.2.1 c_sim.2.2.2.2.2.2.2.2.1 c_sim.2.2.2.2.2.2.2.2.2.1 c_sim.2.2.2.2.2.2.2.2.2.2.1 c_sim.2.2.2.2.2.2.2.2.2.2.2 c_sight c_rows)) (T := TX8) (N := 29) (ci := 8) K (ctX8_liveBy l D cyI cyJ cyS a0 (23 : Int32) i3 c_latest c_typed c_room c_events c_gone c_sim.1 c_sights c_drawn c_tenants c_sim.2.2.2.2.2.2.2.2.2.1 r_52 hc) (gdV mcL mw_20_7 mw_20_8 mw_20_9 mw_1_5 mw_20_10) rfl ⟨rfl, rfl⟩ hyX8_liveBy ⟨Nat.le_of_ble_eq_true rfl, Nat.le_of_ble_eq_true rfl, Nat.le_of_ble_eq_true rfl, Nat.le_of_ble_eq_true rfl⟩ [0, 12] (by decide) rfl [some 0, none, none, none, none, none, none, none, none, none, none, none, some 1, none, none, none, none] (by decide) rfl rfl 0 rfl rfl rfl rfl (Nat.le_of_ble_eq_true rfl) dX8_digest_120 rfl rfl ?_
      refine j_i2l K dX8_digest_123 rfl ?_
      refine j_ladd K dX8_digest_124 rfl ?_
      refine j_nmL h (fun l1_53 h => ?_)
      refine j_lstore_n (lv' := [(1, .long l1_53), (0, .ref (a0 0)), (3, .int i3)]) K (by decide) rfl dX8_digest_125 rfl ?_
      refine j_iincN (lf := fun z => [(3, .int z), (1, .long l1_53), (0, .ref (a0 0))]) K (v := i3 + (1 : Int32)) (k := 2) rfl rfl (by decide) (fun _ => rfl) dX8_digest_126 rfl h (fun i3_54 h => ?_)
      refine j_goto (pc' := 76) K dX8_digest_129 (by decide) ?_
      refine j_sub [2, 1, 0] (lv' := [(0, .ref (a0 0)), (1, .long l1_53), (3, .int i3_54)]) rfl ?_
      exact ih c_tenants c_room c_gone c_sim c_drawn c_tenant c_rows l1_53 i3_54 h
set_option maxRecDepth 100000 in
set_option maxHeartbeats 4000000 in
theorem wX8_digest_49 (K : jK p s m args meth c A D vwCl (tyz cyI cyJ cyS) cX8_digest 4 RX8 wdX8_digest (some .long)) (a0 : Nat → Nat)  (c_latest : Int32) (c_typed : Int32) (c_events : Int32) (c_sights : Int32) (c_bytes : Nat → Int32) (c_event : Nat → Int32) (c_sight : Nat → Int32) (o_r : Int64) (o_tenants : Int32) (o_room : Int32) (o_gone : Int32) (o_sim : jT11) (o_drawn : Int32) (o_tenant : Nat → Int32) (o_rows : Nat → Int64)   : ∀ (n : Nat) (c_tenants : Int32) (c_room : Int32) (c_gone : Int32) (c_sim : jT11) (c_drawn : Int32) (c_tenant : Nat → Int32) (c_rows : Nat → Int64) (l1 : Int64) (i3 : Int32), fX8_digest_49 c_latest c_typed c_events c_sights c_bytes c_event c_sight  n c_tenants c_room c_gone c_sim c_drawn c_tenant c_rows l1 i3 = some (o_r, o_tenants, o_room, o_gone, o_sim, o_drawn, o_tenant, o_rows) → jw p l e rmX8_digest s m args below meth c (jQ below args s A D vwCl (tyz cyI cyJ cyS) 0 0 (some (.long o_r)) (uX8_digest cyI cyJ cyS a0 c_latest c_typed o_tenants o_room c_events o_gone o_sim.1 c_sights o_drawn c_bytes o_tenant c_event o_sim.2.1 o_sim.2.2.1 o_sim.2.2.2.1 o_sim.2.2.2.2.1 o_sim.2.2.2.2.2.1 o_sim.2.2.2.2.2.2.1 o_sim.2.2.2.2.2.2.2.1 o_sim.2.2.2.2.2.2.2.2.1 o_sim.2.2.2.2.2.2.2.2.2.1 o_sim.2.2.2.2.2.2.2.2.2.2.1 o_sim.2.2.2.2.2.2.2.2.2.2.2 c_sight o_rows)) A D vwCl 4 0 0 49 [(0, .ref (a0 0)), (1, .long l1), (3, .int i3)] [] (uX8_digest cyI cyJ cyS a0 c_latest c_typed c_tenants c_room c_events c_gone c_sim.1 c_sights c_drawn c_bytes c_tenant c_event c_sim.2.1 c_sim.2.2.1 c_sim.2.2.2.1 c_sim.2.2.2.2.1 c_sim.2.2.2.2.2.1 c_sim.2.2.2.2.2.2.1 c_sim.2.2.2.2.2.2.2.1 c_sim.2.2.2.2.2.2.2.2.1 c_sim.2.2.2.2.2.2.2.2.2.1 c_sim.2.2.2.2.2.2.2.2.2.2.1 c_sim.2.2.2.2.2.2.2.2.2.2.2 c_sight c_rows) := by
  intro n
  induction n with
  | zero => intro c_tenants c_room c_gone c_sim c_drawn c_tenant c_rows l1 i3 h; cases h
  | succ n ih =>
    intro c_tenants c_room c_gone c_sim c_drawn c_tenant c_rows l1 i3 h
    have h : bX8_digest_49 c_latest c_typed c_events c_sights c_bytes c_event c_sight  (fX8_digest_49 c_latest c_typed c_events c_sights c_bytes c_event c_sight  n) c_tenants c_room c_gone c_sim c_drawn c_tenant c_rows l1 i3 = some (o_r, o_tenants, o_room, o_gone, o_sim, o_drawn, o_tenant, o_rows) := h
    unfold bX8_digest_49 at h
    refine j_iload_n K 2 rfl dX8_digest_49 rfl ?_
    refine j_bipush (v := (24 : Int32)) K (by decide) dX8_digest_50 rfl ?_
    refine j_icmp_ge (tgt := 74) K dX8_digest_52 (by decide) rfl h (fun h => ?_) (fun h => ?_)
    · refine j_iconst (v := (0 : Int32)) K (by decide) dX8_digest_74 rfl ?_
      refine j_istore_n (lv' := [(3, .int (0 : Int32)), (0, .ref (a0 0)), (1, .long l1)]) K (by decide) rfl dX8_digest_75 rfl ?_
      refine j_sub [1, 2, 0] (lv' := [(0, .ref (a0 0)), (1, .long l1), (3, .int (0 : Int32))]) rfl ?_
      exact wX8_digest_76 K a0 c_latest c_typed c_events c_sights c_bytes c_event c_sight o_r o_tenants o_room o_gone o_sim o_drawn o_tenant o_rows jF c_tenants c_room c_gone c_sim c_drawn c_tenant c_rows l1 (0 : Int32) h
    · refine j_ldc2 (v := (31 : Int64)) K (List.mem_cons_of_mem _ mw_42_4) dX8_digest_55 rfl ?_
      refine j_lload_n K 1 rfl dX8_digest_58 rfl ?_
      refine j_lmul K dX8_digest_59 rfl ?_
      refine j_aload_n K 0 rfl dX8_digest_60 rfl ?_
      refine j_iload_n K 2 rfl dX8_digest_61 rfl ?_
      obtain ⟨r_55, hc, h⟩ := bd1_some h
      refine j_callV (rest := [.long ((31 : Int64) * l1)]) (st1 := [.int r_55, .long ((31 : Int64) * l1)]) (ws' := (uX8_digest cyI cyJ cyS a0 c_latest c_typed c_tenants c_room c_events c_gone c_sim.1 c_sights c_drawn c_bytes c_tenant c_event c_sim.2.1 c_sim.2.2.1 c_sim.2.2.2.1 c_sim.2.2.2.2.1 c_sim.2.2.2.2.2.1 c_sim.2.2.2.2.2.2.1 c_sim.2.2.2.2.2.2.2.1 c_sim.2.2.2.2.2.2.2.2.1 c_sim.2.2.2.2.2.2.2.2.2.1 c_sim.2.2.2.2.2.2.2.2.2.2.1 c_sim.2.2.2.2.2.2.2.2.2.2.2 c_sight c_rows)) (T := TX8) (N := 29) (ci := 8) K (ctX8_liftBy l D cyI cyJ cyS a0 i3 c_latest c_typed c_room c_events c_gone c_sim.1 c_sights c_drawn c_tenants c_sim.2.2.2.2.2.2.2.2.2.1 c_sim.2.2.2.2.2.2.2.2.2.2.1 r_55 hc) (gdV mcL mw_21_0 mw_21_1 mw_21_2 mw_1_5 mw_21_3) rfl ⟨rfl, rfl⟩ hyX8_liftBy ⟨Nat.le_of_ble_eq_true rfl, Nat.le_of_ble_eq_true rfl, Nat.le_of_ble_eq_true rfl, Nat.le_of_ble_eq_true rfl⟩ [0, 12, 13] (by decide) rfl [some 0, none, none, none, none, none, none, none, none, none, none, none, some 1, some 2, none, none, none] (by decide) rfl rfl 0 rfl rfl rfl rfl (Nat.le_of_ble_eq_true rfl) dX8_digest_62 rfl rfl ?_
      refine j_i2l K dX8_digest_65 rfl ?_
      refine j_ladd K dX8_digest_66 rfl ?_
      refine j_nmL h (fun l1_56 h => ?_)
      refine j_lstore_n (lv' := [(1, .long l1_56), (0, .ref (a0 0)), (3, .int i3)]) K (by decide) rfl dX8_digest_67 rfl ?_
      refine j_iincN (lf := fun z => [(3, .int z), (1, .long l1_56), (0, .ref (a0 0))]) K (v := i3 + (1 : Int32)) (k := 2) rfl rfl (by decide) (fun _ => rfl) dX8_digest_68 rfl h (fun i3_57 h => ?_)
      refine j_goto (pc' := 49) K dX8_digest_71 (by decide) ?_
      refine j_sub [2, 1, 0] (lv' := [(0, .ref (a0 0)), (1, .long l1_56), (3, .int i3_57)]) rfl ?_
      exact ih c_tenants c_room c_gone c_sim c_drawn c_tenant c_rows l1_56 i3_57 h
set_option maxRecDepth 100000 in
set_option maxHeartbeats 4000000 in
theorem wX8_digest_6 (K : jK p s m args meth c A D vwCl (tyz cyI cyJ cyS) cX8_digest 4 RX8 wdX8_digest (some .long)) (a0 : Nat → Nat)  (c_latest : Int32) (c_typed : Int32) (c_events : Int32) (c_sights : Int32) (c_bytes : Nat → Int32) (c_event : Nat → Int32) (c_sight : Nat → Int32) (o_r : Int64) (o_tenants : Int32) (o_room : Int32) (o_gone : Int32) (o_sim : jT11) (o_drawn : Int32) (o_tenant : Nat → Int32) (o_rows : Nat → Int64)   : ∀ (n : Nat) (c_tenants : Int32) (c_room : Int32) (c_gone : Int32) (c_sim : jT11) (c_drawn : Int32) (c_tenant : Nat → Int32) (c_rows : Nat → Int64) (l1 : Int64) (i3 : Int32), fX8_digest_6 c_latest c_typed c_events c_sights c_bytes c_event c_sight  n c_tenants c_room c_gone c_sim c_drawn c_tenant c_rows l1 i3 = some (o_r, o_tenants, o_room, o_gone, o_sim, o_drawn, o_tenant, o_rows) → jw p l e rmX8_digest s m args below meth c (jQ below args s A D vwCl (tyz cyI cyJ cyS) 0 0 (some (.long o_r)) (uX8_digest cyI cyJ cyS a0 c_latest c_typed o_tenants o_room c_events o_gone o_sim.1 c_sights o_drawn c_bytes o_tenant c_event o_sim.2.1 o_sim.2.2.1 o_sim.2.2.2.1 o_sim.2.2.2.2.1 o_sim.2.2.2.2.2.1 o_sim.2.2.2.2.2.2.1 o_sim.2.2.2.2.2.2.2.1 o_sim.2.2.2.2.2.2.2.2.1 o_sim.2.2.2.2.2.2.2.2.2.1 o_sim.2.2.2.2.2.2.2.2.2.2.1 o_sim.2.2.2.2.2.2.2.2.2.2.2 c_sight o_rows)) A D vwCl 4 0 0 6 [(0, .ref (a0 0)), (1, .long l1), (3, .int i3)] [] (uX8_digest cyI cyJ cyS a0 c_latest c_typed c_tenants c_room c_events c_gone c_sim.1 c_sights c_drawn c_bytes c_tenant c_event c_sim.2.1 c_sim.2.2.1 c_sim.2.2.2.1 c_sim.2.2.2.2.1 c_sim.2.2.2.2.2.1 c_sim.2.2.2.2.2.2.1 c_sim.2.2.2.2.2.2.2.1 c_sim.2.2.2.2.2.2.2.2.1 c_sim.2.2.2.2.2.2.2.2.2.1 c_sim.2.2.2.2.2.2.2.2.2.2.1 c_sim.2.2.2.2.2.2.2.2.2.2.2 c_sight c_rows) := by
  intro n
  induction n with
  | zero => intro c_tenants c_room c_gone c_sim c_drawn c_tenant c_rows l1 i3 h; cases h
  | succ n ih =>
    intro c_tenants c_room c_gone c_sim c_drawn c_tenant c_rows l1 i3 h
    have h : bX8_digest_6 c_latest c_typed c_events c_sights c_bytes c_event c_sight  (fX8_digest_6 c_latest c_typed c_events c_sights c_bytes c_event c_sight  n) c_tenants c_room c_gone c_sim c_drawn c_tenant c_rows l1 i3 = some (o_r, o_tenants, o_room, o_gone, o_sim, o_drawn, o_tenant, o_rows) := h
    unfold bX8_digest_6 at h
    refine j_iload_n K 2 rfl dX8_digest_6 rfl ?_
    refine j_bipush (v := (8 : Int32)) K (by decide) dX8_digest_7 rfl ?_
    refine j_icmp_ge (tgt := 31) K dX8_digest_9 (by decide) rfl h (fun h => ?_) (fun h => ?_)
    · refine j_ldc2 (v := (31 : Int64)) K (List.mem_cons_of_mem _ mw_42_4) dX8_digest_31 rfl ?_
      refine j_lload_n K 1 rfl dX8_digest_34 rfl ?_
      refine j_lmul K dX8_digest_35 rfl ?_
      refine j_aload_n K 0 rfl dX8_digest_36 rfl ?_
      obtain ⟨r_1, c_tenants_2, c_tenant_3, hc, h⟩ := bd3_some h
      refine j_callV (rest := [.long ((31 : Int64) * l1)]) (st1 := [.int r_1, .long ((31 : Int64) * l1)]) (ws' := (uX8_digest cyI cyJ cyS a0 c_latest c_typed c_tenants_2 c_room c_events c_gone c_sim.1 c_sights c_drawn c_bytes c_tenant_3 c_event c_sim.2.1 c_sim.2.2.1 c_sim.2.2.2.1 c_sim.2.2.2.2.1 c_sim.2.2.2.2.2.1 c_sim.2.2.2.2.2.2.1 c_sim.2.2.2.2.2.2.2.1 c_sim.2.2.2.2.2.2.2.2.1 c_sim.2.2.2.2.2.2.2.2.2.1 c_sim.2.2.2.2.2.2.2.2.2.2.1 c_sim.2.2.2.2.2.2.2.2.2.2.2 c_sight c_rows)) (T := TX8) (N := 29) (ci := 8) K (ctX8_reads l D cyI cyJ cyS a0 c_latest c_room c_events c_gone c_sim.1 c_sights c_drawn c_typed c_bytes c_tenants c_tenant r_1 c_tenants_2 c_tenant_3 hc) (gdV mcL mw_9_2 mw_9_3 mw_9_4 mw_1_5 mw_9_5) rfl ⟨rfl, rfl⟩ hyX8_reads ⟨Nat.le_of_ble_eq_true rfl, Nat.le_of_ble_eq_true rfl, Nat.le_of_ble_eq_true rfl, Nat.le_of_ble_eq_true rfl⟩ [0, 1, 2] (by decide) rfl [some 0, some 1, some 2, none, none, none, none, none, none, none, none, none, none, none, none, none, none] (by decide) rfl rfl 0 rfl rfl rfl rfl (Nat.le_of_ble_eq_true rfl) dX8_digest_37 rfl rfl ?_
      refine j_i2l K dX8_digest_40 rfl ?_
      refine j_ladd K dX8_digest_41 rfl ?_
      refine j_nmL h (fun l1_4 h => ?_)
      refine j_lstore_n (lv' := [(1, .long l1_4), (0, .ref (a0 0)), (3, .int i3)]) K (by decide) rfl dX8_digest_42 rfl ?_
      refine j_aload_n K 1 rfl dX8_digest_43 rfl ?_
      obtain ⟨c_sim_5, hc, h⟩ := bd1_some h
      refine j_callV (rest := []) (st1 := []) (ws' := (uX8_digest cyI cyJ cyS a0 c_latest c_typed c_tenants_2 c_room c_events c_gone c_sim_5.1 c_sights c_drawn c_bytes c_tenant_3 c_event c_sim_5.2.1 c_sim_5.2.2.1 c_sim_5.2.2.2.1 c_sim_5.2.2.2.2.1 c_sim_5.2.2.2.2.2.1 c_sim_5.2.2.2.2.2.2.1 c_sim_5.2.2.2.2.2.2.2.1 c_sim_5.2.2.2.2.2.2.2.2.1 c_sim_5.2.2.2.2.2.2.2.2.2.1 c_sim_5.2.2.2.2.2.2.2.2.2.2.1 c_sim_5.2.2.2.2.2.2.2.2.2.2.2 c_sight c_rows)) (T := TX8) (N := 29) (ci := 8) K (ctX8_lives l D cyI cyJ cyS a0 c_latest c_typed c_sights c_drawn c_tenants_2 c_room c_events c_gone c_tenant_3 c_event c_sim c_sim_5 hc) (gdV mcL mw_17_16 mw_17_17 mw_17_18 mw_1_5 mw_17_19) rfl ⟨rfl, rfl⟩ hyX8_lives ⟨Nat.le_of_ble_eq_true rfl, Nat.le_of_ble_eq_true rfl, Nat.le_of_ble_eq_true rfl, Nat.le_of_ble_eq_true rfl⟩ [0, 2, 3, 4, 5, 6, 7, 8, 9, 10, 11, 12, 13, 14] (by decide) rfl [some 0, none, some 1, some 2, some 3, some 4, some 5, some 6, some 7, some 8, some 9, some 10, some 11, some 12, some 13, none, none] (by decide) rfl rfl 0 rfl rfl rfl rfl (Nat.le_of_ble_eq_true rfl) dX8_digest_44 rfl rfl ?_
      refine j_iconst (v := (0 : Int32)) K (by decide) dX8_digest_47 rfl ?_
      refine j_istore_n (lv' := [(3, .int (0 : Int32)), (1, .long l1_4), (0, .ref (a0 0))]) K (by decide) rfl dX8_digest_48 rfl ?_
      refine j_sub [2, 1, 0] (lv' := [(0, .ref (a0 0)), (1, .long l1_4), (3, .int (0 : Int32))]) rfl ?_
      exact wX8_digest_49 K a0 c_latest c_typed c_events c_sights c_bytes c_event c_sight o_r o_tenants o_room o_gone o_sim o_drawn o_tenant o_rows jF c_tenants_2 c_room c_gone c_sim_5 c_drawn c_tenant_3 c_rows l1_4 (0 : Int32) h
    · refine j_ldc2 (v := (31 : Int64)) K (List.mem_cons_of_mem _ mw_42_4) dX8_digest_12 rfl ?_
      refine j_lload_n K 1 rfl dX8_digest_15 rfl ?_
      refine j_lmul K dX8_digest_16 rfl ?_
      refine j_aload_n K 0 rfl dX8_digest_17 rfl ?_
      refine j_iload_n K 2 rfl dX8_digest_18 rfl ?_
      obtain ⟨r_58, c_tenants_59, c_sim_60, c_tenant_61, hc, h⟩ := bd4_some h
      refine j_callV (rest := [.long ((31 : Int64) * l1)]) (st1 := [.int r_58, .long ((31 : Int64) * l1)]) (ws' := (uX8_digest cyI cyJ cyS a0 c_latest c_typed c_tenants_59 c_room c_events c_gone c_sim_60.1 c_sights c_drawn c_bytes c_tenant_61 c_event c_sim_60.2.1 c_sim_60.2.2.1 c_sim_60.2.2.2.1 c_sim_60.2.2.2.2.1 c_sim_60.2.2.2.2.2.1 c_sim_60.2.2.2.2.2.2.1 c_sim_60.2.2.2.2.2.2.2.1 c_sim_60.2.2.2.2.2.2.2.2.1 c_sim_60.2.2.2.2.2.2.2.2.2.1 c_sim_60.2.2.2.2.2.2.2.2.2.2.1 c_sim_60.2.2.2.2.2.2.2.2.2.2.2 c_sight c_rows)) (T := TX8) (N := 29) (ci := 8) K (ctX8_count l D cyI cyJ cyS a0 i3 c_drawn c_latest c_typed c_room c_events c_gone c_sights c_bytes c_event c_tenants c_sim c_tenant r_58 c_tenants_59 c_sim_60 c_tenant_61 hc) (gdV mcL mw_42_5 mw_40_5 mw_40_6 mw_1_5 mw_40_7) rfl ⟨rfl, rfl⟩ hyX8_count ⟨Nat.le_of_ble_eq_true rfl, Nat.le_of_ble_eq_true rfl, Nat.le_of_ble_eq_true rfl, Nat.le_of_ble_eq_true rfl⟩ [0, 1, 2, 3, 4, 5, 6, 7, 8, 9, 10, 11, 12, 13, 14] (by decide) rfl [some 0, some 1, some 2, some 3, some 4, some 5, some 6, some 7, some 8, some 9, some 10, some 11, some 12, some 13, some 14, none, none] (by decide) rfl rfl 0 rfl rfl rfl rfl (Nat.le_of_ble_eq_true rfl) dX8_digest_19 rfl rfl ?_
      refine j_i2l K dX8_digest_22 rfl ?_
      refine j_ladd K dX8_digest_23 rfl ?_
      refine j_nmL h (fun l1_62 h => ?_)
      refine j_lstore_n (lv' := [(1, .long l1_62), (0, .ref (a0 0)), (3, .int i3)]) K (by decide) rfl dX8_digest_24 rfl ?_
      refine j_iincN (lf := fun z => [(3, .int z), (1, .long l1_62), (0, .ref (a0 0))]) K (v := i3 + (1 : Int32)) (k := 2) rfl rfl (by decide) (fun _ => rfl) dX8_digest_25 rfl h (fun i3_63 h => ?_)
      refine j_goto (pc' := 6) K dX8_digest_28 (by decide) ?_
      refine j_sub [2, 1, 0] (lv' := [(0, .ref (a0 0)), (1, .long l1_62), (3, .int i3_63)]) rfl ?_
      exact ih c_tenants_59 c_room c_gone c_sim_60 c_drawn c_tenant_61 c_rows l1_62 i3_63 h
set_option maxRecDepth 100000 in
set_option maxHeartbeats 4000000 in
theorem ctX8_digest (l : Launch) (D : va_G) (cyI cyJ cyS : ClassId) (a0 : Nat → Nat) (c_latest : Int32) (c_typed : Int32) (c_events : Int32) (c_sights : Int32) (c_bytes : Nat → Int32) (c_event : Nat → Int32) (c_sight : Nat → Int32) (c_tenants : Int32) (c_room : Int32) (c_gone : Int32) (c_sim : jT11) (c_drawn : Int32) (c_tenant : Nat → Int32) (c_rows : Nat → Int64) (o_r : Int64) (o_tenants : Int32) (o_room : Int32) (o_gone : Int32) (o_sim : jT11) (o_drawn : Int32) (o_tenant : Nat → Int32) (o_rows : Nat → Int64) (h : fX8_digest c_latest c_typed c_events c_sights c_bytes c_event c_sight c_tenants c_room c_gone c_sim c_drawn c_tenant c_rows = some (o_r, o_tenants, o_room, o_gone, o_sim, o_drawn, o_tenant, o_rows)) : jC l yX8_digest wdX8_digest rmX8_digest D vwCl (tyz cyI cyJ cyS) [.ref (a0 0)] (uX8_digest cyI cyJ cyS a0 c_latest c_typed c_tenants c_room c_events c_gone c_sim.1 c_sights c_drawn c_bytes c_tenant c_event c_sim.2.1 c_sim.2.2.1 c_sim.2.2.2.1 c_sim.2.2.2.2.1 c_sim.2.2.2.2.2.1 c_sim.2.2.2.2.2.2.1 c_sim.2.2.2.2.2.2.2.1 c_sim.2.2.2.2.2.2.2.2.1 c_sim.2.2.2.2.2.2.2.2.2.1 c_sim.2.2.2.2.2.2.2.2.2.2.1 c_sim.2.2.2.2.2.2.2.2.2.2.2 c_sight c_rows) (some (.long o_r)) (uX8_digest cyI cyJ cyS a0 c_latest c_typed o_tenants o_room c_events o_gone o_sim.1 c_sights o_drawn c_bytes o_tenant c_event o_sim.2.1 o_sim.2.2.1 o_sim.2.2.2.1 o_sim.2.2.2.2.1 o_sim.2.2.2.2.2.1 o_sim.2.2.2.2.2.2.1 o_sim.2.2.2.2.2.2.2.1 o_sim.2.2.2.2.2.2.2.2.1 o_sim.2.2.2.2.2.2.2.2.2.1 o_sim.2.2.2.2.2.2.2.2.2.2.1 o_sim.2.2.2.2.2.2.2.2.2.2.2 c_sight o_rows) := by
  refine jC_of (cc := cX8_digest) (nL := 4) (ret := (some .long)) (own := RX8) (lv := [(0, .ref (a0 0))]) (by decide) rfl rfl (Nat.le_of_ble_eq_true rfl) rfl ?_
  intro p e s m args below meth c A K
  unfold fX8_digest at h
  refine j_ldc2 (v := (17 : Int64)) K (List.mem_cons_of_mem _ mw_42_3) dX8_digest_0 rfl ?_
  refine j_lstore_n (lv' := [(1, .long (17 : Int64)), (0, .ref (a0 0))]) K (by decide) rfl dX8_digest_3 rfl ?_
  refine j_iconst (v := (0 : Int32)) K (by decide) dX8_digest_4 rfl ?_
  refine j_istore_n (lv' := [(3, .int (0 : Int32)), (1, .long (17 : Int64)), (0, .ref (a0 0))]) K (by decide) rfl dX8_digest_5 rfl ?_
  refine j_sub [2, 1, 0] (lv' := [(0, .ref (a0 0)), (1, .long (17 : Int64)), (3, .int (0 : Int32))]) rfl ?_
  exact wX8_digest_6 K a0 c_latest c_typed c_events c_sights c_bytes c_event c_sight o_r o_tenants o_room o_gone o_sim o_drawn o_tenant o_rows jF c_tenants c_room c_gone c_sim c_drawn c_tenant c_rows (17 : Int64) (0 : Int32) h
end GEN
