section GEN
variable {p : Program} {l : Launch} {e : Env} {s : State} {m : MethodId} {args : Array Value} {below : List Frame} {meth : Method} {c : Code} {A : Nat → Prop} {D : va_G} {cyI cyJ cyS : ClassId}
abbrev uX8_chance (cyI cyJ cyS : ClassId) (a0 : Nat → Nat) (c_latest : Int32) (c_typed : Int32) (c_tenants : Int32) (c_room : Int32) (c_events : Int32) (c_gone : Int32) (c_audit : Int32) (c_sights : Int32) (c_drawn : Int32) (c_bytes : Nat → Int32) (c_tenant : Nat → Int32) (c_event : Nat → Int32) (c_floor : Nat → Int32) (c_before : Nat → Int32) (c_left : Nat → Int32) (c_settled : Nat → Int32) (c_fell : Nat → Int32) (c_past : Nat → Int32) (c_highest : Nat → Int32) (c_many : Nat → Int32) (c_floorBy : Nat → Int32) (c_leftBy : Nat → Int32) (c_fellBy : Nat → Int32) : va_W := [((a0 0), .inr (8, [.ref (a0 1), .ref (a0 2), .ref (a0 3), .ref (a0 4), .int c_latest, .ref (a0 5), .int c_typed, .int c_tenants, .ref (a0 6), .int c_room, .int c_events, .ref (a0 7), .int c_gone, .ref (a0 8), .ref (a0 9), .ref (a0 10), .ref (a0 11), .ref (a0 12), .ref (a0 13), .ref (a0 14), .ref (a0 15), .ref (a0 16), .ref (a0 17), .ref (a0 18), .int c_audit, .int c_sights, .ref (a0 19), .ref (a0 20), .int c_drawn])), ((a0 5), .inl (cyI, 31, .inl c_bytes)), ((a0 6), .inl (cyI, 24, .inl c_tenant)), ((a0 7), .inl (cyI, 24, .inl c_event)), ((a0 8), .inl (cyI, 8, .inl c_floor)), ((a0 9), .inl (cyI, 8, .inl c_before)), ((a0 10), .inl (cyI, 8, .inl c_left)), ((a0 11), .inl (cyI, 8, .inl c_settled)), ((a0 12), .inl (cyI, 8, .inl c_fell)), ((a0 13), .inl (cyI, 8, .inl c_past)), ((a0 14), .inl (cyI, 8, .inl c_highest)), ((a0 15), .inl (cyI, 13, .inl c_many)), ((a0 16), .inl (cyI, 192, .inl c_floorBy)), ((a0 17), .inl (cyI, 192, .inl c_leftBy)), ((a0 18), .inl (cyI, 192, .inl c_fellBy))]
abbrev rmX8_chance : Room := { frames := 6, cells := 0, slots := 0, locals := 143 }
abbrev wdX8_chance : List Cond := .code yX8_chance cX8_chance 4 (some .long) :: wsL_law
theorem hyX8_chance : yX8_chance.cls = RX8 ∧ yX8_chance.cls ≠ "java/lang/invoke/MethodHandle" ∧ yX8_chance.cls ≠ "java/lang/invoke/VarHandle" ∧ (parseMethodDescriptor yX8_chance.desc).map (fun d => d.parameters.length) = some 3 := by decide +kernel
set_option maxRecDepth 100000 in
set_option maxHeartbeats 4000000 in
theorem wX8_chance_41 (K : jK p s m args meth c A D vwCl (tyz cyI cyJ cyS) cX8_chance 4 RX8 wdX8_chance (some .long)) (a0 : Nat → Nat) (c_latest : Int32) (c_sights : Int32) (c_drawn : Int32) (i1 : Int32) (i2 : Int32) (i3 : Int32) (c_typed : Int32) (c_room : Int32) (c_events : Int32) (c_bytes : Nat → Int32) (c_event : Nat → Int32) (o_r : Int64) (o_tenants : Int32) (o_gone : Int32) (o_sim : jT11) (o_tenant : Nat → Int32)   : ∀ (c_tenants : Int32) (c_gone : Int32) (c_sim : jT11) (c_tenant : Nat → Int32), fX8_chance_41 i1 i2 i3 c_typed c_room c_events c_bytes c_event  c_tenants c_gone c_sim c_tenant = some (o_r, o_tenants, o_gone, o_sim, o_tenant) → jw p l e rmX8_chance s m args below meth c (jQ below args s A D vwCl (tyz cyI cyJ cyS) 0 0 (some (.long o_r)) (uX8_chance cyI cyJ cyS a0 c_latest c_typed o_tenants c_room c_events o_gone o_sim.1 c_sights c_drawn c_bytes o_tenant c_event o_sim.2.1 o_sim.2.2.1 o_sim.2.2.2.1 o_sim.2.2.2.2.1 o_sim.2.2.2.2.2.1 o_sim.2.2.2.2.2.2.1 o_sim.2.2.2.2.2.2.2.1 o_sim.2.2.2.2.2.2.2.2.1 o_sim.2.2.2.2.2.2.2.2.2.1 o_sim.2.2.2.2.2.2.2.2.2.2.1 o_sim.2.2.2.2.2.2.2.2.2.2.2)) A D vwCl 4 0 0 41 [] [] (uX8_chance cyI cyJ cyS a0 c_latest c_typed c_tenants c_room c_events c_gone c_sim.1 c_sights c_drawn c_bytes c_tenant c_event c_sim.2.1 c_sim.2.2.1 c_sim.2.2.2.1 c_sim.2.2.2.2.1 c_sim.2.2.2.2.2.1 c_sim.2.2.2.2.2.2.1 c_sim.2.2.2.2.2.2.2.1 c_sim.2.2.2.2.2.2.2.2.1 c_sim.2.2.2.2.2.2.2.2.2.1 c_sim.2.2.2.2.2.2.2.2.2.2.1 c_sim.2.2.2.2.2.2.2.2.2.2.2) := by
  intro c_tenants c_gone c_sim c_tenant h
  unfold fX8_chance_41 at h
  refine j_bipush (v := (-2 : Int32)) K (by decide) dX8_chance_41 rfl ?_
  obtain ⟨r_5, hc, h⟩ := bd1_some h
  refine j_callS (rest := []) (st1 := [.long r_5]) (ws' := (uX8_chance cyI cyJ cyS a0 c_latest c_typed c_tenants c_room c_events c_gone c_sim.1 c_sights c_drawn c_bytes c_tenant c_event c_sim.2.1 c_sim.2.2.1 c_sim.2.2.2.1 c_sim.2.2.2.2.1 c_sim.2.2.2.2.2.1 c_sim.2.2.2.2.2.2.1 c_sim.2.2.2.2.2.2.2.1 c_sim.2.2.2.2.2.2.2.2.1 c_sim.2.2.2.2.2.2.2.2.2.1 c_sim.2.2.2.2.2.2.2.2.2.2.1 c_sim.2.2.2.2.2.2.2.2.2.2.2)) K (ctX8_no l D cyI cyJ cyS (-2 : Int32) r_5 hc) (gdS mcL mw_35_5 mw_35_6 mw_1_5 mw_35_7) rfl ⟨rfl, rfl⟩ hzX8_no ⟨Nat.le_of_ble_eq_true rfl, Nat.le_of_ble_eq_true rfl, Nat.le_of_ble_eq_true rfl, Nat.le_of_ble_eq_true rfl⟩ [] (by decide) rfl [none, none, none, none, none, none, none, none, none, none, none, none, none, none, none] (by decide) rfl rfl rfl rfl (Nat.le_of_ble_eq_true rfl) dX8_chance_43 rfl rfl ?_
  obtain ⟨e1, g1⟩ := Prod.mk.inj (Option.some.inj h)
  subst e1
  obtain ⟨e2, g2⟩ := Prod.mk.inj g1
  subst e2
  obtain ⟨e3, g3⟩ := Prod.mk.inj g2
  subst e3
  obtain ⟨e4, g4⟩ := Prod.mk.inj g3
  subst e4
  subst g4
  exact j_lret K dX8_chance_46
set_option maxRecDepth 100000 in
set_option maxHeartbeats 4000000 in
theorem ctX8_chance (l : Launch) (D : va_G) (cyI cyJ cyS : ClassId) (a0 : Nat → Nat) (i1 : Int32) (i2 : Int32) (i3 : Int32) (c_latest : Int32) (c_sights : Int32) (c_drawn : Int32) (c_typed : Int32) (c_room : Int32) (c_events : Int32) (c_bytes : Nat → Int32) (c_event : Nat → Int32) (c_tenants : Int32) (c_gone : Int32) (c_sim : jT11) (c_tenant : Nat → Int32) (o_r : Int64) (o_tenants : Int32) (o_gone : Int32) (o_sim : jT11) (o_tenant : Nat → Int32) (h : fX8_chance i1 i2 i3 c_typed c_room c_events c_bytes c_event c_tenants c_gone c_sim c_tenant = some (o_r, o_tenants, o_gone, o_sim, o_tenant)) : jC l yX8_chance wdX8_chance rmX8_chance D vwCl (tyz cyI cyJ cyS) [.ref (a0 0), .int i1, .int i2, .int i3] (uX8_chance cyI cyJ cyS a0 c_latest c_typed c_tenants c_room c_events c_gone c_sim.1 c_sights c_drawn c_bytes c_tenant c_event c_sim.2.1 c_sim.2.2.1 c_sim.2.2.2.1 c_sim.2.2.2.2.1 c_sim.2.2.2.2.2.1 c_sim.2.2.2.2.2.2.1 c_sim.2.2.2.2.2.2.2.1 c_sim.2.2.2.2.2.2.2.2.1 c_sim.2.2.2.2.2.2.2.2.2.1 c_sim.2.2.2.2.2.2.2.2.2.2.1 c_sim.2.2.2.2.2.2.2.2.2.2.2) (some (.long o_r)) (uX8_chance cyI cyJ cyS a0 c_latest c_typed o_tenants c_room c_events o_gone o_sim.1 c_sights c_drawn c_bytes o_tenant c_event o_sim.2.1 o_sim.2.2.1 o_sim.2.2.2.1 o_sim.2.2.2.2.1 o_sim.2.2.2.2.2.1 o_sim.2.2.2.2.2.2.1 o_sim.2.2.2.2.2.2.2.1 o_sim.2.2.2.2.2.2.2.2.1 o_sim.2.2.2.2.2.2.2.2.2.1 o_sim.2.2.2.2.2.2.2.2.2.2.1 o_sim.2.2.2.2.2.2.2.2.2.2.2) := by
  refine jC_of (cc := cX8_chance) (nL := 4) (ret := (some .long)) (own := RX8) (lv := [(0, .ref (a0 0)), (1, .int i1), (2, .int i2), (3, .int i3)]) (by decide) rfl rfl (Nat.le_of_ble_eq_true rfl) rfl ?_
  intro p e s m args below meth c A K
  unfold fX8_chance at h
  refine j_aload_n K 0 rfl dX8_chance_0 rfl ?_
  obtain ⟨c_tenants_1, c_sim_2, c_tenant_3, hc, h⟩ := bd3_some h
  refine j_callV (rest := []) (st1 := []) (ws' := (uX8_chance cyI cyJ cyS a0 c_latest c_typed c_tenants_1 c_room c_events c_gone c_sim_2.1 c_sights c_drawn c_bytes c_tenant_3 c_event c_sim_2.2.1 c_sim_2.2.2.1 c_sim_2.2.2.2.1 c_sim_2.2.2.2.2.1 c_sim_2.2.2.2.2.2.1 c_sim_2.2.2.2.2.2.2.1 c_sim_2.2.2.2.2.2.2.2.1 c_sim_2.2.2.2.2.2.2.2.2.1 c_sim_2.2.2.2.2.2.2.2.2.2.1 c_sim_2.2.2.2.2.2.2.2.2.2.2.1 c_sim_2.2.2.2.2.2.2.2.2.2.2.2)) (T := TX8) (N := 29) (ci := 8) K (ctX8_find l D cyI cyJ cyS a0 c_latest c_sights c_drawn c_typed c_room c_events c_gone c_bytes c_event c_tenants c_sim c_tenant c_tenants_1 c_sim_2 c_tenant_3 hc) (gdV mcL mw_17_12 mw_17_13 mw_17_14 mw_1_5 mw_17_15) rfl ⟨rfl, rfl⟩ hyX8_find ⟨Nat.le_of_ble_eq_true rfl, Nat.le_of_ble_eq_true rfl, Nat.le_of_ble_eq_true rfl, Nat.le_of_ble_eq_true rfl⟩ [0, 1, 2, 3, 4, 5, 6, 7, 8, 9, 10, 11, 12, 13, 14] (by decide) rfl [some 0, some 1, some 2, some 3, some 4, some 5, some 6, some 7, some 8, some 9, some 10, some 11, some 12, some 13, some 14] (by decide) rfl rfl 0 rfl rfl rfl rfl (Nat.le_of_ble_eq_true rfl) dX8_chance_1 rfl rfl ?_
  refine j_iload_n K 1 rfl dX8_chance_4 rfl ?_
  refine j_i2l K dX8_chance_5 rfl ?_
  refine j_lconst (v := (0 : Int64)) K (by decide) dX8_chance_6 rfl ?_
  refine j_ldc2 (v := (16 : Int64)) K (List.mem_cons_of_mem _ mw_34_21) dX8_chance_7 rfl ?_
  obtain ⟨r_4, hc, h⟩ := bd1_some h
  refine j_callS (rest := []) (st1 := [.int r_4]) (ws' := (uX8_chance cyI cyJ cyS a0 c_latest c_typed c_tenants_1 c_room c_events c_gone c_sim_2.1 c_sights c_drawn c_bytes c_tenant_3 c_event c_sim_2.2.1 c_sim_2.2.2.1 c_sim_2.2.2.2.1 c_sim_2.2.2.2.2.1 c_sim_2.2.2.2.2.2.1 c_sim_2.2.2.2.2.2.2.1 c_sim_2.2.2.2.2.2.2.2.1 c_sim_2.2.2.2.2.2.2.2.2.1 c_sim_2.2.2.2.2.2.2.2.2.2.1 c_sim_2.2.2.2.2.2.2.2.2.2.2.1 c_sim_2.2.2.2.2.2.2.2.2.2.2.2)) K (ctX8_in l D cyI cyJ cyS (Int32.toInt64 i1) (0 : Int64) (16 : Int64) r_4 hc) (gdS mcL mw_7_22 mw_7_23 mw_1_5 mw_8_0) rfl ⟨rfl, rfl⟩ hzX8_in ⟨Nat.le_of_ble_eq_true rfl, Nat.le_of_ble_eq_true rfl, Nat.le_of_ble_eq_true rfl, Nat.le_of_ble_eq_true rfl⟩ [] (by decide) rfl [none, none, none, none, none, none, none, none, none, none, none, none, none, none, none] (by decide) rfl rfl rfl rfl (Nat.le_of_ble_eq_true rfl) dX8_chance_10 rfl rfl ?_
  refine j_if_eq (tgt := 41) K dX8_chance_13 (by decide) rfl h (fun h => ?_) (fun h => ?_)
  · refine j_sub [] (lv' := []) rfl ?_
    exact wX8_chance_41 K a0 c_latest c_sights c_drawn i1 i2 i3 c_typed c_room c_events c_bytes c_event o_r o_tenants o_gone o_sim o_tenant c_tenants_1 c_gone c_sim_2 c_tenant_3 h
  · refine j_aload_n K 0 rfl dX8_chance_16 rfl ?_
    refine j_iload_n K 2 rfl dX8_chance_17 rfl ?_
    obtain ⟨r_6, hc, h⟩ := bd1_some h
    refine j_callV (rest := []) (st1 := [.int r_6]) (ws' := (uX8_chance cyI cyJ cyS a0 c_latest c_typed c_tenants_1 c_room c_events c_gone c_sim_2.1 c_sights c_drawn c_bytes c_tenant_3 c_event c_sim_2.2.1 c_sim_2.2.2.1 c_sim_2.2.2.2.1 c_sim_2.2.2.2.2.1 c_sim_2.2.2.2.2.2.1 c_sim_2.2.2.2.2.2.2.1 c_sim_2.2.2.2.2.2.2.2.1 c_sim_2.2.2.2.2.2.2.2.2.1 c_sim_2.2.2.2.2.2.2.2.2.2.1 c_sim_2.2.2.2.2.2.2.2.2.2.2.1 c_sim_2.2.2.2.2.2.2.2.2.2.2.2)) (T := TX8) (N := 29) (ci := 8) K (ctX8_isTenant l D cyI cyJ cyS a0 i2 c_latest c_typed c_room c_events c_gone c_sim_2.1 c_sights c_drawn c_tenants_1 r_6 hc) (gdV mcL mw_10_5 mw_10_6 mw_10_7 mw_1_5 mw_10_8) rfl ⟨rfl, rfl⟩ hyX8_isTenant ⟨Nat.le_of_ble_eq_true rfl, Nat.le_of_ble_eq_true rfl, Nat.le_of_ble_eq_true rfl, Nat.le_of_ble_eq_true rfl⟩ [0] (by decide) rfl [some 0, none, none, none, none, none, none, none, none, none, none, none, none, none, none] (by decide) rfl rfl 0 rfl rfl rfl rfl (Nat.le_of_ble_eq_true rfl) dX8_chance_18 rfl rfl ?_
    refine j_if_eq (tgt := 41) K dX8_chance_21 (by decide) rfl h (fun h => ?_) (fun h => ?_)
    · refine j_sub [] (lv' := []) rfl ?_
      exact wX8_chance_41 K a0 c_latest c_sights c_drawn i1 i2 i3 c_typed c_room c_events c_bytes c_event o_r o_tenants o_gone o_sim o_tenant c_tenants_1 c_gone c_sim_2 c_tenant_3 h
    · refine j_iload_n K 3 rfl dX8_chance_24 rfl ?_
      obtain ⟨r_7, hc, h⟩ := bd1_some h
      refine j_callS (rest := []) (st1 := [.int r_7]) (ws' := (uX8_chance cyI cyJ cyS a0 c_latest c_typed c_tenants_1 c_room c_events c_gone c_sim_2.1 c_sights c_drawn c_bytes c_tenant_3 c_event c_sim_2.2.1 c_sim_2.2.2.1 c_sim_2.2.2.2.1 c_sim_2.2.2.2.2.1 c_sim_2.2.2.2.2.2.1 c_sim_2.2.2.2.2.2.2.1 c_sim_2.2.2.2.2.2.2.2.1 c_sim_2.2.2.2.2.2.2.2.2.1 c_sim_2.2.2.2.2.2.2.2.2.2.1 c_sim_2.2.2.2.2.2.2.2.2.2.2.1 c_sim_2.2.2.2.2.2.2.2.2.2.2.2)) K (ctX8_isTwo l D cyI cyJ cyS i3 r_7 hc) (gdS mcL mw_32_9 mw_32_10 mw_1_5 mw_32_11) rfl ⟨rfl, rfl⟩ hzX8_isTwo ⟨Nat.le_of_ble_eq_true rfl, Nat.le_of_ble_eq_true rfl, Nat.le_of_ble_eq_true rfl, Nat.le_of_ble_eq_true rfl⟩ [] (by decide) rfl [none, none, none, none, none, none, none, none, none, none, none, none, none, none, none] (by decide) rfl rfl rfl rfl (Nat.le_of_ble_eq_true rfl) dX8_chance_25 rfl rfl ?_
      refine j_if_eq (tgt := 41) K dX8_chance_28 (by decide) rfl h (fun h => ?_) (fun h => ?_)
      · refine j_sub [] (lv' := []) rfl ?_
        exact wX8_chance_41 K a0 c_latest c_sights c_drawn i1 i2 i3 c_typed c_room c_events c_bytes c_event o_r o_tenants o_gone o_sim o_tenant c_tenants_1 c_gone c_sim_2 c_tenant_3 h
      · refine j_aload_n K 0 rfl dX8_chance_31 rfl ?_
        refine j_iload_n K 1 rfl dX8_chance_32 rfl ?_
        refine j_iload_n K 2 rfl dX8_chance_33 rfl ?_
        refine j_iload_n K 3 rfl dX8_chance_34 rfl ?_
        obtain ⟨r_8, c_gone_9, c_sim_10, hc, h⟩ := bd3_some h
        refine j_callV (rest := []) (st1 := [.long r_8]) (ws' := (uX8_chance cyI cyJ cyS a0 c_latest c_typed c_tenants_1 c_room c_events c_gone_9 c_sim_10.1 c_sights c_drawn c_bytes c_tenant_3 c_event c_sim_10.2.1 c_sim_10.2.2.1 c_sim_10.2.2.2.1 c_sim_10.2.2.2.2.1 c_sim_10.2.2.2.2.2.1 c_sim_10.2.2.2.2.2.2.1 c_sim_10.2.2.2.2.2.2.2.1 c_sim_10.2.2.2.2.2.2.2.2.1 c_sim_10.2.2.2.2.2.2.2.2.2.1 c_sim_10.2.2.2.2.2.2.2.2.2.2.1 c_sim_10.2.2.2.2.2.2.2.2.2.2.2)) (T := TX8) (N := 29) (ci := 8) K (ctX8_chanceOf l D cyI cyJ cyS a0 i1 i2 i3 c_latest c_typed c_sights c_drawn c_tenants_1 c_room c_events c_tenant_3 c_event c_gone c_sim_2 r_8 c_gone_9 c_sim_10 hc) (gdV mcL mw_34_22 mw_34_23 mw_35_0 mw_1_5 mw_35_1) rfl ⟨rfl, rfl⟩ hyX8_chanceOf ⟨Nat.le_of_ble_eq_true rfl, Nat.le_of_ble_eq_true rfl, Nat.le_of_ble_eq_true rfl, Nat.le_of_ble_eq_true rfl⟩ [0, 2, 3, 4, 5, 6, 7, 8, 9, 10, 11, 12, 13, 14] (by decide) rfl [some 0, none, some 1, some 2, some 3, some 4, some 5, some 6, some 7, some 8, some 9, some 10, some 11, some 12, some 13] (by decide) rfl rfl 0 rfl rfl rfl rfl (Nat.le_of_ble_eq_true rfl) dX8_chance_35 rfl rfl ?_
        refine j_goto (pc' := 46) K dX8_chance_38 (by decide) ?_
        obtain ⟨e1, g1⟩ := Prod.mk.inj (Option.some.inj h)
        subst e1
        obtain ⟨e2, g2⟩ := Prod.mk.inj g1
        subst e2
        obtain ⟨e3, g3⟩ := Prod.mk.inj g2
        subst e3
        obtain ⟨e4, g4⟩ := Prod.mk.inj g3
        subst e4
        subst g4
        exact j_lret K dX8_chance_46
abbrev uX8_lot (cyI cyJ cyS : ClassId) (a0 : Nat → Nat) (c_latest : Int32) (c_typed : Int32) (c_tenants : Int32) (c_room : Int32) (c_events : Int32) (c_gone : Int32) (c_audit : Int32) (c_sights : Int32) (c_drawn : Int32) : va_W := [((a0 0), .inr (8, [.ref (a0 1), .ref (a0 2), .ref (a0 3), .ref (a0 4), .int c_latest, .ref (a0 5), .int c_typed, .int c_tenants, .ref (a0 6), .int c_room, .int c_events, .ref (a0 7), .int c_gone, .ref (a0 8), .ref (a0 9), .ref (a0 10), .ref (a0 11), .ref (a0 12), .ref (a0 13), .ref (a0 14), .ref (a0 15), .ref (a0 16), .ref (a0 17), .ref (a0 18), .int c_audit, .int c_sights, .ref (a0 19), .ref (a0 20), .int c_drawn]))]
abbrev rmX8_lot : Room := { frames := 0, cells := 0, slots := 0, locals := 0 }
abbrev wdX8_lot : List Cond := .code yX8_lot cX8_lot 2 (some .int) :: wsL_law
theorem hyX8_lot : yX8_lot.cls = RX8 ∧ yX8_lot.cls ≠ "java/lang/invoke/MethodHandle" ∧ yX8_lot.cls ≠ "java/lang/invoke/VarHandle" ∧ (parseMethodDescriptor yX8_lot.desc).map (fun d => d.parameters.length) = some 1 := by decide +kernel
set_option maxRecDepth 100000 in
set_option maxHeartbeats 4000000 in
theorem ctX8_lot (l : Launch) (D : va_G) (cyI cyJ cyS : ClassId) (a0 : Nat → Nat) (i1 : Int32) (c_latest : Int32) (c_typed : Int32) (c_tenants : Int32) (c_room : Int32) (c_events : Int32) (c_gone : Int32) (c_audit : Int32) (c_sights : Int32) (c_drawn : Int32) (o_r : Int32) (o_drawn : Int32) (h : fX8_lot i1 c_drawn = some (o_r, o_drawn)) : jC l yX8_lot wdX8_lot rmX8_lot D vwCl (tyz cyI cyJ cyS) [.ref (a0 0), .int i1] (uX8_lot cyI cyJ cyS a0 c_latest c_typed c_tenants c_room c_events c_gone c_audit c_sights c_drawn) (some (.int o_r)) (uX8_lot cyI cyJ cyS a0 c_latest c_typed c_tenants c_room c_events c_gone c_audit c_sights o_drawn) := by
  refine jC_of (cc := cX8_lot) (nL := 2) (ret := (some .int)) (own := RX8) (lv := [(0, .ref (a0 0)), (1, .int i1)]) (by decide) rfl rfl (Nat.le_of_ble_eq_true rfl) rfl ?_
  intro p e s m args below meth c A K
  unfold fX8_lot at h
  refine j_aload_n K 0 rfl dX8_lot_0 rfl ?_
  refine j_ldcw (v := (1103515245 : Int32)) K (List.mem_cons_of_mem _ mw_36_13) dX8_lot_1 rfl ?_
  refine j_aload_n K 0 rfl dX8_lot_4 rfl ?_
  refine j_getf (C := RX8) (T := TX8) (N := 29) (ci := 8) K icX8 0 28 (List.mem_cons_of_mem _ mw_36_8) rfl rfl rfl (by decide) rfl dX8_lot_5 rfl ?_
  refine j_imul K dX8_lot_8 rfl ?_
  refine j_sipush (v := (12345 : Int32)) K (by decide) dX8_lot_9 rfl ?_
  refine j_iadd K dX8_lot_12 rfl ?_
  refine j_nmI h (fun c_drawn_1 h => ?_)
  refine j_putf (C := RX8) (T := TX8) (N := 29) (ci := 8) (ty := .int) (ws' := (uX8_lot cyI cyJ cyS a0 c_latest c_typed c_tenants c_room c_events c_gone c_audit c_sights c_drawn_1)) K icX8 tyX8 tyX8_ok nmX8 0 28 (List.mem_cons_of_mem _ mw_36_8) rfl rfl rfl (by decide) rfl (by decide +kernel) rfl rfl (Nat.le_of_ble_eq_true rfl) rfl dX8_lot_13 rfl ?_
  refine j_aload_n K 0 rfl dX8_lot_16 rfl ?_
  refine j_getf (C := RX8) (T := TX8) (N := 29) (ci := 8) K icX8 0 28 (List.mem_cons_of_mem _ mw_36_8) rfl rfl rfl (by decide) rfl dX8_lot_17 rfl ?_
  refine j_bipush (v := (16 : Int32)) K (by decide) dX8_lot_20 rfl ?_
  refine j_iushr K dX8_lot_22 rfl ?_
  refine j_iload_n K 1 rfl dX8_lot_23 rfl ?_
  obtain ⟨hz, h⟩ := ckZ_some h
  refine j_irem K hz dX8_lot_24 rfl ?_
  obtain ⟨e1, g1⟩ := Prod.mk.inj (Option.some.inj h)
  subst e1
  subst g1
  exact j_iret K dX8_lot_25
end GEN
