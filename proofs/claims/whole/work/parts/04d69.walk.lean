section GEN
variable {p : Program} {l : Launch} {e : Env} {s : State} {m : MethodId} {args : Array Value} {below : List Frame} {meth : Method} {c : Code} {A : Nat → Prop} {D : va_G} {cyI cyJ cyS : ClassId}
abbrev uX8_spare (cyI cyJ cyS : ClassId) (a0 : Nat → Nat) (c_latest : Int32) (c_typed : Int32) (c_tenants : Int32) (c_room : Int32) (c_events : Int32) (c_gone : Int32) (c_audit : Int32) (c_sights : Int32) (c_drawn : Int32) (c_bytes : Nat → Int32) (c_tenant : Nat → Int32) (c_event : Nat → Int32) (c_floor : Nat → Int32) (c_before : Nat → Int32) (c_left : Nat → Int32) (c_settled : Nat → Int32) (c_fell : Nat → Int32) (c_past : Nat → Int32) (c_highest : Nat → Int32) (c_many : Nat → Int32) (c_floorBy : Nat → Int32) (c_leftBy : Nat → Int32) (c_fellBy : Nat → Int32) : va_W := [((a0 0), .inr (8, [.ref (a0 1), .ref (a0 2), .ref (a0 3), .ref (a0 4), .int c_latest, .ref (a0 5), .int c_typed, .int c_tenants, .ref (a0 6), .int c_room, .int c_events, .ref (a0 7), .int c_gone, .ref (a0 8), .ref (a0 9), .ref (a0 10), .ref (a0 11), .ref (a0 12), .ref (a0 13), .ref (a0 14), .ref (a0 15), .ref (a0 16), .ref (a0 17), .ref (a0 18), .int c_audit, .int c_sights, .ref (a0 19), .ref (a0 20), .int c_drawn])), ((a0 5), .inl (cyI, 31, .inl c_bytes)), ((a0 6), .inl (cyI, 24, .inl c_tenant)), ((a0 7), .inl (cyI, 24, .inl c_event)), ((a0 8), .inl (cyI, 8, .inl c_floor)), ((a0 9), .inl (cyI, 8, .inl c_before)), ((a0 10), .inl (cyI, 8, .inl c_left)), ((a0 11), .inl (cyI, 8, .inl c_settled)), ((a0 12), .inl (cyI, 8, .inl c_fell)), ((a0 13), .inl (cyI, 8, .inl c_past)), ((a0 14), .inl (cyI, 8, .inl c_highest)), ((a0 15), .inl (cyI, 13, .inl c_many)), ((a0 16), .inl (cyI, 192, .inl c_floorBy)), ((a0 17), .inl (cyI, 192, .inl c_leftBy)), ((a0 18), .inl (cyI, 192, .inl c_fellBy))]
abbrev rmX8_spare : Room := { frames := 7, cells := 0, slots := 0, locals := 158 }
abbrev wdX8_spare : List Cond := .code yX8_spare cX8_spare 2 (some .int) :: wsL_law
theorem hyX8_spare : yX8_spare.cls = RX8 ∧ yX8_spare.cls ≠ "java/lang/invoke/MethodHandle" ∧ yX8_spare.cls ≠ "java/lang/invoke/VarHandle" ∧ (parseMethodDescriptor yX8_spare.desc).map (fun d => d.parameters.length) = some 1 := by decide +kernel
set_option maxRecDepth 100000 in
set_option maxHeartbeats 4000000 in
theorem ctX8_spare (l : Launch) (D : va_G) (cyI cyJ cyS : ClassId) (a0 : Nat → Nat) (i1 : Int32) (c_latest : Int32) (c_sights : Int32) (c_drawn : Int32) (c_typed : Int32) (c_room : Int32) (c_events : Int32) (c_bytes : Nat → Int32) (c_event : Nat → Int32) (c_tenants : Int32) (c_gone : Int32) (c_sim : jT11) (c_tenant : Nat → Int32) (o_r : Int32) (o_tenants : Int32) (o_gone : Int32) (o_sim : jT11) (o_tenant : Nat → Int32) (h : fX8_spare i1 c_typed c_room c_events c_bytes c_event c_tenants c_gone c_sim c_tenant = some (o_r, o_tenants, o_gone, o_sim, o_tenant)) : jC l yX8_spare wdX8_spare rmX8_spare D vwCl (tyz cyI cyJ cyS) [.ref (a0 0), .int i1] (uX8_spare cyI cyJ cyS a0 c_latest c_typed c_tenants c_room c_events c_gone c_sim.1 c_sights c_drawn c_bytes c_tenant c_event c_sim.2.1 c_sim.2.2.1 c_sim.2.2.2.1 c_sim.2.2.2.2.1 c_sim.2.2.2.2.2.1 c_sim.2.2.2.2.2.2.1 c_sim.2.2.2.2.2.2.2.1 c_sim.2.2.2.2.2.2.2.2.1 c_sim.2.2.2.2.2.2.2.2.2.1 c_sim.2.2.2.2.2.2.2.2.2.2.1 c_sim.2.2.2.2.2.2.2.2.2.2.2) (some (.int o_r)) (uX8_spare cyI cyJ cyS a0 c_latest c_typed o_tenants c_room c_events o_gone o_sim.1 c_sights c_drawn c_bytes o_tenant c_event o_sim.2.1 o_sim.2.2.1 o_sim.2.2.2.1 o_sim.2.2.2.2.1 o_sim.2.2.2.2.2.1 o_sim.2.2.2.2.2.2.1 o_sim.2.2.2.2.2.2.2.1 o_sim.2.2.2.2.2.2.2.2.1 o_sim.2.2.2.2.2.2.2.2.2.1 o_sim.2.2.2.2.2.2.2.2.2.2.1 o_sim.2.2.2.2.2.2.2.2.2.2.2) := by
  refine jC_of (cc := cX8_spare) (nL := 2) (ret := (some .int)) (own := RX8) (lv := [(0, .ref (a0 0)), (1, .int i1)]) (by decide) rfl rfl (Nat.le_of_ble_eq_true rfl) rfl ?_
  intro p e s m args below meth c A K
  unfold fX8_spare at h
  refine j_aload_n K 0 rfl dX8_spare_0 rfl ?_
  obtain ⟨c_tenants_1, c_sim_2, c_tenant_3, hc, h⟩ := bd3_some h
  refine j_callV (rest := []) (st1 := []) (ws' := (uX8_spare cyI cyJ cyS a0 c_latest c_typed c_tenants_1 c_room c_events c_gone c_sim_2.1 c_sights c_drawn c_bytes c_tenant_3 c_event c_sim_2.2.1 c_sim_2.2.2.1 c_sim_2.2.2.2.1 c_sim_2.2.2.2.2.1 c_sim_2.2.2.2.2.2.1 c_sim_2.2.2.2.2.2.2.1 c_sim_2.2.2.2.2.2.2.2.1 c_sim_2.2.2.2.2.2.2.2.2.1 c_sim_2.2.2.2.2.2.2.2.2.2.1 c_sim_2.2.2.2.2.2.2.2.2.2.2.1 c_sim_2.2.2.2.2.2.2.2.2.2.2.2)) (T := TX8) (N := 29) (ci := 8) K (ctX8_find l D cyI cyJ cyS a0 c_latest c_sights c_drawn c_typed c_room c_events c_gone c_bytes c_event c_tenants c_sim c_tenant c_tenants_1 c_sim_2 c_tenant_3 hc) (gdV mcL mw_17_12 mw_17_13 mw_17_14 mw_1_5 mw_17_15) rfl ⟨rfl, rfl⟩ hyX8_find ⟨Nat.le_of_ble_eq_true rfl, Nat.le_of_ble_eq_true rfl, Nat.le_of_ble_eq_true rfl, Nat.le_of_ble_eq_true rfl⟩ [0, 1, 2, 3, 4, 5, 6, 7, 8, 9, 10, 11, 12, 13, 14] (by decide) rfl [some 0, some 1, some 2, some 3, some 4, some 5, some 6, some 7, some 8, some 9, some 10, some 11, some 12, some 13, some 14] (by decide) rfl rfl 0 rfl rfl rfl rfl (Nat.le_of_ble_eq_true rfl) dX8_spare_1 rfl rfl ?_
  refine j_iload_n K 1 rfl dX8_spare_4 rfl ?_
  refine j_i2l K dX8_spare_5 rfl ?_
  refine j_ldc2 (v := (-1 : Int64)) K (List.mem_cons_of_mem _ mw_29_8) dX8_spare_6 rfl ?_
  refine j_lconst (v := (1 : Int64)) K (by decide) dX8_spare_9 rfl ?_
  obtain ⟨r_4, hc, h⟩ := bd1_some h
  refine j_callS (rest := []) (st1 := [.int r_4]) (ws' := (uX8_spare cyI cyJ cyS a0 c_latest c_typed c_tenants_1 c_room c_events c_gone c_sim_2.1 c_sights c_drawn c_bytes c_tenant_3 c_event c_sim_2.2.1 c_sim_2.2.2.1 c_sim_2.2.2.2.1 c_sim_2.2.2.2.2.1 c_sim_2.2.2.2.2.2.1 c_sim_2.2.2.2.2.2.2.1 c_sim_2.2.2.2.2.2.2.2.1 c_sim_2.2.2.2.2.2.2.2.2.1 c_sim_2.2.2.2.2.2.2.2.2.2.1 c_sim_2.2.2.2.2.2.2.2.2.2.2.1 c_sim_2.2.2.2.2.2.2.2.2.2.2.2)) K (ctX8_in l D cyI cyJ cyS (Int32.toInt64 i1) (-1 : Int64) (1 : Int64) r_4 hc) (gdS mcL mw_7_22 mw_7_23 mw_1_5 mw_8_0) rfl ⟨rfl, rfl⟩ hzX8_in ⟨Nat.le_of_ble_eq_true rfl, Nat.le_of_ble_eq_true rfl, Nat.le_of_ble_eq_true rfl, Nat.le_of_ble_eq_true rfl⟩ [] (by decide) rfl [none, none, none, none, none, none, none, none, none, none, none, none, none, none, none] (by decide) rfl rfl rfl rfl (Nat.le_of_ble_eq_true rfl) dX8_spare_10 rfl rfl ?_
  refine j_if_eq (tgt := 24) K dX8_spare_13 (by decide) rfl h (fun h => ?_) (fun h => ?_)
  · refine j_bipush (v := (-2 : Int32)) K (by decide) dX8_spare_24 rfl ?_
    obtain ⟨e1, g1⟩ := Prod.mk.inj (Option.some.inj h)
    subst e1
    obtain ⟨e2, g2⟩ := Prod.mk.inj g1
    subst e2
    obtain ⟨e3, g3⟩ := Prod.mk.inj g2
    subst e3
    obtain ⟨e4, g4⟩ := Prod.mk.inj g3
    subst e4
    subst g4
    exact j_iret K dX8_spare_26
  · refine j_aload_n K 0 rfl dX8_spare_16 rfl ?_
    refine j_iload_n K 1 rfl dX8_spare_17 rfl ?_
    obtain ⟨r_5, c_gone_6, c_sim_7, hc, h⟩ := bd3_some h
    refine j_callV (rest := []) (st1 := [.int r_5]) (ws' := (uX8_spare cyI cyJ cyS a0 c_latest c_typed c_tenants_1 c_room c_events c_gone_6 c_sim_7.1 c_sights c_drawn c_bytes c_tenant_3 c_event c_sim_7.2.1 c_sim_7.2.2.1 c_sim_7.2.2.2.1 c_sim_7.2.2.2.2.1 c_sim_7.2.2.2.2.2.1 c_sim_7.2.2.2.2.2.2.1 c_sim_7.2.2.2.2.2.2.2.1 c_sim_7.2.2.2.2.2.2.2.2.1 c_sim_7.2.2.2.2.2.2.2.2.2.1 c_sim_7.2.2.2.2.2.2.2.2.2.2.1 c_sim_7.2.2.2.2.2.2.2.2.2.2.2)) (T := TX8) (N := 29) (ci := 8) K (ctX8_spareBy l D cyI cyJ cyS a0 i1 c_latest c_typed c_sights c_drawn c_tenants_1 c_room c_events c_tenant_3 c_event c_gone c_sim_2 r_5 c_gone_6 c_sim_7 hc) (gdV mcL mw_29_9 mw_29_10 mw_29_11 mw_1_5 mw_29_12) rfl ⟨rfl, rfl⟩ hyX8_spareBy ⟨Nat.le_of_ble_eq_true rfl, Nat.le_of_ble_eq_true rfl, Nat.le_of_ble_eq_true rfl, Nat.le_of_ble_eq_true rfl⟩ [0, 2, 3, 4, 5, 6, 7, 8, 9, 10, 11, 12, 13, 14] (by decide) rfl [some 0, none, some 1, some 2, some 3, some 4, some 5, some 6, some 7, some 8, some 9, some 10, some 11, some 12, some 13] (by decide) rfl rfl 0 rfl rfl rfl rfl (Nat.le_of_ble_eq_true rfl) dX8_spare_18 rfl rfl ?_
    refine j_goto (pc' := 26) K dX8_spare_21 (by decide) ?_
    obtain ⟨e1, g1⟩ := Prod.mk.inj (Option.some.inj h)
    subst e1
    obtain ⟨e2, g2⟩ := Prod.mk.inj g1
    subst e2
    obtain ⟨e3, g3⟩ := Prod.mk.inj g2
    subst e3
    obtain ⟨e4, g4⟩ := Prod.mk.inj g3
    subst e4
    subst g4
    exact j_iret K dX8_spare_26
abbrev uX8_seen (cyI cyJ cyS : ClassId) (a0 : Nat → Nat) (c_latest : Int32) (c_typed : Int32) (c_tenants : Int32) (c_room : Int32) (c_events : Int32) (c_gone : Int32) (c_audit : Int32) (c_sights : Int32) (c_drawn : Int32) (c_sight : Nat → Int32) : va_W := [((a0 0), .inr (8, [.ref (a0 1), .ref (a0 2), .ref (a0 3), .ref (a0 4), .int c_latest, .ref (a0 5), .int c_typed, .int c_tenants, .ref (a0 6), .int c_room, .int c_events, .ref (a0 7), .int c_gone, .ref (a0 8), .ref (a0 9), .ref (a0 10), .ref (a0 11), .ref (a0 12), .ref (a0 13), .ref (a0 14), .ref (a0 15), .ref (a0 16), .ref (a0 17), .ref (a0 18), .int c_audit, .int c_sights, .ref (a0 19), .ref (a0 20), .int c_drawn])), ((a0 19), .inl (cyI, 24, .inl c_sight))]
abbrev rmX8_seen : Room := { frames := 2, cells := 0, slots := 0, locals := 45 }
abbrev wdX8_seen : List Cond := .code yX8_seen cX8_seen 4 (some .int) :: wsL_law
theorem hyX8_seen : yX8_seen.cls = RX8 ∧ yX8_seen.cls ≠ "java/lang/invoke/MethodHandle" ∧ yX8_seen.cls ≠ "java/lang/invoke/VarHandle" ∧ (parseMethodDescriptor yX8_seen.desc).map (fun d => d.parameters.length) = some 3 := by decide +kernel
set_option maxRecDepth 100000 in
set_option maxHeartbeats 4000000 in
theorem ctX8_seen (l : Launch) (D : va_G) (cyI cyJ cyS : ClassId) (a0 : Nat → Nat) (i1 : Int32) (i2 : Int32) (i3 : Int32) (c_latest : Int32) (c_typed : Int32) (c_tenants : Int32) (c_room : Int32) (c_events : Int32) (c_gone : Int32) (c_audit : Int32) (c_drawn : Int32) (c_sights : Int32) (c_sight : Nat → Int32) (o_r : Int32) (o_sights : Int32) (o_sight : Nat → Int32) (h : fX8_seen i1 i2 i3 c_sights c_sight = some (o_r, o_sights, o_sight)) : jC l yX8_seen wdX8_seen rmX8_seen D vwCl (tyz cyI cyJ cyS) [.ref (a0 0), .int i1, .int i2, .int i3] (uX8_seen cyI cyJ cyS a0 c_latest c_typed c_tenants c_room c_events c_gone c_audit c_sights c_drawn c_sight) (some (.int o_r)) (uX8_seen cyI cyJ cyS a0 c_latest c_typed c_tenants c_room c_events c_gone c_audit o_sights c_drawn o_sight) := by
  refine jC_of (cc := cX8_seen) (nL := 4) (ret := (some .int)) (own := RX8) (lv := [(0, .ref (a0 0)), (1, .int i1), (2, .int i2), (3, .int i3)]) (by decide) rfl rfl (Nat.le_of_ble_eq_true rfl) rfl ?_
  intro p e s m args below meth c A K
  unfold fX8_seen at h
  refine j_iload_n K 1 rfl dX8_seen_0 rfl ?_
  obtain ⟨r_1, hc, h⟩ := bd1_some h
  refine j_callS (rest := []) (st1 := [.int r_1]) (ws' := (uX8_seen cyI cyJ cyS a0 c_latest c_typed c_tenants c_room c_events c_gone c_audit c_sights c_drawn c_sight)) K (ctX8_isMonth l D cyI cyJ cyS i1 r_1 hc) (gdS mcL mw_11_14 mw_11_15 mw_1_5 mw_11_16) rfl ⟨rfl, rfl⟩ hzX8_isMonth ⟨Nat.le_of_ble_eq_true rfl, Nat.le_of_ble_eq_true rfl, Nat.le_of_ble_eq_true rfl, Nat.le_of_ble_eq_true rfl⟩ [] (by decide) rfl [none, none] (by decide) rfl rfl rfl rfl (Nat.le_of_ble_eq_true rfl) dX8_seen_1 rfl rfl ?_
  refine j_if_eq (tgt := 33) K dX8_seen_4 (by decide) rfl h (fun h => ?_) (fun h => ?_)
  · refine j_bipush (v := (-2 : Int32)) K (by decide) dX8_seen_33 rfl ?_
    obtain ⟨e1, g1⟩ := Prod.mk.inj (Option.some.inj h)
    subst e1
    obtain ⟨e2, g2⟩ := Prod.mk.inj g1
    subst e2
    subst g2
    exact j_iret K dX8_seen_35
  · refine j_iload_n K 2 rfl dX8_seen_7 rfl ?_
    refine j_i2l K dX8_seen_8 rfl ?_
    refine j_lconst (v := (0 : Int64)) K (by decide) dX8_seen_9 rfl ?_
    refine j_ldc2 (v := (7 : Int64)) K (List.mem_cons_of_mem _ mw_11_12) dX8_seen_10 rfl ?_
    obtain ⟨r_2, hc, h⟩ := bd1_some h
    refine j_callS (rest := []) (st1 := [.int r_2]) (ws' := (uX8_seen cyI cyJ cyS a0 c_latest c_typed c_tenants c_room c_events c_gone c_audit c_sights c_drawn c_sight)) K (ctX8_in l D cyI cyJ cyS (Int32.toInt64 i2) (0 : Int64) (7 : Int64) r_2 hc) (gdS mcL mw_7_22 mw_7_23 mw_1_5 mw_8_0) rfl ⟨rfl, rfl⟩ hzX8_in ⟨Nat.le_of_ble_eq_true rfl, Nat.le_of_ble_eq_true rfl, Nat.le_of_ble_eq_true rfl, Nat.le_of_ble_eq_true rfl⟩ [] (by decide) rfl [none, none] (by decide) rfl rfl rfl rfl (Nat.le_of_ble_eq_true rfl) dX8_seen_13 rfl rfl ?_
    refine j_if_eq (tgt := 33) K dX8_seen_16 (by decide) rfl h (fun h => ?_) (fun h => ?_)
    · refine j_bipush (v := (-2 : Int32)) K (by decide) dX8_seen_33 rfl ?_
      obtain ⟨e1, g1⟩ := Prod.mk.inj (Option.some.inj h)
      subst e1
      obtain ⟨e2, g2⟩ := Prod.mk.inj g1
      subst e2
      subst g2
      exact j_iret K dX8_seen_35
    · refine j_iload_n K 3 rfl dX8_seen_19 rfl ?_
      refine j_i2l K dX8_seen_20 rfl ?_
      refine j_ldc2 (v := (-1 : Int64)) K (List.mem_cons_of_mem _ mw_29_8) dX8_seen_21 rfl ?_
      refine j_ldc2 (v := (12 : Int64)) K (List.mem_cons_of_mem _ mw_20_6) dX8_seen_24 rfl ?_
      obtain ⟨r_3, hc, h⟩ := bd1_some h
      refine j_callS (rest := []) (st1 := [.int r_3]) (ws' := (uX8_seen cyI cyJ cyS a0 c_latest c_typed c_tenants c_room c_events c_gone c_audit c_sights c_drawn c_sight)) K (ctX8_in l D cyI cyJ cyS (Int32.toInt64 i3) (-1 : Int64) (12 : Int64) r_3 hc) (gdS mcL mw_7_22 mw_7_23 mw_1_5 mw_8_0) rfl ⟨rfl, rfl⟩ hzX8_in ⟨Nat.le_of_ble_eq_true rfl, Nat.le_of_ble_eq_true rfl, Nat.le_of_ble_eq_true rfl, Nat.le_of_ble_eq_true rfl⟩ [] (by decide) rfl [none, none] (by decide) rfl rfl rfl rfl (Nat.le_of_ble_eq_true rfl) dX8_seen_27 rfl rfl ?_
      refine j_if_ne (tgt := 36) K dX8_seen_30 (by decide) rfl h (fun h => ?_) (fun h => ?_)
      · refine j_aload_n K 0 rfl dX8_seen_36 rfl ?_
        refine j_getf (C := RX8) (T := TX8) (N := 29) (ci := 8) K icX8 0 25 (List.mem_cons_of_mem _ mw_30_6) rfl rfl rfl (by decide) rfl dX8_seen_37 rfl ?_
        refine j_bipush (v := (8 : Int32)) K (by decide) dX8_seen_40 rfl ?_
        refine j_icmp_ne (tgt := 48) K dX8_seen_42 (by decide) rfl h (fun h => ?_) (fun h => ?_)
        · refine j_aload_n K 0 rfl dX8_seen_48 rfl ?_
          refine j_getf (C := RX8) (T := TX8) (N := 29) (ci := 8) K icX8 0 26 (List.mem_cons_of_mem _ mw_6_2) rfl rfl rfl (by decide) rfl dX8_seen_49 rfl ?_
          refine j_iconst (v := (3 : Int32)) K (by decide) dX8_seen_52 rfl ?_
          refine j_aload_n K 0 rfl dX8_seen_53 rfl ?_
          refine j_getf (C := RX8) (T := TX8) (N := 29) (ci := 8) K icX8 0 25 (List.mem_cons_of_mem _ mw_30_6) rfl rfl rfl (by decide) rfl dX8_seen_54 rfl ?_
          refine j_imul K dX8_seen_57 rfl ?_
          refine j_iload_n K 1 rfl dX8_seen_58 rfl ?_
          refine j_iast K 1 0 (fun z => (uX8_seen cyI cyJ cyS a0 c_latest c_typed c_tenants c_room c_events c_gone c_audit c_sights c_drawn z)) rfl rfl (fun _ => rfl) dX8_seen_59 rfl h (fun c_sight_4 h => ?_)
          refine j_aload_n K 0 rfl dX8_seen_60 rfl ?_
          refine j_getf (C := RX8) (T := TX8) (N := 29) (ci := 8) K icX8 0 26 (List.mem_cons_of_mem _ mw_6_2) rfl rfl rfl (by decide) rfl dX8_seen_61 rfl ?_
          refine j_iconst (v := (3 : Int32)) K (by decide) dX8_seen_64 rfl ?_
          refine j_aload_n K 0 rfl dX8_seen_65 rfl ?_
          refine j_getf (C := RX8) (T := TX8) (N := 29) (ci := 8) K icX8 0 25 (List.mem_cons_of_mem _ mw_30_6) rfl rfl rfl (by decide) rfl dX8_seen_66 rfl ?_
          refine j_imul K dX8_seen_69 rfl ?_
          refine j_iconst (v := (1 : Int32)) K (by decide) dX8_seen_70 rfl ?_
          refine j_iadd K dX8_seen_71 rfl ?_
          refine j_iload_n K 2 rfl dX8_seen_72 rfl ?_
          refine j_iast K 1 0 (fun z => (uX8_seen cyI cyJ cyS a0 c_latest c_typed c_tenants c_room c_events c_gone c_audit c_sights c_drawn z)) rfl rfl (fun _ => rfl) dX8_seen_73 rfl h (fun c_sight_5 h => ?_)
          refine j_aload_n K 0 rfl dX8_seen_74 rfl ?_
          refine j_getf (C := RX8) (T := TX8) (N := 29) (ci := 8) K icX8 0 26 (List.mem_cons_of_mem _ mw_6_2) rfl rfl rfl (by decide) rfl dX8_seen_75 rfl ?_
          refine j_iconst (v := (3 : Int32)) K (by decide) dX8_seen_78 rfl ?_
          refine j_aload_n K 0 rfl dX8_seen_79 rfl ?_
          refine j_getf (C := RX8) (T := TX8) (N := 29) (ci := 8) K icX8 0 25 (List.mem_cons_of_mem _ mw_30_6) rfl rfl rfl (by decide) rfl dX8_seen_80 rfl ?_
          refine j_imul K dX8_seen_83 rfl ?_
          refine j_iconst (v := (2 : Int32)) K (by decide) dX8_seen_84 rfl ?_
          refine j_iadd K dX8_seen_85 rfl ?_
          refine j_iload_n K 3 rfl dX8_seen_86 rfl ?_
          refine j_iast K 1 0 (fun z => (uX8_seen cyI cyJ cyS a0 c_latest c_typed c_tenants c_room c_events c_gone c_audit c_sights c_drawn z)) rfl rfl (fun _ => rfl) dX8_seen_87 rfl h (fun c_sight_6 h => ?_)
          refine j_aload_n K 0 rfl dX8_seen_88 rfl ?_
          refine j_dup K rfl dX8_seen_89 rfl ?_
          refine j_getf (C := RX8) (T := TX8) (N := 29) (ci := 8) K icX8 0 25 (List.mem_cons_of_mem _ mw_30_6) rfl rfl rfl (by decide) rfl dX8_seen_90 rfl ?_
          refine j_iconst (v := (1 : Int32)) K (by decide) dX8_seen_93 rfl ?_
          refine j_iadd K dX8_seen_94 rfl ?_
          refine j_nmI h (fun c_sights_7 h => ?_)
          refine j_putf (C := RX8) (T := TX8) (N := 29) (ci := 8) (ty := .int) (ws' := (uX8_seen cyI cyJ cyS a0 c_latest c_typed c_tenants c_room c_events c_gone c_audit c_sights_7 c_drawn c_sight_6)) K icX8 tyX8 tyX8_ok nmX8 0 25 (List.mem_cons_of_mem _ mw_30_6) rfl rfl rfl (by decide) rfl (by decide +kernel) rfl rfl (Nat.le_of_ble_eq_true rfl) rfl dX8_seen_95 rfl ?_
          refine j_aload_n K 0 rfl dX8_seen_98 rfl ?_
          refine j_getf (C := RX8) (T := TX8) (N := 29) (ci := 8) K icX8 0 25 (List.mem_cons_of_mem _ mw_30_6) rfl rfl rfl (by decide) rfl dX8_seen_99 rfl ?_
          obtain ⟨e1, g1⟩ := Prod.mk.inj (Option.some.inj h)
          subst e1
          obtain ⟨e2, g2⟩ := Prod.mk.inj g1
          subst e2
          subst g2
          exact j_iret K dX8_seen_102
        · refine j_bipush (v := (-4 : Int32)) K (by decide) dX8_seen_45 rfl ?_
          obtain ⟨e1, g1⟩ := Prod.mk.inj (Option.some.inj h)
          subst e1
          obtain ⟨e2, g2⟩ := Prod.mk.inj g1
          subst e2
          subst g2
          exact j_iret K dX8_seen_47
      · refine j_bipush (v := (-2 : Int32)) K (by decide) dX8_seen_33 rfl ?_
        obtain ⟨e1, g1⟩ := Prod.mk.inj (Option.some.inj h)
        subst e1
        obtain ⟨e2, g2⟩ := Prod.mk.inj g1
        subst e2
        subst g2
        exact j_iret K dX8_seen_35
end GEN
