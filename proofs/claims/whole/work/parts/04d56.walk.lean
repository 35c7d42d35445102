section GEN
variable {p : Program} {l : Launch} {e : Env} {s : State} {m : MethodId} {args : Array Value} {below : List Frame} {meth : Method} {c : Code} {A : Nat → Prop} {D : va_G} {cyI cyJ cyS : ClassId}
abbrev uX8_atBy (cyI cyJ cyS : ClassId) (a0 : Nat → Nat) (c_latest : Int32) (c_typed : Int32) (c_tenants : Int32) (c_room : Int32) (c_events : Int32) (c_gone : Int32) (c_audit : Int32) (c_sights : Int32) (c_drawn : Int32) (c_floorBy : Nat → Int32) (c_leftBy : Nat → Int32) (c_fellBy : Nat → Int32) : va_W := [((a0 0), .inr (8, [.ref (a0 1), .ref (a0 2), .ref (a0 3), .ref (a0 4), .int c_latest, .ref (a0 5), .int c_typed, .int c_tenants, .ref (a0 6), .int c_room, .int c_events, .ref (a0 7), .int c_gone, .ref (a0 8), .ref (a0 9), .ref (a0 10), .ref (a0 11), .ref (a0 12), .ref (a0 13), .ref (a0 14), .ref (a0 15), .ref (a0 16), .ref (a0 17), .ref (a0 18), .int c_audit, .int c_sights, .ref (a0 19), .ref (a0 20), .int c_drawn])), ((a0 16), .inl (cyI, 192, .inl c_floorBy)), ((a0 17), .inl (cyI, 192, .inl c_leftBy)), ((a0 18), .inl (cyI, 192, .inl c_fellBy))]
abbrev rmX8_atBy : Room := { frames := 2, cells := 0, slots := 0, locals := 41 }
abbrev wdX8_atBy : List Cond := .code yX8_atBy cX8_atBy 5 (some .int) :: wsL_law
theorem hyX8_atBy : yX8_atBy.cls = RX8 ∧ yX8_atBy.cls ≠ "java/lang/invoke/MethodHandle" ∧ yX8_atBy.cls ≠ "java/lang/invoke/VarHandle" ∧ (parseMethodDescriptor yX8_atBy.desc).map (fun d => d.parameters.length) = some 3 := by decide +kernel
set_option maxRecDepth 100000 in
set_option maxHeartbeats 4000000 in
theorem ctX8_atBy (l : Launch) (D : va_G) (cyI cyJ cyS : ClassId) (a0 : Nat → Nat) (i1 : Int32) (i2 : Int32) (i3 : Int32) (c_latest : Int32) (c_typed : Int32) (c_tenants : Int32) (c_room : Int32) (c_events : Int32) (c_gone : Int32) (c_audit : Int32) (c_sights : Int32) (c_drawn : Int32) (c_floorBy : Nat → Int32) (c_leftBy : Nat → Int32) (c_fellBy : Nat → Int32) (o_r : Int32) (h : fX8_atBy i1 i2 i3 c_floorBy c_leftBy c_fellBy = some (o_r)) : jC l yX8_atBy wdX8_atBy rmX8_atBy D vwCl (tyz cyI cyJ cyS) [.ref (a0 0), .int i1, .int i2, .int i3] (uX8_atBy cyI cyJ cyS a0 c_latest c_typed c_tenants c_room c_events c_gone c_audit c_sights c_drawn c_floorBy c_leftBy c_fellBy) (some (.int o_r)) (uX8_atBy cyI cyJ cyS a0 c_latest c_typed c_tenants c_room c_events c_gone c_audit c_sights c_drawn c_floorBy c_leftBy c_fellBy) := by
  refine jC_of (cc := cX8_atBy) (nL := 5) (ret := (some .int)) (own := RX8) (lv := [(0, .ref (a0 0)), (1, .int i1), (2, .int i2), (3, .int i3)]) (by decide) rfl rfl (Nat.le_of_ble_eq_true rfl) rfl ?_
  intro p e s m args below meth c A K
  unfold fX8_atBy at h
  refine j_bipush (v := (8 : Int32)) K (by decide) dX8_atBy_0 rfl ?_
  refine j_iload_n K 1 rfl dX8_atBy_2 rfl ?_
  refine j_imul K dX8_atBy_3 rfl ?_
  refine j_iload_n K 2 rfl dX8_atBy_4 rfl ?_
  refine j_iadd K dX8_atBy_5 rfl ?_
  refine j_nmI h (fun i4_1 h => ?_)
  refine j_istore (lv' := [(4, .int i4_1), (0, .ref (a0 0)), (1, .int i1), (2, .int i2), (3, .int i3)]) K (by decide) rfl dX8_atBy_6 rfl ?_
  refine j_iload_n K 4 rfl dX8_atBy_8 rfl ?_
  refine j_if_ne (tgt := 22) K dX8_atBy_9 (by decide) rfl h (fun h => ?_) (fun h => ?_)
  · refine j_iload_n K 4 rfl dX8_atBy_22 rfl ?_
    refine j_iconst (v := (1 : Int32)) K (by decide) dX8_atBy_23 rfl ?_
    refine j_icmp_ne (tgt := 37) K dX8_atBy_24 (by decide) rfl h (fun h => ?_) (fun h => ?_)
    · refine j_iload_n K 4 rfl dX8_atBy_37 rfl ?_
      refine j_iconst (v := (2 : Int32)) K (by decide) dX8_atBy_38 rfl ?_
      refine j_icmp_ne (tgt := 51) K dX8_atBy_39 (by decide) rfl h (fun h => ?_) (fun h => ?_)
      · refine j_aload_n K 1 rfl dX8_atBy_51 rfl ?_
        refine j_getf (C := RX8) (T := TX8) (N := 29) (ci := 8) K icX8 0 23 (List.mem_cons_of_mem _ mw_6_1) rfl rfl rfl (by decide) rfl dX8_atBy_52 rfl ?_
        refine j_iload K 0 rfl dX8_atBy_55 rfl ?_
        refine j_iald K 3 0 rfl rfl dX8_atBy_57 rfl h (fun v_2 h => ?_)
        have h := Option.some.inj h
        subst h
        exact j_iret K dX8_atBy_58
      · refine j_aload_n K 1 rfl dX8_atBy_42 rfl ?_
        refine j_iload K 0 rfl dX8_atBy_43 rfl ?_
        obtain ⟨r_3, hc, h⟩ := bd1_some h
        refine j_callV (rest := []) (st1 := [.int r_3]) (ws' := (uX8_atBy cyI cyJ cyS a0 c_latest c_typed c_tenants c_room c_events c_gone c_audit c_sights c_drawn c_floorBy c_leftBy c_fellBy)) (T := TX8) (N := 29) (ci := 8) K (ctX8_owes l D cyI cyJ cyS a0 i4_1 c_latest c_typed c_tenants c_room c_events c_gone c_audit c_sights c_drawn c_floorBy c_leftBy r_3 hc) (gdV mcL mw_19_11 mw_19_12 mw_19_13 mw_1_5 mw_19_14) rfl ⟨rfl, rfl⟩ hyX8_owes ⟨Nat.le_of_ble_eq_true rfl, Nat.le_of_ble_eq_true rfl, Nat.le_of_ble_eq_true rfl, Nat.le_of_ble_eq_true rfl⟩ [0, 1, 2] (by decide) rfl [some 0, some 1, some 2, none] (by decide) rfl rfl 0 rfl rfl rfl rfl (Nat.le_of_ble_eq_true rfl) dX8_atBy_45 rfl rfl ?_
        refine j_goto (pc' := 58) K dX8_atBy_48 (by decide) ?_
        have h := Option.some.inj h
        subst h
        exact j_iret K dX8_atBy_58
    · refine j_aload_n K 1 rfl dX8_atBy_27 rfl ?_
      refine j_getf (C := RX8) (T := TX8) (N := 29) (ci := 8) K icX8 0 22 (List.mem_cons_of_mem _ mw_6_0) rfl rfl rfl (by decide) rfl dX8_atBy_28 rfl ?_
      refine j_iload K 0 rfl dX8_atBy_31 rfl ?_
      refine j_iald K 2 0 rfl rfl dX8_atBy_33 rfl h (fun v_4 h => ?_)
      refine j_goto (pc' := 58) K dX8_atBy_34 (by decide) ?_
      have h := Option.some.inj h
      subst h
      exact j_iret K dX8_atBy_58
  · refine j_aload_n K 1 rfl dX8_atBy_12 rfl ?_
    refine j_getf (C := RX8) (T := TX8) (N := 29) (ci := 8) K icX8 0 21 (List.mem_cons_of_mem _ mw_5_23) rfl rfl rfl (by decide) rfl dX8_atBy_13 rfl ?_
    refine j_iload K 0 rfl dX8_atBy_16 rfl ?_
    refine j_iald K 1 0 rfl rfl dX8_atBy_18 rfl h (fun v_5 h => ?_)
    refine j_goto (pc' := 58) K dX8_atBy_19 (by decide) ?_
    have h := Option.some.inj h
    subst h
    exact j_iret K dX8_atBy_58
abbrev uX8_at (cyI cyJ cyS : ClassId) (a0 : Nat → Nat) (c_latest : Int32) (c_typed : Int32) (c_tenants : Int32) (c_room : Int32) (c_events : Int32) (c_gone : Int32) (c_audit : Int32) (c_sights : Int32) (c_drawn : Int32) (c_bytes : Nat → Int32) (c_tenant : Nat → Int32) (c_event : Nat → Int32) (c_floor : Nat → Int32) (c_before : Nat → Int32) (c_left : Nat → Int32) (c_settled : Nat → Int32) (c_fell : Nat → Int32) (c_past : Nat → Int32) (c_highest : Nat → Int32) (c_many : Nat → Int32) (c_floorBy : Nat → Int32) (c_leftBy : Nat → Int32) (c_fellBy : Nat → Int32) : va_W := [((a0 0), .inr (8, [.ref (a0 1), .ref (a0 2), .ref (a0 3), .ref (a0 4), .int c_latest, .ref (a0 5), .int c_typed, .int c_tenants, .ref (a0 6), .int c_room, .int c_events, .ref (a0 7), .int c_gone, .ref (a0 8), .ref (a0 9), .ref (a0 10), .ref (a0 11), .ref (a0 12), .ref (a0 13), .ref (a0 14), .ref (a0 15), .ref (a0 16), .ref (a0 17), .ref (a0 18), .int c_audit, .int c_sights, .ref (a0 19), .ref (a0 20), .int c_drawn])), ((a0 5), .inl (cyI, 31, .inl c_bytes)), ((a0 6), .inl (cyI, 24, .inl c_tenant)), ((a0 7), .inl (cyI, 24, .inl c_event)), ((a0 8), .inl (cyI, 8, .inl c_floor)), ((a0 9), .inl (cyI, 8, .inl c_before)), ((a0 10), .inl (cyI, 8, .inl c_left)), ((a0 11), .inl (cyI, 8, .inl c_settled)), ((a0 12), .inl (cyI, 8, .inl c_fell)), ((a0 13), .inl (cyI, 8, .inl c_past)), ((a0 14), .inl (cyI, 8, .inl c_highest)), ((a0 15), .inl (cyI, 13, .inl c_many)), ((a0 16), .inl (cyI, 192, .inl c_floorBy)), ((a0 17), .inl (cyI, 192, .inl c_leftBy)), ((a0 18), .inl (cyI, 192, .inl c_fellBy))]
abbrev rmX8_at : Room := { frames := 6, cells := 0, slots := 0, locals := 134 }
abbrev wdX8_at : List Cond := .code yX8_at cX8_at 4 (some .int) :: wsL_law
theorem hyX8_at : yX8_at.cls = RX8 ∧ yX8_at.cls ≠ "java/lang/invoke/MethodHandle" ∧ yX8_at.cls ≠ "java/lang/invoke/VarHandle" ∧ (parseMethodDescriptor yX8_at.desc).map (fun d => d.parameters.length) = some 3 := by decide +kernel
set_option maxRecDepth 100000 in
set_option maxHeartbeats 4000000 in
theorem ctX8_at (l : Launch) (D : va_G) (cyI cyJ cyS : ClassId) (a0 : Nat → Nat) (i1 : Int32) (i2 : Int32) (i3 : Int32) (c_latest : Int32) (c_sights : Int32) (c_drawn : Int32) (c_typed : Int32) (c_room : Int32) (c_events : Int32) (c_gone : Int32) (c_bytes : Nat → Int32) (c_event : Nat → Int32) (c_tenants : Int32) (c_sim : jT11) (c_tenant : Nat → Int32) (o_r : Int32) (o_tenants : Int32) (o_sim : jT11) (o_tenant : Nat → Int32) (h : fX8_at i1 i2 i3 c_typed c_room c_events c_gone c_bytes c_event c_tenants c_sim c_tenant = some (o_r, o_tenants, o_sim, o_tenant)) : jC l yX8_at wdX8_at rmX8_at D vwCl (tyz cyI cyJ cyS) [.ref (a0 0), .int i1, .int i2, .int i3] (uX8_at cyI cyJ cyS a0 c_latest c_typed c_tenants c_room c_events c_gone c_sim.1 c_sights c_drawn c_bytes c_tenant c_event c_sim.2.1 c_sim.2.2.1 c_sim.2.2.2.1 c_sim.2.2.2.2.1 c_sim.2.2.2.2.2.1 c_sim.2.2.2.2.2.2.1 c_sim.2.2.2.2.2.2.2.1 c_sim.2.2.2.2.2.2.2.2.1 c_sim.2.2.2.2.2.2.2.2.2.1 c_sim.2.2.2.2.2.2.2.2.2.2.1 c_sim.2.2.2.2.2.2.2.2.2.2.2) (some (.int o_r)) (uX8_at cyI cyJ cyS a0 c_latest c_typed o_tenants c_room c_events c_gone o_sim.1 c_sights c_drawn c_bytes o_tenant c_event o_sim.2.1 o_sim.2.2.1 o_sim.2.2.2.1 o_sim.2.2.2.2.1 o_sim.2.2.2.2.2.1 o_sim.2.2.2.2.2.2.1 o_sim.2.2.2.2.2.2.2.1 o_sim.2.2.2.2.2.2.2.2.1 o_sim.2.2.2.2.2.2.2.2.2.1 o_sim.2.2.2.2.2.2.2.2.2.2.1 o_sim.2.2.2.2.2.2.2.2.2.2.2) := by
  refine jC_of (cc := cX8_at) (nL := 4) (ret := (some .int)) (own := RX8) (lv := [(0, .ref (a0 0)), (1, .int i1), (2, .int i2), (3, .int i3)]) (by decide) rfl rfl (Nat.le_of_ble_eq_true rfl) rfl ?_
  intro p e s m args below meth c A K
  unfold fX8_at at h
  refine j_aload_n K 0 rfl dX8_at_0 rfl ?_
  obtain ⟨c_tenants_1, c_sim_2, c_tenant_3, hc, h⟩ := bd3_some h
  refine j_callV (rest := []) (st1 := []) (ws' := (uX8_at cyI cyJ cyS a0 c_latest c_typed c_tenants_1 c_room c_events c_gone c_sim_2.1 c_sights c_drawn c_bytes c_tenant_3 c_event c_sim_2.2.1 c_sim_2.2.2.1 c_sim_2.2.2.2.1 c_sim_2.2.2.2.2.1 c_sim_2.2.2.2.2.2.1 c_sim_2.2.2.2.2.2.2.1 c_sim_2.2.2.2.2.2.2.2.1 c_sim_2.2.2.2.2.2.2.2.2.1 c_sim_2.2.2.2.2.2.2.2.2.2.1 c_sim_2.2.2.2.2.2.2.2.2.2.2.1 c_sim_2.2.2.2.2.2.2.2.2.2.2.2)) (T := TX8) (N := 29) (ci := 8) K (ctX8_find l D cyI cyJ cyS a0 c_latest c_sights c_drawn c_typed c_room c_events c_gone c_bytes c_event c_tenants c_sim c_tenant c_tenants_1 c_sim_2 c_tenant_3 hc) (gdV mcL mw_17_12 mw_17_13 mw_17_14 mw_1_5 mw_17_15) rfl ⟨rfl, rfl⟩ hyX8_find ⟨Nat.le_of_ble_eq_true rfl, Nat.le_of_ble_eq_true rfl, Nat.le_of_ble_eq_true rfl, Nat.le_of_ble_eq_true rfl⟩ [0, 1, 2, 3, 4, 5, 6, 7, 8, 9, 10, 11, 12, 13, 14] (by decide) rfl [some 0, some 1, some 2, some 3, some 4, some 5, some 6, some 7, some 8, some 9, some 10, some 11, some 12, some 13, some 14] (by decide) rfl rfl 0 rfl rfl rfl rfl (Nat.le_of_ble_eq_true rfl) dX8_at_1 rfl rfl ?_
  refine j_iload_n K 1 rfl dX8_at_4 rfl ?_
  obtain ⟨r_4, hc, h⟩ := bd1_some h
  refine j_callS (rest := []) (st1 := [.int r_4]) (ws' := (uX8_at cyI cyJ cyS a0 c_latest c_typed c_tenants_1 c_room c_events c_gone c_sim_2.1 c_sights c_drawn c_bytes c_tenant_3 c_event c_sim_2.2.1 c_sim_2.2.2.1 c_sim_2.2.2.2.1 c_sim_2.2.2.2.2.1 c_sim_2.2.2.2.2.2.1 c_sim_2.2.2.2.2.2.2.1 c_sim_2.2.2.2.2.2.2.2.1 c_sim_2.2.2.2.2.2.2.2.2.1 c_sim_2.2.2.2.2.2.2.2.2.2.1 c_sim_2.2.2.2.2.2.2.2.2.2.2.1 c_sim_2.2.2.2.2.2.2.2.2.2.2.2)) K (ctX8_isMonth l D cyI cyJ cyS i1 r_4 hc) (gdS mcL mw_11_14 mw_11_15 mw_1_5 mw_11_16) rfl ⟨rfl, rfl⟩ hzX8_isMonth ⟨Nat.le_of_ble_eq_true rfl, Nat.le_of_ble_eq_true rfl, Nat.le_of_ble_eq_true rfl, Nat.le_of_ble_eq_true rfl⟩ [] (by decide) rfl [none, none, none, none, none, none, none, none, none, none, none, none, none, none, none] (by decide) rfl rfl rfl rfl (Nat.le_of_ble_eq_true rfl) dX8_at_5 rfl rfl ?_
  refine j_if_eq (tgt := 41) K dX8_at_8 (by decide) rfl h (fun h => ?_) (fun h => ?_)
  · refine j_ldc (v := (-2147483648 : Int32)) K (List.mem_cons_of_mem _ mw_17_11) dX8_at_41 rfl ?_
    obtain ⟨e1, g1⟩ := Prod.mk.inj (Option.some.inj h)
    subst e1
    obtain ⟨e2, g2⟩ := Prod.mk.inj g1
    subst e2
    obtain ⟨e3, g3⟩ := Prod.mk.inj g2
    subst e3
    subst g3
    exact j_iret K dX8_at_43
  · refine j_aload_n K 0 rfl dX8_at_11 rfl ?_
    refine j_iload_n K 2 rfl dX8_at_12 rfl ?_
    obtain ⟨r_5, hc, h⟩ := bd1_some h
    refine j_callV (rest := []) (st1 := [.int r_5]) (ws' := (uX8_at cyI cyJ cyS a0 c_latest c_typed c_tenants_1 c_room c_events c_gone c_sim_2.1 c_sights c_drawn c_bytes c_tenant_3 c_event c_sim_2.2.1 c_sim_2.2.2.1 c_sim_2.2.2.2.1 c_sim_2.2.2.2.2.1 c_sim_2.2.2.2.2.2.1 c_sim_2.2.2.2.2.2.2.1 c_sim_2.2.2.2.2.2.2.2.1 c_sim_2.2.2.2.2.2.2.2.2.1 c_sim_2.2.2.2.2.2.2.2.2.2.1 c_sim_2.2.2.2.2.2.2.2.2.2.2.1 c_sim_2.2.2.2.2.2.2.2.2.2.2.2)) (T := TX8) (N := 29) (ci := 8) K (ctX8_isTenant l D cyI cyJ cyS a0 i2 c_latest c_typed c_room c_events c_gone c_sim_2.1 c_sights c_drawn c_tenants_1 r_5 hc) (gdV mcL mw_10_5 mw_10_6 mw_10_7 mw_1_5 mw_10_8) rfl ⟨rfl, rfl⟩ hyX8_isTenant ⟨Nat.le_of_ble_eq_true rfl, Nat.le_of_ble_eq_true rfl, Nat.le_of_ble_eq_true rfl, Nat.le_of_ble_eq_true rfl⟩ [0] (by decide) rfl [some 0, none, none, none, none, none, none, none, none, none, none, none, none, none, none] (by decide) rfl rfl 0 rfl rfl rfl rfl (Nat.le_of_ble_eq_true rfl) dX8_at_13 rfl rfl ?_
    refine j_if_eq (tgt := 41) K dX8_at_16 (by decide) rfl h (fun h => ?_) (fun h => ?_)
    · refine j_ldc (v := (-2147483648 : Int32)) K (List.mem_cons_of_mem _ mw_17_11) dX8_at_41 rfl ?_
      obtain ⟨e1, g1⟩ := Prod.mk.inj (Option.some.inj h)
      subst e1
      obtain ⟨e2, g2⟩ := Prod.mk.inj g1
      subst e2
      obtain ⟨e3, g3⟩ := Prod.mk.inj g2
      subst e3
      subst g3
      exact j_iret K dX8_at_43
    · refine j_iload_n K 3 rfl dX8_at_19 rfl ?_
      refine j_i2l K dX8_at_20 rfl ?_
      refine j_lconst (v := (0 : Int64)) K (by decide) dX8_at_21 rfl ?_
      refine j_ldc2 (v := (3 : Int64)) K (List.mem_cons_of_mem _ mw_12_21) dX8_at_22 rfl ?_
      obtain ⟨r_6, hc, h⟩ := bd1_some h
      refine j_callS (rest := []) (st1 := [.int r_6]) (ws' := (uX8_at cyI cyJ cyS a0 c_latest c_typed c_tenants_1 c_room c_events c_gone c_sim_2.1 c_sights c_drawn c_bytes c_tenant_3 c_event c_sim_2.2.1 c_sim_2.2.2.1 c_sim_2.2.2.2.1 c_sim_2.2.2.2.2.1 c_sim_2.2.2.2.2.2.1 c_sim_2.2.2.2.2.2.2.1 c_sim_2.2.2.2.2.2.2.2.1 c_sim_2.2.2.2.2.2.2.2.2.1 c_sim_2.2.2.2.2.2.2.2.2.2.1 c_sim_2.2.2.2.2.2.2.2.2.2.2.1 c_sim_2.2.2.2.2.2.2.2.2.2.2.2)) K (ctX8_in l D cyI cyJ cyS (Int32.toInt64 i3) (0 : Int64) (3 : Int64) r_6 hc) (gdS mcL mw_7_22 mw_7_23 mw_1_5 mw_8_0) rfl ⟨rfl, rfl⟩ hzX8_in ⟨Nat.le_of_ble_eq_true rfl, Nat.le_of_ble_eq_true rfl, Nat.le_of_ble_eq_true rfl, Nat.le_of_ble_eq_true rfl⟩ [] (by decide) rfl [none, none, none, none, none, none, none, none, none, none, none, none, none, none, none] (by decide) rfl rfl rfl rfl (Nat.le_of_ble_eq_true rfl) dX8_at_25 rfl rfl ?_
      refine j_if_eq (tgt := 41) K dX8_at_28 (by decide) rfl h (fun h => ?_) (fun h => ?_)
      · refine j_ldc (v := (-2147483648 : Int32)) K (List.mem_cons_of_mem _ mw_17_11) dX8_at_41 rfl ?_
        obtain ⟨e1, g1⟩ := Prod.mk.inj (Option.some.inj h)
        subst e1
        obtain ⟨e2, g2⟩ := Prod.mk.inj g1
        subst e2
        obtain ⟨e3, g3⟩ := Prod.mk.inj g2
        subst e3
        subst g3
        exact j_iret K dX8_at_43
      · refine j_aload_n K 0 rfl dX8_at_31 rfl ?_
        refine j_iload_n K 1 rfl dX8_at_32 rfl ?_
        refine j_iload_n K 2 rfl dX8_at_33 rfl ?_
        refine j_iload_n K 3 rfl dX8_at_34 rfl ?_
        obtain ⟨r_7, hc, h⟩ := bd1_some h
        refine j_callV (rest := []) (st1 := [.int r_7]) (ws' := (uX8_at cyI cyJ cyS a0 c_latest c_typed c_tenants_1 c_room c_events c_gone c_sim_2.1 c_sights c_drawn c_bytes c_tenant_3 c_event c_sim_2.2.1 c_sim_2.2.2.1 c_sim_2.2.2.2.1 c_sim_2.2.2.2.2.1 c_sim_2.2.2.2.2.2.1 c_sim_2.2.2.2.2.2.2.1 c_sim_2.2.2.2.2.2.2.2.1 c_sim_2.2.2.2.2.2.2.2.2.1 c_sim_2.2.2.2.2.2.2.2.2.2.1 c_sim_2.2.2.2.2.2.2.2.2.2.2.1 c_sim_2.2.2.2.2.2.2.2.2.2.2.2)) (T := TX8) (N := 29) (ci := 8) K (ctX8_atBy l D cyI cyJ cyS a0 i1 i2 i3 c_latest c_typed c_tenants_1 c_room c_events c_gone c_sim_2.1 c_sights c_drawn c_sim_2.2.2.2.2.2.2.2.2.2.1 c_sim_2.2.2.2.2.2.2.2.2.2.2.1 c_sim_2.2.2.2.2.2.2.2.2.2.2.2 r_7 hc) (gdV mcL mw_19_7 mw_19_8 mw_19_9 mw_1_5 mw_19_10) rfl ⟨rfl, rfl⟩ hyX8_atBy ⟨Nat.le_of_ble_eq_true rfl, Nat.le_of_ble_eq_true rfl, Nat.le_of_ble_eq_true rfl, Nat.le_of_ble_eq_true rfl⟩ [0, 12, 13, 14] (by decide) rfl [some 0, none, none, none, none, none, none, none, none, none, none, none, some 1, some 2, some 3] (by decide) rfl rfl 0 rfl rfl rfl rfl (Nat.le_of_ble_eq_true rfl) dX8_at_35 rfl rfl ?_
        refine j_goto (pc' := 43) K dX8_at_38 (by decide) ?_
        obtain ⟨e1, g1⟩ := Prod.mk.inj (Option.some.inj h)
        subst e1
        obtain ⟨e2, g2⟩ := Prod.mk.inj g1
        subst e2
        obtain ⟨e3, g3⟩ := Prod.mk.inj g2
        subst e3
        subst g3
        exact j_iret K dX8_at_43
end GEN
