section GEN
variable {p : Program} {l : Launch} {e : Env} {s : State} {m : MethodId} {args : Array Value} {below : List Frame} {meth : Method} {c : Code} {A : Nat → Prop} {D : va_G} {cyI cyJ cyS : ClassId}
abbrev uX8_endsBy (cyI cyJ cyS : ClassId) (a0 : Nat → Nat) (c_latest : Int32) (c_typed : Int32) (c_tenants : Int32) (c_room : Int32) (c_events : Int32) (c_gone : Int32) (c_audit : Int32) (c_sights : Int32) (c_drawn : Int32) (c_settled : Nat → Int32) (c_fell : Nat → Int32) (c_past : Nat → Int32) (c_highest : Nat → Int32) : va_W := [((a0 0), .inr (8, [.ref (a0 1), .ref (a0 2), .ref (a0 3), .ref (a0 4), .int c_latest, .ref (a0 5), .int c_typed, .int c_tenants, .ref (a0 6), .int c_room, .int c_events, .ref (a0 7), .int c_gone, .ref (a0 8), .ref (a0 9), .ref (a0 10), .ref (a0 11), .ref (a0 12), .ref (a0 13), .ref (a0 14), .ref (a0 15), .ref (a0 16), .ref (a0 17), .ref (a0 18), .int c_audit, .int c_sights, .ref (a0 19), .ref (a0 20), .int c_drawn])), ((a0 11), .inl (cyI, 8, .inl c_settled)), ((a0 12), .inl (cyI, 8, .inl c_fell)), ((a0 13), .inl (cyI, 8, .inl c_past)), ((a0 14), .inl (cyI, 8, .inl c_highest))]
abbrev rmX8_endsBy : Room := { frames := 0, cells := 0, slots := 0, locals := 0 }
abbrev wdX8_endsBy : List Cond := .code yX8_endsBy cX8_endsBy 3 (some .int) :: wsL_law
theorem hyX8_endsBy : yX8_endsBy.cls = RX8 ∧ yX8_endsBy.cls ≠ "java/lang/invoke/MethodHandle" ∧ yX8_endsBy.cls ≠ "java/lang/invoke/VarHandle" ∧ (parseMethodDescriptor yX8_endsBy.desc).map (fun d => d.parameters.length) = some 2 := by decide +kernel
set_option maxRecDepth 100000 in
set_option maxHeartbeats 4000000 in
theorem ctX8_endsBy (l : Launch) (D : va_G) (cyI cyJ cyS : ClassId) (a0 : Nat → Nat) (i1 : Int32) (i2 : Int32) (c_latest : Int32) (c_typed : Int32) (c_tenants : Int32) (c_room : Int32) (c_events : Int32) (c_gone : Int32) (c_audit : Int32) (c_sights : Int32) (c_drawn : Int32) (c_settled : Nat → Int32) (c_fell : Nat → Int32) (c_past : Nat → Int32) (c_highest : Nat → Int32) (o_r : Int32) (h : fX8_endsBy i1 i2 c_settled c_fell c_past c_highest = some (o_r)) : jC l yX8_endsBy wdX8_endsBy rmX8_endsBy D vwCl (tyz cyI cyJ cyS) [.ref (a0 0), .int i1, .int i2] (uX8_endsBy cyI cyJ cyS a0 c_latest c_typed c_tenants c_room c_events c_gone c_audit c_sights c_drawn c_settled c_fell c_past c_highest) (some (.int o_r)) (uX8_endsBy cyI cyJ cyS a0 c_latest c_typed c_tenants c_room c_events c_gone c_audit c_sights c_drawn c_settled c_fell c_past c_highest) := by
  refine jC_of (cc := cX8_endsBy) (nL := 3) (ret := (some .int)) (own := RX8) (lv := [(0, .ref (a0 0)), (1, .int i1), (2, .int i2)]) (by decide) rfl rfl (Nat.le_of_ble_eq_true rfl) rfl ?_
  intro p e s m args below meth c A K
  unfold fX8_endsBy at h
  refine j_iload_n K 2 rfl dX8_endsBy_0 rfl ?_
  refine j_if_ne (tgt := 13) K dX8_endsBy_1 (by decide) rfl h (fun h => ?_) (fun h => ?_)
  · refine j_iload_n K 2 rfl dX8_endsBy_13 rfl ?_
    refine j_iconst (v := (1 : Int32)) K (by decide) dX8_endsBy_14 rfl ?_
    refine j_icmp_ne (tgt := 27) K dX8_endsBy_15 (by decide) rfl h (fun h => ?_) (fun h => ?_)
    · refine j_iload_n K 2 rfl dX8_endsBy_27 rfl ?_
      refine j_iconst (v := (2 : Int32)) K (by decide) dX8_endsBy_28 rfl ?_
      refine j_icmp_ne (tgt := 41) K dX8_endsBy_29 (by decide) rfl h (fun h => ?_) (fun h => ?_)
      · refine j_aload_n K 0 rfl dX8_endsBy_41 rfl ?_
        refine j_getf (C := RX8) (T := TX8) (N := 29) (ci := 8) K icX8 0 19 (List.mem_cons_of_mem _ mw_5_21) rfl rfl rfl (by decide) rfl dX8_endsBy_42 rfl ?_
        refine j_iload_n K 1 rfl dX8_endsBy_45 rfl ?_
        refine j_iald K 4 0 rfl rfl dX8_endsBy_46 rfl h (fun v_1 h => ?_)
        have h := Option.some.inj h
        subst h
        exact j_iret K dX8_endsBy_47
      · refine j_aload_n K 0 rfl dX8_endsBy_32 rfl ?_
        refine j_getf (C := RX8) (T := TX8) (N := 29) (ci := 8) K icX8 0 18 (List.mem_cons_of_mem _ mw_5_20) rfl rfl rfl (by decide) rfl dX8_endsBy_33 rfl ?_
        refine j_iload_n K 1 rfl dX8_endsBy_36 rfl ?_
        refine j_iald K 3 0 rfl rfl dX8_endsBy_37 rfl h (fun v_2 h => ?_)
        refine j_goto (pc' := 47) K dX8_endsBy_38 (by decide) ?_
        have h := Option.some.inj h
        subst h
        exact j_iret K dX8_endsBy_47
    · refine j_aload_n K 0 rfl dX8_endsBy_18 rfl ?_
      refine j_getf (C := RX8) (T := TX8) (N := 29) (ci := 8) K icX8 0 17 (List.mem_cons_of_mem _ mw_5_19) rfl rfl rfl (by decide) rfl dX8_endsBy_19 rfl ?_
      refine j_iload_n K 1 rfl dX8_endsBy_22 rfl ?_
      refine j_iald K 2 0 rfl rfl dX8_endsBy_23 rfl h (fun v_3 h => ?_)
      refine j_goto (pc' := 47) K dX8_endsBy_24 (by decide) ?_
      have h := Option.some.inj h
      subst h
      exact j_iret K dX8_endsBy_47
  · refine j_aload_n K 0 rfl dX8_endsBy_4 rfl ?_
    refine j_getf (C := RX8) (T := TX8) (N := 29) (ci := 8) K icX8 0 16 (List.mem_cons_of_mem _ mw_5_18) rfl rfl rfl (by decide) rfl dX8_endsBy_5 rfl ?_
    refine j_iload_n K 1 rfl dX8_endsBy_8 rfl ?_
    refine j_iald K 1 0 rfl rfl dX8_endsBy_9 rfl h (fun v_4 h => ?_)
    refine j_goto (pc' := 47) K dX8_endsBy_10 (by decide) ?_
    have h := Option.some.inj h
    subst h
    exact j_iret K dX8_endsBy_47
abbrev uX8_ends (cyI cyJ cyS : ClassId) (a0 : Nat → Nat) (c_latest : Int32) (c_typed : Int32) (c_tenants : Int32) (c_room : Int32) (c_events : Int32) (c_gone : Int32) (c_audit : Int32) (c_sights : Int32) (c_drawn : Int32) (c_bytes : Nat → Int32) (c_tenant : Nat → Int32) (c_event : Nat → Int32) (c_floor : Nat → Int32) (c_before : Nat → Int32) (c_left : Nat → Int32) (c_settled : Nat → Int32) (c_fell : Nat → Int32) (c_past : Nat → Int32) (c_highest : Nat → Int32) (c_many : Nat → Int32) (c_floorBy : Nat → Int32) (c_leftBy : Nat → Int32) (c_fellBy : Nat → Int32) : va_W := [((a0 0), .inr (8, [.ref (a0 1), .ref (a0 2), .ref (a0 3), .ref (a0 4), .int c_latest, .ref (a0 5), .int c_typed, .int c_tenants, .ref (a0 6), .int c_room, .int c_events, .ref (a0 7), .int c_gone, .ref (a0 8), .ref (a0 9), .ref (a0 10), .ref (a0 11), .ref (a0 12), .ref (a0 13), .ref (a0 14), .ref (a0 15), .ref (a0 16), .ref (a0 17), .ref (a0 18), .int c_audit, .int c_sights, .ref (a0 19), .ref (a0 20), .int c_drawn])), ((a0 5), .inl (cyI, 31, .inl c_bytes)), ((a0 6), .inl (cyI, 24, .inl c_tenant)), ((a0 7), .inl (cyI, 24, .inl c_event)), ((a0 8), .inl (cyI, 8, .inl c_floor)), ((a0 9), .inl (cyI, 8, .inl c_before)), ((a0 10), .inl (cyI, 8, .inl c_left)), ((a0 11), .inl (cyI, 8, .inl c_settled)), ((a0 12), .inl (cyI, 8, .inl c_fell)), ((a0 13), .inl (cyI, 8, .inl c_past)), ((a0 14), .inl (cyI, 8, .inl c_highest)), ((a0 15), .inl (cyI, 13, .inl c_many)), ((a0 16), .inl (cyI, 192, .inl c_floorBy)), ((a0 17), .inl (cyI, 192, .inl c_leftBy)), ((a0 18), .inl (cyI, 192, .inl c_fellBy))]
abbrev rmX8_ends : Room := { frames := 6, cells := 0, slots := 0, locals := 134 }
abbrev wdX8_ends : List Cond := .code yX8_ends cX8_ends 3 (some .int) :: wsL_law
theorem hyX8_ends : yX8_ends.cls = RX8 ∧ yX8_ends.cls ≠ "java/lang/invoke/MethodHandle" ∧ yX8_ends.cls ≠ "java/lang/invoke/VarHandle" ∧ (parseMethodDescriptor yX8_ends.desc).map (fun d => d.parameters.length) = some 2 := by decide +kernel
set_option maxRecDepth 100000 in
set_option maxHeartbeats 4000000 in
theorem ctX8_ends (l : Launch) (D : va_G) (cyI cyJ cyS : ClassId) (a0 : Nat → Nat) (i1 : Int32) (i2 : Int32) (c_latest : Int32) (c_sights : Int32) (c_drawn : Int32) (c_typed : Int32) (c_room : Int32) (c_events : Int32) (c_gone : Int32) (c_bytes : Nat → Int32) (c_event : Nat → Int32) (c_tenants : Int32) (c_sim : jT11) (c_tenant : Nat → Int32) (o_r : Int32) (o_tenants : Int32) (o_sim : jT11) (o_tenant : Nat → Int32) (h : fX8_ends i1 i2 c_typed c_room c_events c_gone c_bytes c_event c_tenants c_sim c_tenant = some (o_r, o_tenants, o_sim, o_tenant)) : jC l yX8_ends wdX8_ends rmX8_ends D vwCl (tyz cyI cyJ cyS) [.ref (a0 0), .int i1, .int i2] (uX8_ends cyI cyJ cyS a0 c_latest c_typed c_tenants c_room c_events c_gone c_sim.1 c_sights c_drawn c_bytes c_tenant c_event c_sim.2.1 c_sim.2.2.1 c_sim.2.2.2.1 c_sim.2.2.2.2.1 c_sim.2.2.2.2.2.1 c_sim.2.2.2.2.2.2.1 c_sim.2.2.2.2.2.2.2.1 c_sim.2.2.2.2.2.2.2.2.1 c_sim.2.2.2.2.2.2.2.2.2.1 c_sim.2.2.2.2.2.2.2.2.2.2.1 c_sim.2.2.2.2.2.2.2.2.2.2.2) (some (.int o_r)) (uX8_ends cyI cyJ cyS a0 c_latest c_typed o_tenants c_room c_events c_gone o_sim.1 c_sights c_drawn c_bytes o_tenant c_event o_sim.2.1 o_sim.2.2.1 o_sim.2.2.2.1 o_sim.2.2.2.2.1 o_sim.2.2.2.2.2.1 o_sim.2.2.2.2.2.2.1 o_sim.2.2.2.2.2.2.2.1 o_sim.2.2.2.2.2.2.2.2.1 o_sim.2.2.2.2.2.2.2.2.2.1 o_sim.2.2.2.2.2.2.2.2.2.2.1 o_sim.2.2.2.2.2.2.2.2.2.2.2) := by
  refine jC_of (cc := cX8_ends) (nL := 3) (ret := (some .int)) (own := RX8) (lv := [(0, .ref (a0 0)), (1, .int i1), (2, .int i2)]) (by decide) rfl rfl (Nat.le_of_ble_eq_true rfl) rfl ?_
  intro p e s m args below meth c A K
  unfold fX8_ends at h
  refine j_aload_n K 0 rfl dX8_ends_0 rfl ?_
  obtain ⟨c_tenants_1, c_sim_2, c_tenant_3, hc, h⟩ := bd3_some h
  refine j_callV (rest := []) (st1 := []) (ws' := (uX8_ends cyI cyJ cyS a0 c_latest c_typed c_tenants_1 c_room c_events c_gone c_sim_2.1 c_sights c_drawn c_bytes c_tenant_3 c_event c_sim_2.2.1 c_sim_2.2.2.1 c_sim_2.2.2.2.1 c_sim_2.2.2.2.2.1 c_sim_2.2.2.2.2.2.1 c_sim_2.2.2.2.2.2.2.1 c_sim_2.2.2.2.2.2.2.2.1 c_sim_2.2.2.2.2.2.2.2.2.1 c_sim_2.2.2.2.2.2.2.2.2.2.1 c_sim_2.2.2.2.2.2.2.2.2.2.2.1 c_sim_2.2.2.2.2.2.2.2.2.2.2.2)) (T := TX8) (N := 29) (ci := 8) K (ctX8_find l D cyI cyJ cyS a0 c_latest c_sights c_drawn c_typed c_room c_events c_gone c_bytes c_event c_tenants c_sim c_tenant c_tenants_1 c_sim_2 c_tenant_3 hc) (gdV mcL mw_17_12 mw_17_13 mw_17_14 mw_1_5 mw_17_15) rfl ⟨rfl, rfl⟩ hyX8_find ⟨Nat.le_of_ble_eq_true rfl, Nat.le_of_ble_eq_true rfl, Nat.le_of_ble_eq_true rfl, Nat.le_of_ble_eq_true rfl⟩ [0, 1, 2, 3, 4, 5, 6, 7, 8, 9, 10, 11, 12, 13, 14] (by decide) rfl [some 0, some 1, some 2, some 3, some 4, some 5, some 6, some 7, some 8, some 9, some 10, some 11, some 12, some 13, some 14] (by decide) rfl rfl 0 rfl rfl rfl rfl (Nat.le_of_ble_eq_true rfl) dX8_ends_1 rfl rfl ?_
  refine j_aload_n K 0 rfl dX8_ends_4 rfl ?_
  refine j_iload_n K 1 rfl dX8_ends_5 rfl ?_
  obtain ⟨r_4, hc, h⟩ := bd1_some h
  refine j_callV (rest := []) (st1 := [.int r_4]) (ws' := (uX8_ends cyI cyJ cyS a0 c_latest c_typed c_tenants_1 c_room c_events c_gone c_sim_2.1 c_sights c_drawn c_bytes c_tenant_3 c_event c_sim_2.2.1 c_sim_2.2.2.1 c_sim_2.2.2.2.1 c_sim_2.2.2.2.2.1 c_sim_2.2.2.2.2.2.1 c_sim_2.2.2.2.2.2.2.1 c_sim_2.2.2.2.2.2.2.2.1 c_sim_2.2.2.2.2.2.2.2.2.1 c_sim_2.2.2.2.2.2.2.2.2.2.1 c_sim_2.2.2.2.2.2.2.2.2.2.2.1 c_sim_2.2.2.2.2.2.2.2.2.2.2.2)) (T := TX8) (N := 29) (ci := 8) K (ctX8_isTenant l D cyI cyJ cyS a0 i1 c_latest c_typed c_room c_events c_gone c_sim_2.1 c_sights c_drawn c_tenants_1 r_4 hc) (gdV mcL mw_10_5 mw_10_6 mw_10_7 mw_1_5 mw_10_8) rfl ⟨rfl, rfl⟩ hyX8_isTenant ⟨Nat.le_of_ble_eq_true rfl, Nat.le_of_ble_eq_true rfl, Nat.le_of_ble_eq_true rfl, Nat.le_of_ble_eq_true rfl⟩ [0] (by decide) rfl [some 0, none, none, none, none, none, none, none, none, none, none, none, none, none, none] (by decide) rfl rfl 0 rfl rfl rfl rfl (Nat.le_of_ble_eq_true rfl) dX8_ends_6 rfl rfl ?_
  refine j_if_eq (tgt := 33) K dX8_ends_9 (by decide) rfl h (fun h => ?_) (fun h => ?_)
  · refine j_ldc (v := (-2147483648 : Int32)) K (List.mem_cons_of_mem _ mw_17_11) dX8_ends_33 rfl ?_
    obtain ⟨e1, g1⟩ := Prod.mk.inj (Option.some.inj h)
    subst e1
    obtain ⟨e2, g2⟩ := Prod.mk.inj g1
    subst e2
    obtain ⟨e3, g3⟩ := Prod.mk.inj g2
    subst e3
    subst g3
    exact j_iret K dX8_ends_35
  · refine j_iload_n K 2 rfl dX8_ends_12 rfl ?_
    refine j_i2l K dX8_ends_13 rfl ?_
    refine j_lconst (v := (0 : Int64)) K (by decide) dX8_ends_14 rfl ?_
    refine j_ldc2 (v := (3 : Int64)) K (List.mem_cons_of_mem _ mw_12_21) dX8_ends_15 rfl ?_
    obtain ⟨r_5, hc, h⟩ := bd1_some h
    refine j_callS (rest := []) (st1 := [.int r_5]) (ws' := (uX8_ends cyI cyJ cyS a0 c_latest c_typed c_tenants_1 c_room c_events c_gone c_sim_2.1 c_sights c_drawn c_bytes c_tenant_3 c_event c_sim_2.2.1 c_sim_2.2.2.1 c_sim_2.2.2.2.1 c_sim_2.2.2.2.2.1 c_sim_2.2.2.2.2.2.1 c_sim_2.2.2.2.2.2.2.1 c_sim_2.2.2.2.2.2.2.2.1 c_sim_2.2.2.2.2.2.2.2.2.1 c_sim_2.2.2.2.2.2.2.2.2.2.1 c_sim_2.2.2.2.2.2.2.2.2.2.2.1 c_sim_2.2.2.2.2.2.2.2.2.2.2.2)) K (ctX8_in l D cyI cyJ cyS (Int32.toInt64 i2) (0 : Int64) (3 : Int64) r_5 hc) (gdS mcL mw_7_22 mw_7_23 mw_1_5 mw_8_0) rfl ⟨rfl, rfl⟩ hzX8_in ⟨Nat.le_of_ble_eq_true rfl, Nat.le_of_ble_eq_true rfl, Nat.le_of_ble_eq_true rfl, Nat.le_of_ble_eq_true rfl⟩ [] (by decide) rfl [none, none, none, none, none, none, none, none, none, none, none, none, none, none, none] (by decide) rfl rfl rfl rfl (Nat.le_of_ble_eq_true rfl) dX8_ends_18 rfl rfl ?_
    refine j_if_eq (tgt := 33) K dX8_ends_21 (by decide) rfl h (fun h => ?_) (fun h => ?_)
    · refine j_ldc (v := (-2147483648 : Int32)) K (List.mem_cons_of_mem _ mw_17_11) dX8_ends_33 rfl ?_
      obtain ⟨e1, g1⟩ := Prod.mk.inj (Option.some.inj h)
      subst e1
      obtain ⟨e2, g2⟩ := Prod.mk.inj g1
      subst e2
      obtain ⟨e3, g3⟩ := Prod.mk.inj g2
      subst e3
      subst g3
      exact j_iret K dX8_ends_35
    · refine j_aload_n K 0 rfl dX8_ends_24 rfl ?_
      refine j_iload_n K 1 rfl dX8_ends_25 rfl ?_
      refine j_iload_n K 2 rfl dX8_ends_26 rfl ?_
      obtain ⟨r_6, hc, h⟩ := bd1_some h
      refine j_callV (rest := []) (st1 := [.int r_6]) (ws' := (uX8_ends cyI cyJ cyS a0 c_latest c_typed c_tenants_1 c_room c_events c_gone c_sim_2.1 c_sights c_drawn c_bytes c_tenant_3 c_event c_sim_2.2.1 c_sim_2.2.2.1 c_sim_2.2.2.2.1 c_sim_2.2.2.2.2.1 c_sim_2.2.2.2.2.2.1 c_sim_2.2.2.2.2.2.2.1 c_sim_2.2.2.2.2.2.2.2.1 c_sim_2.2.2.2.2.2.2.2.2.1 c_sim_2.2.2.2.2.2.2.2.2.2.1 c_sim_2.2.2.2.2.2.2.2.2.2.2.1 c_sim_2.2.2.2.2.2.2.2.2.2.2.2)) (T := TX8) (N := 29) (ci := 8) K (ctX8_endsBy l D cyI cyJ cyS a0 i1 i2 c_latest c_typed c_tenants_1 c_room c_events c_gone c_sim_2.1 c_sights c_drawn c_sim_2.2.2.2.2.1 c_sim_2.2.2.2.2.2.1 c_sim_2.2.2.2.2.2.2.1 c_sim_2.2.2.2.2.2.2.2.1 r_6 hc) (gdV mcL mw_21_19 mw_21_20 mw_21_21 mw_1_5 mw_21_22) rfl ⟨rfl, rfl⟩ hyX8_endsBy ⟨Nat.le_of_ble_eq_true rfl, Nat.le_of_ble_eq_true rfl, Nat.le_of_ble_eq_true rfl, Nat.le_of_ble_eq_true rfl⟩ [0, 7, 8, 9, 10] (by decide) rfl [some 0, none, none, none, none, none, none, some 1, some 2, some 3, some 4, none, none, none, none] (by decide) rfl rfl 0 rfl rfl rfl rfl (Nat.le_of_ble_eq_true rfl) dX8_ends_27 rfl rfl ?_
      refine j_goto (pc' := 35) K dX8_ends_30 (by decide) ?_
      obtain ⟨e1, g1⟩ := Prod.mk.inj (Option.some.inj h)
      subst e1
      obtain ⟨e2, g2⟩ := Prod.mk.inj g1
      subst e2
      obtain ⟨e3, g3⟩ := Prod.mk.inj g2
      subst e3
      subst g3
      exact j_iret K dX8_ends_35
end GEN
