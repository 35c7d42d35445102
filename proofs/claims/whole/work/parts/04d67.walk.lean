section GEN
variable {p : Program} {l : Launch} {e : Env} {s : State} {m : MethodId} {args : Array Value} {below : List Frame} {meth : Method} {c : Code} {A : Nat → Prop} {D : va_G} {cyI cyJ cyS : ClassId}
abbrev uX8_isSpared (cyI cyJ cyS : ClassId) (a0 : Nat → Nat) (c_latest : Int32) (c_typed : Int32) (c_tenants : Int32) (c_room : Int32) (c_events : Int32) (c_gone : Int32) (c_audit : Int32) (c_sights : Int32) (c_drawn : Int32) (c_tenant : Nat → Int32) (c_event : Nat → Int32) (c_floor : Nat → Int32) (c_before : Nat → Int32) (c_left : Nat → Int32) (c_settled : Nat → Int32) (c_fell : Nat → Int32) (c_past : Nat → Int32) (c_highest : Nat → Int32) (c_many : Nat → Int32) (c_floorBy : Nat → Int32) (c_leftBy : Nat → Int32) (c_fellBy : Nat → Int32) : va_W := [((a0 0), .inr (8, [.ref (a0 1), .ref (a0 2), .ref (a0 3), .ref (a0 4), .int c_latest, .ref (a0 5), .int c_typed, .int c_tenants, .ref (a0 6), .int c_room, .int c_events, .ref (a0 7), .int c_gone, .ref (a0 8), .ref (a0 9), .ref (a0 10), .ref (a0 11), .ref (a0 12), .ref (a0 13), .ref (a0 14), .ref (a0 15), .ref (a0 16), .ref (a0 17), .ref (a0 18), .int c_audit, .int c_sights, .ref (a0 19), .ref (a0 20), .int c_drawn])), ((a0 6), .inl (cyI, 24, .inl c_tenant)), ((a0 7), .inl (cyI, 24, .inl c_event)), ((a0 8), .inl (cyI, 8, .inl c_floor)), ((a0 9), .inl (cyI, 8, .inl c_before)), ((a0 10), .inl (cyI, 8, .inl c_left)), ((a0 11), .inl (cyI, 8, .inl c_settled)), ((a0 12), .inl (cyI, 8, .inl c_fell)), ((a0 13), .inl (cyI, 8, .inl c_past)), ((a0 14), .inl (cyI, 8, .inl c_highest)), ((a0 15), .inl (cyI, 13, .inl c_many)), ((a0 16), .inl (cyI, 192, .inl c_floorBy)), ((a0 17), .inl (cyI, 192, .inl c_leftBy)), ((a0 18), .inl (cyI, 192, .inl c_fellBy))]
abbrev rmX8_isSpared : Room := { frames := 5, cells := 0, slots := 0, locals := 114 }
abbrev wdX8_isSpared : List Cond := .code yX8_isSpared cX8_isSpared 2 (some .boolean) :: wsL_law
theorem hyX8_isSpared : yX8_isSpared.cls = RX8 ∧ yX8_isSpared.cls ≠ "java/lang/invoke/MethodHandle" ∧ yX8_isSpared.cls ≠ "java/lang/invoke/VarHandle" ∧ (parseMethodDescriptor yX8_isSpared.desc).map (fun d => d.parameters.length) = some 1 := by decide +kernel
set_option maxRecDepth 100000 in
set_option maxHeartbeats 4000000 in
theorem ctX8_isSpared (l : Launch) (D : va_G) (cyI cyJ cyS : ClassId) (a0 : Nat → Nat) (i1 : Int32) (c_latest : Int32) (c_typed : Int32) (c_sights : Int32) (c_drawn : Int32) (c_tenants : Int32) (c_room : Int32) (c_events : Int32) (c_tenant : Nat → Int32) (c_event : Nat → Int32) (c_gone : Int32) (c_sim : jT11) (o_r : Int32) (o_gone : Int32) (o_sim : jT11) (h : fX8_isSpared i1 c_tenants c_room c_events c_tenant c_event c_gone c_sim = some (o_r, o_gone, o_sim)) : jC l yX8_isSpared wdX8_isSpared rmX8_isSpared D vwCl (tyz cyI cyJ cyS) [.ref (a0 0), .int i1] (uX8_isSpared cyI cyJ cyS a0 c_latest c_typed c_tenants c_room c_events c_gone c_sim.1 c_sights c_drawn c_tenant c_event c_sim.2.1 c_sim.2.2.1 c_sim.2.2.2.1 c_sim.2.2.2.2.1 c_sim.2.2.2.2.2.1 c_sim.2.2.2.2.2.2.1 c_sim.2.2.2.2.2.2.2.1 c_sim.2.2.2.2.2.2.2.2.1 c_sim.2.2.2.2.2.2.2.2.2.1 c_sim.2.2.2.2.2.2.2.2.2.2.1 c_sim.2.2.2.2.2.2.2.2.2.2.2) (some (.int o_r)) (uX8_isSpared cyI cyJ cyS a0 c_latest c_typed c_tenants c_room c_events o_gone o_sim.1 c_sights c_drawn c_tenant c_event o_sim.2.1 o_sim.2.2.1 o_sim.2.2.2.1 o_sim.2.2.2.2.1 o_sim.2.2.2.2.2.1 o_sim.2.2.2.2.2.2.1 o_sim.2.2.2.2.2.2.2.1 o_sim.2.2.2.2.2.2.2.2.1 o_sim.2.2.2.2.2.2.2.2.2.1 o_sim.2.2.2.2.2.2.2.2.2.2.1 o_sim.2.2.2.2.2.2.2.2.2.2.2) := by
  refine jC_of (cc := cX8_isSpared) (nL := 2) (ret := (some .boolean)) (own := RX8) (lv := [(0, .ref (a0 0)), (1, .int i1)]) (by decide) rfl rfl (Nat.le_of_ble_eq_true rfl) rfl ?_
  intro p e s m args below meth c A K
  unfold fX8_isSpared at h
  refine j_aload_n K 0 rfl dX8_isSpared_0 rfl ?_
  refine j_iload_n K 1 rfl dX8_isSpared_1 rfl ?_
  refine j_putf (C := RX8) (T := TX8) (N := 29) (ci := 8) (ty := .int) (ws' := (uX8_isSpared cyI cyJ cyS a0 c_latest c_typed c_tenants c_room c_events i1 c_sim.1 c_sights c_drawn c_tenant c_event c_sim.2.1 c_sim.2.2.1 c_sim.2.2.2.1 c_sim.2.2.2.2.1 c_sim.2.2.2.2.2.1 c_sim.2.2.2.2.2.2.1 c_sim.2.2.2.2.2.2.2.1 c_sim.2.2.2.2.2.2.2.2.1 c_sim.2.2.2.2.2.2.2.2.2.1 c_sim.2.2.2.2.2.2.2.2.2.2.1 c_sim.2.2.2.2.2.2.2.2.2.2.2)) K icX8 tyX8 tyX8_ok nmX8 0 12 (List.mem_cons_of_mem _ mw_18_5) rfl rfl rfl (by decide) rfl (by decide +kernel) rfl rfl (Nat.le_of_ble_eq_true rfl) rfl dX8_isSpared_2 rfl ?_
  refine j_aload_n K 0 rfl dX8_isSpared_5 rfl ?_
  obtain ⟨c_sim_1, hc, h⟩ := bd1_some h
  refine j_callV (rest := []) (st1 := []) (ws' := (uX8_isSpared cyI cyJ cyS a0 c_latest c_typed c_tenants c_room c_events i1 c_sim_1.1 c_sights c_drawn c_tenant c_event c_sim_1.2.1 c_sim_1.2.2.1 c_sim_1.2.2.2.1 c_sim_1.2.2.2.2.1 c_sim_1.2.2.2.2.2.1 c_sim_1.2.2.2.2.2.2.1 c_sim_1.2.2.2.2.2.2.2.1 c_sim_1.2.2.2.2.2.2.2.2.1 c_sim_1.2.2.2.2.2.2.2.2.2.1 c_sim_1.2.2.2.2.2.2.2.2.2.2.1 c_sim_1.2.2.2.2.2.2.2.2.2.2.2)) (T := TX8) (N := 29) (ci := 8) K (ctX8_lives l D cyI cyJ cyS a0 c_latest c_typed c_sights c_drawn c_tenants c_room c_events i1 c_tenant c_event c_sim c_sim_1 hc) (gdV mcL mw_17_16 mw_17_17 mw_17_18 mw_1_5 mw_17_19) rfl ⟨rfl, rfl⟩ hyX8_lives ⟨Nat.le_of_ble_eq_true rfl, Nat.le_of_ble_eq_true rfl, Nat.le_of_ble_eq_true rfl, Nat.le_of_ble_eq_true rfl⟩ [0, 1, 2, 3, 4, 5, 6, 7, 8, 9, 10, 11, 12, 13] (by decide) rfl [some 0, some 1, some 2, some 3, some 4, some 5, some 6, some 7, some 8, some 9, some 10, some 11, some 12, some 13] (by decide) rfl rfl 0 rfl rfl rfl rfl (Nat.le_of_ble_eq_true rfl) dX8_isSpared_6 rfl rfl ?_
  refine j_aload_n K 0 rfl dX8_isSpared_9 rfl ?_
  refine j_iconst (v := (0 : Int32)) K (by decide) dX8_isSpared_10 rfl ?_
  refine j_putf (C := RX8) (T := TX8) (N := 29) (ci := 8) (ty := .int) (ws' := (uX8_isSpared cyI cyJ cyS a0 c_latest c_typed c_tenants c_room c_events (0 : Int32) c_sim_1.1 c_sights c_drawn c_tenant c_event c_sim_1.2.1 c_sim_1.2.2.1 c_sim_1.2.2.2.1 c_sim_1.2.2.2.2.1 c_sim_1.2.2.2.2.2.1 c_sim_1.2.2.2.2.2.2.1 c_sim_1.2.2.2.2.2.2.2.1 c_sim_1.2.2.2.2.2.2.2.2.1 c_sim_1.2.2.2.2.2.2.2.2.2.1 c_sim_1.2.2.2.2.2.2.2.2.2.2.1 c_sim_1.2.2.2.2.2.2.2.2.2.2.2)) K icX8 tyX8 tyX8_ok nmX8 0 12 (List.mem_cons_of_mem _ mw_18_5) rfl rfl rfl (by decide) rfl (by decide +kernel) rfl rfl (Nat.le_of_ble_eq_true rfl) rfl dX8_isSpared_11 rfl ?_
  refine j_aload_n K 0 rfl dX8_isSpared_14 rfl ?_
  obtain ⟨r_2, hc, h⟩ := bd1_some h
  refine j_callV (rest := []) (st1 := [.int r_2]) (ws' := (uX8_isSpared cyI cyJ cyS a0 c_latest c_typed c_tenants c_room c_events (0 : Int32) c_sim_1.1 c_sights c_drawn c_tenant c_event c_sim_1.2.1 c_sim_1.2.2.1 c_sim_1.2.2.2.1 c_sim_1.2.2.2.2.1 c_sim_1.2.2.2.2.2.1 c_sim_1.2.2.2.2.2.2.1 c_sim_1.2.2.2.2.2.2.2.1 c_sim_1.2.2.2.2.2.2.2.2.1 c_sim_1.2.2.2.2.2.2.2.2.2.1 c_sim_1.2.2.2.2.2.2.2.2.2.2.1 c_sim_1.2.2.2.2.2.2.2.2.2.2.2)) (T := TX8) (N := 29) (ci := 8) K (ctX8_manySettled l D cyI cyJ cyS a0 c_latest c_typed c_room c_events (0 : Int32) c_sim_1.1 c_sights c_drawn c_tenants c_sim_1.2.2.2.2.1 r_2 hc) (gdV mcL mw_23_14 mw_23_15 mw_23_16 mw_1_5 mw_23_17) rfl ⟨rfl, rfl⟩ hyX8_manySettled ⟨Nat.le_of_ble_eq_true rfl, Nat.le_of_ble_eq_true rfl, Nat.le_of_ble_eq_true rfl, Nat.le_of_ble_eq_true rfl⟩ [0, 6] (by decide) rfl [some 0, none, none, none, none, none, some 1, none, none, none, none, none, none, none] (by decide) rfl rfl 0 rfl rfl rfl rfl (Nat.le_of_ble_eq_true rfl) dX8_isSpared_15 rfl rfl ?_
  refine j_if_ne (tgt := 25) K dX8_isSpared_18 (by decide) rfl h (fun h => ?_) (fun h => ?_)
  · refine j_iconst (v := (0 : Int32)) K (by decide) dX8_isSpared_25 rfl ?_
    obtain ⟨e1, g1⟩ := Prod.mk.inj (Option.some.inj h)
    subst e1
    obtain ⟨e2, g2⟩ := Prod.mk.inj g1
    subst e2
    subst g2
    exact j_zret K rfl dX8_isSpared_26
  · refine j_iconst (v := (1 : Int32)) K (by decide) dX8_isSpared_21 rfl ?_
    refine j_goto (pc' := 26) K dX8_isSpared_22 (by decide) ?_
    obtain ⟨e1, g1⟩ := Prod.mk.inj (Option.some.inj h)
    subst e1
    obtain ⟨e2, g2⟩ := Prod.mk.inj g1
    subst e2
    subst g2
    exact j_zret K rfl dX8_isSpared_26
end GEN
