section GEN
variable {p : Program} {l : Launch} {e : Env} {s : State} {m : MethodId} {args : Array Value} {below : List Frame} {meth : Method} {c : Code} {A : Nat → Prop} {D : va_G} {cyI cyJ cyS : ClassId}
abbrev uX8_heard (cyI cyJ cyS : ClassId) (a0 : Nat → Nat) (c_latest : Int32) (c_typed : Int32) (c_tenants : Int32) (c_room : Int32) (c_events : Int32) (c_gone : Int32) (c_audit : Int32) (c_sights : Int32) (c_drawn : Int32) (c_bytes : Nat → Int32) (c_tenant : Nat → Int32) (c_event : Nat → Int32) (c_floor : Nat → Int32) (c_before : Nat → Int32) (c_left : Nat → Int32) (c_settled : Nat → Int32) (c_fell : Nat → Int32) (c_past : Nat → Int32) (c_highest : Nat → Int32) (c_many : Nat → Int32) (c_floorBy : Nat → Int32) (c_leftBy : Nat → Int32) (c_fellBy : Nat → Int32) : va_W := [((a0 0), .inr (8, [.ref (a0 1), .ref (a0 2), .ref (a0 3), .ref (a0 4), .int c_latest, .ref (a0 5), .int c_typed, .int c_tenants, .ref (a0 6), .int c_room, .int c_events, .ref (a0 7), .int c_gone, .ref (a0 8), .ref (a0 9), .ref (a0 10), .ref (a0 11), .ref (a0 12), .ref (a0 13), .ref (a0 14), .ref (a0 15), .ref (a0 16), .ref (a0 17), .ref (a0 18), .int c_audit, .int c_sights, .ref (a0 19), .ref (a0 20), .int c_drawn])), ((a0 5), .inl (cyI, 31, .inl c_bytes)), ((a0 6), .inl (cyI, 24, .inl c_tenant)), ((a0 7), .inl (cyI, 24, .inl c_event)), ((a0 8), .inl (cyI, 8, .inl c_floor)), ((a0 9), .inl (cyI, 8, .inl c_before)), ((a0 10), .inl (cyI, 8, .inl c_left)), ((a0 11), .inl (cyI, 8, .inl c_settled)), ((a0 12), .inl (cyI, 8, .inl c_fell)), ((a0 13), .inl (cyI, 8, .inl c_past)), ((a0 14), .inl (cyI, 8, .inl c_highest)), ((a0 15), .inl (cyI, 13, .inl c_many)), ((a0 16), .inl (cyI, 192, .inl c_floorBy)), ((a0 17), .inl (cyI, 192, .inl c_leftBy)), ((a0 18), .inl (cyI, 192, .inl c_fellBy))]
abbrev rmX8_heard : Room := { frames := 6, cells := 0, slots := 0, locals := 134 }
abbrev wdX8_heard : List Cond := .code yX8_heard cX8_heard 1 (some .int) :: wsL_law
theorem hyX8_heard : yX8_heard.cls = RX8 ∧ yX8_heard.cls ≠ "java/lang/invoke/MethodHandle" ∧ yX8_heard.cls ≠ "java/lang/invoke/VarHandle" ∧ (parseMethodDescriptor yX8_heard.desc).map (fun d => d.parameters.length) = some 0 := by decide +kernel
set_option maxRecDepth 100000 in
set_option maxHeartbeats 4000000 in
theorem ctX8_heard (l : Launch) (D : va_G) (cyI cyJ cyS : ClassId) (a0 : Nat → Nat) (c_latest : Int32) (c_sights : Int32) (c_drawn : Int32) (c_typed : Int32) (c_room : Int32) (c_events : Int32) (c_gone : Int32) (c_bytes : Nat → Int32) (c_event : Nat → Int32) (c_tenants : Int32) (c_sim : jT11) (c_tenant : Nat → Int32) (o_r : Int32) (o_tenants : Int32) (o_sim : jT11) (o_tenant : Nat → Int32) (h : fX8_heard c_typed c_room c_events c_gone c_bytes c_event c_tenants c_sim c_tenant = some (o_r, o_tenants, o_sim, o_tenant)) : jC l yX8_heard wdX8_heard rmX8_heard D vwCl (tyz cyI cyJ cyS) [.ref (a0 0)] (uX8_heard cyI cyJ cyS a0 c_latest c_typed c_tenants c_room c_events c_gone c_sim.1 c_sights c_drawn c_bytes c_tenant c_event c_sim.2.1 c_sim.2.2.1 c_sim.2.2.2.1 c_sim.2.2.2.2.1 c_sim.2.2.2.2.2.1 c_sim.2.2.2.2.2.2.1 c_sim.2.2.2.2.2.2.2.1 c_sim.2.2.2.2.2.2.2.2.1 c_sim.2.2.2.2.2.2.2.2.2.1 c_sim.2.2.2.2.2.2.2.2.2.2.1 c_sim.2.2.2.2.2.2.2.2.2.2.2) (some (.int o_r)) (uX8_heard cyI cyJ cyS a0 c_latest c_typed o_tenants c_room c_events c_gone o_sim.1 c_sights c_drawn c_bytes o_tenant c_event o_sim.2.1 o_sim.2.2.1 o_sim.2.2.2.1 o_sim.2.2.2.2.1 o_sim.2.2.2.2.2.1 o_sim.2.2.2.2.2.2.1 o_sim.2.2.2.2.2.2.2.1 o_sim.2.2.2.2.2.2.2.2.1 o_sim.2.2.2.2.2.2.2.2.2.1 o_sim.2.2.2.2.2.2.2.2.2.2.1 o_sim.2.2.2.2.2.2.2.2.2.2.2) := by
  refine jC_of (cc := cX8_heard) (nL := 1) (ret := (some .int)) (own := RX8) (lv := [(0, .ref (a0 0))]) (by decide) rfl rfl (Nat.le_of_ble_eq_true rfl) rfl ?_
  intro p e s m args below meth c A K
  unfold fX8_heard at h
  refine j_aload_n K 0 rfl dX8_heard_0 rfl ?_
  obtain ⟨c_tenants_1, c_sim_2, c_tenant_3, hc, h⟩ := bd3_some h
  refine j_callV (rest := []) (st1 := []) (ws' := (uX8_heard cyI cyJ cyS a0 c_latest c_typed c_tenants_1 c_room c_events c_gone c_sim_2.1 c_sights c_drawn c_bytes c_tenant_3 c_event c_sim_2.2.1 c_sim_2.2.2.1 c_sim_2.2.2.2.1 c_sim_2.2.2.2.2.1 c_sim_2.2.2.2.2.2.1 c_sim_2.2.2.2.2.2.2.1 c_sim_2.2.2.2.2.2.2.2.1 c_sim_2.2.2.2.2.2.2.2.2.1 c_sim_2.2.2.2.2.2.2.2.2.2.1 c_sim_2.2.2.2.2.2.2.2.2.2.2.1 c_sim_2.2.2.2.2.2.2.2.2.2.2.2)) (T := TX8) (N := 29) (ci := 8) K (ctX8_find l D cyI cyJ cyS a0 c_latest c_sights c_drawn c_typed c_room c_events c_gone c_bytes c_event c_tenants c_sim c_tenant c_tenants_1 c_sim_2 c_tenant_3 hc) (gdV mcL mw_17_12 mw_17_13 mw_17_14 mw_1_5 mw_17_15) rfl ⟨rfl, rfl⟩ hyX8_find ⟨Nat.le_of_ble_eq_true rfl, Nat.le_of_ble_eq_true rfl, Nat.le_of_ble_eq_true rfl, Nat.le_of_ble_eq_true rfl⟩ [0, 1, 2, 3, 4, 5, 6, 7, 8, 9, 10, 11, 12, 13, 14] (by decide) rfl [some 0, some 1, some 2, some 3, some 4, some 5, some 6, some 7, some 8, some 9, some 10, some 11, some 12, some 13, some 14] (by decide) rfl rfl 0 rfl rfl rfl rfl (Nat.le_of_ble_eq_true rfl) dX8_heard_1 rfl rfl ?_
  refine j_aload_n K 0 rfl dX8_heard_4 rfl ?_
  obtain ⟨r_4, hc, h⟩ := bd1_some h
  refine j_callV (rest := []) (st1 := [.int r_4]) (ws' := (uX8_heard cyI cyJ cyS a0 c_latest c_typed c_tenants_1 c_room c_events c_gone c_sim_2.1 c_sights c_drawn c_bytes c_tenant_3 c_event c_sim_2.2.1 c_sim_2.2.2.1 c_sim_2.2.2.2.1 c_sim_2.2.2.2.2.1 c_sim_2.2.2.2.2.2.1 c_sim_2.2.2.2.2.2.2.1 c_sim_2.2.2.2.2.2.2.2.1 c_sim_2.2.2.2.2.2.2.2.2.1 c_sim_2.2.2.2.2.2.2.2.2.2.1 c_sim_2.2.2.2.2.2.2.2.2.2.2.1 c_sim_2.2.2.2.2.2.2.2.2.2.2.2)) (T := TX8) (N := 29) (ci := 8) K (ctX8_heardNow l D cyI cyJ cyS a0 c_latest c_typed c_room c_events c_gone c_sim_2.1 c_sights c_drawn c_tenants_1 c_sim_2.2.2.2.2.2.2.2.2.2.1 r_4 hc) (gdV mcL mw_25_10 mw_25_11 mw_25_12 mw_1_5 mw_25_13) rfl ⟨rfl, rfl⟩ hyX8_heardNow ⟨Nat.le_of_ble_eq_true rfl, Nat.le_of_ble_eq_true rfl, Nat.le_of_ble_eq_true rfl, Nat.le_of_ble_eq_true rfl⟩ [0, 12] (by decide) rfl [some 0, none, none, none, none, none, none, none, none, none, none, none, some 1, none, none] (by decide) rfl rfl 0 rfl rfl rfl rfl (Nat.le_of_ble_eq_true rfl) dX8_heard_5 rfl rfl ?_
  obtain ⟨e1, g1⟩ := Prod.mk.inj (Option.some.inj h)
  subst e1
  obtain ⟨e2, g2⟩ := Prod.mk.inj g1
  subst e2
  obtain ⟨e3, g3⟩ := Prod.mk.inj g2
  subst e3
  subst g3
  exact j_iret K dX8_heard_8
abbrev uX8_cost (cyI cyJ cyS : ClassId) (a0 : Nat → Nat) (c_latest : Int32) (c_typed : Int32) (c_tenants : Int32) (c_room : Int32) (c_events : Int32) (c_gone : Int32) (c_audit : Int32) (c_sights : Int32) (c_drawn : Int32) (c_tenant : Nat → Int32) (c_event : Nat → Int32) (c_floor : Nat → Int32) (c_before : Nat → Int32) (c_left : Nat → Int32) (c_settled : Nat → Int32) (c_fell : Nat → Int32) (c_past : Nat → Int32) (c_highest : Nat → Int32) (c_many : Nat → Int32) (c_floorBy : Nat → Int32) (c_leftBy : Nat → Int32) (c_fellBy : Nat → Int32) : va_W := [((a0 0), .inr (8, [.ref (a0 1), .ref (a0 2), .ref (a0 3), .ref (a0 4), .int c_latest, .ref (a0 5), .int c_typed, .int c_tenants, .ref (a0 6), .int c_room, .int c_events, .ref (a0 7), .int c_gone, .ref (a0 8), .ref (a0 9), .ref (a0 10), .ref (a0 11), .ref (a0 12), .ref (a0 13), .ref (a0 14), .ref (a0 15), .ref (a0 16), .ref (a0 17), .ref (a0 18), .int c_audit, .int c_sights, .ref (a0 19), .ref (a0 20), .int c_drawn])), ((a0 6), .inl (cyI, 24, .inl c_tenant)), ((a0 7), .inl (cyI, 24, .inl c_event)), ((a0 8), .inl (cyI, 8, .inl c_floor)), ((a0 9), .inl (cyI, 8, .inl c_before)), ((a0 10), .inl (cyI, 8, .inl c_left)), ((a0 11), .inl (cyI, 8, .inl c_settled)), ((a0 12), .inl (cyI, 8, .inl c_fell)), ((a0 13), .inl (cyI, 8, .inl c_past)), ((a0 14), .inl (cyI, 8, .inl c_highest)), ((a0 15), .inl (cyI, 13, .inl c_many)), ((a0 16), .inl (cyI, 192, .inl c_floorBy)), ((a0 17), .inl (cyI, 192, .inl c_leftBy)), ((a0 18), .inl (cyI, 192, .inl c_fellBy))]
abbrev rmX8_cost : Room := { frames := 5, cells := 0, slots := 0, locals := 114 }
abbrev wdX8_cost : List Cond := .code yX8_cost cX8_cost 1 (some .int) :: wsL_law
theorem hyX8_cost : yX8_cost.cls = RX8 ∧ yX8_cost.cls ≠ "java/lang/invoke/MethodHandle" ∧ yX8_cost.cls ≠ "java/lang/invoke/VarHandle" ∧ (parseMethodDescriptor yX8_cost.desc).map (fun d => d.parameters.length) = some 0 := by decide +kernel
set_option maxRecDepth 100000 in
set_option maxHeartbeats 4000000 in
theorem ctX8_cost (l : Launch) (D : va_G) (cyI cyJ cyS : ClassId) (a0 : Nat → Nat) (c_latest : Int32) (c_typed : Int32) (c_sights : Int32) (c_drawn : Int32) (c_tenants : Int32) (c_room : Int32) (c_events : Int32) (c_gone : Int32) (c_tenant : Nat → Int32) (c_event : Nat → Int32) (c_sim : jT11) (o_r : Int32) (o_sim : jT11) (h : fX8_cost c_tenants c_room c_events c_gone c_tenant c_event c_sim = some (o_r, o_sim)) : jC l yX8_cost wdX8_cost rmX8_cost D vwCl (tyz cyI cyJ cyS) [.ref (a0 0)] (uX8_cost cyI cyJ cyS a0 c_latest c_typed c_tenants c_room c_events c_gone c_sim.1 c_sights c_drawn c_tenant c_event c_sim.2.1 c_sim.2.2.1 c_sim.2.2.2.1 c_sim.2.2.2.2.1 c_sim.2.2.2.2.2.1 c_sim.2.2.2.2.2.2.1 c_sim.2.2.2.2.2.2.2.1 c_sim.2.2.2.2.2.2.2.2.1 c_sim.2.2.2.2.2.2.2.2.2.1 c_sim.2.2.2.2.2.2.2.2.2.2.1 c_sim.2.2.2.2.2.2.2.2.2.2.2) (some (.int o_r)) (uX8_cost cyI cyJ cyS a0 c_latest c_typed c_tenants c_room c_events c_gone o_sim.1 c_sights c_drawn c_tenant c_event o_sim.2.1 o_sim.2.2.1 o_sim.2.2.2.1 o_sim.2.2.2.2.1 o_sim.2.2.2.2.2.1 o_sim.2.2.2.2.2.2.1 o_sim.2.2.2.2.2.2.2.1 o_sim.2.2.2.2.2.2.2.2.1 o_sim.2.2.2.2.2.2.2.2.2.1 o_sim.2.2.2.2.2.2.2.2.2.2.1 o_sim.2.2.2.2.2.2.2.2.2.2.2) := by
  refine jC_of (cc := cX8_cost) (nL := 1) (ret := (some .int)) (own := RX8) (lv := [(0, .ref (a0 0))]) (by decide) rfl rfl (Nat.le_of_ble_eq_true rfl) rfl ?_
  intro p e s m args below meth c A K
  unfold fX8_cost at h
  refine j_aload_n K 0 rfl dX8_cost_0 rfl ?_
  obtain ⟨c_sim_1, hc, h⟩ := bd1_some h
  refine j_callV (rest := []) (st1 := []) (ws' := (uX8_cost cyI cyJ cyS a0 c_latest c_typed c_tenants c_room c_events c_gone c_sim_1.1 c_sights c_drawn c_tenant c_event c_sim_1.2.1 c_sim_1.2.2.1 c_sim_1.2.2.2.1 c_sim_1.2.2.2.2.1 c_sim_1.2.2.2.2.2.1 c_sim_1.2.2.2.2.2.2.1 c_sim_1.2.2.2.2.2.2.2.1 c_sim_1.2.2.2.2.2.2.2.2.1 c_sim_1.2.2.2.2.2.2.2.2.2.1 c_sim_1.2.2.2.2.2.2.2.2.2.2.1 c_sim_1.2.2.2.2.2.2.2.2.2.2.2)) (T := TX8) (N := 29) (ci := 8) K (ctX8_lives l D cyI cyJ cyS a0 c_latest c_typed c_sights c_drawn c_tenants c_room c_events c_gone c_tenant c_event c_sim c_sim_1 hc) (gdV mcL mw_17_16 mw_17_17 mw_17_18 mw_1_5 mw_17_19) rfl ⟨rfl, rfl⟩ hyX8_lives ⟨Nat.le_of_ble_eq_true rfl, Nat.le_of_ble_eq_true rfl, Nat.le_of_ble_eq_true rfl, Nat.le_of_ble_eq_true rfl⟩ [0, 1, 2, 3, 4, 5, 6, 7, 8, 9, 10, 11, 12, 13] (by decide) rfl [some 0, some 1, some 2, some 3, some 4, some 5, some 6, some 7, some 8, some 9, some 10, some 11, some 12, some 13] (by decide) rfl rfl 0 rfl rfl rfl rfl (Nat.le_of_ble_eq_true rfl) dX8_cost_1 rfl rfl ?_
  refine j_sipush (v := (1000 : Int32)) K (by decide) dX8_cost_4 rfl ?_
  refine j_aload_n K 0 rfl dX8_cost_7 rfl ?_
  obtain ⟨r_2, hc, h⟩ := bd1_some h
  refine j_callV (rest := [.int (1000 : Int32)]) (st1 := [.int r_2, .int (1000 : Int32)]) (ws' := (uX8_cost cyI cyJ cyS a0 c_latest c_typed c_tenants c_room c_events c_gone c_sim_1.1 c_sights c_drawn c_tenant c_event c_sim_1.2.1 c_sim_1.2.2.1 c_sim_1.2.2.2.1 c_sim_1.2.2.2.2.1 c_sim_1.2.2.2.2.2.1 c_sim_1.2.2.2.2.2.2.1 c_sim_1.2.2.2.2.2.2.2.1 c_sim_1.2.2.2.2.2.2.2.2.1 c_sim_1.2.2.2.2.2.2.2.2.2.1 c_sim_1.2.2.2.2.2.2.2.2.2.2.1 c_sim_1.2.2.2.2.2.2.2.2.2.2.2)) (T := TX8) (N := 29) (ci := 8) K (ctX8_manySettled l D cyI cyJ cyS a0 c_latest c_typed c_room c_events c_gone c_sim_1.1 c_sights c_drawn c_tenants c_sim_1.2.2.2.2.1 r_2 hc) (gdV mcL mw_23_14 mw_23_15 mw_23_16 mw_1_5 mw_23_17) rfl ⟨rfl, rfl⟩ hyX8_manySettled ⟨Nat.le_of_ble_eq_true rfl, Nat.le_of_ble_eq_true rfl, Nat.le_of_ble_eq_true rfl, Nat.le_of_ble_eq_true rfl⟩ [0, 6] (by decide) rfl [some 0, none, none, none, none, none, some 1, none, none, none, none, none, none, none] (by decide) rfl rfl 0 rfl rfl rfl rfl (Nat.le_of_ble_eq_true rfl) dX8_cost_8 rfl rfl ?_
  refine j_imul K dX8_cost_11 rfl ?_
  refine j_aload_n K 0 rfl dX8_cost_12 rfl ?_
  obtain ⟨r_3, hc, h⟩ := bd1_some h
  refine j_callV (rest := [.int ((1000 : Int32) * r_2)]) (st1 := [.int r_3, .int ((1000 : Int32) * r_2)]) (ws' := (uX8_cost cyI cyJ cyS a0 c_latest c_typed c_tenants c_room c_events c_gone c_sim_1.1 c_sights c_drawn c_tenant c_event c_sim_1.2.1 c_sim_1.2.2.1 c_sim_1.2.2.2.1 c_sim_1.2.2.2.2.1 c_sim_1.2.2.2.2.2.1 c_sim_1.2.2.2.2.2.2.1 c_sim_1.2.2.2.2.2.2.2.1 c_sim_1.2.2.2.2.2.2.2.2.1 c_sim_1.2.2.2.2.2.2.2.2.2.1 c_sim_1.2.2.2.2.2.2.2.2.2.2.1 c_sim_1.2.2.2.2.2.2.2.2.2.2.2)) (T := TX8) (N := 29) (ci := 8) K (ctX8_allFell l D cyI cyJ cyS a0 c_latest c_typed c_room c_events c_gone c_sim_1.1 c_sights c_drawn c_tenants c_sim_1.2.2.2.2.2.1 r_3 hc) (gdV mcL mw_23_18 mw_23_19 mw_23_20 mw_1_5 mw_23_21) rfl ⟨rfl, rfl⟩ hyX8_allFell ⟨Nat.le_of_ble_eq_true rfl, Nat.le_of_ble_eq_true rfl, Nat.le_of_ble_eq_true rfl, Nat.le_of_ble_eq_true rfl⟩ [0, 7] (by decide) rfl [some 0, none, none, none, none, none, none, some 1, none, none, none, none, none, none] (by decide) rfl rfl 0 rfl rfl rfl rfl (Nat.le_of_ble_eq_true rfl) dX8_cost_13 rfl rfl ?_
  refine j_iadd K dX8_cost_16 rfl ?_
  obtain ⟨e1, g1⟩ := Prod.mk.inj (Option.some.inj h)
  subst e1
  subst g1
  exact j_iret K dX8_cost_17
abbrev uX8_tenantBetter (cyI cyJ cyS : ClassId) (a0 : Nat → Nat) (c_latest : Int32) (c_typed : Int32) (c_tenants : Int32) (c_room : Int32) (c_events : Int32) (c_gone : Int32) (c_audit : Int32) (c_sights : Int32) (c_drawn : Int32) (c_tenant : Nat → Int32) (c_event : Nat → Int32) (c_floor : Nat → Int32) (c_before : Nat → Int32) (c_left : Nat → Int32) (c_settled : Nat → Int32) (c_fell : Nat → Int32) (c_past : Nat → Int32) (c_highest : Nat → Int32) (c_many : Nat → Int32) (c_floorBy : Nat → Int32) (c_leftBy : Nat → Int32) (c_fellBy : Nat → Int32) : va_W := [((a0 0), .inr (8, [.ref (a0 1), .ref (a0 2), .ref (a0 3), .ref (a0 4), .int c_latest, .ref (a0 5), .int c_typed, .int c_tenants, .ref (a0 6), .int c_room, .int c_events, .ref (a0 7), .int c_gone, .ref (a0 8), .ref (a0 9), .ref (a0 10), .ref (a0 11), .ref (a0 12), .ref (a0 13), .ref (a0 14), .ref (a0 15), .ref (a0 16), .ref (a0 17), .ref (a0 18), .int c_audit, .int c_sights, .ref (a0 19), .ref (a0 20), .int c_drawn])), ((a0 6), .inl (cyI, 24, .inl c_tenant)), ((a0 7), .inl (cyI, 24, .inl c_event)), ((a0 8), .inl (cyI, 8, .inl c_floor)), ((a0 9), .inl (cyI, 8, .inl c_before)), ((a0 10), .inl (cyI, 8, .inl c_left)), ((a0 11), .inl (cyI, 8, .inl c_settled)), ((a0 12), .inl (cyI, 8, .inl c_fell)), ((a0 13), .inl (cyI, 8, .inl c_past)), ((a0 14), .inl (cyI, 8, .inl c_highest)), ((a0 15), .inl (cyI, 13, .inl c_many)), ((a0 16), .inl (cyI, 192, .inl c_floorBy)), ((a0 17), .inl (cyI, 192, .inl c_leftBy)), ((a0 18), .inl (cyI, 192, .inl c_fellBy))]
abbrev rmX8_tenantBetter : Room := { frames := 6, cells := 0, slots := 0, locals := 134 }
abbrev wdX8_tenantBetter : List Cond := .code yX8_tenantBetter cX8_tenantBetter 9 (some .int) :: wsL_law
theorem hyX8_tenantBetter : yX8_tenantBetter.cls = RX8 ∧ yX8_tenantBetter.cls ≠ "java/lang/invoke/MethodHandle" ∧ yX8_tenantBetter.cls ≠ "java/lang/invoke/VarHandle" ∧ (parseMethodDescriptor yX8_tenantBetter.desc).map (fun d => d.parameters.length) = some 3 := by decide +kernel
set_option maxRecDepth 100000 in
set_option maxHeartbeats 4000000 in
theorem wX8_tenantBetter_52 (K : jK p s m args meth c A D vwCl (tyz cyI cyJ cyS) cX8_tenantBetter 9 RX8 wdX8_tenantBetter (some .int)) (a0 : Nat → Nat) (c_latest : Int32) (c_typed : Int32) (c_sights : Int32) (c_drawn : Int32) (i1 : Int32) (i2 : Int32) (i3 : Int32) (c_tenants : Int32) (c_room : Int32) (c_events : Int32) (c_gone : Int32) (c_event : Nat → Int32) (o_r : Int32) (o_sim : jT11) (o_tenant : Nat → Int32)  (q_18 : jT11 → (Nat → Int32) → Int32 → Int32 → Int32 → Int32 → (Option (Int32 × jT11 × (Nat → Int32)))) (hq_18 : ∀ (c_sim : jT11) (c_tenant : Nat → Int32) (i4 : Int32) (i5 : Int32) (i6 : Int32) (i7 : Int32), q_18 c_sim c_tenant i4 i5 i6 i7 = some (o_r, o_sim, o_tenant) → jw p l e rmX8_tenantBetter s m args below meth c (jQ below args s A D vwCl (tyz cyI cyJ cyS) 0 0 (some (.int o_r)) (uX8_tenantBetter cyI cyJ cyS a0 c_latest c_typed c_tenants c_room c_events c_gone o_sim.1 c_sights c_drawn o_tenant c_event o_sim.2.1 o_sim.2.2.1 o_sim.2.2.2.1 o_sim.2.2.2.2.1 o_sim.2.2.2.2.2.1 o_sim.2.2.2.2.2.2.1 o_sim.2.2.2.2.2.2.2.1 o_sim.2.2.2.2.2.2.2.2.1 o_sim.2.2.2.2.2.2.2.2.2.1 o_sim.2.2.2.2.2.2.2.2.2.2.1 o_sim.2.2.2.2.2.2.2.2.2.2.2)) A D vwCl 9 0 0 18 [(0, .ref (a0 0)), (1, .int i1), (2, .int i2), (3, .int i3), (4, .int i4), (5, .int i5), (6, .int i6), (7, .int i7)] [] (uX8_tenantBetter cyI cyJ cyS a0 c_latest c_typed c_tenants c_room c_events c_gone c_sim.1 c_sights c_drawn c_tenant c_event c_sim.2.1 c_sim.2.2.1 c_sim.2.2.2.1 c_sim.2.2.2.2.1 c_sim.2.2.2.2.2.1 c_sim.2.2.2.2.2.2.1 c_sim.2.2.2.2.2.2.2.1 c_sim.2.2.2.2.2.2.2.2.1 c_sim.2.2.2.2.2.2.2.2.2.1 c_sim.2.2.2.2.2.2.2.2.2.2.1 c_sim.2.2.2.2.2.2.2.2.2.2.2)) : ∀ (c_sim : jT11) (c_tenant : Nat → Int32) (i4 : Int32) (i6 : Int32) (i7 : Int32) (i8 : Int32) (t0 : Int32), fX8_tenantBetter_52 i1 i2 i3 c_tenants c_room c_events c_gone c_event q_18 c_sim c_tenant i4 i6 i7 i8 t0 = some (o_r, o_sim, o_tenant) → jw p l e rmX8_tenantBetter s m args below meth c (jQ below args s A D vwCl (tyz cyI cyJ cyS) 0 0 (some (.int o_r)) (uX8_tenantBetter cyI cyJ cyS a0 c_latest c_typed c_tenants c_room c_events c_gone o_sim.1 c_sights c_drawn o_tenant c_event o_sim.2.1 o_sim.2.2.1 o_sim.2.2.2.1 o_sim.2.2.2.2.1 o_sim.2.2.2.2.2.1 o_sim.2.2.2.2.2.2.1 o_sim.2.2.2.2.2.2.2.1 o_sim.2.2.2.2.2.2.2.2.1 o_sim.2.2.2.2.2.2.2.2.2.1 o_sim.2.2.2.2.2.2.2.2.2.2.1 o_sim.2.2.2.2.2.2.2.2.2.2.2)) A D vwCl 9 0 0 52 [(0, .ref (a0 0)), (1, .int i1), (2, .int i2), (3, .int i3), (4, .int i4), (6, .int i6), (7, .int i7), (8, .int i8)] [.int t0] (uX8_tenantBetter cyI cyJ cyS a0 c_latest c_typed c_tenants c_room c_events c_gone c_sim.1 c_sights c_drawn c_tenant c_event c_sim.2.1 c_sim.2.2.1 c_sim.2.2.2.1 c_sim.2.2.2.2.1 c_sim.2.2.2.2.2.1 c_sim.2.2.2.2.2.2.1 c_sim.2.2.2.2.2.2.2.1 c_sim.2.2.2.2.2.2.2.2.1 c_sim.2.2.2.2.2.2.2.2.2.1 c_sim.2.2.2.2.2.2.2.2.2.2.1 c_sim.2.2.2.2.2.2.2.2.2.2.2) := by
  intro c_sim c_tenant i4 i6 i7 i8 t0 h
  unfold fX8_tenantBetter_52 at h
  refine j_istore (lv' := [(5, .int t0), (0, .ref (a0 0)), (1, .int i1), (2, .int i2), (3, .int i3), (4, .int i4), (6, .int i6), (7, .int i7), (8, .int i8)]) K (by decide) rfl dX8_tenantBetter_52 rfl ?_
  refine j_iload K 8 rfl dX8_tenantBetter_54 rfl ?_
  refine j_iload K 6 rfl dX8_tenantBetter_56 rfl ?_
  obtain ⟨r_6, hc, h⟩ := bd1_some h
  refine j_callS (rest := []) (st1 := [.int r_6]) (ws' := (uX8_tenantBetter cyI cyJ cyS a0 c_latest c_typed c_tenants c_room c_events c_gone c_sim.1 c_sights c_drawn c_tenant c_event c_sim.2.1 c_sim.2.2.1 c_sim.2.2.2.1 c_sim.2.2.2.2.1 c_sim.2.2.2.2.2.1 c_sim.2.2.2.2.2.2.1 c_sim.2.2.2.2.2.2.2.1 c_sim.2.2.2.2.2.2.2.2.1 c_sim.2.2.2.2.2.2.2.2.2.1 c_sim.2.2.2.2.2.2.2.2.2.2.1 c_sim.2.2.2.2.2.2.2.2.2.2.2)) K (ctX8_lesser l D cyI cyJ cyS i8 i6 r_6 hc) (gdS mcL mw_18_13 mw_18_14 mw_1_5 mw_18_15) rfl ⟨rfl, rfl⟩ hzX8_lesser ⟨Nat.le_of_ble_eq_true rfl, Nat.le_of_ble_eq_true rfl, Nat.le_of_ble_eq_true rfl, Nat.le_of_ble_eq_true rfl⟩ [] (by decide) rfl [none, none, none, none, none, none, none, none, none, none, none, none, none, none] (by decide) rfl rfl rfl rfl (Nat.le_of_ble_eq_true rfl) dX8_tenantBetter_58 rfl rfl ?_
  refine j_istore (lv' := [(6, .int r_6), (5, .int t0), (0, .ref (a0 0)), (1, .int i1), (2, .int i2), (3, .int i3), (4, .int i4), (7, .int i7), (8, .int i8)]) K (by decide) rfl dX8_tenantBetter_61 rfl ?_
  refine j_iincN (lf := fun z => [(7, .int z), (6, .int r_6), (5, .int t0), (0, .ref (a0 0)), (1, .int i1), (2, .int i2), (3, .int i3), (4, .int i4), (8, .int i8)]) K (v := i7 + (1 : Int32)) (k := 7) rfl rfl (by decide) (fun _ => rfl) dX8_tenantBetter_63 rfl h (fun i7_7 h => ?_)
  refine j_goto (pc' := 18) K dX8_tenantBetter_66 (by decide) ?_
  refine j_sub [3, 4, 5, 6, 7, 2, 1, 0] (lv' := [(0, .ref (a0 0)), (1, .int i1), (2, .int i2), (3, .int i3), (4, .int i4), (5, .int t0), (6, .int r_6), (7, .int i7_7)]) rfl ?_
  exact hq_18 c_sim c_tenant i4 t0 r_6 i7_7 h
set_option maxRecDepth 100000 in
set_option maxHeartbeats 4000000 in
theorem wX8_tenantBetter_18 (K : jK p s m args meth c A D vwCl (tyz cyI cyJ cyS) cX8_tenantBetter 9 RX8 wdX8_tenantBetter (some .int)) (a0 : Nat → Nat) (c_latest : Int32) (c_typed : Int32) (c_sights : Int32) (c_drawn : Int32) (i1 : Int32) (i2 : Int32) (i3 : Int32) (c_tenants : Int32) (c_room : Int32) (c_events : Int32) (c_gone : Int32) (c_event : Nat → Int32) (o_r : Int32) (o_sim : jT11) (o_tenant : Nat → Int32)   : ∀ (n : Nat) (c_sim : jT11) (c_tenant : Nat → Int32) (i4 : Int32) (i5 : Int32) (i6 : Int32) (i7 : Int32), fX8_tenantBetter_18 i1 i2 i3 c_tenants c_room c_events c_gone c_event  n c_sim c_tenant i4 i5 i6 i7 = some (o_r, o_sim, o_tenant) → jw p l e rmX8_tenantBetter s m args below meth c (jQ below args s A D vwCl (tyz cyI cyJ cyS) 0 0 (some (.int o_r)) (uX8_tenantBetter cyI cyJ cyS a0 c_latest c_typed c_tenants c_room c_events c_gone o_sim.1 c_sights c_drawn o_tenant c_event o_sim.2.1 o_sim.2.2.1 o_sim.2.2.2.1 o_sim.2.2.2.2.1 o_sim.2.2.2.2.2.1 o_sim.2.2.2.2.2.2.1 o_sim.2.2.2.2.2.2.2.1 o_sim.2.2.2.2.2.2.2.2.1 o_sim.2.2.2.2.2.2.2.2.2.1 o_sim.2.2.2.2.2.2.2.2.2.2.1 o_sim.2.2.2.2.2.2.2.2.2.2.2)) A D vwCl 9 0 0 18 [(0, .ref (a0 0)), (1, .int i1), (2, .int i2), (3, .int i3), (4, .int i4), (5, .int i5), (6, .int i6), (7, .int i7)] [] (uX8_tenantBetter cyI cyJ cyS a0 c_latest c_typed c_tenants c_room c_events c_gone c_sim.1 c_sights c_drawn c_tenant c_event c_sim.2.1 c_sim.2.2.1 c_sim.2.2.2.1 c_sim.2.2.2.2.1 c_sim.2.2.2.2.2.1 c_sim.2.2.2.2.2.2.1 c_sim.2.2.2.2.2.2.2.1 c_sim.2.2.2.2.2.2.2.2.1 c_sim.2.2.2.2.2.2.2.2.2.1 c_sim.2.2.2.2.2.2.2.2.2.2.1 c_sim.2.2.2.2.2.2.2.2.2.2.2) := by
  intro n
  induction n with
  | zero => intro c_sim c_tenant i4 i5 i6 i7 h; cases h
  | succ n ih =>
    intro c_sim c_tenant i4 i5 i6 i7 h
    have h : bX8_tenantBetter_18 i1 i2 i3 c_tenants c_room c_events c_gone c_event  (fX8_tenantBetter_18 i1 i2 i3 c_tenants c_room c_events c_gone c_event  n) c_sim c_tenant i4 i5 i6 i7 = some (o_r, o_sim, o_tenant) := h
    unfold bX8_tenantBetter_18 at h
    refine j_iload K 7 rfl dX8_tenantBetter_18 rfl ?_
    refine j_iload_n K 2 rfl dX8_tenantBetter_20 rfl ?_
    refine j_icmp_ge (tgt := 69) K dX8_tenantBetter_21 (by decide) rfl h (fun h => ?_) (fun h => ?_)
    · refine j_aload_n K 0 rfl dX8_tenantBetter_69 rfl ?_
      refine j_getf (C := RX8) (T := TX8) (N := 29) (ci := 8) K icX8 0 8 (List.mem_cons_of_mem _ mw_5_13) rfl rfl rfl (by decide) rfl dX8_tenantBetter_70 rfl ?_
      refine j_iload_n K 1 rfl dX8_tenantBetter_73 rfl ?_
      refine j_iload K 4 rfl dX8_tenantBetter_74 rfl ?_
      refine j_iast K 1 0 (fun z => (uX8_tenantBetter cyI cyJ cyS a0 c_latest c_typed c_tenants c_room c_events c_gone c_sim.1 c_sights c_drawn z c_event c_sim.2.1 c_sim.2.2.1 c_sim.2.2.2.1 c_sim.2.2.2.2.1 c_sim.2.2.2.2.2.1 c_sim.2.2.2.2.2.2.1 c_sim.2.2.2.2.2.2.2.1 c_sim.2.2.2.2.2.2.2.2.1 c_sim.2.2.2.2.2.2.2.2.2.1 c_sim.2.2.2.2.2.2.2.2.2.2.1 c_sim.2.2.2.2.2.2.2.2.2.2.2)) rfl rfl (fun _ => rfl) dX8_tenantBetter_76 rfl h (fun c_tenant_2 h => ?_)
      refine j_iload_n K 3 rfl dX8_tenantBetter_77 rfl ?_
      refine j_if_ne (tgt := 86) K dX8_tenantBetter_78 (by decide) rfl h (fun h => ?_) (fun h => ?_)
      · refine j_iload_n K 3 rfl dX8_tenantBetter_86 rfl ?_
        refine j_iconst (v := (1 : Int32)) K (by decide) dX8_tenantBetter_87 rfl ?_
        refine j_icmp_ne (tgt := 100) K dX8_tenantBetter_88 (by decide) rfl h (fun h => ?_) (fun h => ?_)
        · refine j_iload K 6 rfl dX8_tenantBetter_100 rfl ?_
          refine j_sipush (v := (1000 : Int32)) K (by decide) dX8_tenantBetter_102 rfl ?_
          refine j_irem K (by decide) dX8_tenantBetter_105 rfl ?_
          obtain ⟨e1, g1⟩ := Prod.mk.inj (Option.some.inj h)
          subst e1
          obtain ⟨e2, g2⟩ := Prod.mk.inj g1
          subst e2
          subst g2
          exact j_iret K dX8_tenantBetter_106
        · refine j_iload K 6 rfl dX8_tenantBetter_91 rfl ?_
          refine j_sipush (v := (1000 : Int32)) K (by decide) dX8_tenantBetter_93 rfl ?_
          refine j_idiv K (by decide) dX8_tenantBetter_96 rfl ?_
          refine j_goto (pc' := 106) K dX8_tenantBetter_97 (by decide) ?_
          obtain ⟨e1, g1⟩ := Prod.mk.inj (Option.some.inj h)
          subst e1
          obtain ⟨e2, g2⟩ := Prod.mk.inj g1
          subst e2
          subst g2
          exact j_iret K dX8_tenantBetter_106
      · refine j_iload K 5 rfl dX8_tenantBetter_81 rfl ?_
        refine j_goto (pc' := 106) K dX8_tenantBetter_83 (by decide) ?_
        obtain ⟨e1, g1⟩ := Prod.mk.inj (Option.some.inj h)
        subst e1
        obtain ⟨e2, g2⟩ := Prod.mk.inj g1
        subst e2
        subst g2
        exact j_iret K dX8_tenantBetter_106
    · refine j_aload_n K 0 rfl dX8_tenantBetter_24 rfl ?_
      refine j_getf (C := RX8) (T := TX8) (N := 29) (ci := 8) K icX8 0 8 (List.mem_cons_of_mem _ mw_5_13) rfl rfl rfl (by decide) rfl dX8_tenantBetter_25 rfl ?_
      refine j_iload_n K 1 rfl dX8_tenantBetter_28 rfl ?_
      refine j_iload K 7 rfl dX8_tenantBetter_29 rfl ?_
      refine j_iast K 1 0 (fun z => (uX8_tenantBetter cyI cyJ cyS a0 c_latest c_typed c_tenants c_room c_events c_gone c_sim.1 c_sights c_drawn z c_event c_sim.2.1 c_sim.2.2.1 c_sim.2.2.2.1 c_sim.2.2.2.2.1 c_sim.2.2.2.2.2.1 c_sim.2.2.2.2.2.2.1 c_sim.2.2.2.2.2.2.2.1 c_sim.2.2.2.2.2.2.2.2.1 c_sim.2.2.2.2.2.2.2.2.2.1 c_sim.2.2.2.2.2.2.2.2.2.2.1 c_sim.2.2.2.2.2.2.2.2.2.2.2)) rfl rfl (fun _ => rfl) dX8_tenantBetter_31 rfl h (fun c_tenant_3 h => ?_)
      refine j_aload_n K 0 rfl dX8_tenantBetter_32 rfl ?_
      obtain ⟨r_4, c_sim_5, hc, h⟩ := bd2_some h
      refine j_callV (rest := []) (st1 := [.int r_4]) (ws' := (uX8_tenantBetter cyI cyJ cyS a0 c_latest c_typed c_tenants c_room c_events c_gone c_sim_5.1 c_sights c_drawn c_tenant_3 c_event c_sim_5.2.1 c_sim_5.2.2.1 c_sim_5.2.2.2.1 c_sim_5.2.2.2.2.1 c_sim_5.2.2.2.2.2.1 c_sim_5.2.2.2.2.2.2.1 c_sim_5.2.2.2.2.2.2.2.1 c_sim_5.2.2.2.2.2.2.2.2.1 c_sim_5.2.2.2.2.2.2.2.2.2.1 c_sim_5.2.2.2.2.2.2.2.2.2.2.1 c_sim_5.2.2.2.2.2.2.2.2.2.2.2)) (T := TX8) (N := 29) (ci := 8) K (ctX8_cost l D cyI cyJ cyS a0 c_latest c_typed c_sights c_drawn c_tenants c_room c_events c_gone c_tenant_3 c_event c_sim r_4 c_sim_5 hc) (gdV mcL mw_27_2 mw_27_3 mw_27_4 mw_1_5 mw_27_5) rfl ⟨rfl, rfl⟩ hyX8_cost ⟨Nat.le_of_ble_eq_true rfl, Nat.le_of_ble_eq_true rfl, Nat.le_of_ble_eq_true rfl, Nat.le_of_ble_eq_true rfl⟩ [0, 1, 2, 3, 4, 5, 6, 7, 8, 9, 10, 11, 12, 13] (by decide) rfl [some 0, some 1, some 2, some 3, some 4, some 5, some 6, some 7, some 8, some 9, some 10, some 11, some 12, some 13] (by decide) rfl rfl 0 rfl rfl rfl rfl (Nat.le_of_ble_eq_true rfl) dX8_tenantBetter_33 rfl rfl ?_
      refine j_istore (lv' := [(8, .int r_4), (0, .ref (a0 0)), (1, .int i1), (2, .int i2), (3, .int i3), (4, .int i4), (5, .int i5), (6, .int i6), (7, .int i7)]) K (by decide) rfl dX8_tenantBetter_36 rfl ?_
      refine j_iload K 0 rfl dX8_tenantBetter_38 rfl ?_
      refine j_iload K 7 rfl dX8_tenantBetter_40 rfl ?_
      refine j_icmp_ge (tgt := 50) K dX8_tenantBetter_42 (by decide) rfl h (fun h => ?_) (fun h => ?_)
      · refine j_iload K 6 rfl dX8_tenantBetter_50 rfl ?_
        refine j_sub [1, 2, 3, 4, 5, 7, 8, 0] (lv' := [(0, .ref (a0 0)), (1, .int i1), (2, .int i2), (3, .int i3), (4, .int i4), (6, .int i6), (7, .int i7), (8, .int r_4)]) rfl ?_
        exact wX8_tenantBetter_52 K a0 c_latest c_typed c_sights c_drawn i1 i2 i3 c_tenants c_room c_events c_gone c_event o_r o_sim o_tenant (fX8_tenantBetter_18 i1 i2 i3 c_tenants c_room c_events c_gone c_event n) (fun z0 z1 z2 z3 z4 z5 hq => ih z0 z1 z2 z3 z4 z5 hq) c_sim_5 c_tenant_3 i4 i6 i7 r_4 i5 h
      · refine j_iload K 8 rfl dX8_tenantBetter_45 rfl ?_
        refine j_goto (pc' := 52) K dX8_tenantBetter_47 (by decide) ?_
        refine j_sub [1, 2, 3, 4, 5, 7, 8, 0] (lv' := [(0, .ref (a0 0)), (1, .int i1), (2, .int i2), (3, .int i3), (4, .int i4), (6, .int i6), (7, .int i7), (8, .int r_4)]) rfl ?_
        exact wX8_tenantBetter_52 K a0 c_latest c_typed c_sights c_drawn i1 i2 i3 c_tenants c_room c_events c_gone c_event o_r o_sim o_tenant (fX8_tenantBetter_18 i1 i2 i3 c_tenants c_room c_events c_gone c_event n) (fun z0 z1 z2 z3 z4 z5 hq => ih z0 z1 z2 z3 z4 z5 hq) c_sim_5 c_tenant_3 i4 i6 i7 r_4 i7 h
set_option maxRecDepth 100000 in
set_option maxHeartbeats 4000000 in
theorem ctX8_tenantBetter (l : Launch) (D : va_G) (cyI cyJ cyS : ClassId) (a0 : Nat → Nat) (i1 : Int32) (i2 : Int32) (i3 : Int32) (c_latest : Int32) (c_typed : Int32) (c_sights : Int32) (c_drawn : Int32) (c_tenants : Int32) (c_room : Int32) (c_events : Int32) (c_gone : Int32) (c_event : Nat → Int32) (c_sim : jT11) (c_tenant : Nat → Int32) (o_r : Int32) (o_sim : jT11) (o_tenant : Nat → Int32) (h : fX8_tenantBetter i1 i2 i3 c_tenants c_room c_events c_gone c_event c_sim c_tenant = some (o_r, o_sim, o_tenant)) : jC l yX8_tenantBetter wdX8_tenantBetter rmX8_tenantBetter D vwCl (tyz cyI cyJ cyS) [.ref (a0 0), .int i1, .int i2, .int i3] (uX8_tenantBetter cyI cyJ cyS a0 c_latest c_typed c_tenants c_room c_events c_gone c_sim.1 c_sights c_drawn c_tenant c_event c_sim.2.1 c_sim.2.2.1 c_sim.2.2.2.1 c_sim.2.2.2.2.1 c_sim.2.2.2.2.2.1 c_sim.2.2.2.2.2.2.1 c_sim.2.2.2.2.2.2.2.1 c_sim.2.2.2.2.2.2.2.2.1 c_sim.2.2.2.2.2.2.2.2.2.1 c_sim.2.2.2.2.2.2.2.2.2.2.1 c_sim.2.2.2.2.2.2.2.2.2.2.2) (some (.int o_r)) (uX8_tenantBetter cyI cyJ cyS a0 c_latest c_typed c_tenants c_room c_events c_gone o_sim.1 c_sights c_drawn o_tenant c_event o_sim.2.1 o_sim.2.2.1 o_sim.2.2.2.1 o_sim.2.2.2.2.1 o_sim.2.2.2.2.2.1 o_sim.2.2.2.2.2.2.1 o_sim.2.2.2.2.2.2.2.1 o_sim.2.2.2.2.2.2.2.2.1 o_sim.2.2.2.2.2.2.2.2.2.1 o_sim.2.2.2.2.2.2.2.2.2.2.1 o_sim.2.2.2.2.2.2.2.2.2.2.2) := by
  refine jC_of (cc := cX8_tenantBetter) (nL := 9) (ret := (some .int)) (own := RX8) (lv := [(0, .ref (a0 0)), (1, .int i1), (2, .int i2), (3, .int i3)]) (by decide) rfl rfl (Nat.le_of_ble_eq_true rfl) rfl ?_
  intro p e s m args below meth c A K
  unfold fX8_tenantBetter at h
  refine j_aload_n K 0 rfl dX8_tenantBetter_0 rfl ?_
  refine j_getf (C := RX8) (T := TX8) (N := 29) (ci := 8) K icX8 0 8 (List.mem_cons_of_mem _ mw_5_13) rfl rfl rfl (by decide) rfl dX8_tenantBetter_1 rfl ?_
  refine j_iload_n K 1 rfl dX8_tenantBetter_4 rfl ?_
  refine j_iald K 1 0 rfl rfl dX8_tenantBetter_5 rfl h (fun v_1 h => ?_)
  refine j_istore (lv' := [(4, .int v_1), (0, .ref (a0 0)), (1, .int i1), (2, .int i2), (3, .int i3)]) K (by decide) rfl dX8_tenantBetter_6 rfl ?_
  refine j_iconst (v := (-1 : Int32)) K (by decide) dX8_tenantBetter_8 rfl ?_
  refine j_istore (lv' := [(5, .int (-1 : Int32)), (4, .int v_1), (0, .ref (a0 0)), (1, .int i1), (2, .int i2), (3, .int i3)]) K (by decide) rfl dX8_tenantBetter_9 rfl ?_
  refine j_ldc (v := (999999 : Int32)) K (List.mem_cons_of_mem _ mw_27_1) dX8_tenantBetter_11 rfl ?_
  refine j_istore (lv' := [(6, .int (999999 : Int32)), (5, .int (-1 : Int32)), (4, .int v_1), (0, .ref (a0 0)), (1, .int i1), (2, .int i2), (3, .int i3)]) K (by decide) rfl dX8_tenantBetter_13 rfl ?_
  refine j_iconst (v := (0 : Int32)) K (by decide) dX8_tenantBetter_15 rfl ?_
  refine j_istore (lv' := [(7, .int (0 : Int32)), (6, .int (999999 : Int32)), (5, .int (-1 : Int32)), (4, .int v_1), (0, .ref (a0 0)), (1, .int i1), (2, .int i2), (3, .int i3)]) K (by decide) rfl dX8_tenantBetter_16 rfl ?_
  refine j_sub [4, 5, 6, 7, 3, 2, 1, 0] (lv' := [(0, .ref (a0 0)), (1, .int i1), (2, .int i2), (3, .int i3), (4, .int v_1), (5, .int (-1 : Int32)), (6, .int (999999 : Int32)), (7, .int (0 : Int32))]) rfl ?_
  exact wX8_tenantBetter_18 K a0 c_latest c_typed c_sights c_drawn i1 i2 i3 c_tenants c_room c_events c_gone c_event o_r o_sim o_tenant jF c_sim c_tenant v_1 (-1 : Int32) (999999 : Int32) (0 : Int32) h
end GEN
