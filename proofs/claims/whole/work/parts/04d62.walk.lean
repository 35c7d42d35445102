section GEN
variable {p : Program} {l : Launch} {e : Env} {s : State} {m : MethodId} {args : Array Value} {below : List Frame} {meth : Method} {c : Code} {A : Nat → Prop} {D : va_G} {cyI cyJ cyS : ClassId}
abbrev uX8_topNow (cyI cyJ cyS : ClassId) (a0 : Nat → Nat) (c_latest : Int32) (c_typed : Int32) (c_tenants : Int32) (c_room : Int32) (c_events : Int32) (c_gone : Int32) (c_audit : Int32) (c_sights : Int32) (c_drawn : Int32) (c_floor : Nat → Int32) : va_W := [((a0 0), .inr (8, [.ref (a0 1), .ref (a0 2), .ref (a0 3), .ref (a0 4), .int c_latest, .ref (a0 5), .int c_typed, .int c_tenants, .ref (a0 6), .int c_room, .int c_events, .ref (a0 7), .int c_gone, .ref (a0 8), .ref (a0 9), .ref (a0 10), .ref (a0 11), .ref (a0 12), .ref (a0 13), .ref (a0 14), .ref (a0 15), .ref (a0 16), .ref (a0 17), .ref (a0 18), .int c_audit, .int c_sights, .ref (a0 19), .ref (a0 20), .int c_drawn])), ((a0 8), .inl (cyI, 8, .inl c_floor))]
abbrev rmX8_topNow : Room := { frames := 1, cells := 0, slots := 0, locals := 21 }
abbrev wdX8_topNow : List Cond := .code yX8_topNow cX8_topNow 4 (some .int) :: wsL_law
theorem hyX8_topNow : yX8_topNow.cls = RX8 ∧ yX8_topNow.cls ≠ "java/lang/invoke/MethodHandle" ∧ yX8_topNow.cls ≠ "java/lang/invoke/VarHandle" ∧ (parseMethodDescriptor yX8_topNow.desc).map (fun d => d.parameters.length) = some 0 := by decide +kernel
set_option maxRecDepth 100000 in
set_option maxHeartbeats 4000000 in
theorem wX8_topNow_29 (K : jK p s m args meth c A D vwCl (tyz cyI cyJ cyS) cX8_topNow 4 RX8 wdX8_topNow (some .int)) (a0 : Nat → Nat) (c_latest : Int32) (c_typed : Int32) (c_room : Int32) (c_events : Int32) (c_gone : Int32) (c_audit : Int32) (c_sights : Int32) (c_drawn : Int32) (c_tenants : Int32) (c_floor : Nat → Int32) (o_r : Int32)  (q_6 : Int32 → Int32 → Int32 → Option (Int32)) (hq_6 : ∀ (i1 : Int32) (i2 : Int32) (i3 : Int32), q_6 i1 i2 i3 = some (o_r) → jw p l e rmX8_topNow s m args below meth c (jQ below args s A D vwCl (tyz cyI cyJ cyS) 0 0 (some (.int o_r)) (uX8_topNow cyI cyJ cyS a0 c_latest c_typed c_tenants c_room c_events c_gone c_audit c_sights c_drawn c_floor)) A D vwCl 4 0 0 6 [(0, .ref (a0 0)), (1, .int i1), (2, .int i2), (3, .int i3)] [] (uX8_topNow cyI cyJ cyS a0 c_latest c_typed c_tenants c_room c_events c_gone c_audit c_sights c_drawn c_floor)) : ∀ (i2 : Int32) (i3 : Int32) (t0 : Int32), fX8_topNow_29 c_tenants c_floor q_6 i2 i3 t0 = some (o_r) → jw p l e rmX8_topNow s m args below meth c (jQ below args s A D vwCl (tyz cyI cyJ cyS) 0 0 (some (.int o_r)) (uX8_topNow cyI cyJ cyS a0 c_latest c_typed c_tenants c_room c_events c_gone c_audit c_sights c_drawn c_floor)) A D vwCl 4 0 0 29 [(0, .ref (a0 0)), (2, .int i2), (3, .int i3)] [.int t0] (uX8_topNow cyI cyJ cyS a0 c_latest c_typed c_tenants c_room c_events c_gone c_audit c_sights c_drawn c_floor) := by
  intro i2 i3 t0 h
  unfold fX8_topNow_29 at h
  refine j_istore_n (lv' := [(1, .int t0), (0, .ref (a0 0)), (2, .int i2), (3, .int i3)]) K (by decide) rfl dX8_topNow_29 rfl ?_
  refine j_aload_n K 1 rfl dX8_topNow_30 rfl ?_
  refine j_getf (C := RX8) (T := TX8) (N := 29) (ci := 8) K icX8 0 13 (List.mem_cons_of_mem _ mw_5_15) rfl rfl rfl (by decide) rfl dX8_topNow_31 rfl ?_
  refine j_iload_n K 3 rfl dX8_topNow_34 rfl ?_
  refine j_iald K 1 0 rfl rfl dX8_topNow_35 rfl h (fun v_2 h => ?_)
  refine j_iload_n K 2 rfl dX8_topNow_36 rfl ?_
  obtain ⟨r_3, hc, h⟩ := bd1_some h
  refine j_callS (rest := []) (st1 := [.int r_3]) (ws' := (uX8_topNow cyI cyJ cyS a0 c_latest c_typed c_tenants c_room c_events c_gone c_audit c_sights c_drawn c_floor)) K (ctX8_greater l D cyI cyJ cyS v_2 i2 r_3 hc) (gdS mcL mw_19_4 mw_19_5 mw_1_5 mw_19_6) rfl ⟨rfl, rfl⟩ hzX8_greater ⟨Nat.le_of_ble_eq_true rfl, Nat.le_of_ble_eq_true rfl, Nat.le_of_ble_eq_true rfl, Nat.le_of_ble_eq_true rfl⟩ [] (by decide) rfl [none, none] (by decide) rfl rfl rfl rfl (Nat.le_of_ble_eq_true rfl) dX8_topNow_37 rfl rfl ?_
  refine j_istore_n (lv' := [(2, .int r_3), (1, .int t0), (0, .ref (a0 0)), (3, .int i3)]) K (by decide) rfl dX8_topNow_40 rfl ?_
  refine j_iincN (lf := fun z => [(3, .int z), (2, .int r_3), (1, .int t0), (0, .ref (a0 0))]) K (v := i3 + (1 : Int32)) (k := 3) rfl rfl (by decide) (fun _ => rfl) dX8_topNow_41 rfl h (fun i3_4 h => ?_)
  refine j_goto (pc' := 6) K dX8_topNow_44 (by decide) ?_
  refine j_sub [3, 2, 1, 0] (lv' := [(0, .ref (a0 0)), (1, .int t0), (2, .int r_3), (3, .int i3_4)]) rfl ?_
  exact hq_6 t0 r_3 i3_4 h
set_option maxRecDepth 100000 in
set_option maxHeartbeats 4000000 in
theorem wX8_topNow_6 (K : jK p s m args meth c A D vwCl (tyz cyI cyJ cyS) cX8_topNow 4 RX8 wdX8_topNow (some .int)) (a0 : Nat → Nat) (c_latest : Int32) (c_typed : Int32) (c_room : Int32) (c_events : Int32) (c_gone : Int32) (c_audit : Int32) (c_sights : Int32) (c_drawn : Int32) (c_tenants : Int32) (c_floor : Nat → Int32) (o_r : Int32)   : ∀ (n : Nat) (i1 : Int32) (i2 : Int32) (i3 : Int32), fX8_topNow_6 c_tenants c_floor  n i1 i2 i3 = some (o_r) → jw p l e rmX8_topNow s m args below meth c (jQ below args s A D vwCl (tyz cyI cyJ cyS) 0 0 (some (.int o_r)) (uX8_topNow cyI cyJ cyS a0 c_latest c_typed c_tenants c_room c_events c_gone c_audit c_sights c_drawn c_floor)) A D vwCl 4 0 0 6 [(0, .ref (a0 0)), (1, .int i1), (2, .int i2), (3, .int i3)] [] (uX8_topNow cyI cyJ cyS a0 c_latest c_typed c_tenants c_room c_events c_gone c_audit c_sights c_drawn c_floor) := by
  intro n
  induction n with
  | zero => intro i1 i2 i3 h; cases h
  | succ n ih =>
    intro i1 i2 i3 h
    have h : bX8_topNow_6 c_tenants c_floor  (fX8_topNow_6 c_tenants c_floor  n) i1 i2 i3 = some (o_r) := h
    unfold bX8_topNow_6 at h
    refine j_iload_n K 3 rfl dX8_topNow_6 rfl ?_
    refine j_aload_n K 0 rfl dX8_topNow_7 rfl ?_
    refine j_getf (C := RX8) (T := TX8) (N := 29) (ci := 8) K icX8 0 7 (List.mem_cons_of_mem _ mw_9_6) rfl rfl rfl (by decide) rfl dX8_topNow_8 rfl ?_
    refine j_icmp_ge (tgt := 47) K dX8_topNow_11 (by decide) rfl h (fun h => ?_) (fun h => ?_)
    · refine j_iload_n K 1 rfl dX8_topNow_47 rfl ?_
      have h := Option.some.inj h
      subst h
      exact j_iret K dX8_topNow_48
    · refine j_aload_n K 0 rfl dX8_topNow_14 rfl ?_
      refine j_getf (C := RX8) (T := TX8) (N := 29) (ci := 8) K icX8 0 13 (List.mem_cons_of_mem _ mw_5_15) rfl rfl rfl (by decide) rfl dX8_topNow_15 rfl ?_
      refine j_iload_n K 3 rfl dX8_topNow_18 rfl ?_
      refine j_iald K 1 0 rfl rfl dX8_topNow_19 rfl h (fun v_1 h => ?_)
      refine j_iload_n K 2 rfl dX8_topNow_20 rfl ?_
      refine j_icmp_le (tgt := 28) K dX8_topNow_21 (by decide) rfl h (fun h => ?_) (fun h => ?_)
      · refine j_iload_n K 1 rfl dX8_topNow_28 rfl ?_
        refine j_sub [0, 2, 3] (lv' := [(0, .ref (a0 0)), (2, .int i2), (3, .int i3)]) rfl ?_
        exact wX8_topNow_29 K a0 c_latest c_typed c_room c_events c_gone c_audit c_sights c_drawn c_tenants c_floor o_r (fX8_topNow_6 c_tenants c_floor n) (fun z0 z1 z2 hq => ih z0 z1 z2 hq) i2 i3 i1 h
      · refine j_iload_n K 3 rfl dX8_topNow_24 rfl ?_
        refine j_goto (pc' := 29) K dX8_topNow_25 (by decide) ?_
        refine j_sub [0, 2, 3] (lv' := [(0, .ref (a0 0)), (2, .int i2), (3, .int i3)]) rfl ?_
        exact wX8_topNow_29 K a0 c_latest c_typed c_room c_events c_gone c_audit c_sights c_drawn c_tenants c_floor o_r (fX8_topNow_6 c_tenants c_floor n) (fun z0 z1 z2 hq => ih z0 z1 z2 hq) i2 i3 i3 h
set_option maxRecDepth 100000 in
set_option maxHeartbeats 4000000 in
theorem ctX8_topNow (l : Launch) (D : va_G) (cyI cyJ cyS : ClassId) (a0 : Nat → Nat) (c_latest : Int32) (c_typed : Int32) (c_room : Int32) (c_events : Int32) (c_gone : Int32) (c_audit : Int32) (c_sights : Int32) (c_drawn : Int32) (c_tenants : Int32) (c_floor : Nat → Int32) (o_r : Int32) (h : fX8_topNow c_tenants c_floor = some (o_r)) : jC l yX8_topNow wdX8_topNow rmX8_topNow D vwCl (tyz cyI cyJ cyS) [.ref (a0 0)] (uX8_topNow cyI cyJ cyS a0 c_latest c_typed c_tenants c_room c_events c_gone c_audit c_sights c_drawn c_floor) (some (.int o_r)) (uX8_topNow cyI cyJ cyS a0 c_latest c_typed c_tenants c_room c_events c_gone c_audit c_sights c_drawn c_floor) := by
  refine jC_of (cc := cX8_topNow) (nL := 4) (ret := (some .int)) (own := RX8) (lv := [(0, .ref (a0 0))]) (by decide) rfl rfl (Nat.le_of_ble_eq_true rfl) rfl ?_
  intro p e s m args below meth c A K
  unfold fX8_topNow at h
  refine j_iconst (v := (-1 : Int32)) K (by decide) dX8_topNow_0 rfl ?_
  refine j_istore_n (lv' := [(1, .int (-1 : Int32)), (0, .ref (a0 0))]) K (by decide) rfl dX8_topNow_1 rfl ?_
  refine j_iconst (v := (-1 : Int32)) K (by decide) dX8_topNow_2 rfl ?_
  refine j_istore_n (lv' := [(2, .int (-1 : Int32)), (1, .int (-1 : Int32)), (0, .ref (a0 0))]) K (by decide) rfl dX8_topNow_3 rfl ?_
  refine j_iconst (v := (0 : Int32)) K (by decide) dX8_topNow_4 rfl ?_
  refine j_istore_n (lv' := [(3, .int (0 : Int32)), (2, .int (-1 : Int32)), (1, .int (-1 : Int32)), (0, .ref (a0 0))]) K (by decide) rfl dX8_topNow_5 rfl ?_
  refine j_sub [3, 2, 1, 0] (lv' := [(0, .ref (a0 0)), (1, .int (-1 : Int32)), (2, .int (-1 : Int32)), (3, .int (0 : Int32))]) rfl ?_
  exact wX8_topNow_6 K a0 c_latest c_typed c_room c_events c_gone c_audit c_sights c_drawn c_tenants c_floor o_r jF (-1 : Int32) (-1 : Int32) (0 : Int32) h
abbrev uX8_top (cyI cyJ cyS : ClassId) (a0 : Nat → Nat) (c_latest : Int32) (c_typed : Int32) (c_tenants : Int32) (c_room : Int32) (c_events : Int32) (c_gone : Int32) (c_audit : Int32) (c_sights : Int32) (c_drawn : Int32) (c_bytes : Nat → Int32) (c_tenant : Nat → Int32) (c_event : Nat → Int32) (c_floor : Nat → Int32) (c_before : Nat → Int32) (c_left : Nat → Int32) (c_settled : Nat → Int32) (c_fell : Nat → Int32) (c_past : Nat → Int32) (c_highest : Nat → Int32) (c_many : Nat → Int32) (c_floorBy : Nat → Int32) (c_leftBy : Nat → Int32) (c_fellBy : Nat → Int32) : va_W := [((a0 0), .inr (8, [.ref (a0 1), .ref (a0 2), .ref (a0 3), .ref (a0 4), .int c_latest, .ref (a0 5), .int c_typed, .int c_tenants, .ref (a0 6), .int c_room, .int c_events, .ref (a0 7), .int c_gone, .ref (a0 8), .ref (a0 9), .ref (a0 10), .ref (a0 11), .ref (a0 12), .ref (a0 13), .ref (a0 14), .ref (a0 15), .ref (a0 16), .ref (a0 17), .ref (a0 18), .int c_audit, .int c_sights, .ref (a0 19), .ref (a0 20), .int c_drawn])), ((a0 5), .inl (cyI, 31, .inl c_bytes)), ((a0 6), .inl (cyI, 24, .inl c_tenant)), ((a0 7), .inl (cyI, 24, .inl c_event)), ((a0 8), .inl (cyI, 8, .inl c_floor)), ((a0 9), .inl (cyI, 8, .inl c_before)), ((a0 10), .inl (cyI, 8, .inl c_left)), ((a0 11), .inl (cyI, 8, .inl c_settled)), ((a0 12), .inl (cyI, 8, .inl c_fell)), ((a0 13), .inl (cyI, 8, .inl c_past)), ((a0 14), .inl (cyI, 8, .inl c_highest)), ((a0 15), .inl (cyI, 13, .inl c_many)), ((a0 16), .inl (cyI, 192, .inl c_floorBy)), ((a0 17), .inl (cyI, 192, .inl c_leftBy)), ((a0 18), .inl (cyI, 192, .inl c_fellBy))]
abbrev rmX8_top : Room := { frames := 6, cells := 0, slots := 0, locals := 134 }
abbrev wdX8_top : List Cond := .code yX8_top cX8_top 1 (some .int) :: wsL_law
theorem hyX8_top : yX8_top.cls = RX8 ∧ yX8_top.cls ≠ "java/lang/invoke/MethodHandle" ∧ yX8_top.cls ≠ "java/lang/invoke/VarHandle" ∧ (parseMethodDescriptor yX8_top.desc).map (fun d => d.parameters.length) = some 0 := by decide +kernel
set_option maxRecDepth 100000 in
set_option maxHeartbeats 4000000 in
theorem ctX8_top (l : Launch) (D : va_G) (cyI cyJ cyS : ClassId) (a0 : Nat → Nat) (c_latest : Int32) (c_sights : Int32) (c_drawn : Int32) (c_typed : Int32) (c_room : Int32) (c_events : Int32) (c_gone : Int32) (c_bytes : Nat → Int32) (c_event : Nat → Int32) (c_tenants : Int32) (c_sim : jT11) (c_tenant : Nat → Int32) (o_r : Int32) (o_tenants : Int32) (o_sim : jT11) (o_tenant : Nat → Int32) (h : fX8_top c_typed c_room c_events c_gone c_bytes c_event c_tenants c_sim c_tenant = some (o_r, o_tenants, o_sim, o_tenant)) : jC l yX8_top wdX8_top rmX8_top D vwCl (tyz cyI cyJ cyS) [.ref (a0 0)] (uX8_top cyI cyJ cyS a0 c_latest c_typed c_tenants c_room c_events c_gone c_sim.1 c_sights c_drawn c_bytes c_tenant c_event c_sim.2.1 c_sim.2.2.1 c_sim.2.2.2.1 c_sim.2.2.2.2.1 c_sim.2.2.2.2.2.1 c_sim.2.2.2.2.2.2.1 c_sim.2.2.2.2.2.2.2.1 c_sim.2.2.2.2.2.2.2.2.1 c_sim.2.2.2.2.2.2.2.2.2.1 c_sim.2.2.2.2.2.2.2.2.2.2.1 c_sim.2.2.2.2.2.2.2.2.2.2.2) (some (.int o_r)) (uX8_top cyI cyJ cyS a0 c_latest c_typed o_tenants c_room c_events c_gone o_sim.1 c_sights c_drawn c_bytes o_tenant c_event o_sim.2.1 o_sim.2.2.1 o_sim.2.2.2.1 o_sim.2.2.2.2.1 o_sim.2.2.2.2.2.1 o_sim.2.2.2.2.2.2.1 o_sim.2.2.2.2.2.2.2.1 o_sim.2.2.2.2.2.2.2.2.1 o_sim.2.2.2.2.2.2.2.2.2.1 o_sim.2.2.2.2.2.2.2.2.2.2.1 o_sim.2.2.2.2.2.2.2.2.2.2.2) := by
  refine jC_of (cc := cX8_top) (nL := 1) (ret := (some .int)) (own := RX8) (lv := [(0, .ref (a0 0))]) (by decide) rfl rfl (Nat.le_of_ble_eq_true rfl) rfl ?_
  intro p e s m args below meth c A K
  unfold fX8_top at h
  refine j_aload_n K 0 rfl dX8_top_0 rfl ?_
  obtain ⟨c_tenants_1, c_sim_2, c_tenant_3, hc, h⟩ := bd3_some h
  refine j_callV (rest := []) (st1 := []) (ws' := (uX8_top cyI cyJ cyS a0 c_latest c_typed c_tenants_1 c_room c_events c_gone c_sim_2.1 c_sights c_drawn c_bytes c_tenant_3 c_event c_sim_2.2.1 c_sim_2.2.2.1 c_sim_2.2.2.2.1 c_sim_2.2.2.2.2.1 c_sim_2.2.2.2.2.2.1 c_sim_2.2.2.2.2.2.2.1 c_sim_2.2.2.2.2.2.2.2.1 c_sim_2.2.2.2.2.2.2.2.2.1 c_sim_2.2.2.2.2.2.2.2.2.2.1 c_sim_2.2.2.2.2.2.2.2.2.2.2.1 c_sim_2.2.2.2.2.2.2.2.2.2.2.2)) (T := TX8) (N := 29) (ci := 8) K (ctX8_find l D cyI cyJ cyS a0 c_latest c_sights c_drawn c_typed c_room c_events c_gone c_bytes c_event c_tenants c_sim c_tenant c_tenants_1 c_sim_2 c_tenant_3 hc) (gdV mcL mw_17_12 mw_17_13 mw_17_14 mw_1_5 mw_17_15) rfl ⟨rfl, rfl⟩ hyX8_find ⟨Nat.le_of_ble_eq_true rfl, Nat.le_of_ble_eq_true rfl, Nat.le_of_ble_eq_true rfl, Nat.le_of_ble_eq_true rfl⟩ [0, 1, 2, 3, 4, 5, 6, 7, 8, 9, 10, 11, 12, 13, 14] (by decide) rfl [some 0, some 1, some 2, some 3, some 4, some 5, some 6, some 7, some 8, some 9, some 10, some 11, some 12, some 13, some 14] (by decide) rfl rfl 0 rfl rfl rfl rfl (Nat.le_of_ble_eq_true rfl) dX8_top_1 rfl rfl ?_
  refine j_aload_n K 0 rfl dX8_top_4 rfl ?_
  obtain ⟨r_4, hc, h⟩ := bd1_some h
  refine j_callV (rest := []) (st1 := [.int r_4]) (ws' := (uX8_top cyI cyJ cyS a0 c_latest c_typed c_tenants_1 c_room c_events c_gone c_sim_2.1 c_sights c_drawn c_bytes c_tenant_3 c_event c_sim_2.2.1 c_sim_2.2.2.1 c_sim_2.2.2.2.1 c_sim_2.2.2.2.2.1 c_sim_2.2.2.2.2.2.1 c_sim_2.2.2.2.2.2.2.1 c_sim_2.2.2.2.2.2.2.2.1 c_sim_2.2.2.2.2.2.2.2.2.1 c_sim_2.2.2.2.2.2.2.2.2.2.1 c_sim_2.2.2.2.2.2.2.2.2.2.2.1 c_sim_2.2.2.2.2.2.2.2.2.2.2.2)) (T := TX8) (N := 29) (ci := 8) K (ctX8_topNow l D cyI cyJ cyS a0 c_latest c_typed c_room c_events c_gone c_sim_2.1 c_sights c_drawn c_tenants_1 c_sim_2.2.1 r_4 hc) (gdV mcL mw_24_18 mw_24_19 mw_24_20 mw_1_5 mw_24_21) rfl ⟨rfl, rfl⟩ hyX8_topNow ⟨Nat.le_of_ble_eq_true rfl, Nat.le_of_ble_eq_true rfl, Nat.le_of_ble_eq_true rfl, Nat.le_of_ble_eq_true rfl⟩ [0, 4] (by decide) rfl [some 0, none, none, none, some 1, none, none, none, none, none, none, none, none, none, none] (by decide) rfl rfl 0 rfl rfl rfl rfl (Nat.le_of_ble_eq_true rfl) dX8_top_5 rfl rfl ?_
  obtain ⟨e1, g1⟩ := Prod.mk.inj (Option.some.inj h)
  subst e1
  obtain ⟨e2, g2⟩ := Prod.mk.inj g1
  subst e2
  obtain ⟨e3, g3⟩ := Prod.mk.inj g2
  subst e3
  subst g3
  exact j_iret K dX8_top_8
end GEN
