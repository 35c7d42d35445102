section GEN
variable {p : Program} {l : Launch} {e : Env} {s : State} {m : MethodId} {args : Array Value} {below : List Frame} {meth : Method} {c : Code} {A : Nat → Prop} {D : va_G} {cyI cyJ cyS : ClassId}
abbrev uX8_neverNow (cyI cyJ cyS : ClassId) (a0 : Nat → Nat) (c_latest : Int32) (c_typed : Int32) (c_tenants : Int32) (c_room : Int32) (c_events : Int32) (c_gone : Int32) (c_audit : Int32) (c_sights : Int32) (c_drawn : Int32) (c_tenant : Nat → Int32) (c_event : Nat → Int32) (c_floor : Nat → Int32) (c_before : Nat → Int32) (c_left : Nat → Int32) (c_settled : Nat → Int32) (c_fell : Nat → Int32) (c_past : Nat → Int32) (c_highest : Nat → Int32) (c_many : Nat → Int32) (c_floorBy : Nat → Int32) (c_leftBy : Nat → Int32) (c_fellBy : Nat → Int32) (c_sight : Nat → Int32) : va_W := [((a0 0), .inr (8, [.ref (a0 1), .ref (a0 2), .ref (a0 3), .ref (a0 4), .int c_latest, .ref (a0 5), .int c_typed, .int c_tenants, .ref (a0 6), .int c_room, .int c_events, .ref (a0 7), .int c_gone, .ref (a0 8), .ref (a0 9), .ref (a0 10), .ref (a0 11), .ref (a0 12), .ref (a0 13), .ref (a0 14), .ref (a0 15), .ref (a0 16), .ref (a0 17), .ref (a0 18), .int c_audit, .int c_sights, .ref (a0 19), .ref (a0 20), .int c_drawn])), ((a0 6), .inl (cyI, 24, .inl c_tenant)), ((a0 7), .inl (cyI, 24, .inl c_event)), ((a0 8), .inl (cyI, 8, .inl c_floor)), ((a0 9), .inl (cyI, 8, .inl c_before)), ((a0 10), .inl (cyI, 8, .inl c_left)), ((a0 11), .inl (cyI, 8, .inl c_settled)), ((a0 12), .inl (cyI, 8, .inl c_fell)), ((a0 13), .inl (cyI, 8, .inl c_past)), ((a0 14), .inl (cyI, 8, .inl c_highest)), ((a0 15), .inl (cyI, 13, .inl c_many)), ((a0 16), .inl (cyI, 192, .inl c_floorBy)), ((a0 17), .inl (cyI, 192, .inl c_leftBy)), ((a0 18), .inl (cyI, 192, .inl c_fellBy)), ((a0 19), .inl (cyI, 24, .inl c_sight))]
abbrev rmX8_neverNow : Room := { frames := 6, cells := 0, slots := 0, locals := 137 }
abbrev wdX8_neverNow : List Cond := .code yX8_neverNow cX8_neverNow 3 (some .int) :: wsL_law
theorem hyX8_neverNow : yX8_neverNow.cls = RX8 ∧ yX8_neverNow.cls ≠ "java/lang/invoke/MethodHandle" ∧ yX8_neverNow.cls ≠ "java/lang/invoke/VarHandle" ∧ (parseMethodDescriptor yX8_neverNow.desc).map (fun d => d.parameters.length) = some 0 := by decide +kernel
set_option maxRecDepth 100000 in
set_option maxHeartbeats 4000000 in
theorem wX8_neverNow_34 (K : jK p s m args meth c A D vwCl (tyz cyI cyJ cyS) cX8_neverNow 3 RX8 wdX8_neverNow (some .int)) (a0 : Nat → Nat) (c_latest : Int32) (c_typed : Int32) (c_drawn : Int32) (c_tenants : Int32) (c_room : Int32) (c_events : Int32) (c_sights : Int32) (c_tenant : Nat → Int32) (c_event : Nat → Int32) (c_sight : Nat → Int32) (o_r : Int32) (o_gone : Int32) (o_sim : jT11)  (q_4 : Int32 → jT11 → Int32 → Int32 → (Option (Int32 × Int32 × jT11))) (hq_4 : ∀ (c_gone : Int32) (c_sim : jT11) (i1 : Int32) (i2 : Int32), q_4 c_gone c_sim i1 i2 = some (o_r, o_gone, o_sim) → jw p l e rmX8_neverNow s m args below meth c (jQ below args s A D vwCl (tyz cyI cyJ cyS) 0 0 (some (.int o_r)) (uX8_neverNow cyI cyJ cyS a0 c_latest c_typed c_tenants c_room c_events o_gone o_sim.1 c_sights c_drawn c_tenant c_event o_sim.2.1 o_sim.2.2.1 o_sim.2.2.2.1 o_sim.2.2.2.2.1 o_sim.2.2.2.2.2.1 o_sim.2.2.2.2.2.2.1 o_sim.2.2.2.2.2.2.2.1 o_sim.2.2.2.2.2.2.2.2.1 o_sim.2.2.2.2.2.2.2.2.2.1 o_sim.2.2.2.2.2.2.2.2.2.2.1 o_sim.2.2.2.2.2.2.2.2.2.2.2 c_sight)) A D vwCl 3 0 0 4 [(0, .ref (a0 0)), (1, .int i1), (2, .int i2)] [] (uX8_neverNow cyI cyJ cyS a0 c_latest c_typed c_tenants c_room c_events c_gone c_sim.1 c_sights c_drawn c_tenant c_event c_sim.2.1 c_sim.2.2.1 c_sim.2.2.2.1 c_sim.2.2.2.2.1 c_sim.2.2.2.2.2.1 c_sim.2.2.2.2.2.2.1 c_sim.2.2.2.2.2.2.2.1 c_sim.2.2.2.2.2.2.2.2.1 c_sim.2.2.2.2.2.2.2.2.2.1 c_sim.2.2.2.2.2.2.2.2.2.2.1 c_sim.2.2.2.2.2.2.2.2.2.2.2 c_sight)) : ∀ (c_gone : Int32) (c_sim : jT11) (i2 : Int32) (t0 : Int32) (t1 : Int32), fX8_neverNow_34 c_tenants c_room c_events c_sights c_tenant c_event c_sight q_4 c_gone c_sim i2 t0 t1 = some (o_r, o_gone, o_sim) → jw p l e rmX8_neverNow s m args below meth c (jQ below args s A D vwCl (tyz cyI cyJ cyS) 0 0 (some (.int o_r)) (uX8_neverNow cyI cyJ cyS a0 c_latest c_typed c_tenants c_room c_events o_gone o_sim.1 c_sights c_drawn c_tenant c_event o_sim.2.1 o_sim.2.2.1 o_sim.2.2.2.1 o_sim.2.2.2.2.1 o_sim.2.2.2.2.2.1 o_sim.2.2.2.2.2.2.1 o_sim.2.2.2.2.2.2.2.1 o_sim.2.2.2.2.2.2.2.2.1 o_sim.2.2.2.2.2.2.2.2.2.1 o_sim.2.2.2.2.2.2.2.2.2.2.1 o_sim.2.2.2.2.2.2.2.2.2.2.2 c_sight)) A D vwCl 3 0 0 34 [(0, .ref (a0 0)), (2, .int i2)] [.int t0, .int t1] (uX8_neverNow cyI cyJ cyS a0 c_latest c_typed c_tenants c_room c_events c_gone c_sim.1 c_sights c_drawn c_tenant c_event c_sim.2.1 c_sim.2.2.1 c_sim.2.2.2.1 c_sim.2.2.2.2.1 c_sim.2.2.2.2.2.1 c_sim.2.2.2.2.2.2.1 c_sim.2.2.2.2.2.2.2.1 c_sim.2.2.2.2.2.2.2.2.1 c_sim.2.2.2.2.2.2.2.2.2.1 c_sim.2.2.2.2.2.2.2.2.2.2.1 c_sim.2.2.2.2.2.2.2.2.2.2.2 c_sight) := by
  intro c_gone c_sim i2 t0 t1 h
  unfold fX8_neverNow_34 at h
  refine j_ior K dX8_neverNow_34 rfl ?_
  refine j_nmI h (fun i1_4 h => ?_)
  refine j_istore_n (lv' := [(1, .int i1_4), (0, .ref (a0 0)), (2, .int i2)]) K (by decide) rfl dX8_neverNow_35 rfl ?_
  refine j_iincN (lf := fun z => [(2, .int z), (1, .int i1_4), (0, .ref (a0 0))]) K (v := i2 + (1 : Int32)) (k := 2) rfl rfl (by decide) (fun _ => rfl) dX8_neverNow_36 rfl h (fun i2_5 h => ?_)
  refine j_goto (pc' := 4) K dX8_neverNow_39 (by decide) ?_
  refine j_sub [2, 1, 0] (lv' := [(0, .ref (a0 0)), (1, .int i1_4), (2, .int i2_5)]) rfl ?_
  exact hq_4 c_gone c_sim i1_4 i2_5 h
set_option maxRecDepth 100000 in
set_option maxHeartbeats 4000000 in
theorem wX8_neverNow_4 (K : jK p s m args meth c A D vwCl (tyz cyI cyJ cyS) cX8_neverNow 3 RX8 wdX8_neverNow (some .int)) (a0 : Nat → Nat) (c_latest : Int32) (c_typed : Int32) (c_drawn : Int32) (c_tenants : Int32) (c_room : Int32) (c_events : Int32) (c_sights : Int32) (c_tenant : Nat → Int32) (c_event : Nat → Int32) (c_sight : Nat → Int32) (o_r : Int32) (o_gone : Int32) (o_sim : jT11)   : ∀ (n : Nat) (c_gone : Int32) (c_sim : jT11) (i1 : Int32) (i2 : Int32), fX8_neverNow_4 c_tenants c_room c_events c_sights c_tenant c_event c_sight  n c_gone c_sim i1 i2 = some (o_r, o_gone, o_sim) → jw p l e rmX8_neverNow s m args below meth c (jQ below args s A D vwCl (tyz cyI cyJ cyS) 0 0 (some (.int o_r)) (uX8_neverNow cyI cyJ cyS a0 c_latest c_typed c_tenants c_room c_events o_gone o_sim.1 c_sights c_drawn c_tenant c_event o_sim.2.1 o_sim.2.2.1 o_sim.2.2.2.1 o_sim.2.2.2.2.1 o_sim.2.2.2.2.2.1 o_sim.2.2.2.2.2.2.1 o_sim.2.2.2.2.2.2.2.1 o_sim.2.2.2.2.2.2.2.2.1 o_sim.2.2.2.2.2.2.2.2.2.1 o_sim.2.2.2.2.2.2.2.2.2.2.1 o_sim.2.2.2.2.2.2.2.2.2.2.2 c_sight)) A D vwCl 3 0 0 4 [(0, .ref (a0 0)), (1, .int i1), (2, .int i2)] [] (uX8_neverNow cyI cyJ cyS a0 c_latest c_typed c_tenants c_room c_events c_gone c_sim.1 c_sights c_drawn c_tenant c_event c_sim.2.1 c_sim.2.2.1 c_sim.2.2.2.1 c_sim.2.2.2.2.1 c_sim.2.2.2.2.2.1 c_sim.2.2.2.2.2.2.1 c_sim.2.2.2.2.2.2.2.1 c_sim.2.2.2.2.2.2.2.2.1 c_sim.2.2.2.2.2.2.2.2.2.1 c_sim.2.2.2.2.2.2.2.2.2.2.1 c_sim.2.2.2.2.2.2.2.2.2.2.2 c_sight) := by
  intro n
  induction n with
  | zero => intro c_gone c_sim i1 i2 h; cases h
  | succ n ih =>
    intro c_gone c_sim i1 i2 h
    have h : bX8_neverNow_4 c_tenants c_room c_events c_sights c_tenant c_event c_sight  (fX8_neverNow_4 c_tenants c_room c_events c_sights c_tenant c_event c_sight  n) c_gone c_sim i1 i2 = some (o_r, o_gone, o_sim) := h
    unfold bX8_neverNow_4 at h
    refine j_iload_n K 2 rfl dX8_neverNow_4 rfl ?_
    refine j_aload_n K 0 rfl dX8_neverNow_5 rfl ?_
    refine j_getf (C := RX8) (T := TX8) (N := 29) (ci := 8) K icX8 0 10 (List.mem_cons_of_mem _ mw_11_13) rfl rfl rfl (by decide) rfl dX8_neverNow_6 rfl ?_
    refine j_icmp_ge (tgt := 42) K dX8_neverNow_9 (by decide) rfl h (fun h => ?_) (fun h => ?_)
    · refine j_aload_n K 0 rfl dX8_neverNow_42 rfl ?_
      refine j_iconst (v := (0 : Int32)) K (by decide) dX8_neverNow_43 rfl ?_
      refine j_putf (C := RX8) (T := TX8) (N := 29) (ci := 8) (ty := .int) (ws' := (uX8_neverNow cyI cyJ cyS a0 c_latest c_typed c_tenants c_room c_events (0 : Int32) c_sim.1 c_sights c_drawn c_tenant c_event c_sim.2.1 c_sim.2.2.1 c_sim.2.2.2.1 c_sim.2.2.2.2.1 c_sim.2.2.2.2.2.1 c_sim.2.2.2.2.2.2.1 c_sim.2.2.2.2.2.2.2.1 c_sim.2.2.2.2.2.2.2.2.1 c_sim.2.2.2.2.2.2.2.2.2.1 c_sim.2.2.2.2.2.2.2.2.2.2.1 c_sim.2.2.2.2.2.2.2.2.2.2.2 c_sight)) K icX8 tyX8 tyX8_ok nmX8 0 12 (List.mem_cons_of_mem _ mw_18_5) rfl rfl rfl (by decide) rfl (by decide +kernel) rfl rfl (Nat.le_of_ble_eq_true rfl) rfl dX8_neverNow_44 rfl ?_
      refine j_iload_n K 1 rfl dX8_neverNow_47 rfl ?_
      obtain ⟨e1, g1⟩ := Prod.mk.inj (Option.some.inj h)
      subst e1
      obtain ⟨e2, g2⟩ := Prod.mk.inj g1
      subst e2
      subst g2
      exact j_iret K dX8_neverNow_48
    · refine j_aload_n K 0 rfl dX8_neverNow_12 rfl ?_
      refine j_iconst (v := (1 : Int32)) K (by decide) dX8_neverNow_13 rfl ?_
      refine j_iload_n K 2 rfl dX8_neverNow_14 rfl ?_
      refine j_ishl K dX8_neverNow_15 rfl ?_
      refine j_nmI h (fun c_gone_1 h => ?_)
      refine j_putf (C := RX8) (T := TX8) (N := 29) (ci := 8) (ty := .int) (ws' := (uX8_neverNow cyI cyJ cyS a0 c_latest c_typed c_tenants c_room c_events c_gone_1 c_sim.1 c_sights c_drawn c_tenant c_event c_sim.2.1 c_sim.2.2.1 c_sim.2.2.2.1 c_sim.2.2.2.2.1 c_sim.2.2.2.2.2.1 c_sim.2.2.2.2.2.2.1 c_sim.2.2.2.2.2.2.2.1 c_sim.2.2.2.2.2.2.2.2.1 c_sim.2.2.2.2.2.2.2.2.2.1 c_sim.2.2.2.2.2.2.2.2.2.2.1 c_sim.2.2.2.2.2.2.2.2.2.2.2 c_sight)) K icX8 tyX8 tyX8_ok nmX8 0 12 (List.mem_cons_of_mem _ mw_18_5) rfl rfl rfl (by decide) rfl (by decide +kernel) rfl rfl (Nat.le_of_ble_eq_true rfl) rfl dX8_neverNow_16 rfl ?_
      refine j_iload_n K 1 rfl dX8_neverNow_19 rfl ?_
      refine j_aload_n K 0 rfl dX8_neverNow_20 rfl ?_
      obtain ⟨r_2, c_sim_3, hc, h⟩ := bd2_some h
      refine j_callV (rest := [.int i1]) (st1 := [.int r_2, .int i1]) (ws' := (uX8_neverNow cyI cyJ cyS a0 c_latest c_typed c_tenants c_room c_events c_gone_1 c_sim_3.1 c_sights c_drawn c_tenant c_event c_sim_3.2.1 c_sim_3.2.2.1 c_sim_3.2.2.2.1 c_sim_3.2.2.2.2.1 c_sim_3.2.2.2.2.2.1 c_sim_3.2.2.2.2.2.2.1 c_sim_3.2.2.2.2.2.2.2.1 c_sim_3.2.2.2.2.2.2.2.2.1 c_sim_3.2.2.2.2.2.2.2.2.2.1 c_sim_3.2.2.2.2.2.2.2.2.2.2.1 c_sim_3.2.2.2.2.2.2.2.2.2.2.2 c_sight)) (T := TX8) (N := 29) (ci := 8) K (ctX8_isSeen l D cyI cyJ cyS a0 c_latest c_typed c_drawn c_tenants c_room c_events c_gone_1 c_sights c_tenant c_event c_sight c_sim r_2 c_sim_3 hc) (gdV mcL mw_31_9 mw_31_10 mw_31_11 mw_1_5 mw_31_12) rfl ⟨rfl, rfl⟩ hyX8_isSeen ⟨Nat.le_of_ble_eq_true rfl, Nat.le_of_ble_eq_true rfl, Nat.le_of_ble_eq_true rfl, Nat.le_of_ble_eq_true rfl⟩ [0, 1, 2, 3, 4, 5, 6, 7, 8, 9, 10, 11, 12, 13, 14] (by decide) rfl [some 0, some 1, some 2, some 3, some 4, some 5, some 6, some 7, some 8, some 9, some 10, some 11, some 12, some 13, some 14] (by decide) rfl rfl 0 rfl rfl rfl rfl (Nat.le_of_ble_eq_true rfl) dX8_neverNow_21 rfl rfl ?_
      refine j_if_eq (tgt := 33) K dX8_neverNow_24 (by decide) rfl h (fun h => ?_) (fun h => ?_)
      · refine j_iconst (v := (0 : Int32)) K (by decide) dX8_neverNow_33 rfl ?_
        refine j_sub [0, 2] (lv' := [(0, .ref (a0 0)), (2, .int i2)]) rfl ?_
        exact wX8_neverNow_34 K a0 c_latest c_typed c_drawn c_tenants c_room c_events c_sights c_tenant c_event c_sight o_r o_gone o_sim (fX8_neverNow_4 c_tenants c_room c_events c_sights c_tenant c_event c_sight n) (fun z0 z1 z2 z3 hq => ih z0 z1 z2 z3 hq) c_gone_1 c_sim_3 i2 (0 : Int32) i1 h
      · refine j_iconst (v := (1 : Int32)) K (by decide) dX8_neverNow_27 rfl ?_
        refine j_iload_n K 2 rfl dX8_neverNow_28 rfl ?_
        refine j_ishl K dX8_neverNow_29 rfl ?_
        refine j_goto (pc' := 34) K dX8_neverNow_30 (by decide) ?_
        refine j_sub [0, 2] (lv' := [(0, .ref (a0 0)), (2, .int i2)]) rfl ?_
        exact wX8_neverNow_34 K a0 c_latest c_typed c_drawn c_tenants c_room c_events c_sights c_tenant c_event c_sight o_r o_gone o_sim (fX8_neverNow_4 c_tenants c_room c_events c_sights c_tenant c_event c_sight n) (fun z0 z1 z2 z3 hq => ih z0 z1 z2 z3 hq) c_gone_1 c_sim_3 i2 ((1 : Int32) <<< (i2 &&& (31 : Int32))) i1 h
set_option maxRecDepth 100000 in
set_option maxHeartbeats 4000000 in
theorem ctX8_neverNow (l : Launch) (D : va_G) (cyI cyJ cyS : ClassId) (a0 : Nat → Nat) (c_latest : Int32) (c_typed : Int32) (c_drawn : Int32) (c_tenants : Int32) (c_room : Int32) (c_events : Int32) (c_sights : Int32) (c_tenant : Nat → Int32) (c_event : Nat → Int32) (c_sight : Nat → Int32) (c_gone : Int32) (c_sim : jT11) (o_r : Int32) (o_gone : Int32) (o_sim : jT11) (h : fX8_neverNow c_tenants c_room c_events c_sights c_tenant c_event c_sight c_gone c_sim = some (o_r, o_gone, o_sim)) : jC l yX8_neverNow wdX8_neverNow rmX8_neverNow D vwCl (tyz cyI cyJ cyS) [.ref (a0 0)] (uX8_neverNow cyI cyJ cyS a0 c_latest c_typed c_tenants c_room c_events c_gone c_sim.1 c_sights c_drawn c_tenant c_event c_sim.2.1 c_sim.2.2.1 c_sim.2.2.2.1 c_sim.2.2.2.2.1 c_sim.2.2.2.2.2.1 c_sim.2.2.2.2.2.2.1 c_sim.2.2.2.2.2.2.2.1 c_sim.2.2.2.2.2.2.2.2.1 c_sim.2.2.2.2.2.2.2.2.2.1 c_sim.2.2.2.2.2.2.2.2.2.2.1 c_sim.2.2.2.2.2.2.2.2.2.2.2 c_sight) (some (.int o_r)) (uX8_neverNow cyI cyJ cyS a0 c_latest c_typed c_tenants c_room c_events o_gone o_sim.1 c_sights c_drawn c_tenant c_event o_sim.2.1 o_sim.2.2.1 o_sim.2.2.2.1 o_sim.2.2.2.2.1 o_sim.2.2.2.2.2.1 o_sim.2.2.2.2.2.2.1 o_sim.2.2.2.2.2.2.2.1 o_sim.2.2.2.2.2.2.2.2.1 o_sim.2.2.2.2.2.2.2.2.2.1 o_sim.2.2.2.2.2.2.2.2.2.2.1 o_sim.2.2.2.2.2.2.2.2.2.2.2 c_sight) := by
  refine jC_of (cc := cX8_neverNow) (nL := 3) (ret := (some .int)) (own := RX8) (lv := [(0, .ref (a0 0))]) (by decide) rfl rfl (Nat.le_of_ble_eq_true rfl) rfl ?_
  intro p e s m args below meth c A K
  unfold fX8_neverNow at h
  refine j_iconst (v := (0 : Int32)) K (by decide) dX8_neverNow_0 rfl ?_
  refine j_istore_n (lv' := [(1, .int (0 : Int32)), (0, .ref (a0 0))]) K (by decide) rfl dX8_neverNow_1 rfl ?_
  refine j_iconst (v := (0 : Int32)) K (by decide) dX8_neverNow_2 rfl ?_
  refine j_istore_n (lv' := [(2, .int (0 : Int32)), (1, .int (0 : Int32)), (0, .ref (a0 0))]) K (by decide) rfl dX8_neverNow_3 rfl ?_
  refine j_sub [2, 1, 0] (lv' := [(0, .ref (a0 0)), (1, .int (0 : Int32)), (2, .int (0 : Int32))]) rfl ?_
  exact wX8_neverNow_4 K a0 c_latest c_typed c_drawn c_tenants c_room c_events c_sights c_tenant c_event c_sight o_r o_gone o_sim jF c_gone c_sim (0 : Int32) (0 : Int32) h
abbrev uX8_never (cyI cyJ cyS : ClassId) (a0 : Nat → Nat) (c_latest : Int32) (c_typed : Int32) (c_tenants : Int32) (c_room : Int32) (c_events : Int32) (c_gone : Int32) (c_audit : Int32) (c_sights : Int32) (c_drawn : Int32) (c_bytes : Nat → Int32) (c_tenant : Nat → Int32) (c_event : Nat → Int32) (c_floor : Nat → Int32) (c_before : Nat → Int32) (c_left : Nat → Int32) (c_settled : Nat → Int32) (c_fell : Nat → Int32) (c_past : Nat → Int32) (c_highest : Nat → Int32) (c_many : Nat → Int32) (c_floorBy : Nat → Int32) (c_leftBy : Nat → Int32) (c_fellBy : Nat → Int32) (c_sight : Nat → Int32) : va_W := [((a0 0), .inr (8, [.ref (a0 1), .ref (a0 2), .ref (a0 3), .ref (a0 4), .int c_latest, .ref (a0 5), .int c_typed, .int c_tenants, .ref (a0 6), .int c_room, .int c_events, .ref (a0 7), .int c_gone, .ref (a0 8), .ref (a0 9), .ref (a0 10), .ref (a0 11), .ref (a0 12), .ref (a0 13), .ref (a0 14), .ref (a0 15), .ref (a0 16), .ref (a0 17), .ref (a0 18), .int c_audit, .int c_sights, .ref (a0 19), .ref (a0 20), .int c_drawn])), ((a0 5), .inl (cyI, 31, .inl c_bytes)), ((a0 6), .inl (cyI, 24, .inl c_tenant)), ((a0 7), .inl (cyI, 24, .inl c_event)), ((a0 8), .inl (cyI, 8, .inl c_floor)), ((a0 9), .inl (cyI, 8, .inl c_before)), ((a0 10), .inl (cyI, 8, .inl c_left)), ((a0 11), .inl (cyI, 8, .inl c_settled)), ((a0 12), .inl (cyI, 8, .inl c_fell)), ((a0 13), .inl (cyI, 8, .inl c_past)), ((a0 14), .inl (cyI, 8, .inl c_highest)), ((a0 15), .inl (cyI, 13, .inl c_many)), ((a0 16), .inl (cyI, 192, .inl c_floorBy)), ((a0 17), .inl (cyI, 192, .inl c_leftBy)), ((a0 18), .inl (cyI, 192, .inl c_fellBy)), ((a0 19), .inl (cyI, 24, .inl c_sight))]
abbrev rmX8_never : Room := { frames := 7, cells := 0, slots := 0, locals := 159 }
abbrev wdX8_never : List Cond := .code yX8_never cX8_never 1 (some .int) :: wsL_law
theorem hyX8_never : yX8_never.cls = RX8 ∧ yX8_never.cls ≠ "java/lang/invoke/MethodHandle" ∧ yX8_never.cls ≠ "java/lang/invoke/VarHandle" ∧ (parseMethodDescriptor yX8_never.desc).map (fun d => d.parameters.length) = some 0 := by decide +kernel
set_option maxRecDepth 100000 in
set_option maxHeartbeats 4000000 in
theorem ctX8_never (l : Launch) (D : va_G) (cyI cyJ cyS : ClassId) (a0 : Nat → Nat) (c_latest : Int32) (c_drawn : Int32) (c_typed : Int32) (c_room : Int32) (c_events : Int32) (c_sights : Int32) (c_bytes : Nat → Int32) (c_event : Nat → Int32) (c_sight : Nat → Int32) (c_tenants : Int32) (c_gone : Int32) (c_sim : jT11) (c_tenant : Nat → Int32) (o_r : Int32) (o_tenants : Int32) (o_gone : Int32) (o_sim : jT11) (o_tenant : Nat → Int32) (h : fX8_never c_typed c_room c_events c_sights c_bytes c_event c_sight c_tenants c_gone c_sim c_tenant = some (o_r, o_tenants, o_gone, o_sim, o_tenant)) : jC l yX8_never wdX8_never rmX8_never D vwCl (tyz cyI cyJ cyS) [.ref (a0 0)] (uX8_never cyI cyJ cyS a0 c_latest c_typed c_tenants c_room c_events c_gone c_sim.1 c_sights c_drawn c_bytes c_tenant c_event c_sim.2.1 c_sim.2.2.1 c_sim.2.2.2.1 c_sim.2.2.2.2.1 c_sim.2.2.2.2.2.1 c_sim.2.2.2.2.2.2.1 c_sim.2.2.2.2.2.2.2.1 c_sim.2.2.2.2.2.2.2.2.1 c_sim.2.2.2.2.2.2.2.2.2.1 c_sim.2.2.2.2.2.2.2.2.2.2.1 c_sim.2.2.2.2.2.2.2.2.2.2.2 c_sight) (some (.int o_r)) (uX8_never cyI cyJ cyS a0 c_latest c_typed o_tenants c_room c_events o_gone o_sim.1 c_sights c_drawn c_bytes o_tenant c_event o_sim.2.1 o_sim.2.2.1 o_sim.2.2.2.1 o_sim.2.2.2.2.1 o_sim.2.2.2.2.2.1 o_sim.2.2.2.2.2.2.1 o_sim.2.2.2.2.2.2.2.1 o_sim.2.2.2.2.2.2.2.2.1 o_sim.2.2.2.2.2.2.2.2.2.1 o_sim.2.2.2.2.2.2.2.2.2.2.1 o_sim.2.2.2.2.2.2.2.2.2.2.2 c_sight) := by
  refine jC_of (cc := cX8_never) (nL := 1) (ret := (some .int)) (own := RX8) (lv := [(0, .ref (a0 0))]) (by decide) rfl rfl (Nat.le_of_ble_eq_true rfl) rfl ?_
  intro p e s m args below meth c A K
  unfold fX8_never at h
  refine j_aload_n K 0 rfl dX8_never_0 rfl ?_
  obtain ⟨c_tenants_1, c_sim_2, c_tenant_3, hc, h⟩ := bd3_some h
  refine j_callV (rest := []) (st1 := []) (ws' := (uX8_never cyI cyJ cyS a0 c_latest c_typed c_tenants_1 c_room c_events c_gone c_sim_2.1 c_sights c_drawn c_bytes c_tenant_3 c_event c_sim_2.2.1 c_sim_2.2.2.1 c_sim_2.2.2.2.1 c_sim_2.2.2.2.2.1 c_sim_2.2.2.2.2.2.1 c_sim_2.2.2.2.2.2.2.1 c_sim_2.2.2.2.2.2.2.2.1 c_sim_2.2.2.2.2.2.2.2.2.1 c_sim_2.2.2.2.2.2.2.2.2.2.1 c_sim_2.2.2.2.2.2.2.2.2.2.2.1 c_sim_2.2.2.2.2.2.2.2.2.2.2.2 c_sight)) (T := TX8) (N := 29) (ci := 8) K (ctX8_find l D cyI cyJ cyS a0 c_latest c_sights c_drawn c_typed c_room c_events c_gone c_bytes c_event c_tenants c_sim c_tenant c_tenants_1 c_sim_2 c_tenant_3 hc) (gdV mcL mw_17_12 mw_17_13 mw_17_14 mw_1_5 mw_17_15) rfl ⟨rfl, rfl⟩ hyX8_find ⟨Nat.le_of_ble_eq_true rfl, Nat.le_of_ble_eq_true rfl, Nat.le_of_ble_eq_true rfl, Nat.le_of_ble_eq_true rfl⟩ [0, 1, 2, 3, 4, 5, 6, 7, 8, 9, 10, 11, 12, 13, 14] (by decide) rfl [some 0, some 1, some 2, some 3, some 4, some 5, some 6, some 7, some 8, some 9, some 10, some 11, some 12, some 13, some 14, none] (by decide) rfl rfl 0 rfl rfl rfl rfl (Nat.le_of_ble_eq_true rfl) dX8_never_1 rfl rfl ?_
  refine j_aload_n K 0 rfl dX8_never_4 rfl ?_
  obtain ⟨r_4, c_gone_5, c_sim_6, hc, h⟩ := bd3_some h
  refine j_callV (rest := []) (st1 := [.int r_4]) (ws' := (uX8_never cyI cyJ cyS a0 c_latest c_typed c_tenants_1 c_room c_events c_gone_5 c_sim_6.1 c_sights c_drawn c_bytes c_tenant_3 c_event c_sim_6.2.1 c_sim_6.2.2.1 c_sim_6.2.2.2.1 c_sim_6.2.2.2.2.1 c_sim_6.2.2.2.2.2.1 c_sim_6.2.2.2.2.2.2.1 c_sim_6.2.2.2.2.2.2.2.1 c_sim_6.2.2.2.2.2.2.2.2.1 c_sim_6.2.2.2.2.2.2.2.2.2.1 c_sim_6.2.2.2.2.2.2.2.2.2.2.1 c_sim_6.2.2.2.2.2.2.2.2.2.2.2 c_sight)) (T := TX8) (N := 29) (ci := 8) K (ctX8_neverNow l D cyI cyJ cyS a0 c_latest c_typed c_drawn c_tenants_1 c_room c_events c_sights c_tenant_3 c_event c_sight c_gone c_sim_2 r_4 c_gone_5 c_sim_6 hc) (gdV mcL mw_31_5 mw_31_6 mw_31_7 mw_1_5 mw_31_8) rfl ⟨rfl, rfl⟩ hyX8_neverNow ⟨Nat.le_of_ble_eq_true rfl, Nat.le_of_ble_eq_true rfl, Nat.le_of_ble_eq_true rfl, Nat.le_of_ble_eq_true rfl⟩ [0, 2, 3, 4, 5, 6, 7, 8, 9, 10, 11, 12, 13, 14, 15] (by decide) rfl [some 0, none, some 1, some 2, some 3, some 4, some 5, some 6, some 7, some 8, some 9, some 10, some 11, some 12, some 13, some 14] (by decide) rfl rfl 0 rfl rfl rfl rfl (Nat.le_of_ble_eq_true rfl) dX8_never_5 rfl rfl ?_
  obtain ⟨e1, g1⟩ := Prod.mk.inj (Option.some.inj h)
  subst e1
  obtain ⟨e2, g2⟩ := Prod.mk.inj g1
  subst e2
  obtain ⟨e3, g3⟩ := Prod.mk.inj g2
  subst e3
  obtain ⟨e4, g4⟩ := Prod.mk.inj g3
  subst e4
  subst g4
  exact j_iret K dX8_never_8
abbrev uX8_rowOf (cyI cyJ cyS : ClassId) (a0 : Nat → Nat) (c_latest : Int32) (c_typed : Int32) (c_tenants : Int32) (c_room : Int32) (c_events : Int32) (c_gone : Int32) (c_audit : Int32) (c_sights : Int32) (c_drawn : Int32) (c_floorBy : Nat → Int32) : va_W := [((a0 0), .inr (8, [.ref (a0 1), .ref (a0 2), .ref (a0 3), .ref (a0 4), .int c_latest, .ref (a0 5), .int c_typed, .int c_tenants, .ref (a0 6), .int c_room, .int c_events, .ref (a0 7), .int c_gone, .ref (a0 8), .ref (a0 9), .ref (a0 10), .ref (a0 11), .ref (a0 12), .ref (a0 13), .ref (a0 14), .ref (a0 15), .ref (a0 16), .ref (a0 17), .ref (a0 18), .int c_audit, .int c_sights, .ref (a0 19), .ref (a0 20), .int c_drawn])), ((a0 16), .inl (cyI, 192, .inl c_floorBy))]
abbrev rmX8_rowOf : Room := { frames := 0, cells := 0, slots := 0, locals := 0 }
abbrev wdX8_rowOf : List Cond := .code yX8_rowOf cX8_rowOf 5 (some .long) :: wsL_law
theorem hyX8_rowOf : yX8_rowOf.cls = RX8 ∧ yX8_rowOf.cls ≠ "java/lang/invoke/MethodHandle" ∧ yX8_rowOf.cls ≠ "java/lang/invoke/VarHandle" ∧ (parseMethodDescriptor yX8_rowOf.desc).map (fun d => d.parameters.length) = some 1 := by decide +kernel
set_option maxRecDepth 100000 in
set_option maxHeartbeats 4000000 in
theorem wX8_rowOf_5 (K : jK p s m args meth c A D vwCl (tyz cyI cyJ cyS) cX8_rowOf 5 RX8 wdX8_rowOf (some .long)) (a0 : Nat → Nat) (c_latest : Int32) (c_typed : Int32) (c_room : Int32) (c_events : Int32) (c_gone : Int32) (c_audit : Int32) (c_sights : Int32) (c_drawn : Int32) (i1 : Int32) (c_tenants : Int32) (c_floorBy : Nat → Int32) (o_r : Int64)   : ∀ (n : Nat) (l2 : Int64) (i4 : Int32), fX8_rowOf_5 i1 c_tenants c_floorBy  n l2 i4 = some (o_r) → jw p l e rmX8_rowOf s m args below meth c (jQ below args s A D vwCl (tyz cyI cyJ cyS) 0 0 (some (.long o_r)) (uX8_rowOf cyI cyJ cyS a0 c_latest c_typed c_tenants c_room c_events c_gone c_audit c_sights c_drawn c_floorBy)) A D vwCl 5 0 0 5 [(0, .ref (a0 0)), (1, .int i1), (2, .long l2), (4, .int i4)] [] (uX8_rowOf cyI cyJ cyS a0 c_latest c_typed c_tenants c_room c_events c_gone c_audit c_sights c_drawn c_floorBy) := by
  intro n
  induction n with
  | zero => intro l2 i4 h; cases h
  | succ n ih =>
    intro l2 i4 h
    have h : bX8_rowOf_5 i1 c_tenants c_floorBy  (fX8_rowOf_5 i1 c_tenants c_floorBy  n) l2 i4 = some (o_r) := h
    unfold bX8_rowOf_5 at h
    refine j_iload K 3 rfl dX8_rowOf_5 rfl ?_
    refine j_aload_n K 0 rfl dX8_rowOf_7 rfl ?_
    refine j_getf (C := RX8) (T := TX8) (N := 29) (ci := 8) K icX8 0 7 (List.mem_cons_of_mem _ mw_9_6) rfl rfl rfl (by decide) rfl dX8_rowOf_8 rfl ?_
    refine j_icmp_ge (tgt := 42) K dX8_rowOf_11 (by decide) rfl h (fun h => ?_) (fun h => ?_)
    · refine j_lload_n K 2 rfl dX8_rowOf_42 rfl ?_
      have h := Option.some.inj h
      subst h
      exact j_lret K dX8_rowOf_43
    · refine j_ldc2 (v := (14 : Int64)) K (List.mem_cons_of_mem _ mw_33_0) dX8_rowOf_14 rfl ?_
      refine j_lload_n K 2 rfl dX8_rowOf_17 rfl ?_
      refine j_lmul K dX8_rowOf_18 rfl ?_
      refine j_aload_n K 0 rfl dX8_rowOf_19 rfl ?_
      refine j_getf (C := RX8) (T := TX8) (N := 29) (ci := 8) K icX8 0 21 (List.mem_cons_of_mem _ mw_5_23) rfl rfl rfl (by decide) rfl dX8_rowOf_20 rfl ?_
      refine j_bipush (v := (8 : Int32)) K (by decide) dX8_rowOf_23 rfl ?_
      refine j_iload_n K 1 rfl dX8_rowOf_25 rfl ?_
      refine j_imul K dX8_rowOf_26 rfl ?_
      refine j_iload K 3 rfl dX8_rowOf_27 rfl ?_
      refine j_iadd K dX8_rowOf_29 rfl ?_
      refine j_iald K 1 0 rfl rfl dX8_rowOf_30 rfl h (fun v_1 h => ?_)
      refine j_i2l K dX8_rowOf_31 rfl ?_
      refine j_ladd K dX8_rowOf_32 rfl ?_
      refine j_lconst (v := (1 : Int64)) K (by decide) dX8_rowOf_33 rfl ?_
      refine j_ladd K dX8_rowOf_34 rfl ?_
      refine j_nmL h (fun l2_2 h => ?_)
      refine j_lstore_n (lv' := [(2, .long l2_2), (0, .ref (a0 0)), (1, .int i1), (4, .int i4)]) K (by decide) rfl dX8_rowOf_35 rfl ?_
      refine j_iincN (lf := fun z => [(4, .int z), (2, .long l2_2), (0, .ref (a0 0)), (1, .int i1)]) K (v := i4 + (1 : Int32)) (k := 3) rfl rfl (by decide) (fun _ => rfl) dX8_rowOf_36 rfl h (fun i4_3 h => ?_)
      refine j_goto (pc' := 5) K dX8_rowOf_39 (by decide) ?_
      refine j_sub [2, 3, 1, 0] (lv' := [(0, .ref (a0 0)), (1, .int i1), (2, .long l2_2), (4, .int i4_3)]) rfl ?_
      exact ih l2_2 i4_3 h
set_option maxRecDepth 100000 in
set_option maxHeartbeats 4000000 in
theorem ctX8_rowOf (l : Launch) (D : va_G) (cyI cyJ cyS : ClassId) (a0 : Nat → Nat) (i1 : Int32) (c_latest : Int32) (c_typed : Int32) (c_room : Int32) (c_events : Int32) (c_gone : Int32) (c_audit : Int32) (c_sights : Int32) (c_drawn : Int32) (c_tenants : Int32) (c_floorBy : Nat → Int32) (o_r : Int64) (h : fX8_rowOf i1 c_tenants c_floorBy = some (o_r)) : jC l yX8_rowOf wdX8_rowOf rmX8_rowOf D vwCl (tyz cyI cyJ cyS) [.ref (a0 0), .int i1] (uX8_rowOf cyI cyJ cyS a0 c_latest c_typed c_tenants c_room c_events c_gone c_audit c_sights c_drawn c_floorBy) (some (.long o_r)) (uX8_rowOf cyI cyJ cyS a0 c_latest c_typed c_tenants c_room c_events c_gone c_audit c_sights c_drawn c_floorBy) := by
  refine jC_of (cc := cX8_rowOf) (nL := 5) (ret := (some .long)) (own := RX8) (lv := [(0, .ref (a0 0)), (1, .int i1)]) (by decide) rfl rfl (Nat.le_of_ble_eq_true rfl) rfl ?_
  intro p e s m args below meth c A K
  unfold fX8_rowOf at h
  refine j_lconst (v := (0 : Int64)) K (by decide) dX8_rowOf_0 rfl ?_
  refine j_lstore_n (lv' := [(2, .long (0 : Int64)), (0, .ref (a0 0)), (1, .int i1)]) K (by decide) rfl dX8_rowOf_1 rfl ?_
  refine j_iconst (v := (0 : Int32)) K (by decide) dX8_rowOf_2 rfl ?_
  refine j_istore (lv' := [(4, .int (0 : Int32)), (2, .long (0 : Int64)), (0, .ref (a0 0)), (1, .int i1)]) K (by decide) rfl dX8_rowOf_3 rfl ?_
  refine j_sub [2, 3, 1, 0] (lv' := [(0, .ref (a0 0)), (1, .int i1), (2, .long (0 : Int64)), (4, .int (0 : Int32))]) rfl ?_
  exact wX8_rowOf_5 K a0 c_latest c_typed c_room c_events c_gone c_audit c_sights c_drawn i1 c_tenants c_floorBy o_r jF (0 : Int64) (0 : Int32) h
end GEN
