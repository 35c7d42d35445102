section GEN
variable {p : Program} {l : Launch} {e : Env} {s : State} {m : MethodId} {args : Array Value} {below : List Frame} {meth : Method} {c : Code} {A : Nat → Prop} {D : va_G} {cyI cyJ cyS : ClassId}
abbrev uX8_liveBy (cyI cyJ cyS : ClassId) (a0 : Nat → Nat) (c_latest : Int32) (c_typed : Int32) (c_tenants : Int32) (c_room : Int32) (c_events : Int32) (c_gone : Int32) (c_audit : Int32) (c_sights : Int32) (c_drawn : Int32) (c_floorBy : Nat → Int32) : va_W := [((a0 0), .inr (8, [.ref (a0 1), .ref (a0 2), .ref (a0 3), .ref (a0 4), .int c_latest, .ref (a0 5), .int c_typed, .int c_tenants, .ref (a0 6), .int c_room, .int c_events, .ref (a0 7), .int c_gone, .ref (a0 8), .ref (a0 9), .ref (a0 10), .ref (a0 11), .ref (a0 12), .ref (a0 13), .ref (a0 14), .ref (a0 15), .ref (a0 16), .ref (a0 17), .ref (a0 18), .int c_audit, .int c_sights, .ref (a0 19), .ref (a0 20), .int c_drawn])), ((a0 16), .inl (cyI, 192, .inl c_floorBy))]
abbrev rmX8_liveBy : Room := { frames := 0, cells := 0, slots := 0, locals := 0 }
abbrev wdX8_liveBy : List Cond := .code yX8_liveBy cX8_liveBy 5 (some .int) :: wsL_law
theorem hyX8_liveBy : yX8_liveBy.cls = RX8 ∧ yX8_liveBy.cls ≠ "java/lang/invoke/MethodHandle" ∧ yX8_liveBy.cls ≠ "java/lang/invoke/VarHandle" ∧ (parseMethodDescriptor yX8_liveBy.desc).map (fun d => d.parameters.length) = some 2 := by decide +kernel
set_option maxRecDepth 100000 in
set_option maxHeartbeats 4000000 in
theorem wX8_liveBy_39 (K : jK p s m args meth c A D vwCl (tyz cyI cyJ cyS) cX8_liveBy 5 RX8 wdX8_liveBy (some .int)) (a0 : Nat → Nat) (c_latest : Int32) (c_typed : Int32) (c_room : Int32) (c_events : Int32) (c_gone : Int32) (c_audit : Int32) (c_sights : Int32) (c_drawn : Int32) (i1 : Int32) (i2 : Int32) (c_tenants : Int32) (c_floorBy : Nat → Int32) (o_r : Int32)  (q_5 : Int32 → Int32 → Option (Int32)) (hq_5 : ∀ (i3 : Int32) (i4 : Int32), q_5 i3 i4 = some (o_r) → jw p l e rmX8_liveBy s m args below meth c (jQ below args s A D vwCl (tyz cyI cyJ cyS) 0 0 (some (.int o_r)) (uX8_liveBy cyI cyJ cyS a0 c_latest c_typed c_tenants c_room c_events c_gone c_audit c_sights c_drawn c_floorBy)) A D vwCl 5 0 0 5 [(0, .ref (a0 0)), (1, .int i1), (2, .int i2), (3, .int i3), (4, .int i4)] [] (uX8_liveBy cyI cyJ cyS a0 c_latest c_typed c_tenants c_room c_events c_gone c_audit c_sights c_drawn c_floorBy)) : ∀ (i4 : Int32) (t0 : Int32) (t1 : Int32), fX8_liveBy_39 i1 i2 c_tenants c_floorBy q_5 i4 t0 t1 = some (o_r) → jw p l e rmX8_liveBy s m args below meth c (jQ below args s A D vwCl (tyz cyI cyJ cyS) 0 0 (some (.int o_r)) (uX8_liveBy cyI cyJ cyS a0 c_latest c_typed c_tenants c_room c_events c_gone c_audit c_sights c_drawn c_floorBy)) A D vwCl 5 0 0 39 [(0, .ref (a0 0)), (1, .int i1), (2, .int i2), (4, .int i4)] [.int t0, .int t1] (uX8_liveBy cyI cyJ cyS a0 c_latest c_typed c_tenants c_room c_events c_gone c_audit c_sights c_drawn c_floorBy) := by
  intro i4 t0 t1 h
  unfold fX8_liveBy_39 at h
  refine j_ior K dX8_liveBy_39 rfl ?_
  refine j_nmI h (fun i3_2 h => ?_)
  refine j_istore_n (lv' := [(3, .int i3_2), (0, .ref (a0 0)), (1, .int i1), (2, .int i2), (4, .int i4)]) K (by decide) rfl dX8_liveBy_40 rfl ?_
  refine j_iincN (lf := fun z => [(4, .int z), (3, .int i3_2), (0, .ref (a0 0)), (1, .int i1), (2, .int i2)]) K (v := i4 + (1 : Int32)) (k := 4) rfl rfl (by decide) (fun _ => rfl) dX8_liveBy_41 rfl h (fun i4_3 h => ?_)
  refine j_goto (pc' := 5) K dX8_liveBy_44 (by decide) ?_
  refine j_sub [2, 3, 4, 1, 0] (lv' := [(0, .ref (a0 0)), (1, .int i1), (2, .int i2), (3, .int i3_2), (4, .int i4_3)]) rfl ?_
  exact hq_5 i3_2 i4_3 h
set_option maxRecDepth 100000 in
set_option maxHeartbeats 4000000 in
theorem wX8_liveBy_5 (K : jK p s m args meth c A D vwCl (tyz cyI cyJ cyS) cX8_liveBy 5 RX8 wdX8_liveBy (some .int)) (a0 : Nat → Nat) (c_latest : Int32) (c_typed : Int32) (c_room : Int32) (c_events : Int32) (c_gone : Int32) (c_audit : Int32) (c_sights : Int32) (c_drawn : Int32) (i1 : Int32) (i2 : Int32) (c_tenants : Int32) (c_floorBy : Nat → Int32) (o_r : Int32)   : ∀ (n : Nat) (i3 : Int32) (i4 : Int32), fX8_liveBy_5 i1 i2 c_tenants c_floorBy  n i3 i4 = some (o_r) → jw p l e rmX8_liveBy s m args below meth c (jQ below args s A D vwCl (tyz cyI cyJ cyS) 0 0 (some (.int o_r)) (uX8_liveBy cyI cyJ cyS a0 c_latest c_typed c_tenants c_room c_events c_gone c_audit c_sights c_drawn c_floorBy)) A D vwCl 5 0 0 5 [(0, .ref (a0 0)), (1, .int i1), (2, .int i2), (3, .int i3), (4, .int i4)] [] (uX8_liveBy cyI cyJ cyS a0 c_latest c_typed c_tenants c_room c_events c_gone c_audit c_sights c_drawn c_floorBy) := by
  intro n
  induction n with
  | zero => intro i3 i4 h; cases h
  | succ n ih =>
    intro i3 i4 h
    have h : bX8_liveBy_5 i1 i2 c_tenants c_floorBy  (fX8_liveBy_5 i1 i2 c_tenants c_floorBy  n) i3 i4 = some (o_r) := h
    unfold bX8_liveBy_5 at h
    refine j_iload K 4 rfl dX8_liveBy_5 rfl ?_
    refine j_aload_n K 0 rfl dX8_liveBy_7 rfl ?_
    refine j_getf (C := RX8) (T := TX8) (N := 29) (ci := 8) K icX8 0 7 (List.mem_cons_of_mem _ mw_9_6) rfl rfl rfl (by decide) rfl dX8_liveBy_8 rfl ?_
    refine j_icmp_ge (tgt := 47) K dX8_liveBy_11 (by decide) rfl h (fun h => ?_) (fun h => ?_)
    · refine j_iload_n K 3 rfl dX8_liveBy_47 rfl ?_
      have h := Option.some.inj h
      subst h
      exact j_iret K dX8_liveBy_48
    · refine j_iload_n K 3 rfl dX8_liveBy_14 rfl ?_
      refine j_aload_n K 0 rfl dX8_liveBy_15 rfl ?_
      refine j_getf (C := RX8) (T := TX8) (N := 29) (ci := 8) K icX8 0 21 (List.mem_cons_of_mem _ mw_5_23) rfl rfl rfl (by decide) rfl dX8_liveBy_16 rfl ?_
      refine j_bipush (v := (8 : Int32)) K (by decide) dX8_liveBy_19 rfl ?_
      refine j_iload_n K 1 rfl dX8_liveBy_21 rfl ?_
      refine j_imul K dX8_liveBy_22 rfl ?_
      refine j_iload K 4 rfl dX8_liveBy_23 rfl ?_
      refine j_iadd K dX8_liveBy_25 rfl ?_
      refine j_iald K 1 0 rfl rfl dX8_liveBy_26 rfl h (fun v_1 h => ?_)
      refine j_iload_n K 2 rfl dX8_liveBy_27 rfl ?_
      refine j_icmp_ne (tgt := 38) K dX8_liveBy_28 (by decide) rfl h (fun h => ?_) (fun h => ?_)
      · refine j_iconst (v := (0 : Int32)) K (by decide) dX8_liveBy_38 rfl ?_
        refine j_sub [0, 1, 2, 4] (lv' := [(0, .ref (a0 0)), (1, .int i1), (2, .int i2), (4, .int i4)]) rfl ?_
        exact wX8_liveBy_39 K a0 c_latest c_typed c_room c_events c_gone c_audit c_sights c_drawn i1 i2 c_tenants c_floorBy o_r (fX8_liveBy_5 i1 i2 c_tenants c_floorBy n) (fun z0 z1 hq => ih z0 z1 hq) i4 (0 : Int32) i3 h
      · refine j_iconst (v := (1 : Int32)) K (by decide) dX8_liveBy_31 rfl ?_
        refine j_iload K 4 rfl dX8_liveBy_32 rfl ?_
        refine j_ishl K dX8_liveBy_34 rfl ?_
        refine j_goto (pc' := 39) K dX8_liveBy_35 (by decide) ?_
        refine j_sub [0, 1, 2, 4] (lv' := [(0, .ref (a0 0)), (1, .int i1), (2, .int i2), (4, .int i4)]) rfl ?_
        exact wX8_liveBy_39 K a0 c_latest c_typed c_room c_events c_gone c_audit c_sights c_drawn i1 i2 c_tenants c_floorBy o_r (fX8_liveBy_5 i1 i2 c_tenants c_floorBy n) (fun z0 z1 hq => ih z0 z1 hq) i4 ((1 : Int32) <<< (i4 &&& (31 : Int32))) i3 h
set_option maxRecDepth 100000 in
set_option maxHeartbeats 4000000 in
theorem ctX8_liveBy (l : Launch) (D : va_G) (cyI cyJ cyS : ClassId) (a0 : Nat → Nat) (i1 : Int32) (i2 : Int32) (c_latest : Int32) (c_typed : Int32) (c_room : Int32) (c_events : Int32) (c_gone : Int32) (c_audit : Int32) (c_sights : Int32) (c_drawn : Int32) (c_tenants : Int32) (c_floorBy : Nat → Int32) (o_r : Int32) (h : fX8_liveBy i1 i2 c_tenants c_floorBy = some (o_r)) : jC l yX8_liveBy wdX8_liveBy rmX8_liveBy D vwCl (tyz cyI cyJ cyS) [.ref (a0 0), .int i1, .int i2] (uX8_liveBy cyI cyJ cyS a0 c_latest c_typed c_tenants c_room c_events c_gone c_audit c_sights c_drawn c_floorBy) (some (.int o_r)) (uX8_liveBy cyI cyJ cyS a0 c_latest c_typed c_tenants c_room c_events c_gone c_audit c_sights c_drawn c_floorBy) := by
  refine jC_of (cc := cX8_liveBy) (nL := 5) (ret := (some .int)) (own := RX8) (lv := [(0, .ref (a0 0)), (1, .int i1), (2, .int i2)]) (by decide) rfl rfl (Nat.le_of_ble_eq_true rfl) rfl ?_
  intro p e s m args below meth c A K
  unfold fX8_liveBy at h
  refine j_iconst (v := (0 : Int32)) K (by decide) dX8_liveBy_0 rfl ?_
  refine j_istore_n (lv' := [(3, .int (0 : Int32)), (0, .ref (a0 0)), (1, .int i1), (2, .int i2)]) K (by decide) rfl dX8_liveBy_1 rfl ?_
  refine j_iconst (v := (0 : Int32)) K (by decide) dX8_liveBy_2 rfl ?_
  refine j_istore (lv' := [(4, .int (0 : Int32)), (3, .int (0 : Int32)), (0, .ref (a0 0)), (1, .int i1), (2, .int i2)]) K (by decide) rfl dX8_liveBy_3 rfl ?_
  refine j_sub [2, 3, 4, 1, 0] (lv' := [(0, .ref (a0 0)), (1, .int i1), (2, .int i2), (3, .int (0 : Int32)), (4, .int (0 : Int32))]) rfl ?_
  exact wX8_liveBy_5 K a0 c_latest c_typed c_room c_events c_gone c_audit c_sights c_drawn i1 i2 c_tenants c_floorBy o_r jF (0 : Int32) (0 : Int32) h
abbrev uX8_live (cyI cyJ cyS : ClassId) (a0 : Nat → Nat) (c_latest : Int32) (c_typed : Int32) (c_tenants : Int32) (c_room : Int32) (c_events : Int32) (c_gone : Int32) (c_audit : Int32) (c_sights : Int32) (c_drawn : Int32) (c_bytes : Nat → Int32) (c_tenant : Nat → Int32) (c_event : Nat → Int32) (c_floor : Nat → Int32) (c_before : Nat → Int32) (c_left : Nat → Int32) (c_settled : Nat → Int32) (c_fell : Nat → Int32) (c_past : Nat → Int32) (c_highest : Nat → Int32) (c_many : Nat → Int32) (c_floorBy : Nat → Int32) (c_leftBy : Nat → Int32) (c_fellBy : Nat → Int32) : va_W := [((a0 0), .inr (8, [.ref (a0 1), .ref (a0 2), .ref (a0 3), .ref (a0 4), .int c_latest, .ref (a0 5), .int c_typed, .int c_tenants, .ref (a0 6), .int c_room, .int c_events, .ref (a0 7), .int c_gone, .ref (a0 8), .ref (a0 9), .ref (a0 10), .ref (a0 11), .ref (a0 12), .ref (a0 13), .ref (a0 14), .ref (a0 15), .ref (a0 16), .ref (a0 17), .ref (a0 18), .int c_audit, .int c_sights, .ref (a0 19), .ref (a0 20), .int c_drawn])), ((a0 5), .inl (cyI, 31, .inl c_bytes)), ((a0 6), .inl (cyI, 24, .inl c_tenant)), ((a0 7), .inl (cyI, 24, .inl c_event)), ((a0 8), .inl (cyI, 8, .inl c_floor)), ((a0 9), .inl (cyI, 8, .inl c_before)), ((a0 10), .inl (cyI, 8, .inl c_left)), ((a0 11), .inl (cyI, 8, .inl c_settled)), ((a0 12), .inl (cyI, 8, .inl c_fell)), ((a0 13), .inl (cyI, 8, .inl c_past)), ((a0 14), .inl (cyI, 8, .inl c_highest)), ((a0 15), .inl (cyI, 13, .inl c_many)), ((a0 16), .inl (cyI, 192, .inl c_floorBy)), ((a0 17), .inl (cyI, 192, .inl c_leftBy)), ((a0 18), .inl (cyI, 192, .inl c_fellBy))]
abbrev rmX8_live : Room := { frames := 6, cells := 0, slots := 0, locals := 134 }
abbrev wdX8_live : List Cond := .code yX8_live cX8_live 3 (some .int) :: wsL_law
theorem hyX8_live : yX8_live.cls = RX8 ∧ yX8_live.cls ≠ "java/lang/invoke/MethodHandle" ∧ yX8_live.cls ≠ "java/lang/invoke/VarHandle" ∧ (parseMethodDescriptor yX8_live.desc).map (fun d => d.parameters.length) = some 2 := by decide +kernel
set_option maxRecDepth 100000 in
set_option maxHeartbeats 4000000 in
theorem ctX8_live (l : Launch) (D : va_G) (cyI cyJ cyS : ClassId) (a0 : Nat → Nat) (i1 : Int32) (i2 : Int32) (c_latest : Int32) (c_sights : Int32) (c_drawn : Int32) (c_typed : Int32) (c_room : Int32) (c_events : Int32) (c_gone : Int32) (c_bytes : Nat → Int32) (c_event : Nat → Int32) (c_tenants : Int32) (c_sim : jT11) (c_tenant : Nat → Int32) (o_r : Int32) (o_tenants : Int32) (o_sim : jT11) (o_tenant : Nat → Int32) (h : fX8_live i1 i2 c_typed c_room c_events c_gone c_bytes c_event c_tenants c_sim c_tenant = some (o_r, o_tenants, o_sim, o_tenant)) : jC l yX8_live wdX8_live rmX8_live D vwCl (tyz cyI cyJ cyS) [.ref (a0 0), .int i1, .int i2] (uX8_live cyI cyJ cyS a0 c_latest c_typed c_tenants c_room c_events c_gone c_sim.1 c_sights c_drawn c_bytes c_tenant c_event c_sim.2.1 c_sim.2.2.1 c_sim.2.2.2.1 c_sim.2.2.2.2.1 c_sim.2.2.2.2.2.1 c_sim.2.2.2.2.2.2.1 c_sim.2.2.2.2.2.2.2.1 c_sim.2.2.2.2.2.2.2.2.1 c_sim.2.2.2.2.2.2.2.2.2.1 c_sim.2.2.2.2.2.2.2.2.2.2.1 c_sim.2.2.2.2.2.2.2.2.2.2.2) (some (.int o_r)) (uX8_live cyI cyJ cyS a0 c_latest c_typed o_tenants c_room c_events c_gone o_sim.1 c_sights c_drawn c_bytes o_tenant c_event o_sim.2.1 o_sim.2.2.1 o_sim.2.2.2.1 o_sim.2.2.2.2.1 o_sim.2.2.2.2.2.1 o_sim.2.2.2.2.2.2.1 o_sim.2.2.2.2.2.2.2.1 o_sim.2.2.2.2.2.2.2.2.1 o_sim.2.2.2.2.2.2.2.2.2.1 o_sim.2.2.2.2.2.2.2.2.2.2.1 o_sim.2.2.2.2.2.2.2.2.2.2.2) := by
  refine jC_of (cc := cX8_live) (nL := 3) (ret := (some .int)) (own := RX8) (lv := [(0, .ref (a0 0)), (1, .int i1), (2, .int i2)]) (by decide) rfl rfl (Nat.le_of_ble_eq_true rfl) rfl ?_
  intro p e s m args below meth c A K
  unfold fX8_live at h
  refine j_aload_n K 0 rfl dX8_live_0 rfl ?_
  obtain ⟨c_tenants_1, c_sim_2, c_tenant_3, hc, h⟩ := bd3_some h
  refine j_callV (rest := []) (st1 := []) (ws' := (uX8_live cyI cyJ cyS a0 c_latest c_typed c_tenants_1 c_room c_events c_gone c_sim_2.1 c_sights c_drawn c_bytes c_tenant_3 c_event c_sim_2.2.1 c_sim_2.2.2.1 c_sim_2.2.2.2.1 c_sim_2.2.2.2.2.1 c_sim_2.2.2.2.2.2.1 c_sim_2.2.2.2.2.2.2.1 c_sim_2.2.2.2.2.2.2.2.1 c_sim_2.2.2.2.2.2.2.2.2.1 c_sim_2.2.2.2.2.2.2.2.2.2.1 c_sim_2.2.2.2.2.2.2.2.2.2.2.1 c_sim_2.2.2.2.2.2.2.2.2.2.2.2)) (T := TX8) (N := 29) (ci := 8) K (ctX8_find l D cyI cyJ cyS a0 c_latest c_sights c_drawn c_typed c_room c_events c_gone c_bytes c_event c_tenants c_sim c_tenant c_tenants_1 c_sim_2 c_tenant_3 hc) (gdV mcL mw_17_12 mw_17_13 mw_17_14 mw_1_5 mw_17_15) rfl ⟨rfl, rfl⟩ hyX8_find ⟨Nat.le_of_ble_eq_true rfl, Nat.le_of_ble_eq_true rfl, Nat.le_of_ble_eq_true rfl, Nat.le_of_ble_eq_true rfl⟩ [0, 1, 2, 3, 4, 5, 6, 7, 8, 9, 10, 11, 12, 13, 14] (by decide) rfl [some 0, some 1, some 2, some 3, some 4, some 5, some 6, some 7, some 8, some 9, some 10, some 11, some 12, some 13, some 14] (by decide) rfl rfl 0 rfl rfl rfl rfl (Nat.le_of_ble_eq_true rfl) dX8_live_1 rfl rfl ?_
  refine j_iload_n K 1 rfl dX8_live_4 rfl ?_
  obtain ⟨r_4, hc, h⟩ := bd1_some h
  refine j_callS (rest := []) (st1 := [.int r_4]) (ws' := (uX8_live cyI cyJ cyS a0 c_latest c_typed c_tenants_1 c_room c_events c_gone c_sim_2.1 c_sights c_drawn c_bytes c_tenant_3 c_event c_sim_2.2.1 c_sim_2.2.2.1 c_sim_2.2.2.2.1 c_sim_2.2.2.2.2.1 c_sim_2.2.2.2.2.2.1 c_sim_2.2.2.2.2.2.2.1 c_sim_2.2.2.2.2.2.2.2.1 c_sim_2.2.2.2.2.2.2.2.2.1 c_sim_2.2.2.2.2.2.2.2.2.2.1 c_sim_2.2.2.2.2.2.2.2.2.2.2.1 c_sim_2.2.2.2.2.2.2.2.2.2.2.2)) K (ctX8_isMonth l D cyI cyJ cyS i1 r_4 hc) (gdS mcL mw_11_14 mw_11_15 mw_1_5 mw_11_16) rfl ⟨rfl, rfl⟩ hzX8_isMonth ⟨Nat.le_of_ble_eq_true rfl, Nat.le_of_ble_eq_true rfl, Nat.le_of_ble_eq_true rfl, Nat.le_of_ble_eq_true rfl⟩ [] (by decide) rfl [none, none, none, none, none, none, none, none, none, none, none, none, none, none, none] (by decide) rfl rfl rfl rfl (Nat.le_of_ble_eq_true rfl) dX8_live_5 rfl rfl ?_
  refine j_if_eq (tgt := 32) K dX8_live_8 (by decide) rfl h (fun h => ?_) (fun h => ?_)
  · refine j_bipush (v := (-2 : Int32)) K (by decide) dX8_live_32 rfl ?_
    obtain ⟨e1, g1⟩ := Prod.mk.inj (Option.some.inj h)
    subst e1
    obtain ⟨e2, g2⟩ := Prod.mk.inj g1
    subst e2
    obtain ⟨e3, g3⟩ := Prod.mk.inj g2
    subst e3
    subst g3
    exact j_iret K dX8_live_34
  · refine j_iload_n K 2 rfl dX8_live_11 rfl ?_
    refine j_i2l K dX8_live_12 rfl ?_
    refine j_lconst (v := (0 : Int64)) K (by decide) dX8_live_13 rfl ?_
    refine j_ldc2 (v := (12 : Int64)) K (List.mem_cons_of_mem _ mw_20_6) dX8_live_14 rfl ?_
    obtain ⟨r_5, hc, h⟩ := bd1_some h
    refine j_callS (rest := []) (st1 := [.int r_5]) (ws' := (uX8_live cyI cyJ cyS a0 c_latest c_typed c_tenants_1 c_room c_events c_gone c_sim_2.1 c_sights c_drawn c_bytes c_tenant_3 c_event c_sim_2.2.1 c_sim_2.2.2.1 c_sim_2.2.2.2.1 c_sim_2.2.2.2.2.1 c_sim_2.2.2.2.2.2.1 c_sim_2.2.2.2.2.2.2.1 c_sim_2.2.2.2.2.2.2.2.1 c_sim_2.2.2.2.2.2.2.2.2.1 c_sim_2.2.2.2.2.2.2.2.2.2.1 c_sim_2.2.2.2.2.2.2.2.2.2.2.1 c_sim_2.2.2.2.2.2.2.2.2.2.2.2)) K (ctX8_in l D cyI cyJ cyS (Int32.toInt64 i2) (0 : Int64) (12 : Int64) r_5 hc) (gdS mcL mw_7_22 mw_7_23 mw_1_5 mw_8_0) rfl ⟨rfl, rfl⟩ hzX8_in ⟨Nat.le_of_ble_eq_true rfl, Nat.le_of_ble_eq_true rfl, Nat.le_of_ble_eq_true rfl, Nat.le_of_ble_eq_true rfl⟩ [] (by decide) rfl [none, none, none, none, none, none, none, none, none, none, none, none, none, none, none] (by decide) rfl rfl rfl rfl (Nat.le_of_ble_eq_true rfl) dX8_live_17 rfl rfl ?_
    refine j_if_eq (tgt := 32) K dX8_live_20 (by decide) rfl h (fun h => ?_) (fun h => ?_)
    · refine j_bipush (v := (-2 : Int32)) K (by decide) dX8_live_32 rfl ?_
      obtain ⟨e1, g1⟩ := Prod.mk.inj (Option.some.inj h)
      subst e1
      obtain ⟨e2, g2⟩ := Prod.mk.inj g1
      subst e2
      obtain ⟨e3, g3⟩ := Prod.mk.inj g2
      subst e3
      subst g3
      exact j_iret K dX8_live_34
    · refine j_aload_n K 0 rfl dX8_live_23 rfl ?_
      refine j_iload_n K 1 rfl dX8_live_24 rfl ?_
      refine j_iload_n K 2 rfl dX8_live_25 rfl ?_
      obtain ⟨r_6, hc, h⟩ := bd1_some h
      refine j_callV (rest := []) (st1 := [.int r_6]) (ws' := (uX8_live cyI cyJ cyS a0 c_latest c_typed c_tenants_1 c_room c_events c_gone c_sim_2.1 c_sights c_drawn c_bytes c_tenant_3 c_event c_sim_2.2.1 c_sim_2.2.2.1 c_sim_2.2.2.2.1 c_sim_2.2.2.2.2.1 c_sim_2.2.2.2.2.2.1 c_sim_2.2.2.2.2.2.2.1 c_sim_2.2.2.2.2.2.2.2.1 c_sim_2.2.2.2.2.2.2.2.2.1 c_sim_2.2.2.2.2.2.2.2.2.2.1 c_sim_2.2.2.2.2.2.2.2.2.2.2.1 c_sim_2.2.2.2.2.2.2.2.2.2.2.2)) (T := TX8) (N := 29) (ci := 8) K (ctX8_liveBy l D cyI cyJ cyS a0 i1 i2 c_latest c_typed c_room c_events c_gone c_sim_2.1 c_sights c_drawn c_tenants_1 c_sim_2.2.2.2.2.2.2.2.2.2.1 r_6 hc) (gdV mcL mw_20_7 mw_20_8 mw_20_9 mw_1_5 mw_20_10) rfl ⟨rfl, rfl⟩ hyX8_liveBy ⟨Nat.le_of_ble_eq_true rfl, Nat.le_of_ble_eq_true rfl, Nat.le_of_ble_eq_true rfl, Nat.le_of_ble_eq_true rfl⟩ [0, 12] (by decide) rfl [some 0, none, none, none, none, none, none, none, none, none, none, none, some 1, none, none] (by decide) rfl rfl 0 rfl rfl rfl rfl (Nat.le_of_ble_eq_true rfl) dX8_live_26 rfl rfl ?_
      refine j_goto (pc' := 34) K dX8_live_29 (by decide) ?_
      obtain ⟨e1, g1⟩ := Prod.mk.inj (Option.some.inj h)
      subst e1
      obtain ⟨e2, g2⟩ := Prod.mk.inj g1
      subst e2
      obtain ⟨e3, g3⟩ := Prod.mk.inj g2
      subst e3
      subst g3
      exact j_iret K dX8_live_34
end GEN
