section GEN
variable {p : Program} {l : Launch} {e : Env} {s : State} {m : MethodId} {args : Array Value} {below : List Frame} {meth : Method} {c : Code} {A : Nat → Prop} {D : va_G} {cyI cyJ cyS : ClassId}
abbrev uX8_sortOf (cyI cyJ cyS : ClassId) (a0 : Nat → Nat) (c_latest : Int32) (c_typed : Int32) (c_tenants : Int32) (c_room : Int32) (c_events : Int32) (c_gone : Int32) (c_audit : Int32) (c_sights : Int32) (c_drawn : Int32) (c_tenant : Nat → Int32) (c_event : Nat → Int32) (c_floor : Nat → Int32) (c_before : Nat → Int32) (c_left : Nat → Int32) (c_settled : Nat → Int32) (c_fell : Nat → Int32) (c_past : Nat → Int32) (c_highest : Nat → Int32) (c_many : Nat → Int32) (c_floorBy : Nat → Int32) (c_leftBy : Nat → Int32) (c_fellBy : Nat → Int32) (c_sight : Nat → Int32) : va_W := [((a0 0), .inr (8, [.ref (a0 1), .ref (a0 2), .ref (a0 3), .ref (a0 4), .int c_latest, .ref (a0 5), .int c_typed, .int c_tenants, .ref (a0 6), .int c_room, .int c_events, .ref (a0 7), .int c_gone, .ref (a0 8), .ref (a0 9), .ref (a0 10), .ref (a0 11), .ref (a0 12), .ref (a0 13), .ref (a0 14), .ref (a0 15), .ref (a0 16), .ref (a0 17), .ref (a0 18), .int c_audit, .int c_sights, .ref (a0 19), .ref (a0 20), .int c_drawn])), ((a0 6), .inl (cyI, 24, .inl c_tenant)), ((a0 7), .inl (cyI, 24, .inl c_event)), ((a0 8), .inl (cyI, 8, .inl c_floor)), ((a0 9), .inl (cyI, 8, .inl c_before)), ((a0 10), .inl (cyI, 8, .inl c_left)), ((a0 11), .inl (cyI, 8, .inl c_settled)), ((a0 12), .inl (cyI, 8, .inl c_fell)), ((a0 13), .inl (cyI, 8, .inl c_past)), ((a0 14), .inl (cyI, 8, .inl c_highest)), ((a0 15), .inl (cyI, 13, .inl c_many)), ((a0 16), .inl (cyI, 192, .inl c_floorBy)), ((a0 17), .inl (cyI, 192, .inl c_leftBy)), ((a0 18), .inl (cyI, 192, .inl c_fellBy)), ((a0 19), .inl (cyI, 24, .inl c_sight))]
abbrev rmX8_sortOf : Room := { frames := 6, cells := 0, slots := 0, locals := 137 }
abbrev wdX8_sortOf : List Cond := .code yX8_sortOf cX8_sortOf 5 (some .int) :: wsL_law
theorem hyX8_sortOf : yX8_sortOf.cls = RX8 ∧ yX8_sortOf.cls ≠ "java/lang/invoke/MethodHandle" ∧ yX8_sortOf.cls ≠ "java/lang/invoke/VarHandle" ∧ (parseMethodDescriptor yX8_sortOf.desc).map (fun d => d.parameters.length) = some 1 := by decide +kernel
set_option maxRecDepth 100000 in
set_option maxHeartbeats 4000000 in
theorem wX8_sortOf_46 (K : jK p s m args meth c A D vwCl (tyz cyI cyJ cyS) cX8_sortOf 5 RX8 wdX8_sortOf (some .int)) (a0 : Nat → Nat) (c_latest : Int32) (c_typed : Int32) (c_drawn : Int32) (i1 : Int32) (c_tenants : Int32) (c_room : Int32) (c_events : Int32) (c_gone : Int32) (c_sights : Int32) (c_event : Nat → Int32) (c_sight : Nat → Int32) (o_r : Int32) (o_sim : jT11) (o_tenant : Nat → Int32)  (q_14 : jT11 → (Nat → Int32) → Int32 → Int32 → Int32 → (Option (Int32 × jT11 × (Nat → Int32)))) (hq_14 : ∀ (c_sim : jT11) (c_tenant : Nat → Int32) (i2 : Int32) (i3 : Int32) (i4 : Int32), q_14 c_sim c_tenant i2 i3 i4 = some (o_r, o_sim, o_tenant) → jw p l e rmX8_sortOf s m args below meth c (jQ below args s A D vwCl (tyz cyI cyJ cyS) 0 0 (some (.int o_r)) (uX8_sortOf cyI cyJ cyS a0 c_latest c_typed c_tenants c_room c_events c_gone o_sim.1 c_sights c_drawn o_tenant c_event o_sim.2.1 o_sim.2.2.1 o_sim.2.2.2.1 o_sim.2.2.2.2.1 o_sim.2.2.2.2.2.1 o_sim.2.2.2.2.2.2.1 o_sim.2.2.2.2.2.2.2.1 o_sim.2.2.2.2.2.2.2.2.1 o_sim.2.2.2.2.2.2.2.2.2.1 o_sim.2.2.2.2.2.2.2.2.2.2.1 o_sim.2.2.2.2.2.2.2.2.2.2.2 c_sight)) A D vwCl 5 0 0 14 [(0, .ref (a0 0)), (1, .int i1), (2, .int i2), (3, .int i3), (4, .int i4)] [] (uX8_sortOf cyI cyJ cyS a0 c_latest c_typed c_tenants c_room c_events c_gone c_sim.1 c_sights c_drawn c_tenant c_event c_sim.2.1 c_sim.2.2.1 c_sim.2.2.2.1 c_sim.2.2.2.2.1 c_sim.2.2.2.2.2.1 c_sim.2.2.2.2.2.2.1 c_sim.2.2.2.2.2.2.2.1 c_sim.2.2.2.2.2.2.2.2.1 c_sim.2.2.2.2.2.2.2.2.2.1 c_sim.2.2.2.2.2.2.2.2.2.2.1 c_sim.2.2.2.2.2.2.2.2.2.2.2 c_sight)) : ∀ (c_sim : jT11) (c_tenant : Nat → Int32) (i2 : Int32) (i4 : Int32) (t0 : Int32) (t1 : Int32), fX8_sortOf_46 i1 c_tenants c_room c_events c_gone c_sights c_event c_sight q_14 c_sim c_tenant i2 i4 t0 t1 = some (o_r, o_sim, o_tenant) → jw p l e rmX8_sortOf s m args below meth c (jQ below args s A D vwCl (tyz cyI cyJ cyS) 0 0 (some (.int o_r)) (uX8_sortOf cyI cyJ cyS a0 c_latest c_typed c_tenants c_room c_events c_gone o_sim.1 c_sights c_drawn o_tenant c_event o_sim.2.1 o_sim.2.2.1 o_sim.2.2.2.1 o_sim.2.2.2.2.1 o_sim.2.2.2.2.2.1 o_sim.2.2.2.2.2.2.1 o_sim.2.2.2.2.2.2.2.1 o_sim.2.2.2.2.2.2.2.2.1 o_sim.2.2.2.2.2.2.2.2.2.1 o_sim.2.2.2.2.2.2.2.2.2.2.1 o_sim.2.2.2.2.2.2.2.2.2.2.2 c_sight)) A D vwCl 5 0 0 46 [(0, .ref (a0 0)), (1, .int i1), (2, .int i2), (4, .int i4)] [.int t0, .int t1] (uX8_sortOf cyI cyJ cyS a0 c_latest c_typed c_tenants c_room c_events c_gone c_sim.1 c_sights c_drawn c_tenant c_event c_sim.2.1 c_sim.2.2.1 c_sim.2.2.2.1 c_sim.2.2.2.2.1 c_sim.2.2.2.2.2.1 c_sim.2.2.2.2.2.2.1 c_sim.2.2.2.2.2.2.2.1 c_sim.2.2.2.2.2.2.2.2.1 c_sim.2.2.2.2.2.2.2.2.2.1 c_sim.2.2.2.2.2.2.2.2.2.2.1 c_sim.2.2.2.2.2.2.2.2.2.2.2 c_sight) := by
  intro c_sim c_tenant i2 i4 t0 t1 h
  unfold fX8_sortOf_46 at h
  refine j_ior K dX8_sortOf_46 rfl ?_
  refine j_nmI h (fun i3_6 h => ?_)
  refine j_istore_n (lv' := [(3, .int i3_6), (0, .ref (a0 0)), (1, .int i1), (2, .int i2), (4, .int i4)]) K (by decide) rfl dX8_sortOf_47 rfl ?_
  refine j_iincN (lf := fun z => [(4, .int z), (3, .int i3_6), (0, .ref (a0 0)), (1, .int i1), (2, .int i2)]) K (v := i4 + (1 : Int32)) (k := 4) rfl rfl (by decide) (fun _ => rfl) dX8_sortOf_48 rfl h (fun i4_7 h => ?_)
  refine j_goto (pc' := 14) K dX8_sortOf_51 (by decide) ?_
  refine j_sub [2, 3, 4, 1, 0] (lv' := [(0, .ref (a0 0)), (1, .int i1), (2, .int i2), (3, .int i3_6), (4, .int i4_7)]) rfl ?_
  exact hq_14 c_sim c_tenant i2 i3_6 i4_7 h
set_option maxRecDepth 100000 in
set_option maxHeartbeats 4000000 in
theorem wX8_sortOf_14 (K : jK p s m args meth c A D vwCl (tyz cyI cyJ cyS) cX8_sortOf 5 RX8 wdX8_sortOf (some .int)) (a0 : Nat → Nat) (c_latest : Int32) (c_typed : Int32) (c_drawn : Int32) (i1 : Int32) (c_tenants : Int32) (c_room : Int32) (c_events : Int32) (c_gone : Int32) (c_sights : Int32) (c_event : Nat → Int32) (c_sight : Nat → Int32) (o_r : Int32) (o_sim : jT11) (o_tenant : Nat → Int32)   : ∀ (n : Nat) (c_sim : jT11) (c_tenant : Nat → Int32) (i2 : Int32) (i3 : Int32) (i4 : Int32), fX8_sortOf_14 i1 c_tenants c_room c_events c_gone c_sights c_event c_sight  n c_sim c_tenant i2 i3 i4 = some (o_r, o_sim, o_tenant) → jw p l e rmX8_sortOf s m args below meth c (jQ below args s A D vwCl (tyz cyI cyJ cyS) 0 0 (some (.int o_r)) (uX8_sortOf cyI cyJ cyS a0 c_latest c_typed c_tenants c_room c_events c_gone o_sim.1 c_sights c_drawn o_tenant c_event o_sim.2.1 o_sim.2.2.1 o_sim.2.2.2.1 o_sim.2.2.2.2.1 o_sim.2.2.2.2.2.1 o_sim.2.2.2.2.2.2.1 o_sim.2.2.2.2.2.2.2.1 o_sim.2.2.2.2.2.2.2.2.1 o_sim.2.2.2.2.2.2.2.2.2.1 o_sim.2.2.2.2.2.2.2.2.2.2.1 o_sim.2.2.2.2.2.2.2.2.2.2.2 c_sight)) A D vwCl 5 0 0 14 [(0, .ref (a0 0)), (1, .int i1), (2, .int i2), (3, .int i3), (4, .int i4)] [] (uX8_sortOf cyI cyJ cyS a0 c_latest c_typed c_tenants c_room c_events c_gone c_sim.1 c_sights c_drawn c_tenant c_event c_sim.2.1 c_sim.2.2.1 c_sim.2.2.2.1 c_sim.2.2.2.2.1 c_sim.2.2.2.2.2.1 c_sim.2.2.2.2.2.2.1 c_sim.2.2.2.2.2.2.2.1 c_sim.2.2.2.2.2.2.2.2.1 c_sim.2.2.2.2.2.2.2.2.2.1 c_sim.2.2.2.2.2.2.2.2.2.2.1 c_sim.2.2.2.2.2.2.2.2.2.2.2 c_sight) := by
  intro n
  induction n with
  | zero => intro c_sim c_tenant i2 i3 i4 h; cases h
  | succ n ih =>
    intro c_sim c_tenant i2 i3 i4 h
    have h : bX8_sortOf_14 i1 c_tenants c_room c_events c_gone c_sights c_event c_sight  (fX8_sortOf_14 i1 c_tenants c_room c_events c_gone c_sights c_event c_sight  n) c_sim c_tenant i2 i3 i4 = some (o_r, o_sim, o_tenant) := h
    unfold bX8_sortOf_14 at h
    refine j_iload K 4 rfl dX8_sortOf_14 rfl ?_
    refine j_iconst (v := (4 : Int32)) K (by decide) dX8_sortOf_16 rfl ?_
    refine j_icmp_ge (tgt := 54) K dX8_sortOf_17 (by decide) rfl h (fun h => ?_) (fun h => ?_)
    · refine j_aload_n K 0 rfl dX8_sortOf_54 rfl ?_
      refine j_getf (C := RX8) (T := TX8) (N := 29) (ci := 8) K icX8 0 8 (List.mem_cons_of_mem _ mw_5_13) rfl rfl rfl (by decide) rfl dX8_sortOf_55 rfl ?_
      refine j_iconst (v := (3 : Int32)) K (by decide) dX8_sortOf_58 rfl ?_
      refine j_iload_n K 1 rfl dX8_sortOf_59 rfl ?_
      refine j_imul K dX8_sortOf_60 rfl ?_
      refine j_iload_n K 2 rfl dX8_sortOf_61 rfl ?_
      refine j_iast K 1 0 (fun z => (uX8_sortOf cyI cyJ cyS a0 c_latest c_typed c_tenants c_room c_events c_gone c_sim.1 c_sights c_drawn z c_event c_sim.2.1 c_sim.2.2.1 c_sim.2.2.2.1 c_sim.2.2.2.2.1 c_sim.2.2.2.2.2.1 c_sim.2.2.2.2.2.2.1 c_sim.2.2.2.2.2.2.2.1 c_sim.2.2.2.2.2.2.2.2.1 c_sim.2.2.2.2.2.2.2.2.2.1 c_sim.2.2.2.2.2.2.2.2.2.2.1 c_sim.2.2.2.2.2.2.2.2.2.2.2 c_sight)) rfl rfl (fun _ => rfl) dX8_sortOf_62 rfl h (fun c_tenant_2 h => ?_)
      refine j_iload_n K 3 rfl dX8_sortOf_63 rfl ?_
      obtain ⟨e1, g1⟩ := Prod.mk.inj (Option.some.inj h)
      subst e1
      obtain ⟨e2, g2⟩ := Prod.mk.inj g1
      subst e2
      subst g2
      exact j_iret K dX8_sortOf_64
    · refine j_aload_n K 0 rfl dX8_sortOf_20 rfl ?_
      refine j_getf (C := RX8) (T := TX8) (N := 29) (ci := 8) K icX8 0 8 (List.mem_cons_of_mem _ mw_5_13) rfl rfl rfl (by decide) rfl dX8_sortOf_21 rfl ?_
      refine j_iconst (v := (3 : Int32)) K (by decide) dX8_sortOf_24 rfl ?_
      refine j_iload_n K 1 rfl dX8_sortOf_25 rfl ?_
      refine j_imul K dX8_sortOf_26 rfl ?_
      refine j_iload K 4 rfl dX8_sortOf_27 rfl ?_
      refine j_iast K 1 0 (fun z => (uX8_sortOf cyI cyJ cyS a0 c_latest c_typed c_tenants c_room c_events c_gone c_sim.1 c_sights c_drawn z c_event c_sim.2.1 c_sim.2.2.1 c_sim.2.2.2.1 c_sim.2.2.2.2.1 c_sim.2.2.2.2.2.1 c_sim.2.2.2.2.2.2.1 c_sim.2.2.2.2.2.2.2.1 c_sim.2.2.2.2.2.2.2.2.1 c_sim.2.2.2.2.2.2.2.2.2.1 c_sim.2.2.2.2.2.2.2.2.2.2.1 c_sim.2.2.2.2.2.2.2.2.2.2.2 c_sight)) rfl rfl (fun _ => rfl) dX8_sortOf_29 rfl h (fun c_tenant_3 h => ?_)
      refine j_iload_n K 3 rfl dX8_sortOf_30 rfl ?_
      refine j_aload_n K 0 rfl dX8_sortOf_31 rfl ?_
      obtain ⟨r_4, c_sim_5, hc, h⟩ := bd2_some h
      refine j_callV (rest := [.int i3]) (st1 := [.int r_4, .int i3]) (ws' := (uX8_sortOf cyI cyJ cyS a0 c_latest c_typed c_tenants c_room c_events c_gone c_sim_5.1 c_sights c_drawn c_tenant_3 c_event c_sim_5.2.1 c_sim_5.2.2.1 c_sim_5.2.2.2.1 c_sim_5.2.2.2.2.1 c_sim_5.2.2.2.2.2.1 c_sim_5.2.2.2.2.2.2.1 c_sim_5.2.2.2.2.2.2.2.1 c_sim_5.2.2.2.2.2.2.2.2.1 c_sim_5.2.2.2.2.2.2.2.2.2.1 c_sim_5.2.2.2.2.2.2.2.2.2.2.1 c_sim_5.2.2.2.2.2.2.2.2.2.2.2 c_sight)) (T := TX8) (N := 29) (ci := 8) K (ctX8_isSeen l D cyI cyJ cyS a0 c_latest c_typed c_drawn c_tenants c_room c_events c_gone c_sights c_tenant_3 c_event c_sight c_sim r_4 c_sim_5 hc) (gdV mcL mw_31_9 mw_31_10 mw_31_11 mw_1_5 mw_31_12) rfl ⟨rfl, rfl⟩ hyX8_isSeen ⟨Nat.le_of_ble_eq_true rfl, Nat.le_of_ble_eq_true rfl, Nat.le_of_ble_eq_true rfl, Nat.le_of_ble_eq_true rfl⟩ [0, 1, 2, 3, 4, 5, 6, 7, 8, 9, 10, 11, 12, 13, 14] (by decide) rfl [some 0, some 1, some 2, some 3, some 4, some 5, some 6, some 7, some 8, some 9, some 10, some 11, some 12, some 13, some 14] (by decide) rfl rfl 0 rfl rfl rfl rfl (Nat.le_of_ble_eq_true rfl) dX8_sortOf_32 rfl rfl ?_
      refine j_if_eq (tgt := 45) K dX8_sortOf_35 (by decide) rfl h (fun h => ?_) (fun h => ?_)
      · refine j_iconst (v := (0 : Int32)) K (by decide) dX8_sortOf_45 rfl ?_
        refine j_sub [0, 1, 2, 4] (lv' := [(0, .ref (a0 0)), (1, .int i1), (2, .int i2), (4, .int i4)]) rfl ?_
        exact wX8_sortOf_46 K a0 c_latest c_typed c_drawn i1 c_tenants c_room c_events c_gone c_sights c_event c_sight o_r o_sim o_tenant (fX8_sortOf_14 i1 c_tenants c_room c_events c_gone c_sights c_event c_sight n) (fun z0 z1 z2 z3 z4 hq => ih z0 z1 z2 z3 z4 hq) c_sim_5 c_tenant_3 i2 i4 (0 : Int32) i3 h
      · refine j_iconst (v := (1 : Int32)) K (by decide) dX8_sortOf_38 rfl ?_
        refine j_iload K 4 rfl dX8_sortOf_39 rfl ?_
        refine j_ishl K dX8_sortOf_41 rfl ?_
        refine j_goto (pc' := 46) K dX8_sortOf_42 (by decide) ?_
        refine j_sub [0, 1, 2, 4] (lv' := [(0, .ref (a0 0)), (1, .int i1), (2, .int i2), (4, .int i4)]) rfl ?_
        exact wX8_sortOf_46 K a0 c_latest c_typed c_drawn i1 c_tenants c_room c_events c_gone c_sights c_event c_sight o_r o_sim o_tenant (fX8_sortOf_14 i1 c_tenants c_room c_events c_gone c_sights c_event c_sight n) (fun z0 z1 z2 z3 z4 hq => ih z0 z1 z2 z3 z4 hq) c_sim_5 c_tenant_3 i2 i4 ((1 : Int32) <<< (i4 &&& (31 : Int32))) i3 h
set_option maxRecDepth 100000 in
set_option maxHeartbeats 4000000 in
theorem ctX8_sortOf (l : Launch) (D : va_G) (cyI cyJ cyS : ClassId) (a0 : Nat → Nat) (i1 : Int32) (c_latest : Int32) (c_typed : Int32) (c_drawn : Int32) (c_tenants : Int32) (c_room : Int32) (c_events : Int32) (c_gone : Int32) (c_sights : Int32) (c_event : Nat → Int32) (c_sight : Nat → Int32) (c_sim : jT11) (c_tenant : Nat → Int32) (o_r : Int32) (o_sim : jT11) (o_tenant : Nat → Int32) (h : fX8_sortOf i1 c_tenants c_room c_events c_gone c_sights c_event c_sight c_sim c_tenant = some (o_r, o_sim, o_tenant)) : jC l yX8_sortOf wdX8_sortOf rmX8_sortOf D vwCl (tyz cyI cyJ cyS) [.ref (a0 0), .int i1] (uX8_sortOf cyI cyJ cyS a0 c_latest c_typed c_tenants c_room c_events c_gone c_sim.1 c_sights c_drawn c_tenant c_event c_sim.2.1 c_sim.2.2.1 c_sim.2.2.2.1 c_sim.2.2.2.2.1 c_sim.2.2.2.2.2.1 c_sim.2.2.2.2.2.2.1 c_sim.2.2.2.2.2.2.2.1 c_sim.2.2.2.2.2.2.2.2.1 c_sim.2.2.2.2.2.2.2.2.2.1 c_sim.2.2.2.2.2.2.2.2.2.2.1 c_sim.2.2.2.2.2.2.2.2.2.2.2 c_sight) (some (.int o_r)) (uX8_sortOf cyI cyJ cyS a0 c_latest c_typed c_tenants c_room c_events c_gone o_sim.1 c_sights c_drawn o_tenant c_event o_sim.2.1 o_sim.2.2.1 o_sim.2.2.2.1 o_sim.2.2.2.2.1 o_sim.2.2.2.2.2.1 o_sim.2.2.2.2.2.2.1 o_sim.2.2.2.2.2.2.2.1 o_sim.2.2.2.2.2.2.2.2.1 o_sim.2.2.2.2.2.2.2.2.2.1 o_sim.2.2.2.2.2.2.2.2.2.2.1 o_sim.2.2.2.2.2.2.2.2.2.2.2 c_sight) := by
  refine jC_of (cc := cX8_sortOf) (nL := 5) (ret := (some .int)) (own := RX8) (lv := [(0, .ref (a0 0)), (1, .int i1)]) (by decide) rfl rfl (Nat.le_of_ble_eq_true rfl) rfl ?_
  intro p e s m args below meth c A K
  unfold fX8_sortOf at h
  refine j_aload_n K 0 rfl dX8_sortOf_0 rfl ?_
  refine j_getf (C := RX8) (T := TX8) (N := 29) (ci := 8) K icX8 0 8 (List.mem_cons_of_mem _ mw_5_13) rfl rfl rfl (by decide) rfl dX8_sortOf_1 rfl ?_
  refine j_iconst (v := (3 : Int32)) K (by decide) dX8_sortOf_4 rfl ?_
  refine j_iload_n K 1 rfl dX8_sortOf_5 rfl ?_
  refine j_imul K dX8_sortOf_6 rfl ?_
  refine j_iald K 1 0 rfl rfl dX8_sortOf_7 rfl h (fun v_1 h => ?_)
  refine j_istore_n (lv' := [(2, .int v_1), (0, .ref (a0 0)), (1, .int i1)]) K (by decide) rfl dX8_sortOf_8 rfl ?_
  refine j_iconst (v := (0 : Int32)) K (by decide) dX8_sortOf_9 rfl ?_
  refine j_istore_n (lv' := [(3, .int (0 : Int32)), (2, .int v_1), (0, .ref (a0 0)), (1, .int i1)]) K (by decide) rfl dX8_sortOf_10 rfl ?_
  refine j_iconst (v := (0 : Int32)) K (by decide) dX8_sortOf_11 rfl ?_
  refine j_istore (lv' := [(4, .int (0 : Int32)), (3, .int (0 : Int32)), (2, .int v_1), (0, .ref (a0 0)), (1, .int i1)]) K (by decide) rfl dX8_sortOf_12 rfl ?_
  refine j_sub [3, 4, 2, 1, 0] (lv' := [(0, .ref (a0 0)), (1, .int i1), (2, .int v_1), (3, .int (0 : Int32)), (4, .int (0 : Int32))]) rfl ?_
  exact wX8_sortOf_14 K a0 c_latest c_typed c_drawn i1 c_tenants c_room c_events c_gone c_sights c_event c_sight o_r o_sim o_tenant jF c_sim c_tenant v_1 (0 : Int32) (0 : Int32) h
abbrev uX8_wasOf (cyI cyJ cyS : ClassId) (a0 : Nat → Nat) (c_latest : Int32) (c_typed : Int32) (c_tenants : Int32) (c_room : Int32) (c_events : Int32) (c_gone : Int32) (c_audit : Int32) (c_sights : Int32) (c_drawn : Int32) (c_tenant : Nat → Int32) (c_event : Nat → Int32) (c_floor : Nat → Int32) (c_before : Nat → Int32) (c_left : Nat → Int32) (c_settled : Nat → Int32) (c_fell : Nat → Int32) (c_past : Nat → Int32) (c_highest : Nat → Int32) (c_many : Nat → Int32) (c_floorBy : Nat → Int32) (c_leftBy : Nat → Int32) (c_fellBy : Nat → Int32) (c_sight : Nat → Int32) (c_rows : Nat → Int64) : va_W := [((a0 0), .inr (8, [.ref (a0 1), .ref (a0 2), .ref (a0 3), .ref (a0 4), .int c_latest, .ref (a0 5), .int c_typed, .int c_tenants, .ref (a0 6), .int c_room, .int c_events, .ref (a0 7), .int c_gone, .ref (a0 8), .ref (a0 9), .ref (a0 10), .ref (a0 11), .ref (a0 12), .ref (a0 13), .ref (a0 14), .ref (a0 15), .ref (a0 16), .ref (a0 17), .ref (a0 18), .int c_audit, .int c_sights, .ref (a0 19), .ref (a0 20), .int c_drawn])), ((a0 6), .inl (cyI, 24, .inl c_tenant)), ((a0 7), .inl (cyI, 24, .inl c_event)), ((a0 8), .inl (cyI, 8, .inl c_floor)), ((a0 9), .inl (cyI, 8, .inl c_before)), ((a0 10), .inl (cyI, 8, .inl c_left)), ((a0 11), .inl (cyI, 8, .inl c_settled)), ((a0 12), .inl (cyI, 8, .inl c_fell)), ((a0 13), .inl (cyI, 8, .inl c_past)), ((a0 14), .inl (cyI, 8, .inl c_highest)), ((a0 15), .inl (cyI, 13, .inl c_many)), ((a0 16), .inl (cyI, 192, .inl c_floorBy)), ((a0 17), .inl (cyI, 192, .inl c_leftBy)), ((a0 18), .inl (cyI, 192, .inl c_fellBy)), ((a0 19), .inl (cyI, 24, .inl c_sight)), ((a0 20), .inl (cyJ, 240, .inr (.inl c_rows)))]
abbrev rmX8_wasOf : Room := { frames := 7, cells := 0, slots := 0, locals := 163 }
abbrev wdX8_wasOf : List Cond := .code yX8_wasOf cX8_wasOf 3 (some .int) :: wsL_law
theorem hyX8_wasOf : yX8_wasOf.cls = RX8 ∧ yX8_wasOf.cls ≠ "java/lang/invoke/MethodHandle" ∧ yX8_wasOf.cls ≠ "java/lang/invoke/VarHandle" ∧ (parseMethodDescriptor yX8_wasOf.desc).map (fun d => d.parameters.length) = some 2 := by decide +kernel
set_option maxRecDepth 100000 in
set_option maxHeartbeats 4000000 in
theorem ctX8_wasOf (l : Launch) (D : va_G) (cyI cyJ cyS : ClassId) (a0 : Nat → Nat) (i1 : Int32) (i2 : Int32) (c_latest : Int32) (c_typed : Int32) (c_drawn : Int32) (c_tenants : Int32) (c_room : Int32) (c_events : Int32) (c_gone : Int32) (c_sights : Int32) (c_event : Nat → Int32) (c_sight : Nat → Int32) (c_sim : jT11) (c_tenant : Nat → Int32) (c_rows : Nat → Int64) (o_r : Int32) (o_sim : jT11) (o_tenant : Nat → Int32) (o_rows : Nat → Int64) (h : fX8_wasOf i1 i2 c_tenants c_room c_events c_gone c_sights c_event c_sight c_sim c_tenant c_rows = some (o_r, o_sim, o_tenant, o_rows)) : jC l yX8_wasOf wdX8_wasOf rmX8_wasOf D vwCl (tyz cyI cyJ cyS) [.ref (a0 0), .int i1, .int i2] (uX8_wasOf cyI cyJ cyS a0 c_latest c_typed c_tenants c_room c_events c_gone c_sim.1 c_sights c_drawn c_tenant c_event c_sim.2.1 c_sim.2.2.1 c_sim.2.2.2.1 c_sim.2.2.2.2.1 c_sim.2.2.2.2.2.1 c_sim.2.2.2.2.2.2.1 c_sim.2.2.2.2.2.2.2.1 c_sim.2.2.2.2.2.2.2.2.1 c_sim.2.2.2.2.2.2.2.2.2.1 c_sim.2.2.2.2.2.2.2.2.2.2.1 c_sim.2.2.2.2.2.2.2.2.2.2.2 c_sight c_rows) (some (.int o_r)) (uX8_wasOf cyI cyJ cyS a0 c_latest c_typed c_tenants c_room c_events c_gone o_sim.1 c_sights c_drawn o_tenant c_event o_sim.2.1 o_sim.2.2.1 o_sim.2.2.2.1 o_sim.2.2.2.2.1 o_sim.2.2.2.2.2.1 o_sim.2.2.2.2.2.2.1 o_sim.2.2.2.2.2.2.2.1 o_sim.2.2.2.2.2.2.2.2.1 o_sim.2.2.2.2.2.2.2.2.2.1 o_sim.2.2.2.2.2.2.2.2.2.2.1 o_sim.2.2.2.2.2.2.2.2.2.2.2 c_sight o_rows) := by
  refine jC_of (cc := cX8_wasOf) (nL := 3) (ret := (some .int)) (own := RX8) (lv := [(0, .ref (a0 0)), (1, .int i1), (2, .int i2)]) (by decide) rfl rfl (Nat.le_of_ble_eq_true rfl) rfl ?_
  intro p e s m args below meth c A K
  unfold fX8_wasOf at h
  refine j_iload_n K 2 rfl dX8_wasOf_0 rfl ?_
  refine j_if_ne (tgt := 12) K dX8_wasOf_1 (by decide) rfl h (fun h => ?_) (fun h => ?_)
  · refine j_aload_n K 0 rfl dX8_wasOf_12 rfl ?_
    refine j_iload_n K 1 rfl dX8_wasOf_13 rfl ?_
    obtain ⟨r_1, c_sim_2, c_tenant_3, hc, h⟩ := bd3_some h
    refine j_callV (rest := []) (st1 := [.int r_1]) (ws' := (uX8_wasOf cyI cyJ cyS a0 c_latest c_typed c_tenants c_room c_events c_gone c_sim_2.1 c_sights c_drawn c_tenant_3 c_event c_sim_2.2.1 c_sim_2.2.2.1 c_sim_2.2.2.2.1 c_sim_2.2.2.2.2.1 c_sim_2.2.2.2.2.2.1 c_sim_2.2.2.2.2.2.2.1 c_sim_2.2.2.2.2.2.2.2.1 c_sim_2.2.2.2.2.2.2.2.2.1 c_sim_2.2.2.2.2.2.2.2.2.2.1 c_sim_2.2.2.2.2.2.2.2.2.2.2.1 c_sim_2.2.2.2.2.2.2.2.2.2.2.2 c_sight c_rows)) (T := TX8) (N := 29) (ci := 8) K (ctX8_sortOf l D cyI cyJ cyS a0 i1 c_latest c_typed c_drawn c_tenants c_room c_events c_gone c_sights c_event c_sight c_sim c_tenant r_1 c_sim_2 c_tenant_3 hc) (gdV mcL mw_33_1 mw_33_2 mw_33_3 mw_1_5 mw_33_4) rfl ⟨rfl, rfl⟩ hyX8_sortOf ⟨Nat.le_of_ble_eq_true rfl, Nat.le_of_ble_eq_true rfl, Nat.le_of_ble_eq_true rfl, Nat.le_of_ble_eq_true rfl⟩ [0, 1, 2, 3, 4, 5, 6, 7, 8, 9, 10, 11, 12, 13, 14] (by decide) rfl [some 0, some 1, some 2, some 3, some 4, some 5, some 6, some 7, some 8, some 9, some 10, some 11, some 12, some 13, some 14, none] (by decide) rfl rfl 0 rfl rfl rfl rfl (Nat.le_of_ble_eq_true rfl) dX8_wasOf_14 rfl rfl ?_
    obtain ⟨e1, g1⟩ := Prod.mk.inj (Option.some.inj h)
    subst e1
    obtain ⟨e2, g2⟩ := Prod.mk.inj g1
    subst e2
    obtain ⟨e3, g3⟩ := Prod.mk.inj g2
    subst e3
    subst g3
    exact j_iret K dX8_wasOf_17
  · refine j_aload_n K 0 rfl dX8_wasOf_4 rfl ?_
    refine j_iload_n K 1 rfl dX8_wasOf_5 rfl ?_
    obtain ⟨r_4, c_sim_5, c_tenant_6, c_rows_7, hc, h⟩ := bd4_some h
    refine j_callV (rest := []) (st1 := [.int r_4]) (ws' := (uX8_wasOf cyI cyJ cyS a0 c_latest c_typed c_tenants c_room c_events c_gone c_sim_5.1 c_sights c_drawn c_tenant_6 c_event c_sim_5.2.1 c_sim_5.2.2.1 c_sim_5.2.2.2.1 c_sim_5.2.2.2.2.1 c_sim_5.2.2.2.2.2.1 c_sim_5.2.2.2.2.2.2.1 c_sim_5.2.2.2.2.2.2.2.1 c_sim_5.2.2.2.2.2.2.2.2.1 c_sim_5.2.2.2.2.2.2.2.2.2.1 c_sim_5.2.2.2.2.2.2.2.2.2.2.1 c_sim_5.2.2.2.2.2.2.2.2.2.2.2 c_sight c_rows_7)) (T := TX8) (N := 29) (ci := 8) K (ctX8_wagesOf l D cyI cyJ cyS a0 i1 c_latest c_typed c_drawn c_tenants c_room c_events c_gone c_sights c_event c_sight c_sim c_tenant c_rows r_4 c_sim_5 c_tenant_6 c_rows_7 hc) (gdV mcL mw_32_16 mw_32_17 mw_32_18 mw_1_5 mw_32_19) rfl ⟨rfl, rfl⟩ hyX8_wagesOf ⟨Nat.le_of_ble_eq_true rfl, Nat.le_of_ble_eq_true rfl, Nat.le_of_ble_eq_true rfl, Nat.le_of_ble_eq_true rfl⟩ [0, 1, 2, 3, 4, 5, 6, 7, 8, 9, 10, 11, 12, 13, 14, 15] (by decide) rfl [some 0, some 1, some 2, some 3, some 4, some 5, some 6, some 7, some 8, some 9, some 10, some 11, some 12, some 13, some 14, some 15] (by decide) rfl rfl 0 rfl rfl rfl rfl (Nat.le_of_ble_eq_true rfl) dX8_wasOf_6 rfl rfl ?_
    refine j_goto (pc' := 17) K dX8_wasOf_9 (by decide) ?_
    obtain ⟨e1, g1⟩ := Prod.mk.inj (Option.some.inj h)
    subst e1
    obtain ⟨e2, g2⟩ := Prod.mk.inj g1
    subst e2
    obtain ⟨e3, g3⟩ := Prod.mk.inj g2
    subst e3
    subst g3
    exact j_iret K dX8_wasOf_17
end GEN
