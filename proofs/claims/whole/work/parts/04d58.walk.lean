section GEN
variable {p : Program} {l : Launch} {e : Env} {s : State} {m : MethodId} {args : Array Value} {below : List Frame} {meth : Method} {c : Code} {A : Nat → Prop} {D : va_G} {cyI cyJ cyS : ClassId}
abbrev uX8_liftBy (cyI cyJ cyS : ClassId) (a0 : Nat → Nat) (c_latest : Int32) (c_typed : Int32) (c_tenants : Int32) (c_room : Int32) (c_events : Int32) (c_gone : Int32) (c_audit : Int32) (c_sights : Int32) (c_drawn : Int32) (c_floorBy : Nat → Int32) (c_leftBy : Nat → Int32) : va_W := [((a0 0), .inr (8, [.ref (a0 1), .ref (a0 2), .ref (a0 3), .ref (a0 4), .int c_latest, .ref (a0 5), .int c_typed, .int c_tenants, .ref (a0 6), .int c_room, .int c_events, .ref (a0 7), .int c_gone, .ref (a0 8), .ref (a0 9), .ref (a0 10), .ref (a0 11), .ref (a0 12), .ref (a0 13), .ref (a0 14), .ref (a0 15), .ref (a0 16), .ref (a0 17), .ref (a0 18), .int c_audit, .int c_sights, .ref (a0 19), .ref (a0 20), .int c_drawn])), ((a0 16), .inl (cyI, 192, .inl c_floorBy)), ((a0 17), .inl (cyI, 192, .inl c_leftBy))]
abbrev rmX8_liftBy : Room := { frames := 2, cells := 0, slots := 0, locals := 41 }
abbrev wdX8_liftBy : List Cond := .code yX8_liftBy cX8_liftBy 6 (some .int) :: wsL_law
theorem hyX8_liftBy : yX8_liftBy.cls = RX8 ∧ yX8_liftBy.cls ≠ "java/lang/invoke/MethodHandle" ∧ yX8_liftBy.cls ≠ "java/lang/invoke/VarHandle" ∧ (parseMethodDescriptor yX8_liftBy.desc).map (fun d => d.parameters.length) = some 1 := by decide +kernel
set_option maxRecDepth 100000 in
set_option maxHeartbeats 4000000 in
theorem wX8_liftBy_75 (K : jK p s m args meth c A D vwCl (tyz cyI cyJ cyS) cX8_liftBy 6 RX8 wdX8_liftBy (some .int)) (a0 : Nat → Nat) (c_latest : Int32) (c_typed : Int32) (c_room : Int32) (c_events : Int32) (c_gone : Int32) (c_audit : Int32) (c_sights : Int32) (c_drawn : Int32) (i1 : Int32) (c_tenants : Int32) (c_floorBy : Nat → Int32) (c_leftBy : Nat → Int32) (o_r : Int32)  (q_7 : Int32 → Int32 → Int32 → Option (Int32)) (hq_7 : ∀ (i2 : Int32) (i3 : Int32) (i4 : Int32), q_7 i2 i3 i4 = some (o_r) → jw p l e rmX8_liftBy s m args below meth c (jQ below args s A D vwCl (tyz cyI cyJ cyS) 0 0 (some (.int o_r)) (uX8_liftBy cyI cyJ cyS a0 c_latest c_typed c_tenants c_room c_events c_gone c_audit c_sights c_drawn c_floorBy c_leftBy)) A D vwCl 6 0 0 7 [(0, .ref (a0 0)), (1, .int i1), (2, .int i2), (3, .int i3), (4, .int i4)] [] (uX8_liftBy cyI cyJ cyS a0 c_latest c_typed c_tenants c_room c_events c_gone c_audit c_sights c_drawn c_floorBy c_leftBy)) : ∀ (i2 : Int32) (i4 : Int32) (t0 : Int32) (t1 : Int32), fX8_liftBy_75 i1 c_tenants c_floorBy c_leftBy q_7 i2 i4 t0 t1 = some (o_r) → jw p l e rmX8_liftBy s m args below meth c (jQ below args s A D vwCl (tyz cyI cyJ cyS) 0 0 (some (.int o_r)) (uX8_liftBy cyI cyJ cyS a0 c_latest c_typed c_tenants c_room c_events c_gone c_audit c_sights c_drawn c_floorBy c_leftBy)) A D vwCl 6 0 0 75 [(0, .ref (a0 0)), (1, .int i1), (2, .int i2), (4, .int i4)] [.int t0, .int t1] (uX8_liftBy cyI cyJ cyS a0 c_latest c_typed c_tenants c_room c_events c_gone c_audit c_sights c_drawn c_floorBy c_leftBy) := by
  intro i2 i4 t0 t1 h
  unfold fX8_liftBy_75 at h
  refine j_ior K dX8_liftBy_75 rfl ?_
  refine j_nmI h (fun i3_5 h => ?_)
  refine j_istore_n (lv' := [(3, .int i3_5), (0, .ref (a0 0)), (1, .int i1), (2, .int i2), (4, .int i4)]) K (by decide) rfl dX8_liftBy_76 rfl ?_
  refine j_iincN (lf := fun z => [(4, .int z), (3, .int i3_5), (0, .ref (a0 0)), (1, .int i1), (2, .int i2)]) K (v := i4 + (1 : Int32)) (k := 4) rfl rfl (by decide) (fun _ => rfl) dX8_liftBy_77 rfl h (fun i4_6 h => ?_)
  refine j_goto (pc' := 7) K dX8_liftBy_80 (by decide) ?_
  refine j_sub [2, 3, 4, 1, 0] (lv' := [(0, .ref (a0 0)), (1, .int i1), (2, .int i2), (3, .int i3_5), (4, .int i4_6)]) rfl ?_
  exact hq_7 i2 i3_5 i4_6 h
set_option maxRecDepth 100000 in
set_option maxHeartbeats 4000000 in
theorem wX8_liftBy_49 (K : jK p s m args meth c A D vwCl (tyz cyI cyJ cyS) cX8_liftBy 6 RX8 wdX8_liftBy (some .int)) (a0 : Nat → Nat) (c_latest : Int32) (c_typed : Int32) (c_room : Int32) (c_events : Int32) (c_gone : Int32) (c_audit : Int32) (c_sights : Int32) (c_drawn : Int32) (i1 : Int32) (c_tenants : Int32) (c_floorBy : Nat → Int32) (c_leftBy : Nat → Int32) (o_r : Int32)  (q_7 : Int32 → Int32 → Int32 → Option (Int32)) (hq_7 : ∀ (i2 : Int32) (i3 : Int32) (i4 : Int32), q_7 i2 i3 i4 = some (o_r) → jw p l e rmX8_liftBy s m args below meth c (jQ below args s A D vwCl (tyz cyI cyJ cyS) 0 0 (some (.int o_r)) (uX8_liftBy cyI cyJ cyS a0 c_latest c_typed c_tenants c_room c_events c_gone c_audit c_sights c_drawn c_floorBy c_leftBy)) A D vwCl 6 0 0 7 [(0, .ref (a0 0)), (1, .int i1), (2, .int i2), (3, .int i3), (4, .int i4)] [] (uX8_liftBy cyI cyJ cyS a0 c_latest c_typed c_tenants c_room c_events c_gone c_audit c_sights c_drawn c_floorBy c_leftBy)) : ∀ (i3 : Int32) (i4 : Int32) (i5 : Int32) (t0 : Int32) (t1 : Int32), fX8_liftBy_49 i1 c_tenants c_floorBy c_leftBy q_7 i3 i4 i5 t0 t1 = some (o_r) → jw p l e rmX8_liftBy s m args below meth c (jQ below args s A D vwCl (tyz cyI cyJ cyS) 0 0 (some (.int o_r)) (uX8_liftBy cyI cyJ cyS a0 c_latest c_typed c_tenants c_room c_events c_gone c_audit c_sights c_drawn c_floorBy c_leftBy)) A D vwCl 6 0 0 49 [(0, .ref (a0 0)), (1, .int i1), (3, .int i3), (4, .int i4), (5, .int i5)] [.int t0, .int t1] (uX8_liftBy cyI cyJ cyS a0 c_latest c_typed c_tenants c_room c_events c_gone c_audit c_sights c_drawn c_floorBy c_leftBy) := by
  intro i3 i4 i5 t0 t1 h
  unfold fX8_liftBy_49 at h
  refine j_ior K dX8_liftBy_49 rfl ?_
  refine j_nmI h (fun i2_3 h => ?_)
  refine j_istore_n (lv' := [(2, .int i2_3), (0, .ref (a0 0)), (1, .int i1), (3, .int i3), (4, .int i4), (5, .int i5)]) K (by decide) rfl dX8_liftBy_50 rfl ?_
  refine j_iload_n K 3 rfl dX8_liftBy_51 rfl ?_
  refine j_aload_n K 1 rfl dX8_liftBy_52 rfl ?_
  refine j_iload K 5 rfl dX8_liftBy_53 rfl ?_
  obtain ⟨r_4, hc, h⟩ := bd1_some h
  refine j_callV (rest := [.int i3]) (st1 := [.int r_4, .int i3]) (ws' := (uX8_liftBy cyI cyJ cyS a0 c_latest c_typed c_tenants c_room c_events c_gone c_audit c_sights c_drawn c_floorBy c_leftBy)) (T := TX8) (N := 29) (ci := 8) K (ctX8_owes l D cyI cyJ cyS a0 i5 c_latest c_typed c_tenants c_room c_events c_gone c_audit c_sights c_drawn c_floorBy c_leftBy r_4 hc) (gdV mcL mw_19_11 mw_19_12 mw_19_13 mw_1_5 mw_19_14) rfl ⟨rfl, rfl⟩ hyX8_owes ⟨Nat.le_of_ble_eq_true rfl, Nat.le_of_ble_eq_true rfl, Nat.le_of_ble_eq_true rfl, Nat.le_of_ble_eq_true rfl⟩ [0, 1, 2] (by decide) rfl [some 0, some 1, some 2] (by decide) rfl rfl 0 rfl rfl rfl rfl (Nat.le_of_ble_eq_true rfl) dX8_liftBy_55 rfl rfl ?_
  refine j_iconst (v := (1 : Int32)) K (by decide) dX8_liftBy_58 rfl ?_
  refine j_icmp_ne (tgt := 74) K dX8_liftBy_59 (by decide) rfl h (fun h => ?_) (fun h => ?_)
  · refine j_iconst (v := (0 : Int32)) K (by decide) dX8_liftBy_74 rfl ?_
    refine j_sub [1, 2, 0, 4] (lv' := [(0, .ref (a0 0)), (1, .int i1), (2, .int i2_3), (4, .int i4)]) rfl ?_
    exact wX8_liftBy_75 K a0 c_latest c_typed c_room c_events c_gone c_audit c_sights c_drawn i1 c_tenants c_floorBy c_leftBy o_r q_7 hq_7 i2_3 i4 (0 : Int32) i3 h
  · refine j_iconst (v := (1 : Int32)) K (by decide) dX8_liftBy_62 rfl ?_
    refine j_aload_n K 1 rfl dX8_liftBy_63 rfl ?_
    refine j_getf (C := RX8) (T := TX8) (N := 29) (ci := 8) K icX8 0 21 (List.mem_cons_of_mem _ mw_5_23) rfl rfl rfl (by decide) rfl dX8_liftBy_64 rfl ?_
    refine j_iload K 5 rfl dX8_liftBy_67 rfl ?_
    refine j_iald K 1 0 rfl rfl dX8_liftBy_69 rfl h (fun v_7 h => ?_)
    refine j_ishl K dX8_liftBy_70 rfl ?_
    refine j_goto (pc' := 75) K dX8_liftBy_71 (by decide) ?_
    refine j_sub [1, 2, 0, 4] (lv' := [(0, .ref (a0 0)), (1, .int i1), (2, .int i2_3), (4, .int i4)]) rfl ?_
    exact wX8_liftBy_75 K a0 c_latest c_typed c_room c_events c_gone c_audit c_sights c_drawn i1 c_tenants c_floorBy c_leftBy o_r q_7 hq_7 i2_3 i4 ((1 : Int32) <<< (v_7 &&& (31 : Int32))) i3 h
set_option maxRecDepth 100000 in
set_option maxHeartbeats 4000000 in
theorem wX8_liftBy_7 (K : jK p s m args meth c A D vwCl (tyz cyI cyJ cyS) cX8_liftBy 6 RX8 wdX8_liftBy (some .int)) (a0 : Nat → Nat) (c_latest : Int32) (c_typed : Int32) (c_room : Int32) (c_events : Int32) (c_gone : Int32) (c_audit : Int32) (c_sights : Int32) (c_drawn : Int32) (i1 : Int32) (c_tenants : Int32) (c_floorBy : Nat → Int32) (c_leftBy : Nat → Int32) (o_r : Int32)   : ∀ (n : Nat) (i2 : Int32) (i3 : Int32) (i4 : Int32), fX8_liftBy_7 i1 c_tenants c_floorBy c_leftBy  n i2 i3 i4 = some (o_r) → jw p l e rmX8_liftBy s m args below meth c (jQ below args s A D vwCl (tyz cyI cyJ cyS) 0 0 (some (.int o_r)) (uX8_liftBy cyI cyJ cyS a0 c_latest c_typed c_tenants c_room c_events c_gone c_audit c_sights c_drawn c_floorBy c_leftBy)) A D vwCl 6 0 0 7 [(0, .ref (a0 0)), (1, .int i1), (2, .int i2), (3, .int i3), (4, .int i4)] [] (uX8_liftBy cyI cyJ cyS a0 c_latest c_typed c_tenants c_room c_events c_gone c_audit c_sights c_drawn c_floorBy c_leftBy) := by
  intro n
  induction n with
  | zero => intro i2 i3 i4 h; cases h
  | succ n ih =>
    intro i2 i3 i4 h
    have h : bX8_liftBy_7 i1 c_tenants c_floorBy c_leftBy  (fX8_liftBy_7 i1 c_tenants c_floorBy c_leftBy  n) i2 i3 i4 = some (o_r) := h
    unfold bX8_liftBy_7 at h
    refine j_iload K 4 rfl dX8_liftBy_7 rfl ?_
    refine j_aload_n K 0 rfl dX8_liftBy_9 rfl ?_
    refine j_getf (C := RX8) (T := TX8) (N := 29) (ci := 8) K icX8 0 7 (List.mem_cons_of_mem _ mw_9_6) rfl rfl rfl (by decide) rfl dX8_liftBy_10 rfl ?_
    refine j_icmp_ge (tgt := 83) K dX8_liftBy_13 (by decide) rfl h (fun h => ?_) (fun h => ?_)
    · refine j_iload_n K 2 rfl dX8_liftBy_83 rfl ?_
      refine j_iload_n K 3 rfl dX8_liftBy_84 rfl ?_
      refine j_iconst (v := (-1 : Int32)) K (by decide) dX8_liftBy_85 rfl ?_
      refine j_ixor K dX8_liftBy_86 rfl ?_
      refine j_iand K dX8_liftBy_87 rfl ?_
      have h := Option.some.inj h
      subst h
      exact j_iret K dX8_liftBy_88
    · refine j_bipush (v := (8 : Int32)) K (by decide) dX8_liftBy_16 rfl ?_
      refine j_iload_n K 1 rfl dX8_liftBy_18 rfl ?_
      refine j_imul K dX8_liftBy_19 rfl ?_
      refine j_iload K 4 rfl dX8_liftBy_20 rfl ?_
      refine j_iadd K dX8_liftBy_22 rfl ?_
      refine j_nmI h (fun i5_1 h => ?_)
      refine j_istore (lv' := [(5, .int i5_1), (0, .ref (a0 0)), (1, .int i1), (2, .int i2), (3, .int i3), (4, .int i4)]) K (by decide) rfl dX8_liftBy_23 rfl ?_
      refine j_iload_n K 3 rfl dX8_liftBy_25 rfl ?_
      refine j_aload_n K 1 rfl dX8_liftBy_26 rfl ?_
      refine j_getf (C := RX8) (T := TX8) (N := 29) (ci := 8) K icX8 0 21 (List.mem_cons_of_mem _ mw_5_23) rfl rfl rfl (by decide) rfl dX8_liftBy_27 rfl ?_
      refine j_iload K 0 rfl dX8_liftBy_30 rfl ?_
      refine j_iald K 1 0 rfl rfl dX8_liftBy_32 rfl h (fun v_2 h => ?_)
      refine j_if_le (tgt := 48) K dX8_liftBy_33 (by decide) rfl h (fun h => ?_) (fun h => ?_)
      · refine j_iconst (v := (0 : Int32)) K (by decide) dX8_liftBy_48 rfl ?_
        refine j_sub [1, 2, 4, 5, 0] (lv' := [(0, .ref (a0 0)), (1, .int i1), (3, .int i3), (4, .int i4), (5, .int i5_1)]) rfl ?_
        exact wX8_liftBy_49 K a0 c_latest c_typed c_room c_events c_gone c_audit c_sights c_drawn i1 c_tenants c_floorBy c_leftBy o_r (fX8_liftBy_7 i1 c_tenants c_floorBy c_leftBy n) (fun z0 z1 z2 hq => ih z0 z1 z2 hq) i3 i4 i5_1 (0 : Int32) i2 h
      · refine j_iconst (v := (1 : Int32)) K (by decide) dX8_liftBy_36 rfl ?_
        refine j_aload_n K 1 rfl dX8_liftBy_37 rfl ?_
        refine j_getf (C := RX8) (T := TX8) (N := 29) (ci := 8) K icX8 0 21 (List.mem_cons_of_mem _ mw_5_23) rfl rfl rfl (by decide) rfl dX8_liftBy_38 rfl ?_
        refine j_iload K 0 rfl dX8_liftBy_41 rfl ?_
        refine j_iald K 1 0 rfl rfl dX8_liftBy_43 rfl h (fun v_8 h => ?_)
        refine j_ishl K dX8_liftBy_44 rfl ?_
        refine j_goto (pc' := 49) K dX8_liftBy_45 (by decide) ?_
        refine j_sub [1, 2, 4, 5, 0] (lv' := [(0, .ref (a0 0)), (1, .int i1), (3, .int i3), (4, .int i4), (5, .int i5_1)]) rfl ?_
        exact wX8_liftBy_49 K a0 c_latest c_typed c_room c_events c_gone c_audit c_sights c_drawn i1 c_tenants c_floorBy c_leftBy o_r (fX8_liftBy_7 i1 c_tenants c_floorBy c_leftBy n) (fun z0 z1 z2 hq => ih z0 z1 z2 hq) i3 i4 i5_1 ((1 : Int32) <<< (v_8 &&& (31 : Int32))) i2 h
set_option maxRecDepth 100000 in
set_option maxHeartbeats 4000000 in
theorem ctX8_liftBy (l : Launch) (D : va_G) (cyI cyJ cyS : ClassId) (a0 : Nat → Nat) (i1 : Int32) (c_latest : Int32) (c_typed : Int32) (c_room : Int32) (c_events : Int32) (c_gone : Int32) (c_audit : Int32) (c_sights : Int32) (c_drawn : Int32) (c_tenants : Int32) (c_floorBy : Nat → Int32) (c_leftBy : Nat → Int32) (o_r : Int32) (h : fX8_liftBy i1 c_tenants c_floorBy c_leftBy = some (o_r)) : jC l yX8_liftBy wdX8_liftBy rmX8_liftBy D vwCl (tyz cyI cyJ cyS) [.ref (a0 0), .int i1] (uX8_liftBy cyI cyJ cyS a0 c_latest c_typed c_tenants c_room c_events c_gone c_audit c_sights c_drawn c_floorBy c_leftBy) (some (.int o_r)) (uX8_liftBy cyI cyJ cyS a0 c_latest c_typed c_tenants c_room c_events c_gone c_audit c_sights c_drawn c_floorBy c_leftBy) := by
  refine jC_of (cc := cX8_liftBy) (nL := 6) (ret := (some .int)) (own := RX8) (lv := [(0, .ref (a0 0)), (1, .int i1)]) (by decide) rfl rfl (Nat.le_of_ble_eq_true rfl) rfl ?_
  intro p e s m args below meth c A K
  unfold fX8_liftBy at h
  refine j_iconst (v := (0 : Int32)) K (by decide) dX8_liftBy_0 rfl ?_
  refine j_istore_n (lv' := [(2, .int (0 : Int32)), (0, .ref (a0 0)), (1, .int i1)]) K (by decide) rfl dX8_liftBy_1 rfl ?_
  refine j_iconst (v := (0 : Int32)) K (by decide) dX8_liftBy_2 rfl ?_
  refine j_istore_n (lv' := [(3, .int (0 : Int32)), (2, .int (0 : Int32)), (0, .ref (a0 0)), (1, .int i1)]) K (by decide) rfl dX8_liftBy_3 rfl ?_
  refine j_iconst (v := (0 : Int32)) K (by decide) dX8_liftBy_4 rfl ?_
  refine j_istore (lv' := [(4, .int (0 : Int32)), (3, .int (0 : Int32)), (2, .int (0 : Int32)), (0, .ref (a0 0)), (1, .int i1)]) K (by decide) rfl dX8_liftBy_5 rfl ?_
  refine j_sub [3, 4, 2, 1, 0] (lv' := [(0, .ref (a0 0)), (1, .int i1), (2, .int (0 : Int32)), (3, .int (0 : Int32)), (4, .int (0 : Int32))]) rfl ?_
  exact wX8_liftBy_7 K a0 c_latest c_typed c_room c_events c_gone c_audit c_sights c_drawn i1 c_tenants c_floorBy c_leftBy o_r jF (0 : Int32) (0 : Int32) (0 : Int32) h
abbrev uX8_lift (cyI cyJ cyS : ClassId) (a0 : Nat → Nat) (c_latest : Int32) (c_typed : Int32) (c_tenants : Int32) (c_room : Int32) (c_events : Int32) (c_gone : Int32) (c_audit : Int32) (c_sights : Int32) (c_drawn : Int32) (c_bytes : Nat → Int32) (c_tenant : Nat → Int32) (c_event : Nat → Int32) (c_floor : Nat → Int32) (c_before : Nat → Int32) (c_left : Nat → Int32) (c_settled : Nat → Int32) (c_fell : Nat → Int32) (c_past : Nat → Int32) (c_highest : Nat → Int32) (c_many : Nat → Int32) (c_floorBy : Nat → Int32) (c_leftBy : Nat → Int32) (c_fellBy : Nat → Int32) : va_W := [((a0 0), .inr (8, [.ref (a0 1), .ref (a0 2), .ref (a0 3), .ref (a0 4), .int c_latest, .ref (a0 5), .int c_typed, .int c_tenants, .ref (a0 6), .int c_room, .int c_events, .ref (a0 7), .int c_gone, .ref (a0 8), .ref (a0 9), .ref (a0 10), .ref (a0 11), .ref (a0 12), .ref (a0 13), .ref (a0 14), .ref (a0 15), .ref (a0 16), .ref (a0 17), .ref (a0 18), .int c_audit, .int c_sights, .ref (a0 19), .ref (a0 20), .int c_drawn])), ((a0 5), .inl (cyI, 31, .inl c_bytes)), ((a0 6), .inl (cyI, 24, .inl c_tenant)), ((a0 7), .inl (cyI, 24, .inl c_event)), ((a0 8), .inl (cyI, 8, .inl c_floor)), ((a0 9), .inl (cyI, 8, .inl c_before)), ((a0 10), .inl (cyI, 8, .inl c_left)), ((a0 11), .inl (cyI, 8, .inl c_settled)), ((a0 12), .inl (cyI, 8, .inl c_fell)), ((a0 13), .inl (cyI, 8, .inl c_past)), ((a0 14), .inl (cyI, 8, .inl c_highest)), ((a0 15), .inl (cyI, 13, .inl c_many)), ((a0 16), .inl (cyI, 192, .inl c_floorBy)), ((a0 17), .inl (cyI, 192, .inl c_leftBy)), ((a0 18), .inl (cyI, 192, .inl c_fellBy))]
abbrev rmX8_lift : Room := { frames := 6, cells := 0, slots := 0, locals := 134 }
abbrev wdX8_lift : List Cond := .code yX8_lift cX8_lift 2 (some .int) :: wsL_law
theorem hyX8_lift : yX8_lift.cls = RX8 ∧ yX8_lift.cls ≠ "java/lang/invoke/MethodHandle" ∧ yX8_lift.cls ≠ "java/lang/invoke/VarHandle" ∧ (parseMethodDescriptor yX8_lift.desc).map (fun d => d.parameters.length) = some 1 := by decide +kernel
set_option maxRecDepth 100000 in
set_option maxHeartbeats 4000000 in
theorem ctX8_lift (l : Launch) (D : va_G) (cyI cyJ cyS : ClassId) (a0 : Nat → Nat) (i1 : Int32) (c_latest : Int32) (c_sights : Int32) (c_drawn : Int32) (c_typed : Int32) (c_room : Int32) (c_events : Int32) (c_gone : Int32) (c_bytes : Nat → Int32) (c_event : Nat → Int32) (c_tenants : Int32) (c_sim : jT11) (c_tenant : Nat → Int32) (o_r : Int32) (o_tenants : Int32) (o_sim : jT11) (o_tenant : Nat → Int32) (h : fX8_lift i1 c_typed c_room c_events c_gone c_bytes c_event c_tenants c_sim c_tenant = some (o_r, o_tenants, o_sim, o_tenant)) : jC l yX8_lift wdX8_lift rmX8_lift D vwCl (tyz cyI cyJ cyS) [.ref (a0 0), .int i1] (uX8_lift cyI cyJ cyS a0 c_latest c_typed c_tenants c_room c_events c_gone c_sim.1 c_sights c_drawn c_bytes c_tenant c_event c_sim.2.1 c_sim.2.2.1 c_sim.2.2.2.1 c_sim.2.2.2.2.1 c_sim.2.2.2.2.2.1 c_sim.2.2.2.2.2.2.1 c_sim.2.2.2.2.2.2.2.1 c_sim.2.2.2.2.2.2.2.2.1 c_sim.2.2.2.2.2.2.2.2.2.1 c_sim.2.2.2.2.2.2.2.2.2.2.1 c_sim.2.2.2.2.2.2.2.2.2.2.2) (some (.int o_r)) (uX8_lift cyI cyJ cyS a0 c_latest c_typed o_tenants c_room c_events c_gone o_sim.1 c_sights c_drawn c_bytes o_tenant c_event o_sim.2.1 o_sim.2.2.1 o_sim.2.2.2.1 o_sim.2.2.2.2.1 o_sim.2.2.2.2.2.1 o_sim.2.2.2.2.2.2.1 o_sim.2.2.2.2.2.2.2.1 o_sim.2.2.2.2.2.2.2.2.1 o_sim.2.2.2.2.2.2.2.2.2.1 o_sim.2.2.2.2.2.2.2.2.2.2.1 o_sim.2.2.2.2.2.2.2.2.2.2.2) := by
  refine jC_of (cc := cX8_lift) (nL := 2) (ret := (some .int)) (own := RX8) (lv := [(0, .ref (a0 0)), (1, .int i1)]) (by decide) rfl rfl (Nat.le_of_ble_eq_true rfl) rfl ?_
  intro p e s m args below meth c A K
  unfold fX8_lift at h
  refine j_aload_n K 0 rfl dX8_lift_0 rfl ?_
  obtain ⟨c_tenants_1, c_sim_2, c_tenant_3, hc, h⟩ := bd3_some h
  refine j_callV (rest := []) (st1 := []) (ws' := (uX8_lift cyI cyJ cyS a0 c_latest c_typed c_tenants_1 c_room c_events c_gone c_sim_2.1 c_sights c_drawn c_bytes c_tenant_3 c_event c_sim_2.2.1 c_sim_2.2.2.1 c_sim_2.2.2.2.1 c_sim_2.2.2.2.2.1 c_sim_2.2.2.2.2.2.1 c_sim_2.2.2.2.2.2.2.1 c_sim_2.2.2.2.2.2.2.2.1 c_sim_2.2.2.2.2.2.2.2.2.1 c_sim_2.2.2.2.2.2.2.2.2.2.1 c_sim_2.2.2.2.2.2.2.2.2.2.2.1 c_sim_2.2.2.2.2.2.2.2.2.2.2.2)) (T := TX8) (N := 29) (ci := 8) K (ctX8_find l D cyI cyJ cyS a0 c_latest c_sights c_drawn c_typed c_room c_events c_gone c_bytes c_event c_tenants c_sim c_tenant c_tenants_1 c_sim_2 c_tenant_3 hc) (gdV mcL mw_17_12 mw_17_13 mw_17_14 mw_1_5 mw_17_15) rfl ⟨rfl, rfl⟩ hyX8_find ⟨Nat.le_of_ble_eq_true rfl, Nat.le_of_ble_eq_true rfl, Nat.le_of_ble_eq_true rfl, Nat.le_of_ble_eq_true rfl⟩ [0, 1, 2, 3, 4, 5, 6, 7, 8, 9, 10, 11, 12, 13, 14] (by decide) rfl [some 0, some 1, some 2, some 3, some 4, some 5, some 6, some 7, some 8, some 9, some 10, some 11, some 12, some 13, some 14] (by decide) rfl rfl 0 rfl rfl rfl rfl (Nat.le_of_ble_eq_true rfl) dX8_lift_1 rfl rfl ?_
  refine j_iload_n K 1 rfl dX8_lift_4 rfl ?_
  obtain ⟨r_4, hc, h⟩ := bd1_some h
  refine j_callS (rest := []) (st1 := [.int r_4]) (ws' := (uX8_lift cyI cyJ cyS a0 c_latest c_typed c_tenants_1 c_room c_events c_gone c_sim_2.1 c_sights c_drawn c_bytes c_tenant_3 c_event c_sim_2.2.1 c_sim_2.2.2.1 c_sim_2.2.2.2.1 c_sim_2.2.2.2.2.1 c_sim_2.2.2.2.2.2.1 c_sim_2.2.2.2.2.2.2.1 c_sim_2.2.2.2.2.2.2.2.1 c_sim_2.2.2.2.2.2.2.2.2.1 c_sim_2.2.2.2.2.2.2.2.2.2.1 c_sim_2.2.2.2.2.2.2.2.2.2.2.1 c_sim_2.2.2.2.2.2.2.2.2.2.2.2)) K (ctX8_isMonth l D cyI cyJ cyS i1 r_4 hc) (gdS mcL mw_11_14 mw_11_15 mw_1_5 mw_11_16) rfl ⟨rfl, rfl⟩ hzX8_isMonth ⟨Nat.le_of_ble_eq_true rfl, Nat.le_of_ble_eq_true rfl, Nat.le_of_ble_eq_true rfl, Nat.le_of_ble_eq_true rfl⟩ [] (by decide) rfl [none, none, none, none, none, none, none, none, none, none, none, none, none, none, none] (by decide) rfl rfl rfl rfl (Nat.le_of_ble_eq_true rfl) dX8_lift_5 rfl rfl ?_
  refine j_if_eq (tgt := 19) K dX8_lift_8 (by decide) rfl h (fun h => ?_) (fun h => ?_)
  · refine j_bipush (v := (-2 : Int32)) K (by decide) dX8_lift_19 rfl ?_
    obtain ⟨e1, g1⟩ := Prod.mk.inj (Option.some.inj h)
    subst e1
    obtain ⟨e2, g2⟩ := Prod.mk.inj g1
    subst e2
    obtain ⟨e3, g3⟩ := Prod.mk.inj g2
    subst e3
    subst g3
    exact j_iret K dX8_lift_21
  · refine j_aload_n K 0 rfl dX8_lift_11 rfl ?_
    refine j_iload_n K 1 rfl dX8_lift_12 rfl ?_
    obtain ⟨r_5, hc, h⟩ := bd1_some h
    refine j_callV (rest := []) (st1 := [.int r_5]) (ws' := (uX8_lift cyI cyJ cyS a0 c_latest c_typed c_tenants_1 c_room c_events c_gone c_sim_2.1 c_sights c_drawn c_bytes c_tenant_3 c_event c_sim_2.2.1 c_sim_2.2.2.1 c_sim_2.2.2.2.1 c_sim_2.2.2.2.2.1 c_sim_2.2.2.2.2.2.1 c_sim_2.2.2.2.2.2.2.1 c_sim_2.2.2.2.2.2.2.2.1 c_sim_2.2.2.2.2.2.2.2.2.1 c_sim_2.2.2.2.2.2.2.2.2.2.1 c_sim_2.2.2.2.2.2.2.2.2.2.2.1 c_sim_2.2.2.2.2.2.2.2.2.2.2.2)) (T := TX8) (N := 29) (ci := 8) K (ctX8_liftBy l D cyI cyJ cyS a0 i1 c_latest c_typed c_room c_events c_gone c_sim_2.1 c_sights c_drawn c_tenants_1 c_sim_2.2.2.2.2.2.2.2.2.2.1 c_sim_2.2.2.2.2.2.2.2.2.2.2.1 r_5 hc) (gdV mcL mw_21_0 mw_21_1 mw_21_2 mw_1_5 mw_21_3) rfl ⟨rfl, rfl⟩ hyX8_liftBy ⟨Nat.le_of_ble_eq_true rfl, Nat.le_of_ble_eq_true rfl, Nat.le_of_ble_eq_true rfl, Nat.le_of_ble_eq_true rfl⟩ [0, 12, 13] (by decide) rfl [some 0, none, none, none, none, none, none, none, none, none, none, none, some 1, some 2, none] (by decide) rfl rfl 0 rfl rfl rfl rfl (Nat.le_of_ble_eq_true rfl) dX8_lift_13 rfl rfl ?_
    refine j_goto (pc' := 21) K dX8_lift_16 (by decide) ?_
    obtain ⟨e1, g1⟩ := Prod.mk.inj (Option.some.inj h)
    subst e1
    obtain ⟨e2, g2⟩ := Prod.mk.inj g1
    subst e2
    obtain ⟨e3, g3⟩ := Prod.mk.inj g2
    subst e3
    subst g3
    exact j_iret K dX8_lift_21
end GEN
