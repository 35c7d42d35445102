section GEN
variable {p : Program} {l : Launch} {e : Env} {s : State} {m : MethodId} {args : Array Value} {below : List Frame} {meth : Method} {c : Code} {A : Nat → Prop} {D : va_G} {cyI cyJ cyS : ClassId}
abbrev uX7_greatestAlike (cyI cyJ cyS : ClassId) (a0 : Nat → Nat) (c_room : Int32) (c_finding : Int32) (c_courseKnown : Int32) (c_settledByKnown : Int32) (c_views : Nat → Int32) : va_W := [((a0 0), .inr (7, [.ref (a0 1), .ref (a0 3), .ref (a0 7), .ref (a0 11), .ref (a0 15), .ref (a0 19), .ref (a0 31), .ref (a0 43), .ref (a0 44), .ref (a0 53), .ref (a0 54), .int c_room, .int c_finding, .int c_courseKnown, .int c_settledByKnown])), ((a0 54), .inl (cyI, 240, .inl c_views))]
abbrev rmX7_greatestAlike : Room := { frames := 1, cells := 0, slots := 0, locals := 23 }
abbrev wdX7_greatestAlike : List Cond := .code yX7_greatestAlike cX7_greatestAlike 7 (some .int) :: wsL_law
theorem hyX7_greatestAlike : yX7_greatestAlike.cls = RX7 ∧ yX7_greatestAlike.cls ≠ "java/lang/invoke/MethodHandle" ∧ yX7_greatestAlike.cls ≠ "java/lang/invoke/VarHandle" ∧ (parseMethodDescriptor yX7_greatestAlike.desc).map (fun d => d.parameters.length) = some 2 := by decide +kernel
set_option maxRecDepth 100000 in
set_option maxHeartbeats 4000000 in
theorem wX7_greatestAlike_86 (K : jK p s m args meth c A D vwCl (tyz cyI cyJ cyS) cX7_greatestAlike 7 RX7 wdX7_greatestAlike (some .int)) (a0 : Nat → Nat) (c_room : Int32) (c_finding : Int32) (c_courseKnown : Int32) (c_settledByKnown : Int32) (i1 : Int32) (i2 : Int32) (c_views : Nat → Int32) (o_r : Int32)  (q_5 : Int32 → Int32 → Option (Int32)) (hq_5 : ∀ (i3 : Int32) (i4 : Int32), q_5 i3 i4 = some (o_r) → jw p l e rmX7_greatestAlike s m args below meth c (jQ below args s A D vwCl (tyz cyI cyJ cyS) 0 0 (some (.int o_r)) (uX7_greatestAlike cyI cyJ cyS a0 c_room c_finding c_courseKnown c_settledByKnown c_views)) A D vwCl 7 0 0 5 [(0, .ref (a0 0)), (1, .int i1), (2, .int i2), (3, .int i3), (4, .int i4)] [] (uX7_greatestAlike cyI cyJ cyS a0 c_room c_finding c_courseKnown c_settledByKnown c_views)) : ∀ (i3 : Int32) (i4 : Int32), fX7_greatestAlike_86 i1 i2 c_views q_5 i3 i4 = some (o_r) → jw p l e rmX7_greatestAlike s m args below meth c (jQ below args s A D vwCl (tyz cyI cyJ cyS) 0 0 (some (.int o_r)) (uX7_greatestAlike cyI cyJ cyS a0 c_room c_finding c_courseKnown c_settledByKnown c_views)) A D vwCl 7 0 0 86 [(0, .ref (a0 0)), (1, .int i1), (2, .int i2), (3, .int i3), (4, .int i4)] [] (uX7_greatestAlike cyI cyJ cyS a0 c_room c_finding c_courseKnown c_settledByKnown c_views) := by
  intro i3 i4 h
  unfold fX7_greatestAlike_86 at h
  refine j_iincN (lf := fun z => [(4, .int z), (0, .ref (a0 0)), (1, .int i1), (2, .int i2), (3, .int i3)]) K (v := i4 + (1 : Int32)) (k := 4) rfl rfl (by decide) (fun _ => rfl) dX7_greatestAlike_86 rfl h (fun i4_1 h => ?_)
  refine j_goto (pc' := 5) K dX7_greatestAlike_89 (by decide) ?_
  refine j_sub [1, 2, 3, 4, 0] (lv' := [(0, .ref (a0 0)), (1, .int i1), (2, .int i2), (3, .int i3), (4, .int i4_1)]) rfl ?_
  exact hq_5 i3 i4_1 h
set_option maxRecDepth 100000 in
set_option maxHeartbeats 4000000 in
theorem wX7_greatestAlike_64 (K : jK p s m args meth c A D vwCl (tyz cyI cyJ cyS) cX7_greatestAlike 7 RX7 wdX7_greatestAlike (some .int)) (a0 : Nat → Nat) (c_room : Int32) (c_finding : Int32) (c_courseKnown : Int32) (c_settledByKnown : Int32) (i1 : Int32) (i2 : Int32) (c_views : Nat → Int32) (o_r : Int32)  (q_5 : Int32 → Int32 → Option (Int32)) (q_18 : Int32 → Int32 → Int32 → Int32 → Option (Int32)) (hq_5 : ∀ (i3 : Int32) (i4 : Int32), q_5 i3 i4 = some (o_r) → jw p l e rmX7_greatestAlike s m args below meth c (jQ below args s A D vwCl (tyz cyI cyJ cyS) 0 0 (some (.int o_r)) (uX7_greatestAlike cyI cyJ cyS a0 c_room c_finding c_courseKnown c_settledByKnown c_views)) A D vwCl 7 0 0 5 [(0, .ref (a0 0)), (1, .int i1), (2, .int i2), (3, .int i3), (4, .int i4)] [] (uX7_greatestAlike cyI cyJ cyS a0 c_room c_finding c_courseKnown c_settledByKnown c_views)) (hq_18 : ∀ (i3 : Int32) (i4 : Int32) (i5 : Int32) (i6 : Int32), q_18 i3 i4 i5 i6 = some (o_r) → jw p l e rmX7_greatestAlike s m args below meth c (jQ below args s A D vwCl (tyz cyI cyJ cyS) 0 0 (some (.int o_r)) (uX7_greatestAlike cyI cyJ cyS a0 c_room c_finding c_courseKnown c_settledByKnown c_views)) A D vwCl 7 0 0 18 [(0, .ref (a0 0)), (1, .int i1), (2, .int i2), (3, .int i3), (4, .int i4), (5, .int i5), (6, .int i6)] [] (uX7_greatestAlike cyI cyJ cyS a0 c_room c_finding c_courseKnown c_settledByKnown c_views)) : ∀ (i3 : Int32) (i4 : Int32) (i5 : Int32) (i6 : Int32), fX7_greatestAlike_64 i1 i2 c_views q_5 q_18 i3 i4 i5 i6 = some (o_r) → jw p l e rmX7_greatestAlike s m args below meth c (jQ below args s A D vwCl (tyz cyI cyJ cyS) 0 0 (some (.int o_r)) (uX7_greatestAlike cyI cyJ cyS a0 c_room c_finding c_courseKnown c_settledByKnown c_views)) A D vwCl 7 0 0 64 [(0, .ref (a0 0)), (1, .int i1), (2, .int i2), (3, .int i3), (4, .int i4), (5, .int i5), (6, .int i6)] [] (uX7_greatestAlike cyI cyJ cyS a0 c_room c_finding c_courseKnown c_settledByKnown c_views) := by
  intro i3 i4 i5 i6 h
  unfold fX7_greatestAlike_64 at h
  refine j_iincN (lf := fun z => [(6, .int z), (0, .ref (a0 0)), (1, .int i1), (2, .int i2), (3, .int i3), (4, .int i4), (5, .int i5)]) K (v := i6 + (1 : Int32)) (k := 6) rfl rfl (by decide) (fun _ => rfl) dX7_greatestAlike_64 rfl h (fun i6_3 h => ?_)
  refine j_goto (pc' := 18) K dX7_greatestAlike_67 (by decide) ?_
  refine j_sub [1, 2, 3, 4, 5, 6, 0] (lv' := [(0, .ref (a0 0)), (1, .int i1), (2, .int i2), (3, .int i3), (4, .int i4), (5, .int i5), (6, .int i6_3)]) rfl ?_
  exact hq_18 i3 i4 i5 i6_3 h
set_option maxRecDepth 100000 in
set_option maxHeartbeats 4000000 in
theorem wX7_greatestAlike_18 (K : jK p s m args meth c A D vwCl (tyz cyI cyJ cyS) cX7_greatestAlike 7 RX7 wdX7_greatestAlike (some .int)) (a0 : Nat → Nat) (c_room : Int32) (c_finding : Int32) (c_courseKnown : Int32) (c_settledByKnown : Int32) (i1 : Int32) (i2 : Int32) (c_views : Nat → Int32) (o_r : Int32)  (q_5 : Int32 → Int32 → Option (Int32)) (hq_5 : ∀ (i3 : Int32) (i4 : Int32), q_5 i3 i4 = some (o_r) → jw p l e rmX7_greatestAlike s m args below meth c (jQ below args s A D vwCl (tyz cyI cyJ cyS) 0 0 (some (.int o_r)) (uX7_greatestAlike cyI cyJ cyS a0 c_room c_finding c_courseKnown c_settledByKnown c_views)) A D vwCl 7 0 0 5 [(0, .ref (a0 0)), (1, .int i1), (2, .int i2), (3, .int i3), (4, .int i4)] [] (uX7_greatestAlike cyI cyJ cyS a0 c_room c_finding c_courseKnown c_settledByKnown c_views)) : ∀ (n : Nat) (i3 : Int32) (i4 : Int32) (i5 : Int32) (i6 : Int32), fX7_greatestAlike_18 i1 i2 c_views q_5 n i3 i4 i5 i6 = some (o_r) → jw p l e rmX7_greatestAlike s m args below meth c (jQ below args s A D vwCl (tyz cyI cyJ cyS) 0 0 (some (.int o_r)) (uX7_greatestAlike cyI cyJ cyS a0 c_room c_finding c_courseKnown c_settledByKnown c_views)) A D vwCl 7 0 0 18 [(0, .ref (a0 0)), (1, .int i1), (2, .int i2), (3, .int i3), (4, .int i4), (5, .int i5), (6, .int i6)] [] (uX7_greatestAlike cyI cyJ cyS a0 c_room c_finding c_courseKnown c_settledByKnown c_views) := by
  intro n
  induction n with
  | zero => intro i3 i4 i5 i6 h; cases h
  | succ n ih =>
    intro i3 i4 i5 i6 h
    have h : bX7_greatestAlike_18 i1 i2 c_views q_5 (fX7_greatestAlike_18 i1 i2 c_views q_5 n) i3 i4 i5 i6 = some (o_r) := h
    unfold bX7_greatestAlike_18 at h
    refine j_iload K 6 rfl dX7_greatestAlike_18 rfl ?_
    refine j_bipush (v := (10 : Int32)) K (by decide) dX7_greatestAlike_20 rfl ?_
    refine j_icmp_ge (tgt := 70) K dX7_greatestAlike_22 (by decide) rfl h (fun h => ?_) (fun h => ?_)
    · refine j_iload_n K 1 rfl dX7_greatestAlike_70 rfl ?_
      refine j_iload K 4 rfl dX7_greatestAlike_71 rfl ?_
      refine j_ishr K dX7_greatestAlike_73 rfl ?_
      refine j_iconst (v := (1 : Int32)) K (by decide) dX7_greatestAlike_74 rfl ?_
      refine j_iand K dX7_greatestAlike_75 rfl ?_
      refine j_if_eq (tgt := 86) K dX7_greatestAlike_76 (by decide) rfl h (fun h => ?_) (fun h => ?_)
      · refine j_sub [0, 1, 2, 3, 4] (lv' := [(0, .ref (a0 0)), (1, .int i1), (2, .int i2), (3, .int i3), (4, .int i4)]) rfl ?_
        exact wX7_greatestAlike_86 K a0 c_room c_finding c_courseKnown c_settledByKnown i1 i2 c_views o_r q_5 hq_5 i3 i4 h
      · refine j_iload_n K 3 rfl dX7_greatestAlike_79 rfl ?_
        refine j_iload K 5 rfl dX7_greatestAlike_80 rfl ?_
        refine j_mmax K (List.mem_cons_of_mem _ mw_33_13) (List.mem_cons_of_mem _ mw_16_23) (List.mem_cons_of_mem _ mw_14_16) (List.mem_cons_of_mem _ mw_17_0) ⟨Nat.le_of_ble_eq_true rfl, Nat.le_of_ble_eq_true rfl, Nat.le_of_ble_eq_true rfl, Nat.le_of_ble_eq_true rfl⟩ dX7_greatestAlike_82 rfl ?_
        refine j_nmI h (fun i3_2 h => ?_)
        refine j_istore_n (lv' := [(3, .int i3_2), (0, .ref (a0 0)), (1, .int i1), (2, .int i2), (4, .int i4), (5, .int i5), (6, .int i6)]) K (by decide) rfl dX7_greatestAlike_85 rfl ?_
        refine j_sub [1, 2, 3, 0, 4] (lv' := [(0, .ref (a0 0)), (1, .int i1), (2, .int i2), (3, .int i3_2), (4, .int i4)]) rfl ?_
        exact wX7_greatestAlike_86 K a0 c_room c_finding c_courseKnown c_settledByKnown i1 i2 c_views o_r q_5 hq_5 i3_2 i4 h
    · refine j_iload_n K 1 rfl dX7_greatestAlike_25 rfl ?_
      refine j_iload K 6 rfl dX7_greatestAlike_26 rfl ?_
      refine j_ishr K dX7_greatestAlike_28 rfl ?_
      refine j_iconst (v := (1 : Int32)) K (by decide) dX7_greatestAlike_29 rfl ?_
      refine j_iand K dX7_greatestAlike_30 rfl ?_
      refine j_if_eq (tgt := 64) K dX7_greatestAlike_31 (by decide) rfl h (fun h => ?_) (fun h => ?_)
      · refine j_sub [0, 1, 2, 3, 4, 5, 6] (lv' := [(0, .ref (a0 0)), (1, .int i1), (2, .int i2), (3, .int i3), (4, .int i4), (5, .int i5), (6, .int i6)]) rfl ?_
        exact wX7_greatestAlike_64 K a0 c_room c_finding c_courseKnown c_settledByKnown i1 i2 c_views o_r q_5 (fX7_greatestAlike_18 i1 i2 c_views q_5 n) hq_5 (fun z0 z1 z2 z3 hq => ih z0 z1 z2 z3 hq) i3 i4 i5 i6 h
      · refine j_aload_n K 0 rfl dX7_greatestAlike_34 rfl ?_
        refine j_getf (C := RX7) (T := TX7) (N := 15) (ci := 7) K icX7 0 10 (List.mem_cons_of_mem _ mw_2_18) rfl rfl rfl (by decide) rfl dX7_greatestAlike_35 rfl ?_
        refine j_iload K 6 rfl dX7_greatestAlike_38 rfl ?_
        refine j_bipush (v := (24 : Int32)) K (by decide) dX7_greatestAlike_40 rfl ?_
        refine j_imul K dX7_greatestAlike_42 rfl ?_
        refine j_iload_n K 2 rfl dX7_greatestAlike_43 rfl ?_
        refine j_iadd K dX7_greatestAlike_44 rfl ?_
        refine j_iald K 1 0 rfl rfl dX7_greatestAlike_45 rfl h (fun v_4 h => ?_)
        refine j_aload_n K 0 rfl dX7_greatestAlike_46 rfl ?_
        refine j_getf (C := RX7) (T := TX7) (N := 15) (ci := 7) K icX7 0 10 (List.mem_cons_of_mem _ mw_2_18) rfl rfl rfl (by decide) rfl dX7_greatestAlike_47 rfl ?_
        refine j_iload K 4 rfl dX7_greatestAlike_50 rfl ?_
        refine j_bipush (v := (24 : Int32)) K (by decide) dX7_greatestAlike_52 rfl ?_
        refine j_imul K dX7_greatestAlike_54 rfl ?_
        refine j_iload_n K 2 rfl dX7_greatestAlike_55 rfl ?_
        refine j_iadd K dX7_greatestAlike_56 rfl ?_
        refine j_iald K 1 0 rfl rfl dX7_greatestAlike_57 rfl h (fun v_5 h => ?_)
        refine j_icmp_ne (tgt := 64) K dX7_greatestAlike_58 (by decide) rfl h (fun h => ?_) (fun h => ?_)
        · refine j_sub [0, 1, 2, 3, 4, 5, 6] (lv' := [(0, .ref (a0 0)), (1, .int i1), (2, .int i2), (3, .int i3), (4, .int i4), (5, .int i5), (6, .int i6)]) rfl ?_
          exact wX7_greatestAlike_64 K a0 c_room c_finding c_courseKnown c_settledByKnown i1 i2 c_views o_r q_5 (fX7_greatestAlike_18 i1 i2 c_views q_5 n) hq_5 (fun z0 z1 z2 z3 hq => ih z0 z1 z2 z3 hq) i3 i4 i5 i6 h
        · refine j_iincN (lf := fun z => [(5, .int z), (0, .ref (a0 0)), (1, .int i1), (2, .int i2), (3, .int i3), (4, .int i4), (6, .int i6)]) K (v := i5 + (1 : Int32)) (k := 5) rfl rfl (by decide) (fun _ => rfl) dX7_greatestAlike_61 rfl h (fun i5_6 h => ?_)
          refine j_sub [1, 2, 3, 4, 5, 0, 6] (lv' := [(0, .ref (a0 0)), (1, .int i1), (2, .int i2), (3, .int i3), (4, .int i4), (5, .int i5_6), (6, .int i6)]) rfl ?_
          exact wX7_greatestAlike_64 K a0 c_room c_finding c_courseKnown c_settledByKnown i1 i2 c_views o_r q_5 (fX7_greatestAlike_18 i1 i2 c_views q_5 n) hq_5 (fun z0 z1 z2 z3 hq => ih z0 z1 z2 z3 hq) i3 i4 i5_6 i6 h
set_option maxRecDepth 100000 in
set_option maxHeartbeats 4000000 in
theorem wX7_greatestAlike_5 (K : jK p s m args meth c A D vwCl (tyz cyI cyJ cyS) cX7_greatestAlike 7 RX7 wdX7_greatestAlike (some .int)) (a0 : Nat → Nat) (c_room : Int32) (c_finding : Int32) (c_courseKnown : Int32) (c_settledByKnown : Int32) (i1 : Int32) (i2 : Int32) (c_views : Nat → Int32) (o_r : Int32)   : ∀ (n : Nat) (i3 : Int32) (i4 : Int32), fX7_greatestAlike_5 i1 i2 c_views  n i3 i4 = some (o_r) → jw p l e rmX7_greatestAlike s m args below meth c (jQ below args s A D vwCl (tyz cyI cyJ cyS) 0 0 (some (.int o_r)) (uX7_greatestAlike cyI cyJ cyS a0 c_room c_finding c_courseKnown c_settledByKnown c_views)) A D vwCl 7 0 0 5 [(0, .ref (a0 0)), (1, .int i1), (2, .int i2), (3, .int i3), (4, .int i4)] [] (uX7_greatestAlike cyI cyJ cyS a0 c_room c_finding c_courseKnown c_settledByKnown c_views) := by
  intro n
  induction n with
  | zero => intro i3 i4 h; cases h
  | succ n ih =>
    intro i3 i4 h
    have h : bX7_greatestAlike_5 i1 i2 c_views  (fX7_greatestAlike_5 i1 i2 c_views  n) i3 i4 = some (o_r) := h
    unfold bX7_greatestAlike_5 at h
    refine j_iload K 4 rfl dX7_greatestAlike_5 rfl ?_
    refine j_bipush (v := (10 : Int32)) K (by decide) dX7_greatestAlike_7 rfl ?_
    refine j_icmp_ge (tgt := 92) K dX7_greatestAlike_9 (by decide) rfl h (fun h => ?_) (fun h => ?_)
    · refine j_iload_n K 3 rfl dX7_greatestAlike_92 rfl ?_
      have h := Option.some.inj h
      subst h
      exact j_iret K dX7_greatestAlike_93
    · refine j_iconst (v := (0 : Int32)) K (by decide) dX7_greatestAlike_12 rfl ?_
      refine j_istore (lv' := [(5, .int (0 : Int32)), (0, .ref (a0 0)), (1, .int i1), (2, .int i2), (3, .int i3), (4, .int i4)]) K (by decide) rfl dX7_greatestAlike_13 rfl ?_
      refine j_iconst (v := (0 : Int32)) K (by decide) dX7_greatestAlike_15 rfl ?_
      refine j_istore (lv' := [(6, .int (0 : Int32)), (5, .int (0 : Int32)), (0, .ref (a0 0)), (1, .int i1), (2, .int i2), (3, .int i3), (4, .int i4)]) K (by decide) rfl dX7_greatestAlike_16 rfl ?_
      refine j_sub [2, 3, 4, 5, 6, 1, 0] (lv' := [(0, .ref (a0 0)), (1, .int i1), (2, .int i2), (3, .int i3), (4, .int i4), (5, .int (0 : Int32)), (6, .int (0 : Int32))]) rfl ?_
      exact wX7_greatestAlike_18 K a0 c_room c_finding c_courseKnown c_settledByKnown i1 i2 c_views o_r (fX7_greatestAlike_5 i1 i2 c_views n) (fun z0 z1 hq => ih z0 z1 hq) jF i3 i4 (0 : Int32) (0 : Int32) h
set_option maxRecDepth 100000 in
set_option maxHeartbeats 4000000 in
theorem ctX7_greatestAlike (l : Launch) (D : va_G) (cyI cyJ cyS : ClassId) (a0 : Nat → Nat) (i1 : Int32) (i2 : Int32) (c_room : Int32) (c_finding : Int32) (c_courseKnown : Int32) (c_settledByKnown : Int32) (c_views : Nat → Int32) (o_r : Int32) (h : fX7_greatestAlike i1 i2 c_views = some (o_r)) : jC l yX7_greatestAlike wdX7_greatestAlike rmX7_greatestAlike D vwCl (tyz cyI cyJ cyS) [.ref (a0 0), .int i1, .int i2] (uX7_greatestAlike cyI cyJ cyS a0 c_room c_finding c_courseKnown c_settledByKnown c_views) (some (.int o_r)) (uX7_greatestAlike cyI cyJ cyS a0 c_room c_finding c_courseKnown c_settledByKnown c_views) := by
  refine jC_of (cc := cX7_greatestAlike) (nL := 7) (ret := (some .int)) (own := RX7) (lv := [(0, .ref (a0 0)), (1, .int i1), (2, .int i2)]) (by decide) rfl rfl (Nat.le_of_ble_eq_true rfl) rfl ?_
  intro p e s m args below meth c A K
  unfold fX7_greatestAlike at h
  refine j_iconst (v := (0 : Int32)) K (by decide) dX7_greatestAlike_0 rfl ?_
  refine j_istore_n (lv' := [(3, .int (0 : Int32)), (0, .ref (a0 0)), (1, .int i1), (2, .int i2)]) K (by decide) rfl dX7_greatestAlike_1 rfl ?_
  refine j_iconst (v := (0 : Int32)) K (by decide) dX7_greatestAlike_2 rfl ?_
  refine j_istore (lv' := [(4, .int (0 : Int32)), (3, .int (0 : Int32)), (0, .ref (a0 0)), (1, .int i1), (2, .int i2)]) K (by decide) rfl dX7_greatestAlike_3 rfl ?_
  refine j_sub [2, 3, 4, 1, 0] (lv' := [(0, .ref (a0 0)), (1, .int i1), (2, .int i2), (3, .int (0 : Int32)), (4, .int (0 : Int32))]) rfl ?_
  exact wX7_greatestAlike_5 K a0 c_room c_finding c_courseKnown c_settledByKnown i1 i2 c_views o_r jF (0 : Int32) (0 : Int32) h
end GEN
