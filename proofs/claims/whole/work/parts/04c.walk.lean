section GEN
variable {p : Program} {l : Launch} {e : Env} {s : State} {m : MethodId} {args : Array Value} {below : List Frame} {meth : Method} {c : Code} {A : Nat → Prop} {D : va_G} {cyI cyJ cyS : ClassId}
abbrev uX1_heardFloors (cyI cyJ cyS : ClassId) (a0 : Nat → Nat) (c_size : Int32) (c_floors : Nat → Int32) : va_W := [((a0 0), .inr (1, [.int c_size, .ref (a0 1), .ref (a0 2), .ref (a0 3), .ref (a0 4), .ref (a0 5), .ref (a0 6), .ref (a0 7), .ref (a0 8), .ref (a0 9), .ref (a0 10), .ref (a0 11)])), ((a0 4), .inl (cyI, 192, .inl c_floors))]
abbrev rmX1_heardFloors : Room := { frames := 1, cells := 0, slots := 0, locals := 22 }
abbrev wdX1_heardFloors : List Cond := .code yX1_heardFloors cX1_heardFloors 5 (some .int) :: wsL_law
theorem hyX1_heardFloors : yX1_heardFloors.cls = RX1 ∧ yX1_heardFloors.cls ≠ "java/lang/invoke/MethodHandle" ∧ yX1_heardFloors.cls ≠ "java/lang/invoke/VarHandle" ∧ (parseMethodDescriptor yX1_heardFloors.desc).map (fun d => d.parameters.length) = some 0 := by decide +kernel
set_option maxRecDepth 100000 in
set_option maxHeartbeats 4000000 in
theorem wX1_heardFloors_94 (K : jK p s m args meth c A D vwCl (tyz cyI cyJ cyS) cX1_heardFloors 5 RX1 wdX1_heardFloors (some .int)) (a0 : Nat → Nat)  (c_size : Int32) (c_floors : Nat → Int32) (o_r : Int32)  (q_64 : Int32 → Int32 → Int32 → Int32 → Option (Int32)) (hq_64 : ∀ (i1 : Int32) (i2 : Int32) (i3 : Int32) (i4 : Int32), q_64 i1 i2 i3 i4 = some (o_r) → jw p l e rmX1_heardFloors s m args below meth c (jQ below args s A D vwCl (tyz cyI cyJ cyS) 0 0 (some (.int o_r)) (uX1_heardFloors cyI cyJ cyS a0 c_size c_floors)) A D vwCl 5 0 0 64 [(1, .int i1), (2, .int i2), (3, .int i3), (4, .int i4)] [] (uX1_heardFloors cyI cyJ cyS a0 c_size c_floors)) : ∀ (i1 : Int32) (i2 : Int32) (i3 : Int32) (i4 : Int32), fX1_heardFloors_94 c_size c_floors q_64 i1 i2 i3 i4 = some (o_r) → jw p l e rmX1_heardFloors s m args below meth c (jQ below args s A D vwCl (tyz cyI cyJ cyS) 0 0 (some (.int o_r)) (uX1_heardFloors cyI cyJ cyS a0 c_size c_floors)) A D vwCl 5 0 0 94 [(1, .int i1), (2, .int i2), (3, .int i3), (4, .int i4)] [] (uX1_heardFloors cyI cyJ cyS a0 c_size c_floors) := by
  intro i1 i2 i3 i4 h
  unfold fX1_heardFloors_94 at h
  refine j_iincN (lf := fun z => [(4, .int z), (1, .int i1), (2, .int i2), (3, .int i3)]) K (v := i4 + (-1 : Int32)) (k := 3) rfl (congrArg (fun z => i4 + z) (by decide)) (by decide) (fun _ => rfl) dX1_heardFloors_94 rfl h (fun i4_1 h => ?_)
  refine j_goto (pc' := 64) K dX1_heardFloors_97 (by decide) ?_
  refine j_sub [1, 2, 3, 0] (lv' := [(1, .int i1), (2, .int i2), (3, .int i3), (4, .int i4_1)]) rfl ?_
  exact hq_64 i1 i2 i3 i4_1 h
set_option maxRecDepth 100000 in
set_option maxHeartbeats 4000000 in
theorem wX1_heardFloors_64 (K : jK p s m args meth c A D vwCl (tyz cyI cyJ cyS) cX1_heardFloors 5 RX1 wdX1_heardFloors (some .int)) (a0 : Nat → Nat)  (c_size : Int32) (c_floors : Nat → Int32) (o_r : Int32)   : ∀ (n : Nat) (i1 : Int32) (i2 : Int32) (i3 : Int32) (i4 : Int32), fX1_heardFloors_64 c_size c_floors  n i1 i2 i3 i4 = some (o_r) → jw p l e rmX1_heardFloors s m args below meth c (jQ below args s A D vwCl (tyz cyI cyJ cyS) 0 0 (some (.int o_r)) (uX1_heardFloors cyI cyJ cyS a0 c_size c_floors)) A D vwCl 5 0 0 64 [(1, .int i1), (2, .int i2), (3, .int i3), (4, .int i4)] [] (uX1_heardFloors cyI cyJ cyS a0 c_size c_floors) := by
  intro n
  induction n with
  | zero => intro i1 i2 i3 i4 h; cases h
  | succ n ih =>
    intro i1 i2 i3 i4 h
    have h : bX1_heardFloors_64 c_size c_floors  (fX1_heardFloors_64 c_size c_floors  n) i1 i2 i3 i4 = some (o_r) := h
    unfold bX1_heardFloors_64 at h
    refine j_iload K 3 rfl dX1_heardFloors_64 rfl ?_
    refine j_if_le (tgt := 100) K dX1_heardFloors_66 (by decide) rfl h (fun h => ?_) (fun h => ?_)
    · refine j_iload_n K 1 rfl dX1_heardFloors_100 rfl ?_
      have h := Option.some.inj h
      subst h
      exact j_iret K dX1_heardFloors_101
    · refine j_iload_n K 0 rfl dX1_heardFloors_69 rfl ?_
      refine j_iload K 3 rfl dX1_heardFloors_70 rfl ?_
      refine j_ishr K dX1_heardFloors_72 rfl ?_
      refine j_iconst (v := (1 : Int32)) K (by decide) dX1_heardFloors_73 rfl ?_
      refine j_iand K dX1_heardFloors_74 rfl ?_
      refine j_if_eq (tgt := 83) K dX1_heardFloors_75 (by decide) rfl h (fun h => ?_) (fun h => ?_)
      · refine j_iload_n K 2 rfl dX1_heardFloors_83 rfl ?_
        refine j_if_eq (tgt := 94) K dX1_heardFloors_84 (by decide) rfl h (fun h => ?_) (fun h => ?_)
        · refine j_sub [0, 1, 2, 3] (lv' := [(1, .int i1), (2, .int i2), (3, .int i3), (4, .int i4)]) rfl ?_
          exact wX1_heardFloors_94 K a0 c_size c_floors o_r (fX1_heardFloors_64 c_size c_floors n) (fun z0 z1 z2 z3 hq => ih z0 z1 z2 z3 hq) i1 i2 i3 i4 h
        · refine j_iload_n K 1 rfl dX1_heardFloors_87 rfl ?_
          refine j_iconst (v := (1 : Int32)) K (by decide) dX1_heardFloors_88 rfl ?_
          refine j_iload K 3 rfl dX1_heardFloors_89 rfl ?_
          refine j_ishl K dX1_heardFloors_91 rfl ?_
          refine j_ior K dX1_heardFloors_92 rfl ?_
          refine j_nmI h (fun i2_2 h => ?_)
          refine j_istore_n (lv' := [(2, .int i2_2), (1, .int i1), (3, .int i3), (4, .int i4)]) K (by decide) rfl dX1_heardFloors_93 rfl ?_
          refine j_sub [1, 0, 2, 3] (lv' := [(1, .int i1), (2, .int i2_2), (3, .int i3), (4, .int i4)]) rfl ?_
          exact wX1_heardFloors_94 K a0 c_size c_floors o_r (fX1_heardFloors_64 c_size c_floors n) (fun z0 z1 z2 z3 hq => ih z0 z1 z2 z3 hq) i1 i2_2 i3 i4 h
      · refine j_iconst (v := (1 : Int32)) K (by decide) dX1_heardFloors_78 rfl ?_
        refine j_istore_n (lv' := [(3, .int (1 : Int32)), (1, .int i1), (2, .int i2), (4, .int i4)]) K (by decide) rfl dX1_heardFloors_79 rfl ?_
        refine j_goto (pc' := 94) K dX1_heardFloors_80 (by decide) ?_
        refine j_sub [1, 2, 0, 3] (lv' := [(1, .int i1), (2, .int i2), (3, .int (1 : Int32)), (4, .int i4)]) rfl ?_
        exact wX1_heardFloors_94 K a0 c_size c_floors o_r (fX1_heardFloors_64 c_size c_floors n) (fun z0 z1 z2 z3 hq => ih z0 z1 z2 z3 hq) i1 i2 (1 : Int32) i4 h
set_option maxRecDepth 100000 in
set_option maxHeartbeats 4000000 in
theorem wX1_heardFloors_42 (K : jK p s m args meth c A D vwCl (tyz cyI cyJ cyS) cX1_heardFloors 5 RX1 wdX1_heardFloors (some .int)) (a0 : Nat → Nat)  (c_size : Int32) (c_floors : Nat → Int32) (o_r : Int32)  (q_4 : Int32 → Int32 → Option (Int32)) (q_12 : Int32 → Int32 → Int32 → Option (Int32)) (hq_4 : ∀ (i1 : Int32) (i2 : Int32), q_4 i1 i2 = some (o_r) → jw p l e rmX1_heardFloors s m args below meth c (jQ below args s A D vwCl (tyz cyI cyJ cyS) 0 0 (some (.int o_r)) (uX1_heardFloors cyI cyJ cyS a0 c_size c_floors)) A D vwCl 5 0 0 4 [(0, .ref (a0 0)), (1, .int i1), (2, .int i2)] [] (uX1_heardFloors cyI cyJ cyS a0 c_size c_floors)) (hq_12 : ∀ (i1 : Int32) (i2 : Int32) (i3 : Int32), q_12 i1 i2 i3 = some (o_r) → jw p l e rmX1_heardFloors s m args below meth c (jQ below args s A D vwCl (tyz cyI cyJ cyS) 0 0 (some (.int o_r)) (uX1_heardFloors cyI cyJ cyS a0 c_size c_floors)) A D vwCl 5 0 0 12 [(0, .ref (a0 0)), (1, .int i1), (2, .int i2), (3, .int i3)] [] (uX1_heardFloors cyI cyJ cyS a0 c_size c_floors)) : ∀ (i2 : Int32) (i3 : Int32) (t0 : Int32) (t1 : Int32), fX1_heardFloors_42 c_size c_floors q_4 q_12 i2 i3 t0 t1 = some (o_r) → jw p l e rmX1_heardFloors s m args below meth c (jQ below args s A D vwCl (tyz cyI cyJ cyS) 0 0 (some (.int o_r)) (uX1_heardFloors cyI cyJ cyS a0 c_size c_floors)) A D vwCl 5 0 0 42 [(0, .ref (a0 0)), (2, .int i2), (3, .int i3)] [.int t0, .int t1] (uX1_heardFloors cyI cyJ cyS a0 c_size c_floors) := by
  intro i2 i3 t0 t1 h
  unfold fX1_heardFloors_42 at h
  refine j_ior K dX1_heardFloors_42 rfl ?_
  refine j_nmI h (fun i1_5 h => ?_)
  refine j_istore_n (lv' := [(1, .int i1_5), (0, .ref (a0 0)), (2, .int i2), (3, .int i3)]) K (by decide) rfl dX1_heardFloors_43 rfl ?_
  refine j_iincN (lf := fun z => [(3, .int z), (1, .int i1_5), (0, .ref (a0 0)), (2, .int i2)]) K (v := i3 + (1 : Int32)) (k := 3) rfl rfl (by decide) (fun _ => rfl) dX1_heardFloors_44 rfl h (fun i3_6 h => ?_)
  refine j_goto (pc' := 12) K dX1_heardFloors_47 (by decide) ?_
  refine j_sub [2, 1, 3, 0] (lv' := [(0, .ref (a0 0)), (1, .int i1_5), (2, .int i2), (3, .int i3_6)]) rfl ?_
  exact hq_12 i1_5 i2 i3_6 h
set_option maxRecDepth 100000 in
set_option maxHeartbeats 4000000 in
theorem wX1_heardFloors_12 (K : jK p s m args meth c A D vwCl (tyz cyI cyJ cyS) cX1_heardFloors 5 RX1 wdX1_heardFloors (some .int)) (a0 : Nat → Nat)  (c_size : Int32) (c_floors : Nat → Int32) (o_r : Int32)  (q_4 : Int32 → Int32 → Option (Int32)) (hq_4 : ∀ (i1 : Int32) (i2 : Int32), q_4 i1 i2 = some (o_r) → jw p l e rmX1_heardFloors s m args below meth c (jQ below args s A D vwCl (tyz cyI cyJ cyS) 0 0 (some (.int o_r)) (uX1_heardFloors cyI cyJ cyS a0 c_size c_floors)) A D vwCl 5 0 0 4 [(0, .ref (a0 0)), (1, .int i1), (2, .int i2)] [] (uX1_heardFloors cyI cyJ cyS a0 c_size c_floors)) : ∀ (n : Nat) (i1 : Int32) (i2 : Int32) (i3 : Int32), fX1_heardFloors_12 c_size c_floors q_4 n i1 i2 i3 = some (o_r) → jw p l e rmX1_heardFloors s m args below meth c (jQ below args s A D vwCl (tyz cyI cyJ cyS) 0 0 (some (.int o_r)) (uX1_heardFloors cyI cyJ cyS a0 c_size c_floors)) A D vwCl 5 0 0 12 [(0, .ref (a0 0)), (1, .int i1), (2, .int i2), (3, .int i3)] [] (uX1_heardFloors cyI cyJ cyS a0 c_size c_floors) := by
  intro n
  induction n with
  | zero => intro i1 i2 i3 h; cases h
  | succ n ih =>
    intro i1 i2 i3 h
    have h : bX1_heardFloors_12 c_size c_floors q_4 (fX1_heardFloors_12 c_size c_floors q_4 n) i1 i2 i3 = some (o_r) := h
    unfold bX1_heardFloors_12 at h
    refine j_iload_n K 3 rfl dX1_heardFloors_12 rfl ?_
    refine j_aload_n K 0 rfl dX1_heardFloors_13 rfl ?_
    refine j_getf (C := RX1) (T := TX1) (N := 12) (ci := 1) K icX1 0 0 (List.mem_cons_of_mem _ mw_4_6) rfl rfl rfl (by decide) rfl dX1_heardFloors_14 rfl ?_
    refine j_icmp_ge (tgt := 50) K dX1_heardFloors_17 (by decide) rfl h (fun h => ?_) (fun h => ?_)
    · refine j_iincN (lf := fun z => [(2, .int z), (0, .ref (a0 0)), (1, .int i1), (3, .int i3)]) K (v := i2 + (1 : Int32)) (k := 2) rfl rfl (by decide) (fun _ => rfl) dX1_heardFloors_50 rfl h (fun i2_3 h => ?_)
      refine j_goto (pc' := 4) K dX1_heardFloors_53 (by decide) ?_
      refine j_sub [1, 2, 0] (lv' := [(0, .ref (a0 0)), (1, .int i1), (2, .int i2_3)]) rfl ?_
      exact hq_4 i1 i2_3 h
    · refine j_aload_n K 0 rfl dX1_heardFloors_20 rfl ?_
      refine j_iload_n K 2 rfl dX1_heardFloors_21 rfl ?_
      refine j_iload_n K 3 rfl dX1_heardFloors_22 rfl ?_
      obtain ⟨r_4, hc, h⟩ := bd1_some h
      refine j_callV (rest := []) (st1 := [.int r_4]) (ws' := (uX1_heardFloors cyI cyJ cyS a0 c_size c_floors)) (T := TX1) (N := 12) (ci := 1) K (ctX1_floorAt l D cyI cyJ cyS a0 i2 i3 c_size c_floors r_4 hc) (gdV mcL mw_17_1 mw_16_11 mw_16_12 mw_2_7 mw_16_13) rfl ⟨rfl, rfl⟩ hyX1_floorAt ⟨Nat.le_of_ble_eq_true rfl, Nat.le_of_ble_eq_true rfl, Nat.le_of_ble_eq_true rfl, Nat.le_of_ble_eq_true rfl⟩ [0, 1] (by decide) rfl [some 0, some 1] (by decide) rfl rfl 0 rfl rfl rfl rfl (Nat.le_of_ble_eq_true rfl) dX1_heardFloors_23 rfl rfl ?_
      refine j_istore (lv' := [(4, .int r_4), (0, .ref (a0 0)), (1, .int i1), (2, .int i2), (3, .int i3)]) K (by decide) rfl dX1_heardFloors_26 rfl ?_
      refine j_iload_n K 2 rfl dX1_heardFloors_28 rfl ?_
      refine j_iload K 0 rfl dX1_heardFloors_29 rfl ?_
      refine j_if_le (tgt := 41) K dX1_heardFloors_31 (by decide) rfl h (fun h => ?_) (fun h => ?_)
      · refine j_iconst (v := (0 : Int32)) K (by decide) dX1_heardFloors_41 rfl ?_
        refine j_sub [1, 3, 4] (lv' := [(0, .ref (a0 0)), (2, .int i2), (3, .int i3)]) rfl ?_
        exact wX1_heardFloors_42 K a0 c_size c_floors o_r q_4 (fX1_heardFloors_12 c_size c_floors q_4 n) hq_4 (fun z0 z1 z2 hq => ih z0 z1 z2 hq) i2 i3 (0 : Int32) i1 h
      · refine j_iconst (v := (1 : Int32)) K (by decide) dX1_heardFloors_34 rfl ?_
        refine j_iload K 0 rfl dX1_heardFloors_35 rfl ?_
        refine j_ishl K dX1_heardFloors_37 rfl ?_
        refine j_goto (pc' := 42) K dX1_heardFloors_38 (by decide) ?_
        refine j_sub [1, 3, 4] (lv' := [(0, .ref (a0 0)), (2, .int i2), (3, .int i3)]) rfl ?_
        exact wX1_heardFloors_42 K a0 c_size c_floors o_r q_4 (fX1_heardFloors_12 c_size c_floors q_4 n) hq_4 (fun z0 z1 z2 hq => ih z0 z1 z2 hq) i2 i3 ((1 : Int32) <<< (r_4 &&& (31 : Int32))) i1 h
set_option maxRecDepth 100000 in
set_option maxHeartbeats 4000000 in
theorem wX1_heardFloors_4 (K : jK p s m args meth c A D vwCl (tyz cyI cyJ cyS) cX1_heardFloors 5 RX1 wdX1_heardFloors (some .int)) (a0 : Nat → Nat)  (c_size : Int32) (c_floors : Nat → Int32) (o_r : Int32)   : ∀ (n : Nat) (i1 : Int32) (i2 : Int32), fX1_heardFloors_4 c_size c_floors  n i1 i2 = some (o_r) → jw p l e rmX1_heardFloors s m args below meth c (jQ below args s A D vwCl (tyz cyI cyJ cyS) 0 0 (some (.int o_r)) (uX1_heardFloors cyI cyJ cyS a0 c_size c_floors)) A D vwCl 5 0 0 4 [(0, .ref (a0 0)), (1, .int i1), (2, .int i2)] [] (uX1_heardFloors cyI cyJ cyS a0 c_size c_floors) := by
  intro n
  induction n with
  | zero => intro i1 i2 h; cases h
  | succ n ih =>
    intro i1 i2 h
    have h : bX1_heardFloors_4 c_size c_floors  (fX1_heardFloors_4 c_size c_floors  n) i1 i2 = some (o_r) := h
    unfold bX1_heardFloors_4 at h
    refine j_iload_n K 2 rfl dX1_heardFloors_4 rfl ?_
    refine j_bipush (v := (24 : Int32)) K (by decide) dX1_heardFloors_5 rfl ?_
    refine j_icmp_ge (tgt := 56) K dX1_heardFloors_7 (by decide) rfl h (fun h => ?_) (fun h => ?_)
    · refine j_iconst (v := (0 : Int32)) K (by decide) dX1_heardFloors_56 rfl ?_
      refine j_istore_n (lv' := [(2, .int (0 : Int32)), (0, .ref (a0 0)), (1, .int i1)]) K (by decide) rfl dX1_heardFloors_57 rfl ?_
      refine j_iconst (v := (0 : Int32)) K (by decide) dX1_heardFloors_58 rfl ?_
      refine j_istore_n (lv' := [(3, .int (0 : Int32)), (2, .int (0 : Int32)), (0, .ref (a0 0)), (1, .int i1)]) K (by decide) rfl dX1_heardFloors_59 rfl ?_
      refine j_bipush (v := (12 : Int32)) K (by decide) dX1_heardFloors_60 rfl ?_
      refine j_istore (lv' := [(4, .int (12 : Int32)), (3, .int (0 : Int32)), (2, .int (0 : Int32)), (0, .ref (a0 0)), (1, .int i1)]) K (by decide) rfl dX1_heardFloors_62 rfl ?_
      refine j_sub [4, 2, 1, 0] (lv' := [(1, .int i1), (2, .int (0 : Int32)), (3, .int (0 : Int32)), (4, .int (12 : Int32))]) rfl ?_
      exact wX1_heardFloors_64 K a0 c_size c_floors o_r jF i1 (0 : Int32) (0 : Int32) (12 : Int32) h
    · refine j_iconst (v := (0 : Int32)) K (by decide) dX1_heardFloors_10 rfl ?_
      refine j_istore_n (lv' := [(3, .int (0 : Int32)), (0, .ref (a0 0)), (1, .int i1), (2, .int i2)]) K (by decide) rfl dX1_heardFloors_11 rfl ?_
      refine j_sub [1, 2, 3, 0] (lv' := [(0, .ref (a0 0)), (1, .int i1), (2, .int i2), (3, .int (0 : Int32))]) rfl ?_
      exact wX1_heardFloors_12 K a0 c_size c_floors o_r (fX1_heardFloors_4 c_size c_floors n) (fun z0 z1 hq => ih z0 z1 hq) jF i1 i2 (0 : Int32) h
set_option maxRecDepth 100000 in
set_option maxHeartbeats 4000000 in
theorem ctX1_heardFloors (l : Launch) (D : va_G) (cyI cyJ cyS : ClassId) (a0 : Nat → Nat) (c_size : Int32) (c_floors : Nat → Int32) (o_r : Int32) (h : fX1_heardFloors c_size c_floors = some (o_r)) : jC l yX1_heardFloors wdX1_heardFloors rmX1_heardFloors D vwCl (tyz cyI cyJ cyS) [.ref (a0 0)] (uX1_heardFloors cyI cyJ cyS a0 c_size c_floors) (some (.int o_r)) (uX1_heardFloors cyI cyJ cyS a0 c_size c_floors) := by
  refine jC_of (cc := cX1_heardFloors) (nL := 5) (ret := (some .int)) (own := RX1) (lv := [(0, .ref (a0 0))]) (by decide) rfl rfl (Nat.le_of_ble_eq_true rfl) rfl ?_
  intro p e s m args below meth c A K
  unfold fX1_heardFloors at h
  refine j_iconst (v := (0 : Int32)) K (by decide) dX1_heardFloors_0 rfl ?_
  refine j_istore_n (lv' := [(1, .int (0 : Int32)), (0, .ref (a0 0))]) K (by decide) rfl dX1_heardFloors_1 rfl ?_
  refine j_iconst (v := (0 : Int32)) K (by decide) dX1_heardFloors_2 rfl ?_
  refine j_istore_n (lv' := [(2, .int (0 : Int32)), (1, .int (0 : Int32)), (0, .ref (a0 0))]) K (by decide) rfl dX1_heardFloors_3 rfl ?_
  refine j_sub [2, 1, 0] (lv' := [(0, .ref (a0 0)), (1, .int (0 : Int32)), (2, .int (0 : Int32))]) rfl ?_
  exact wX1_heardFloors_4 K a0 c_size c_floors o_r jF (0 : Int32) (0 : Int32) h
abbrev uX1_housedAtLast (cyI cyJ cyS : ClassId) (a0 : Nat → Nat) (c_size : Int32) (c_floors : Nat → Int32) : va_W := [((a0 0), .inr (1, [.int c_size, .ref (a0 1), .ref (a0 2), .ref (a0 3), .ref (a0 4), .ref (a0 5), .ref (a0 6), .ref (a0 7), .ref (a0 8), .ref (a0 9), .ref (a0 10), .ref (a0 11)])), ((a0 4), .inl (cyI, 192, .inl c_floors))]
abbrev rmX1_housedAtLast : Room := { frames := 1, cells := 0, slots := 0, locals := 22 }
abbrev wdX1_housedAtLast : List Cond := .code yX1_housedAtLast cX1_housedAtLast 3 (some .int) :: wsL_law
theorem hyX1_housedAtLast : yX1_housedAtLast.cls = RX1 ∧ yX1_housedAtLast.cls ≠ "java/lang/invoke/MethodHandle" ∧ yX1_housedAtLast.cls ≠ "java/lang/invoke/VarHandle" ∧ (parseMethodDescriptor yX1_housedAtLast.desc).map (fun d => d.parameters.length) = some 0 := by decide +kernel
set_option maxRecDepth 100000 in
set_option maxHeartbeats 4000000 in
theorem wX1_housedAtLast_28 (K : jK p s m args meth c A D vwCl (tyz cyI cyJ cyS) cX1_housedAtLast 3 RX1 wdX1_housedAtLast (some .int)) (a0 : Nat → Nat)  (c_size : Int32) (c_floors : Nat → Int32) (o_r : Int32)  (q_4 : Int32 → Int32 → Option (Int32)) (hq_4 : ∀ (i1 : Int32) (i2 : Int32), q_4 i1 i2 = some (o_r) → jw p l e rmX1_housedAtLast s m args below meth c (jQ below args s A D vwCl (tyz cyI cyJ cyS) 0 0 (some (.int o_r)) (uX1_housedAtLast cyI cyJ cyS a0 c_size c_floors)) A D vwCl 3 0 0 4 [(0, .ref (a0 0)), (1, .int i1), (2, .int i2)] [] (uX1_housedAtLast cyI cyJ cyS a0 c_size c_floors)) : ∀ (i2 : Int32) (t0 : Int32) (t1 : Int32), fX1_housedAtLast_28 c_size c_floors q_4 i2 t0 t1 = some (o_r) → jw p l e rmX1_housedAtLast s m args below meth c (jQ below args s A D vwCl (tyz cyI cyJ cyS) 0 0 (some (.int o_r)) (uX1_housedAtLast cyI cyJ cyS a0 c_size c_floors)) A D vwCl 3 0 0 28 [(0, .ref (a0 0)), (2, .int i2)] [.int t0, .int t1] (uX1_housedAtLast cyI cyJ cyS a0 c_size c_floors) := by
  intro i2 t0 t1 h
  unfold fX1_housedAtLast_28 at h
  refine j_iadd K dX1_housedAtLast_28 rfl ?_
  refine j_nmI h (fun i1_2 h => ?_)
  refine j_istore_n (lv' := [(1, .int i1_2), (0, .ref (a0 0)), (2, .int i2)]) K (by decide) rfl dX1_housedAtLast_29 rfl ?_
  refine j_iincN (lf := fun z => [(2, .int z), (1, .int i1_2), (0, .ref (a0 0))]) K (v := i2 + (1 : Int32)) (k := 2) rfl rfl (by decide) (fun _ => rfl) dX1_housedAtLast_30 rfl h (fun i2_3 h => ?_)
  refine j_goto (pc' := 4) K dX1_housedAtLast_33 (by decide) ?_
  refine j_sub [2, 1, 0] (lv' := [(0, .ref (a0 0)), (1, .int i1_2), (2, .int i2_3)]) rfl ?_
  exact hq_4 i1_2 i2_3 h
set_option maxRecDepth 100000 in
set_option maxHeartbeats 4000000 in
theorem wX1_housedAtLast_4 (K : jK p s m args meth c A D vwCl (tyz cyI cyJ cyS) cX1_housedAtLast 3 RX1 wdX1_housedAtLast (some .int)) (a0 : Nat → Nat)  (c_size : Int32) (c_floors : Nat → Int32) (o_r : Int32)   : ∀ (n : Nat) (i1 : Int32) (i2 : Int32), fX1_housedAtLast_4 c_size c_floors  n i1 i2 = some (o_r) → jw p l e rmX1_housedAtLast s m args below meth c (jQ below args s A D vwCl (tyz cyI cyJ cyS) 0 0 (some (.int o_r)) (uX1_housedAtLast cyI cyJ cyS a0 c_size c_floors)) A D vwCl 3 0 0 4 [(0, .ref (a0 0)), (1, .int i1), (2, .int i2)] [] (uX1_housedAtLast cyI cyJ cyS a0 c_size c_floors) := by
  intro n
  induction n with
  | zero => intro i1 i2 h; cases h
  | succ n ih =>
    intro i1 i2 h
    have h : bX1_housedAtLast_4 c_size c_floors  (fX1_housedAtLast_4 c_size c_floors  n) i1 i2 = some (o_r) := h
    unfold bX1_housedAtLast_4 at h
    refine j_iload_n K 2 rfl dX1_housedAtLast_4 rfl ?_
    refine j_aload_n K 0 rfl dX1_housedAtLast_5 rfl ?_
    refine j_getf (C := RX1) (T := TX1) (N := 12) (ci := 1) K icX1 0 0 (List.mem_cons_of_mem _ mw_4_6) rfl rfl rfl (by decide) rfl dX1_housedAtLast_6 rfl ?_
    refine j_icmp_ge (tgt := 36) K dX1_housedAtLast_9 (by decide) rfl h (fun h => ?_) (fun h => ?_)
    · refine j_iload_n K 1 rfl dX1_housedAtLast_36 rfl ?_
      have h := Option.some.inj h
      subst h
      exact j_iret K dX1_housedAtLast_37
    · refine j_iload_n K 1 rfl dX1_housedAtLast_12 rfl ?_
      refine j_aload_n K 0 rfl dX1_housedAtLast_13 rfl ?_
      refine j_bipush (v := (23 : Int32)) K (by decide) dX1_housedAtLast_14 rfl ?_
      refine j_iload_n K 2 rfl dX1_housedAtLast_16 rfl ?_
      obtain ⟨r_1, hc, h⟩ := bd1_some h
      refine j_callV (rest := [.int i1]) (st1 := [.int r_1, .int i1]) (ws' := (uX1_housedAtLast cyI cyJ cyS a0 c_size c_floors)) (T := TX1) (N := 12) (ci := 1) K (ctX1_floorAt l D cyI cyJ cyS a0 (23 : Int32) i2 c_size c_floors r_1 hc) (gdV mcL mw_17_1 mw_16_11 mw_16_12 mw_2_7 mw_16_13) rfl ⟨rfl, rfl⟩ hyX1_floorAt ⟨Nat.le_of_ble_eq_true rfl, Nat.le_of_ble_eq_true rfl, Nat.le_of_ble_eq_true rfl, Nat.le_of_ble_eq_true rfl⟩ [0, 1] (by decide) rfl [some 0, some 1] (by decide) rfl rfl 0 rfl rfl rfl rfl (Nat.le_of_ble_eq_true rfl) dX1_housedAtLast_17 rfl rfl ?_
      refine j_if_le (tgt := 27) K dX1_housedAtLast_20 (by decide) rfl h (fun h => ?_) (fun h => ?_)
      · refine j_iconst (v := (0 : Int32)) K (by decide) dX1_housedAtLast_27 rfl ?_
        refine j_sub [0, 2] (lv' := [(0, .ref (a0 0)), (2, .int i2)]) rfl ?_
        exact wX1_housedAtLast_28 K a0 c_size c_floors o_r (fX1_housedAtLast_4 c_size c_floors n) (fun z0 z1 hq => ih z0 z1 hq) i2 (0 : Int32) i1 h
      · refine j_iconst (v := (1 : Int32)) K (by decide) dX1_housedAtLast_23 rfl ?_
        refine j_goto (pc' := 28) K dX1_housedAtLast_24 (by decide) ?_
        refine j_sub [0, 2] (lv' := [(0, .ref (a0 0)), (2, .int i2)]) rfl ?_
        exact wX1_housedAtLast_28 K a0 c_size c_floors o_r (fX1_housedAtLast_4 c_size c_floors n) (fun z0 z1 hq => ih z0 z1 hq) i2 (1 : Int32) i1 h
set_option maxRecDepth 100000 in
set_option maxHeartbeats 4000000 in
theorem ctX1_housedAtLast (l : Launch) (D : va_G) (cyI cyJ cyS : ClassId) (a0 : Nat → Nat) (c_size : Int32) (c_floors : Nat → Int32) (o_r : Int32) (h : fX1_housedAtLast c_size c_floors = some (o_r)) : jC l yX1_housedAtLast wdX1_housedAtLast rmX1_housedAtLast D vwCl (tyz cyI cyJ cyS) [.ref (a0 0)] (uX1_housedAtLast cyI cyJ cyS a0 c_size c_floors) (some (.int o_r)) (uX1_housedAtLast cyI cyJ cyS a0 c_size c_floors) := by
  refine jC_of (cc := cX1_housedAtLast) (nL := 3) (ret := (some .int)) (own := RX1) (lv := [(0, .ref (a0 0))]) (by decide) rfl rfl (Nat.le_of_ble_eq_true rfl) rfl ?_
  intro p e s m args below meth c A K
  unfold fX1_housedAtLast at h
  refine j_iconst (v := (0 : Int32)) K (by decide) dX1_housedAtLast_0 rfl ?_
  refine j_istore_n (lv' := [(1, .int (0 : Int32)), (0, .ref (a0 0))]) K (by decide) rfl dX1_housedAtLast_1 rfl ?_
  refine j_iconst (v := (0 : Int32)) K (by decide) dX1_housedAtLast_2 rfl ?_
  refine j_istore_n (lv' := [(2, .int (0 : Int32)), (1, .int (0 : Int32)), (0, .ref (a0 0))]) K (by decide) rfl dX1_housedAtLast_3 rfl ?_
  refine j_sub [2, 1, 0] (lv' := [(0, .ref (a0 0)), (1, .int (0 : Int32)), (2, .int (0 : Int32))]) rfl ?_
  exact wX1_housedAtLast_4 K a0 c_size c_floors o_r jF (0 : Int32) (0 : Int32) h
abbrev uX7_within (cyI cyJ cyS : ClassId) : va_W := []
abbrev rmX7_within : Room := { frames := 0, cells := 0, slots := 0, locals := 0 }
abbrev wdX7_within : List Cond := .code yX7_within cX7_within 3 (some .boolean) :: wsL_law
theorem hzX7_within : yX7_within.cls ≠ "java/lang/invoke/MethodHandle" ∧ yX7_within.cls ≠ "java/lang/invoke/VarHandle" ∧ (parseMethodDescriptor yX7_within.desc).map (fun d => d.parameters.length) = some 3 := by decide +kernel
set_option maxRecDepth 100000 in
set_option maxHeartbeats 4000000 in
theorem ctX7_within (l : Launch) (D : va_G) (cyI cyJ cyS : ClassId) (i0 : Int32) (i1 : Int32) (i2 : Int32) (o_r : Int32) (h : fX7_within i0 i1 i2 = some (o_r)) : jC l yX7_within wdX7_within rmX7_within D vwCl (tyz cyI cyJ cyS) [.int i0, .int i1, .int i2] (uX7_within cyI cyJ cyS ) (some (.int o_r)) (uX7_within cyI cyJ cyS ) := by
  refine jC_of (cc := cX7_within) (nL := 3) (ret := (some .boolean)) (own := RX7) (lv := [(0, .int i0), (1, .int i1), (2, .int i2)]) (by decide) rfl rfl (Nat.le_of_ble_eq_true rfl) rfl ?_
  intro p e s m args below meth c A K
  unfold fX7_within at h
  refine j_iload_n K 0 rfl dX7_within_0 rfl ?_
  refine j_iload_n K 1 rfl dX7_within_1 rfl ?_
  refine j_icmp_lt (tgt := 14) K dX7_within_2 (by decide) rfl h (fun h => ?_) (fun h => ?_)
  · refine j_iconst (v := (0 : Int32)) K (by decide) dX7_within_14 rfl ?_
    have h := Option.some.inj h
    subst h
    exact j_zret K rfl dX7_within_15
  · refine j_iload_n K 0 rfl dX7_within_5 rfl ?_
    refine j_iload_n K 2 rfl dX7_within_6 rfl ?_
    refine j_icmp_gt (tgt := 14) K dX7_within_7 (by decide) rfl h (fun h => ?_) (fun h => ?_)
    · refine j_iconst (v := (0 : Int32)) K (by decide) dX7_within_14 rfl ?_
      have h := Option.some.inj h
      subst h
      exact j_zret K rfl dX7_within_15
    · refine j_iconst (v := (1 : Int32)) K (by decide) dX7_within_10 rfl ?_
      refine j_goto (pc' := 15) K dX7_within_11 (by decide) ?_
      have h := Option.some.inj h
      subst h
      exact j_zret K rfl dX7_within_15
abbrev uX7_isMonth (cyI cyJ cyS : ClassId) : va_W := []
abbrev rmX7_isMonth : Room := { frames := 1, cells := 0, slots := 0, locals := 22 }
abbrev wdX7_isMonth : List Cond := .code yX7_isMonth cX7_isMonth 1 (some .boolean) :: wsL_law
theorem hzX7_isMonth : yX7_isMonth.cls ≠ "java/lang/invoke/MethodHandle" ∧ yX7_isMonth.cls ≠ "java/lang/invoke/VarHandle" ∧ (parseMethodDescriptor yX7_isMonth.desc).map (fun d => d.parameters.length) = some 1 := by decide +kernel
set_option maxRecDepth 100000 in
set_option maxHeartbeats 4000000 in
theorem ctX7_isMonth (l : Launch) (D : va_G) (cyI cyJ cyS : ClassId) (i0 : Int32) (o_r : Int32) (h : fX7_isMonth i0 = some (o_r)) : jC l yX7_isMonth wdX7_isMonth rmX7_isMonth D vwCl (tyz cyI cyJ cyS) [.int i0] (uX7_isMonth cyI cyJ cyS ) (some (.int o_r)) (uX7_isMonth cyI cyJ cyS ) := by
  refine jC_of (cc := cX7_isMonth) (nL := 1) (ret := (some .boolean)) (own := RX7) (lv := [(0, .int i0)]) (by decide) rfl rfl (Nat.le_of_ble_eq_true rfl) rfl ?_
  intro p e s m args below meth c A K
  unfold fX7_isMonth at h
  refine j_iload_n K 0 rfl dX7_isMonth_0 rfl ?_
  refine j_iconst (v := (0 : Int32)) K (by decide) dX7_isMonth_1 rfl ?_
  refine j_bipush (v := (23 : Int32)) K (by decide) dX7_isMonth_2 rfl ?_
  obtain ⟨r_1, hc, h⟩ := bd1_some h
  refine j_callS (rest := []) (st1 := [.int r_1]) (ws' := (uX7_isMonth cyI cyJ cyS )) K (ctX7_within l D cyI cyJ cyS i0 (0 : Int32) (23 : Int32) r_1 hc) (gdS mcL mw_6_12 mw_6_13 mw_1_2 mw_6_14) rfl ⟨rfl, rfl⟩ hzX7_within ⟨Nat.le_of_ble_eq_true rfl, Nat.le_of_ble_eq_true rfl, Nat.le_of_ble_eq_true rfl, Nat.le_of_ble_eq_true rfl⟩ [] (by decide) rfl [] (by decide) rfl rfl rfl rfl (Nat.le_of_ble_eq_true rfl) dX7_isMonth_4 rfl rfl ?_
  obtain ⟨hz, h⟩ := ckB_some h
  have h := Option.some.inj h
  subst h
  exact j_zret K (nar_b hz) dX7_isMonth_7
abbrev uX2_canBe (cyI cyJ cyS : ClassId) : va_W := []
abbrev rmX2_canBe : Room := { frames := 2, cells := 0, slots := 0, locals := 42 }
abbrev wdX2_canBe : List Cond := .code yX2_canBe cX2_canBe 3 (some .boolean) :: wsL_law
theorem hzX2_canBe : yX2_canBe.cls ≠ "java/lang/invoke/MethodHandle" ∧ yX2_canBe.cls ≠ "java/lang/invoke/VarHandle" ∧ (parseMethodDescriptor yX2_canBe.desc).map (fun d => d.parameters.length) = some 3 := by decide +kernel
set_option maxRecDepth 100000 in
set_option maxHeartbeats 4000000 in
theorem ctX2_canBe (l : Launch) (D : va_G) (cyI cyJ cyS : ClassId) (i0 : Int32) (i1 : Int32) (i2 : Int32) (o_r : Int32) (h : fX2_canBe i0 i1 i2 = some (o_r)) : jC l yX2_canBe wdX2_canBe rmX2_canBe D vwCl (tyz cyI cyJ cyS) [.int i0, .int i1, .int i2] (uX2_canBe cyI cyJ cyS ) (some (.int o_r)) (uX2_canBe cyI cyJ cyS ) := by
  refine jC_of (cc := cX2_canBe) (nL := 3) (ret := (some .boolean)) (own := RX2) (lv := [(0, .int i0), (1, .int i1), (2, .int i2)]) (by decide) rfl rfl (Nat.le_of_ble_eq_true rfl) rfl ?_
  intro p e s m args below meth c A K
  unfold fX2_canBe at h
  refine j_iload_n K 0 rfl dX2_canBe_0 rfl ?_
  refine j_iconst (v := (0 : Int32)) K (by decide) dX2_canBe_1 rfl ?_
  refine j_iconst (v := (2 : Int32)) K (by decide) dX2_canBe_2 rfl ?_
  obtain ⟨r_1, hc, h⟩ := bd1_some h
  refine j_callSN (rest := []) (st1 := [.int r_1]) (ws' := (uX2_canBe cyI cyJ cyS )) (host := "FloorAbove") K (ctX7_within l D cyI cyJ cyS i0 (0 : Int32) (2 : Int32) r_1 hc) (gdN mcL mw_6_14) (by decide +kernel) (List.mem_cons_of_mem _ mw_6_13) (List.mem_cons_of_mem _ mw_1_2) rfl ⟨rfl, rfl⟩ hzX7_within ⟨Nat.le_of_ble_eq_true rfl, Nat.le_of_ble_eq_true rfl, Nat.le_of_ble_eq_true rfl, Nat.le_of_ble_eq_true rfl⟩ [] (by decide) rfl [] (by decide) rfl rfl rfl rfl (Nat.le_of_ble_eq_true rfl) dX2_canBe_3 rfl rfl ?_
  refine j_if_eq (tgt := 30) K dX2_canBe_6 (by decide) rfl h (fun h => ?_) (fun h => ?_)
  · refine j_iconst (v := (0 : Int32)) K (by decide) dX2_canBe_30 rfl ?_
    have h := Option.some.inj h
    subst h
    exact j_zret K rfl dX2_canBe_31
  · refine j_iload_n K 1 rfl dX2_canBe_9 rfl ?_
    obtain ⟨r_2, hc, h⟩ := bd1_some h
    refine j_callSN (rest := []) (st1 := [.int r_2]) (ws' := (uX2_canBe cyI cyJ cyS )) (host := "FloorAbove") K (ctX7_isMonth l D cyI cyJ cyS i1 r_2 hc) (gdN mcL mw_11_3) (by decide +kernel) (List.mem_cons_of_mem _ mw_11_2) (List.mem_cons_of_mem _ mw_1_2) rfl ⟨rfl, rfl⟩ hzX7_isMonth ⟨Nat.le_of_ble_eq_true rfl, Nat.le_of_ble_eq_true rfl, Nat.le_of_ble_eq_true rfl, Nat.le_of_ble_eq_true rfl⟩ [] (by decide) rfl [] (by decide) rfl rfl rfl rfl (Nat.le_of_ble_eq_true rfl) dX2_canBe_10 rfl rfl ?_
    refine j_if_eq (tgt := 30) K dX2_canBe_13 (by decide) rfl h (fun h => ?_) (fun h => ?_)
    · refine j_iconst (v := (0 : Int32)) K (by decide) dX2_canBe_30 rfl ?_
      have h := Option.some.inj h
      subst h
      exact j_zret K rfl dX2_canBe_31
    · refine j_iload_n K 2 rfl dX2_canBe_16 rfl ?_
      refine j_iconst (v := (0 : Int32)) K (by decide) dX2_canBe_17 rfl ?_
      refine j_bipush (v := (7 : Int32)) K (by decide) dX2_canBe_18 rfl ?_
      obtain ⟨r_3, hc, h⟩ := bd1_some h
      refine j_callSN (rest := []) (st1 := [.int r_3]) (ws' := (uX2_canBe cyI cyJ cyS )) (host := "FloorAbove") K (ctX7_within l D cyI cyJ cyS i2 (0 : Int32) (7 : Int32) r_3 hc) (gdN mcL mw_6_14) (by decide +kernel) (List.mem_cons_of_mem _ mw_6_13) (List.mem_cons_of_mem _ mw_1_2) rfl ⟨rfl, rfl⟩ hzX7_within ⟨Nat.le_of_ble_eq_true rfl, Nat.le_of_ble_eq_true rfl, Nat.le_of_ble_eq_true rfl, Nat.le_of_ble_eq_true rfl⟩ [] (by decide) rfl [] (by decide) rfl rfl rfl rfl (Nat.le_of_ble_eq_true rfl) dX2_canBe_20 rfl rfl ?_
      refine j_if_eq (tgt := 30) K dX2_canBe_23 (by decide) rfl h (fun h => ?_) (fun h => ?_)
      · refine j_iconst (v := (0 : Int32)) K (by decide) dX2_canBe_30 rfl ?_
        have h := Option.some.inj h
        subst h
        exact j_zret K rfl dX2_canBe_31
      · refine j_iconst (v := (1 : Int32)) K (by decide) dX2_canBe_26 rfl ?_
        refine j_goto (pc' := 31) K dX2_canBe_27 (by decide) ?_
        have h := Option.some.inj h
        subst h
        exact j_zret K rfl dX2_canBe_31
abbrev uX2_add (cyI cyJ cyS : ClassId) (a0 : Nat → Nat) (c_size : Int32) (c_kind : Nat → Int32) (c_month : Nat → Int32) (c_number : Nat → Int32) : va_W := [((a0 0), .inr (2, [.ref (a0 1), .ref (a0 2), .ref (a0 3), .int c_size])), ((a0 1), .inl (cyI, 8, .inl c_kind)), ((a0 2), .inl (cyI, 8, .inl c_month)), ((a0 3), .inl (cyI, 8, .inl c_number))]
abbrev rmX2_add : Room := { frames := 0, cells := 0, slots := 0, locals := 0 }
abbrev wdX2_add : List Cond := .code yX2_add cX2_add 4 none :: wsL_law
theorem hyX2_add : yX2_add.cls = RX2 ∧ yX2_add.cls ≠ "java/lang/invoke/MethodHandle" ∧ yX2_add.cls ≠ "java/lang/invoke/VarHandle" ∧ (parseMethodDescriptor yX2_add.desc).map (fun d => d.parameters.length) = some 3 := by decide +kernel
set_option maxRecDepth 100000 in
set_option maxHeartbeats 4000000 in
theorem ctX2_add (l : Launch) (D : va_G) (cyI cyJ cyS : ClassId) (a0 : Nat → Nat) (i1 : Int32) (i2 : Int32) (i3 : Int32) (c_size : Int32) (c_kind : Nat → Int32) (c_month : Nat → Int32) (c_number : Nat → Int32) (o_size : Int32) (o_kind : Nat → Int32) (o_month : Nat → Int32) (o_number : Nat → Int32) (h : fX2_add i1 i2 i3 c_size c_kind c_month c_number = some (o_size, o_kind, o_month, o_number)) : jC l yX2_add wdX2_add rmX2_add D vwCl (tyz cyI cyJ cyS) [.ref (a0 0), .int i1, .int i2, .int i3] (uX2_add cyI cyJ cyS a0 c_size c_kind c_month c_number) none (uX2_add cyI cyJ cyS a0 o_size o_kind o_month o_number) := by
  refine jC_of (cc := cX2_add) (nL := 4) (ret := none) (own := RX2) (lv := [(0, .ref (a0 0)), (1, .int i1), (2, .int i2), (3, .int i3)]) (by decide) rfl rfl (Nat.le_of_ble_eq_true rfl) rfl ?_
  intro p e s m args below meth c A K
  unfold fX2_add at h
  refine j_aload_n K 0 rfl dX2_add_0 rfl ?_
  refine j_getf (C := RX2) (T := TX2) (N := 4) (ci := 2) K icX2 0 0 (List.mem_cons_of_mem _ mw_3_16) rfl rfl rfl (by decide) rfl dX2_add_1 rfl ?_
  refine j_aload_n K 0 rfl dX2_add_4 rfl ?_
  refine j_getf (C := RX2) (T := TX2) (N := 4) (ci := 2) K icX2 0 3 (List.mem_cons_of_mem _ mw_3_19) rfl rfl rfl (by decide) rfl dX2_add_5 rfl ?_
  refine j_iload_n K 1 rfl dX2_add_8 rfl ?_
  refine j_iast K 1 0 (fun z => (uX2_add cyI cyJ cyS a0 c_size z c_month c_number)) rfl rfl (fun _ => rfl) dX2_add_9 rfl h (fun c_kind_1 h => ?_)
  refine j_aload_n K 0 rfl dX2_add_10 rfl ?_
  refine j_getf (C := RX2) (T := TX2) (N := 4) (ci := 2) K icX2 0 1 (List.mem_cons_of_mem _ mw_3_17) rfl rfl rfl (by decide) rfl dX2_add_11 rfl ?_
  refine j_aload_n K 0 rfl dX2_add_14 rfl ?_
  refine j_getf (C := RX2) (T := TX2) (N := 4) (ci := 2) K icX2 0 3 (List.mem_cons_of_mem _ mw_3_19) rfl rfl rfl (by decide) rfl dX2_add_15 rfl ?_
  refine j_iload_n K 2 rfl dX2_add_18 rfl ?_
  refine j_iast K 2 0 (fun z => (uX2_add cyI cyJ cyS a0 c_size c_kind_1 z c_number)) rfl rfl (fun _ => rfl) dX2_add_19 rfl h (fun c_month_2 h => ?_)
  refine j_aload_n K 0 rfl dX2_add_20 rfl ?_
  refine j_getf (C := RX2) (T := TX2) (N := 4) (ci := 2) K icX2 0 2 (List.mem_cons_of_mem _ mw_3_18) rfl rfl rfl (by decide) rfl dX2_add_21 rfl ?_
  refine j_aload_n K 0 rfl dX2_add_24 rfl ?_
  refine j_getf (C := RX2) (T := TX2) (N := 4) (ci := 2) K icX2 0 3 (List.mem_cons_of_mem _ mw_3_19) rfl rfl rfl (by decide) rfl dX2_add_25 rfl ?_
  refine j_iload_n K 3 rfl dX2_add_28 rfl ?_
  refine j_iast K 3 0 (fun z => (uX2_add cyI cyJ cyS a0 c_size c_kind_1 c_month_2 z)) rfl rfl (fun _ => rfl) dX2_add_29 rfl h (fun c_number_3 h => ?_)
  refine j_aload_n K 0 rfl dX2_add_30 rfl ?_
  refine j_dup K rfl dX2_add_31 rfl ?_
  refine j_getf (C := RX2) (T := TX2) (N := 4) (ci := 2) K icX2 0 3 (List.mem_cons_of_mem _ mw_3_19) rfl rfl rfl (by decide) rfl dX2_add_32 rfl ?_
  refine j_iconst (v := (1 : Int32)) K (by decide) dX2_add_35 rfl ?_
  refine j_iadd K dX2_add_36 rfl ?_
  refine j_nmI h (fun c_size_4 h => ?_)
  refine j_putf (C := RX2) (T := TX2) (N := 4) (ci := 2) (ty := .int) (ws' := (uX2_add cyI cyJ cyS a0 c_size_4 c_kind_1 c_month_2 c_number_3)) K icX2 tyX2 tyX2_ok nmX2 0 3 (List.mem_cons_of_mem _ mw_3_19) rfl rfl rfl (by decide) rfl (by decide +kernel) rfl rfl (Nat.le_of_ble_eq_true rfl) rfl dX2_add_37 rfl ?_
  obtain ⟨e1, g1⟩ := Prod.mk.inj (Option.some.inj h)
  subst e1
  obtain ⟨e2, g2⟩ := Prod.mk.inj g1
  subst e2
  obtain ⟨e3, g3⟩ := Prod.mk.inj g2
  subst e3
  subst g3
  exact j_vret K dX2_add_40
abbrev uX3_add (cyI cyJ cyS : ClassId) (a0 : Nat → Nat) (c_size : Int32) (c_month : Nat → Int32) (c_tenant : Nat → Int32) (c_floor : Nat → Int32) : va_W := [((a0 0), .inr (3, [.ref (a0 1), .ref (a0 2), .ref (a0 3), .int c_size])), ((a0 1), .inl (cyI, 8, .inl c_month)), ((a0 2), .inl (cyI, 8, .inl c_tenant)), ((a0 3), .inl (cyI, 8, .inl c_floor))]
abbrev rmX3_add : Room := { frames := 0, cells := 0, slots := 0, locals := 0 }
abbrev wdX3_add : List Cond := .code yX3_add cX3_add 4 none :: wsL_law
theorem hyX3_add : yX3_add.cls = RX3 ∧ yX3_add.cls ≠ "java/lang/invoke/MethodHandle" ∧ yX3_add.cls ≠ "java/lang/invoke/VarHandle" ∧ (parseMethodDescriptor yX3_add.desc).map (fun d => d.parameters.length) = some 3 := by decide +kernel
set_option maxRecDepth 100000 in
set_option maxHeartbeats 4000000 in
theorem ctX3_add (l : Launch) (D : va_G) (cyI cyJ cyS : ClassId) (a0 : Nat → Nat) (i1 : Int32) (i2 : Int32) (i3 : Int32) (c_size : Int32) (c_month : Nat → Int32) (c_tenant : Nat → Int32) (c_floor : Nat → Int32) (o_size : Int32) (o_month : Nat → Int32) (o_tenant : Nat → Int32) (o_floor : Nat → Int32) (h : fX3_add i1 i2 i3 c_size c_month c_tenant c_floor = some (o_size, o_month, o_tenant, o_floor)) : jC l yX3_add wdX3_add rmX3_add D vwCl (tyz cyI cyJ cyS) [.ref (a0 0), .int i1, .int i2, .int i3] (uX3_add cyI cyJ cyS a0 c_size c_month c_tenant c_floor) none (uX3_add cyI cyJ cyS a0 o_size o_month o_tenant o_floor) := by
  refine jC_of (cc := cX3_add) (nL := 4) (ret := none) (own := RX3) (lv := [(0, .ref (a0 0)), (1, .int i1), (2, .int i2), (3, .int i3)]) (by decide) rfl rfl (Nat.le_of_ble_eq_true rfl) rfl ?_
  intro p e s m args below meth c A K
  unfold fX3_add at h
  refine j_aload_n K 0 rfl dX3_add_0 rfl ?_
  refine j_getf (C := RX3) (T := TX3) (N := 4) (ci := 3) K icX3 0 0 (List.mem_cons_of_mem _ mw_3_23) rfl rfl rfl (by decide) rfl dX3_add_1 rfl ?_
  refine j_aload_n K 0 rfl dX3_add_4 rfl ?_
  refine j_getf (C := RX3) (T := TX3) (N := 4) (ci := 3) K icX3 0 3 (List.mem_cons_of_mem _ mw_4_2) rfl rfl rfl (by decide) rfl dX3_add_5 rfl ?_
  refine j_iload_n K 1 rfl dX3_add_8 rfl ?_
  refine j_iast K 1 0 (fun z => (uX3_add cyI cyJ cyS a0 c_size z c_tenant c_floor)) rfl rfl (fun _ => rfl) dX3_add_9 rfl h (fun c_month_1 h => ?_)
  refine j_aload_n K 0 rfl dX3_add_10 rfl ?_
  refine j_getf (C := RX3) (T := TX3) (N := 4) (ci := 3) K icX3 0 1 (List.mem_cons_of_mem _ mw_4_0) rfl rfl rfl (by decide) rfl dX3_add_11 rfl ?_
  refine j_aload_n K 0 rfl dX3_add_14 rfl ?_
  refine j_getf (C := RX3) (T := TX3) (N := 4) (ci := 3) K icX3 0 3 (List.mem_cons_of_mem _ mw_4_2) rfl rfl rfl (by decide) rfl dX3_add_15 rfl ?_
  refine j_iload_n K 2 rfl dX3_add_18 rfl ?_
  refine j_iast K 2 0 (fun z => (uX3_add cyI cyJ cyS a0 c_size c_month_1 z c_floor)) rfl rfl (fun _ => rfl) dX3_add_19 rfl h (fun c_tenant_2 h => ?_)
  refine j_aload_n K 0 rfl dX3_add_20 rfl ?_
  refine j_getf (C := RX3) (T := TX3) (N := 4) (ci := 3) K icX3 0 2 (List.mem_cons_of_mem _ mw_4_1) rfl rfl rfl (by decide) rfl dX3_add_21 rfl ?_
  refine j_aload_n K 0 rfl dX3_add_24 rfl ?_
  refine j_getf (C := RX3) (T := TX3) (N := 4) (ci := 3) K icX3 0 3 (List.mem_cons_of_mem _ mw_4_2) rfl rfl rfl (by decide) rfl dX3_add_25 rfl ?_
  refine j_iload_n K 3 rfl dX3_add_28 rfl ?_
  refine j_iast K 3 0 (fun z => (uX3_add cyI cyJ cyS a0 c_size c_month_1 c_tenant_2 z)) rfl rfl (fun _ => rfl) dX3_add_29 rfl h (fun c_floor_3 h => ?_)
  refine j_aload_n K 0 rfl dX3_add_30 rfl ?_
  refine j_dup K rfl dX3_add_31 rfl ?_
  refine j_getf (C := RX3) (T := TX3) (N := 4) (ci := 3) K icX3 0 3 (List.mem_cons_of_mem _ mw_4_2) rfl rfl rfl (by decide) rfl dX3_add_32 rfl ?_
  refine j_iconst (v := (1 : Int32)) K (by decide) dX3_add_35 rfl ?_
  refine j_iadd K dX3_add_36 rfl ?_
  refine j_nmI h (fun c_size_4 h => ?_)
  refine j_putf (C := RX3) (T := TX3) (N := 4) (ci := 3) (ty := .int) (ws' := (uX3_add cyI cyJ cyS a0 c_size_4 c_month_1 c_tenant_2 c_floor_3)) K icX3 tyX3 tyX3_ok nmX3 0 3 (List.mem_cons_of_mem _ mw_4_2) rfl rfl rfl (by decide) rfl (by decide +kernel) rfl rfl (Nat.le_of_ble_eq_true rfl) rfl dX3_add_37 rfl ?_
  obtain ⟨e1, g1⟩ := Prod.mk.inj (Option.some.inj h)
  subst e1
  obtain ⟨e2, g2⟩ := Prod.mk.inj g1
  subst e2
  obtain ⟨e3, g3⟩ := Prod.mk.inj g2
  subst e3
  subst g3
  exact j_vret K dX3_add_40
abbrev uX3_comesOut (cyI cyJ cyS : ClassId) (a0 : Nat → Nat) (a1 : Nat → Nat) (c_size : Int32) (c_month : Nat → Int32) (c_tenant : Nat → Int32) (c_floor : Nat → Int32) (c1_size : Int32) (c1_floors : Nat → Int32) : va_W := [((a0 0), .inr (3, [.ref (a0 1), .ref (a0 2), .ref (a0 3), .int c_size])), ((a0 1), .inl (cyI, 8, .inl c_month)), ((a0 2), .inl (cyI, 8, .inl c_tenant)), ((a0 3), .inl (cyI, 8, .inl c_floor)), ((a1 0), .inr (1, [.int c1_size, .ref (a1 1), .ref (a1 2), .ref (a1 3), .ref (a1 4), .ref (a1 5), .ref (a1 6), .ref (a1 7), .ref (a1 8), .ref (a1 9), .ref (a1 10), .ref (a1 11)])), ((a1 4), .inl (cyI, 192, .inl c1_floors))]
abbrev rmX3_comesOut : Room := { frames := 1, cells := 0, slots := 0, locals := 22 }
abbrev wdX3_comesOut : List Cond := .code yX3_comesOut cX3_comesOut 3 (some .boolean) :: wsL_law
theorem hyX3_comesOut : yX3_comesOut.cls = RX3 ∧ yX3_comesOut.cls ≠ "java/lang/invoke/MethodHandle" ∧ yX3_comesOut.cls ≠ "java/lang/invoke/VarHandle" ∧ (parseMethodDescriptor yX3_comesOut.desc).map (fun d => d.parameters.length) = some 1 := by decide +kernel
set_option maxRecDepth 100000 in
set_option maxHeartbeats 4000000 in
theorem wX3_comesOut_2 (K : jK p s m args meth c A D vwCl (tyz cyI cyJ cyS) cX3_comesOut 3 RX3 wdX3_comesOut (some .boolean)) (a0 : Nat → Nat) (a1 : Nat → Nat)  (c_size : Int32) (c_month : Nat → Int32) (c_tenant : Nat → Int32) (c_floor : Nat → Int32) (c1_size : Int32) (c1_floors : Nat → Int32) (o_r : Int32)   : ∀ (n : Nat) (i2 : Int32), fX3_comesOut_2 c_size c_month c_tenant c_floor c1_size c1_floors  n i2 = some (o_r) → jw p l e rmX3_comesOut s m args below meth c (jQ below args s A D vwCl (tyz cyI cyJ cyS) 0 0 (some (.int o_r)) (uX3_comesOut cyI cyJ cyS a0 a1 c_size c_month c_tenant c_floor c1_size c1_floors)) A D vwCl 3 0 0 2 [(0, .ref (a0 0)), (1, .ref (a1 0)), (2, .int i2)] [] (uX3_comesOut cyI cyJ cyS a0 a1 c_size c_month c_tenant c_floor c1_size c1_floors) := by
  intro n
  induction n with
  | zero => intro i2 h; cases h
  | succ n ih =>
    intro i2 h
    have h : bX3_comesOut_2 c_size c_month c_tenant c_floor c1_size c1_floors  (fX3_comesOut_2 c_size c_month c_tenant c_floor c1_size c1_floors  n) i2 = some (o_r) := h
    unfold bX3_comesOut_2 at h
    refine j_iload_n K 2 rfl dX3_comesOut_2 rfl ?_
    refine j_aload_n K 0 rfl dX3_comesOut_3 rfl ?_
    refine j_getf (C := RX3) (T := TX3) (N := 4) (ci := 3) K icX3 0 3 (List.mem_cons_of_mem _ mw_4_2) rfl rfl rfl (by decide) rfl dX3_comesOut_4 rfl ?_
    refine j_icmp_ge (tgt := 56) K dX3_comesOut_7 (by decide) rfl h (fun h => ?_) (fun h => ?_)
    · refine j_iconst (v := (1 : Int32)) K (by decide) dX3_comesOut_56 rfl ?_
      have h := Option.some.inj h
      subst h
      exact j_zret K rfl dX3_comesOut_57
    · refine j_aload_n K 0 rfl dX3_comesOut_10 rfl ?_
      refine j_getf (C := RX3) (T := TX3) (N := 4) (ci := 3) K icX3 0 1 (List.mem_cons_of_mem _ mw_4_0) rfl rfl rfl (by decide) rfl dX3_comesOut_11 rfl ?_
      refine j_iload_n K 2 rfl dX3_comesOut_14 rfl ?_
      refine j_iald K 2 0 rfl rfl dX3_comesOut_15 rfl h (fun v_1 h => ?_)
      refine j_aload_n K 1 rfl dX3_comesOut_16 rfl ?_
      refine j_getf (C := RX1) (T := TX1) (N := 12) (ci := 1) K icX1 4 0 (List.mem_cons_of_mem _ mw_30_23) rfl rfl rfl (by decide) rfl dX3_comesOut_17 rfl ?_
      refine j_icmp_ge (tgt := 48) K dX3_comesOut_20 (by decide) rfl h (fun h => ?_) (fun h => ?_)
      · refine j_iconst (v := (0 : Int32)) K (by decide) dX3_comesOut_48 rfl ?_
        have h := Option.some.inj h
        subst h
        exact j_zret K rfl dX3_comesOut_49
      · refine j_aload_n K 1 rfl dX3_comesOut_23 rfl ?_
        refine j_aload_n K 0 rfl dX3_comesOut_24 rfl ?_
        refine j_getf (C := RX3) (T := TX3) (N := 4) (ci := 3) K icX3 0 0 (List.mem_cons_of_mem _ mw_3_23) rfl rfl rfl (by decide) rfl dX3_comesOut_25 rfl ?_
        refine j_iload_n K 2 rfl dX3_comesOut_28 rfl ?_
        refine j_iald K 1 0 rfl rfl dX3_comesOut_29 rfl h (fun v_2 h => ?_)
        refine j_aload_n K 0 rfl dX3_comesOut_30 rfl ?_
        refine j_getf (C := RX3) (T := TX3) (N := 4) (ci := 3) K icX3 0 1 (List.mem_cons_of_mem _ mw_4_0) rfl rfl rfl (by decide) rfl dX3_comesOut_31 rfl ?_
        refine j_iload_n K 2 rfl dX3_comesOut_34 rfl ?_
        refine j_iald K 2 0 rfl rfl dX3_comesOut_35 rfl h (fun v_3 h => ?_)
        obtain ⟨r_4, hc, h⟩ := bd1_some h
        refine j_callV (rest := []) (st1 := [.int r_4]) (ws' := (uX3_comesOut cyI cyJ cyS a0 a1 c_size c_month c_tenant c_floor c1_size c1_floors)) (T := TX1) (N := 12) (ci := 1) K (ctX1_floorAt l D cyI cyJ cyS a1 v_2 v_3 c1_size c1_floors r_4 hc) (gdV mcL mw_31_0 mw_16_11 mw_16_12 mw_2_7 mw_16_13) rfl ⟨rfl, rfl⟩ hyX1_floorAt ⟨Nat.le_of_ble_eq_true rfl, Nat.le_of_ble_eq_true rfl, Nat.le_of_ble_eq_true rfl, Nat.le_of_ble_eq_true rfl⟩ [4, 5] (by decide) rfl [none, none, none, none, some 0, some 1] (by decide) rfl rfl 4 rfl rfl rfl rfl (Nat.le_of_ble_eq_true rfl) dX3_comesOut_36 rfl rfl ?_
        refine j_aload_n K 0 rfl dX3_comesOut_39 rfl ?_
        refine j_getf (C := RX3) (T := TX3) (N := 4) (ci := 3) K icX3 0 2 (List.mem_cons_of_mem _ mw_4_1) rfl rfl rfl (by decide) rfl dX3_comesOut_40 rfl ?_
        refine j_iload_n K 2 rfl dX3_comesOut_43 rfl ?_
        refine j_iald K 3 0 rfl rfl dX3_comesOut_44 rfl h (fun v_5 h => ?_)
        refine j_icmp_eq (tgt := 50) K dX3_comesOut_45 (by decide) rfl h (fun h => ?_) (fun h => ?_)
        · refine j_iincN (lf := fun z => [(2, .int z), (0, .ref (a0 0)), (1, .ref (a1 0))]) K (v := i2 + (1 : Int32)) (k := 2) rfl rfl (by decide) (fun _ => rfl) dX3_comesOut_50 rfl h (fun i2_6 h => ?_)
          refine j_goto (pc' := 2) K dX3_comesOut_53 (by decide) ?_
          refine j_sub [1, 2, 0] (lv' := [(0, .ref (a0 0)), (1, .ref (a1 0)), (2, .int i2_6)]) rfl ?_
          exact ih i2_6 h
        · refine j_iconst (v := (0 : Int32)) K (by decide) dX3_comesOut_48 rfl ?_
          have h := Option.some.inj h
          subst h
          exact j_zret K rfl dX3_comesOut_49
set_option maxRecDepth 100000 in
set_option maxHeartbeats 4000000 in
theorem ctX3_comesOut (l : Launch) (D : va_G) (cyI cyJ cyS : ClassId) (a0 : Nat → Nat) (a1 : Nat → Nat) (c_size : Int32) (c_month : Nat → Int32) (c_tenant : Nat → Int32) (c_floor : Nat → Int32) (c1_size : Int32) (c1_floors : Nat → Int32) (o_r : Int32) (h : fX3_comesOut c_size c_month c_tenant c_floor c1_size c1_floors = some (o_r)) : jC l yX3_comesOut wdX3_comesOut rmX3_comesOut D vwCl (tyz cyI cyJ cyS) [.ref (a0 0), .ref (a1 0)] (uX3_comesOut cyI cyJ cyS a0 a1 c_size c_month c_tenant c_floor c1_size c1_floors) (some (.int o_r)) (uX3_comesOut cyI cyJ cyS a0 a1 c_size c_month c_tenant c_floor c1_size c1_floors) := by
  refine jC_of (cc := cX3_comesOut) (nL := 3) (ret := (some .boolean)) (own := RX3) (lv := [(0, .ref (a0 0)), (1, .ref (a1 0))]) (by decide) rfl rfl (Nat.le_of_ble_eq_true rfl) rfl ?_
  intro p e s m args below meth c A K
  unfold fX3_comesOut at h
  refine j_iconst (v := (0 : Int32)) K (by decide) dX3_comesOut_0 rfl ?_
  refine j_istore_n (lv' := [(2, .int (0 : Int32)), (0, .ref (a0 0)), (1, .ref (a1 0))]) K (by decide) rfl dX3_comesOut_1 rfl ?_
  refine j_sub [1, 2, 0] (lv' := [(0, .ref (a0 0)), (1, .ref (a1 0)), (2, .int (0 : Int32))]) rfl ?_
  exact wX3_comesOut_2 K a0 a1 c_size c_month c_tenant c_floor c1_size c1_floors o_r jF (0 : Int32) h
abbrev uX4_renew (cyI cyJ cyS : ClassId) (a0 : Nat → Nat) (c_form : Int32) (c_size : Int32) (c_lost : Int32) (c_items : Nat → Int32) : va_W := [((a0 0), .inr (4, [.ref (a0 1), .int c_form, .int c_size, .int c_lost])), ((a0 1), .inl (cyI, 60, .inl c_items))]
abbrev rmX4_renew : Room := { frames := 1, cells := 0, slots := 0, locals := 23 }
abbrev wdX4_renew : List Cond := .code yX4_renew cX4_renew 3 none :: wsL_law
theorem hyX4_renew : yX4_renew.cls = RX4 ∧ yX4_renew.cls ≠ "java/lang/invoke/MethodHandle" ∧ yX4_renew.cls ≠ "java/lang/invoke/VarHandle" ∧ (parseMethodDescriptor yX4_renew.desc).map (fun d => d.parameters.length) = some 2 := by decide +kernel
set_option maxRecDepth 100000 in
set_option maxHeartbeats 4000000 in
theorem ctX4_renew (l : Launch) (D : va_G) (cyI cyJ cyS : ClassId) (a0 : Nat → Nat) (i1 : Int32) (i2 : Int32) (c_form : Int32) (c_size : Int32) (c_lost : Int32) (c_items : Nat → Int32) (o_form : Int32) (o_size : Int32) (o_lost : Int32) (o_items : Nat → Int32) (h : fX4_renew i1 i2 c_form c_size c_lost c_items = some (o_form, o_size, o_lost, o_items)) : jC l yX4_renew wdX4_renew rmX4_renew D vwCl (tyz cyI cyJ cyS) [.ref (a0 0), .int i1, .int i2] (uX4_renew cyI cyJ cyS a0 c_form c_size c_lost c_items) none (uX4_renew cyI cyJ cyS a0 o_form o_size o_lost o_items) := by
  refine jC_of (cc := cX4_renew) (nL := 3) (ret := none) (own := RX4) (lv := [(0, .ref (a0 0)), (1, .int i1), (2, .int i2)]) (by decide) rfl rfl (Nat.le_of_ble_eq_true rfl) rfl ?_
  intro p e s m args below meth c A K
  unfold fX4_renew at h
  refine j_aload_n K 0 rfl dX4_renew_0 rfl ?_
  refine j_getf (C := RX4) (T := TX4) (N := 4) (ci := 4) K icX4 0 0 (List.mem_cons_of_mem _ mw_5_0) rfl rfl rfl (by decide) rfl dX4_renew_1 rfl ?_
  refine j_iconst (v := (0 : Int32)) K (by decide) dX4_renew_4 rfl ?_
  obtain ⟨c_items_1, hc, h⟩ := bd1_some h
  refine j_callS (rest := []) (st1 := []) (ws' := (uX4_renew cyI cyJ cyS a0 c_form c_size c_lost c_items_1)) K (ctJ7_fill_53178 l D cyI cyJ cyS (fun k => a0 (k + 1)) 60 (0 : Int32) c_items c_items_1 hc) (gdS mcL mw_36_22 mw_15_11 mw_15_12 mw_15_13) rfl ⟨rfl, rfl⟩ hzJ7_fill_53178 ⟨Nat.le_of_ble_eq_true rfl, Nat.le_of_ble_eq_true rfl, Nat.le_of_ble_eq_true rfl, Nat.le_of_ble_eq_true rfl⟩ [1] (by decide) rfl [none, some 0] (by decide) rfl rfl rfl rfl (Nat.le_of_ble_eq_true rfl) dX4_renew_5 rfl rfl ?_
  refine j_aload_n K 0 rfl dX4_renew_8 rfl ?_
  refine j_iload_n K 1 rfl dX4_renew_9 rfl ?_
  refine j_putf (C := RX4) (T := TX4) (N := 4) (ci := 4) (ty := .int) (ws' := (uX4_renew cyI cyJ cyS a0 i1 c_size c_lost c_items_1)) K icX4 tyX4 tyX4_ok nmX4 0 1 (List.mem_cons_of_mem _ mw_5_1) rfl rfl rfl (by decide) rfl (by decide +kernel) rfl rfl (Nat.le_of_ble_eq_true rfl) rfl dX4_renew_10 rfl ?_
  refine j_aload_n K 0 rfl dX4_renew_13 rfl ?_
  refine j_iload_n K 2 rfl dX4_renew_14 rfl ?_
  refine j_putf (C := RX4) (T := TX4) (N := 4) (ci := 4) (ty := .int) (ws' := (uX4_renew cyI cyJ cyS a0 i1 i2 c_lost c_items_1)) K icX4 tyX4 tyX4_ok nmX4 0 2 (List.mem_cons_of_mem _ mw_5_2) rfl rfl rfl (by decide) rfl (by decide +kernel) rfl rfl (Nat.le_of_ble_eq_true rfl) rfl dX4_renew_15 rfl ?_
  refine j_aload_n K 0 rfl dX4_renew_18 rfl ?_
  refine j_iconst (v := (0 : Int32)) K (by decide) dX4_renew_19 rfl ?_
  refine j_putf (C := RX4) (T := TX4) (N := 4) (ci := 4) (ty := .boolean) (ws' := (uX4_renew cyI cyJ cyS a0 i1 i2 (0 : Int32) c_items_1)) K icX4 tyX4 tyX4_ok nmX4 0 3 (List.mem_cons_of_mem _ mw_5_3) rfl rfl rfl (by decide) rfl (by decide +kernel) rfl rfl (Nat.le_of_ble_eq_true rfl) rfl dX4_renew_20 rfl ?_
  obtain ⟨e1, g1⟩ := Prod.mk.inj (Option.some.inj h)
  subst e1
  obtain ⟨e2, g2⟩ := Prod.mk.inj g1
  subst e2
  obtain ⟨e3, g3⟩ := Prod.mk.inj g2
  subst e3
  subst g3
  exact j_vret K dX4_renew_23
abbrev uX4_flaw (cyI cyJ cyS : ClassId) (a0 : Nat → Nat) (c_form : Int32) (c_size : Int32) (c_lost : Int32) : va_W := [((a0 0), .inr (4, [.ref (a0 1), .int c_form, .int c_size, .int c_lost]))]
abbrev rmX4_flaw : Room := { frames := 0, cells := 0, slots := 0, locals := 0 }
abbrev wdX4_flaw : List Cond := .code yX4_flaw cX4_flaw 3 (some .int) :: wsL_law
theorem hyX4_flaw : yX4_flaw.cls = RX4 ∧ yX4_flaw.cls ≠ "java/lang/invoke/MethodHandle" ∧ yX4_flaw.cls ≠ "java/lang/invoke/VarHandle" ∧ (parseMethodDescriptor yX4_flaw.desc).map (fun d => d.parameters.length) = some 2 := by decide +kernel
set_option maxRecDepth 100000 in
set_option maxHeartbeats 4000000 in
theorem ctX4_flaw (l : Launch) (D : va_G) (cyI cyJ cyS : ClassId) (a0 : Nat → Nat) (i1 : Int32) (i2 : Int32) (c_form : Int32) (c_size : Int32) (c_lost : Int32) (o_r : Int32) (h : fX4_flaw i1 i2 c_form c_size c_lost = some (o_r)) : jC l yX4_flaw wdX4_flaw rmX4_flaw D vwCl (tyz cyI cyJ cyS) [.ref (a0 0), .int i1, .int i2] (uX4_flaw cyI cyJ cyS a0 c_form c_size c_lost) (some (.int o_r)) (uX4_flaw cyI cyJ cyS a0 c_form c_size c_lost) := by
  refine jC_of (cc := cX4_flaw) (nL := 3) (ret := (some .int)) (own := RX4) (lv := [(0, .ref (a0 0)), (1, .int i1), (2, .int i2)]) (by decide) rfl rfl (Nat.le_of_ble_eq_true rfl) rfl ?_
  intro p e s m args below meth c A K
  unfold fX4_flaw at h
  refine j_aload_n K 0 rfl dX4_flaw_0 rfl ?_
  refine j_getf (C := RX4) (T := TX4) (N := 4) (ci := 4) K icX4 0 3 (List.mem_cons_of_mem _ mw_5_3) rfl rfl rfl (by decide) rfl dX4_flaw_1 rfl ?_
  refine j_if_eq (tgt := 9) K dX4_flaw_4 (by decide) rfl h (fun h => ?_) (fun h => ?_)
  · refine j_aload_n K 0 rfl dX4_flaw_9 rfl ?_
    refine j_getf (C := RX4) (T := TX4) (N := 4) (ci := 4) K icX4 0 1 (List.mem_cons_of_mem _ mw_5_1) rfl rfl rfl (by decide) rfl dX4_flaw_10 rfl ?_
    refine j_iload_n K 1 rfl dX4_flaw_13 rfl ?_
    refine j_icmp_eq (tgt := 19) K dX4_flaw_14 (by decide) rfl h (fun h => ?_) (fun h => ?_)
    · refine j_iload_n K 2 rfl dX4_flaw_19 rfl ?_
      refine j_if_lt (tgt := 31) K dX4_flaw_20 (by decide) rfl h (fun h => ?_) (fun h => ?_)
      · refine j_iconst (v := (2 : Int32)) K (by decide) dX4_flaw_31 rfl ?_
        refine j_goto (pc' := 36) K dX4_flaw_32 (by decide) ?_
        have h := Option.some.inj h
        subst h
        exact j_iret K dX4_flaw_36
      · refine j_iload_n K 2 rfl dX4_flaw_23 rfl ?_
        refine j_aload_n K 0 rfl dX4_flaw_24 rfl ?_
        refine j_getf (C := RX4) (T := TX4) (N := 4) (ci := 4) K icX4 0 2 (List.mem_cons_of_mem _ mw_5_2) rfl rfl rfl (by decide) rfl dX4_flaw_25 rfl ?_
        refine j_icmp_lt (tgt := 35) K dX4_flaw_28 (by decide) rfl h (fun h => ?_) (fun h => ?_)
        · refine j_iconst (v := (0 : Int32)) K (by decide) dX4_flaw_35 rfl ?_
          have h := Option.some.inj h
          subst h
          exact j_iret K dX4_flaw_36
        · refine j_iconst (v := (2 : Int32)) K (by decide) dX4_flaw_31 rfl ?_
          refine j_goto (pc' := 36) K dX4_flaw_32 (by decide) ?_
          have h := Option.some.inj h
          subst h
          exact j_iret K dX4_flaw_36
    · refine j_iconst (v := (3 : Int32)) K (by decide) dX4_flaw_17 rfl ?_
      have h := Option.some.inj h
      subst h
      exact j_iret K dX4_flaw_18
  · refine j_iconst (v := (1 : Int32)) K (by decide) dX4_flaw_7 rfl ?_
    have h := Option.some.inj h
    subst h
    exact j_iret K dX4_flaw_8
abbrev uX4_hasSpan (cyI cyJ cyS : ClassId) (a0 : Nat → Nat) (c_form : Int32) (c_size : Int32) (c_lost : Int32) : va_W := [((a0 0), .inr (4, [.ref (a0 1), .int c_form, .int c_size, .int c_lost]))]
abbrev rmX4_hasSpan : Room := { frames := 0, cells := 0, slots := 0, locals := 0 }
abbrev wdX4_hasSpan : List Cond := .code yX4_hasSpan cX4_hasSpan 3 (some .boolean) :: wsL_law
theorem hyX4_hasSpan : yX4_hasSpan.cls = RX4 ∧ yX4_hasSpan.cls ≠ "java/lang/invoke/MethodHandle" ∧ yX4_hasSpan.cls ≠ "java/lang/invoke/VarHandle" ∧ (parseMethodDescriptor yX4_hasSpan.desc).map (fun d => d.parameters.length) = some 2 := by decide +kernel
set_option maxRecDepth 100000 in
set_option maxHeartbeats 4000000 in
theorem ctX4_hasSpan (l : Launch) (D : va_G) (cyI cyJ cyS : ClassId) (a0 : Nat → Nat) (i1 : Int32) (i2 : Int32) (c_form : Int32) (c_lost : Int32) (c_size : Int32) (o_r : Int32) (h : fX4_hasSpan i1 i2 c_size = some (o_r)) : jC l yX4_hasSpan wdX4_hasSpan rmX4_hasSpan D vwCl (tyz cyI cyJ cyS) [.ref (a0 0), .int i1, .int i2] (uX4_hasSpan cyI cyJ cyS a0 c_form c_size c_lost) (some (.int o_r)) (uX4_hasSpan cyI cyJ cyS a0 c_form c_size c_lost) := by
  refine jC_of (cc := cX4_hasSpan) (nL := 3) (ret := (some .boolean)) (own := RX4) (lv := [(0, .ref (a0 0)), (1, .int i1), (2, .int i2)]) (by decide) rfl rfl (Nat.le_of_ble_eq_true rfl) rfl ?_
  intro p e s m args below meth c A K
  unfold fX4_hasSpan at h
  refine j_iload_n K 1 rfl dX4_hasSpan_0 rfl ?_
  refine j_if_lt (tgt := 30) K dX4_hasSpan_1 (by decide) rfl h (fun h => ?_) (fun h => ?_)
  · refine j_iconst (v := (0 : Int32)) K (by decide) dX4_hasSpan_30 rfl ?_
    have h := Option.some.inj h
    subst h
    exact j_zret K rfl dX4_hasSpan_31
  · refine j_iload_n K 2 rfl dX4_hasSpan_4 rfl ?_
    refine j_if_lt (tgt := 30) K dX4_hasSpan_5 (by decide) rfl h (fun h => ?_) (fun h => ?_)
    · refine j_iconst (v := (0 : Int32)) K (by decide) dX4_hasSpan_30 rfl ?_
      have h := Option.some.inj h
      subst h
      exact j_zret K rfl dX4_hasSpan_31
    · refine j_iload_n K 1 rfl dX4_hasSpan_8 rfl ?_
      refine j_aload_n K 0 rfl dX4_hasSpan_9 rfl ?_
      refine j_getf (C := RX4) (T := TX4) (N := 4) (ci := 4) K icX4 0 2 (List.mem_cons_of_mem _ mw_5_2) rfl rfl rfl (by decide) rfl dX4_hasSpan_10 rfl ?_
      refine j_icmp_gt (tgt := 30) K dX4_hasSpan_13 (by decide) rfl h (fun h => ?_) (fun h => ?_)
      · refine j_iconst (v := (0 : Int32)) K (by decide) dX4_hasSpan_30 rfl ?_
        have h := Option.some.inj h
        subst h
        exact j_zret K rfl dX4_hasSpan_31
      · refine j_iload_n K 2 rfl dX4_hasSpan_16 rfl ?_
        refine j_aload_n K 0 rfl dX4_hasSpan_17 rfl ?_
        refine j_getf (C := RX4) (T := TX4) (N := 4) (ci := 4) K icX4 0 2 (List.mem_cons_of_mem _ mw_5_2) rfl rfl rfl (by decide) rfl dX4_hasSpan_18 rfl ?_
        refine j_iload_n K 1 rfl dX4_hasSpan_21 rfl ?_
        refine j_isub K dX4_hasSpan_22 rfl ?_
        refine j_icmp_gt (tgt := 30) K dX4_hasSpan_23 (by decide) rfl h (fun h => ?_) (fun h => ?_)
        · refine j_iconst (v := (0 : Int32)) K (by decide) dX4_hasSpan_30 rfl ?_
          have h := Option.some.inj h
          subst h
          exact j_zret K rfl dX4_hasSpan_31
        · refine j_iconst (v := (1 : Int32)) K (by decide) dX4_hasSpan_26 rfl ?_
          refine j_goto (pc' := 31) K dX4_hasSpan_27 (by decide) ?_
          have h := Option.some.inj h
          subst h
          exact j_zret K rfl dX4_hasSpan_31
abbrev uX4_put (cyI cyJ cyS : ClassId) (a0 : Nat → Nat) (c_form : Int32) (c_size : Int32) (c_lost : Int32) (c_items : Nat → Int32) : va_W := [((a0 0), .inr (4, [.ref (a0 1), .int c_form, .int c_size, .int c_lost])), ((a0 1), .inl (cyI, 60, .inl c_items))]
abbrev rmX4_put : Room := { frames := 0, cells := 0, slots := 0, locals := 0 }
abbrev wdX4_put : List Cond := .code yX4_put cX4_put 3 none :: wsL_law
theorem hyX4_put : yX4_put.cls = RX4 ∧ yX4_put.cls ≠ "java/lang/invoke/MethodHandle" ∧ yX4_put.cls ≠ "java/lang/invoke/VarHandle" ∧ (parseMethodDescriptor yX4_put.desc).map (fun d => d.parameters.length) = some 2 := by decide +kernel
set_option maxRecDepth 100000 in
set_option maxHeartbeats 4000000 in
theorem ctX4_put (l : Launch) (D : va_G) (cyI cyJ cyS : ClassId) (a0 : Nat → Nat) (i1 : Int32) (i2 : Int32) (c_size : Int32) (c_lost : Int32) (c_form : Int32) (c_items : Nat → Int32) (o_items : Nat → Int32) (h : fX4_put i1 i2 c_form c_items = some (o_items)) : jC l yX4_put wdX4_put rmX4_put D vwCl (tyz cyI cyJ cyS) [.ref (a0 0), .int i1, .int i2] (uX4_put cyI cyJ cyS a0 c_form c_size c_lost c_items) none (uX4_put cyI cyJ cyS a0 c_form c_size c_lost o_items) := by
  refine jC_of (cc := cX4_put) (nL := 3) (ret := none) (own := RX4) (lv := [(0, .ref (a0 0)), (1, .int i1), (2, .int i2)]) (by decide) rfl rfl (Nat.le_of_ble_eq_true rfl) rfl ?_
  intro p e s m args below meth c A K
  unfold fX4_put at h
  refine j_aload_n K 0 rfl dX4_put_0 rfl ?_
  refine j_getf (C := RX4) (T := TX4) (N := 4) (ci := 4) K icX4 0 1 (List.mem_cons_of_mem _ mw_5_1) rfl rfl rfl (by decide) rfl dX4_put_1 rfl ?_
  refine j_if_ne (tgt := 18) K dX4_put_4 (by decide) rfl h (fun h => ?_) (fun h => ?_)
  · refine j_aload_n K 0 rfl dX4_put_18 rfl ?_
    refine j_getf (C := RX4) (T := TX4) (N := 4) (ci := 4) K icX4 0 1 (List.mem_cons_of_mem _ mw_5_1) rfl rfl rfl (by decide) rfl dX4_put_19 rfl ?_
    refine j_iconst (v := (1 : Int32)) K (by decide) dX4_put_22 rfl ?_
    refine j_icmp_ne (tgt := 37) K dX4_put_23 (by decide) rfl h (fun h => ?_) (fun h => ?_)
    · refine j_aload_n K 0 rfl dX4_put_37 rfl ?_
      refine j_getf (C := RX4) (T := TX4) (N := 4) (ci := 4) K icX4 0 0 (List.mem_cons_of_mem _ mw_5_0) rfl rfl rfl (by decide) rfl dX4_put_38 rfl ?_
      refine j_iload_n K 1 rfl dX4_put_41 rfl ?_
      refine j_iload_n K 2 rfl dX4_put_42 rfl ?_
      refine j_iast K 1 0 (fun z => (uX4_put cyI cyJ cyS a0 c_form c_size c_lost z)) rfl rfl (fun _ => rfl) dX4_put_43 rfl h (fun c_items_1 h => ?_)
      have h := Option.some.inj h
      subst h
      exact j_vret K dX4_put_44
    · refine j_aload_n K 0 rfl dX4_put_26 rfl ?_
      refine j_getf (C := RX4) (T := TX4) (N := 4) (ci := 4) K icX4 0 0 (List.mem_cons_of_mem _ mw_5_0) rfl rfl rfl (by decide) rfl dX4_put_27 rfl ?_
      refine j_iload_n K 1 rfl dX4_put_30 rfl ?_
      refine j_iload_n K 2 rfl dX4_put_31 rfl ?_
      refine j_i2s K dX4_put_32 rfl ?_
      refine j_iast K 1 0 (fun z => (uX4_put cyI cyJ cyS a0 c_form c_size c_lost z)) rfl rfl (fun _ => rfl) dX4_put_33 rfl h (fun c_items_2 h => ?_)
      refine j_goto (pc' := 44) K dX4_put_34 (by decide) ?_
      have h := Option.some.inj h
      subst h
      exact j_vret K dX4_put_44
  · refine j_aload_n K 0 rfl dX4_put_7 rfl ?_
    refine j_getf (C := RX4) (T := TX4) (N := 4) (ci := 4) K icX4 0 0 (List.mem_cons_of_mem _ mw_5_0) rfl rfl rfl (by decide) rfl dX4_put_8 rfl ?_
    refine j_iload_n K 1 rfl dX4_put_11 rfl ?_
    refine j_iload_n K 2 rfl dX4_put_12 rfl ?_
    refine j_i2b K dX4_put_13 rfl ?_
    refine j_iast K 1 0 (fun z => (uX4_put cyI cyJ cyS a0 c_form c_size c_lost z)) rfl rfl (fun _ => rfl) dX4_put_14 rfl h (fun c_items_3 h => ?_)
    refine j_goto (pc' := 44) K dX4_put_15 (by decide) ?_
    have h := Option.some.inj h
    subst h
    exact j_vret K dX4_put_44
abbrev uX6_sortOf (cyI cyJ cyS : ClassId) : va_W := []
abbrev rmX6_sortOf : Room := { frames := 0, cells := 0, slots := 0, locals := 0 }
abbrev wdX6_sortOf : List Cond := .code yX6_sortOf cX6_sortOf 1 (some .int) :: wsL_law
theorem hzX6_sortOf : yX6_sortOf.cls ≠ "java/lang/invoke/MethodHandle" ∧ yX6_sortOf.cls ≠ "java/lang/invoke/VarHandle" ∧ (parseMethodDescriptor yX6_sortOf.desc).map (fun d => d.parameters.length) = some 1 := by decide +kernel
set_option maxRecDepth 100000 in
set_option maxHeartbeats 4000000 in
theorem ctX6_sortOf (l : Launch) (D : va_G) (cyI cyJ cyS : ClassId) (i0 : Int32) (o_r : Int32) (h : fX6_sortOf i0 = some (o_r)) : jC l yX6_sortOf wdX6_sortOf rmX6_sortOf D vwCl (tyz cyI cyJ cyS) [.int i0] (uX6_sortOf cyI cyJ cyS ) (some (.int o_r)) (uX6_sortOf cyI cyJ cyS ) := by
  refine jC_of (cc := cX6_sortOf) (nL := 1) (ret := (some .int)) (own := RX6) (lv := [(0, .int i0)]) (by decide) rfl rfl (Nat.le_of_ble_eq_true rfl) rfl ?_
  intro p e s m args below meth c A K
  unfold fX6_sortOf at h
  refine j_iload_n K 0 rfl dX6_sortOf_0 rfl ?_
  by_cases c0 : i0 = (99 : Int32)
  · rw [if_pos c0] at h
    refine j_lookup (off := 47) (tgt := 48) K (by decide) (by rw [c0]; first | done | decide) dX6_sortOf_1 (by decide) ?_
    refine j_iconst (v := (2 : Int32)) K (by decide) dX6_sortOf_48 rfl ?_
    have h := Option.some.inj h
    subst h
    exact j_iret K dX6_sortOf_49
  · rw [if_neg c0] at h
    by_cases c1 : i0 = (111 : Int32)
    · rw [if_pos c1] at h
      refine j_lookup (off := 43) (tgt := 44) K (by decide) (by rw [c1]; first | done | decide) dX6_sortOf_1 (by decide) ?_
      refine j_iconst (v := (0 : Int32)) K (by decide) dX6_sortOf_44 rfl ?_
      have h := Option.some.inj h
      subst h
      exact j_iret K dX6_sortOf_45
    · rw [if_neg c1] at h
      by_cases c2 : i0 = (112 : Int32)
      · rw [if_pos c2] at h
        refine j_lookup (off := 45) (tgt := 46) K (by decide) (by rw [c2]; first | done | decide) dX6_sortOf_1 (by decide) ?_
        refine j_iconst (v := (1 : Int32)) K (by decide) dX6_sortOf_46 rfl ?_
        have h := Option.some.inj h
        subst h
        exact j_iret K dX6_sortOf_47
      · rw [if_neg c2] at h
        by_cases c3 : i0 = (114 : Int32)
        · rw [if_pos c3] at h
          refine j_lookup (off := 49) (tgt := 50) K (by decide) (by rw [c3]; first | done | decide) dX6_sortOf_1 (by decide) ?_
          refine j_iconst (v := (3 : Int32)) K (by decide) dX6_sortOf_50 rfl ?_
          have h := Option.some.inj h
          subst h
          exact j_iret K dX6_sortOf_51
        · rw [if_neg c3] at h
          refine j_lookup (off := 51) (tgt := 52) K (by decide) (by show Op.lookupswitch.offset [(99, 47), (111, 43), (112, 45), (114, 49)] 51 _ = _; rw [lv_osw c0 (by decide), lv_osw c1 (by decide), lv_osw c2 (by decide), lv_osw c3 (by decide)]; first | done | rfl) dX6_sortOf_1 (by decide) ?_
          refine j_iconst (v := (-1 : Int32)) K (by decide) dX6_sortOf_52 rfl ?_
          have h := Option.some.inj h
          subst h
          exact j_iret K dX6_sortOf_53
abbrev uX6_goesOn (cyI cyJ cyS : ClassId) : va_W := []
abbrev rmX6_goesOn : Room := { frames := 1, cells := 0, slots := 0, locals := 20 }
abbrev wdX6_goesOn : List Cond := .code yX6_goesOn cX6_goesOn 2 (some .boolean) :: wsL_law
theorem hzX6_goesOn : yX6_goesOn.cls ≠ "java/lang/invoke/MethodHandle" ∧ yX6_goesOn.cls ≠ "java/lang/invoke/VarHandle" ∧ (parseMethodDescriptor yX6_goesOn.desc).map (fun d => d.parameters.length) = some 2 := by decide +kernel
set_option maxRecDepth 100000 in
set_option maxHeartbeats 4000000 in
theorem ctX6_goesOn (l : Launch) (D : va_G) (cyI cyJ cyS : ClassId) (i0 : Int32) (i1 : Int32) (o_r : Int32) (h : fX6_goesOn i0 i1 = some (o_r)) : jC l yX6_goesOn wdX6_goesOn rmX6_goesOn D vwCl (tyz cyI cyJ cyS) [.int i0, .int i1] (uX6_goesOn cyI cyJ cyS ) (some (.int o_r)) (uX6_goesOn cyI cyJ cyS ) := by
  refine jC_of (cc := cX6_goesOn) (nL := 2) (ret := (some .boolean)) (own := RX6) (lv := [(0, .int i0), (1, .int i1)]) (by decide) rfl rfl (Nat.le_of_ble_eq_true rfl) rfl ?_
  intro p e s m args below meth c A K
  unfold fX6_goesOn at h
  refine j_iload_n K 0 rfl dX6_goesOn_0 rfl ?_
  refine j_if_ne (tgt := 18) K dX6_goesOn_1 (by decide) rfl h (fun h => ?_) (fun h => ?_)
  · refine j_iload_n K 0 rfl dX6_goesOn_18 rfl ?_
    refine j_iconst (v := (3 : Int32)) K (by decide) dX6_goesOn_19 rfl ?_
    refine j_icmp_ne (tgt := 37) K dX6_goesOn_20 (by decide) rfl h (fun h => ?_) (fun h => ?_)
    · refine j_iload_n K 1 rfl dX6_goesOn_37 rfl ?_
      refine j_bipush (v := (48 : Int32)) K (by decide) dX6_goesOn_38 rfl ?_
      refine j_icmp_lt (tgt := 53) K dX6_goesOn_40 (by decide) rfl h (fun h => ?_) (fun h => ?_)
      · refine j_iconst (v := (0 : Int32)) K (by decide) dX6_goesOn_53 rfl ?_
        have h := Option.some.inj h
        subst h
        exact j_zret K rfl dX6_goesOn_54
      · refine j_iload_n K 1 rfl dX6_goesOn_43 rfl ?_
        refine j_bipush (v := (57 : Int32)) K (by decide) dX6_goesOn_44 rfl ?_
        refine j_icmp_gt (tgt := 53) K dX6_goesOn_46 (by decide) rfl h (fun h => ?_) (fun h => ?_)
        · refine j_iconst (v := (0 : Int32)) K (by decide) dX6_goesOn_53 rfl ?_
          have h := Option.some.inj h
          subst h
          exact j_zret K rfl dX6_goesOn_54
        · refine j_iconst (v := (1 : Int32)) K (by decide) dX6_goesOn_49 rfl ?_
          refine j_goto (pc' := 54) K dX6_goesOn_50 (by decide) ?_
          have h := Option.some.inj h
          subst h
          exact j_zret K rfl dX6_goesOn_54
    · refine j_iload_n K 1 rfl dX6_goesOn_23 rfl ?_
      refine j_bipush (v := (59 : Int32)) K (by decide) dX6_goesOn_24 rfl ?_
      refine j_icmp_ne (tgt := 33) K dX6_goesOn_26 (by decide) rfl h (fun h => ?_) (fun h => ?_)
      · refine j_iconst (v := (0 : Int32)) K (by decide) dX6_goesOn_33 rfl ?_
        refine j_goto (pc' := 54) K dX6_goesOn_34 (by decide) ?_
        have h := Option.some.inj h
        subst h
        exact j_zret K rfl dX6_goesOn_54
      · refine j_iconst (v := (1 : Int32)) K (by decide) dX6_goesOn_29 rfl ?_
        refine j_goto (pc' := 54) K dX6_goesOn_30 (by decide) ?_
        have h := Option.some.inj h
        subst h
        exact j_zret K rfl dX6_goesOn_54
  · refine j_iload_n K 1 rfl dX6_goesOn_4 rfl ?_
    obtain ⟨r_1, hc, h⟩ := bd1_some h
    refine j_callS (rest := []) (st1 := [.int r_1]) (ws' := (uX6_goesOn cyI cyJ cyS )) K (ctX6_sortOf l D cyI cyJ cyS i1 r_1 hc) (gdS mcL mw_7_8 mw_7_9 mw_1_14 mw_7_10) rfl ⟨rfl, rfl⟩ hzX6_sortOf ⟨Nat.le_of_ble_eq_true rfl, Nat.le_of_ble_eq_true rfl, Nat.le_of_ble_eq_true rfl, Nat.le_of_ble_eq_true rfl⟩ [] (by decide) rfl [] (by decide) rfl rfl rfl rfl (Nat.le_of_ble_eq_true rfl) dX6_goesOn_5 rfl rfl ?_
    refine j_iconst (v := (-1 : Int32)) K (by decide) dX6_goesOn_8 rfl ?_
    refine j_icmp_eq (tgt := 16) K dX6_goesOn_9 (by decide) rfl h (fun h => ?_) (fun h => ?_)
    · refine j_iconst (v := (0 : Int32)) K (by decide) dX6_goesOn_16 rfl ?_
      have h := Option.some.inj h
      subst h
      exact j_zret K rfl dX6_goesOn_17
    · refine j_iconst (v := (1 : Int32)) K (by decide) dX6_goesOn_12 rfl ?_
      refine j_goto (pc' := 17) K dX6_goesOn_13 (by decide) ?_
      have h := Option.some.inj h
      subst h
      exact j_zret K rfl dX6_goesOn_17
abbrev uX6_faultPlace (cyI cyJ cyS : ClassId) (a0 : Nat → Nat) (c_size : Int32) (c_bytes : Nat → Int32) : va_W := [((a0 0), .inr (6, [.ref (a0 1), .int c_size])), ((a0 1), .inl (cyI, 31, .inl c_bytes))]
abbrev rmX6_faultPlace : Room := { frames := 2, cells := 0, slots := 0, locals := 41 }
abbrev wdX6_faultPlace : List Cond := .code yX6_faultPlace cX6_faultPlace 2 (some .int) :: wsL_law
theorem hyX6_faultPlace : yX6_faultPlace.cls = RX6 ∧ yX6_faultPlace.cls ≠ "java/lang/invoke/MethodHandle" ∧ yX6_faultPlace.cls ≠ "java/lang/invoke/VarHandle" ∧ (parseMethodDescriptor yX6_faultPlace.desc).map (fun d => d.parameters.length) = some 0 := by decide +kernel
set_option maxRecDepth 100000 in
set_option maxHeartbeats 4000000 in
theorem wX6_faultPlace_2 (K : jK p s m args meth c A D vwCl (tyz cyI cyJ cyS) cX6_faultPlace 2 RX6 wdX6_faultPlace (some .int)) (a0 : Nat → Nat)  (c_size : Int32) (c_bytes : Nat → Int32) (o_r : Int32)   : ∀ (n : Nat) (i1 : Int32), fX6_faultPlace_2 c_size c_bytes  n i1 = some (o_r) → jw p l e rmX6_faultPlace s m args below meth c (jQ below args s A D vwCl (tyz cyI cyJ cyS) 0 0 (some (.int o_r)) (uX6_faultPlace cyI cyJ cyS a0 c_size c_bytes)) A D vwCl 2 0 0 2 [(0, .ref (a0 0)), (1, .int i1)] [] (uX6_faultPlace cyI cyJ cyS a0 c_size c_bytes) := by
  intro n
  induction n with
  | zero => intro i1 h; cases h
  | succ n ih =>
    intro i1 h
    have h : bX6_faultPlace_2 c_size c_bytes  (fX6_faultPlace_2 c_size c_bytes  n) i1 = some (o_r) := h
    unfold bX6_faultPlace_2 at h
    refine j_iload_n K 1 rfl dX6_faultPlace_2 rfl ?_
    refine j_aload_n K 0 rfl dX6_faultPlace_3 rfl ?_
    refine j_getf (C := RX6) (T := TX6) (N := 2) (ci := 6) K icX6 0 1 (List.mem_cons_of_mem _ mw_3_5) rfl rfl rfl (by decide) rfl dX6_faultPlace_4 rfl ?_
    refine j_icmp_ge (tgt := 41) K dX6_faultPlace_7 (by decide) rfl h (fun h => ?_) (fun h => ?_)
    · refine j_aload_n K 0 rfl dX6_faultPlace_41 rfl ?_
      refine j_getf (C := RX6) (T := TX6) (N := 2) (ci := 6) K icX6 0 1 (List.mem_cons_of_mem _ mw_3_5) rfl rfl rfl (by decide) rfl dX6_faultPlace_42 rfl ?_
      refine j_if_eq (tgt := 58) K dX6_faultPlace_45 (by decide) rfl h (fun h => ?_) (fun h => ?_)
      · refine j_iconst (v := (-1 : Int32)) K (by decide) dX6_faultPlace_58 rfl ?_
        refine j_goto (pc' := 66) K dX6_faultPlace_59 (by decide) ?_
        have h := Option.some.inj h
        subst h
        exact j_iret K dX6_faultPlace_66
      · refine j_aload_n K 0 rfl dX6_faultPlace_48 rfl ?_
        refine j_getf (C := RX6) (T := TX6) (N := 2) (ci := 6) K icX6 0 1 (List.mem_cons_of_mem _ mw_3_5) rfl rfl rfl (by decide) rfl dX6_faultPlace_49 rfl ?_
        refine j_iconst (v := (4 : Int32)) K (by decide) dX6_faultPlace_52 rfl ?_
        refine j_irem K (by decide) dX6_faultPlace_53 rfl ?_
        refine j_iconst (v := (3 : Int32)) K (by decide) dX6_faultPlace_54 rfl ?_
        refine j_icmp_ne (tgt := 62) K dX6_faultPlace_55 (by decide) rfl h (fun h => ?_) (fun h => ?_)
        · refine j_aload_n K 0 rfl dX6_faultPlace_62 rfl ?_
          refine j_getf (C := RX6) (T := TX6) (N := 2) (ci := 6) K icX6 0 1 (List.mem_cons_of_mem _ mw_3_5) rfl rfl rfl (by decide) rfl dX6_faultPlace_63 rfl ?_
          have h := Option.some.inj h
          subst h
          exact j_iret K dX6_faultPlace_66
        · refine j_iconst (v := (-1 : Int32)) K (by decide) dX6_faultPlace_58 rfl ?_
          refine j_goto (pc' := 66) K dX6_faultPlace_59 (by decide) ?_
          have h := Option.some.inj h
          subst h
          exact j_iret K dX6_faultPlace_66
    · refine j_iload_n K 1 rfl dX6_faultPlace_10 rfl ?_
      refine j_iconst (v := (4 : Int32)) K (by decide) dX6_faultPlace_11 rfl ?_
      refine j_idiv K (by decide) dX6_faultPlace_12 rfl ?_
      refine j_bipush (v := (8 : Int32)) K (by decide) dX6_faultPlace_13 rfl ?_
      refine j_icmp_ge (tgt := 33) K dX6_faultPlace_15 (by decide) rfl h (fun h => ?_) (fun h => ?_)
      · refine j_iload_n K 1 rfl dX6_faultPlace_33 rfl ?_
        have h := Option.some.inj h
        subst h
        exact j_iret K dX6_faultPlace_34
      · refine j_iload_n K 1 rfl dX6_faultPlace_18 rfl ?_
        refine j_iconst (v := (4 : Int32)) K (by decide) dX6_faultPlace_19 rfl ?_
        refine j_irem K (by decide) dX6_faultPlace_20 rfl ?_
        refine j_aload_n K 0 rfl dX6_faultPlace_21 rfl ?_
        refine j_getf (C := RX6) (T := TX6) (N := 2) (ci := 6) K icX6 0 0 (List.mem_cons_of_mem _ mw_3_4) rfl rfl rfl (by decide) rfl dX6_faultPlace_22 rfl ?_
        refine j_iload_n K 1 rfl dX6_faultPlace_25 rfl ?_
        refine j_iald K 1 0 rfl rfl dX6_faultPlace_26 rfl h (fun v_1 h => ?_)
        obtain ⟨r_2, hc, h⟩ := bd1_some h
        refine j_callS (rest := []) (st1 := [.int r_2]) (ws' := (uX6_faultPlace cyI cyJ cyS a0 c_size c_bytes)) K (ctX6_goesOn l D cyI cyJ cyS (i1 - i1 / (4 : Int32) * (4 : Int32)) v_1 r_2 hc) (gdS mcL mw_7_5 mw_7_6 mw_1_14 mw_7_7) rfl ⟨rfl, rfl⟩ hzX6_goesOn ⟨Nat.le_of_ble_eq_true rfl, Nat.le_of_ble_eq_true rfl, Nat.le_of_ble_eq_true rfl, Nat.le_of_ble_eq_true rfl⟩ [] (by decide) rfl [none, none] (by decide) rfl rfl rfl rfl (Nat.le_of_ble_eq_true rfl) dX6_faultPlace_27 rfl rfl ?_
        refine j_if_ne (tgt := 35) K dX6_faultPlace_30 (by decide) rfl h (fun h => ?_) (fun h => ?_)
        · refine j_iincN (lf := fun z => [(1, .int z), (0, .ref (a0 0))]) K (v := i1 + (1 : Int32)) (k := 1) rfl rfl (by decide) (fun _ => rfl) dX6_faultPlace_35 rfl h (fun i1_3 h => ?_)
          refine j_goto (pc' := 2) K dX6_faultPlace_38 (by decide) ?_
          refine j_sub [1, 0] (lv' := [(0, .ref (a0 0)), (1, .int i1_3)]) rfl ?_
          exact ih i1_3 h
        · refine j_iload_n K 1 rfl dX6_faultPlace_33 rfl ?_
          have h := Option.some.inj h
          subst h
          exact j_iret K dX6_faultPlace_34
set_option maxRecDepth 100000 in
set_option maxHeartbeats 4000000 in
theorem ctX6_faultPlace (l : Launch) (D : va_G) (cyI cyJ cyS : ClassId) (a0 : Nat → Nat) (c_size : Int32) (c_bytes : Nat → Int32) (o_r : Int32) (h : fX6_faultPlace c_size c_bytes = some (o_r)) : jC l yX6_faultPlace wdX6_faultPlace rmX6_faultPlace D vwCl (tyz cyI cyJ cyS) [.ref (a0 0)] (uX6_faultPlace cyI cyJ cyS a0 c_size c_bytes) (some (.int o_r)) (uX6_faultPlace cyI cyJ cyS a0 c_size c_bytes) := by
  refine jC_of (cc := cX6_faultPlace) (nL := 2) (ret := (some .int)) (own := RX6) (lv := [(0, .ref (a0 0))]) (by decide) rfl rfl (Nat.le_of_ble_eq_true rfl) rfl ?_
  intro p e s m args below meth c A K
  unfold fX6_faultPlace at h
  refine j_iconst (v := (0 : Int32)) K (by decide) dX6_faultPlace_0 rfl ?_
  refine j_istore_n (lv' := [(1, .int (0 : Int32)), (0, .ref (a0 0))]) K (by decide) rfl dX6_faultPlace_1 rfl ?_
  refine j_sub [1, 0] (lv' := [(0, .ref (a0 0)), (1, .int (0 : Int32))]) rfl ?_
  exact wX6_faultPlace_2 K a0 c_size c_bytes o_r jF (0 : Int32) h
abbrev uX5_takeFrom (cyI cyJ cyS : ClassId) (a0 : Nat → Nat) (a1 : Nat → Nat) (c_size : Int32) (c_sort : Nat → Int32) (c_paid : Nat → Int32) (c_wage : Nat → Int32) (c1_size : Int32) (c1_bytes : Nat → Int32) : va_W := [((a0 0), .inr (5, [.ref (a0 1), .ref (a0 2), .ref (a0 3), .int c_size])), ((a0 1), .inl (cyI, 8, .inl c_sort)), ((a0 2), .inl (cyI, 8, .inl c_paid)), ((a0 3), .inl (cyI, 8, .inl c_wage)), ((a1 0), .inr (6, [.ref (a1 1), .int c1_size])), ((a1 1), .inl (cyI, 31, .inl c1_bytes))]
abbrev rmX5_takeFrom : Room := { frames := 3, cells := 0, slots := 0, locals := 62 }
abbrev wdX5_takeFrom : List Cond := .code yX5_takeFrom cX5_takeFrom 3 none :: wsL_law
theorem hyX5_takeFrom : yX5_takeFrom.cls = RX5 ∧ yX5_takeFrom.cls ≠ "java/lang/invoke/MethodHandle" ∧ yX5_takeFrom.cls ≠ "java/lang/invoke/VarHandle" ∧ (parseMethodDescriptor yX5_takeFrom.desc).map (fun d => d.parameters.length) = some 1 := by decide +kernel
set_option maxRecDepth 100000 in
set_option maxHeartbeats 4000000 in
theorem wX5_takeFrom_16 (K : jK p s m args meth c A D vwCl (tyz cyI cyJ cyS) cX5_takeFrom 3 RX5 wdX5_takeFrom none) (a0 : Nat → Nat) (a1 : Nat → Nat)  (c1_size : Int32) (c1_bytes : Nat → Int32) (o_size : Int32) (o_sort : Nat → Int32) (o_paid : Nat → Int32) (o_wage : Nat → Int32)   : ∀ (n : Nat) (c_size : Int32) (c_sort : Nat → Int32) (c_paid : Nat → Int32) (c_wage : Nat → Int32) (i2 : Int32), fX5_takeFrom_16 c1_size c1_bytes  n c_size c_sort c_paid c_wage i2 = some (o_size, o_sort, o_paid, o_wage) → jw p l e rmX5_takeFrom s m args below meth c (jQ below args s A D vwCl (tyz cyI cyJ cyS) 0 0 none (uX5_takeFrom cyI cyJ cyS a0 a1 o_size o_sort o_paid o_wage c1_size c1_bytes)) A D vwCl 3 0 0 16 [(0, .ref (a0 0)), (1, .ref (a1 0)), (2, .int i2)] [] (uX5_takeFrom cyI cyJ cyS a0 a1 c_size c_sort c_paid c_wage c1_size c1_bytes) := by
  intro n
  induction n with
  | zero => intro c_size c_sort c_paid c_wage i2 h; cases h
  | succ n ih =>
    intro c_size c_sort c_paid c_wage i2 h
    have h : bX5_takeFrom_16 c1_size c1_bytes  (fX5_takeFrom_16 c1_size c1_bytes  n) c_size c_sort c_paid c_wage i2 = some (o_size, o_sort, o_paid, o_wage) := h
    unfold bX5_takeFrom_16 at h
    refine j_iload_n K 2 rfl dX5_takeFrom_16 rfl ?_
    refine j_iconst (v := (2 : Int32)) K (by decide) dX5_takeFrom_17 rfl ?_
    refine j_iadd K dX5_takeFrom_18 rfl ?_
    refine j_aload_n K 1 rfl dX5_takeFrom_19 rfl ?_
    refine j_getf (C := RX6) (T := TX6) (N := 2) (ci := 6) K icX6 4 1 (List.mem_cons_of_mem _ mw_6_23) rfl rfl rfl (by decide) rfl dX5_takeFrom_20 rfl ?_
    refine j_icmp_ge (tgt := 109) K dX5_takeFrom_23 (by decide) rfl h (fun h => ?_) (fun h => ?_)
    · obtain ⟨e1, g1⟩ := Prod.mk.inj (Option.some.inj h)
      subst e1
      obtain ⟨e2, g2⟩ := Prod.mk.inj g1
      subst e2
      obtain ⟨e3, g3⟩ := Prod.mk.inj g2
      subst e3
      subst g3
      exact j_vret K dX5_takeFrom_109
    · refine j_aload_n K 0 rfl dX5_takeFrom_26 rfl ?_
      refine j_getf (C := RX5) (T := TX5) (N := 4) (ci := 5) K icX5 0 3 (List.mem_cons_of_mem _ mw_3_12) rfl rfl rfl (by decide) rfl dX5_takeFrom_27 rfl ?_
      refine j_bipush (v := (8 : Int32)) K (by decide) dX5_takeFrom_30 rfl ?_
      refine j_icmp_ge (tgt := 109) K dX5_takeFrom_32 (by decide) rfl h (fun h => ?_) (fun h => ?_)
      · obtain ⟨e1, g1⟩ := Prod.mk.inj (Option.some.inj h)
        subst e1
        obtain ⟨e2, g2⟩ := Prod.mk.inj g1
        subst e2
        obtain ⟨e3, g3⟩ := Prod.mk.inj g2
        subst e3
        subst g3
        exact j_vret K dX5_takeFrom_109
      · refine j_aload_n K 0 rfl dX5_takeFrom_35 rfl ?_
        refine j_getf (C := RX5) (T := TX5) (N := 4) (ci := 5) K icX5 0 0 (List.mem_cons_of_mem _ mw_3_9) rfl rfl rfl (by decide) rfl dX5_takeFrom_36 rfl ?_
        refine j_aload_n K 0 rfl dX5_takeFrom_39 rfl ?_
        refine j_getf (C := RX5) (T := TX5) (N := 4) (ci := 5) K icX5 0 3 (List.mem_cons_of_mem _ mw_3_12) rfl rfl rfl (by decide) rfl dX5_takeFrom_40 rfl ?_
        refine j_aload_n K 1 rfl dX5_takeFrom_43 rfl ?_
        refine j_getf (C := RX6) (T := TX6) (N := 2) (ci := 6) K icX6 4 0 (List.mem_cons_of_mem _ mw_7_0) rfl rfl rfl (by decide) rfl dX5_takeFrom_44 rfl ?_
        refine j_iload_n K 2 rfl dX5_takeFrom_47 rfl ?_
        refine j_iald K 5 0 rfl rfl dX5_takeFrom_48 rfl h (fun v_2 h => ?_)
        obtain ⟨r_3, hc, h⟩ := bd1_some h
        refine j_callS (rest := [.int c_size, .ref (a0 1)]) (st1 := [.int r_3, .int c_size, .ref (a0 1)]) (ws' := (uX5_takeFrom cyI cyJ cyS a0 a1 c_size c_sort c_paid c_wage c1_size c1_bytes)) K (ctX6_sortOf l D cyI cyJ cyS v_2 r_3 hc) (gdS mcL mw_7_11 mw_7_9 mw_1_14 mw_7_10) rfl ⟨rfl, rfl⟩ hzX6_sortOf ⟨Nat.le_of_ble_eq_true rfl, Nat.le_of_ble_eq_true rfl, Nat.le_of_ble_eq_true rfl, Nat.le_of_ble_eq_true rfl⟩ [] (by decide) rfl [none, none, none, none, none, none] (by decide) rfl rfl rfl rfl (Nat.le_of_ble_eq_true rfl) dX5_takeFrom_49 rfl rfl ?_
        refine j_iast K 1 0 (fun z => (uX5_takeFrom cyI cyJ cyS a0 a1 c_size z c_paid c_wage c1_size c1_bytes)) rfl rfl (fun _ => rfl) dX5_takeFrom_52 rfl h (fun c_sort_4 h => ?_)
        refine j_aload_n K 0 rfl dX5_takeFrom_53 rfl ?_
        refine j_getf (C := RX5) (T := TX5) (N := 4) (ci := 5) K icX5 0 1 (List.mem_cons_of_mem _ mw_3_10) rfl rfl rfl (by decide) rfl dX5_takeFrom_54 rfl ?_
        refine j_aload_n K 0 rfl dX5_takeFrom_57 rfl ?_
        refine j_getf (C := RX5) (T := TX5) (N := 4) (ci := 5) K icX5 0 3 (List.mem_cons_of_mem _ mw_3_12) rfl rfl rfl (by decide) rfl dX5_takeFrom_58 rfl ?_
        refine j_aload_n K 1 rfl dX5_takeFrom_61 rfl ?_
        refine j_getf (C := RX6) (T := TX6) (N := 2) (ci := 6) K icX6 4 0 (List.mem_cons_of_mem _ mw_7_0) rfl rfl rfl (by decide) rfl dX5_takeFrom_62 rfl ?_
        refine j_iload_n K 2 rfl dX5_takeFrom_65 rfl ?_
        refine j_iconst (v := (1 : Int32)) K (by decide) dX5_takeFrom_66 rfl ?_
        refine j_iadd K dX5_takeFrom_67 rfl ?_
        refine j_iald K 5 0 rfl rfl dX5_takeFrom_68 rfl h (fun v_5 h => ?_)
        refine j_bipush (v := (48 : Int32)) K (by decide) dX5_takeFrom_69 rfl ?_
        refine j_isub K dX5_takeFrom_71 rfl ?_
        refine j_iast K 2 0 (fun z => (uX5_takeFrom cyI cyJ cyS a0 a1 c_size c_sort_4 z c_wage c1_size c1_bytes)) rfl rfl (fun _ => rfl) dX5_takeFrom_72 rfl h (fun c_paid_6 h => ?_)
        refine j_aload_n K 0 rfl dX5_takeFrom_73 rfl ?_
        refine j_getf (C := RX5) (T := TX5) (N := 4) (ci := 5) K icX5 0 2 (List.mem_cons_of_mem _ mw_3_11) rfl rfl rfl (by decide) rfl dX5_takeFrom_74 rfl ?_
        refine j_aload_n K 0 rfl dX5_takeFrom_77 rfl ?_
        refine j_getf (C := RX5) (T := TX5) (N := 4) (ci := 5) K icX5 0 3 (List.mem_cons_of_mem _ mw_3_12) rfl rfl rfl (by decide) rfl dX5_takeFrom_78 rfl ?_
        refine j_aload_n K 1 rfl dX5_takeFrom_81 rfl ?_
        refine j_getf (C := RX6) (T := TX6) (N := 2) (ci := 6) K icX6 4 0 (List.mem_cons_of_mem _ mw_7_0) rfl rfl rfl (by decide) rfl dX5_takeFrom_82 rfl ?_
        refine j_iload_n K 2 rfl dX5_takeFrom_85 rfl ?_
        refine j_iconst (v := (2 : Int32)) K (by decide) dX5_takeFrom_86 rfl ?_
        refine j_iadd K dX5_takeFrom_87 rfl ?_
        refine j_iald K 5 0 rfl rfl dX5_takeFrom_88 rfl h (fun v_7 h => ?_)
        refine j_bipush (v := (48 : Int32)) K (by decide) dX5_takeFrom_89 rfl ?_
        refine j_isub K dX5_takeFrom_91 rfl ?_
        refine j_iast K 3 0 (fun z => (uX5_takeFrom cyI cyJ cyS a0 a1 c_size c_sort_4 c_paid_6 z c1_size c1_bytes)) rfl rfl (fun _ => rfl) dX5_takeFrom_92 rfl h (fun c_wage_8 h => ?_)
        refine j_aload_n K 0 rfl dX5_takeFrom_93 rfl ?_
        refine j_dup K rfl dX5_takeFrom_94 rfl ?_
        refine j_getf (C := RX5) (T := TX5) (N := 4) (ci := 5) K icX5 0 3 (List.mem_cons_of_mem _ mw_3_12) rfl rfl rfl (by decide) rfl dX5_takeFrom_95 rfl ?_
        refine j_iconst (v := (1 : Int32)) K (by decide) dX5_takeFrom_98 rfl ?_
        refine j_iadd K dX5_takeFrom_99 rfl ?_
        refine j_nmI h (fun c_size_9 h => ?_)
        refine j_putf (C := RX5) (T := TX5) (N := 4) (ci := 5) (ty := .int) (ws' := (uX5_takeFrom cyI cyJ cyS a0 a1 c_size_9 c_sort_4 c_paid_6 c_wage_8 c1_size c1_bytes)) K icX5 tyX5 tyX5_ok nmX5 0 3 (List.mem_cons_of_mem _ mw_3_12) rfl rfl rfl (by decide) rfl (by decide +kernel) rfl rfl (Nat.le_of_ble_eq_true rfl) rfl dX5_takeFrom_100 rfl ?_
        refine j_iincN (lf := fun z => [(2, .int z), (0, .ref (a0 0)), (1, .ref (a1 0))]) K (v := i2 + (4 : Int32)) (k := 2) rfl rfl (by decide) (fun _ => rfl) dX5_takeFrom_103 rfl h (fun i2_10 h => ?_)
        refine j_goto (pc' := 16) K dX5_takeFrom_106 (by decide) ?_
        refine j_sub [1, 2, 0] (lv' := [(0, .ref (a0 0)), (1, .ref (a1 0)), (2, .int i2_10)]) rfl ?_
        exact ih c_size_9 c_sort_4 c_paid_6 c_wage_8 i2_10 h
set_option maxRecDepth 100000 in
set_option maxHeartbeats 4000000 in
theorem ctX5_takeFrom (l : Launch) (D : va_G) (cyI cyJ cyS : ClassId) (a0 : Nat → Nat) (a1 : Nat → Nat) (c1_size : Int32) (c1_bytes : Nat → Int32) (c_size : Int32) (c_sort : Nat → Int32) (c_paid : Nat → Int32) (c_wage : Nat → Int32) (o_size : Int32) (o_sort : Nat → Int32) (o_paid : Nat → Int32) (o_wage : Nat → Int32) (h : fX5_takeFrom c1_size c1_bytes c_size c_sort c_paid c_wage = some (o_size, o_sort, o_paid, o_wage)) : jC l yX5_takeFrom wdX5_takeFrom rmX5_takeFrom D vwCl (tyz cyI cyJ cyS) [.ref (a0 0), .ref (a1 0)] (uX5_takeFrom cyI cyJ cyS a0 a1 c_size c_sort c_paid c_wage c1_size c1_bytes) none (uX5_takeFrom cyI cyJ cyS a0 a1 o_size o_sort o_paid o_wage c1_size c1_bytes) := by
  refine jC_of (cc := cX5_takeFrom) (nL := 3) (ret := none) (own := RX5) (lv := [(0, .ref (a0 0)), (1, .ref (a1 0))]) (by decide) rfl rfl (Nat.le_of_ble_eq_true rfl) rfl ?_
  intro p e s m args below meth c A K
  unfold fX5_takeFrom at h
  refine j_aload_n K 0 rfl dX5_takeFrom_0 rfl ?_
  refine j_iconst (v := (0 : Int32)) K (by decide) dX5_takeFrom_1 rfl ?_
  refine j_putf (C := RX5) (T := TX5) (N := 4) (ci := 5) (ty := .int) (ws' := (uX5_takeFrom cyI cyJ cyS a0 a1 (0 : Int32) c_sort c_paid c_wage c1_size c1_bytes)) K icX5 tyX5 tyX5_ok nmX5 0 3 (List.mem_cons_of_mem _ mw_3_12) rfl rfl rfl (by decide) rfl (by decide +kernel) rfl rfl (Nat.le_of_ble_eq_true rfl) rfl dX5_takeFrom_2 rfl ?_
  refine j_aload_n K 1 rfl dX5_takeFrom_5 rfl ?_
  obtain ⟨r_1, hc, h⟩ := bd1_some h
  refine j_callV (rest := []) (st1 := [.int r_1]) (ws' := (uX5_takeFrom cyI cyJ cyS a0 a1 (0 : Int32) c_sort c_paid c_wage c1_size c1_bytes)) (T := TX6) (N := 2) (ci := 6) K (ctX6_faultPlace l D cyI cyJ cyS a1 c1_size c1_bytes r_1 hc) (gdV mcL mw_7_1 mw_7_2 mw_7_3 mw_1_14 mw_7_4) rfl ⟨rfl, rfl⟩ hyX6_faultPlace ⟨Nat.le_of_ble_eq_true rfl, Nat.le_of_ble_eq_true rfl, Nat.le_of_ble_eq_true rfl, Nat.le_of_ble_eq_true rfl⟩ [4, 5] (by decide) rfl [none, none, none, none, some 0, some 1] (by decide) rfl rfl 4 rfl rfl rfl rfl (Nat.le_of_ble_eq_true rfl) dX5_takeFrom_6 rfl rfl ?_
  refine j_iconst (v := (-1 : Int32)) K (by decide) dX5_takeFrom_9 rfl ?_
  refine j_icmp_eq (tgt := 14) K dX5_takeFrom_10 (by decide) rfl h (fun h => ?_) (fun h => ?_)
  · refine j_iconst (v := (0 : Int32)) K (by decide) dX5_takeFrom_14 rfl ?_
    refine j_istore_n (lv' := [(2, .int (0 : Int32)), (0, .ref (a0 0)), (1, .ref (a1 0))]) K (by decide) rfl dX5_takeFrom_15 rfl ?_
    refine j_sub [1, 2, 0] (lv' := [(0, .ref (a0 0)), (1, .ref (a1 0)), (2, .int (0 : Int32))]) rfl ?_
    exact wX5_takeFrom_16 K a0 a1 c1_size c1_bytes o_size o_sort o_paid o_wage jF (0 : Int32) c_sort c_paid c_wage (0 : Int32) h
  · obtain ⟨e1, g1⟩ := Prod.mk.inj (Option.some.inj h)
    subst e1
    obtain ⟨e2, g2⟩ := Prod.mk.inj g1
    subst e2
    obtain ⟨e3, g3⟩ := Prod.mk.inj g2
    subst e3
    subst g3
    exact j_vret K dX5_takeFrom_13
abbrev uX5_copyOf (cyI cyJ cyS : ClassId) (a0 : Nat → Nat) (a1 : Nat → Nat) (c_size : Int32) (c_sort : Nat → Int32) (c_paid : Nat → Int32) (c_wage : Nat → Int32) (c1_size : Int32) (c1_sort : Nat → Int32) (c1_paid : Nat → Int32) (c1_wage : Nat → Int32) : va_W := [((a0 0), .inr (5, [.ref (a0 1), .ref (a0 2), .ref (a0 3), .int c_size])), ((a0 1), .inl (cyI, 8, .inl c_sort)), ((a0 2), .inl (cyI, 8, .inl c_paid)), ((a0 3), .inl (cyI, 8, .inl c_wage)), ((a1 0), .inr (5, [.ref (a1 1), .ref (a1 2), .ref (a1 3), .int c1_size])), ((a1 1), .inl (cyI, 8, .inl c1_sort)), ((a1 2), .inl (cyI, 8, .inl c1_paid)), ((a1 3), .inl (cyI, 8, .inl c1_wage))]
abbrev rmX5_copyOf : Room := { frames := 0, cells := 0, slots := 0, locals := 0 }
abbrev wdX5_copyOf : List Cond := .code yX5_copyOf cX5_copyOf 3 none :: wsL_law
theorem hyX5_copyOf : yX5_copyOf.cls = RX5 ∧ yX5_copyOf.cls ≠ "java/lang/invoke/MethodHandle" ∧ yX5_copyOf.cls ≠ "java/lang/invoke/VarHandle" ∧ (parseMethodDescriptor yX5_copyOf.desc).map (fun d => d.parameters.length) = some 1 := by decide +kernel
set_option maxRecDepth 100000 in
set_option maxHeartbeats 4000000 in
theorem wX5_copyOf_10 (K : jK p s m args meth c A D vwCl (tyz cyI cyJ cyS) cX5_copyOf 3 RX5 wdX5_copyOf none) (a0 : Nat → Nat) (a1 : Nat → Nat)  (c1_size : Int32) (c1_sort : Nat → Int32) (c1_paid : Nat → Int32) (c1_wage : Nat → Int32) (o_size : Int32) (o_sort : Nat → Int32) (o_paid : Nat → Int32) (o_wage : Nat → Int32)   : ∀ (n : Nat) (c_size : Int32) (c_sort : Nat → Int32) (c_paid : Nat → Int32) (c_wage : Nat → Int32) (i2 : Int32), fX5_copyOf_10 c1_size c1_sort c1_paid c1_wage  n c_size c_sort c_paid c_wage i2 = some (o_size, o_sort, o_paid, o_wage) → jw p l e rmX5_copyOf s m args below meth c (jQ below args s A D vwCl (tyz cyI cyJ cyS) 0 0 none (uX5_copyOf cyI cyJ cyS a0 a1 o_size o_sort o_paid o_wage c1_size c1_sort c1_paid c1_wage)) A D vwCl 3 0 0 10 [(0, .ref (a0 0)), (1, .ref (a1 0)), (2, .int i2)] [] (uX5_copyOf cyI cyJ cyS a0 a1 c_size c_sort c_paid c_wage c1_size c1_sort c1_paid c1_wage) := by
  intro n
  induction n with
  | zero => intro c_size c_sort c_paid c_wage i2 h; cases h
  | succ n ih =>
    intro c_size c_sort c_paid c_wage i2 h
    have h : bX5_copyOf_10 c1_size c1_sort c1_paid c1_wage  (fX5_copyOf_10 c1_size c1_sort c1_paid c1_wage  n) c_size c_sort c_paid c_wage i2 = some (o_size, o_sort, o_paid, o_wage) := h
    unfold bX5_copyOf_10 at h
    refine j_iload_n K 2 rfl dX5_copyOf_10 rfl ?_
    refine j_bipush (v := (8 : Int32)) K (by decide) dX5_copyOf_11 rfl ?_
    refine j_icmp_ge (tgt := 58) K dX5_copyOf_13 (by decide) rfl h (fun h => ?_) (fun h => ?_)
    · obtain ⟨e1, g1⟩ := Prod.mk.inj (Option.some.inj h)
      subst e1
      obtain ⟨e2, g2⟩ := Prod.mk.inj g1
      subst e2
      obtain ⟨e3, g3⟩ := Prod.mk.inj g2
      subst e3
      subst g3
      exact j_vret K dX5_copyOf_58
    · refine j_aload_n K 0 rfl dX5_copyOf_16 rfl ?_
      refine j_getf (C := RX5) (T := TX5) (N := 4) (ci := 5) K icX5 0 0 (List.mem_cons_of_mem _ mw_3_9) rfl rfl rfl (by decide) rfl dX5_copyOf_17 rfl ?_
      refine j_iload_n K 2 rfl dX5_copyOf_20 rfl ?_
      refine j_aload_n K 1 rfl dX5_copyOf_21 rfl ?_
      refine j_getf (C := RX5) (T := TX5) (N := 4) (ci := 5) K icX5 4 0 (List.mem_cons_of_mem _ mw_3_9) rfl rfl rfl (by decide) rfl dX5_copyOf_22 rfl ?_
      refine j_iload_n K 2 rfl dX5_copyOf_25 rfl ?_
      refine j_iald K 5 0 rfl rfl dX5_copyOf_26 rfl h (fun v_1 h => ?_)
      refine j_iast K 1 0 (fun z => (uX5_copyOf cyI cyJ cyS a0 a1 c_size z c_paid c_wage c1_size c1_sort c1_paid c1_wage)) rfl rfl (fun _ => rfl) dX5_copyOf_27 rfl h (fun c_sort_2 h => ?_)
      refine j_aload_n K 0 rfl dX5_copyOf_28 rfl ?_
      refine j_getf (C := RX5) (T := TX5) (N := 4) (ci := 5) K icX5 0 1 (List.mem_cons_of_mem _ mw_3_10) rfl rfl rfl (by decide) rfl dX5_copyOf_29 rfl ?_
      refine j_iload_n K 2 rfl dX5_copyOf_32 rfl ?_
      refine j_aload_n K 1 rfl dX5_copyOf_33 rfl ?_
      refine j_getf (C := RX5) (T := TX5) (N := 4) (ci := 5) K icX5 4 1 (List.mem_cons_of_mem _ mw_3_10) rfl rfl rfl (by decide) rfl dX5_copyOf_34 rfl ?_
      refine j_iload_n K 2 rfl dX5_copyOf_37 rfl ?_
      refine j_iald K 6 0 rfl rfl dX5_copyOf_38 rfl h (fun v_3 h => ?_)
      refine j_iast K 2 0 (fun z => (uX5_copyOf cyI cyJ cyS a0 a1 c_size c_sort_2 z c_wage c1_size c1_sort c1_paid c1_wage)) rfl rfl (fun _ => rfl) dX5_copyOf_39 rfl h (fun c_paid_4 h => ?_)
      refine j_aload_n K 0 rfl dX5_copyOf_40 rfl ?_
      refine j_getf (C := RX5) (T := TX5) (N := 4) (ci := 5) K icX5 0 2 (List.mem_cons_of_mem _ mw_3_11) rfl rfl rfl (by decide) rfl dX5_copyOf_41 rfl ?_
      refine j_iload_n K 2 rfl dX5_copyOf_44 rfl ?_
      refine j_aload_n K 1 rfl dX5_copyOf_45 rfl ?_
      refine j_getf (C := RX5) (T := TX5) (N := 4) (ci := 5) K icX5 4 2 (List.mem_cons_of_mem _ mw_3_11) rfl rfl rfl (by decide) rfl dX5_copyOf_46 rfl ?_
      refine j_iload_n K 2 rfl dX5_copyOf_49 rfl ?_
      refine j_iald K 7 0 rfl rfl dX5_copyOf_50 rfl h (fun v_5 h => ?_)
      refine j_iast K 3 0 (fun z => (uX5_copyOf cyI cyJ cyS a0 a1 c_size c_sort_2 c_paid_4 z c1_size c1_sort c1_paid c1_wage)) rfl rfl (fun _ => rfl) dX5_copyOf_51 rfl h (fun c_wage_6 h => ?_)
      refine j_iincN (lf := fun z => [(2, .int z), (0, .ref (a0 0)), (1, .ref (a1 0))]) K (v := i2 + (1 : Int32)) (k := 2) rfl rfl (by decide) (fun _ => rfl) dX5_copyOf_52 rfl h (fun i2_7 h => ?_)
      refine j_goto (pc' := 10) K dX5_copyOf_55 (by decide) ?_
      refine j_sub [1, 2, 0] (lv' := [(0, .ref (a0 0)), (1, .ref (a1 0)), (2, .int i2_7)]) rfl ?_
      exact ih c_size c_sort_2 c_paid_4 c_wage_6 i2_7 h
set_option maxRecDepth 100000 in
set_option maxHeartbeats 4000000 in
theorem ctX5_copyOf (l : Launch) (D : va_G) (cyI cyJ cyS : ClassId) (a0 : Nat → Nat) (a1 : Nat → Nat) (c1_size : Int32) (c1_sort : Nat → Int32) (c1_paid : Nat → Int32) (c1_wage : Nat → Int32) (c_size : Int32) (c_sort : Nat → Int32) (c_paid : Nat → Int32) (c_wage : Nat → Int32) (o_size : Int32) (o_sort : Nat → Int32) (o_paid : Nat → Int32) (o_wage : Nat → Int32) (h : fX5_copyOf c1_size c1_sort c1_paid c1_wage c_size c_sort c_paid c_wage = some (o_size, o_sort, o_paid, o_wage)) : jC l yX5_copyOf wdX5_copyOf rmX5_copyOf D vwCl (tyz cyI cyJ cyS) [.ref (a0 0), .ref (a1 0)] (uX5_copyOf cyI cyJ cyS a0 a1 c_size c_sort c_paid c_wage c1_size c1_sort c1_paid c1_wage) none (uX5_copyOf cyI cyJ cyS a0 a1 o_size o_sort o_paid o_wage c1_size c1_sort c1_paid c1_wage) := by
  refine jC_of (cc := cX5_copyOf) (nL := 3) (ret := none) (own := RX5) (lv := [(0, .ref (a0 0)), (1, .ref (a1 0))]) (by decide) rfl rfl (Nat.le_of_ble_eq_true rfl) rfl ?_
  intro p e s m args below meth c A K
  unfold fX5_copyOf at h
  refine j_aload_n K 0 rfl dX5_copyOf_0 rfl ?_
  refine j_aload_n K 1 rfl dX5_copyOf_1 rfl ?_
  refine j_getf (C := RX5) (T := TX5) (N := 4) (ci := 5) K icX5 4 3 (List.mem_cons_of_mem _ mw_3_12) rfl rfl rfl (by decide) rfl dX5_copyOf_2 rfl ?_
  refine j_putf (C := RX5) (T := TX5) (N := 4) (ci := 5) (ty := .int) (ws' := (uX5_copyOf cyI cyJ cyS a0 a1 c1_size c_sort c_paid c_wage c1_size c1_sort c1_paid c1_wage)) K icX5 tyX5 tyX5_ok nmX5 0 3 (List.mem_cons_of_mem _ mw_3_12) rfl rfl rfl (by decide) rfl (by decide +kernel) rfl rfl (Nat.le_of_ble_eq_true rfl) rfl dX5_copyOf_5 rfl ?_
  refine j_iconst (v := (0 : Int32)) K (by decide) dX5_copyOf_8 rfl ?_
  refine j_istore_n (lv' := [(2, .int (0 : Int32)), (0, .ref (a0 0)), (1, .ref (a1 0))]) K (by decide) rfl dX5_copyOf_9 rfl ?_
  refine j_sub [1, 2, 0] (lv' := [(0, .ref (a0 0)), (1, .ref (a1 0)), (2, .int (0 : Int32))]) rfl ?_
  exact wX5_copyOf_10 K a0 a1 c1_size c1_sort c1_paid c1_wage o_size o_sort o_paid o_wage jF c1_size c_sort c_paid c_wage (0 : Int32) h
end GEN
