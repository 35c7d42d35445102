section GEN
variable {p : Program} {l : Launch} {e : Env} {s : State} {m : MethodId} {args : Array Value} {below : List Frame} {meth : Method} {c : Code} {A : Nat → Prop} {D : va_G} {cyI cyJ cyS : ClassId}
abbrev uX1_sortByLeft (cyI cyJ cyS : ClassId) (a0 : Nat → Nat) (c_size : Int32) (c_left : Nat → Int32) (c_order : Nat → Int32) : va_W := [((a0 0), .inr (1, [.int c_size, .ref (a0 1), .ref (a0 2), .ref (a0 3), .ref (a0 4), .ref (a0 5), .ref (a0 6), .ref (a0 7), .ref (a0 8), .ref (a0 9), .ref (a0 10), .ref (a0 11)])), ((a0 9), .inl (cyI, 8, .inl c_left)), ((a0 10), .inl (cyI, 8, .inl c_order))]
abbrev rmX1_sortByLeft : Room := { frames := 1, cells := 0, slots := 0, locals := 22 }
abbrev wdX1_sortByLeft : List Cond := .code yX1_sortByLeft cX1_sortByLeft 4 none :: wsL_law
theorem hyX1_sortByLeft : yX1_sortByLeft.cls = RX1 ∧ yX1_sortByLeft.cls ≠ "java/lang/invoke/MethodHandle" ∧ yX1_sortByLeft.cls ≠ "java/lang/invoke/VarHandle" ∧ (parseMethodDescriptor yX1_sortByLeft.desc).map (fun d => d.parameters.length) = some 0 := by decide +kernel
set_option maxRecDepth 100000 in
set_option maxHeartbeats 4000000 in
theorem wX1_sortByLeft_59 (K : jK p s m args meth c A D vwCl (tyz cyI cyJ cyS) cX1_sortByLeft 4 RX1 wdX1_sortByLeft none) (a0 : Nat → Nat)  (c_size : Int32) (c_left : Nat → Int32) (o_order : Nat → Int32)  (q_2 : (Nat → Int32) → Int32 → (Option ((Nat → Int32)))) (hq_2 : ∀ (c_order : Nat → Int32) (i1 : Int32), q_2 c_order i1 = some (o_order) → jw p l e rmX1_sortByLeft s m args below meth c (jQ below args s A D vwCl (tyz cyI cyJ cyS) 0 0 none (uX1_sortByLeft cyI cyJ cyS a0 c_size c_left o_order)) A D vwCl 4 0 0 2 [(0, .ref (a0 0)), (1, .int i1)] [] (uX1_sortByLeft cyI cyJ cyS a0 c_size c_left c_order)) : ∀ (c_order : Nat → Int32) (i1 : Int32) (i2 : Int32) (i3 : Int32), fX1_sortByLeft_59 c_size c_left q_2 c_order i1 i2 i3 = some (o_order) → jw p l e rmX1_sortByLeft s m args below meth c (jQ below args s A D vwCl (tyz cyI cyJ cyS) 0 0 none (uX1_sortByLeft cyI cyJ cyS a0 c_size c_left o_order)) A D vwCl 4 0 0 59 [(0, .ref (a0 0)), (1, .int i1), (2, .int i2), (3, .int i3)] [] (uX1_sortByLeft cyI cyJ cyS a0 c_size c_left c_order) := by
  intro c_order i1 i2 i3 h
  unfold fX1_sortByLeft_59 at h
  refine j_aload_n K 0 rfl dX1_sortByLeft_59 rfl ?_
  refine j_getf (C := RX1) (T := TX1) (N := 12) (ci := 1) K icX1 0 10 (List.mem_cons_of_mem _ mw_4_16) rfl rfl rfl (by decide) rfl dX1_sortByLeft_60 rfl ?_
  refine j_iload_n K 3 rfl dX1_sortByLeft_63 rfl ?_
  refine j_iload_n K 2 rfl dX1_sortByLeft_64 rfl ?_
  refine j_iast K 2 0 (fun z => (uX1_sortByLeft cyI cyJ cyS a0 c_size c_left z)) rfl rfl (fun _ => rfl) dX1_sortByLeft_65 rfl h (fun c_order_2 h => ?_)
  refine j_iincN (lf := fun z => [(1, .int z), (0, .ref (a0 0)), (2, .int i2), (3, .int i3)]) K (v := i1 + (1 : Int32)) (k := 1) rfl rfl (by decide) (fun _ => rfl) dX1_sortByLeft_66 rfl h (fun i1_3 h => ?_)
  refine j_goto (pc' := 2) K dX1_sortByLeft_69 (by decide) ?_
  refine j_sub [1, 0] (lv' := [(0, .ref (a0 0)), (1, .int i1_3)]) rfl ?_
  exact hq_2 c_order_2 i1_3 h
set_option maxRecDepth 100000 in
set_option maxHeartbeats 4000000 in
theorem wX1_sortByLeft_19 (K : jK p s m args meth c A D vwCl (tyz cyI cyJ cyS) cX1_sortByLeft 4 RX1 wdX1_sortByLeft none) (a0 : Nat → Nat)  (c_size : Int32) (c_left : Nat → Int32) (o_order : Nat → Int32)  (q_2 : (Nat → Int32) → Int32 → (Option ((Nat → Int32)))) (hq_2 : ∀ (c_order : Nat → Int32) (i1 : Int32), q_2 c_order i1 = some (o_order) → jw p l e rmX1_sortByLeft s m args below meth c (jQ below args s A D vwCl (tyz cyI cyJ cyS) 0 0 none (uX1_sortByLeft cyI cyJ cyS a0 c_size c_left o_order)) A D vwCl 4 0 0 2 [(0, .ref (a0 0)), (1, .int i1)] [] (uX1_sortByLeft cyI cyJ cyS a0 c_size c_left c_order)) : ∀ (n : Nat) (c_order : Nat → Int32) (i1 : Int32) (i2 : Int32) (i3 : Int32), fX1_sortByLeft_19 c_size c_left q_2 n c_order i1 i2 i3 = some (o_order) → jw p l e rmX1_sortByLeft s m args below meth c (jQ below args s A D vwCl (tyz cyI cyJ cyS) 0 0 none (uX1_sortByLeft cyI cyJ cyS a0 c_size c_left o_order)) A D vwCl 4 0 0 19 [(0, .ref (a0 0)), (1, .int i1), (2, .int i2), (3, .int i3)] [] (uX1_sortByLeft cyI cyJ cyS a0 c_size c_left c_order) := by
  intro n
  induction n with
  | zero => intro c_order i1 i2 i3 h; cases h
  | succ n ih =>
    intro c_order i1 i2 i3 h
    have h : bX1_sortByLeft_19 c_size c_left q_2 (fX1_sortByLeft_19 c_size c_left q_2 n) c_order i1 i2 i3 = some (o_order) := h
    unfold bX1_sortByLeft_19 at h
    refine j_iload_n K 3 rfl dX1_sortByLeft_19 rfl ?_
    refine j_if_le (tgt := 59) K dX1_sortByLeft_20 (by decide) rfl h (fun h => ?_) (fun h => ?_)
    · refine j_sub [0, 1, 2, 3] (lv' := [(0, .ref (a0 0)), (1, .int i1), (2, .int i2), (3, .int i3)]) rfl ?_
      exact wX1_sortByLeft_59 K a0 c_size c_left o_order q_2 hq_2 c_order i1 i2 i3 h
    · refine j_aload_n K 0 rfl dX1_sortByLeft_23 rfl ?_
      refine j_iload_n K 2 rfl dX1_sortByLeft_24 rfl ?_
      refine j_aload_n K 0 rfl dX1_sortByLeft_25 rfl ?_
      refine j_getf (C := RX1) (T := TX1) (N := 12) (ci := 1) K icX1 0 10 (List.mem_cons_of_mem _ mw_4_16) rfl rfl rfl (by decide) rfl dX1_sortByLeft_26 rfl ?_
      refine j_iload_n K 3 rfl dX1_sortByLeft_29 rfl ?_
      refine j_iconst (v := (1 : Int32)) K (by decide) dX1_sortByLeft_30 rfl ?_
      refine j_isub K dX1_sortByLeft_31 rfl ?_
      refine j_iald K 2 0 rfl rfl dX1_sortByLeft_32 rfl h (fun v_4 h => ?_)
      obtain ⟨r_5, hc, h⟩ := bd1_some h
      refine j_callV (rest := []) (st1 := [.int r_5]) (ws' := (uX1_sortByLeft cyI cyJ cyS a0 c_size c_left c_order)) (T := TX1) (N := 12) (ci := 1) K (ctX1_isAhead l D cyI cyJ cyS a0 i2 v_4 c_size c_left r_5 hc) (gdV mcL mw_15_2 mw_15_3 mw_15_4 mw_2_7 mw_15_5) rfl ⟨rfl, rfl⟩ hyX1_isAhead ⟨Nat.le_of_ble_eq_true rfl, Nat.le_of_ble_eq_true rfl, Nat.le_of_ble_eq_true rfl, Nat.le_of_ble_eq_true rfl⟩ [0, 1] (by decide) rfl [some 0, some 1, none] (by decide) rfl rfl 0 rfl rfl rfl rfl (Nat.le_of_ble_eq_true rfl) dX1_sortByLeft_33 rfl rfl ?_
      refine j_if_eq (tgt := 59) K dX1_sortByLeft_36 (by decide) rfl h (fun h => ?_) (fun h => ?_)
      · refine j_sub [0, 1, 2, 3] (lv' := [(0, .ref (a0 0)), (1, .int i1), (2, .int i2), (3, .int i3)]) rfl ?_
        exact wX1_sortByLeft_59 K a0 c_size c_left o_order q_2 hq_2 c_order i1 i2 i3 h
      · refine j_aload_n K 0 rfl dX1_sortByLeft_39 rfl ?_
        refine j_getf (C := RX1) (T := TX1) (N := 12) (ci := 1) K icX1 0 10 (List.mem_cons_of_mem _ mw_4_16) rfl rfl rfl (by decide) rfl dX1_sortByLeft_40 rfl ?_
        refine j_iload_n K 3 rfl dX1_sortByLeft_43 rfl ?_
        refine j_aload_n K 0 rfl dX1_sortByLeft_44 rfl ?_
        refine j_getf (C := RX1) (T := TX1) (N := 12) (ci := 1) K icX1 0 10 (List.mem_cons_of_mem _ mw_4_16) rfl rfl rfl (by decide) rfl dX1_sortByLeft_45 rfl ?_
        refine j_iload_n K 3 rfl dX1_sortByLeft_48 rfl ?_
        refine j_iconst (v := (1 : Int32)) K (by decide) dX1_sortByLeft_49 rfl ?_
        refine j_isub K dX1_sortByLeft_50 rfl ?_
        refine j_iald K 2 0 rfl rfl dX1_sortByLeft_51 rfl h (fun v_6 h => ?_)
        refine j_iast K 2 0 (fun z => (uX1_sortByLeft cyI cyJ cyS a0 c_size c_left z)) rfl rfl (fun _ => rfl) dX1_sortByLeft_52 rfl h (fun c_order_7 h => ?_)
        refine j_iincN (lf := fun z => [(3, .int z), (0, .ref (a0 0)), (1, .int i1), (2, .int i2)]) K (v := i3 + (-1 : Int32)) (k := 3) rfl (congrArg (fun z => i3 + z) (by decide)) (by decide) (fun _ => rfl) dX1_sortByLeft_53 rfl h (fun i3_8 h => ?_)
        refine j_goto (pc' := 19) K dX1_sortByLeft_56 (by decide) ?_
        refine j_sub [1, 2, 3, 0] (lv' := [(0, .ref (a0 0)), (1, .int i1), (2, .int i2), (3, .int i3_8)]) rfl ?_
        exact ih c_order_7 i1 i2 i3_8 h
set_option maxRecDepth 100000 in
set_option maxHeartbeats 4000000 in
theorem wX1_sortByLeft_2 (K : jK p s m args meth c A D vwCl (tyz cyI cyJ cyS) cX1_sortByLeft 4 RX1 wdX1_sortByLeft none) (a0 : Nat → Nat)  (c_size : Int32) (c_left : Nat → Int32) (o_order : Nat → Int32)   : ∀ (n : Nat) (c_order : Nat → Int32) (i1 : Int32), fX1_sortByLeft_2 c_size c_left  n c_order i1 = some (o_order) → jw p l e rmX1_sortByLeft s m args below meth c (jQ below args s A D vwCl (tyz cyI cyJ cyS) 0 0 none (uX1_sortByLeft cyI cyJ cyS a0 c_size c_left o_order)) A D vwCl 4 0 0 2 [(0, .ref (a0 0)), (1, .int i1)] [] (uX1_sortByLeft cyI cyJ cyS a0 c_size c_left c_order) := by
  intro n
  induction n with
  | zero => intro c_order i1 h; cases h
  | succ n ih =>
    intro c_order i1 h
    have h : bX1_sortByLeft_2 c_size c_left  (fX1_sortByLeft_2 c_size c_left  n) c_order i1 = some (o_order) := h
    unfold bX1_sortByLeft_2 at h
    refine j_iload_n K 1 rfl dX1_sortByLeft_2 rfl ?_
    refine j_aload_n K 0 rfl dX1_sortByLeft_3 rfl ?_
    refine j_getf (C := RX1) (T := TX1) (N := 12) (ci := 1) K icX1 0 0 (List.mem_cons_of_mem _ mw_4_6) rfl rfl rfl (by decide) rfl dX1_sortByLeft_4 rfl ?_
    refine j_icmp_ge (tgt := 72) K dX1_sortByLeft_7 (by decide) rfl h (fun h => ?_) (fun h => ?_)
    · have h := Option.some.inj h
      subst h
      exact j_vret K dX1_sortByLeft_72
    · refine j_aload_n K 0 rfl dX1_sortByLeft_10 rfl ?_
      refine j_getf (C := RX1) (T := TX1) (N := 12) (ci := 1) K icX1 0 10 (List.mem_cons_of_mem _ mw_4_16) rfl rfl rfl (by decide) rfl dX1_sortByLeft_11 rfl ?_
      refine j_iload_n K 1 rfl dX1_sortByLeft_14 rfl ?_
      refine j_iald K 2 0 rfl rfl dX1_sortByLeft_15 rfl h (fun v_1 h => ?_)
      refine j_istore_n (lv' := [(2, .int v_1), (0, .ref (a0 0)), (1, .int i1)]) K (by decide) rfl dX1_sortByLeft_16 rfl ?_
      refine j_iload_n K 2 rfl dX1_sortByLeft_17 rfl ?_
      refine j_istore_n (lv' := [(3, .int i1), (2, .int v_1), (0, .ref (a0 0)), (1, .int i1)]) K (by decide) rfl dX1_sortByLeft_18 rfl ?_
      refine j_sub [2, 3, 1, 0] (lv' := [(0, .ref (a0 0)), (1, .int i1), (2, .int v_1), (3, .int i1)]) rfl ?_
      exact wX1_sortByLeft_19 K a0 c_size c_left o_order (fX1_sortByLeft_2 c_size c_left n) (fun z0 z1 hq => ih z0 z1 hq) jF c_order i1 v_1 i1 h
set_option maxRecDepth 100000 in
set_option maxHeartbeats 4000000 in
theorem ctX1_sortByLeft (l : Launch) (D : va_G) (cyI cyJ cyS : ClassId) (a0 : Nat → Nat) (c_size : Int32) (c_left : Nat → Int32) (c_order : Nat → Int32) (o_order : Nat → Int32) (h : fX1_sortByLeft c_size c_left c_order = some (o_order)) : jC l yX1_sortByLeft wdX1_sortByLeft rmX1_sortByLeft D vwCl (tyz cyI cyJ cyS) [.ref (a0 0)] (uX1_sortByLeft cyI cyJ cyS a0 c_size c_left c_order) none (uX1_sortByLeft cyI cyJ cyS a0 c_size c_left o_order) := by
  refine jC_of (cc := cX1_sortByLeft) (nL := 4) (ret := none) (own := RX1) (lv := [(0, .ref (a0 0))]) (by decide) rfl rfl (Nat.le_of_ble_eq_true rfl) rfl ?_
  intro p e s m args below meth c A K
  unfold fX1_sortByLeft at h
  refine j_iconst (v := (1 : Int32)) K (by decide) dX1_sortByLeft_0 rfl ?_
  refine j_istore_n (lv' := [(1, .int (1 : Int32)), (0, .ref (a0 0))]) K (by decide) rfl dX1_sortByLeft_1 rfl ?_
  refine j_sub [1, 0] (lv' := [(0, .ref (a0 0)), (1, .int (1 : Int32))]) rfl ?_
  exact wX1_sortByLeft_2 K a0 c_size c_left o_order jF c_order (1 : Int32) h
abbrev uX1_run (cyI cyJ cyS : ClassId) (a0 : Nat → Nat) (a1 : Nat → Nat) (a2 : Nat → Nat) (c_size : Int32) (c_settled : Nat → Int32) (c_falls : Nat → Int32) (c_passed : Nat → Int32) (c_floors : Nat → Int32) (c_lefts : Nat → Int32) (c_fallers : Nat → Int32) (c_floor : Nat → Int32) (c_before : Nat → Int32) (c_left : Nat → Int32) (c_order : Nat → Int32) (c_taken : Nat → Int32) (c1_size : Int32) (c1_sort : Nat → Int32) (c1_paid : Nat → Int32) (c1_wage : Nat → Int32) (c2_size : Int32) (c2_kind : Nat → Int32) (c2_month : Nat → Int32) (c2_number : Nat → Int32) : va_W := [((a0 0), .inr (1, [.int c_size, .ref (a0 1), .ref (a0 2), .ref (a0 3), .ref (a0 4), .ref (a0 5), .ref (a0 6), .ref (a0 7), .ref (a0 8), .ref (a0 9), .ref (a0 10), .ref (a0 11)])), ((a0 1), .inl (cyI, 8, .inl c_settled)), ((a0 2), .inl (cyI, 8, .inl c_falls)), ((a0 3), .inl (cyI, 8, .inl c_passed)), ((a0 4), .inl (cyI, 192, .inl c_floors)), ((a0 5), .inl (cyI, 192, .inl c_lefts)), ((a0 6), .inl (cyI, 24, .inl c_fallers)), ((a0 7), .inl (cyI, 8, .inl c_floor)), ((a0 8), .inl (cyI, 8, .inl c_before)), ((a0 9), .inl (cyI, 8, .inl c_left)), ((a0 10), .inl (cyI, 8, .inl c_order)), ((a0 11), .inl (cyI, 13, .inl c_taken)), ((a1 0), .inr (5, [.ref (a1 1), .ref (a1 2), .ref (a1 3), .int c1_size])), ((a1 1), .inl (cyI, 8, .inl c1_sort)), ((a1 2), .inl (cyI, 8, .inl c1_paid)), ((a1 3), .inl (cyI, 8, .inl c1_wage)), ((a2 0), .inr (2, [.ref (a2 1), .ref (a2 2), .ref (a2 3), .int c2_size])), ((a2 1), .inl (cyI, 8, .inl c2_kind)), ((a2 2), .inl (cyI, 8, .inl c2_month)), ((a2 3), .inl (cyI, 8, .inl c2_number))]
abbrev rmX1_run : Room := { frames := 3, cells := 0, slots := 0, locals := 69 }
abbrev wdX1_run : List Cond := .code yX1_run cX1_run 8 none :: wsL_law
theorem hyX1_run : yX1_run.cls = RX1 ∧ yX1_run.cls ≠ "java/lang/invoke/MethodHandle" ∧ yX1_run.cls ≠ "java/lang/invoke/VarHandle" ∧ (parseMethodDescriptor yX1_run.desc).map (fun d => d.parameters.length) = some 4 := by decide +kernel
set_option maxRecDepth 100000 in
set_option maxHeartbeats 4000000 in
theorem wX1_run_97 (K : jK p s m args meth c A D vwCl (tyz cyI cyJ cyS) cX1_run 8 RX1 wdX1_run none) (a0 : Nat → Nat) (a1 : Nat → Nat) (a2 : Nat → Nat)  (i3 : Int32) (i4 : Int32) (c1_size : Int32) (c1_sort : Nat → Int32) (c1_paid : Nat → Int32) (c1_wage : Nat → Int32) (c2_size : Int32) (c2_kind : Nat → Int32) (c2_month : Nat → Int32) (c2_number : Nat → Int32) (o_size : Int32) (o_settled : Nat → Int32) (o_falls : Nat → Int32) (o_passed : Nat → Int32) (o_floors : Nat → Int32) (o_lefts : Nat → Int32) (o_fallers : Nat → Int32) (o_floor : Nat → Int32) (o_before : Nat → Int32) (o_left : Nat → Int32) (o_order : Nat → Int32) (o_taken : Nat → Int32)  (q_8 : Int32 → (Nat → Int32) → (Nat → Int32) → (Nat → Int32) → (Nat → Int32) → (Nat → Int32) → (Nat → Int32) → (Nat → Int32) → (Nat → Int32) → (Nat → Int32) → (Nat → Int32) → (Nat → Int32) → Int32 → (Option (Int32 × (Nat → Int32) × (Nat → Int32) × (Nat → Int32) × (Nat → Int32) × (Nat → Int32) × (Nat → Int32) × (Nat → Int32) × (Nat → Int32) × (Nat → Int32) × (Nat → Int32) × (Nat → Int32)))) (q_28 : Int32 → (Nat → Int32) → (Nat → Int32) → (Nat → Int32) → (Nat → Int32) → (Nat → Int32) → (Nat → Int32) → (Nat → Int32) → (Nat → Int32) → (Nat → Int32) → (Nat → Int32) → (Nat → Int32) → Int32 → Int32 → Int32 → (Option (Int32 × (Nat → Int32) × (Nat → Int32) × (Nat → Int32) × (Nat → Int32) × (Nat → Int32) × (Nat → Int32) × (Nat → Int32) × (Nat → Int32) × (Nat → Int32) × (Nat → Int32) × (Nat → Int32)))) (hq_8 : ∀ (c_size : Int32) (c_settled : Nat → Int32) (c_falls : Nat → Int32) (c_passed : Nat → Int32) (c_floors : Nat → Int32) (c_lefts : Nat → Int32) (c_fallers : Nat → Int32) (c_floor : Nat → Int32) (c_before : Nat → Int32) (c_left : Nat → Int32) (c_order : Nat → Int32) (c_taken : Nat → Int32) (i5 : Int32), q_8 c_size c_settled c_falls c_passed c_floors c_lefts c_fallers c_floor c_before c_left c_order c_taken i5 = some (o_size, o_settled, o_falls, o_passed, o_floors, o_lefts, o_fallers, o_floor, o_before, o_left, o_order, o_taken) → jw p l e rmX1_run s m args below meth c (jQ below args s A D vwCl (tyz cyI cyJ cyS) 0 0 none (uX1_run cyI cyJ cyS a0 a1 a2 o_size o_settled o_falls o_passed o_floors o_lefts o_fallers o_floor o_before o_left o_order o_taken c1_size c1_sort c1_paid c1_wage c2_size c2_kind c2_month c2_number)) A D vwCl 8 0 0 8 [(0, .ref (a0 0)), (1, .ref (a1 0)), (2, .ref (a2 0)), (3, .int i3), (4, .int i4), (5, .int i5)] [] (uX1_run cyI cyJ cyS a0 a1 a2 c_size c_settled c_falls c_passed c_floors c_lefts c_fallers c_floor c_before c_left c_order c_taken c1_size c1_sort c1_paid c1_wage c2_size c2_kind c2_month c2_number)) (hq_28 : ∀ (c_size : Int32) (c_settled : Nat → Int32) (c_falls : Nat → Int32) (c_passed : Nat → Int32) (c_floors : Nat → Int32) (c_lefts : Nat → Int32) (c_fallers : Nat → Int32) (c_floor : Nat → Int32) (c_before : Nat → Int32) (c_left : Nat → Int32) (c_order : Nat → Int32) (c_taken : Nat → Int32) (i5 : Int32) (i6 : Int32) (i7 : Int32), q_28 c_size c_settled c_falls c_passed c_floors c_lefts c_fallers c_floor c_before c_left c_order c_taken i5 i6 i7 = some (o_size, o_settled, o_falls, o_passed, o_floors, o_lefts, o_fallers, o_floor, o_before, o_left, o_order, o_taken) → jw p l e rmX1_run s m args below meth c (jQ below args s A D vwCl (tyz cyI cyJ cyS) 0 0 none (uX1_run cyI cyJ cyS a0 a1 a2 o_size o_settled o_falls o_passed o_floors o_lefts o_fallers o_floor o_before o_left o_order o_taken c1_size c1_sort c1_paid c1_wage c2_size c2_kind c2_month c2_number)) A D vwCl 8 0 0 28 [(0, .ref (a0 0)), (1, .ref (a1 0)), (2, .ref (a2 0)), (3, .int i3), (4, .int i4), (5, .int i5), (6, .int i6), (7, .int i7)] [] (uX1_run cyI cyJ cyS a0 a1 a2 c_size c_settled c_falls c_passed c_floors c_lefts c_fallers c_floor c_before c_left c_order c_taken c1_size c1_sort c1_paid c1_wage c2_size c2_kind c2_month c2_number)) : ∀ (c_size : Int32) (c_settled : Nat → Int32) (c_falls : Nat → Int32) (c_passed : Nat → Int32) (c_floors : Nat → Int32) (c_lefts : Nat → Int32) (c_fallers : Nat → Int32) (c_floor : Nat → Int32) (c_before : Nat → Int32) (c_left : Nat → Int32) (c_order : Nat → Int32) (c_taken : Nat → Int32) (i5 : Int32) (i6 : Int32) (i7 : Int32), fX1_run_97 i3 i4 c1_size c1_sort c1_paid c1_wage c2_size c2_kind c2_month c2_number q_8 q_28 c_size c_settled c_falls c_passed c_floors c_lefts c_fallers c_floor c_before c_left c_order c_taken i5 i6 i7 = some (o_size, o_settled, o_falls, o_passed, o_floors, o_lefts, o_fallers, o_floor, o_before, o_left, o_order, o_taken) → jw p l e rmX1_run s m args below meth c (jQ below args s A D vwCl (tyz cyI cyJ cyS) 0 0 none (uX1_run cyI cyJ cyS a0 a1 a2 o_size o_settled o_falls o_passed o_floors o_lefts o_fallers o_floor o_before o_left o_order o_taken c1_size c1_sort c1_paid c1_wage c2_size c2_kind c2_month c2_number)) A D vwCl 8 0 0 97 [(0, .ref (a0 0)), (1, .ref (a1 0)), (2, .ref (a2 0)), (3, .int i3), (4, .int i4), (5, .int i5), (6, .int i6), (7, .int i7)] [] (uX1_run cyI cyJ cyS a0 a1 a2 c_size c_settled c_falls c_passed c_floors c_lefts c_fallers c_floor c_before c_left c_order c_taken c1_size c1_sort c1_paid c1_wage c2_size c2_kind c2_month c2_number) := by
  intro c_size c_settled c_falls c_passed c_floors c_lefts c_fallers c_floor c_before c_left c_order c_taken i5 i6 i7 h
  unfold fX1_run_97 at h
  refine j_iincN (lf := fun z => [(7, .int z), (0, .ref (a0 0)), (1, .ref (a1 0)), (2, .ref (a2 0)), (3, .int i3), (4, .int i4), (5, .int i5), (6, .int i6)]) K (v := i7 + (1 : Int32)) (k := 7) rfl rfl (by decide) (fun _ => rfl) dX1_run_97 rfl h (fun i7_22 h => ?_)
  refine j_goto (pc' := 28) K dX1_run_100 (by decide) ?_
  refine j_sub [1, 2, 3, 4, 5, 6, 7, 0] (lv' := [(0, .ref (a0 0)), (1, .ref (a1 0)), (2, .ref (a2 0)), (3, .int i3), (4, .int i4), (5, .int i5), (6, .int i6), (7, .int i7_22)]) rfl ?_
  exact hq_28 c_size c_settled c_falls c_passed c_floors c_lefts c_fallers c_floor c_before c_left c_order c_taken i5 i6 i7_22 h
set_option maxRecDepth 100000 in
set_option maxHeartbeats 4000000 in
theorem wX1_run_28 (K : jK p s m args meth c A D vwCl (tyz cyI cyJ cyS) cX1_run 8 RX1 wdX1_run none) (a0 : Nat → Nat) (a1 : Nat → Nat) (a2 : Nat → Nat)  (i3 : Int32) (i4 : Int32) (c1_size : Int32) (c1_sort : Nat → Int32) (c1_paid : Nat → Int32) (c1_wage : Nat → Int32) (c2_size : Int32) (c2_kind : Nat → Int32) (c2_month : Nat → Int32) (c2_number : Nat → Int32) (o_size : Int32) (o_settled : Nat → Int32) (o_falls : Nat → Int32) (o_passed : Nat → Int32) (o_floors : Nat → Int32) (o_lefts : Nat → Int32) (o_fallers : Nat → Int32) (o_floor : Nat → Int32) (o_before : Nat → Int32) (o_left : Nat → Int32) (o_order : Nat → Int32) (o_taken : Nat → Int32)  (q_8 : Int32 → (Nat → Int32) → (Nat → Int32) → (Nat → Int32) → (Nat → Int32) → (Nat → Int32) → (Nat → Int32) → (Nat → Int32) → (Nat → Int32) → (Nat → Int32) → (Nat → Int32) → (Nat → Int32) → Int32 → (Option (Int32 × (Nat → Int32) × (Nat → Int32) × (Nat → Int32) × (Nat → Int32) × (Nat → Int32) × (Nat → Int32) × (Nat → Int32) × (Nat → Int32) × (Nat → Int32) × (Nat → Int32) × (Nat → Int32)))) (hq_8 : ∀ (c_size : Int32) (c_settled : Nat → Int32) (c_falls : Nat → Int32) (c_passed : Nat → Int32) (c_floors : Nat → Int32) (c_lefts : Nat → Int32) (c_fallers : Nat → Int32) (c_floor : Nat → Int32) (c_before : Nat → Int32) (c_left : Nat → Int32) (c_order : Nat → Int32) (c_taken : Nat → Int32) (i5 : Int32), q_8 c_size c_settled c_falls c_passed c_floors c_lefts c_fallers c_floor c_before c_left c_order c_taken i5 = some (o_size, o_settled, o_falls, o_passed, o_floors, o_lefts, o_fallers, o_floor, o_before, o_left, o_order, o_taken) → jw p l e rmX1_run s m args below meth c (jQ below args s A D vwCl (tyz cyI cyJ cyS) 0 0 none (uX1_run cyI cyJ cyS a0 a1 a2 o_size o_settled o_falls o_passed o_floors o_lefts o_fallers o_floor o_before o_left o_order o_taken c1_size c1_sort c1_paid c1_wage c2_size c2_kind c2_month c2_number)) A D vwCl 8 0 0 8 [(0, .ref (a0 0)), (1, .ref (a1 0)), (2, .ref (a2 0)), (3, .int i3), (4, .int i4), (5, .int i5)] [] (uX1_run cyI cyJ cyS a0 a1 a2 c_size c_settled c_falls c_passed c_floors c_lefts c_fallers c_floor c_before c_left c_order c_taken c1_size c1_sort c1_paid c1_wage c2_size c2_kind c2_month c2_number)) : ∀ (n : Nat) (c_size : Int32) (c_settled : Nat → Int32) (c_falls : Nat → Int32) (c_passed : Nat → Int32) (c_floors : Nat → Int32) (c_lefts : Nat → Int32) (c_fallers : Nat → Int32) (c_floor : Nat → Int32) (c_before : Nat → Int32) (c_left : Nat → Int32) (c_order : Nat → Int32) (c_taken : Nat → Int32) (i5 : Int32) (i6 : Int32) (i7 : Int32), fX1_run_28 i3 i4 c1_size c1_sort c1_paid c1_wage c2_size c2_kind c2_month c2_number q_8 n c_size c_settled c_falls c_passed c_floors c_lefts c_fallers c_floor c_before c_left c_order c_taken i5 i6 i7 = some (o_size, o_settled, o_falls, o_passed, o_floors, o_lefts, o_fallers, o_floor, o_before, o_left, o_order, o_taken) → jw p l e rmX1_run s m args below meth c (jQ below args s A D vwCl (tyz cyI cyJ cyS) 0 0 none (uX1_run cyI cyJ cyS a0 a1 a2 o_size o_settled o_falls o_passed o_floors o_lefts o_fallers o_floor o_before o_left o_order o_taken c1_size c1_sort c1_paid c1_wage c2_size c2_kind c2_month c2_number)) A D vwCl 8 0 0 28 [(0, .ref (a0 0)), (1, .ref (a1 0)), (2, .ref (a2 0)), (3, .int i3), (4, .int i4), (5, .int i5), (6, .int i6), (7, .int i7)] [] (uX1_run cyI cyJ cyS a0 a1 a2 c_size c_settled c_falls c_passed c_floors c_lefts c_fallers c_floor c_before c_left c_order c_taken c1_size c1_sort c1_paid c1_wage c2_size c2_kind c2_month c2_number) := by
  intro n
  induction n with
  | zero => intro c_size c_settled c_falls c_passed c_floors c_lefts c_fallers c_floor c_before c_left c_order c_taken i5 i6 i7 h; cases h
  | succ n ih =>
    intro c_size c_settled c_falls c_passed c_floors c_lefts c_fallers c_floor c_before c_left c_order c_taken i5 i6 i7 h
    have h : bX1_run_28 i3 i4 c1_size c1_sort c1_paid c1_wage c2_size c2_kind c2_month c2_number q_8 (fX1_run_28 i3 i4 c1_size c1_sort c1_paid c1_wage c2_size c2_kind c2_month c2_number q_8 n) c_size c_settled c_falls c_passed c_floors c_lefts c_fallers c_floor c_before c_left c_order c_taken i5 i6 i7 = some (o_size, o_settled, o_falls, o_passed, o_floors, o_lefts, o_fallers, o_floor, o_before, o_left, o_order, o_taken) := h
    unfold bX1_run_28 at h
    refine j_iload K 7 rfl dX1_run_28 rfl ?_
    refine j_aload_n K 0 rfl dX1_run_30 rfl ?_
    refine j_getf (C := RX1) (T := TX1) (N := 12) (ci := 1) K icX1 0 0 (List.mem_cons_of_mem _ mw_4_6) rfl rfl rfl (by decide) rfl dX1_run_31 rfl ?_
    refine j_icmp_ge (tgt := 103) K dX1_run_34 (by decide) rfl h (fun h => ?_) (fun h => ?_)
    · refine j_aload_n K 0 rfl dX1_run_103 rfl ?_
      obtain ⟨c_order_10, hc, h⟩ := bd1_some h
      refine j_callV (rest := []) (st1 := []) (ws' := (uX1_run cyI cyJ cyS a0 a1 a2 c_size c_settled c_falls c_passed c_floors c_lefts c_fallers c_floor c_before c_left c_order_10 c_taken c1_size c1_sort c1_paid c1_wage c2_size c2_kind c2_month c2_number)) (T := TX1) (N := 12) (ci := 1) K (ctX1_sortByLeft l D cyI cyJ cyS a0 c_size c_left c_order c_order_10 hc) (gdV mcL mw_14_22 mw_14_23 mw_15_0 mw_2_7 mw_15_1) rfl ⟨rfl, rfl⟩ hyX1_sortByLeft ⟨Nat.le_of_ble_eq_true rfl, Nat.le_of_ble_eq_true rfl, Nat.le_of_ble_eq_true rfl, Nat.le_of_ble_eq_true rfl⟩ [0, 9, 10] (by decide) rfl [some 0, none, none, none, none, none, none, none, none, some 1, some 2, none, none, none, none, none, none, none, none, none] (by decide) rfl rfl 0 rfl rfl rfl rfl (Nat.le_of_ble_eq_true rfl) dX1_run_104 rfl rfl ?_
      refine j_aload_n K 0 rfl dX1_run_107 rfl ?_
      refine j_iload K 4 rfl dX1_run_108 rfl ?_
      refine j_iload K 6 rfl dX1_run_110 rfl ?_
      obtain ⟨c_floor_11, c_taken_12, hc, h⟩ := bd2_some h
      refine j_callV (rest := []) (st1 := []) (ws' := (uX1_run cyI cyJ cyS a0 a1 a2 c_size c_settled c_falls c_passed c_floors c_lefts c_fallers c_floor_11 c_before c_left c_order_10 c_taken_12 c1_size c1_sort c1_paid c1_wage c2_size c2_kind c2_month c2_number)) (T := TX1) (N := 12) (ci := 1) K (ctX1_giveFloors l D cyI cyJ cyS a0 i4 i6 c_size c_left c_order_10 c_floor c_taken c_floor_11 c_taken_12 hc) (gdV mcL mw_15_6 mw_15_7 mw_15_8 mw_2_7 mw_15_9) rfl ⟨rfl, rfl⟩ hyX1_giveFloors ⟨Nat.le_of_ble_eq_true rfl, Nat.le_of_ble_eq_true rfl, Nat.le_of_ble_eq_true rfl, Nat.le_of_ble_eq_true rfl⟩ [0, 7, 9, 10, 11] (by decide) rfl [some 0, none, none, none, none, none, none, some 1, none, some 2, some 3, some 4, none, none, none, none, none, none, none, none] (by decide) rfl rfl 0 rfl rfl rfl rfl (Nat.le_of_ble_eq_true rfl) dX1_run_112 rfl rfl ?_
      refine j_aload_n K 0 rfl dX1_run_115 rfl ?_
      refine j_iload K 5 rfl dX1_run_116 rfl ?_
      obtain ⟨c_falls_13, c_passed_14, c_fallers_15, hc, h⟩ := bd3_some h
      refine j_callV (rest := []) (st1 := []) (ws' := (uX1_run cyI cyJ cyS a0 a1 a2 c_size c_settled c_falls_13 c_passed_14 c_floors c_lefts c_fallers_15 c_floor_11 c_before c_left c_order_10 c_taken_12 c1_size c1_sort c1_paid c1_wage c2_size c2_kind c2_month c2_number)) (T := TX1) (N := 12) (ci := 1) K (ctX1_countFalls l D cyI cyJ cyS a0 i5 c_size c_floor_11 c_before c_falls c_passed c_fallers c_falls_13 c_passed_14 c_fallers_15 hc) (gdV mcL mw_15_22 mw_15_23 mw_16_0 mw_2_7 mw_16_1) rfl ⟨rfl, rfl⟩ hyX1_countFalls ⟨Nat.le_of_ble_eq_true rfl, Nat.le_of_ble_eq_true rfl, Nat.le_of_ble_eq_true rfl, Nat.le_of_ble_eq_true rfl⟩ [0, 2, 3, 6, 7, 8] (by decide) rfl [some 0, none, some 1, some 2, none, none, some 3, some 4, some 5, none, none, none, none, none, none, none, none, none, none, none] (by decide) rfl rfl 0 rfl rfl rfl rfl (Nat.le_of_ble_eq_true rfl) dX1_run_118 rfl rfl ?_
      refine j_aload_n K 0 rfl dX1_run_121 rfl ?_
      refine j_iload K 5 rfl dX1_run_122 rfl ?_
      obtain ⟨c_floors_16, c_lefts_17, hc, h⟩ := bd2_some h
      refine j_callV (rest := []) (st1 := []) (ws' := (uX1_run cyI cyJ cyS a0 a1 a2 c_size c_settled c_falls_13 c_passed_14 c_floors_16 c_lefts_17 c_fallers_15 c_floor_11 c_before c_left c_order_10 c_taken_12 c1_size c1_sort c1_paid c1_wage c2_size c2_kind c2_month c2_number)) (T := TX1) (N := 12) (ci := 1) K (ctX1_keep l D cyI cyJ cyS a0 i5 c_size c_floor_11 c_left c_floors c_lefts c_floors_16 c_lefts_17 hc) (gdV mcL mw_16_6 mw_16_7 mw_16_8 mw_2_7 mw_16_9) rfl ⟨rfl, rfl⟩ hyX1_keep ⟨Nat.le_of_ble_eq_true rfl, Nat.le_of_ble_eq_true rfl, Nat.le_of_ble_eq_true rfl, Nat.le_of_ble_eq_true rfl⟩ [0, 4, 5, 7, 9] (by decide) rfl [some 0, none, none, none, some 1, some 2, none, some 3, none, some 4, none, none, none, none, none, none, none, none, none, none] (by decide) rfl rfl 0 rfl rfl rfl rfl (Nat.le_of_ble_eq_true rfl) dX1_run_124 rfl rfl ?_
      refine j_iincN (lf := fun z => [(5, .int z), (0, .ref (a0 0)), (1, .ref (a1 0)), (2, .ref (a2 0)), (3, .int i3), (4, .int i4), (6, .int i6), (7, .int i7)]) K (v := i5 + (1 : Int32)) (k := 5) rfl rfl (by decide) (fun _ => rfl) dX1_run_127 rfl h (fun i5_18 h => ?_)
      refine j_goto (pc' := 8) K dX1_run_130 (by decide) ?_
      refine j_sub [1, 2, 3, 4, 5, 0] (lv' := [(0, .ref (a0 0)), (1, .ref (a1 0)), (2, .ref (a2 0)), (3, .int i3), (4, .int i4), (5, .int i5_18)]) rfl ?_
      exact hq_8 c_size c_settled c_falls_13 c_passed_14 c_floors_16 c_lefts_17 c_fallers_15 c_floor_11 c_before c_left c_order_10 c_taken_12 i5_18 h
    · refine j_aload_n K 0 rfl dX1_run_37 rfl ?_
      refine j_getf (C := RX1) (T := TX1) (N := 12) (ci := 1) K icX1 0 8 (List.mem_cons_of_mem _ mw_4_14) rfl rfl rfl (by decide) rfl dX1_run_38 rfl ?_
      refine j_iload K 7 rfl dX1_run_41 rfl ?_
      refine j_aload_n K 0 rfl dX1_run_43 rfl ?_
      refine j_getf (C := RX1) (T := TX1) (N := 12) (ci := 1) K icX1 0 7 (List.mem_cons_of_mem _ mw_4_13) rfl rfl rfl (by decide) rfl dX1_run_44 rfl ?_
      refine j_iload K 7 rfl dX1_run_47 rfl ?_
      refine j_iald K 7 0 rfl rfl dX1_run_49 rfl h (fun v_19 h => ?_)
      refine j_iast K 8 0 (fun z => (uX1_run cyI cyJ cyS a0 a1 a2 c_size c_settled c_falls c_passed c_floors c_lefts c_fallers c_floor z c_left c_order c_taken c1_size c1_sort c1_paid c1_wage c2_size c2_kind c2_month c2_number)) rfl rfl (fun _ => rfl) dX1_run_50 rfl h (fun c_before_20 h => ?_)
      refine j_aload_n K 0 rfl dX1_run_51 rfl ?_
      refine j_getf (C := RX1) (T := TX1) (N := 12) (ci := 1) K icX1 0 7 (List.mem_cons_of_mem _ mw_4_13) rfl rfl rfl (by decide) rfl dX1_run_52 rfl ?_
      refine j_iload K 7 rfl dX1_run_55 rfl ?_
      refine j_iald K 7 0 rfl rfl dX1_run_57 rfl h (fun v_21 h => ?_)
      refine j_iconst (v := (-1 : Int32)) K (by decide) dX1_run_58 rfl ?_
      refine j_icmp_eq (tgt := 97) K dX1_run_59 (by decide) rfl h (fun h => ?_) (fun h => ?_)
      · refine j_sub [0, 1, 2, 3, 4, 5, 6, 7] (lv' := [(0, .ref (a0 0)), (1, .ref (a1 0)), (2, .ref (a2 0)), (3, .int i3), (4, .int i4), (5, .int i5), (6, .int i6), (7, .int i7)]) rfl ?_
        exact wX1_run_97 K a0 a1 a2 i3 i4 c1_size c1_sort c1_paid c1_wage c2_size c2_kind c2_month c2_number o_size o_settled o_falls o_passed o_floors o_lefts o_fallers o_floor o_before o_left o_order o_taken q_8 (fX1_run_28 i3 i4 c1_size c1_sort c1_paid c1_wage c2_size c2_kind c2_month c2_number q_8 n) hq_8 (fun z0 z1 z2 z3 z4 z5 z6 z7 z8 z9 z10 z11 z12 z13 z14 hq => ih z0 z1 z2 z3 z4 z5 z6 z7 z8 z9 z10 z11 z12 z13 z14 hq) c_size c_settled c_falls c_passed c_floors c_lefts c_fallers c_floor c_before_20 c_left c_order c_taken i5 i6 i7 h
      · refine j_aload_n K 0 rfl dX1_run_62 rfl ?_
        refine j_iload K 7 rfl dX1_run_63 rfl ?_
        refine j_aload_n K 1 rfl dX1_run_65 rfl ?_
        refine j_getf (C := RX5) (T := TX5) (N := 4) (ci := 5) K icX5 12 0 (List.mem_cons_of_mem _ mw_13_18) rfl rfl rfl (by decide) rfl dX1_run_66 rfl ?_
        refine j_iload K 7 rfl dX1_run_69 rfl ?_
        refine j_iald K 13 0 rfl rfl dX1_run_71 rfl h (fun v_23 h => ?_)
        refine j_aload_n K 1 rfl dX1_run_72 rfl ?_
        refine j_getf (C := RX5) (T := TX5) (N := 4) (ci := 5) K icX5 12 2 (List.mem_cons_of_mem _ mw_13_19) rfl rfl rfl (by decide) rfl dX1_run_73 rfl ?_
        refine j_iload K 7 rfl dX1_run_76 rfl ?_
        refine j_iald K 15 0 rfl rfl dX1_run_78 rfl h (fun v_24 h => ?_)
        obtain ⟨c_left_25, hc, h⟩ := bd1_some h
        refine j_callV (rest := []) (st1 := []) (ws' := (uX1_run cyI cyJ cyS a0 a1 a2 c_size c_settled c_falls c_passed c_floors c_lefts c_fallers c_floor c_before_20 c_left_25 c_order c_taken c1_size c1_sort c1_paid c1_wage c2_size c2_kind c2_month c2_number)) (T := TX1) (N := 12) (ci := 1) K (ctX1_pay l D cyI cyJ cyS a0 i7 v_23 v_24 c_size c_floor c_left c_left_25 hc) (gdV mcL mw_14_10 mw_14_11 mw_14_12 mw_2_7 mw_14_13) rfl ⟨rfl, rfl⟩ hyX1_pay ⟨Nat.le_of_ble_eq_true rfl, Nat.le_of_ble_eq_true rfl, Nat.le_of_ble_eq_true rfl, Nat.le_of_ble_eq_true rfl⟩ [0, 7, 9] (by decide) rfl [some 0, none, none, none, none, none, none, some 1, none, some 2, none, none, none, none, none, none, none, none, none, none] (by decide) rfl rfl 0 rfl rfl rfl rfl (Nat.le_of_ble_eq_true rfl) dX1_run_79 rfl rfl ?_
        refine j_aload_n K 0 rfl dX1_run_82 rfl ?_
        refine j_iload K 7 rfl dX1_run_83 rfl ?_
        refine j_aload_n K 1 rfl dX1_run_85 rfl ?_
        refine j_getf (C := RX5) (T := TX5) (N := 4) (ci := 5) K icX5 12 0 (List.mem_cons_of_mem _ mw_13_18) rfl rfl rfl (by decide) rfl dX1_run_86 rfl ?_
        refine j_iload K 7 rfl dX1_run_89 rfl ?_
        refine j_iald K 13 0 rfl rfl dX1_run_91 rfl h (fun v_26 h => ?_)
        refine j_iload K 5 rfl dX1_run_92 rfl ?_
        obtain ⟨c_settled_27, c_floor_28, hc, h⟩ := bd2_some h
        refine j_callV (rest := []) (st1 := []) (ws' := (uX1_run cyI cyJ cyS a0 a1 a2 c_size c_settled_27 c_falls c_passed c_floors c_lefts c_fallers c_floor_28 c_before_20 c_left_25 c_order c_taken c1_size c1_sort c1_paid c1_wage c2_size c2_kind c2_month c2_number)) (T := TX1) (N := 12) (ci := 1) K (ctX1_settle l D cyI cyJ cyS a0 i7 v_26 i5 c_size c_left_25 c_settled c_floor c_settled_27 c_floor_28 hc) (gdV mcL mw_14_18 mw_14_19 mw_14_20 mw_2_7 mw_14_21) rfl ⟨rfl, rfl⟩ hyX1_settle ⟨Nat.le_of_ble_eq_true rfl, Nat.le_of_ble_eq_true rfl, Nat.le_of_ble_eq_true rfl, Nat.le_of_ble_eq_true rfl⟩ [0, 1, 7, 9] (by decide) rfl [some 0, some 1, none, none, none, none, none, some 2, none, some 3, none, none, none, none, none, none, none, none, none, none] (by decide) rfl rfl 0 rfl rfl rfl rfl (Nat.le_of_ble_eq_true rfl) dX1_run_94 rfl rfl ?_
        refine j_sub [0, 1, 2, 3, 4, 5, 6, 7] (lv' := [(0, .ref (a0 0)), (1, .ref (a1 0)), (2, .ref (a2 0)), (3, .int i3), (4, .int i4), (5, .int i5), (6, .int i6), (7, .int i7)]) rfl ?_
        exact wX1_run_97 K a0 a1 a2 i3 i4 c1_size c1_sort c1_paid c1_wage c2_size c2_kind c2_month c2_number o_size o_settled o_falls o_passed o_floors o_lefts o_fallers o_floor o_before o_left o_order o_taken q_8 (fX1_run_28 i3 i4 c1_size c1_sort c1_paid c1_wage c2_size c2_kind c2_month c2_number q_8 n) hq_8 (fun z0 z1 z2 z3 z4 z5 z6 z7 z8 z9 z10 z11 z12 z13 z14 hq => ih z0 z1 z2 z3 z4 z5 z6 z7 z8 z9 z10 z11 z12 z13 z14 hq) c_size c_settled_27 c_falls c_passed c_floors c_lefts c_fallers c_floor_28 c_before_20 c_left_25 c_order c_taken i5 i6 i7 h
set_option maxRecDepth 100000 in
set_option maxHeartbeats 4000000 in
theorem wX1_run_8 (K : jK p s m args meth c A D vwCl (tyz cyI cyJ cyS) cX1_run 8 RX1 wdX1_run none) (a0 : Nat → Nat) (a1 : Nat → Nat) (a2 : Nat → Nat)  (i3 : Int32) (i4 : Int32) (c1_size : Int32) (c1_sort : Nat → Int32) (c1_paid : Nat → Int32) (c1_wage : Nat → Int32) (c2_size : Int32) (c2_kind : Nat → Int32) (c2_month : Nat → Int32) (c2_number : Nat → Int32) (o_size : Int32) (o_settled : Nat → Int32) (o_falls : Nat → Int32) (o_passed : Nat → Int32) (o_floors : Nat → Int32) (o_lefts : Nat → Int32) (o_fallers : Nat → Int32) (o_floor : Nat → Int32) (o_before : Nat → Int32) (o_left : Nat → Int32) (o_order : Nat → Int32) (o_taken : Nat → Int32)   : ∀ (n : Nat) (c_size : Int32) (c_settled : Nat → Int32) (c_falls : Nat → Int32) (c_passed : Nat → Int32) (c_floors : Nat → Int32) (c_lefts : Nat → Int32) (c_fallers : Nat → Int32) (c_floor : Nat → Int32) (c_before : Nat → Int32) (c_left : Nat → Int32) (c_order : Nat → Int32) (c_taken : Nat → Int32) (i5 : Int32), fX1_run_8 i3 i4 c1_size c1_sort c1_paid c1_wage c2_size c2_kind c2_month c2_number  n c_size c_settled c_falls c_passed c_floors c_lefts c_fallers c_floor c_before c_left c_order c_taken i5 = some (o_size, o_settled, o_falls, o_passed, o_floors, o_lefts, o_fallers, o_floor, o_before, o_left, o_order, o_taken) → jw p l e rmX1_run s m args below meth c (jQ below args s A D vwCl (tyz cyI cyJ cyS) 0 0 none (uX1_run cyI cyJ cyS a0 a1 a2 o_size o_settled o_falls o_passed o_floors o_lefts o_fallers o_floor o_before o_left o_order o_taken c1_size c1_sort c1_paid c1_wage c2_size c2_kind c2_month c2_number)) A D vwCl 8 0 0 8 [(0, .ref (a0 0)), (1, .ref (a1 0)), (2, .ref (a2 0)), (3, .int i3), (4, .int i4), (5, .int i5)] [] (uX1_run cyI cyJ cyS a0 a1 a2 c_size c_settled c_falls c_passed c_floors c_lefts c_fallers c_floor c_before c_left c_order c_taken c1_size c1_sort c1_paid c1_wage c2_size c2_kind c2_month c2_number) := by
  intro n
  induction n with
  | zero => intro c_size c_settled c_falls c_passed c_floors c_lefts c_fallers c_floor c_before c_left c_order c_taken i5 h; cases h
  | succ n ih =>
    intro c_size c_settled c_falls c_passed c_floors c_lefts c_fallers c_floor c_before c_left c_order c_taken i5 h
    have h : bX1_run_8 i3 i4 c1_size c1_sort c1_paid c1_wage c2_size c2_kind c2_month c2_number  (fX1_run_8 i3 i4 c1_size c1_sort c1_paid c1_wage c2_size c2_kind c2_month c2_number  n) c_size c_settled c_falls c_passed c_floors c_lefts c_fallers c_floor c_before c_left c_order c_taken i5 = some (o_size, o_settled, o_falls, o_passed, o_floors, o_lefts, o_fallers, o_floor, o_before, o_left, o_order, o_taken) := h
    unfold bX1_run_8 at h
    refine j_iload K 5 rfl dX1_run_8 rfl ?_
    refine j_bipush (v := (24 : Int32)) K (by decide) dX1_run_10 rfl ?_
    refine j_icmp_ge (tgt := 133) K dX1_run_12 (by decide) rfl h (fun h => ?_) (fun h => ?_)
    · obtain ⟨e1, g1⟩ := Prod.mk.inj (Option.some.inj h)
      subst e1
      obtain ⟨e2, g2⟩ := Prod.mk.inj g1
      subst e2
      obtain ⟨e3, g3⟩ := Prod.mk.inj g2
      subst e3
      obtain ⟨e4, g4⟩ := Prod.mk.inj g3
      subst e4
      obtain ⟨e5, g5⟩ := Prod.mk.inj g4
      subst e5
      obtain ⟨e6, g6⟩ := Prod.mk.inj g5
      subst e6
      obtain ⟨e7, g7⟩ := Prod.mk.inj g6
      subst e7
      obtain ⟨e8, g8⟩ := Prod.mk.inj g7
      subst e8
      obtain ⟨e9, g9⟩ := Prod.mk.inj g8
      subst e9
      obtain ⟨e10, g10⟩ := Prod.mk.inj g9
      subst e10
      obtain ⟨e11, g11⟩ := Prod.mk.inj g10
      subst e11
      subst g11
      exact j_vret K dX1_run_133
    · refine j_aload_n K 0 rfl dX1_run_15 rfl ?_
      refine j_aload_n K 2 rfl dX1_run_16 rfl ?_
      refine j_iload_n K 3 rfl dX1_run_17 rfl ?_
      refine j_iload K 5 rfl dX1_run_18 rfl ?_
      obtain ⟨r_8, c_left_9, hc, h⟩ := bd2_some h
      refine j_callV (rest := []) (st1 := [.int r_8]) (ws' := (uX1_run cyI cyJ cyS a0 a1 a2 c_size c_settled c_falls c_passed c_floors c_lefts c_fallers c_floor c_before c_left_9 c_order c_taken c1_size c1_sort c1_paid c1_wage c2_size c2_kind c2_month c2_number)) (T := TX1) (N := 12) (ci := 1) K (ctX1_meetEvents l D cyI cyJ cyS a0 a2 i3 i5 c_size c_floor c2_size c2_kind c2_month c2_number c_left r_8 c_left_9 hc) (gdV mcL mw_14_2 mw_14_3 mw_14_4 mw_2_7 mw_14_5) rfl ⟨rfl, rfl⟩ hyX1_meetEvents ⟨Nat.le_of_ble_eq_true rfl, Nat.le_of_ble_eq_true rfl, Nat.le_of_ble_eq_true rfl, Nat.le_of_ble_eq_true rfl⟩ [0, 7, 9, 16, 17, 18, 19] (by decide) rfl [some 0, none, none, none, none, none, none, some 1, none, some 2, none, none, none, none, none, none, some 3, some 4, some 5, some 6] (by decide) rfl rfl 0 rfl rfl rfl rfl (Nat.le_of_ble_eq_true rfl) dX1_run_20 rfl rfl ?_
      refine j_istore (lv' := [(6, .int r_8), (0, .ref (a0 0)), (1, .ref (a1 0)), (2, .ref (a2 0)), (3, .int i3), (4, .int i4), (5, .int i5)]) K (by decide) rfl dX1_run_23 rfl ?_
      refine j_iconst (v := (0 : Int32)) K (by decide) dX1_run_25 rfl ?_
      refine j_istore (lv' := [(7, .int (0 : Int32)), (6, .int r_8), (0, .ref (a0 0)), (1, .ref (a1 0)), (2, .ref (a2 0)), (3, .int i3), (4, .int i4), (5, .int i5)]) K (by decide) rfl dX1_run_26 rfl ?_
      refine j_sub [2, 3, 4, 5, 6, 7, 1, 0] (lv' := [(0, .ref (a0 0)), (1, .ref (a1 0)), (2, .ref (a2 0)), (3, .int i3), (4, .int i4), (5, .int i5), (6, .int r_8), (7, .int (0 : Int32))]) rfl ?_
      exact wX1_run_28 K a0 a1 a2 i3 i4 c1_size c1_sort c1_paid c1_wage c2_size c2_kind c2_month c2_number o_size o_settled o_falls o_passed o_floors o_lefts o_fallers o_floor o_before o_left o_order o_taken (fX1_run_8 i3 i4 c1_size c1_sort c1_paid c1_wage c2_size c2_kind c2_month c2_number n) (fun z0 z1 z2 z3 z4 z5 z6 z7 z8 z9 z10 z11 z12 hq => ih z0 z1 z2 z3 z4 z5 z6 z7 z8 z9 z10 z11 z12 hq) jF c_size c_settled c_falls c_passed c_floors c_lefts c_fallers c_floor c_before c_left_9 c_order c_taken i5 r_8 (0 : Int32) h
set_option maxRecDepth 100000 in
set_option maxHeartbeats 4000000 in
theorem ctX1_run (l : Launch) (D : va_G) (cyI cyJ cyS : ClassId) (a0 : Nat → Nat) (a1 : Nat → Nat) (a2 : Nat → Nat) (i3 : Int32) (i4 : Int32) (c1_size : Int32) (c1_sort : Nat → Int32) (c1_paid : Nat → Int32) (c1_wage : Nat → Int32) (c2_size : Int32) (c2_kind : Nat → Int32) (c2_month : Nat → Int32) (c2_number : Nat → Int32) (c_size : Int32) (c_settled : Nat → Int32) (c_falls : Nat → Int32) (c_passed : Nat → Int32) (c_floors : Nat → Int32) (c_lefts : Nat → Int32) (c_fallers : Nat → Int32) (c_floor : Nat → Int32) (c_before : Nat → Int32) (c_left : Nat → Int32) (c_order : Nat → Int32) (c_taken : Nat → Int32) (o_size : Int32) (o_settled : Nat → Int32) (o_falls : Nat → Int32) (o_passed : Nat → Int32) (o_floors : Nat → Int32) (o_lefts : Nat → Int32) (o_fallers : Nat → Int32) (o_floor : Nat → Int32) (o_before : Nat → Int32) (o_left : Nat → Int32) (o_order : Nat → Int32) (o_taken : Nat → Int32) (h : fX1_run i3 i4 c1_size c1_sort c1_paid c1_wage c2_size c2_kind c2_month c2_number c_size c_settled c_falls c_passed c_floors c_lefts c_fallers c_floor c_before c_left c_order c_taken = some (o_size, o_settled, o_falls, o_passed, o_floors, o_lefts, o_fallers, o_floor, o_before, o_left, o_order, o_taken)) : jC l yX1_run wdX1_run rmX1_run D vwCl (tyz cyI cyJ cyS) [.ref (a0 0), .ref (a1 0), .ref (a2 0), .int i3, .int i4] (uX1_run cyI cyJ cyS a0 a1 a2 c_size c_settled c_falls c_passed c_floors c_lefts c_fallers c_floor c_before c_left c_order c_taken c1_size c1_sort c1_paid c1_wage c2_size c2_kind c2_month c2_number) none (uX1_run cyI cyJ cyS a0 a1 a2 o_size o_settled o_falls o_passed o_floors o_lefts o_fallers o_floor o_before o_left o_order o_taken c1_size c1_sort c1_paid c1_wage c2_size c2_kind c2_month c2_number) := by
  refine jC_of (cc := cX1_run) (nL := 8) (ret := none) (own := RX1) (lv := [(0, .ref (a0 0)), (1, .ref (a1 0)), (2, .ref (a2 0)), (3, .int i3), (4, .int i4)]) (by decide) rfl rfl (Nat.le_of_ble_eq_true rfl) rfl ?_
  intro p e s m args below meth c A K
  unfold fX1_run at h
  refine j_aload_n K 0 rfl dX1_run_0 rfl ?_
  refine j_aload_n K 1 rfl dX1_run_1 rfl ?_
  obtain ⟨c_size_1, c_settled_2, c_falls_3, c_passed_4, c_floor_5, c_left_6, c_order_7, hc, h⟩ := bd7_some h
  refine j_callV (rest := []) (st1 := []) (ws' := (uX1_run cyI cyJ cyS a0 a1 a2 c_size_1 c_settled_2 c_falls_3 c_passed_4 c_floors c_lefts c_fallers c_floor_5 c_before c_left_6 c_order_7 c_taken c1_size c1_sort c1_paid c1_wage c2_size c2_kind c2_month c2_number)) (T := TX1) (N := 12) (ci := 1) K (ctX1_begin l D cyI cyJ cyS a0 a1 c1_size c1_paid c_size c_settled c_falls c_passed c_floor c_left c_order c_size_1 c_settled_2 c_falls_3 c_passed_4 c_floor_5 c_left_6 c_order_7 hc) (gdV mcL mw_13_20 mw_13_21 mw_13_22 mw_2_7 mw_13_23) rfl ⟨rfl, rfl⟩ hyX1_begin ⟨Nat.le_of_ble_eq_true rfl, Nat.le_of_ble_eq_true rfl, Nat.le_of_ble_eq_true rfl, Nat.le_of_ble_eq_true rfl⟩ [0, 1, 2, 3, 7, 9, 10, 12, 14] (by decide) rfl [some 0, some 1, some 2, some 3, none, none, none, some 4, none, some 5, some 6, none, some 7, none, some 8, none, none, none, none, none] (by decide) rfl rfl 0 rfl rfl rfl rfl (Nat.le_of_ble_eq_true rfl) dX1_run_2 rfl rfl ?_
  refine j_iconst (v := (0 : Int32)) K (by decide) dX1_run_5 rfl ?_
  refine j_istore (lv' := [(5, .int (0 : Int32)), (0, .ref (a0 0)), (1, .ref (a1 0)), (2, .ref (a2 0)), (3, .int i3), (4, .int i4)]) K (by decide) rfl dX1_run_6 rfl ?_
  refine j_sub [1, 2, 3, 4, 5, 0] (lv' := [(0, .ref (a0 0)), (1, .ref (a1 0)), (2, .ref (a2 0)), (3, .int i3), (4, .int i4), (5, .int (0 : Int32))]) rfl ?_
  exact wX1_run_8 K a0 a1 a2 i3 i4 c1_size c1_sort c1_paid c1_wage c2_size c2_kind c2_month c2_number o_size o_settled o_falls o_passed o_floors o_lefts o_fallers o_floor o_before o_left o_order o_taken jF c_size_1 c_settled_2 c_falls_3 c_passed_4 c_floors c_lefts c_fallers c_floor_5 c_before c_left_6 c_order_7 c_taken (0 : Int32) h
abbrev uX1_floorAt (cyI cyJ cyS : ClassId) (a0 : Nat → Nat) (c_size : Int32) (c_floors : Nat → Int32) : va_W := [((a0 0), .inr (1, [.int c_size, .ref (a0 1), .ref (a0 2), .ref (a0 3), .ref (a0 4), .ref (a0 5), .ref (a0 6), .ref (a0 7), .ref (a0 8), .ref (a0 9), .ref (a0 10), .ref (a0 11)])), ((a0 4), .inl (cyI, 192, .inl c_floors))]
abbrev rmX1_floorAt : Room := { frames := 0, cells := 0, slots := 0, locals := 0 }
abbrev wdX1_floorAt : List Cond := .code yX1_floorAt cX1_floorAt 3 (some .int) :: wsL_law
theorem hyX1_floorAt : yX1_floorAt.cls = RX1 ∧ yX1_floorAt.cls ≠ "java/lang/invoke/MethodHandle" ∧ yX1_floorAt.cls ≠ "java/lang/invoke/VarHandle" ∧ (parseMethodDescriptor yX1_floorAt.desc).map (fun d => d.parameters.length) = some 2 := by decide +kernel
set_option maxRecDepth 100000 in
set_option maxHeartbeats 4000000 in
theorem ctX1_floorAt (l : Launch) (D : va_G) (cyI cyJ cyS : ClassId) (a0 : Nat → Nat) (i1 : Int32) (i2 : Int32) (c_size : Int32) (c_floors : Nat → Int32) (o_r : Int32) (h : fX1_floorAt i1 i2 c_floors = some (o_r)) : jC l yX1_floorAt wdX1_floorAt rmX1_floorAt D vwCl (tyz cyI cyJ cyS) [.ref (a0 0), .int i1, .int i2] (uX1_floorAt cyI cyJ cyS a0 c_size c_floors) (some (.int o_r)) (uX1_floorAt cyI cyJ cyS a0 c_size c_floors) := by
  refine jC_of (cc := cX1_floorAt) (nL := 3) (ret := (some .int)) (own := RX1) (lv := [(0, .ref (a0 0)), (1, .int i1), (2, .int i2)]) (by decide) rfl rfl (Nat.le_of_ble_eq_true rfl) rfl ?_
  intro p e s m args below meth c A K
  unfold fX1_floorAt at h
  refine j_aload_n K 0 rfl dX1_floorAt_0 rfl ?_
  refine j_getf (C := RX1) (T := TX1) (N := 12) (ci := 1) K icX1 0 4 (List.mem_cons_of_mem _ mw_4_10) rfl rfl rfl (by decide) rfl dX1_floorAt_1 rfl ?_
  refine j_iload_n K 1 rfl dX1_floorAt_4 rfl ?_
  refine j_bipush (v := (8 : Int32)) K (by decide) dX1_floorAt_5 rfl ?_
  refine j_imul K dX1_floorAt_7 rfl ?_
  refine j_iload_n K 2 rfl dX1_floorAt_8 rfl ?_
  refine j_iadd K dX1_floorAt_9 rfl ?_
  refine j_iald K 1 0 rfl rfl dX1_floorAt_10 rfl h (fun v_1 h => ?_)
  have h := Option.some.inj h
  subst h
  exact j_iret K dX1_floorAt_11
abbrev uX1_leftAt (cyI cyJ cyS : ClassId) (a0 : Nat → Nat) (c_size : Int32) (c_lefts : Nat → Int32) : va_W := [((a0 0), .inr (1, [.int c_size, .ref (a0 1), .ref (a0 2), .ref (a0 3), .ref (a0 4), .ref (a0 5), .ref (a0 6), .ref (a0 7), .ref (a0 8), .ref (a0 9), .ref (a0 10), .ref (a0 11)])), ((a0 5), .inl (cyI, 192, .inl c_lefts))]
abbrev rmX1_leftAt : Room := { frames := 0, cells := 0, slots := 0, locals := 0 }
abbrev wdX1_leftAt : List Cond := .code yX1_leftAt cX1_leftAt 3 (some .int) :: wsL_law
theorem hyX1_leftAt : yX1_leftAt.cls = RX1 ∧ yX1_leftAt.cls ≠ "java/lang/invoke/MethodHandle" ∧ yX1_leftAt.cls ≠ "java/lang/invoke/VarHandle" ∧ (parseMethodDescriptor yX1_leftAt.desc).map (fun d => d.parameters.length) = some 2 := by decide +kernel
set_option maxRecDepth 100000 in
set_option maxHeartbeats 4000000 in
theorem ctX1_leftAt (l : Launch) (D : va_G) (cyI cyJ cyS : ClassId) (a0 : Nat → Nat) (i1 : Int32) (i2 : Int32) (c_size : Int32) (c_lefts : Nat → Int32) (o_r : Int32) (h : fX1_leftAt i1 i2 c_lefts = some (o_r)) : jC l yX1_leftAt wdX1_leftAt rmX1_leftAt D vwCl (tyz cyI cyJ cyS) [.ref (a0 0), .int i1, .int i2] (uX1_leftAt cyI cyJ cyS a0 c_size c_lefts) (some (.int o_r)) (uX1_leftAt cyI cyJ cyS a0 c_size c_lefts) := by
  refine jC_of (cc := cX1_leftAt) (nL := 3) (ret := (some .int)) (own := RX1) (lv := [(0, .ref (a0 0)), (1, .int i1), (2, .int i2)]) (by decide) rfl rfl (Nat.le_of_ble_eq_true rfl) rfl ?_
  intro p e s m args below meth c A K
  unfold fX1_leftAt at h
  refine j_aload_n K 0 rfl dX1_leftAt_0 rfl ?_
  refine j_getf (C := RX1) (T := TX1) (N := 12) (ci := 1) K icX1 0 5 (List.mem_cons_of_mem _ mw_4_11) rfl rfl rfl (by decide) rfl dX1_leftAt_1 rfl ?_
  refine j_iload_n K 1 rfl dX1_leftAt_4 rfl ?_
  refine j_bipush (v := (8 : Int32)) K (by decide) dX1_leftAt_5 rfl ?_
  refine j_imul K dX1_leftAt_7 rfl ?_
  refine j_iload_n K 2 rfl dX1_leftAt_8 rfl ?_
  refine j_iadd K dX1_leftAt_9 rfl ?_
  refine j_iald K 1 0 rfl rfl dX1_leftAt_10 rfl h (fun v_1 h => ?_)
  have h := Option.some.inj h
  subst h
  exact j_iret K dX1_leftAt_11
abbrev uX1_owes (cyI cyJ cyS : ClassId) (a0 : Nat → Nat) (c_size : Int32) (c_floors : Nat → Int32) (c_lefts : Nat → Int32) : va_W := [((a0 0), .inr (1, [.int c_size, .ref (a0 1), .ref (a0 2), .ref (a0 3), .ref (a0 4), .ref (a0 5), .ref (a0 6), .ref (a0 7), .ref (a0 8), .ref (a0 9), .ref (a0 10), .ref (a0 11)])), ((a0 4), .inl (cyI, 192, .inl c_floors)), ((a0 5), .inl (cyI, 192, .inl c_lefts))]
abbrev rmX1_owes : Room := { frames := 1, cells := 0, slots := 0, locals := 23 }
abbrev wdX1_owes : List Cond := .code yX1_owes cX1_owes 3 (some .boolean) :: wsL_law
theorem hyX1_owes : yX1_owes.cls = RX1 ∧ yX1_owes.cls ≠ "java/lang/invoke/MethodHandle" ∧ yX1_owes.cls ≠ "java/lang/invoke/VarHandle" ∧ (parseMethodDescriptor yX1_owes.desc).map (fun d => d.parameters.length) = some 2 := by decide +kernel
set_option maxRecDepth 100000 in
set_option maxHeartbeats 4000000 in
theorem ctX1_owes (l : Launch) (D : va_G) (cyI cyJ cyS : ClassId) (a0 : Nat → Nat) (i1 : Int32) (i2 : Int32) (c_size : Int32) (c_floors : Nat → Int32) (c_lefts : Nat → Int32) (o_r : Int32) (h : fX1_owes i1 i2 c_floors c_lefts = some (o_r)) : jC l yX1_owes wdX1_owes rmX1_owes D vwCl (tyz cyI cyJ cyS) [.ref (a0 0), .int i1, .int i2] (uX1_owes cyI cyJ cyS a0 c_size c_floors c_lefts) (some (.int o_r)) (uX1_owes cyI cyJ cyS a0 c_size c_floors c_lefts) := by
  refine jC_of (cc := cX1_owes) (nL := 3) (ret := (some .boolean)) (own := RX1) (lv := [(0, .ref (a0 0)), (1, .int i1), (2, .int i2)]) (by decide) rfl rfl (Nat.le_of_ble_eq_true rfl) rfl ?_
  intro p e s m args below meth c A K
  unfold fX1_owes at h
  refine j_aload_n K 0 rfl dX1_owes_0 rfl ?_
  refine j_iload_n K 1 rfl dX1_owes_1 rfl ?_
  refine j_iload_n K 2 rfl dX1_owes_2 rfl ?_
  obtain ⟨r_1, hc, h⟩ := bd1_some h
  refine j_callV (rest := []) (st1 := [.int r_1]) (ws' := (uX1_owes cyI cyJ cyS a0 c_size c_floors c_lefts)) (T := TX1) (N := 12) (ci := 1) K (ctX1_floorAt l D cyI cyJ cyS a0 i1 i2 c_size c_floors r_1 hc) (gdV mcL mw_17_1 mw_16_11 mw_16_12 mw_2_7 mw_16_13) rfl ⟨rfl, rfl⟩ hyX1_floorAt ⟨Nat.le_of_ble_eq_true rfl, Nat.le_of_ble_eq_true rfl, Nat.le_of_ble_eq_true rfl, Nat.le_of_ble_eq_true rfl⟩ [0, 1] (by decide) rfl [some 0, some 1, none] (by decide) rfl rfl 0 rfl rfl rfl rfl (Nat.le_of_ble_eq_true rfl) dX1_owes_3 rfl rfl ?_
  refine j_iconst (v := (0 : Int32)) K (by decide) dX1_owes_6 rfl ?_
  refine j_aload_n K 0 rfl dX1_owes_7 rfl ?_
  refine j_iload_n K 1 rfl dX1_owes_8 rfl ?_
  refine j_iload_n K 2 rfl dX1_owes_9 rfl ?_
  obtain ⟨r_2, hc, h⟩ := bd1_some h
  refine j_callV (rest := [.int (0 : Int32), .int r_1]) (st1 := [.int r_2, .int (0 : Int32), .int r_1]) (ws' := (uX1_owes cyI cyJ cyS a0 c_size c_floors c_lefts)) (T := TX1) (N := 12) (ci := 1) K (ctX1_leftAt l D cyI cyJ cyS a0 i1 i2 c_size c_lefts r_2 hc) (gdV mcL mw_17_2 mw_16_15 mw_16_16 mw_2_7 mw_16_17) rfl ⟨rfl, rfl⟩ hyX1_leftAt ⟨Nat.le_of_ble_eq_true rfl, Nat.le_of_ble_eq_true rfl, Nat.le_of_ble_eq_true rfl, Nat.le_of_ble_eq_true rfl⟩ [0, 2] (by decide) rfl [some 0, none, some 1] (by decide) rfl rfl 0 rfl rfl rfl rfl (Nat.le_of_ble_eq_true rfl) dX1_owes_10 rfl rfl ?_
  refine j_mmax K (List.mem_cons_of_mem _ mw_16_22) (List.mem_cons_of_mem _ mw_16_23) (List.mem_cons_of_mem _ mw_14_16) (List.mem_cons_of_mem _ mw_17_0) ⟨Nat.le_of_ble_eq_true rfl, Nat.le_of_ble_eq_true rfl, Nat.le_of_ble_eq_true rfl, Nat.le_of_ble_eq_true rfl⟩ dX1_owes_13 rfl ?_
  refine j_iconst (v := (3 : Int32)) K (by decide) dX1_owes_16 rfl ?_
  refine j_idiv K (by decide) dX1_owes_17 rfl ?_
  refine j_icmp_le (tgt := 25) K dX1_owes_18 (by decide) rfl h (fun h => ?_) (fun h => ?_)
  · refine j_iconst (v := (0 : Int32)) K (by decide) dX1_owes_25 rfl ?_
    have h := Option.some.inj h
    subst h
    exact j_zret K rfl dX1_owes_26
  · refine j_iconst (v := (1 : Int32)) K (by decide) dX1_owes_21 rfl ?_
    refine j_goto (pc' := 26) K dX1_owes_22 (by decide) ?_
    have h := Option.some.inj h
    subst h
    exact j_zret K rfl dX1_owes_26
abbrev uX1_fellIn (cyI cyJ cyS : ClassId) (a0 : Nat → Nat) (c_size : Int32) (c_fallers : Nat → Int32) : va_W := [((a0 0), .inr (1, [.int c_size, .ref (a0 1), .ref (a0 2), .ref (a0 3), .ref (a0 4), .ref (a0 5), .ref (a0 6), .ref (a0 7), .ref (a0 8), .ref (a0 9), .ref (a0 10), .ref (a0 11)])), ((a0 6), .inl (cyI, 24, .inl c_fallers))]
abbrev rmX1_fellIn : Room := { frames := 0, cells := 0, slots := 0, locals := 0 }
abbrev wdX1_fellIn : List Cond := .code yX1_fellIn cX1_fellIn 3 (some .boolean) :: wsL_law
theorem hyX1_fellIn : yX1_fellIn.cls = RX1 ∧ yX1_fellIn.cls ≠ "java/lang/invoke/MethodHandle" ∧ yX1_fellIn.cls ≠ "java/lang/invoke/VarHandle" ∧ (parseMethodDescriptor yX1_fellIn.desc).map (fun d => d.parameters.length) = some 2 := by decide +kernel
set_option maxRecDepth 100000 in
set_option maxHeartbeats 4000000 in
theorem ctX1_fellIn (l : Launch) (D : va_G) (cyI cyJ cyS : ClassId) (a0 : Nat → Nat) (i1 : Int32) (i2 : Int32) (c_size : Int32) (c_fallers : Nat → Int32) (o_r : Int32) (h : fX1_fellIn i1 i2 c_fallers = some (o_r)) : jC l yX1_fellIn wdX1_fellIn rmX1_fellIn D vwCl (tyz cyI cyJ cyS) [.ref (a0 0), .int i1, .int i2] (uX1_fellIn cyI cyJ cyS a0 c_size c_fallers) (some (.int o_r)) (uX1_fellIn cyI cyJ cyS a0 c_size c_fallers) := by
  refine jC_of (cc := cX1_fellIn) (nL := 3) (ret := (some .boolean)) (own := RX1) (lv := [(0, .ref (a0 0)), (1, .int i1), (2, .int i2)]) (by decide) rfl rfl (Nat.le_of_ble_eq_true rfl) rfl ?_
  intro p e s m args below meth c A K
  unfold fX1_fellIn at h
  refine j_aload_n K 0 rfl dX1_fellIn_0 rfl ?_
  refine j_getf (C := RX1) (T := TX1) (N := 12) (ci := 1) K icX1 0 6 (List.mem_cons_of_mem _ mw_4_12) rfl rfl rfl (by decide) rfl dX1_fellIn_1 rfl ?_
  refine j_iload_n K 1 rfl dX1_fellIn_4 rfl ?_
  refine j_iald K 1 0 rfl rfl dX1_fellIn_5 rfl h (fun v_1 h => ?_)
  refine j_iload_n K 2 rfl dX1_fellIn_6 rfl ?_
  refine j_ishr K dX1_fellIn_7 rfl ?_
  refine j_iconst (v := (1 : Int32)) K (by decide) dX1_fellIn_8 rfl ?_
  refine j_iand K dX1_fellIn_9 rfl ?_
  refine j_if_eq (tgt := 17) K dX1_fellIn_10 (by decide) rfl h (fun h => ?_) (fun h => ?_)
  · refine j_iconst (v := (0 : Int32)) K (by decide) dX1_fellIn_17 rfl ?_
    have h := Option.some.inj h
    subst h
    exact j_zret K rfl dX1_fellIn_18
  · refine j_iconst (v := (1 : Int32)) K (by decide) dX1_fellIn_13 rfl ?_
    refine j_goto (pc' := 18) K dX1_fellIn_14 (by decide) ?_
    have h := Option.some.inj h
    subst h
    exact j_zret K rfl dX1_fellIn_18
abbrev uX1_whoLives (cyI cyJ cyS : ClassId) (a0 : Nat → Nat) (c_size : Int32) (c_floors : Nat → Int32) : va_W := [((a0 0), .inr (1, [.int c_size, .ref (a0 1), .ref (a0 2), .ref (a0 3), .ref (a0 4), .ref (a0 5), .ref (a0 6), .ref (a0 7), .ref (a0 8), .ref (a0 9), .ref (a0 10), .ref (a0 11)])), ((a0 4), .inl (cyI, 192, .inl c_floors))]
abbrev rmX1_whoLives : Room := { frames := 1, cells := 0, slots := 0, locals := 22 }
abbrev wdX1_whoLives : List Cond := .code yX1_whoLives cX1_whoLives 5 (some .int) :: wsL_law
theorem hyX1_whoLives : yX1_whoLives.cls = RX1 ∧ yX1_whoLives.cls ≠ "java/lang/invoke/MethodHandle" ∧ yX1_whoLives.cls ≠ "java/lang/invoke/VarHandle" ∧ (parseMethodDescriptor yX1_whoLives.desc).map (fun d => d.parameters.length) = some 2 := by decide +kernel
set_option maxRecDepth 100000 in
set_option maxHeartbeats 4000000 in
theorem wX1_whoLives_32 (K : jK p s m args meth c A D vwCl (tyz cyI cyJ cyS) cX1_whoLives 5 RX1 wdX1_whoLives (some .int)) (a0 : Nat → Nat)  (i1 : Int32) (i2 : Int32) (c_size : Int32) (c_floors : Nat → Int32) (o_r : Int32)  (q_5 : Int32 → Int32 → Option (Int32)) (hq_5 : ∀ (i3 : Int32) (i4 : Int32), q_5 i3 i4 = some (o_r) → jw p l e rmX1_whoLives s m args below meth c (jQ below args s A D vwCl (tyz cyI cyJ cyS) 0 0 (some (.int o_r)) (uX1_whoLives cyI cyJ cyS a0 c_size c_floors)) A D vwCl 5 0 0 5 [(0, .ref (a0 0)), (1, .int i1), (2, .int i2), (3, .int i3), (4, .int i4)] [] (uX1_whoLives cyI cyJ cyS a0 c_size c_floors)) : ∀ (i3 : Int32) (i4 : Int32), fX1_whoLives_32 i1 i2 c_size c_floors q_5 i3 i4 = some (o_r) → jw p l e rmX1_whoLives s m args below meth c (jQ below args s A D vwCl (tyz cyI cyJ cyS) 0 0 (some (.int o_r)) (uX1_whoLives cyI cyJ cyS a0 c_size c_floors)) A D vwCl 5 0 0 32 [(0, .ref (a0 0)), (1, .int i1), (2, .int i2), (3, .int i3), (4, .int i4)] [] (uX1_whoLives cyI cyJ cyS a0 c_size c_floors) := by
  intro i3 i4 h
  unfold fX1_whoLives_32 at h
  refine j_iincN (lf := fun z => [(4, .int z), (0, .ref (a0 0)), (1, .int i1), (2, .int i2), (3, .int i3)]) K (v := i4 + (1 : Int32)) (k := 4) rfl rfl (by decide) (fun _ => rfl) dX1_whoLives_32 rfl h (fun i4_2 h => ?_)
  refine j_goto (pc' := 5) K dX1_whoLives_35 (by decide) ?_
  refine j_sub [1, 2, 3, 4, 0] (lv' := [(0, .ref (a0 0)), (1, .int i1), (2, .int i2), (3, .int i3), (4, .int i4_2)]) rfl ?_
  exact hq_5 i3 i4_2 h
set_option maxRecDepth 100000 in
set_option maxHeartbeats 4000000 in
theorem wX1_whoLives_5 (K : jK p s m args meth c A D vwCl (tyz cyI cyJ cyS) cX1_whoLives 5 RX1 wdX1_whoLives (some .int)) (a0 : Nat → Nat)  (i1 : Int32) (i2 : Int32) (c_size : Int32) (c_floors : Nat → Int32) (o_r : Int32)   : ∀ (n : Nat) (i3 : Int32) (i4 : Int32), fX1_whoLives_5 i1 i2 c_size c_floors  n i3 i4 = some (o_r) → jw p l e rmX1_whoLives s m args below meth c (jQ below args s A D vwCl (tyz cyI cyJ cyS) 0 0 (some (.int o_r)) (uX1_whoLives cyI cyJ cyS a0 c_size c_floors)) A D vwCl 5 0 0 5 [(0, .ref (a0 0)), (1, .int i1), (2, .int i2), (3, .int i3), (4, .int i4)] [] (uX1_whoLives cyI cyJ cyS a0 c_size c_floors) := by
  intro n
  induction n with
  | zero => intro i3 i4 h; cases h
  | succ n ih =>
    intro i3 i4 h
    have h : bX1_whoLives_5 i1 i2 c_size c_floors  (fX1_whoLives_5 i1 i2 c_size c_floors  n) i3 i4 = some (o_r) := h
    unfold bX1_whoLives_5 at h
    refine j_iload K 4 rfl dX1_whoLives_5 rfl ?_
    refine j_aload_n K 0 rfl dX1_whoLives_7 rfl ?_
    refine j_getf (C := RX1) (T := TX1) (N := 12) (ci := 1) K icX1 0 0 (List.mem_cons_of_mem _ mw_4_6) rfl rfl rfl (by decide) rfl dX1_whoLives_8 rfl ?_
    refine j_icmp_ge (tgt := 38) K dX1_whoLives_11 (by decide) rfl h (fun h => ?_) (fun h => ?_)
    · refine j_iload_n K 3 rfl dX1_whoLives_38 rfl ?_
      have h := Option.some.inj h
      subst h
      exact j_iret K dX1_whoLives_39
    · refine j_aload_n K 0 rfl dX1_whoLives_14 rfl ?_
      refine j_iload_n K 1 rfl dX1_whoLives_15 rfl ?_
      refine j_iload K 4 rfl dX1_whoLives_16 rfl ?_
      obtain ⟨r_1, hc, h⟩ := bd1_some h
      refine j_callV (rest := []) (st1 := [.int r_1]) (ws' := (uX1_whoLives cyI cyJ cyS a0 c_size c_floors)) (T := TX1) (N := 12) (ci := 1) K (ctX1_floorAt l D cyI cyJ cyS a0 i1 i4 c_size c_floors r_1 hc) (gdV mcL mw_17_1 mw_16_11 mw_16_12 mw_2_7 mw_16_13) rfl ⟨rfl, rfl⟩ hyX1_floorAt ⟨Nat.le_of_ble_eq_true rfl, Nat.le_of_ble_eq_true rfl, Nat.le_of_ble_eq_true rfl, Nat.le_of_ble_eq_true rfl⟩ [0, 1] (by decide) rfl [some 0, some 1] (by decide) rfl rfl 0 rfl rfl rfl rfl (Nat.le_of_ble_eq_true rfl) dX1_whoLives_18 rfl rfl ?_
      refine j_iload_n K 2 rfl dX1_whoLives_21 rfl ?_
      refine j_icmp_ne (tgt := 32) K dX1_whoLives_22 (by decide) rfl h (fun h => ?_) (fun h => ?_)
      · refine j_sub [0, 1, 2, 3, 4] (lv' := [(0, .ref (a0 0)), (1, .int i1), (2, .int i2), (3, .int i3), (4, .int i4)]) rfl ?_
        exact wX1_whoLives_32 K a0 i1 i2 c_size c_floors o_r (fX1_whoLives_5 i1 i2 c_size c_floors n) (fun z0 z1 hq => ih z0 z1 hq) i3 i4 h
      · refine j_iload_n K 3 rfl dX1_whoLives_25 rfl ?_
        refine j_iconst (v := (1 : Int32)) K (by decide) dX1_whoLives_26 rfl ?_
        refine j_iload K 4 rfl dX1_whoLives_27 rfl ?_
        refine j_ishl K dX1_whoLives_29 rfl ?_
        refine j_ior K dX1_whoLives_30 rfl ?_
        refine j_nmI h (fun i3_3 h => ?_)
        refine j_istore_n (lv' := [(3, .int i3_3), (0, .ref (a0 0)), (1, .int i1), (2, .int i2), (4, .int i4)]) K (by decide) rfl dX1_whoLives_31 rfl ?_
        refine j_sub [1, 2, 3, 0, 4] (lv' := [(0, .ref (a0 0)), (1, .int i1), (2, .int i2), (3, .int i3_3), (4, .int i4)]) rfl ?_
        exact wX1_whoLives_32 K a0 i1 i2 c_size c_floors o_r (fX1_whoLives_5 i1 i2 c_size c_floors n) (fun z0 z1 hq => ih z0 z1 hq) i3_3 i4 h
set_option maxRecDepth 100000 in
set_option maxHeartbeats 4000000 in
theorem ctX1_whoLives (l : Launch) (D : va_G) (cyI cyJ cyS : ClassId) (a0 : Nat → Nat) (i1 : Int32) (i2 : Int32) (c_size : Int32) (c_floors : Nat → Int32) (o_r : Int32) (h : fX1_whoLives i1 i2 c_size c_floors = some (o_r)) : jC l yX1_whoLives wdX1_whoLives rmX1_whoLives D vwCl (tyz cyI cyJ cyS) [.ref (a0 0), .int i1, .int i2] (uX1_whoLives cyI cyJ cyS a0 c_size c_floors) (some (.int o_r)) (uX1_whoLives cyI cyJ cyS a0 c_size c_floors) := by
  refine jC_of (cc := cX1_whoLives) (nL := 5) (ret := (some .int)) (own := RX1) (lv := [(0, .ref (a0 0)), (1, .int i1), (2, .int i2)]) (by decide) rfl rfl (Nat.le_of_ble_eq_true rfl) rfl ?_
  intro p e s m args below meth c A K
  unfold fX1_whoLives at h
  refine j_iconst (v := (0 : Int32)) K (by decide) dX1_whoLives_0 rfl ?_
  refine j_istore_n (lv' := [(3, .int (0 : Int32)), (0, .ref (a0 0)), (1, .int i1), (2, .int i2)]) K (by decide) rfl dX1_whoLives_1 rfl ?_
  refine j_iconst (v := (0 : Int32)) K (by decide) dX1_whoLives_2 rfl ?_
  refine j_istore (lv' := [(4, .int (0 : Int32)), (3, .int (0 : Int32)), (0, .ref (a0 0)), (1, .int i1), (2, .int i2)]) K (by decide) rfl dX1_whoLives_3 rfl ?_
  refine j_sub [2, 3, 4, 1, 0] (lv' := [(0, .ref (a0 0)), (1, .int i1), (2, .int i2), (3, .int (0 : Int32)), (4, .int (0 : Int32))]) rfl ?_
  exact wX1_whoLives_5 K a0 i1 i2 c_size c_floors o_r jF (0 : Int32) (0 : Int32) h
abbrev uX1_liftStops (cyI cyJ cyS : ClassId) (a0 : Nat → Nat) (c_size : Int32) (c_floors : Nat → Int32) (c_lefts : Nat → Int32) : va_W := [((a0 0), .inr (1, [.int c_size, .ref (a0 1), .ref (a0 2), .ref (a0 3), .ref (a0 4), .ref (a0 5), .ref (a0 6), .ref (a0 7), .ref (a0 8), .ref (a0 9), .ref (a0 10), .ref (a0 11)])), ((a0 4), .inl (cyI, 192, .inl c_floors)), ((a0 5), .inl (cyI, 192, .inl c_lefts))]
abbrev rmX1_liftStops : Room := { frames := 2, cells := 0, slots := 0, locals := 45 }
abbrev wdX1_liftStops : List Cond := .code yX1_liftStops cX1_liftStops 6 (some .int) :: wsL_law
theorem hyX1_liftStops : yX1_liftStops.cls = RX1 ∧ yX1_liftStops.cls ≠ "java/lang/invoke/MethodHandle" ∧ yX1_liftStops.cls ≠ "java/lang/invoke/VarHandle" ∧ (parseMethodDescriptor yX1_liftStops.desc).map (fun d => d.parameters.length) = some 1 := by decide +kernel
set_option maxRecDepth 100000 in
set_option maxHeartbeats 4000000 in
theorem wX1_liftStops_58 (K : jK p s m args meth c A D vwCl (tyz cyI cyJ cyS) cX1_liftStops 6 RX1 wdX1_liftStops (some .int)) (a0 : Nat → Nat)  (i1 : Int32) (c_size : Int32) (c_floors : Nat → Int32) (c_lefts : Nat → Int32) (o_r : Int32)  (q_7 : Int32 → Int32 → Int32 → Option (Int32)) (hq_7 : ∀ (i2 : Int32) (i3 : Int32) (i4 : Int32), q_7 i2 i3 i4 = some (o_r) → jw p l e rmX1_liftStops s m args below meth c (jQ below args s A D vwCl (tyz cyI cyJ cyS) 0 0 (some (.int o_r)) (uX1_liftStops cyI cyJ cyS a0 c_size c_floors c_lefts)) A D vwCl 6 0 0 7 [(0, .ref (a0 0)), (1, .int i1), (2, .int i2), (3, .int i3), (4, .int i4)] [] (uX1_liftStops cyI cyJ cyS a0 c_size c_floors c_lefts)) : ∀ (i2 : Int32) (i3 : Int32) (i4 : Int32), fX1_liftStops_58 i1 c_size c_floors c_lefts q_7 i2 i3 i4 = some (o_r) → jw p l e rmX1_liftStops s m args below meth c (jQ below args s A D vwCl (tyz cyI cyJ cyS) 0 0 (some (.int o_r)) (uX1_liftStops cyI cyJ cyS a0 c_size c_floors c_lefts)) A D vwCl 6 0 0 58 [(0, .ref (a0 0)), (1, .int i1), (2, .int i2), (3, .int i3), (4, .int i4)] [] (uX1_liftStops cyI cyJ cyS a0 c_size c_floors c_lefts) := by
  intro i2 i3 i4 h
  unfold fX1_liftStops_58 at h
  refine j_iincN (lf := fun z => [(4, .int z), (0, .ref (a0 0)), (1, .int i1), (2, .int i2), (3, .int i3)]) K (v := i4 + (1 : Int32)) (k := 4) rfl rfl (by decide) (fun _ => rfl) dX1_liftStops_58 rfl h (fun i4_2 h => ?_)
  refine j_goto (pc' := 7) K dX1_liftStops_61 (by decide) ?_
  refine j_sub [1, 2, 3, 4, 0] (lv' := [(0, .ref (a0 0)), (1, .int i1), (2, .int i2), (3, .int i3), (4, .int i4_2)]) rfl ?_
  exact hq_7 i2 i3 i4_2 h
set_option maxRecDepth 100000 in
set_option maxHeartbeats 4000000 in
theorem wX1_liftStops_56 (K : jK p s m args meth c A D vwCl (tyz cyI cyJ cyS) cX1_liftStops 6 RX1 wdX1_liftStops (some .int)) (a0 : Nat → Nat)  (i1 : Int32) (c_size : Int32) (c_floors : Nat → Int32) (c_lefts : Nat → Int32) (o_r : Int32)  (q_7 : Int32 → Int32 → Int32 → Option (Int32)) (hq_7 : ∀ (i2 : Int32) (i3 : Int32) (i4 : Int32), q_7 i2 i3 i4 = some (o_r) → jw p l e rmX1_liftStops s m args below meth c (jQ below args s A D vwCl (tyz cyI cyJ cyS) 0 0 (some (.int o_r)) (uX1_liftStops cyI cyJ cyS a0 c_size c_floors c_lefts)) A D vwCl 6 0 0 7 [(0, .ref (a0 0)), (1, .int i1), (2, .int i2), (3, .int i3), (4, .int i4)] [] (uX1_liftStops cyI cyJ cyS a0 c_size c_floors c_lefts)) : ∀ (i2 : Int32) (i4 : Int32) (t0 : Int32) (t1 : Int32), fX1_liftStops_56 i1 c_size c_floors c_lefts q_7 i2 i4 t0 t1 = some (o_r) → jw p l e rmX1_liftStops s m args below meth c (jQ below args s A D vwCl (tyz cyI cyJ cyS) 0 0 (some (.int o_r)) (uX1_liftStops cyI cyJ cyS a0 c_size c_floors c_lefts)) A D vwCl 6 0 0 56 [(0, .ref (a0 0)), (1, .int i1), (2, .int i2), (4, .int i4)] [.int t0, .int t1] (uX1_liftStops cyI cyJ cyS a0 c_size c_floors c_lefts) := by
  intro i2 i4 t0 t1 h
  unfold fX1_liftStops_56 at h
  refine j_ior K dX1_liftStops_56 rfl ?_
  refine j_nmI h (fun i3_5 h => ?_)
  refine j_istore_n (lv' := [(3, .int i3_5), (0, .ref (a0 0)), (1, .int i1), (2, .int i2), (4, .int i4)]) K (by decide) rfl dX1_liftStops_57 rfl ?_
  refine j_sub [1, 2, 3, 0, 4] (lv' := [(0, .ref (a0 0)), (1, .int i1), (2, .int i2), (3, .int i3_5), (4, .int i4)]) rfl ?_
  exact wX1_liftStops_58 K a0 i1 c_size c_floors c_lefts o_r q_7 hq_7 i2 i3_5 i4 h
set_option maxRecDepth 100000 in
set_option maxHeartbeats 4000000 in
theorem wX1_liftStops_7 (K : jK p s m args meth c A D vwCl (tyz cyI cyJ cyS) cX1_liftStops 6 RX1 wdX1_liftStops (some .int)) (a0 : Nat → Nat)  (i1 : Int32) (c_size : Int32) (c_floors : Nat → Int32) (c_lefts : Nat → Int32) (o_r : Int32)   : ∀ (n : Nat) (i2 : Int32) (i3 : Int32) (i4 : Int32), fX1_liftStops_7 i1 c_size c_floors c_lefts  n i2 i3 i4 = some (o_r) → jw p l e rmX1_liftStops s m args below meth c (jQ below args s A D vwCl (tyz cyI cyJ cyS) 0 0 (some (.int o_r)) (uX1_liftStops cyI cyJ cyS a0 c_size c_floors c_lefts)) A D vwCl 6 0 0 7 [(0, .ref (a0 0)), (1, .int i1), (2, .int i2), (3, .int i3), (4, .int i4)] [] (uX1_liftStops cyI cyJ cyS a0 c_size c_floors c_lefts) := by
  intro n
  induction n with
  | zero => intro i2 i3 i4 h; cases h
  | succ n ih =>
    intro i2 i3 i4 h
    have h : bX1_liftStops_7 i1 c_size c_floors c_lefts  (fX1_liftStops_7 i1 c_size c_floors c_lefts  n) i2 i3 i4 = some (o_r) := h
    unfold bX1_liftStops_7 at h
    refine j_iload K 4 rfl dX1_liftStops_7 rfl ?_
    refine j_aload_n K 0 rfl dX1_liftStops_9 rfl ?_
    refine j_getf (C := RX1) (T := TX1) (N := 12) (ci := 1) K icX1 0 0 (List.mem_cons_of_mem _ mw_4_6) rfl rfl rfl (by decide) rfl dX1_liftStops_10 rfl ?_
    refine j_icmp_ge (tgt := 64) K dX1_liftStops_13 (by decide) rfl h (fun h => ?_) (fun h => ?_)
    · refine j_iload_n K 2 rfl dX1_liftStops_64 rfl ?_
      refine j_iload_n K 3 rfl dX1_liftStops_65 rfl ?_
      refine j_iconst (v := (-1 : Int32)) K (by decide) dX1_liftStops_66 rfl ?_
      refine j_ixor K dX1_liftStops_67 rfl ?_
      refine j_iand K dX1_liftStops_68 rfl ?_
      have h := Option.some.inj h
      subst h
      exact j_iret K dX1_liftStops_69
    · refine j_aload_n K 0 rfl dX1_liftStops_16 rfl ?_
      refine j_iload_n K 1 rfl dX1_liftStops_17 rfl ?_
      refine j_iload K 4 rfl dX1_liftStops_18 rfl ?_
      obtain ⟨r_1, hc, h⟩ := bd1_some h
      refine j_callV (rest := []) (st1 := [.int r_1]) (ws' := (uX1_liftStops cyI cyJ cyS a0 c_size c_floors c_lefts)) (T := TX1) (N := 12) (ci := 1) K (ctX1_floorAt l D cyI cyJ cyS a0 i1 i4 c_size c_floors r_1 hc) (gdV mcL mw_17_1 mw_16_11 mw_16_12 mw_2_7 mw_16_13) rfl ⟨rfl, rfl⟩ hyX1_floorAt ⟨Nat.le_of_ble_eq_true rfl, Nat.le_of_ble_eq_true rfl, Nat.le_of_ble_eq_true rfl, Nat.le_of_ble_eq_true rfl⟩ [0, 1] (by decide) rfl [some 0, some 1, none] (by decide) rfl rfl 0 rfl rfl rfl rfl (Nat.le_of_ble_eq_true rfl) dX1_liftStops_20 rfl rfl ?_
      refine j_istore (lv' := [(5, .int r_1), (0, .ref (a0 0)), (1, .int i1), (2, .int i2), (3, .int i3), (4, .int i4)]) K (by decide) rfl dX1_liftStops_23 rfl ?_
      refine j_iload K 0 rfl dX1_liftStops_25 rfl ?_
      refine j_if_le (tgt := 58) K dX1_liftStops_27 (by decide) rfl h (fun h => ?_) (fun h => ?_)
      · refine j_sub [1, 2, 3, 4, 5] (lv' := [(0, .ref (a0 0)), (1, .int i1), (2, .int i2), (3, .int i3), (4, .int i4)]) rfl ?_
        exact wX1_liftStops_58 K a0 i1 c_size c_floors c_lefts o_r (fX1_liftStops_7 i1 c_size c_floors c_lefts n) (fun z0 z1 z2 hq => ih z0 z1 z2 hq) i2 i3 i4 h
      · refine j_iload_n K 3 rfl dX1_liftStops_30 rfl ?_
        refine j_iconst (v := (1 : Int32)) K (by decide) dX1_liftStops_31 rfl ?_
        refine j_iload K 0 rfl dX1_liftStops_32 rfl ?_
        refine j_ishl K dX1_liftStops_34 rfl ?_
        refine j_ior K dX1_liftStops_35 rfl ?_
        refine j_nmI h (fun i2_3 h => ?_)
        refine j_istore_n (lv' := [(2, .int i2_3), (5, .int r_1), (0, .ref (a0 0)), (1, .int i1), (3, .int i3), (4, .int i4)]) K (by decide) rfl dX1_liftStops_36 rfl ?_
        refine j_iload_n K 4 rfl dX1_liftStops_37 rfl ?_
        refine j_aload_n K 2 rfl dX1_liftStops_38 rfl ?_
        refine j_iload_n K 3 rfl dX1_liftStops_39 rfl ?_
        refine j_iload K 5 rfl dX1_liftStops_40 rfl ?_
        obtain ⟨r_4, hc, h⟩ := bd1_some h
        refine j_callV (rest := [.int i3]) (st1 := [.int r_4, .int i3]) (ws' := (uX1_liftStops cyI cyJ cyS a0 c_size c_floors c_lefts)) (T := TX1) (N := 12) (ci := 1) K (ctX1_owes l D cyI cyJ cyS a0 i1 i4 c_size c_floors c_lefts r_4 hc) (gdV mcL mw_20_19 mw_16_19 mw_16_20 mw_2_7 mw_16_21) rfl ⟨rfl, rfl⟩ hyX1_owes ⟨Nat.le_of_ble_eq_true rfl, Nat.le_of_ble_eq_true rfl, Nat.le_of_ble_eq_true rfl, Nat.le_of_ble_eq_true rfl⟩ [0, 1, 2] (by decide) rfl [some 0, some 1, some 2] (by decide) rfl rfl 0 rfl rfl rfl rfl (Nat.le_of_ble_eq_true rfl) dX1_liftStops_42 rfl rfl ?_
        refine j_if_eq (tgt := 55) K dX1_liftStops_45 (by decide) rfl h (fun h => ?_) (fun h => ?_)
        · refine j_iconst (v := (0 : Int32)) K (by decide) dX1_liftStops_55 rfl ?_
          refine j_sub [2, 3, 0, 5] (lv' := [(0, .ref (a0 0)), (1, .int i1), (2, .int i2_3), (4, .int i4)]) rfl ?_
          exact wX1_liftStops_56 K a0 i1 c_size c_floors c_lefts o_r (fX1_liftStops_7 i1 c_size c_floors c_lefts n) (fun z0 z1 z2 hq => ih z0 z1 z2 hq) i2_3 i4 (0 : Int32) i3 h
        · refine j_iconst (v := (1 : Int32)) K (by decide) dX1_liftStops_48 rfl ?_
          refine j_iload K 1 rfl dX1_liftStops_49 rfl ?_
          refine j_ishl K dX1_liftStops_51 rfl ?_
          refine j_goto (pc' := 56) K dX1_liftStops_52 (by decide) ?_
          refine j_sub [2, 3, 0, 5] (lv' := [(0, .ref (a0 0)), (1, .int i1), (2, .int i2_3), (4, .int i4)]) rfl ?_
          exact wX1_liftStops_56 K a0 i1 c_size c_floors c_lefts o_r (fX1_liftStops_7 i1 c_size c_floors c_lefts n) (fun z0 z1 z2 hq => ih z0 z1 z2 hq) i2_3 i4 ((1 : Int32) <<< (r_1 &&& (31 : Int32))) i3 h
set_option maxRecDepth 100000 in
set_option maxHeartbeats 4000000 in
theorem ctX1_liftStops (l : Launch) (D : va_G) (cyI cyJ cyS : ClassId) (a0 : Nat → Nat) (i1 : Int32) (c_size : Int32) (c_floors : Nat → Int32) (c_lefts : Nat → Int32) (o_r : Int32) (h : fX1_liftStops i1 c_size c_floors c_lefts = some (o_r)) : jC l yX1_liftStops wdX1_liftStops rmX1_liftStops D vwCl (tyz cyI cyJ cyS) [.ref (a0 0), .int i1] (uX1_liftStops cyI cyJ cyS a0 c_size c_floors c_lefts) (some (.int o_r)) (uX1_liftStops cyI cyJ cyS a0 c_size c_floors c_lefts) := by
  refine jC_of (cc := cX1_liftStops) (nL := 6) (ret := (some .int)) (own := RX1) (lv := [(0, .ref (a0 0)), (1, .int i1)]) (by decide) rfl rfl (Nat.le_of_ble_eq_true rfl) rfl ?_
  intro p e s m args below meth c A K
  unfold fX1_liftStops at h
  refine j_iconst (v := (0 : Int32)) K (by decide) dX1_liftStops_0 rfl ?_
  refine j_istore_n (lv' := [(2, .int (0 : Int32)), (0, .ref (a0 0)), (1, .int i1)]) K (by decide) rfl dX1_liftStops_1 rfl ?_
  refine j_iconst (v := (0 : Int32)) K (by decide) dX1_liftStops_2 rfl ?_
  refine j_istore_n (lv' := [(3, .int (0 : Int32)), (2, .int (0 : Int32)), (0, .ref (a0 0)), (1, .int i1)]) K (by decide) rfl dX1_liftStops_3 rfl ?_
  refine j_iconst (v := (0 : Int32)) K (by decide) dX1_liftStops_4 rfl ?_
  refine j_istore (lv' := [(4, .int (0 : Int32)), (3, .int (0 : Int32)), (2, .int (0 : Int32)), (0, .ref (a0 0)), (1, .int i1)]) K (by decide) rfl dX1_liftStops_5 rfl ?_
  refine j_sub [3, 4, 2, 1, 0] (lv' := [(0, .ref (a0 0)), (1, .int i1), (2, .int (0 : Int32)), (3, .int (0 : Int32)), (4, .int (0 : Int32))]) rfl ?_
  exact wX1_liftStops_7 K a0 i1 c_size c_floors c_lefts o_r jF (0 : Int32) (0 : Int32) (0 : Int32) h
abbrev uX1_view (cyI cyJ cyS : ClassId) (a0 : Nat → Nat) (c_size : Int32) (c_floors : Nat → Int32) : va_W := [((a0 0), .inr (1, [.int c_size, .ref (a0 1), .ref (a0 2), .ref (a0 3), .ref (a0 4), .ref (a0 5), .ref (a0 6), .ref (a0 7), .ref (a0 8), .ref (a0 9), .ref (a0 10), .ref (a0 11)])), ((a0 4), .inl (cyI, 192, .inl c_floors))]
abbrev rmX1_view : Room := { frames := 1, cells := 0, slots := 0, locals := 22 }
abbrev wdX1_view : List Cond := .code yX1_view cX1_view 4 (some .int) :: wsL_law
theorem hyX1_view : yX1_view.cls = RX1 ∧ yX1_view.cls ≠ "java/lang/invoke/MethodHandle" ∧ yX1_view.cls ≠ "java/lang/invoke/VarHandle" ∧ (parseMethodDescriptor yX1_view.desc).map (fun d => d.parameters.length) = some 1 := by decide +kernel
set_option maxRecDepth 100000 in
set_option maxHeartbeats 4000000 in
theorem wX1_view_4 (K : jK p s m args meth c A D vwCl (tyz cyI cyJ cyS) cX1_view 4 RX1 wdX1_view (some .int)) (a0 : Nat → Nat)  (i1 : Int32) (c_size : Int32) (c_floors : Nat → Int32) (o_r : Int32)   : ∀ (n : Nat) (i2 : Int32) (i3 : Int32), fX1_view_4 i1 c_size c_floors  n i2 i3 = some (o_r) → jw p l e rmX1_view s m args below meth c (jQ below args s A D vwCl (tyz cyI cyJ cyS) 0 0 (some (.int o_r)) (uX1_view cyI cyJ cyS a0 c_size c_floors)) A D vwCl 4 0 0 4 [(0, .ref (a0 0)), (1, .int i1), (2, .int i2), (3, .int i3)] [] (uX1_view cyI cyJ cyS a0 c_size c_floors) := by
  intro n
  induction n with
  | zero => intro i2 i3 h; cases h
  | succ n ih =>
    intro i2 i3 h
    have h : bX1_view_4 i1 c_size c_floors  (fX1_view_4 i1 c_size c_floors  n) i2 i3 = some (o_r) := h
    unfold bX1_view_4 at h
    refine j_iload_n K 3 rfl dX1_view_4 rfl ?_
    refine j_aload_n K 0 rfl dX1_view_5 rfl ?_
    refine j_getf (C := RX1) (T := TX1) (N := 12) (ci := 1) K icX1 0 0 (List.mem_cons_of_mem _ mw_4_6) rfl rfl rfl (by decide) rfl dX1_view_6 rfl ?_
    refine j_icmp_ge (tgt := 31) K dX1_view_9 (by decide) rfl h (fun h => ?_) (fun h => ?_)
    · refine j_iload_n K 2 rfl dX1_view_31 rfl ?_
      have h := Option.some.inj h
      subst h
      exact j_iret K dX1_view_32
    · refine j_iload_n K 2 rfl dX1_view_12 rfl ?_
      refine j_iconst (v := (4 : Int32)) K (by decide) dX1_view_13 rfl ?_
      refine j_ishl K dX1_view_14 rfl ?_
      refine j_aload_n K 0 rfl dX1_view_15 rfl ?_
      refine j_iload_n K 1 rfl dX1_view_16 rfl ?_
      refine j_iload_n K 3 rfl dX1_view_17 rfl ?_
      obtain ⟨r_1, hc, h⟩ := bd1_some h
      refine j_callV (rest := [.int (i2 <<< ((4 : Int32) &&& (31 : Int32)))]) (st1 := [.int r_1, .int (i2 <<< ((4 : Int32) &&& (31 : Int32)))]) (ws' := (uX1_view cyI cyJ cyS a0 c_size c_floors)) (T := TX1) (N := 12) (ci := 1) K (ctX1_floorAt l D cyI cyJ cyS a0 i1 i3 c_size c_floors r_1 hc) (gdV mcL mw_17_1 mw_16_11 mw_16_12 mw_2_7 mw_16_13) rfl ⟨rfl, rfl⟩ hyX1_floorAt ⟨Nat.le_of_ble_eq_true rfl, Nat.le_of_ble_eq_true rfl, Nat.le_of_ble_eq_true rfl, Nat.le_of_ble_eq_true rfl⟩ [0, 1] (by decide) rfl [some 0, some 1] (by decide) rfl rfl 0 rfl rfl rfl rfl (Nat.le_of_ble_eq_true rfl) dX1_view_18 rfl rfl ?_
      refine j_iconst (v := (-1 : Int32)) K (by decide) dX1_view_21 rfl ?_
      refine j_isub K dX1_view_22 rfl ?_
      refine j_ior K dX1_view_23 rfl ?_
      refine j_nmI h (fun i2_2 h => ?_)
      refine j_istore_n (lv' := [(2, .int i2_2), (0, .ref (a0 0)), (1, .int i1), (3, .int i3)]) K (by decide) rfl dX1_view_24 rfl ?_
      refine j_iincN (lf := fun z => [(3, .int z), (2, .int i2_2), (0, .ref (a0 0)), (1, .int i1)]) K (v := i3 + (1 : Int32)) (k := 3) rfl rfl (by decide) (fun _ => rfl) dX1_view_25 rfl h (fun i3_3 h => ?_)
      refine j_goto (pc' := 4) K dX1_view_28 (by decide) ?_
      refine j_sub [2, 3, 1, 0] (lv' := [(0, .ref (a0 0)), (1, .int i1), (2, .int i2_2), (3, .int i3_3)]) rfl ?_
      exact ih i2_2 i3_3 h
set_option maxRecDepth 100000 in
set_option maxHeartbeats 4000000 in
theorem ctX1_view (l : Launch) (D : va_G) (cyI cyJ cyS : ClassId) (a0 : Nat → Nat) (i1 : Int32) (c_size : Int32) (c_floors : Nat → Int32) (o_r : Int32) (h : fX1_view i1 c_size c_floors = some (o_r)) : jC l yX1_view wdX1_view rmX1_view D vwCl (tyz cyI cyJ cyS) [.ref (a0 0), .int i1] (uX1_view cyI cyJ cyS a0 c_size c_floors) (some (.int o_r)) (uX1_view cyI cyJ cyS a0 c_size c_floors) := by
  refine jC_of (cc := cX1_view) (nL := 4) (ret := (some .int)) (own := RX1) (lv := [(0, .ref (a0 0)), (1, .int i1)]) (by decide) rfl rfl (Nat.le_of_ble_eq_true rfl) rfl ?_
  intro p e s m args below meth c A K
  unfold fX1_view at h
  refine j_iconst (v := (0 : Int32)) K (by decide) dX1_view_0 rfl ?_
  refine j_istore_n (lv' := [(2, .int (0 : Int32)), (0, .ref (a0 0)), (1, .int i1)]) K (by decide) rfl dX1_view_1 rfl ?_
  refine j_iconst (v := (0 : Int32)) K (by decide) dX1_view_2 rfl ?_
  refine j_istore_n (lv' := [(3, .int (0 : Int32)), (2, .int (0 : Int32)), (0, .ref (a0 0)), (1, .int i1)]) K (by decide) rfl dX1_view_3 rfl ?_
  refine j_sub [2, 3, 1, 0] (lv' := [(0, .ref (a0 0)), (1, .int i1), (2, .int (0 : Int32)), (3, .int (0 : Int32))]) rfl ?_
  exact wX1_view_4 K a0 i1 c_size c_floors o_r jF (0 : Int32) (0 : Int32) h
abbrev uX1_highestOf (cyI cyJ cyS : ClassId) (a0 : Nat → Nat) (c_size : Int32) (c_floors : Nat → Int32) : va_W := [((a0 0), .inr (1, [.int c_size, .ref (a0 1), .ref (a0 2), .ref (a0 3), .ref (a0 4), .ref (a0 5), .ref (a0 6), .ref (a0 7), .ref (a0 8), .ref (a0 9), .ref (a0 10), .ref (a0 11)])), ((a0 4), .inl (cyI, 192, .inl c_floors))]
abbrev rmX1_highestOf : Room := { frames := 1, cells := 0, slots := 0, locals := 23 }
abbrev wdX1_highestOf : List Cond := .code yX1_highestOf cX1_highestOf 4 (some .int) :: wsL_law
theorem hyX1_highestOf : yX1_highestOf.cls = RX1 ∧ yX1_highestOf.cls ≠ "java/lang/invoke/MethodHandle" ∧ yX1_highestOf.cls ≠ "java/lang/invoke/VarHandle" ∧ (parseMethodDescriptor yX1_highestOf.desc).map (fun d => d.parameters.length) = some 1 := by decide +kernel
set_option maxRecDepth 100000 in
set_option maxHeartbeats 4000000 in
theorem wX1_highestOf_4 (K : jK p s m args meth c A D vwCl (tyz cyI cyJ cyS) cX1_highestOf 4 RX1 wdX1_highestOf (some .int)) (a0 : Nat → Nat) (c_size : Int32) (i1 : Int32) (c_floors : Nat → Int32) (o_r : Int32)   : ∀ (n : Nat) (i2 : Int32) (i3 : Int32), fX1_highestOf_4 i1 c_floors  n i2 i3 = some (o_r) → jw p l e rmX1_highestOf s m args below meth c (jQ below args s A D vwCl (tyz cyI cyJ cyS) 0 0 (some (.int o_r)) (uX1_highestOf cyI cyJ cyS a0 c_size c_floors)) A D vwCl 4 0 0 4 [(0, .ref (a0 0)), (1, .int i1), (2, .int i2), (3, .int i3)] [] (uX1_highestOf cyI cyJ cyS a0 c_size c_floors) := by
  intro n
  induction n with
  | zero => intro i2 i3 h; cases h
  | succ n ih =>
    intro i2 i3 h
    have h : bX1_highestOf_4 i1 c_floors  (fX1_highestOf_4 i1 c_floors  n) i2 i3 = some (o_r) := h
    unfold bX1_highestOf_4 at h
    refine j_iload_n K 3 rfl dX1_highestOf_4 rfl ?_
    refine j_bipush (v := (24 : Int32)) K (by decide) dX1_highestOf_5 rfl ?_
    refine j_icmp_ge (tgt := 27) K dX1_highestOf_7 (by decide) rfl h (fun h => ?_) (fun h => ?_)
    · refine j_iload_n K 2 rfl dX1_highestOf_27 rfl ?_
      have h := Option.some.inj h
      subst h
      exact j_iret K dX1_highestOf_28
    · refine j_iload_n K 2 rfl dX1_highestOf_10 rfl ?_
      refine j_aload_n K 0 rfl dX1_highestOf_11 rfl ?_
      refine j_iload_n K 3 rfl dX1_highestOf_12 rfl ?_
      refine j_iload_n K 1 rfl dX1_highestOf_13 rfl ?_
      obtain ⟨r_1, hc, h⟩ := bd1_some h
      refine j_callV (rest := [.int i2]) (st1 := [.int r_1, .int i2]) (ws' := (uX1_highestOf cyI cyJ cyS a0 c_size c_floors)) (T := TX1) (N := 12) (ci := 1) K (ctX1_floorAt l D cyI cyJ cyS a0 i3 i1 c_size c_floors r_1 hc) (gdV mcL mw_17_1 mw_16_11 mw_16_12 mw_2_7 mw_16_13) rfl ⟨rfl, rfl⟩ hyX1_floorAt ⟨Nat.le_of_ble_eq_true rfl, Nat.le_of_ble_eq_true rfl, Nat.le_of_ble_eq_true rfl, Nat.le_of_ble_eq_true rfl⟩ [0, 1] (by decide) rfl [some 0, some 1] (by decide) rfl rfl 0 rfl rfl rfl rfl (Nat.le_of_ble_eq_true rfl) dX1_highestOf_14 rfl rfl ?_
      refine j_mmax K (List.mem_cons_of_mem _ mw_16_22) (List.mem_cons_of_mem _ mw_16_23) (List.mem_cons_of_mem _ mw_14_16) (List.mem_cons_of_mem _ mw_17_0) ⟨Nat.le_of_ble_eq_true rfl, Nat.le_of_ble_eq_true rfl, Nat.le_of_ble_eq_true rfl, Nat.le_of_ble_eq_true rfl⟩ dX1_highestOf_17 rfl ?_
      refine j_nmI h (fun i2_2 h => ?_)
      refine j_istore_n (lv' := [(2, .int i2_2), (0, .ref (a0 0)), (1, .int i1), (3, .int i3)]) K (by decide) rfl dX1_highestOf_20 rfl ?_
      refine j_iincN (lf := fun z => [(3, .int z), (2, .int i2_2), (0, .ref (a0 0)), (1, .int i1)]) K (v := i3 + (1 : Int32)) (k := 3) rfl rfl (by decide) (fun _ => rfl) dX1_highestOf_21 rfl h (fun i3_3 h => ?_)
      refine j_goto (pc' := 4) K dX1_highestOf_24 (by decide) ?_
      refine j_sub [2, 3, 1, 0] (lv' := [(0, .ref (a0 0)), (1, .int i1), (2, .int i2_2), (3, .int i3_3)]) rfl ?_
      exact ih i2_2 i3_3 h
set_option maxRecDepth 100000 in
set_option maxHeartbeats 4000000 in
theorem ctX1_highestOf (l : Launch) (D : va_G) (cyI cyJ cyS : ClassId) (a0 : Nat → Nat) (i1 : Int32) (c_size : Int32) (c_floors : Nat → Int32) (o_r : Int32) (h : fX1_highestOf i1 c_floors = some (o_r)) : jC l yX1_highestOf wdX1_highestOf rmX1_highestOf D vwCl (tyz cyI cyJ cyS) [.ref (a0 0), .int i1] (uX1_highestOf cyI cyJ cyS a0 c_size c_floors) (some (.int o_r)) (uX1_highestOf cyI cyJ cyS a0 c_size c_floors) := by
  refine jC_of (cc := cX1_highestOf) (nL := 4) (ret := (some .int)) (own := RX1) (lv := [(0, .ref (a0 0)), (1, .int i1)]) (by decide) rfl rfl (Nat.le_of_ble_eq_true rfl) rfl ?_
  intro p e s m args below meth c A K
  unfold fX1_highestOf at h
  refine j_iconst (v := (-1 : Int32)) K (by decide) dX1_highestOf_0 rfl ?_
  refine j_istore_n (lv' := [(2, .int (-1 : Int32)), (0, .ref (a0 0)), (1, .int i1)]) K (by decide) rfl dX1_highestOf_1 rfl ?_
  refine j_iconst (v := (0 : Int32)) K (by decide) dX1_highestOf_2 rfl ?_
  refine j_istore_n (lv' := [(3, .int (0 : Int32)), (2, .int (-1 : Int32)), (0, .ref (a0 0)), (1, .int i1)]) K (by decide) rfl dX1_highestOf_3 rfl ?_
  refine j_sub [2, 3, 1, 0] (lv' := [(0, .ref (a0 0)), (1, .int i1), (2, .int (-1 : Int32)), (3, .int (0 : Int32))]) rfl ?_
  exact wX1_highestOf_4 K a0 c_size i1 c_floors o_r jF (-1 : Int32) (0 : Int32) h
abbrev uX1_settledBits (cyI cyJ cyS : ClassId) (a0 : Nat → Nat) (c_size : Int32) (c_settled : Nat → Int32) : va_W := [((a0 0), .inr (1, [.int c_size, .ref (a0 1), .ref (a0 2), .ref (a0 3), .ref (a0 4), .ref (a0 5), .ref (a0 6), .ref (a0 7), .ref (a0 8), .ref (a0 9), .ref (a0 10), .ref (a0 11)])), ((a0 1), .inl (cyI, 8, .inl c_settled))]
abbrev rmX1_settledBits : Room := { frames := 0, cells := 0, slots := 0, locals := 0 }
abbrev wdX1_settledBits : List Cond := .code yX1_settledBits cX1_settledBits 3 (some .int) :: wsL_law
theorem hyX1_settledBits : yX1_settledBits.cls = RX1 ∧ yX1_settledBits.cls ≠ "java/lang/invoke/MethodHandle" ∧ yX1_settledBits.cls ≠ "java/lang/invoke/VarHandle" ∧ (parseMethodDescriptor yX1_settledBits.desc).map (fun d => d.parameters.length) = some 0 := by decide +kernel
set_option maxRecDepth 100000 in
set_option maxHeartbeats 4000000 in
theorem wX1_settledBits_28 (K : jK p s m args meth c A D vwCl (tyz cyI cyJ cyS) cX1_settledBits 3 RX1 wdX1_settledBits (some .int)) (a0 : Nat → Nat)  (c_size : Int32) (c_settled : Nat → Int32) (o_r : Int32)  (q_4 : Int32 → Int32 → Option (Int32)) (hq_4 : ∀ (i1 : Int32) (i2 : Int32), q_4 i1 i2 = some (o_r) → jw p l e rmX1_settledBits s m args below meth c (jQ below args s A D vwCl (tyz cyI cyJ cyS) 0 0 (some (.int o_r)) (uX1_settledBits cyI cyJ cyS a0 c_size c_settled)) A D vwCl 3 0 0 4 [(0, .ref (a0 0)), (1, .int i1), (2, .int i2)] [] (uX1_settledBits cyI cyJ cyS a0 c_size c_settled)) : ∀ (i1 : Int32) (i2 : Int32), fX1_settledBits_28 c_size c_settled q_4 i1 i2 = some (o_r) → jw p l e rmX1_settledBits s m args below meth c (jQ below args s A D vwCl (tyz cyI cyJ cyS) 0 0 (some (.int o_r)) (uX1_settledBits cyI cyJ cyS a0 c_size c_settled)) A D vwCl 3 0 0 28 [(0, .ref (a0 0)), (1, .int i1), (2, .int i2)] [] (uX1_settledBits cyI cyJ cyS a0 c_size c_settled) := by
  intro i1 i2 h
  unfold fX1_settledBits_28 at h
  refine j_iincN (lf := fun z => [(2, .int z), (0, .ref (a0 0)), (1, .int i1)]) K (v := i2 + (1 : Int32)) (k := 2) rfl rfl (by decide) (fun _ => rfl) dX1_settledBits_28 rfl h (fun i2_2 h => ?_)
  refine j_goto (pc' := 4) K dX1_settledBits_31 (by decide) ?_
  refine j_sub [1, 2, 0] (lv' := [(0, .ref (a0 0)), (1, .int i1), (2, .int i2_2)]) rfl ?_
  exact hq_4 i1 i2_2 h
set_option maxRecDepth 100000 in
set_option maxHeartbeats 4000000 in
theorem wX1_settledBits_4 (K : jK p s m args meth c A D vwCl (tyz cyI cyJ cyS) cX1_settledBits 3 RX1 wdX1_settledBits (some .int)) (a0 : Nat → Nat)  (c_size : Int32) (c_settled : Nat → Int32) (o_r : Int32)   : ∀ (n : Nat) (i1 : Int32) (i2 : Int32), fX1_settledBits_4 c_size c_settled  n i1 i2 = some (o_r) → jw p l e rmX1_settledBits s m args below meth c (jQ below args s A D vwCl (tyz cyI cyJ cyS) 0 0 (some (.int o_r)) (uX1_settledBits cyI cyJ cyS a0 c_size c_settled)) A D vwCl 3 0 0 4 [(0, .ref (a0 0)), (1, .int i1), (2, .int i2)] [] (uX1_settledBits cyI cyJ cyS a0 c_size c_settled) := by
  intro n
  induction n with
  | zero => intro i1 i2 h; cases h
  | succ n ih =>
    intro i1 i2 h
    have h : bX1_settledBits_4 c_size c_settled  (fX1_settledBits_4 c_size c_settled  n) i1 i2 = some (o_r) := h
    unfold bX1_settledBits_4 at h
    refine j_iload_n K 2 rfl dX1_settledBits_4 rfl ?_
    refine j_aload_n K 0 rfl dX1_settledBits_5 rfl ?_
    refine j_getf (C := RX1) (T := TX1) (N := 12) (ci := 1) K icX1 0 0 (List.mem_cons_of_mem _ mw_4_6) rfl rfl rfl (by decide) rfl dX1_settledBits_6 rfl ?_
    refine j_icmp_ge (tgt := 34) K dX1_settledBits_9 (by decide) rfl h (fun h => ?_) (fun h => ?_)
    · refine j_iload_n K 1 rfl dX1_settledBits_34 rfl ?_
      have h := Option.some.inj h
      subst h
      exact j_iret K dX1_settledBits_35
    · refine j_aload_n K 0 rfl dX1_settledBits_12 rfl ?_
      refine j_getf (C := RX1) (T := TX1) (N := 12) (ci := 1) K icX1 0 1 (List.mem_cons_of_mem _ mw_4_7) rfl rfl rfl (by decide) rfl dX1_settledBits_13 rfl ?_
      refine j_iload_n K 2 rfl dX1_settledBits_16 rfl ?_
      refine j_iald K 1 0 rfl rfl dX1_settledBits_17 rfl h (fun v_1 h => ?_)
      refine j_iconst (v := (-1 : Int32)) K (by decide) dX1_settledBits_18 rfl ?_
      refine j_icmp_eq (tgt := 28) K dX1_settledBits_19 (by decide) rfl h (fun h => ?_) (fun h => ?_)
      · refine j_sub [0, 1, 2] (lv' := [(0, .ref (a0 0)), (1, .int i1), (2, .int i2)]) rfl ?_
        exact wX1_settledBits_28 K a0 c_size c_settled o_r (fX1_settledBits_4 c_size c_settled n) (fun z0 z1 hq => ih z0 z1 hq) i1 i2 h
      · refine j_iload_n K 1 rfl dX1_settledBits_22 rfl ?_
        refine j_iconst (v := (1 : Int32)) K (by decide) dX1_settledBits_23 rfl ?_
        refine j_iload_n K 2 rfl dX1_settledBits_24 rfl ?_
        refine j_ishl K dX1_settledBits_25 rfl ?_
        refine j_ior K dX1_settledBits_26 rfl ?_
        refine j_nmI h (fun i1_3 h => ?_)
        refine j_istore_n (lv' := [(1, .int i1_3), (0, .ref (a0 0)), (2, .int i2)]) K (by decide) rfl dX1_settledBits_27 rfl ?_
        refine j_sub [1, 0, 2] (lv' := [(0, .ref (a0 0)), (1, .int i1_3), (2, .int i2)]) rfl ?_
        exact wX1_settledBits_28 K a0 c_size c_settled o_r (fX1_settledBits_4 c_size c_settled n) (fun z0 z1 hq => ih z0 z1 hq) i1_3 i2 h
set_option maxRecDepth 100000 in
set_option maxHeartbeats 4000000 in
theorem ctX1_settledBits (l : Launch) (D : va_G) (cyI cyJ cyS : ClassId) (a0 : Nat → Nat) (c_size : Int32) (c_settled : Nat → Int32) (o_r : Int32) (h : fX1_settledBits c_size c_settled = some (o_r)) : jC l yX1_settledBits wdX1_settledBits rmX1_settledBits D vwCl (tyz cyI cyJ cyS) [.ref (a0 0)] (uX1_settledBits cyI cyJ cyS a0 c_size c_settled) (some (.int o_r)) (uX1_settledBits cyI cyJ cyS a0 c_size c_settled) := by
  refine jC_of (cc := cX1_settledBits) (nL := 3) (ret := (some .int)) (own := RX1) (lv := [(0, .ref (a0 0))]) (by decide) rfl rfl (Nat.le_of_ble_eq_true rfl) rfl ?_
  intro p e s m args below meth c A K
  unfold fX1_settledBits at h
  refine j_iconst (v := (0 : Int32)) K (by decide) dX1_settledBits_0 rfl ?_
  refine j_istore_n (lv' := [(1, .int (0 : Int32)), (0, .ref (a0 0))]) K (by decide) rfl dX1_settledBits_1 rfl ?_
  refine j_iconst (v := (0 : Int32)) K (by decide) dX1_settledBits_2 rfl ?_
  refine j_istore_n (lv' := [(2, .int (0 : Int32)), (1, .int (0 : Int32)), (0, .ref (a0 0))]) K (by decide) rfl dX1_settledBits_3 rfl ?_
  refine j_sub [2, 1, 0] (lv' := [(0, .ref (a0 0)), (1, .int (0 : Int32)), (2, .int (0 : Int32))]) rfl ?_
  exact wX1_settledBits_4 K a0 c_size c_settled o_r jF (0 : Int32) (0 : Int32) h
abbrev uJ6_bitCount_0f7a4 (cyI cyJ cyS : ClassId) : va_W := []
abbrev rmJ6_bitCount_0f7a4 : Room := { frames := 0, cells := 0, slots := 0, locals := 0 }
abbrev wdJ6_bitCount_0f7a4 : List Cond := .code yJ6_bitCount_0f7a4 cJ6_bitCount_0f7a4 1 (some .int) :: wsL_law
theorem hzJ6_bitCount_0f7a4 : yJ6_bitCount_0f7a4.cls ≠ "java/lang/invoke/MethodHandle" ∧ yJ6_bitCount_0f7a4.cls ≠ "java/lang/invoke/VarHandle" ∧ (parseMethodDescriptor yJ6_bitCount_0f7a4.desc).map (fun d => d.parameters.length) = some 1 := by decide +kernel
set_option maxRecDepth 100000 in
set_option maxHeartbeats 4000000 in
theorem ctJ6_bitCount_0f7a4 (l : Launch) (D : va_G) (cyI cyJ cyS : ClassId) (i0 : Int32) (o_r : Int32) (h : fJ6_bitCount_0f7a4 i0 = some (o_r)) : jC l yJ6_bitCount_0f7a4 wdJ6_bitCount_0f7a4 rmJ6_bitCount_0f7a4 D vwCl (tyz cyI cyJ cyS) [.int i0] (uJ6_bitCount_0f7a4 cyI cyJ cyS ) (some (.int o_r)) (uJ6_bitCount_0f7a4 cyI cyJ cyS ) := by
  refine jC_of (cc := cJ6_bitCount_0f7a4) (nL := 1) (ret := (some .int)) (own := RJ6) (lv := [(0, .int i0)]) (by decide) rfl rfl (Nat.le_of_ble_eq_true rfl) rfl ?_
  intro p e s m args below meth c A K
  unfold fJ6_bitCount_0f7a4 at h
  refine j_iload_n K 0 rfl dJ6_bitCount_0f7a4_0 rfl ?_
  refine j_iload_n K 0 rfl dJ6_bitCount_0f7a4_1 rfl ?_
  refine j_iconst (v := (1 : Int32)) K (by decide) dJ6_bitCount_0f7a4_2 rfl ?_
  refine j_iushr K dJ6_bitCount_0f7a4_3 rfl ?_
  refine j_ldcw (v := (1431655765 : Int32)) K (List.mem_cons_of_mem _ mw_22_15) dJ6_bitCount_0f7a4_4 rfl ?_
  refine j_iand K dJ6_bitCount_0f7a4_7 rfl ?_
  refine j_isub K dJ6_bitCount_0f7a4_8 rfl ?_
  refine j_nmI h (fun i0_1 h => ?_)
  refine j_istore_n (lv' := [(0, .int i0_1)]) K (by decide) rfl dJ6_bitCount_0f7a4_9 rfl ?_
  refine j_iload_n K 0 rfl dJ6_bitCount_0f7a4_10 rfl ?_
  refine j_ldcw (v := (858993459 : Int32)) K (List.mem_cons_of_mem _ mw_22_16) dJ6_bitCount_0f7a4_11 rfl ?_
  refine j_iand K dJ6_bitCount_0f7a4_14 rfl ?_
  refine j_iload_n K 0 rfl dJ6_bitCount_0f7a4_15 rfl ?_
  refine j_iconst (v := (2 : Int32)) K (by decide) dJ6_bitCount_0f7a4_16 rfl ?_
  refine j_iushr K dJ6_bitCount_0f7a4_17 rfl ?_
  refine j_ldcw (v := (858993459 : Int32)) K (List.mem_cons_of_mem _ mw_22_16) dJ6_bitCount_0f7a4_18 rfl ?_
  refine j_iand K dJ6_bitCount_0f7a4_21 rfl ?_
  refine j_iadd K dJ6_bitCount_0f7a4_22 rfl ?_
  refine j_nmI h (fun i0_2 h => ?_)
  refine j_istore_n (lv' := [(0, .int i0_2)]) K (by decide) rfl dJ6_bitCount_0f7a4_23 rfl ?_
  refine j_iload_n K 0 rfl dJ6_bitCount_0f7a4_24 rfl ?_
  refine j_iload_n K 0 rfl dJ6_bitCount_0f7a4_25 rfl ?_
  refine j_iconst (v := (4 : Int32)) K (by decide) dJ6_bitCount_0f7a4_26 rfl ?_
  refine j_iushr K dJ6_bitCount_0f7a4_27 rfl ?_
  refine j_iadd K dJ6_bitCount_0f7a4_28 rfl ?_
  refine j_ldcw (v := (252645135 : Int32)) K (List.mem_cons_of_mem _ mw_22_17) dJ6_bitCount_0f7a4_29 rfl ?_
  refine j_iand K dJ6_bitCount_0f7a4_32 rfl ?_
  refine j_nmI h (fun i0_3 h => ?_)
  refine j_istore_n (lv' := [(0, .int i0_3)]) K (by decide) rfl dJ6_bitCount_0f7a4_33 rfl ?_
  refine j_iload_n K 0 rfl dJ6_bitCount_0f7a4_34 rfl ?_
  refine j_iload_n K 0 rfl dJ6_bitCount_0f7a4_35 rfl ?_
  refine j_bipush (v := (8 : Int32)) K (by decide) dJ6_bitCount_0f7a4_36 rfl ?_
  refine j_iushr K dJ6_bitCount_0f7a4_38 rfl ?_
  refine j_iadd K dJ6_bitCount_0f7a4_39 rfl ?_
  refine j_nmI h (fun i0_4 h => ?_)
  refine j_istore_n (lv' := [(0, .int i0_4)]) K (by decide) rfl dJ6_bitCount_0f7a4_40 rfl ?_
  refine j_iload_n K 0 rfl dJ6_bitCount_0f7a4_41 rfl ?_
  refine j_iload_n K 0 rfl dJ6_bitCount_0f7a4_42 rfl ?_
  refine j_bipush (v := (16 : Int32)) K (by decide) dJ6_bitCount_0f7a4_43 rfl ?_
  refine j_iushr K dJ6_bitCount_0f7a4_45 rfl ?_
  refine j_iadd K dJ6_bitCount_0f7a4_46 rfl ?_
  refine j_nmI h (fun i0_5 h => ?_)
  refine j_istore_n (lv' := [(0, .int i0_5)]) K (by decide) rfl dJ6_bitCount_0f7a4_47 rfl ?_
  refine j_iload_n K 0 rfl dJ6_bitCount_0f7a4_48 rfl ?_
  refine j_bipush (v := (63 : Int32)) K (by decide) dJ6_bitCount_0f7a4_49 rfl ?_
  refine j_iand K dJ6_bitCount_0f7a4_51 rfl ?_
  have h := Option.some.inj h
  subst h
  exact j_iret K dJ6_bitCount_0f7a4_52
abbrev uX1_settledInAll (cyI cyJ cyS : ClassId) (a0 : Nat → Nat) (c_size : Int32) (c_settled : Nat → Int32) : va_W := [((a0 0), .inr (1, [.int c_size, .ref (a0 1), .ref (a0 2), .ref (a0 3), .ref (a0 4), .ref (a0 5), .ref (a0 6), .ref (a0 7), .ref (a0 8), .ref (a0 9), .ref (a0 10), .ref (a0 11)])), ((a0 1), .inl (cyI, 8, .inl c_settled))]
abbrev rmX1_settledInAll : Room := { frames := 1, cells := 0, slots := 0, locals := 22 }
abbrev wdX1_settledInAll : List Cond := .code yX1_settledInAll cX1_settledInAll 1 (some .int) :: wsL_law
theorem hyX1_settledInAll : yX1_settledInAll.cls = RX1 ∧ yX1_settledInAll.cls ≠ "java/lang/invoke/MethodHandle" ∧ yX1_settledInAll.cls ≠ "java/lang/invoke/VarHandle" ∧ (parseMethodDescriptor yX1_settledInAll.desc).map (fun d => d.parameters.length) = some 0 := by decide +kernel
set_option maxRecDepth 100000 in
set_option maxHeartbeats 4000000 in
theorem ctX1_settledInAll (l : Launch) (D : va_G) (cyI cyJ cyS : ClassId) (a0 : Nat → Nat) (c_size : Int32) (c_settled : Nat → Int32) (o_r : Int32) (h : fX1_settledInAll c_size c_settled = some (o_r)) : jC l yX1_settledInAll wdX1_settledInAll rmX1_settledInAll D vwCl (tyz cyI cyJ cyS) [.ref (a0 0)] (uX1_settledInAll cyI cyJ cyS a0 c_size c_settled) (some (.int o_r)) (uX1_settledInAll cyI cyJ cyS a0 c_size c_settled) := by
  refine jC_of (cc := cX1_settledInAll) (nL := 1) (ret := (some .int)) (own := RX1) (lv := [(0, .ref (a0 0))]) (by decide) rfl rfl (Nat.le_of_ble_eq_true rfl) rfl ?_
  intro p e s m args below meth c A K
  unfold fX1_settledInAll at h
  refine j_aload_n K 0 rfl dX1_settledInAll_0 rfl ?_
  obtain ⟨r_1, hc, h⟩ := bd1_some h
  refine j_callV (rest := []) (st1 := [.int r_1]) (ws' := (uX1_settledInAll cyI cyJ cyS a0 c_size c_settled)) (T := TX1) (N := 12) (ci := 1) K (ctX1_settledBits l D cyI cyJ cyS a0 c_size c_settled r_1 hc) (gdV mcL mw_22_7 mw_22_8 mw_22_9 mw_2_7 mw_22_10) rfl ⟨rfl, rfl⟩ hyX1_settledBits ⟨Nat.le_of_ble_eq_true rfl, Nat.le_of_ble_eq_true rfl, Nat.le_of_ble_eq_true rfl, Nat.le_of_ble_eq_true rfl⟩ [0, 1] (by decide) rfl [some 0, some 1] (by decide) rfl rfl 0 rfl rfl rfl rfl (Nat.le_of_ble_eq_true rfl) dX1_settledInAll_1 rfl rfl ?_
  obtain ⟨r_2, hc, h⟩ := bd1_some h
  refine j_callS (rest := []) (st1 := [.int r_2]) (ws' := (uX1_settledInAll cyI cyJ cyS a0 c_size c_settled)) K (ctJ6_bitCount_0f7a4 l D cyI cyJ cyS r_1 r_2 hc) (gdS mcL mw_22_11 mw_22_12 mw_22_13 mw_22_14) rfl ⟨rfl, rfl⟩ hzJ6_bitCount_0f7a4 ⟨Nat.le_of_ble_eq_true rfl, Nat.le_of_ble_eq_true rfl, Nat.le_of_ble_eq_true rfl, Nat.le_of_ble_eq_true rfl⟩ [] (by decide) rfl [none, none] (by decide) rfl rfl rfl rfl (Nat.le_of_ble_eq_true rfl) dX1_settledInAll_4 rfl rfl ?_
  have h := Option.some.inj h
  subst h
  exact j_iret K dX1_settledInAll_7
abbrev uX1_fallsInAll (cyI cyJ cyS : ClassId) (a0 : Nat → Nat) (c_size : Int32) (c_falls : Nat → Int32) : va_W := [((a0 0), .inr (1, [.int c_size, .ref (a0 1), .ref (a0 2), .ref (a0 3), .ref (a0 4), .ref (a0 5), .ref (a0 6), .ref (a0 7), .ref (a0 8), .ref (a0 9), .ref (a0 10), .ref (a0 11)])), ((a0 2), .inl (cyI, 8, .inl c_falls))]
abbrev rmX1_fallsInAll : Room := { frames := 0, cells := 0, slots := 0, locals := 0 }
abbrev wdX1_fallsInAll : List Cond := .code yX1_fallsInAll cX1_fallsInAll 3 (some .int) :: wsL_law
theorem hyX1_fallsInAll : yX1_fallsInAll.cls = RX1 ∧ yX1_fallsInAll.cls ≠ "java/lang/invoke/MethodHandle" ∧ yX1_fallsInAll.cls ≠ "java/lang/invoke/VarHandle" ∧ (parseMethodDescriptor yX1_fallsInAll.desc).map (fun d => d.parameters.length) = some 0 := by decide +kernel
set_option maxRecDepth 100000 in
set_option maxHeartbeats 4000000 in
theorem wX1_fallsInAll_4 (K : jK p s m args meth c A D vwCl (tyz cyI cyJ cyS) cX1_fallsInAll 3 RX1 wdX1_fallsInAll (some .int)) (a0 : Nat → Nat)  (c_size : Int32) (c_falls : Nat → Int32) (o_r : Int32)   : ∀ (n : Nat) (i1 : Int32) (i2 : Int32), fX1_fallsInAll_4 c_size c_falls  n i1 i2 = some (o_r) → jw p l e rmX1_fallsInAll s m args below meth c (jQ below args s A D vwCl (tyz cyI cyJ cyS) 0 0 (some (.int o_r)) (uX1_fallsInAll cyI cyJ cyS a0 c_size c_falls)) A D vwCl 3 0 0 4 [(0, .ref (a0 0)), (1, .int i1), (2, .int i2)] [] (uX1_fallsInAll cyI cyJ cyS a0 c_size c_falls) := by
  intro n
  induction n with
  | zero => intro i1 i2 h; cases h
  | succ n ih =>
    intro i1 i2 h
    have h : bX1_fallsInAll_4 c_size c_falls  (fX1_fallsInAll_4 c_size c_falls  n) i1 i2 = some (o_r) := h
    unfold bX1_fallsInAll_4 at h
    refine j_iload_n K 2 rfl dX1_fallsInAll_4 rfl ?_
    refine j_aload_n K 0 rfl dX1_fallsInAll_5 rfl ?_
    refine j_getf (C := RX1) (T := TX1) (N := 12) (ci := 1) K icX1 0 0 (List.mem_cons_of_mem _ mw_4_6) rfl rfl rfl (by decide) rfl dX1_fallsInAll_6 rfl ?_
    refine j_icmp_ge (tgt := 27) K dX1_fallsInAll_9 (by decide) rfl h (fun h => ?_) (fun h => ?_)
    · refine j_iload_n K 1 rfl dX1_fallsInAll_27 rfl ?_
      have h := Option.some.inj h
      subst h
      exact j_iret K dX1_fallsInAll_28
    · refine j_iload_n K 1 rfl dX1_fallsInAll_12 rfl ?_
      refine j_aload_n K 0 rfl dX1_fallsInAll_13 rfl ?_
      refine j_getf (C := RX1) (T := TX1) (N := 12) (ci := 1) K icX1 0 2 (List.mem_cons_of_mem _ mw_4_8) rfl rfl rfl (by decide) rfl dX1_fallsInAll_14 rfl ?_
      refine j_iload_n K 2 rfl dX1_fallsInAll_17 rfl ?_
      refine j_iald K 1 0 rfl rfl dX1_fallsInAll_18 rfl h (fun v_1 h => ?_)
      refine j_iadd K dX1_fallsInAll_19 rfl ?_
      refine j_nmI h (fun i1_2 h => ?_)
      refine j_istore_n (lv' := [(1, .int i1_2), (0, .ref (a0 0)), (2, .int i2)]) K (by decide) rfl dX1_fallsInAll_20 rfl ?_
      refine j_iincN (lf := fun z => [(2, .int z), (1, .int i1_2), (0, .ref (a0 0))]) K (v := i2 + (1 : Int32)) (k := 2) rfl rfl (by decide) (fun _ => rfl) dX1_fallsInAll_21 rfl h (fun i2_3 h => ?_)
      refine j_goto (pc' := 4) K dX1_fallsInAll_24 (by decide) ?_
      refine j_sub [2, 1, 0] (lv' := [(0, .ref (a0 0)), (1, .int i1_2), (2, .int i2_3)]) rfl ?_
      exact ih i1_2 i2_3 h
set_option maxRecDepth 100000 in
set_option maxHeartbeats 4000000 in
theorem ctX1_fallsInAll (l : Launch) (D : va_G) (cyI cyJ cyS : ClassId) (a0 : Nat → Nat) (c_size : Int32) (c_falls : Nat → Int32) (o_r : Int32) (h : fX1_fallsInAll c_size c_falls = some (o_r)) : jC l yX1_fallsInAll wdX1_fallsInAll rmX1_fallsInAll D vwCl (tyz cyI cyJ cyS) [.ref (a0 0)] (uX1_fallsInAll cyI cyJ cyS a0 c_size c_falls) (some (.int o_r)) (uX1_fallsInAll cyI cyJ cyS a0 c_size c_falls) := by
  refine jC_of (cc := cX1_fallsInAll) (nL := 3) (ret := (some .int)) (own := RX1) (lv := [(0, .ref (a0 0))]) (by decide) rfl rfl (Nat.le_of_ble_eq_true rfl) rfl ?_
  intro p e s m args below meth c A K
  unfold fX1_fallsInAll at h
  refine j_iconst (v := (0 : Int32)) K (by decide) dX1_fallsInAll_0 rfl ?_
  refine j_istore_n (lv' := [(1, .int (0 : Int32)), (0, .ref (a0 0))]) K (by decide) rfl dX1_fallsInAll_1 rfl ?_
  refine j_iconst (v := (0 : Int32)) K (by decide) dX1_fallsInAll_2 rfl ?_
  refine j_istore_n (lv' := [(2, .int (0 : Int32)), (1, .int (0 : Int32)), (0, .ref (a0 0))]) K (by decide) rfl dX1_fallsInAll_3 rfl ?_
  refine j_sub [2, 1, 0] (lv' := [(0, .ref (a0 0)), (1, .int (0 : Int32)), (2, .int (0 : Int32))]) rfl ?_
  exact wX1_fallsInAll_4 K a0 c_size c_falls o_r jF (0 : Int32) (0 : Int32) h
abbrev uX1_passedInAll (cyI cyJ cyS : ClassId) (a0 : Nat → Nat) (c_size : Int32) (c_passed : Nat → Int32) : va_W := [((a0 0), .inr (1, [.int c_size, .ref (a0 1), .ref (a0 2), .ref (a0 3), .ref (a0 4), .ref (a0 5), .ref (a0 6), .ref (a0 7), .ref (a0 8), .ref (a0 9), .ref (a0 10), .ref (a0 11)])), ((a0 3), .inl (cyI, 8, .inl c_passed))]
abbrev rmX1_passedInAll : Room := { frames := 0, cells := 0, slots := 0, locals := 0 }
abbrev wdX1_passedInAll : List Cond := .code yX1_passedInAll cX1_passedInAll 3 (some .int) :: wsL_law
theorem hyX1_passedInAll : yX1_passedInAll.cls = RX1 ∧ yX1_passedInAll.cls ≠ "java/lang/invoke/MethodHandle" ∧ yX1_passedInAll.cls ≠ "java/lang/invoke/VarHandle" ∧ (parseMethodDescriptor yX1_passedInAll.desc).map (fun d => d.parameters.length) = some 0 := by decide +kernel
set_option maxRecDepth 100000 in
set_option maxHeartbeats 4000000 in
theorem wX1_passedInAll_4 (K : jK p s m args meth c A D vwCl (tyz cyI cyJ cyS) cX1_passedInAll 3 RX1 wdX1_passedInAll (some .int)) (a0 : Nat → Nat)  (c_size : Int32) (c_passed : Nat → Int32) (o_r : Int32)   : ∀ (n : Nat) (i1 : Int32) (i2 : Int32), fX1_passedInAll_4 c_size c_passed  n i1 i2 = some (o_r) → jw p l e rmX1_passedInAll s m args below meth c (jQ below args s A D vwCl (tyz cyI cyJ cyS) 0 0 (some (.int o_r)) (uX1_passedInAll cyI cyJ cyS a0 c_size c_passed)) A D vwCl 3 0 0 4 [(0, .ref (a0 0)), (1, .int i1), (2, .int i2)] [] (uX1_passedInAll cyI cyJ cyS a0 c_size c_passed) := by
  intro n
  induction n with
  | zero => intro i1 i2 h; cases h
  | succ n ih =>
    intro i1 i2 h
    have h : bX1_passedInAll_4 c_size c_passed  (fX1_passedInAll_4 c_size c_passed  n) i1 i2 = some (o_r) := h
    unfold bX1_passedInAll_4 at h
    refine j_iload_n K 2 rfl dX1_passedInAll_4 rfl ?_
    refine j_aload_n K 0 rfl dX1_passedInAll_5 rfl ?_
    refine j_getf (C := RX1) (T := TX1) (N := 12) (ci := 1) K icX1 0 0 (List.mem_cons_of_mem _ mw_4_6) rfl rfl rfl (by decide) rfl dX1_passedInAll_6 rfl ?_
    refine j_icmp_ge (tgt := 27) K dX1_passedInAll_9 (by decide) rfl h (fun h => ?_) (fun h => ?_)
    · refine j_iload_n K 1 rfl dX1_passedInAll_27 rfl ?_
      have h := Option.some.inj h
      subst h
      exact j_iret K dX1_passedInAll_28
    · refine j_iload_n K 1 rfl dX1_passedInAll_12 rfl ?_
      refine j_aload_n K 0 rfl dX1_passedInAll_13 rfl ?_
      refine j_getf (C := RX1) (T := TX1) (N := 12) (ci := 1) K icX1 0 3 (List.mem_cons_of_mem _ mw_4_9) rfl rfl rfl (by decide) rfl dX1_passedInAll_14 rfl ?_
      refine j_iload_n K 2 rfl dX1_passedInAll_17 rfl ?_
      refine j_iald K 1 0 rfl rfl dX1_passedInAll_18 rfl h (fun v_1 h => ?_)
      refine j_iadd K dX1_passedInAll_19 rfl ?_
      refine j_nmI h (fun i1_2 h => ?_)
      refine j_istore_n (lv' := [(1, .int i1_2), (0, .ref (a0 0)), (2, .int i2)]) K (by decide) rfl dX1_passedInAll_20 rfl ?_
      refine j_iincN (lf := fun z => [(2, .int z), (1, .int i1_2), (0, .ref (a0 0))]) K (v := i2 + (1 : Int32)) (k := 2) rfl rfl (by decide) (fun _ => rfl) dX1_passedInAll_21 rfl h (fun i2_3 h => ?_)
      refine j_goto (pc' := 4) K dX1_passedInAll_24 (by decide) ?_
      refine j_sub [2, 1, 0] (lv' := [(0, .ref (a0 0)), (1, .int i1_2), (2, .int i2_3)]) rfl ?_
      exact ih i1_2 i2_3 h
set_option maxRecDepth 100000 in
set_option maxHeartbeats 4000000 in
theorem ctX1_passedInAll (l : Launch) (D : va_G) (cyI cyJ cyS : ClassId) (a0 : Nat → Nat) (c_size : Int32) (c_passed : Nat → Int32) (o_r : Int32) (h : fX1_passedInAll c_size c_passed = some (o_r)) : jC l yX1_passedInAll wdX1_passedInAll rmX1_passedInAll D vwCl (tyz cyI cyJ cyS) [.ref (a0 0)] (uX1_passedInAll cyI cyJ cyS a0 c_size c_passed) (some (.int o_r)) (uX1_passedInAll cyI cyJ cyS a0 c_size c_passed) := by
  refine jC_of (cc := cX1_passedInAll) (nL := 3) (ret := (some .int)) (own := RX1) (lv := [(0, .ref (a0 0))]) (by decide) rfl rfl (Nat.le_of_ble_eq_true rfl) rfl ?_
  intro p e s m args below meth c A K
  unfold fX1_passedInAll at h
  refine j_iconst (v := (0 : Int32)) K (by decide) dX1_passedInAll_0 rfl ?_
  refine j_istore_n (lv' := [(1, .int (0 : Int32)), (0, .ref (a0 0))]) K (by decide) rfl dX1_passedInAll_1 rfl ?_
  refine j_iconst (v := (0 : Int32)) K (by decide) dX1_passedInAll_2 rfl ?_
  refine j_istore_n (lv' := [(2, .int (0 : Int32)), (1, .int (0 : Int32)), (0, .ref (a0 0))]) K (by decide) rfl dX1_passedInAll_3 rfl ?_
  refine j_sub [2, 1, 0] (lv' := [(0, .ref (a0 0)), (1, .int (0 : Int32)), (2, .int (0 : Int32))]) rfl ?_
  exact wX1_passedInAll_4 K a0 c_size c_passed o_r jF (0 : Int32) (0 : Int32) h
abbrev uX1_owedInAll (cyI cyJ cyS : ClassId) (a0 : Nat → Nat) (c_size : Int32) (c_floors : Nat → Int32) (c_lefts : Nat → Int32) : va_W := [((a0 0), .inr (1, [.int c_size, .ref (a0 1), .ref (a0 2), .ref (a0 3), .ref (a0 4), .ref (a0 5), .ref (a0 6), .ref (a0 7), .ref (a0 8), .ref (a0 9), .ref (a0 10), .ref (a0 11)])), ((a0 4), .inl (cyI, 192, .inl c_floors)), ((a0 5), .inl (cyI, 192, .inl c_lefts))]
abbrev rmX1_owedInAll : Room := { frames := 2, cells := 0, slots := 0, locals := 45 }
abbrev wdX1_owedInAll : List Cond := .code yX1_owedInAll cX1_owedInAll 4 (some .int) :: wsL_law
theorem hyX1_owedInAll : yX1_owedInAll.cls = RX1 ∧ yX1_owedInAll.cls ≠ "java/lang/invoke/MethodHandle" ∧ yX1_owedInAll.cls ≠ "java/lang/invoke/VarHandle" ∧ (parseMethodDescriptor yX1_owedInAll.desc).map (fun d => d.parameters.length) = some 0 := by decide +kernel
set_option maxRecDepth 100000 in
set_option maxHeartbeats 4000000 in
theorem wX1_owedInAll_35 (K : jK p s m args meth c A D vwCl (tyz cyI cyJ cyS) cX1_owedInAll 4 RX1 wdX1_owedInAll (some .int)) (a0 : Nat → Nat)  (c_size : Int32) (c_floors : Nat → Int32) (c_lefts : Nat → Int32) (o_r : Int32)  (q_4 : Int32 → Int32 → Option (Int32)) (q_12 : Int32 → Int32 → Int32 → Option (Int32)) (hq_4 : ∀ (i1 : Int32) (i2 : Int32), q_4 i1 i2 = some (o_r) → jw p l e rmX1_owedInAll s m args below meth c (jQ below args s A D vwCl (tyz cyI cyJ cyS) 0 0 (some (.int o_r)) (uX1_owedInAll cyI cyJ cyS a0 c_size c_floors c_lefts)) A D vwCl 4 0 0 4 [(0, .ref (a0 0)), (1, .int i1), (2, .int i2)] [] (uX1_owedInAll cyI cyJ cyS a0 c_size c_floors c_lefts)) (hq_12 : ∀ (i1 : Int32) (i2 : Int32) (i3 : Int32), q_12 i1 i2 i3 = some (o_r) → jw p l e rmX1_owedInAll s m args below meth c (jQ below args s A D vwCl (tyz cyI cyJ cyS) 0 0 (some (.int o_r)) (uX1_owedInAll cyI cyJ cyS a0 c_size c_floors c_lefts)) A D vwCl 4 0 0 12 [(0, .ref (a0 0)), (1, .int i1), (2, .int i2), (3, .int i3)] [] (uX1_owedInAll cyI cyJ cyS a0 c_size c_floors c_lefts)) : ∀ (i2 : Int32) (i3 : Int32) (t0 : Int32) (t1 : Int32), fX1_owedInAll_35 c_size c_floors c_lefts q_4 q_12 i2 i3 t0 t1 = some (o_r) → jw p l e rmX1_owedInAll s m args below meth c (jQ below args s A D vwCl (tyz cyI cyJ cyS) 0 0 (some (.int o_r)) (uX1_owedInAll cyI cyJ cyS a0 c_size c_floors c_lefts)) A D vwCl 4 0 0 35 [(0, .ref (a0 0)), (2, .int i2), (3, .int i3)] [.int t0, .int t1] (uX1_owedInAll cyI cyJ cyS a0 c_size c_floors c_lefts) := by
  intro i2 i3 t0 t1 h
  unfold fX1_owedInAll_35 at h
  refine j_iadd K dX1_owedInAll_35 rfl ?_
  refine j_nmI h (fun i1_3 h => ?_)
  refine j_istore_n (lv' := [(1, .int i1_3), (0, .ref (a0 0)), (2, .int i2), (3, .int i3)]) K (by decide) rfl dX1_owedInAll_36 rfl ?_
  refine j_iincN (lf := fun z => [(3, .int z), (1, .int i1_3), (0, .ref (a0 0)), (2, .int i2)]) K (v := i3 + (1 : Int32)) (k := 3) rfl rfl (by decide) (fun _ => rfl) dX1_owedInAll_37 rfl h (fun i3_4 h => ?_)
  refine j_goto (pc' := 12) K dX1_owedInAll_40 (by decide) ?_
  refine j_sub [2, 1, 3, 0] (lv' := [(0, .ref (a0 0)), (1, .int i1_3), (2, .int i2), (3, .int i3_4)]) rfl ?_
  exact hq_12 i1_3 i2 i3_4 h
set_option maxRecDepth 100000 in
set_option maxHeartbeats 4000000 in
theorem wX1_owedInAll_12 (K : jK p s m args meth c A D vwCl (tyz cyI cyJ cyS) cX1_owedInAll 4 RX1 wdX1_owedInAll (some .int)) (a0 : Nat → Nat)  (c_size : Int32) (c_floors : Nat → Int32) (c_lefts : Nat → Int32) (o_r : Int32)  (q_4 : Int32 → Int32 → Option (Int32)) (hq_4 : ∀ (i1 : Int32) (i2 : Int32), q_4 i1 i2 = some (o_r) → jw p l e rmX1_owedInAll s m args below meth c (jQ below args s A D vwCl (tyz cyI cyJ cyS) 0 0 (some (.int o_r)) (uX1_owedInAll cyI cyJ cyS a0 c_size c_floors c_lefts)) A D vwCl 4 0 0 4 [(0, .ref (a0 0)), (1, .int i1), (2, .int i2)] [] (uX1_owedInAll cyI cyJ cyS a0 c_size c_floors c_lefts)) : ∀ (n : Nat) (i1 : Int32) (i2 : Int32) (i3 : Int32), fX1_owedInAll_12 c_size c_floors c_lefts q_4 n i1 i2 i3 = some (o_r) → jw p l e rmX1_owedInAll s m args below meth c (jQ below args s A D vwCl (tyz cyI cyJ cyS) 0 0 (some (.int o_r)) (uX1_owedInAll cyI cyJ cyS a0 c_size c_floors c_lefts)) A D vwCl 4 0 0 12 [(0, .ref (a0 0)), (1, .int i1), (2, .int i2), (3, .int i3)] [] (uX1_owedInAll cyI cyJ cyS a0 c_size c_floors c_lefts) := by
  intro n
  induction n with
  | zero => intro i1 i2 i3 h; cases h
  | succ n ih =>
    intro i1 i2 i3 h
    have h : bX1_owedInAll_12 c_size c_floors c_lefts q_4 (fX1_owedInAll_12 c_size c_floors c_lefts q_4 n) i1 i2 i3 = some (o_r) := h
    unfold bX1_owedInAll_12 at h
    refine j_iload_n K 3 rfl dX1_owedInAll_12 rfl ?_
    refine j_aload_n K 0 rfl dX1_owedInAll_13 rfl ?_
    refine j_getf (C := RX1) (T := TX1) (N := 12) (ci := 1) K icX1 0 0 (List.mem_cons_of_mem _ mw_4_6) rfl rfl rfl (by decide) rfl dX1_owedInAll_14 rfl ?_
    refine j_icmp_ge (tgt := 43) K dX1_owedInAll_17 (by decide) rfl h (fun h => ?_) (fun h => ?_)
    · refine j_iincN (lf := fun z => [(2, .int z), (0, .ref (a0 0)), (1, .int i1), (3, .int i3)]) K (v := i2 + (1 : Int32)) (k := 2) rfl rfl (by decide) (fun _ => rfl) dX1_owedInAll_43 rfl h (fun i2_1 h => ?_)
      refine j_goto (pc' := 4) K dX1_owedInAll_46 (by decide) ?_
      refine j_sub [1, 2, 0] (lv' := [(0, .ref (a0 0)), (1, .int i1), (2, .int i2_1)]) rfl ?_
      exact hq_4 i1 i2_1 h
    · refine j_iload_n K 1 rfl dX1_owedInAll_20 rfl ?_
      refine j_aload_n K 0 rfl dX1_owedInAll_21 rfl ?_
      refine j_iload_n K 2 rfl dX1_owedInAll_22 rfl ?_
      refine j_iload_n K 3 rfl dX1_owedInAll_23 rfl ?_
      obtain ⟨r_2, hc, h⟩ := bd1_some h
      refine j_callV (rest := [.int i1]) (st1 := [.int r_2, .int i1]) (ws' := (uX1_owedInAll cyI cyJ cyS a0 c_size c_floors c_lefts)) (T := TX1) (N := 12) (ci := 1) K (ctX1_owes l D cyI cyJ cyS a0 i2 i3 c_size c_floors c_lefts r_2 hc) (gdV mcL mw_20_19 mw_16_19 mw_16_20 mw_2_7 mw_16_21) rfl ⟨rfl, rfl⟩ hyX1_owes ⟨Nat.le_of_ble_eq_true rfl, Nat.le_of_ble_eq_true rfl, Nat.le_of_ble_eq_true rfl, Nat.le_of_ble_eq_true rfl⟩ [0, 1, 2] (by decide) rfl [some 0, some 1, some 2] (by decide) rfl rfl 0 rfl rfl rfl rfl (Nat.le_of_ble_eq_true rfl) dX1_owedInAll_24 rfl rfl ?_
      refine j_if_eq (tgt := 34) K dX1_owedInAll_27 (by decide) rfl h (fun h => ?_) (fun h => ?_)
      · refine j_iconst (v := (0 : Int32)) K (by decide) dX1_owedInAll_34 rfl ?_
        refine j_sub [0, 2, 3] (lv' := [(0, .ref (a0 0)), (2, .int i2), (3, .int i3)]) rfl ?_
        exact wX1_owedInAll_35 K a0 c_size c_floors c_lefts o_r q_4 (fX1_owedInAll_12 c_size c_floors c_lefts q_4 n) hq_4 (fun z0 z1 z2 hq => ih z0 z1 z2 hq) i2 i3 (0 : Int32) i1 h
      · refine j_iconst (v := (1 : Int32)) K (by decide) dX1_owedInAll_30 rfl ?_
        refine j_goto (pc' := 35) K dX1_owedInAll_31 (by decide) ?_
        refine j_sub [0, 2, 3] (lv' := [(0, .ref (a0 0)), (2, .int i2), (3, .int i3)]) rfl ?_
        exact wX1_owedInAll_35 K a0 c_size c_floors c_lefts o_r q_4 (fX1_owedInAll_12 c_size c_floors c_lefts q_4 n) hq_4 (fun z0 z1 z2 hq => ih z0 z1 z2 hq) i2 i3 (1 : Int32) i1 h
set_option maxRecDepth 100000 in
set_option maxHeartbeats 4000000 in
theorem wX1_owedInAll_4 (K : jK p s m args meth c A D vwCl (tyz cyI cyJ cyS) cX1_owedInAll 4 RX1 wdX1_owedInAll (some .int)) (a0 : Nat → Nat)  (c_size : Int32) (c_floors : Nat → Int32) (c_lefts : Nat → Int32) (o_r : Int32)   : ∀ (n : Nat) (i1 : Int32) (i2 : Int32), fX1_owedInAll_4 c_size c_floors c_lefts  n i1 i2 = some (o_r) → jw p l e rmX1_owedInAll s m args below meth c (jQ below args s A D vwCl (tyz cyI cyJ cyS) 0 0 (some (.int o_r)) (uX1_owedInAll cyI cyJ cyS a0 c_size c_floors c_lefts)) A D vwCl 4 0 0 4 [(0, .ref (a0 0)), (1, .int i1), (2, .int i2)] [] (uX1_owedInAll cyI cyJ cyS a0 c_size c_floors c_lefts) := by
  intro n
  induction n with
  | zero => intro i1 i2 h; cases h
  | succ n ih =>
    intro i1 i2 h
    have h : bX1_owedInAll_4 c_size c_floors c_lefts  (fX1_owedInAll_4 c_size c_floors c_lefts  n) i1 i2 = some (o_r) := h
    unfold bX1_owedInAll_4 at h
    refine j_iload_n K 2 rfl dX1_owedInAll_4 rfl ?_
    refine j_bipush (v := (24 : Int32)) K (by decide) dX1_owedInAll_5 rfl ?_
    refine j_icmp_ge (tgt := 49) K dX1_owedInAll_7 (by decide) rfl h (fun h => ?_) (fun h => ?_)
    · refine j_iload_n K 1 rfl dX1_owedInAll_49 rfl ?_
      have h := Option.some.inj h
      subst h
      exact j_iret K dX1_owedInAll_50
    · refine j_iconst (v := (0 : Int32)) K (by decide) dX1_owedInAll_10 rfl ?_
      refine j_istore_n (lv' := [(3, .int (0 : Int32)), (0, .ref (a0 0)), (1, .int i1), (2, .int i2)]) K (by decide) rfl dX1_owedInAll_11 rfl ?_
      refine j_sub [1, 2, 3, 0] (lv' := [(0, .ref (a0 0)), (1, .int i1), (2, .int i2), (3, .int (0 : Int32))]) rfl ?_
      exact wX1_owedInAll_12 K a0 c_size c_floors c_lefts o_r (fX1_owedInAll_4 c_size c_floors c_lefts n) (fun z0 z1 hq => ih z0 z1 hq) jF i1 i2 (0 : Int32) h
set_option maxRecDepth 100000 in
set_option maxHeartbeats 4000000 in
theorem ctX1_owedInAll (l : Launch) (D : va_G) (cyI cyJ cyS : ClassId) (a0 : Nat → Nat) (c_size : Int32) (c_floors : Nat → Int32) (c_lefts : Nat → Int32) (o_r : Int32) (h : fX1_owedInAll c_size c_floors c_lefts = some (o_r)) : jC l yX1_owedInAll wdX1_owedInAll rmX1_owedInAll D vwCl (tyz cyI cyJ cyS) [.ref (a0 0)] (uX1_owedInAll cyI cyJ cyS a0 c_size c_floors c_lefts) (some (.int o_r)) (uX1_owedInAll cyI cyJ cyS a0 c_size c_floors c_lefts) := by
  refine jC_of (cc := cX1_owedInAll) (nL := 4) (ret := (some .int)) (own := RX1) (lv := [(0, .ref (a0 0))]) (by decide) rfl rfl (Nat.le_of_ble_eq_true rfl) rfl ?_
  intro p e s m args below meth c A K
  unfold fX1_owedInAll at h
  refine j_iconst (v := (0 : Int32)) K (by decide) dX1_owedInAll_0 rfl ?_
  refine j_istore_n (lv' := [(1, .int (0 : Int32)), (0, .ref (a0 0))]) K (by decide) rfl dX1_owedInAll_1 rfl ?_
  refine j_iconst (v := (0 : Int32)) K (by decide) dX1_owedInAll_2 rfl ?_
  refine j_istore_n (lv' := [(2, .int (0 : Int32)), (1, .int (0 : Int32)), (0, .ref (a0 0))]) K (by decide) rfl dX1_owedInAll_3 rfl ?_
  refine j_sub [2, 1, 0] (lv' := [(0, .ref (a0 0)), (1, .int (0 : Int32)), (2, .int (0 : Int32))]) rfl ?_
  exact wX1_owedInAll_4 K a0 c_size c_floors c_lefts o_r jF (0 : Int32) (0 : Int32) h
abbrev uX1_topTenant (cyI cyJ cyS : ClassId) (a0 : Nat → Nat) (c_size : Int32) (c_floors : Nat → Int32) : va_W := [((a0 0), .inr (1, [.int c_size, .ref (a0 1), .ref (a0 2), .ref (a0 3), .ref (a0 4), .ref (a0 5), .ref (a0 6), .ref (a0 7), .ref (a0 8), .ref (a0 9), .ref (a0 10), .ref (a0 11)])), ((a0 4), .inl (cyI, 192, .inl c_floors))]
abbrev rmX1_topTenant : Room := { frames := 1, cells := 0, slots := 0, locals := 22 }
abbrev wdX1_topTenant : List Cond := .code yX1_topTenant cX1_topTenant 4 (some .int) :: wsL_law
theorem hyX1_topTenant : yX1_topTenant.cls = RX1 ∧ yX1_topTenant.cls ≠ "java/lang/invoke/MethodHandle" ∧ yX1_topTenant.cls ≠ "java/lang/invoke/VarHandle" ∧ (parseMethodDescriptor yX1_topTenant.desc).map (fun d => d.parameters.length) = some 0 := by decide +kernel
set_option maxRecDepth 100000 in
set_option maxHeartbeats 4000000 in
theorem wX1_topTenant_35 (K : jK p s m args meth c A D vwCl (tyz cyI cyJ cyS) cX1_topTenant 4 RX1 wdX1_topTenant (some .int)) (a0 : Nat → Nat)  (c_size : Int32) (c_floors : Nat → Int32) (o_r : Int32)  (q_6 : Int32 → Int32 → Int32 → Option (Int32)) (hq_6 : ∀ (i1 : Int32) (i2 : Int32) (i3 : Int32), q_6 i1 i2 i3 = some (o_r) → jw p l e rmX1_topTenant s m args below meth c (jQ below args s A D vwCl (tyz cyI cyJ cyS) 0 0 (some (.int o_r)) (uX1_topTenant cyI cyJ cyS a0 c_size c_floors)) A D vwCl 4 0 0 6 [(0, .ref (a0 0)), (1, .int i1), (2, .int i2), (3, .int i3)] [] (uX1_topTenant cyI cyJ cyS a0 c_size c_floors)) : ∀ (i1 : Int32) (i2 : Int32) (i3 : Int32), fX1_topTenant_35 c_size c_floors q_6 i1 i2 i3 = some (o_r) → jw p l e rmX1_topTenant s m args below meth c (jQ below args s A D vwCl (tyz cyI cyJ cyS) 0 0 (some (.int o_r)) (uX1_topTenant cyI cyJ cyS a0 c_size c_floors)) A D vwCl 4 0 0 35 [(0, .ref (a0 0)), (1, .int i1), (2, .int i2), (3, .int i3)] [] (uX1_topTenant cyI cyJ cyS a0 c_size c_floors) := by
  intro i1 i2 i3 h
  unfold fX1_topTenant_35 at h
  refine j_iincN (lf := fun z => [(3, .int z), (0, .ref (a0 0)), (1, .int i1), (2, .int i2)]) K (v := i3 + (1 : Int32)) (k := 3) rfl rfl (by decide) (fun _ => rfl) dX1_topTenant_35 rfl h (fun i3_2 h => ?_)
  refine j_goto (pc' := 6) K dX1_topTenant_38 (by decide) ?_
  refine j_sub [1, 2, 3, 0] (lv' := [(0, .ref (a0 0)), (1, .int i1), (2, .int i2), (3, .int i3_2)]) rfl ?_
  exact hq_6 i1 i2 i3_2 h
set_option maxRecDepth 100000 in
set_option maxHeartbeats 4000000 in
theorem wX1_topTenant_6 (K : jK p s m args meth c A D vwCl (tyz cyI cyJ cyS) cX1_topTenant 4 RX1 wdX1_topTenant (some .int)) (a0 : Nat → Nat)  (c_size : Int32) (c_floors : Nat → Int32) (o_r : Int32)   : ∀ (n : Nat) (i1 : Int32) (i2 : Int32) (i3 : Int32), fX1_topTenant_6 c_size c_floors  n i1 i2 i3 = some (o_r) → jw p l e rmX1_topTenant s m args below meth c (jQ below args s A D vwCl (tyz cyI cyJ cyS) 0 0 (some (.int o_r)) (uX1_topTenant cyI cyJ cyS a0 c_size c_floors)) A D vwCl 4 0 0 6 [(0, .ref (a0 0)), (1, .int i1), (2, .int i2), (3, .int i3)] [] (uX1_topTenant cyI cyJ cyS a0 c_size c_floors) := by
  intro n
  induction n with
  | zero => intro i1 i2 i3 h; cases h
  | succ n ih =>
    intro i1 i2 i3 h
    have h : bX1_topTenant_6 c_size c_floors  (fX1_topTenant_6 c_size c_floors  n) i1 i2 i3 = some (o_r) := h
    unfold bX1_topTenant_6 at h
    refine j_iload_n K 3 rfl dX1_topTenant_6 rfl ?_
    refine j_aload_n K 0 rfl dX1_topTenant_7 rfl ?_
    refine j_getf (C := RX1) (T := TX1) (N := 12) (ci := 1) K icX1 0 0 (List.mem_cons_of_mem _ mw_4_6) rfl rfl rfl (by decide) rfl dX1_topTenant_8 rfl ?_
    refine j_icmp_ge (tgt := 41) K dX1_topTenant_11 (by decide) rfl h (fun h => ?_) (fun h => ?_)
    · refine j_iload_n K 1 rfl dX1_topTenant_41 rfl ?_
      have h := Option.some.inj h
      subst h
      exact j_iret K dX1_topTenant_42
    · refine j_aload_n K 0 rfl dX1_topTenant_14 rfl ?_
      refine j_bipush (v := (23 : Int32)) K (by decide) dX1_topTenant_15 rfl ?_
      refine j_iload_n K 3 rfl dX1_topTenant_17 rfl ?_
      obtain ⟨r_1, hc, h⟩ := bd1_some h
      refine j_callV (rest := []) (st1 := [.int r_1]) (ws' := (uX1_topTenant cyI cyJ cyS a0 c_size c_floors)) (T := TX1) (N := 12) (ci := 1) K (ctX1_floorAt l D cyI cyJ cyS a0 (23 : Int32) i3 c_size c_floors r_1 hc) (gdV mcL mw_17_1 mw_16_11 mw_16_12 mw_2_7 mw_16_13) rfl ⟨rfl, rfl⟩ hyX1_floorAt ⟨Nat.le_of_ble_eq_true rfl, Nat.le_of_ble_eq_true rfl, Nat.le_of_ble_eq_true rfl, Nat.le_of_ble_eq_true rfl⟩ [0, 1] (by decide) rfl [some 0, some 1] (by decide) rfl rfl 0 rfl rfl rfl rfl (Nat.le_of_ble_eq_true rfl) dX1_topTenant_18 rfl rfl ?_
      refine j_iload_n K 2 rfl dX1_topTenant_21 rfl ?_
      refine j_icmp_le (tgt := 35) K dX1_topTenant_22 (by decide) rfl h (fun h => ?_) (fun h => ?_)
      · refine j_sub [0, 1, 2, 3] (lv' := [(0, .ref (a0 0)), (1, .int i1), (2, .int i2), (3, .int i3)]) rfl ?_
        exact wX1_topTenant_35 K a0 c_size c_floors o_r (fX1_topTenant_6 c_size c_floors n) (fun z0 z1 z2 hq => ih z0 z1 z2 hq) i1 i2 i3 h
      · refine j_aload_n K 0 rfl dX1_topTenant_25 rfl ?_
        refine j_bipush (v := (23 : Int32)) K (by decide) dX1_topTenant_26 rfl ?_
        refine j_iload_n K 3 rfl dX1_topTenant_28 rfl ?_
        obtain ⟨r_3, hc, h⟩ := bd1_some h
        refine j_callV (rest := []) (st1 := [.int r_3]) (ws' := (uX1_topTenant cyI cyJ cyS a0 c_size c_floors)) (T := TX1) (N := 12) (ci := 1) K (ctX1_floorAt l D cyI cyJ cyS a0 (23 : Int32) i3 c_size c_floors r_3 hc) (gdV mcL mw_17_1 mw_16_11 mw_16_12 mw_2_7 mw_16_13) rfl ⟨rfl, rfl⟩ hyX1_floorAt ⟨Nat.le_of_ble_eq_true rfl, Nat.le_of_ble_eq_true rfl, Nat.le_of_ble_eq_true rfl, Nat.le_of_ble_eq_true rfl⟩ [0, 1] (by decide) rfl [some 0, some 1] (by decide) rfl rfl 0 rfl rfl rfl rfl (Nat.le_of_ble_eq_true rfl) dX1_topTenant_29 rfl rfl ?_
        refine j_istore_n (lv' := [(2, .int r_3), (0, .ref (a0 0)), (1, .int i1), (3, .int i3)]) K (by decide) rfl dX1_topTenant_32 rfl ?_
        refine j_iload_n K 3 rfl dX1_topTenant_33 rfl ?_
        refine j_istore_n (lv' := [(1, .int i3), (2, .int r_3), (0, .ref (a0 0)), (3, .int i3)]) K (by decide) rfl dX1_topTenant_34 rfl ?_
        refine j_sub [2, 0, 1, 3] (lv' := [(0, .ref (a0 0)), (1, .int i3), (2, .int r_3), (3, .int i3)]) rfl ?_
        exact wX1_topTenant_35 K a0 c_size c_floors o_r (fX1_topTenant_6 c_size c_floors n) (fun z0 z1 z2 hq => ih z0 z1 z2 hq) i3 r_3 i3 h
set_option maxRecDepth 100000 in
set_option maxHeartbeats 4000000 in
theorem ctX1_topTenant (l : Launch) (D : va_G) (cyI cyJ cyS : ClassId) (a0 : Nat → Nat) (c_size : Int32) (c_floors : Nat → Int32) (o_r : Int32) (h : fX1_topTenant c_size c_floors = some (o_r)) : jC l yX1_topTenant wdX1_topTenant rmX1_topTenant D vwCl (tyz cyI cyJ cyS) [.ref (a0 0)] (uX1_topTenant cyI cyJ cyS a0 c_size c_floors) (some (.int o_r)) (uX1_topTenant cyI cyJ cyS a0 c_size c_floors) := by
  refine jC_of (cc := cX1_topTenant) (nL := 4) (ret := (some .int)) (own := RX1) (lv := [(0, .ref (a0 0))]) (by decide) rfl rfl (Nat.le_of_ble_eq_true rfl) rfl ?_
  intro p e s m args below meth c A K
  unfold fX1_topTenant at h
  refine j_iconst (v := (-1 : Int32)) K (by decide) dX1_topTenant_0 rfl ?_
  refine j_istore_n (lv' := [(1, .int (-1 : Int32)), (0, .ref (a0 0))]) K (by decide) rfl dX1_topTenant_1 rfl ?_
  refine j_iconst (v := (-1 : Int32)) K (by decide) dX1_topTenant_2 rfl ?_
  refine j_istore_n (lv' := [(2, .int (-1 : Int32)), (1, .int (-1 : Int32)), (0, .ref (a0 0))]) K (by decide) rfl dX1_topTenant_3 rfl ?_
  refine j_iconst (v := (0 : Int32)) K (by decide) dX1_topTenant_4 rfl ?_
  refine j_istore_n (lv' := [(3, .int (0 : Int32)), (2, .int (-1 : Int32)), (1, .int (-1 : Int32)), (0, .ref (a0 0))]) K (by decide) rfl dX1_topTenant_5 rfl ?_
  refine j_sub [3, 2, 1, 0] (lv' := [(0, .ref (a0 0)), (1, .int (-1 : Int32)), (2, .int (-1 : Int32)), (3, .int (0 : Int32))]) rfl ?_
  exact wX1_topTenant_6 K a0 c_size c_floors o_r jF (-1 : Int32) (-1 : Int32) (0 : Int32) h
end GEN
