section GEN
variable {p : Program} {l : Launch} {e : Env} {s : State} {m : MethodId} {args : Array Value} {below : List Frame} {meth : Method} {c : Code} {A : Nat → Prop} {D : va_G} {cyI cyJ cyS : ClassId}
abbrev uX7_digestMonths (cyI cyJ cyS : ClassId) (a0 : Nat → Nat) (c_room : Int32) (c_finding : Int32) (c_courseKnown : Int32) (c_settledByKnown : Int32) (c_told_size : Int32) (c_told_sort : Nat → Int32) (c_told_paid : Nat → Int32) (c_told_wage : Nat → Int32) (c_events_size : Int32) (c_events_kind : Nat → Int32) (c_events_month : Nat → Int32) (c_events_number : Nat → Int32) (c_course_size : Int32) (c_course_settled : Nat → Int32) (c_course_falls : Nat → Int32) (c_course_passed : Nat → Int32) (c_course_floors : Nat → Int32) (c_course_lefts : Nat → Int32) (c_course_fallers : Nat → Int32) (c_course_floor : Nat → Int32) (c_course_before : Nat → Int32) (c_course_left : Nat → Int32) (c_course_order : Nat → Int32) (c_course_taken : Nat → Int32) : va_W := [((a0 0), .inr (7, [.ref (a0 1), .ref (a0 3), .ref (a0 7), .ref (a0 11), .ref (a0 15), .ref (a0 19), .ref (a0 31), .ref (a0 43), .ref (a0 44), .ref (a0 53), .ref (a0 54), .int c_room, .int c_finding, .int c_courseKnown, .int c_settledByKnown])), ((a0 3), .inr (5, [.ref (a0 4), .ref (a0 5), .ref (a0 6), .int c_told_size])), ((a0 4), .inl (cyI, 8, .inl c_told_sort)), ((a0 5), .inl (cyI, 8, .inl c_told_paid)), ((a0 6), .inl (cyI, 8, .inl c_told_wage)), ((a0 11), .inr (2, [.ref (a0 12), .ref (a0 13), .ref (a0 14), .int c_events_size])), ((a0 12), .inl (cyI, 8, .inl c_events_kind)), ((a0 13), .inl (cyI, 8, .inl c_events_month)), ((a0 14), .inl (cyI, 8, .inl c_events_number)), ((a0 19), .inr (1, [.int c_course_size, .ref (a0 20), .ref (a0 21), .ref (a0 22), .ref (a0 23), .ref (a0 24), .ref (a0 25), .ref (a0 26), .ref (a0 27), .ref (a0 28), .ref (a0 29), .ref (a0 30)])), ((a0 20), .inl (cyI, 8, .inl c_course_settled)), ((a0 21), .inl (cyI, 8, .inl c_course_falls)), ((a0 22), .inl (cyI, 8, .inl c_course_passed)), ((a0 23), .inl (cyI, 192, .inl c_course_floors)), ((a0 24), .inl (cyI, 192, .inl c_course_lefts)), ((a0 25), .inl (cyI, 24, .inl c_course_fallers)), ((a0 26), .inl (cyI, 8, .inl c_course_floor)), ((a0 27), .inl (cyI, 8, .inl c_course_before)), ((a0 28), .inl (cyI, 8, .inl c_course_left)), ((a0 29), .inl (cyI, 8, .inl c_course_order)), ((a0 30), .inl (cyI, 13, .inl c_course_taken))]
abbrev rmX7_digestMonths : Room := { frames := 6, cells := 0, slots := 0, locals := 140 }
abbrev wdX7_digestMonths : List Cond := .code yX7_digestMonths cX7_digestMonths 11 (some .long) :: wsL_law
theorem hyX7_digestMonths : yX7_digestMonths.cls = RX7 ∧ yX7_digestMonths.cls ≠ "java/lang/invoke/MethodHandle" ∧ yX7_digestMonths.cls ≠ "java/lang/invoke/VarHandle" ∧ (parseMethodDescriptor yX7_digestMonths.desc).map (fun d => d.parameters.length) = some 2 := by decide +kernel
set_option maxRecDepth 100000 in
set_option maxHeartbeats 4000000 in
theorem wX7_digestMonths_105 (K : jK p s m args meth c A D vwCl (tyz cyI cyJ cyS) cX7_digestMonths 11 RX7 wdX7_digestMonths (some .long)) (tD : Nat) (G : jGt tD A s) (a0 : Nat → Nat) (c_finding : Int32) (c_settledByKnown : Int32) (l1 : Int64) (i3 : Int32) (c_room : Int32) (c_told : jT3) (c_events : jT3) (o_r : Int64) (o_courseKnown : Int32) (o_course : jT11)   : ∀ (n : Nat) (c_courseKnown : Int32) (c_course : jT11) (l4 : Int64) (i6 : Int32), fX7_digestMonths_105 l1 i3 c_room c_told c_events  n c_courseKnown c_course l4 i6 = some (o_r, o_courseKnown, o_course) → jw p l e rmX7_digestMonths s m args below meth c (jQ below args s A D vwCl (tyz cyI cyJ cyS) 0 0 (some (.long o_r)) (uX7_digestMonths cyI cyJ cyS a0 c_room c_finding o_courseKnown c_settledByKnown c_told.1 c_told.2.1 c_told.2.2.1 c_told.2.2.2 c_events.1 c_events.2.1 c_events.2.2.1 c_events.2.2.2 o_course.1 o_course.2.1 o_course.2.2.1 o_course.2.2.2.1 o_course.2.2.2.2.1 o_course.2.2.2.2.2.1 o_course.2.2.2.2.2.2.1 o_course.2.2.2.2.2.2.2.1 o_course.2.2.2.2.2.2.2.2.1 o_course.2.2.2.2.2.2.2.2.2.1 o_course.2.2.2.2.2.2.2.2.2.2.1 o_course.2.2.2.2.2.2.2.2.2.2.2)) A D vwCl 11 0 0 105 [(0, .ref (a0 0)), (3, .int i3), (4, .long l4), (6, .int i6)] [] (uX7_digestMonths cyI cyJ cyS a0 c_room c_finding c_courseKnown c_settledByKnown c_told.1 c_told.2.1 c_told.2.2.1 c_told.2.2.2 c_events.1 c_events.2.1 c_events.2.2.1 c_events.2.2.2 c_course.1 c_course.2.1 c_course.2.2.1 c_course.2.2.2.1 c_course.2.2.2.2.1 c_course.2.2.2.2.2.1 c_course.2.2.2.2.2.2.1 c_course.2.2.2.2.2.2.2.1 c_course.2.2.2.2.2.2.2.2.1 c_course.2.2.2.2.2.2.2.2.2.1 c_course.2.2.2.2.2.2.2.2.2.2.1 c_course.2.2.2.2.2.2.2.2.2.2.2) := by
  intro n
  induction n with
  | zero => intro c_courseKnown c_course l4 i6 h; cases h
  | succ n ih =>
    intro c_courseKnown c_course l4 i6 h
    have h : bX7_digestMonths_105 l1 i3 c_room c_told c_events  (fX7_digestMonths_105 l1 i3 c_room c_told c_events  n) c_courseKnown c_course l4 i6 = some (o_r, o_courseKnown, o_course) := h
    unfold bX7_digestMonths_105 at h
    refine j_iload K 3 rfl dX7_digestMonths_105 rfl ?_
    refine j_iconst (v := (3 : Int32)) K (by decide) dX7_digestMonths_107 rfl ?_
    refine j_icmp_gt (tgt := 134) K dX7_digestMonths_108 (by decide) rfl h (fun h => ?_) (fun h => ?_)
    · refine j_lload K 2 rfl dX7_digestMonths_134 rfl ?_
      obtain ⟨e1, g1⟩ := Prod.mk.inj (Option.some.inj h)
      subst e1
      obtain ⟨e2, g2⟩ := Prod.mk.inj g1
      subst e2
      subst g2
      exact j_lret K dX7_digestMonths_136
    · refine j_ldc2 (v := (31 : Int64)) K (List.mem_cons_of_mem _ mw_40_17) dX7_digestMonths_111 rfl ?_
      refine j_lload K 2 rfl dX7_digestMonths_114 rfl ?_
      refine j_lmul K dX7_digestMonths_116 rfl ?_
      refine j_aload_n K 0 rfl dX7_digestMonths_117 rfl ?_
      refine j_iload_n K 1 rfl dX7_digestMonths_118 rfl ?_
      refine j_iload K 3 rfl dX7_digestMonths_119 rfl ?_
      obtain ⟨r_2, c_courseKnown_3, c_course_4, hc, h⟩ := bd3_some h
      refine j_callV (rest := [.long ((31 : Int64) * l4)]) (st1 := [.int r_2, .long ((31 : Int64) * l4)]) (ws' := (uX7_digestMonths cyI cyJ cyS a0 c_room c_finding c_courseKnown_3 c_settledByKnown c_told.1 c_told.2.1 c_told.2.2.1 c_told.2.2.2 c_events.1 c_events.2.1 c_events.2.2.1 c_events.2.2.2 c_course_4.1 c_course_4.2.1 c_course_4.2.2.1 c_course_4.2.2.2.1 c_course_4.2.2.2.2.1 c_course_4.2.2.2.2.2.1 c_course_4.2.2.2.2.2.2.1 c_course_4.2.2.2.2.2.2.2.1 c_course_4.2.2.2.2.2.2.2.2.1 c_course_4.2.2.2.2.2.2.2.2.2.1 c_course_4.2.2.2.2.2.2.2.2.2.2.1 c_course_4.2.2.2.2.2.2.2.2.2.2.2)) (T := TX7) (N := 15) (ci := 7) K (ctX7_ends l D cyI cyJ cyS a0 i3 i6 c_finding c_settledByKnown c_room c_told c_events c_courseKnown c_course r_2 c_courseKnown_3 c_course_4 hc) (gdV mcL mw_41_5 mw_21_5 mw_21_6 mw_1_2 mw_21_7) rfl ⟨rfl, rfl⟩ hyX7_ends ⟨Nat.le_of_ble_eq_true rfl, Nat.le_of_ble_eq_true rfl, Nat.le_of_ble_eq_true rfl, Nat.le_of_ble_eq_true rfl⟩ [0, 1, 2, 3, 4, 5, 6, 7, 8, 9, 10, 11, 12, 13, 14, 15, 16, 17, 18, 19, 20] (by decide) rfl [some 0, some 1, some 2, some 3, some 4, some 5, some 6, some 7, some 8, some 9, some 10, some 11, some 12, some 13, some 14, some 15, some 16, some 17, some 18, some 19, some 20] (by decide) rfl rfl 0 rfl rfl rfl rfl (Nat.le_of_ble_eq_true rfl) dX7_digestMonths_121 rfl rfl ?_
      refine j_i2l K dX7_digestMonths_124 rfl ?_
      refine j_ladd K dX7_digestMonths_125 rfl ?_
      refine j_nmL h (fun l4_5 h => ?_)
      refine j_lstore (lv' := [(4, .long l4_5), (0, .ref (a0 0)), (3, .int i3), (6, .int i6)]) K (by decide) rfl dX7_digestMonths_126 rfl ?_
      refine j_iincN (lf := fun z => [(6, .int z), (4, .long l4_5), (0, .ref (a0 0)), (3, .int i3)]) K (v := i6 + (1 : Int32)) (k := 3) rfl rfl (by decide) (fun _ => rfl) dX7_digestMonths_128 rfl h (fun i6_6 h => ?_)
      refine j_goto (pc' := 105) K dX7_digestMonths_131 (by decide) ?_
      refine j_sub [2, 3, 1, 0] (lv' := [(0, .ref (a0 0)), (3, .int i3), (4, .long l4_5), (6, .int i6_6)]) rfl ?_
      exact ih c_courseKnown_3 c_course_4 l4_5 i6_6 h
set_option maxRecDepth 100000 in
set_option maxHeartbeats 4000000 in
theorem wX7_digestMonths_65 (K : jK p s m args meth c A D vwCl (tyz cyI cyJ cyS) cX7_digestMonths 11 RX7 wdX7_digestMonths (some .long)) (tD : Nat) (G : jGt tD A s) (a0 : Nat → Nat) (c_finding : Int32) (c_settledByKnown : Int32) (l1 : Int64) (i3 : Int32) (c_room : Int32) (c_told : jT3) (c_events : jT3) (o_r : Int64) (o_courseKnown : Int32) (o_course : jT11)  (q_48 : Int32 → jT11 → Int64 → Int32 → Int32 → (Option (Int64 × Int32 × jT11))) (hq_48 : ∀ (c_courseKnown : Int32) (c_course : jT11) (l4 : Int64) (i7 : Int32) (i8 : Int32), q_48 c_courseKnown c_course l4 i7 i8 = some (o_r, o_courseKnown, o_course) → jw p l e rmX7_digestMonths s m args below meth c (jQ below args s A D vwCl (tyz cyI cyJ cyS) 0 0 (some (.long o_r)) (uX7_digestMonths cyI cyJ cyS a0 c_room c_finding o_courseKnown c_settledByKnown c_told.1 c_told.2.1 c_told.2.2.1 c_told.2.2.2 c_events.1 c_events.2.1 c_events.2.2.1 c_events.2.2.2 o_course.1 o_course.2.1 o_course.2.2.1 o_course.2.2.2.1 o_course.2.2.2.2.1 o_course.2.2.2.2.2.1 o_course.2.2.2.2.2.2.1 o_course.2.2.2.2.2.2.2.1 o_course.2.2.2.2.2.2.2.2.1 o_course.2.2.2.2.2.2.2.2.2.1 o_course.2.2.2.2.2.2.2.2.2.2.1 o_course.2.2.2.2.2.2.2.2.2.2.2)) A D vwCl 11 0 0 48 [(0, .ref (a0 0)), (3, .int i3), (4, .long l4), (6, .ref tD), (7, .int i7), (8, .int i8)] [] (uX7_digestMonths cyI cyJ cyS a0 c_room c_finding c_courseKnown c_settledByKnown c_told.1 c_told.2.1 c_told.2.2.1 c_told.2.2.2 c_events.1 c_events.2.1 c_events.2.2.1 c_events.2.2.2 c_course.1 c_course.2.1 c_course.2.2.1 c_course.2.2.2.1 c_course.2.2.2.2.1 c_course.2.2.2.2.2.1 c_course.2.2.2.2.2.2.1 c_course.2.2.2.2.2.2.2.1 c_course.2.2.2.2.2.2.2.2.1 c_course.2.2.2.2.2.2.2.2.2.1 c_course.2.2.2.2.2.2.2.2.2.2.1 c_course.2.2.2.2.2.2.2.2.2.2.2)) : ∀ (n : Nat) (c_courseKnown : Int32) (c_course : jT11) (l4 : Int64) (i7 : Int32) (i8 : Int32) (i9 : Int32) (i10 : Int32), fX7_digestMonths_65 l1 i3 c_room c_told c_events q_48 n c_courseKnown c_course l4 i7 i8 i9 i10 = some (o_r, o_courseKnown, o_course) → jw p l e rmX7_digestMonths s m args below meth c (jQ below args s A D vwCl (tyz cyI cyJ cyS) 0 0 (some (.long o_r)) (uX7_digestMonths cyI cyJ cyS a0 c_room c_finding o_courseKnown c_settledByKnown c_told.1 c_told.2.1 c_told.2.2.1 c_told.2.2.2 c_events.1 c_events.2.1 c_events.2.2.1 c_events.2.2.2 o_course.1 o_course.2.1 o_course.2.2.1 o_course.2.2.2.1 o_course.2.2.2.2.1 o_course.2.2.2.2.2.1 o_course.2.2.2.2.2.2.1 o_course.2.2.2.2.2.2.2.1 o_course.2.2.2.2.2.2.2.2.1 o_course.2.2.2.2.2.2.2.2.2.1 o_course.2.2.2.2.2.2.2.2.2.2.1 o_course.2.2.2.2.2.2.2.2.2.2.2)) A D vwCl 11 0 0 65 [(0, .ref (a0 0)), (3, .int i3), (4, .long l4), (6, .ref tD), (7, .int i7), (8, .int i8), (9, .int i9), (10, .int i10)] [] (uX7_digestMonths cyI cyJ cyS a0 c_room c_finding c_courseKnown c_settledByKnown c_told.1 c_told.2.1 c_told.2.2.1 c_told.2.2.2 c_events.1 c_events.2.1 c_events.2.2.1 c_events.2.2.2 c_course.1 c_course.2.1 c_course.2.2.1 c_course.2.2.2.1 c_course.2.2.2.2.1 c_course.2.2.2.2.2.1 c_course.2.2.2.2.2.2.1 c_course.2.2.2.2.2.2.2.1 c_course.2.2.2.2.2.2.2.2.1 c_course.2.2.2.2.2.2.2.2.2.1 c_course.2.2.2.2.2.2.2.2.2.2.1 c_course.2.2.2.2.2.2.2.2.2.2.2) := by
  intro n
  induction n with
  | zero => intro c_courseKnown c_course l4 i7 i8 i9 i10 h; cases h
  | succ n ih =>
    intro c_courseKnown c_course l4 i7 i8 i9 i10 h
    have h : bX7_digestMonths_65 l1 i3 c_room c_told c_events q_48 (fX7_digestMonths_65 l1 i3 c_room c_told c_events q_48 n) c_courseKnown c_course l4 i7 i8 i9 i10 = some (o_r, o_courseKnown, o_course) := h
    unfold bX7_digestMonths_65 at h
    refine j_iload K 7 rfl dX7_digestMonths_65 rfl ?_
    refine j_iconst (v := (3 : Int32)) K (by decide) dX7_digestMonths_67 rfl ?_
    refine j_icmp_gt (tgt := 96) K dX7_digestMonths_68 (by decide) rfl h (fun h => ?_) (fun h => ?_)
    · refine j_iincN (lf := fun z => [(8, .int z), (0, .ref (a0 0)), (3, .int i3), (4, .long l4), (6, .ref tD), (7, .int i7), (9, .int i9), (10, .int i10)]) K (v := i8 + (1 : Int32)) (k := 5) rfl rfl (by decide) (fun _ => rfl) dX7_digestMonths_96 rfl h (fun i8_8 h => ?_)
      refine j_goto (pc' := 48) K dX7_digestMonths_99 (by decide) ?_
      refine j_sub [1, 2, 3, 4, 5, 0] (lv' := [(0, .ref (a0 0)), (3, .int i3), (4, .long l4), (6, .ref tD), (7, .int i7), (8, .int i8_8)]) rfl ?_
      exact hq_48 c_courseKnown c_course l4 i7 i8_8 h
    · refine j_ldc2 (v := (31 : Int64)) K (List.mem_cons_of_mem _ mw_40_17) dX7_digestMonths_71 rfl ?_
      refine j_lload K 2 rfl dX7_digestMonths_74 rfl ?_
      refine j_lmul K dX7_digestMonths_76 rfl ?_
      refine j_aload_n K 0 rfl dX7_digestMonths_77 rfl ?_
      refine j_iload K 6 rfl dX7_digestMonths_78 rfl ?_
      refine j_iload_n K 1 rfl dX7_digestMonths_80 rfl ?_
      refine j_iload K 7 rfl dX7_digestMonths_81 rfl ?_
      obtain ⟨r_9, c_courseKnown_10, c_course_11, hc, h⟩ := bd3_some h
      refine j_callV (rest := [.long ((31 : Int64) * l4)]) (st1 := [.int r_9, .long ((31 : Int64) * l4)]) (ws' := (uX7_digestMonths cyI cyJ cyS a0 c_room c_finding c_courseKnown_10 c_settledByKnown c_told.1 c_told.2.1 c_told.2.2.1 c_told.2.2.2 c_events.1 c_events.2.1 c_events.2.2.1 c_events.2.2.2 c_course_11.1 c_course_11.2.1 c_course_11.2.2.1 c_course_11.2.2.2.1 c_course_11.2.2.2.2.1 c_course_11.2.2.2.2.2.1 c_course_11.2.2.2.2.2.2.1 c_course_11.2.2.2.2.2.2.2.1 c_course_11.2.2.2.2.2.2.2.2.1 c_course_11.2.2.2.2.2.2.2.2.2.1 c_course_11.2.2.2.2.2.2.2.2.2.2.1 c_course_11.2.2.2.2.2.2.2.2.2.2.2)) (T := TX7) (N := 15) (ci := 7) K (ctX7_at l D cyI cyJ cyS a0 i9 i3 i10 c_finding c_settledByKnown c_room c_told c_events c_courseKnown c_course r_9 c_courseKnown_10 c_course_11 hc) (gdV mcL mw_41_4 mw_13_5 mw_13_6 mw_1_2 mw_13_7) rfl ⟨rfl, rfl⟩ hyX7_at ⟨Nat.le_of_ble_eq_true rfl, Nat.le_of_ble_eq_true rfl, Nat.le_of_ble_eq_true rfl, Nat.le_of_ble_eq_true rfl⟩ [0, 1, 2, 3, 4, 5, 6, 7, 8, 9, 10, 11, 12, 13, 14, 15, 16, 17, 18, 19, 20] (by decide) rfl [some 0, some 1, some 2, some 3, some 4, some 5, some 6, some 7, some 8, some 9, some 10, some 11, some 12, some 13, some 14, some 15, some 16, some 17, some 18, some 19, some 20] (by decide) rfl rfl 0 rfl rfl rfl rfl (Nat.le_of_ble_eq_true rfl) dX7_digestMonths_83 rfl rfl ?_
      refine j_i2l K dX7_digestMonths_86 rfl ?_
      refine j_ladd K dX7_digestMonths_87 rfl ?_
      refine j_nmL h (fun l4_12 h => ?_)
      refine j_lstore (lv' := [(4, .long l4_12), (0, .ref (a0 0)), (3, .int i3), (6, .ref tD), (7, .int i7), (8, .int i8), (9, .int i9), (10, .int i10)]) K (by decide) rfl dX7_digestMonths_88 rfl ?_
      refine j_iincN (lf := fun z => [(10, .int z), (4, .long l4_12), (0, .ref (a0 0)), (3, .int i3), (6, .ref tD), (7, .int i7), (8, .int i8), (9, .int i9)]) K (v := i10 + (1 : Int32)) (k := 7) rfl rfl (by decide) (fun _ => rfl) dX7_digestMonths_90 rfl h (fun i10_13 h => ?_)
      refine j_goto (pc' := 65) K dX7_digestMonths_93 (by decide) ?_
      refine j_sub [2, 3, 1, 4, 5, 6, 7, 0] (lv' := [(0, .ref (a0 0)), (3, .int i3), (4, .long l4_12), (6, .ref tD), (7, .int i7), (8, .int i8), (9, .int i9), (10, .int i10_13)]) rfl ?_
      exact ih c_courseKnown_10 c_course_11 l4_12 i7 i8 i9 i10_13 h
set_option maxRecDepth 100000 in
set_option maxHeartbeats 4000000 in
theorem wX7_digestMonths_48 (K : jK p s m args meth c A D vwCl (tyz cyI cyJ cyS) cX7_digestMonths 11 RX7 wdX7_digestMonths (some .long)) (tD : Nat) (G : jGt tD A s) (a0 : Nat → Nat) (c_finding : Int32) (c_settledByKnown : Int32) (l1 : Int64) (i3 : Int32) (c_room : Int32) (c_told : jT3) (c_events : jT3) (o_r : Int64) (o_courseKnown : Int32) (o_course : jT11)   : ∀ (n : Nat) (c_courseKnown : Int32) (c_course : jT11) (l4 : Int64) (i7 : Int32) (i8 : Int32), fX7_digestMonths_48 l1 i3 c_room c_told c_events  n c_courseKnown c_course l4 i7 i8 = some (o_r, o_courseKnown, o_course) → jw p l e rmX7_digestMonths s m args below meth c (jQ below args s A D vwCl (tyz cyI cyJ cyS) 0 0 (some (.long o_r)) (uX7_digestMonths cyI cyJ cyS a0 c_room c_finding o_courseKnown c_settledByKnown c_told.1 c_told.2.1 c_told.2.2.1 c_told.2.2.2 c_events.1 c_events.2.1 c_events.2.2.1 c_events.2.2.2 o_course.1 o_course.2.1 o_course.2.2.1 o_course.2.2.2.1 o_course.2.2.2.2.1 o_course.2.2.2.2.2.1 o_course.2.2.2.2.2.2.1 o_course.2.2.2.2.2.2.2.1 o_course.2.2.2.2.2.2.2.2.1 o_course.2.2.2.2.2.2.2.2.2.1 o_course.2.2.2.2.2.2.2.2.2.2.1 o_course.2.2.2.2.2.2.2.2.2.2.2)) A D vwCl 11 0 0 48 [(0, .ref (a0 0)), (3, .int i3), (4, .long l4), (6, .ref tD), (7, .int i7), (8, .int i8)] [] (uX7_digestMonths cyI cyJ cyS a0 c_room c_finding c_courseKnown c_settledByKnown c_told.1 c_told.2.1 c_told.2.2.1 c_told.2.2.2 c_events.1 c_events.2.1 c_events.2.2.1 c_events.2.2.2 c_course.1 c_course.2.1 c_course.2.2.1 c_course.2.2.2.1 c_course.2.2.2.2.1 c_course.2.2.2.2.2.1 c_course.2.2.2.2.2.2.1 c_course.2.2.2.2.2.2.2.1 c_course.2.2.2.2.2.2.2.2.1 c_course.2.2.2.2.2.2.2.2.2.1 c_course.2.2.2.2.2.2.2.2.2.2.1 c_course.2.2.2.2.2.2.2.2.2.2.2) := by
  intro n
  induction n with
  | zero => intro c_courseKnown c_course l4 i7 i8 h; cases h
  | succ n ih =>
    intro c_courseKnown c_course l4 i7 i8 h
    have h : bX7_digestMonths_48 l1 i3 c_room c_told c_events  (fX7_digestMonths_48 l1 i3 c_room c_told c_events  n) c_courseKnown c_course l4 i7 i8 = some (o_r, o_courseKnown, o_course) := h
    unfold bX7_digestMonths_48 at h
    refine j_iload K 5 rfl dX7_digestMonths_48 rfl ?_
    refine j_iload K 4 rfl dX7_digestMonths_50 rfl ?_
    refine j_icmp_ge (tgt := 102) K dX7_digestMonths_52 (by decide) rfl h (fun h => ?_) (fun h => ?_)
    · refine j_iconst (v := (0 : Int32)) K (by decide) dX7_digestMonths_102 rfl ?_
      refine j_istore (lv' := [(6, .int (0 : Int32)), (0, .ref (a0 0)), (3, .int i3), (4, .long l4), (7, .int i7), (8, .int i8)]) K (by decide) rfl dX7_digestMonths_103 rfl ?_
      refine j_sub [1, 2, 3, 0] (lv' := [(0, .ref (a0 0)), (3, .int i3), (4, .long l4), (6, .int (0 : Int32))]) rfl ?_
      exact wX7_digestMonths_105 K tD G a0 c_finding c_settledByKnown l1 i3 c_room c_told c_events o_r o_courseKnown o_course jF c_courseKnown c_course l4 (0 : Int32) h
    · refine j_aload K 3 rfl dX7_digestMonths_55 rfl ?_
      refine j_iload K 5 rfl dX7_digestMonths_57 rfl ?_
      refine j_tald K G dX7_digestMonths_59 rfl h (fun v_7 h => ?_)
      refine j_istore (lv' := [(9, .int v_7), (0, .ref (a0 0)), (3, .int i3), (4, .long l4), (6, .ref tD), (7, .int i7), (8, .int i8)]) K (by decide) rfl dX7_digestMonths_60 rfl ?_
      refine j_iconst (v := (0 : Int32)) K (by decide) dX7_digestMonths_62 rfl ?_
      refine j_istore (lv' := [(10, .int (0 : Int32)), (9, .int v_7), (0, .ref (a0 0)), (3, .int i3), (4, .long l4), (6, .ref tD), (7, .int i7), (8, .int i8)]) K (by decide) rfl dX7_digestMonths_63 rfl ?_
      refine j_sub [2, 3, 4, 5, 6, 7, 1, 0] (lv' := [(0, .ref (a0 0)), (3, .int i3), (4, .long l4), (6, .ref tD), (7, .int i7), (8, .int i8), (9, .int v_7), (10, .int (0 : Int32))]) rfl ?_
      exact wX7_digestMonths_65 K tD G a0 c_finding c_settledByKnown l1 i3 c_room c_told c_events o_r o_courseKnown o_course (fX7_digestMonths_48 l1 i3 c_room c_told c_events n) (fun z0 z1 z2 z3 z4 hq => ih z0 z1 z2 z3 z4 hq) jF c_courseKnown c_course l4 i7 i8 v_7 (0 : Int32) h
set_option maxRecDepth 100000 in
set_option maxHeartbeats 4000000 in
theorem wX7_digestMonths_6 (K : jK p s m args meth c A D vwCl (tyz cyI cyJ cyS) cX7_digestMonths 11 RX7 wdX7_digestMonths (some .long)) (tD : Nat) (G : jGt tD A s) (a0 : Nat → Nat) (c_finding : Int32) (c_settledByKnown : Int32) (l1 : Int64) (i3 : Int32) (c_room : Int32) (c_told : jT3) (c_events : jT3) (o_r : Int64) (o_courseKnown : Int32) (o_course : jT11)   : ∀ (n : Nat) (c_courseKnown : Int32) (c_course : jT11) (l4 : Int64) (i6 : Int32), fX7_digestMonths_6 l1 i3 c_room c_told c_events  n c_courseKnown c_course l4 i6 = some (o_r, o_courseKnown, o_course) → jw p l e rmX7_digestMonths s m args below meth c (jQ below args s A D vwCl (tyz cyI cyJ cyS) 0 0 (some (.long o_r)) (uX7_digestMonths cyI cyJ cyS a0 c_room c_finding o_courseKnown c_settledByKnown c_told.1 c_told.2.1 c_told.2.2.1 c_told.2.2.2 c_events.1 c_events.2.1 c_events.2.2.1 c_events.2.2.2 o_course.1 o_course.2.1 o_course.2.2.1 o_course.2.2.2.1 o_course.2.2.2.2.1 o_course.2.2.2.2.2.1 o_course.2.2.2.2.2.2.1 o_course.2.2.2.2.2.2.2.1 o_course.2.2.2.2.2.2.2.2.1 o_course.2.2.2.2.2.2.2.2.2.1 o_course.2.2.2.2.2.2.2.2.2.2.1 o_course.2.2.2.2.2.2.2.2.2.2.2)) A D vwCl 11 0 0 6 [(0, .ref (a0 0)), (3, .int i3), (4, .long l4), (6, .int i6)] [] (uX7_digestMonths cyI cyJ cyS a0 c_room c_finding c_courseKnown c_settledByKnown c_told.1 c_told.2.1 c_told.2.2.1 c_told.2.2.2 c_events.1 c_events.2.1 c_events.2.2.1 c_events.2.2.2 c_course.1 c_course.2.1 c_course.2.2.1 c_course.2.2.2.1 c_course.2.2.2.2.1 c_course.2.2.2.2.2.1 c_course.2.2.2.2.2.2.1 c_course.2.2.2.2.2.2.2.1 c_course.2.2.2.2.2.2.2.2.1 c_course.2.2.2.2.2.2.2.2.2.1 c_course.2.2.2.2.2.2.2.2.2.2.1 c_course.2.2.2.2.2.2.2.2.2.2.2) := by
  intro n
  induction n with
  | zero => intro c_courseKnown c_course l4 i6 h; cases h
  | succ n ih =>
    intro c_courseKnown c_course l4 i6 h
    have h : bX7_digestMonths_6 l1 i3 c_room c_told c_events  (fX7_digestMonths_6 l1 i3 c_room c_told c_events  n) c_courseKnown c_course l4 i6 = some (o_r, o_courseKnown, o_course) := h
    unfold bX7_digestMonths_6 at h
    refine j_iload K 3 rfl dX7_digestMonths_6 rfl ?_
    refine j_iconst (v := (2 : Int32)) K (by decide) dX7_digestMonths_8 rfl ?_
    refine j_icmp_gt (tgt := 35) K dX7_digestMonths_9 (by decide) rfl h (fun h => ?_) (fun h => ?_)
    · refine j_gets K G (List.mem_cons_of_mem _ mw_41_2) dX7_digestMonths_35 rfl ?_
      refine j_astore (lv' := [(6, .ref tD), (0, .ref (a0 0)), (3, .int i3), (4, .long l4)]) K (by decide) rfl dX7_digestMonths_38 rfl ?_
      refine j_aload K 0 rfl dX7_digestMonths_40 rfl ?_
      refine j_tlen K G dX7_digestMonths_42 rfl ?_
      refine j_nmI h (fun i7_1 h => ?_)
      refine j_istore (lv' := [(7, .int i7_1), (6, .ref tD), (0, .ref (a0 0)), (3, .int i3), (4, .long l4)]) K (by decide) rfl dX7_digestMonths_43 rfl ?_
      refine j_iconst (v := (0 : Int32)) K (by decide) dX7_digestMonths_45 rfl ?_
      refine j_istore (lv' := [(8, .int (0 : Int32)), (7, .int i7_1), (6, .ref tD), (0, .ref (a0 0)), (3, .int i3), (4, .long l4)]) K (by decide) rfl dX7_digestMonths_46 rfl ?_
      refine j_sub [3, 4, 5, 2, 1, 0] (lv' := [(0, .ref (a0 0)), (3, .int i3), (4, .long l4), (6, .ref tD), (7, .int i7_1), (8, .int (0 : Int32))]) rfl ?_
      exact wX7_digestMonths_48 K tD G a0 c_finding c_settledByKnown l1 i3 c_room c_told c_events o_r o_courseKnown o_course jF c_courseKnown c_course l4 i7_1 (0 : Int32) h
    · refine j_ldc2 (v := (31 : Int64)) K (List.mem_cons_of_mem _ mw_40_17) dX7_digestMonths_12 rfl ?_
      refine j_lload K 2 rfl dX7_digestMonths_15 rfl ?_
      refine j_lmul K dX7_digestMonths_17 rfl ?_
      refine j_aload_n K 0 rfl dX7_digestMonths_18 rfl ?_
      refine j_iload_n K 1 rfl dX7_digestMonths_19 rfl ?_
      refine j_iload K 3 rfl dX7_digestMonths_20 rfl ?_
      obtain ⟨r_14, hc, h⟩ := bd1_some h
      refine j_callV (rest := [.long ((31 : Int64) * l4)]) (st1 := [.int r_14, .long ((31 : Int64) * l4)]) (ws' := (uX7_digestMonths cyI cyJ cyS a0 c_room c_finding c_courseKnown c_settledByKnown c_told.1 c_told.2.1 c_told.2.2.1 c_told.2.2.2 c_events.1 c_events.2.1 c_events.2.2.1 c_events.2.2.2 c_course.1 c_course.2.1 c_course.2.2.1 c_course.2.2.2.1 c_course.2.2.2.2.1 c_course.2.2.2.2.2.1 c_course.2.2.2.2.2.2.1 c_course.2.2.2.2.2.2.2.1 c_course.2.2.2.2.2.2.2.2.1 c_course.2.2.2.2.2.2.2.2.2.1 c_course.2.2.2.2.2.2.2.2.2.2.1 c_course.2.2.2.2.2.2.2.2.2.2.2)) (T := TX7) (N := 15) (ci := 7) K (ctX7_tenant l D cyI cyJ cyS a0 i3 i6 c_room c_finding c_courseKnown c_settledByKnown c_told r_14 hc) (gdV mcL mw_41_3 mw_9_13 mw_9_14 mw_1_2 mw_9_15) rfl ⟨rfl, rfl⟩ hyX7_tenant ⟨Nat.le_of_ble_eq_true rfl, Nat.le_of_ble_eq_true rfl, Nat.le_of_ble_eq_true rfl, Nat.le_of_ble_eq_true rfl⟩ [0, 1, 2, 3, 4] (by decide) rfl [some 0, some 1, some 2, some 3, some 4, none, none, none, none, none, none, none, none, none, none, none, none, none, none, none, none] (by decide) rfl rfl 0 rfl rfl rfl rfl (Nat.le_of_ble_eq_true rfl) dX7_digestMonths_22 rfl rfl ?_
      refine j_i2l K dX7_digestMonths_25 rfl ?_
      refine j_ladd K dX7_digestMonths_26 rfl ?_
      refine j_nmL h (fun l4_15 h => ?_)
      refine j_lstore (lv' := [(4, .long l4_15), (0, .ref (a0 0)), (3, .int i3), (6, .int i6)]) K (by decide) rfl dX7_digestMonths_27 rfl ?_
      refine j_iincN (lf := fun z => [(6, .int z), (4, .long l4_15), (0, .ref (a0 0)), (3, .int i3)]) K (v := i6 + (1 : Int32)) (k := 3) rfl rfl (by decide) (fun _ => rfl) dX7_digestMonths_29 rfl h (fun i6_16 h => ?_)
      refine j_goto (pc' := 6) K dX7_digestMonths_32 (by decide) ?_
      refine j_sub [2, 3, 1, 0] (lv' := [(0, .ref (a0 0)), (3, .int i3), (4, .long l4_15), (6, .int i6_16)]) rfl ?_
      exact ih c_courseKnown c_course l4_15 i6_16 h
set_option maxRecDepth 100000 in
set_option maxHeartbeats 4000000 in
theorem ctX7_digestMonths (l : Launch) (D : va_G) (cyI cyJ cyS : ClassId) (a0 : Nat → Nat) (l1 : Int64) (i3 : Int32) (c_finding : Int32) (c_settledByKnown : Int32) (c_room : Int32) (c_told : jT3) (c_events : jT3) (c_courseKnown : Int32) (c_course : jT11) (o_r : Int64) (o_courseKnown : Int32) (o_course : jT11) (h : fX7_digestMonths l1 i3 c_room c_told c_events c_courseKnown c_course = some (o_r, o_courseKnown, o_course)) : jCG l yX7_digestMonths wdX7_digestMonths rmX7_digestMonths D vwCl (tyz cyI cyJ cyS) [.ref (a0 0), .long l1, .int i3] (uX7_digestMonths cyI cyJ cyS a0 c_room c_finding c_courseKnown c_settledByKnown c_told.1 c_told.2.1 c_told.2.2.1 c_told.2.2.2 c_events.1 c_events.2.1 c_events.2.2.1 c_events.2.2.2 c_course.1 c_course.2.1 c_course.2.2.1 c_course.2.2.2.1 c_course.2.2.2.2.1 c_course.2.2.2.2.2.1 c_course.2.2.2.2.2.2.1 c_course.2.2.2.2.2.2.2.1 c_course.2.2.2.2.2.2.2.2.1 c_course.2.2.2.2.2.2.2.2.2.1 c_course.2.2.2.2.2.2.2.2.2.2.1 c_course.2.2.2.2.2.2.2.2.2.2.2) (some (.long o_r)) (uX7_digestMonths cyI cyJ cyS a0 c_room c_finding o_courseKnown c_settledByKnown c_told.1 c_told.2.1 c_told.2.2.1 c_told.2.2.2 c_events.1 c_events.2.1 c_events.2.2.1 c_events.2.2.2 o_course.1 o_course.2.1 o_course.2.2.1 o_course.2.2.2.1 o_course.2.2.2.2.1 o_course.2.2.2.2.2.1 o_course.2.2.2.2.2.2.1 o_course.2.2.2.2.2.2.2.1 o_course.2.2.2.2.2.2.2.2.1 o_course.2.2.2.2.2.2.2.2.2.1 o_course.2.2.2.2.2.2.2.2.2.2.1 o_course.2.2.2.2.2.2.2.2.2.2.2) := by
  refine jCG_of (cc := cX7_digestMonths) (nL := 11) (ret := (some .long)) (own := RX7) (lv := [(0, .ref (a0 0)), (1, .long l1), (3, .int i3)]) (by decide) rfl rfl (Nat.le_of_ble_eq_true rfl) rfl ?_
  intro p e s m args below meth c A K tD G
  unfold fX7_digestMonths at h
  refine j_lload_n K 1 rfl dX7_digestMonths_0 rfl ?_
  refine j_lstore (lv' := [(4, .long l1), (0, .ref (a0 0)), (1, .long l1), (3, .int i3)]) K (by decide) rfl dX7_digestMonths_1 rfl ?_
  refine j_iconst (v := (0 : Int32)) K (by decide) dX7_digestMonths_3 rfl ?_
  refine j_istore (lv' := [(6, .int (0 : Int32)), (4, .long l1), (0, .ref (a0 0)), (1, .long l1), (3, .int i3)]) K (by decide) rfl dX7_digestMonths_4 rfl ?_
  refine j_sub [2, 4, 1, 0] (lv' := [(0, .ref (a0 0)), (3, .int i3), (4, .long l1), (6, .int (0 : Int32))]) rfl ?_
  exact wX7_digestMonths_6 K tD G a0 c_finding c_settledByKnown l1 i3 c_room c_told c_events o_r o_courseKnown o_course jF c_courseKnown c_course l1 (0 : Int32) h
end GEN
