section GEN
variable {p : Program} {l : Launch} {e : Env} {s : State} {m : MethodId} {args : Array Value} {below : List Frame} {meth : Method} {c : Code} {A : Nat → Prop} {D : va_G} {cyI cyJ cyS : ClassId}
abbrev uX7_digestMonths (cyI cyJ cyS : ClassId) (a0 : Nat → Nat) (c_room : Int32) (c_finding : Int32) (c_courseKnown : Int32) (c_settledByKnown : Int32) (c_told_size : Int32) (c_told_sort : Nat → Int32) (c_told_paid : Nat → Int32) (c_told_wage : Nat → Int32) (c_events_size : Int32) (c_events_kind : Nat → Int32) (c_events_month : Nat → Int32) (c_events_number : Nat → Int32) (c_course_size : Int32) (c_course_settled : Nat → Int32) (c_course_falls : Nat → Int32) (c_course_passed : Nat → Int32) (c_course_floors : Nat → Int32) (c_course_lefts : Nat → Int32) (c_course_fallers : Nat → Int32) (c_course_floor : Nat → Int32) (c_course_before : Nat → Int32) (c_course_left : Nat → Int32) (c_course_order : Nat → Int32) (c_course_taken : Nat → Int32) : va_W := [((a0 0), .inr (7, [.ref (a0 1), .ref (a0 3), .ref (a0 7), .ref (a0 11), .ref (a0 15), .ref (a0 19), .ref (a0 31), .ref (a0 43), .ref (a0 44), .ref (a0 53), .ref (a0 54), .int c_room, .int c_finding, .int c_courseKnown, .int c_settledByKnown])), ((a0 3), .inr (5, [.ref (a0 4), .ref (a0 5), .ref (a0 6), .int c_told_size])), ((a0 4), .inl (cyI, 8, .inl c_told_sort)), ((a0 5), .inl (cyI, 8, .inl c_told_paid)), ((a0 6), .inl (cyI, 8, .inl c_told_wage)), ((a0 11), .inr (2, [.ref (a0 12), .ref (a0 13), .ref (a0 14), .int c_events_size])), ((a0 12), .inl (cyI, 8, .inl c_events_kind)), ((a0 13), .inl (cyI, 8, .inl c_events_month)), ((a0 14), .inl (cyI, 8, .inl c_events_number)), ((a0 19), .inr (1, [.int c_course_size, .ref (a0 20), .ref (a0 21), .ref (a0 22), .ref (a0 23), .ref (a0 24), .ref (a0 25), .ref (a0 26), .ref (a0 27), .ref (a0 28), .ref (a0 29), .ref (a0 30)])), ((a0 20), .inl (cyI, 8, .inl c_course_settled)), ((a0 21), .inl (cyI, 8, .inl c_course_falls)), ((a0 22), .inl (cyI, 8, .inl c_course_passed)), ((a0 23), .inl (cyI, 192, .inl c_course_floors)), ((a0 24), .inl (cyI, 192, .inl c_course_lefts)), ((a0 25), .inl (cyI, 24, .inl c_course_fallers)), ((a0 26), .inl (cyI, 8, .inl c_course_floor)), ((a0 27), .inl (cyI, 8, .inl c_course_before)), ((a0 28), .inl (cyI, 8, .inl c_course_left)), ((a0 29), .inl (cyI, 8, .inl c_course_order)), ((a0 30), .inl (cyI, 13, .inl c_course_taken))]
abbrev rmX7_digestMonths : Room := { frames := 7, cells := 0, slots := 0, locals := 167 }
abbrev wdX7_digestMonths : List Cond := .code yX7_digestMonths cX7_digestMonths 7 (some .long) :: wsL_law
theorem hyX7_digestMonths : yX7_digestMonths.cls = RX7 ∧ yX7_digestMonths.cls ≠ "java/lang/invoke/MethodHandle" ∧ yX7_digestMonths.cls ≠ "java/lang/invoke/VarHandle" ∧ (parseMethodDescriptor yX7_digestMonths.desc).map (fun d => d.parameters.length) = some 2 := by decide +kernel
set_option maxRecDepth 100000 in
set_option maxHeartbeats 4000000 in
theorem wX7_digestMonths_81 (K : jK p s m args meth c A D vwCl (tyz cyI cyJ cyS) cX7_digestMonths 7 RX7 wdX7_digestMonths (some .long)) (a0 : Nat → Nat) (c_finding : Int32) (c_settledByKnown : Int32) (l1 : Int64) (i3 : Int32) (c_room : Int32) (c_told : jT3) (c_events : jT3) (o_r : Int64) (o_courseKnown : Int32) (o_course : jT11)   : ∀ (n : Nat) (c_courseKnown : Int32) (c_course : jT11) (l4 : Int64) (i6 : Int32), fX7_digestMonths_81 l1 i3 c_room c_told c_events  n c_courseKnown c_course l4 i6 = some (o_r, o_courseKnown, o_course) → jw p l e rmX7_digestMonths s m args below meth c (jQ below args s A D vwCl (tyz cyI cyJ cyS) 0 0 (some (.long o_r)) (uX7_digestMonths cyI cyJ cyS a0 c_room c_finding o_courseKnown c_settledByKnown c_told.1 c_told.2.1 c_told.2.2.1 c_told.2.2.2 c_events.1 c_events.2.1 c_events.2.2.1 c_events.2.2.2 o_course.1 o_course.2.1 o_course.2.2.1 o_course.2.2.2.1 o_course.2.2.2.2.1 o_course.2.2.2.2.2.1 o_course.2.2.2.2.2.2.1 o_course.2.2.2.2.2.2.2.1 o_course.2.2.2.2.2.2.2.2.1 o_course.2.2.2.2.2.2.2.2.2.1 o_course.2.2.2.2.2.2.2.2.2.2.1 o_course.2.2.2.2.2.2.2.2.2.2.2)) A D vwCl 7 0 0 81 [(0, .ref (a0 0)), (3, .int i3), (4, .long l4), (6, .int i6)] [] (uX7_digestMonths cyI cyJ cyS a0 c_room c_finding c_courseKnown c_settledByKnown c_told.1 c_told.2.1 c_told.2.2.1 c_told.2.2.2 c_events.1 c_events.2.1 c_events.2.2.1 c_events.2.2.2 c_course.1 c_course.2.1 c_course.2.2.1 c_course.2.2.2.1 c_course.2.2.2.2.1 c_course.2.2.2.2.2.1 c_course.2.2.2.2.2.2.1 c_course.2.2.2.2.2.2.2.1 c_course.2.2.2.2.2.2.2.2.1 c_course.2.2.2.2.2.2.2.2.2.1 c_course.2.2.2.2.2.2.2.2.2.2.1 c_course.2.2.2.2.2.2.2.2.2.2.2) := by
  intro n
  induction n with
  | zero => intro c_courseKnown c_course l4 i6 h; cases h
  | succ n ih =>
    intro c_courseKnown c_course l4 i6 h
    have h : bX7_digestMonths_81 l1 i3 c_room c_told c_events  (fX7_digestMonths_81 l1 i3 c_room c_told c_events  n) c_courseKnown c_course l4 i6 = some (o_r, o_courseKnown, o_course) := h
    unfold bX7_digestMonths_81 at h
    refine j_iload K 3 rfl dX7_digestMonths_81 rfl ?_
    refine j_iconst (v := (3 : Int32)) K (by decide) dX7_digestMonths_83 rfl ?_
    refine j_icmp_gt (tgt := 110) K dX7_digestMonths_84 (by decide) rfl h (fun h => ?_) (fun h => ?_)
    · refine j_lload K 2 rfl dX7_digestMonths_110 rfl ?_
      obtain ⟨e1, g1⟩ := Prod.mk.inj (Option.some.inj h)
      subst e1
      obtain ⟨e2, g2⟩ := Prod.mk.inj g1
      subst e2
      subst g2
      exact j_lret K dX7_digestMonths_112
    · refine j_ldc2 (v := (31 : Int64)) K (List.mem_cons_of_mem _ mw_40_17) dX7_digestMonths_87 rfl ?_
      refine j_lload K 2 rfl dX7_digestMonths_90 rfl ?_
      refine j_lmul K dX7_digestMonths_92 rfl ?_
      refine j_aload_n K 0 rfl dX7_digestMonths_93 rfl ?_
      refine j_iload_n K 1 rfl dX7_digestMonths_94 rfl ?_
      refine j_iload K 3 rfl dX7_digestMonths_95 rfl ?_
      obtain ⟨r_13, c_courseKnown_14, c_course_15, hc, h⟩ := bd3_some h
      refine j_callV (rest := [.long ((31 : Int64) * l4)]) (st1 := [.int r_13, .long ((31 : Int64) * l4)]) (ws' := (uX7_digestMonths cyI cyJ cyS a0 c_room c_finding c_courseKnown_14 c_settledByKnown c_told.1 c_told.2.1 c_told.2.2.1 c_told.2.2.2 c_events.1 c_events.2.1 c_events.2.2.1 c_events.2.2.2 c_course_15.1 c_course_15.2.1 c_course_15.2.2.1 c_course_15.2.2.2.1 c_course_15.2.2.2.2.1 c_course_15.2.2.2.2.2.1 c_course_15.2.2.2.2.2.2.1 c_course_15.2.2.2.2.2.2.2.1 c_course_15.2.2.2.2.2.2.2.2.1 c_course_15.2.2.2.2.2.2.2.2.2.1 c_course_15.2.2.2.2.2.2.2.2.2.2.1 c_course_15.2.2.2.2.2.2.2.2.2.2.2)) (T := TX7) (N := 15) (ci := 7) K (ctX7_ends l D cyI cyJ cyS a0 i3 i6 c_finding c_settledByKnown c_room c_told c_events c_courseKnown c_course r_13 c_courseKnown_14 c_course_15 hc) (gdV mcL mw_41_8 mw_21_5 mw_21_6 mw_1_2 mw_21_7) rfl ⟨rfl, rfl⟩ hyX7_ends ⟨Nat.le_of_ble_eq_true rfl, Nat.le_of_ble_eq_true rfl, Nat.le_of_ble_eq_true rfl, Nat.le_of_ble_eq_true rfl⟩ [0, 1, 2, 3, 4, 5, 6, 7, 8, 9, 10, 11, 12, 13, 14, 15, 16, 17, 18, 19, 20] (by decide) rfl [some 0, some 1, some 2, some 3, some 4, some 5, some 6, some 7, some 8, some 9, some 10, some 11, some 12, some 13, some 14, some 15, some 16, some 17, some 18, some 19, some 20] (by decide) rfl rfl 0 rfl rfl rfl rfl (Nat.le_of_ble_eq_true rfl) dX7_digestMonths_97 rfl rfl ?_
      refine j_i2l K dX7_digestMonths_100 rfl ?_
      refine j_ladd K dX7_digestMonths_101 rfl ?_
      refine j_nmL h (fun l4_16 h => ?_)
      refine j_lstore (lv' := [(4, .long l4_16), (0, .ref (a0 0)), (3, .int i3), (6, .int i6)]) K (by decide) rfl dX7_digestMonths_102 rfl ?_
      refine j_iincN (lf := fun z => [(6, .int z), (4, .long l4_16), (0, .ref (a0 0)), (3, .int i3)]) K (v := i6 + (1 : Int32)) (k := 3) rfl rfl (by decide) (fun _ => rfl) dX7_digestMonths_104 rfl h (fun i6_17 h => ?_)
      refine j_goto (pc' := 81) K dX7_digestMonths_107 (by decide) ?_
      refine j_sub [2, 3, 1, 0] (lv' := [(0, .ref (a0 0)), (3, .int i3), (4, .long l4_16), (6, .int i6_17)]) rfl ?_
      exact ih c_courseKnown_14 c_course_15 l4_16 i6_17 h
set_option maxRecDepth 100000 in
set_option maxHeartbeats 4000000 in
theorem wX7_digestMonths_6 (K : jK p s m args meth c A D vwCl (tyz cyI cyJ cyS) cX7_digestMonths 7 RX7 wdX7_digestMonths (some .long)) (a0 : Nat → Nat) (c_finding : Int32) (c_settledByKnown : Int32) (l1 : Int64) (i3 : Int32) (c_room : Int32) (c_told : jT3) (c_events : jT3) (o_r : Int64) (o_courseKnown : Int32) (o_course : jT11)   : ∀ (n : Nat) (c_courseKnown : Int32) (c_course : jT11) (l4 : Int64) (i6 : Int32), fX7_digestMonths_6 l1 i3 c_room c_told c_events  n c_courseKnown c_course l4 i6 = some (o_r, o_courseKnown, o_course) → jw p l e rmX7_digestMonths s m args below meth c (jQ below args s A D vwCl (tyz cyI cyJ cyS) 0 0 (some (.long o_r)) (uX7_digestMonths cyI cyJ cyS a0 c_room c_finding o_courseKnown c_settledByKnown c_told.1 c_told.2.1 c_told.2.2.1 c_told.2.2.2 c_events.1 c_events.2.1 c_events.2.2.1 c_events.2.2.2 o_course.1 o_course.2.1 o_course.2.2.1 o_course.2.2.2.1 o_course.2.2.2.2.1 o_course.2.2.2.2.2.1 o_course.2.2.2.2.2.2.1 o_course.2.2.2.2.2.2.2.1 o_course.2.2.2.2.2.2.2.2.1 o_course.2.2.2.2.2.2.2.2.2.1 o_course.2.2.2.2.2.2.2.2.2.2.1 o_course.2.2.2.2.2.2.2.2.2.2.2)) A D vwCl 7 0 0 6 [(0, .ref (a0 0)), (3, .int i3), (4, .long l4), (6, .int i6)] [] (uX7_digestMonths cyI cyJ cyS a0 c_room c_finding c_courseKnown c_settledByKnown c_told.1 c_told.2.1 c_told.2.2.1 c_told.2.2.2 c_events.1 c_events.2.1 c_events.2.2.1 c_events.2.2.2 c_course.1 c_course.2.1 c_course.2.2.1 c_course.2.2.2.1 c_course.2.2.2.2.1 c_course.2.2.2.2.2.1 c_course.2.2.2.2.2.2.1 c_course.2.2.2.2.2.2.2.1 c_course.2.2.2.2.2.2.2.2.1 c_course.2.2.2.2.2.2.2.2.2.1 c_course.2.2.2.2.2.2.2.2.2.2.1 c_course.2.2.2.2.2.2.2.2.2.2.2) := by
  intro n
  induction n with
  | zero => intro c_courseKnown c_course l4 i6 h; cases h
  | succ n ih =>
    intro c_courseKnown c_course l4 i6 h
    have h : bX7_digestMonths_6 l1 i3 c_room c_told c_events  (fX7_digestMonths_6 l1 i3 c_room c_told c_events  n) c_courseKnown c_course l4 i6 = some (o_r, o_courseKnown, o_course) := h
    unfold bX7_digestMonths_6 at h
    refine j_iload K 3 rfl dX7_digestMonths_6 rfl ?_
    refine j_iconst (v := (2 : Int32)) K (by decide) dX7_digestMonths_8 rfl ?_
    refine j_icmp_gt (tgt := 35) K dX7_digestMonths_9 (by decide) rfl h (fun h => ?_) (fun h => ?_)
    · refine j_aload_n K 0 rfl dX7_digestMonths_35 rfl ?_
      refine j_lload K 2 rfl dX7_digestMonths_36 rfl ?_
      refine j_iconst (v := (0 : Int32)) K (by decide) dX7_digestMonths_38 rfl ?_
      refine j_iload_n K 1 rfl dX7_digestMonths_39 rfl ?_
      obtain ⟨r_1, c_courseKnown_2, c_course_3, hc, h⟩ := bd3_some h
      refine j_callV (rest := []) (st1 := [.long r_1]) (ws' := (uX7_digestMonths cyI cyJ cyS a0 c_room c_finding c_courseKnown_2 c_settledByKnown c_told.1 c_told.2.1 c_told.2.2.1 c_told.2.2.2 c_events.1 c_events.2.1 c_events.2.2.1 c_events.2.2.2 c_course_3.1 c_course_3.2.1 c_course_3.2.2.1 c_course_3.2.2.2.1 c_course_3.2.2.2.2.1 c_course_3.2.2.2.2.2.1 c_course_3.2.2.2.2.2.2.1 c_course_3.2.2.2.2.2.2.2.1 c_course_3.2.2.2.2.2.2.2.2.1 c_course_3.2.2.2.2.2.2.2.2.2.1 c_course_3.2.2.2.2.2.2.2.2.2.2.1 c_course_3.2.2.2.2.2.2.2.2.2.2.2)) (T := TX7) (N := 15) (ci := 7) K (ctX7_digestMonth l D cyI cyJ cyS a0 l4 (0 : Int32) i3 c_finding c_settledByKnown c_room c_told c_events c_courseKnown c_course r_1 c_courseKnown_2 c_course_3 hc) (gdV mcL mw_41_3 mw_41_4 mw_41_5 mw_1_2 mw_41_6) rfl ⟨rfl, rfl⟩ hyX7_digestMonth ⟨Nat.le_of_ble_eq_true rfl, Nat.le_of_ble_eq_true rfl, Nat.le_of_ble_eq_true rfl, Nat.le_of_ble_eq_true rfl⟩ [0, 1, 2, 3, 4, 5, 6, 7, 8, 9, 10, 11, 12, 13, 14, 15, 16, 17, 18, 19, 20] (by decide) rfl [some 0, some 1, some 2, some 3, some 4, some 5, some 6, some 7, some 8, some 9, some 10, some 11, some 12, some 13, some 14, some 15, some 16, some 17, some 18, some 19, some 20] (by decide) rfl rfl 0 rfl rfl rfl rfl (Nat.le_of_ble_eq_true rfl) dX7_digestMonths_40 rfl rfl ?_
      refine j_lstore (lv' := [(4, .long r_1), (0, .ref (a0 0)), (3, .int i3), (6, .int i6)]) K (by decide) rfl dX7_digestMonths_43 rfl ?_
      refine j_aload_n K 1 rfl dX7_digestMonths_45 rfl ?_
      refine j_lload K 0 rfl dX7_digestMonths_46 rfl ?_
      refine j_bipush (v := (6 : Int32)) K (by decide) dX7_digestMonths_48 rfl ?_
      refine j_iload_n K 2 rfl dX7_digestMonths_50 rfl ?_
      obtain ⟨r_4, c_courseKnown_5, c_course_6, hc, h⟩ := bd3_some h
      refine j_callV (rest := []) (st1 := [.long r_4]) (ws' := (uX7_digestMonths cyI cyJ cyS a0 c_room c_finding c_courseKnown_5 c_settledByKnown c_told.1 c_told.2.1 c_told.2.2.1 c_told.2.2.2 c_events.1 c_events.2.1 c_events.2.2.1 c_events.2.2.2 c_course_6.1 c_course_6.2.1 c_course_6.2.2.1 c_course_6.2.2.2.1 c_course_6.2.2.2.2.1 c_course_6.2.2.2.2.2.1 c_course_6.2.2.2.2.2.2.1 c_course_6.2.2.2.2.2.2.2.1 c_course_6.2.2.2.2.2.2.2.2.1 c_course_6.2.2.2.2.2.2.2.2.2.1 c_course_6.2.2.2.2.2.2.2.2.2.2.1 c_course_6.2.2.2.2.2.2.2.2.2.2.2)) (T := TX7) (N := 15) (ci := 7) K (ctX7_digestMonth l D cyI cyJ cyS a0 r_1 (6 : Int32) i3 c_finding c_settledByKnown c_room c_told c_events c_courseKnown_2 c_course_3 r_4 c_courseKnown_5 c_course_6 hc) (gdV mcL mw_41_3 mw_41_4 mw_41_5 mw_1_2 mw_41_6) rfl ⟨rfl, rfl⟩ hyX7_digestMonth ⟨Nat.le_of_ble_eq_true rfl, Nat.le_of_ble_eq_true rfl, Nat.le_of_ble_eq_true rfl, Nat.le_of_ble_eq_true rfl⟩ [0, 1, 2, 3, 4, 5, 6, 7, 8, 9, 10, 11, 12, 13, 14, 15, 16, 17, 18, 19, 20] (by decide) rfl [some 0, some 1, some 2, some 3, some 4, some 5, some 6, some 7, some 8, some 9, some 10, some 11, some 12, some 13, some 14, some 15, some 16, some 17, some 18, some 19, some 20] (by decide) rfl rfl 0 rfl rfl rfl rfl (Nat.le_of_ble_eq_true rfl) dX7_digestMonths_51 rfl rfl ?_
      refine j_lstore (lv' := [(4, .long r_4), (0, .ref (a0 0)), (3, .int i3), (6, .int i6)]) K (by decide) rfl dX7_digestMonths_54 rfl ?_
      refine j_aload_n K 1 rfl dX7_digestMonths_56 rfl ?_
      refine j_lload K 0 rfl dX7_digestMonths_57 rfl ?_
      refine j_bipush (v := (13 : Int32)) K (by decide) dX7_digestMonths_59 rfl ?_
      refine j_iload_n K 2 rfl dX7_digestMonths_61 rfl ?_
      obtain ⟨r_7, c_courseKnown_8, c_course_9, hc, h⟩ := bd3_some h
      refine j_callV (rest := []) (st1 := [.long r_7]) (ws' := (uX7_digestMonths cyI cyJ cyS a0 c_room c_finding c_courseKnown_8 c_settledByKnown c_told.1 c_told.2.1 c_told.2.2.1 c_told.2.2.2 c_events.1 c_events.2.1 c_events.2.2.1 c_events.2.2.2 c_course_9.1 c_course_9.2.1 c_course_9.2.2.1 c_course_9.2.2.2.1 c_course_9.2.2.2.2.1 c_course_9.2.2.2.2.2.1 c_course_9.2.2.2.2.2.2.1 c_course_9.2.2.2.2.2.2.2.1 c_course_9.2.2.2.2.2.2.2.2.1 c_course_9.2.2.2.2.2.2.2.2.2.1 c_course_9.2.2.2.2.2.2.2.2.2.2.1 c_course_9.2.2.2.2.2.2.2.2.2.2.2)) (T := TX7) (N := 15) (ci := 7) K (ctX7_digestMonth l D cyI cyJ cyS a0 r_4 (13 : Int32) i3 c_finding c_settledByKnown c_room c_told c_events c_courseKnown_5 c_course_6 r_7 c_courseKnown_8 c_course_9 hc) (gdV mcL mw_41_3 mw_41_4 mw_41_5 mw_1_2 mw_41_6) rfl ⟨rfl, rfl⟩ hyX7_digestMonth ⟨Nat.le_of_ble_eq_true rfl, Nat.le_of_ble_eq_true rfl, Nat.le_of_ble_eq_true rfl, Nat.le_of_ble_eq_true rfl⟩ [0, 1, 2, 3, 4, 5, 6, 7, 8, 9, 10, 11, 12, 13, 14, 15, 16, 17, 18, 19, 20] (by decide) rfl [some 0, some 1, some 2, some 3, some 4, some 5, some 6, some 7, some 8, some 9, some 10, some 11, some 12, some 13, some 14, some 15, some 16, some 17, some 18, some 19, some 20] (by decide) rfl rfl 0 rfl rfl rfl rfl (Nat.le_of_ble_eq_true rfl) dX7_digestMonths_62 rfl rfl ?_
      refine j_lstore (lv' := [(4, .long r_7), (0, .ref (a0 0)), (3, .int i3), (6, .int i6)]) K (by decide) rfl dX7_digestMonths_65 rfl ?_
      refine j_aload_n K 1 rfl dX7_digestMonths_67 rfl ?_
      refine j_lload K 0 rfl dX7_digestMonths_68 rfl ?_
      refine j_bipush (v := (23 : Int32)) K (by decide) dX7_digestMonths_70 rfl ?_
      refine j_iload_n K 2 rfl dX7_digestMonths_72 rfl ?_
      obtain ⟨r_10, c_courseKnown_11, c_course_12, hc, h⟩ := bd3_some h
      refine j_callV (rest := []) (st1 := [.long r_10]) (ws' := (uX7_digestMonths cyI cyJ cyS a0 c_room c_finding c_courseKnown_11 c_settledByKnown c_told.1 c_told.2.1 c_told.2.2.1 c_told.2.2.2 c_events.1 c_events.2.1 c_events.2.2.1 c_events.2.2.2 c_course_12.1 c_course_12.2.1 c_course_12.2.2.1 c_course_12.2.2.2.1 c_course_12.2.2.2.2.1 c_course_12.2.2.2.2.2.1 c_course_12.2.2.2.2.2.2.1 c_course_12.2.2.2.2.2.2.2.1 c_course_12.2.2.2.2.2.2.2.2.1 c_course_12.2.2.2.2.2.2.2.2.2.1 c_course_12.2.2.2.2.2.2.2.2.2.2.1 c_course_12.2.2.2.2.2.2.2.2.2.2.2)) (T := TX7) (N := 15) (ci := 7) K (ctX7_digestMonth l D cyI cyJ cyS a0 r_7 (23 : Int32) i3 c_finding c_settledByKnown c_room c_told c_events c_courseKnown_8 c_course_9 r_10 c_courseKnown_11 c_course_12 hc) (gdV mcL mw_41_3 mw_41_4 mw_41_5 mw_1_2 mw_41_6) rfl ⟨rfl, rfl⟩ hyX7_digestMonth ⟨Nat.le_of_ble_eq_true rfl, Nat.le_of_ble_eq_true rfl, Nat.le_of_ble_eq_true rfl, Nat.le_of_ble_eq_true rfl⟩ [0, 1, 2, 3, 4, 5, 6, 7, 8, 9, 10, 11, 12, 13, 14, 15, 16, 17, 18, 19, 20] (by decide) rfl [some 0, some 1, some 2, some 3, some 4, some 5, some 6, some 7, some 8, some 9, some 10, some 11, some 12, some 13, some 14, some 15, some 16, some 17, some 18, some 19, some 20] (by decide) rfl rfl 0 rfl rfl rfl rfl (Nat.le_of_ble_eq_true rfl) dX7_digestMonths_73 rfl rfl ?_
      refine j_lstore (lv' := [(4, .long r_10), (0, .ref (a0 0)), (3, .int i3), (6, .int i6)]) K (by decide) rfl dX7_digestMonths_76 rfl ?_
      refine j_iconst (v := (0 : Int32)) K (by decide) dX7_digestMonths_78 rfl ?_
      refine j_istore (lv' := [(6, .int (0 : Int32)), (4, .long r_10), (0, .ref (a0 0)), (3, .int i3)]) K (by decide) rfl dX7_digestMonths_79 rfl ?_
      refine j_sub [2, 3, 1, 0] (lv' := [(0, .ref (a0 0)), (3, .int i3), (4, .long r_10), (6, .int (0 : Int32))]) rfl ?_
      exact wX7_digestMonths_81 K a0 c_finding c_settledByKnown l1 i3 c_room c_told c_events o_r o_courseKnown o_course jF c_courseKnown_11 c_course_12 r_10 (0 : Int32) h
    · refine j_ldc2 (v := (31 : Int64)) K (List.mem_cons_of_mem _ mw_40_17) dX7_digestMonths_12 rfl ?_
      refine j_lload K 2 rfl dX7_digestMonths_15 rfl ?_
      refine j_lmul K dX7_digestMonths_17 rfl ?_
      refine j_aload_n K 0 rfl dX7_digestMonths_18 rfl ?_
      refine j_iload_n K 1 rfl dX7_digestMonths_19 rfl ?_
      refine j_iload K 3 rfl dX7_digestMonths_20 rfl ?_
      obtain ⟨r_18, hc, h⟩ := bd1_some h
      refine j_callV (rest := [.long ((31 : Int64) * l4)]) (st1 := [.int r_18, .long ((31 : Int64) * l4)]) (ws' := (uX7_digestMonths cyI cyJ cyS a0 c_room c_finding c_courseKnown c_settledByKnown c_told.1 c_told.2.1 c_told.2.2.1 c_told.2.2.2 c_events.1 c_events.2.1 c_events.2.2.1 c_events.2.2.2 c_course.1 c_course.2.1 c_course.2.2.1 c_course.2.2.2.1 c_course.2.2.2.2.1 c_course.2.2.2.2.2.1 c_course.2.2.2.2.2.2.1 c_course.2.2.2.2.2.2.2.1 c_course.2.2.2.2.2.2.2.2.1 c_course.2.2.2.2.2.2.2.2.2.1 c_course.2.2.2.2.2.2.2.2.2.2.1 c_course.2.2.2.2.2.2.2.2.2.2.2)) (T := TX7) (N := 15) (ci := 7) K (ctX7_tenant l D cyI cyJ cyS a0 i3 i6 c_room c_finding c_courseKnown c_settledByKnown c_told r_18 hc) (gdV mcL mw_41_2 mw_9_13 mw_9_14 mw_1_2 mw_9_15) rfl ⟨rfl, rfl⟩ hyX7_tenant ⟨Nat.le_of_ble_eq_true rfl, Nat.le_of_ble_eq_true rfl, Nat.le_of_ble_eq_true rfl, Nat.le_of_ble_eq_true rfl⟩ [0, 1, 2, 3, 4] (by decide) rfl [some 0, some 1, some 2, some 3, some 4, none, none, none, none, none, none, none, none, none, none, none, none, none, none, none, none] (by decide) rfl rfl 0 rfl rfl rfl rfl (Nat.le_of_ble_eq_true rfl) dX7_digestMonths_22 rfl rfl ?_
      refine j_i2l K dX7_digestMonths_25 rfl ?_
      refine j_ladd K dX7_digestMonths_26 rfl ?_
      refine j_nmL h (fun l4_19 h => ?_)
      refine j_lstore (lv' := [(4, .long l4_19), (0, .ref (a0 0)), (3, .int i3), (6, .int i6)]) K (by decide) rfl dX7_digestMonths_27 rfl ?_
      refine j_iincN (lf := fun z => [(6, .int z), (4, .long l4_19), (0, .ref (a0 0)), (3, .int i3)]) K (v := i6 + (1 : Int32)) (k := 3) rfl rfl (by decide) (fun _ => rfl) dX7_digestMonths_29 rfl h (fun i6_20 h => ?_)
      refine j_goto (pc' := 6) K dX7_digestMonths_32 (by decide) ?_
      refine j_sub [2, 3, 1, 0] (lv' := [(0, .ref (a0 0)), (3, .int i3), (4, .long l4_19), (6, .int i6_20)]) rfl ?_
      exact ih c_courseKnown c_course l4_19 i6_20 h
set_option maxRecDepth 100000 in
set_option maxHeartbeats 4000000 in
theorem ctX7_digestMonths (l : Launch) (D : va_G) (cyI cyJ cyS : ClassId) (a0 : Nat → Nat) (l1 : Int64) (i3 : Int32) (c_finding : Int32) (c_settledByKnown : Int32) (c_room : Int32) (c_told : jT3) (c_events : jT3) (c_courseKnown : Int32) (c_course : jT11) (o_r : Int64) (o_courseKnown : Int32) (o_course : jT11) (h : fX7_digestMonths l1 i3 c_room c_told c_events c_courseKnown c_course = some (o_r, o_courseKnown, o_course)) : jC l yX7_digestMonths wdX7_digestMonths rmX7_digestMonths D vwCl (tyz cyI cyJ cyS) [.ref (a0 0), .long l1, .int i3] (uX7_digestMonths cyI cyJ cyS a0 c_room c_finding c_courseKnown c_settledByKnown c_told.1 c_told.2.1 c_told.2.2.1 c_told.2.2.2 c_events.1 c_events.2.1 c_events.2.2.1 c_events.2.2.2 c_course.1 c_course.2.1 c_course.2.2.1 c_course.2.2.2.1 c_course.2.2.2.2.1 c_course.2.2.2.2.2.1 c_course.2.2.2.2.2.2.1 c_course.2.2.2.2.2.2.2.1 c_course.2.2.2.2.2.2.2.2.1 c_course.2.2.2.2.2.2.2.2.2.1 c_course.2.2.2.2.2.2.2.2.2.2.1 c_course.2.2.2.2.2.2.2.2.2.2.2) (some (.long o_r)) (uX7_digestMonths cyI cyJ cyS a0 c_room c_finding o_courseKnown c_settledByKnown c_told.1 c_told.2.1 c_told.2.2.1 c_told.2.2.2 c_events.1 c_events.2.1 c_events.2.2.1 c_events.2.2.2 o_course.1 o_course.2.1 o_course.2.2.1 o_course.2.2.2.1 o_course.2.2.2.2.1 o_course.2.2.2.2.2.1 o_course.2.2.2.2.2.2.1 o_course.2.2.2.2.2.2.2.1 o_course.2.2.2.2.2.2.2.2.1 o_course.2.2.2.2.2.2.2.2.2.1 o_course.2.2.2.2.2.2.2.2.2.2.1 o_course.2.2.2.2.2.2.2.2.2.2.2) := by
  refine jC_of (cc := cX7_digestMonths) (nL := 7) (ret := (some .long)) (own := RX7) (lv := [(0, .ref (a0 0)), (1, .long l1), (3, .int i3)]) (by decide) rfl rfl (Nat.le_of_ble_eq_true rfl) rfl ?_
  intro p e s m args below meth c A K
  unfold fX7_digestMonths at h
  refine j_lload_n K 1 rfl dX7_digestMonths_0 rfl ?_
  refine j_lstore (lv' := [(4, .long l1), (0, .ref (a0 0)), (1, .long l1), (3, .int i3)]) K (by decide) rfl dX7_digestMonths_1 rfl ?_
  refine j_iconst (v := (0 : Int32)) K (by decide) dX7_digestMonths_3 rfl ?_
  refine j_istore (lv' := [(6, .int (0 : Int32)), (4, .long l1), (0, .ref (a0 0)), (1, .long l1), (3, .int i3)]) K (by decide) rfl dX7_digestMonths_4 rfl ?_
  refine j_sub [2, 4, 1, 0] (lv' := [(0, .ref (a0 0)), (3, .int i3), (4, .long l1), (6, .int (0 : Int32))]) rfl ?_
  exact wX7_digestMonths_6 K a0 c_finding c_settledByKnown l1 i3 c_room c_told c_events o_r o_courseKnown o_course jF c_courseKnown c_course l1 (0 : Int32) h
end GEN
