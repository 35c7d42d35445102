section GEN
variable {p : Program} {l : Launch} {e : Env} {s : State} {m : MethodId} {args : Array Value} {below : List Frame} {meth : Method} {c : Code} {A : Nat → Prop} {D : va_G} {cyI cyJ cyS : ClassId}
abbrev uX7_write (cyI cyJ cyS : ClassId) (a0 : Nat → Nat) (c_room : Int32) (c_finding : Int32) (c_courseKnown : Int32) (c_settledByKnown : Int32) (c_told_size : Int32) (c_told_sort : Nat → Int32) (c_told_paid : Nat → Int32) (c_told_wage : Nat → Int32) (c_events_size : Int32) (c_events_kind : Nat → Int32) (c_events_month : Nat → Int32) (c_events_number : Nat → Int32) (c_course_size : Int32) (c_course_settled : Nat → Int32) (c_course_falls : Nat → Int32) (c_course_passed : Nat → Int32) (c_course_floors : Nat → Int32) (c_course_lefts : Nat → Int32) (c_course_fallers : Nat → Int32) (c_course_floor : Nat → Int32) (c_course_before : Nat → Int32) (c_course_left : Nat → Int32) (c_course_order : Nat → Int32) (c_course_taken : Nat → Int32) (c_sh0_form : Int32) (c_sh0_size : Int32) (c_sh0_lost : Int32) (c_sh0_items : Nat → Int32) (c_sh1_form : Int32) (c_sh1_size : Int32) (c_sh1_lost : Int32) (c_sh1_items : Nat → Int32) (c_sh2_form : Int32) (c_sh2_size : Int32) (c_sh2_lost : Int32) (c_sh2_items : Nat → Int32) (c_sh3_form : Int32) (c_sh3_size : Int32) (c_sh3_lost : Int32) (c_sh3_items : Nat → Int32) : va_W := [((a0 0), .inr (7, [.ref (a0 1), .ref (a0 3), .ref (a0 7), .ref (a0 11), .ref (a0 15), .ref (a0 19), .ref (a0 31), .ref (a0 43), .ref (a0 44), .ref (a0 53), .ref (a0 54), .int c_room, .int c_finding, .int c_courseKnown, .int c_settledByKnown])), ((a0 3), .inr (5, [.ref (a0 4), .ref (a0 5), .ref (a0 6), .int c_told_size])), ((a0 4), .inl (cyI, 8, .inl c_told_sort)), ((a0 5), .inl (cyI, 8, .inl c_told_paid)), ((a0 6), .inl (cyI, 8, .inl c_told_wage)), ((a0 11), .inr (2, [.ref (a0 12), .ref (a0 13), .ref (a0 14), .int c_events_size])), ((a0 12), .inl (cyI, 8, .inl c_events_kind)), ((a0 13), .inl (cyI, 8, .inl c_events_month)), ((a0 14), .inl (cyI, 8, .inl c_events_number)), ((a0 19), .inr (1, [.int c_course_size, .ref (a0 20), .ref (a0 21), .ref (a0 22), .ref (a0 23), .ref (a0 24), .ref (a0 25), .ref (a0 26), .ref (a0 27), .ref (a0 28), .ref (a0 29), .ref (a0 30)])), ((a0 20), .inl (cyI, 8, .inl c_course_settled)), ((a0 21), .inl (cyI, 8, .inl c_course_falls)), ((a0 22), .inl (cyI, 8, .inl c_course_passed)), ((a0 23), .inl (cyI, 192, .inl c_course_floors)), ((a0 24), .inl (cyI, 192, .inl c_course_lefts)), ((a0 25), .inl (cyI, 24, .inl c_course_fallers)), ((a0 26), .inl (cyI, 8, .inl c_course_floor)), ((a0 27), .inl (cyI, 8, .inl c_course_before)), ((a0 28), .inl (cyI, 8, .inl c_course_left)), ((a0 29), .inl (cyI, 8, .inl c_course_order)), ((a0 30), .inl (cyI, 13, .inl c_course_taken)), ((a0 44), .inl (cyS, 4, .inr (.inr (.inr (.inr (va_up (va_up (va_up (va_up (fun _ => none) 0 (some (a0 45))) 1 (some (a0 47))) 2 (some (a0 49))) 3 (some (a0 51)))))))), ((a0 45), .inr (4, [.ref (a0 46), .int c_sh0_form, .int c_sh0_size, .int c_sh0_lost])), ((a0 46), .inl (cyI, 60, .inl c_sh0_items)), ((a0 47), .inr (4, [.ref (a0 48), .int c_sh1_form, .int c_sh1_size, .int c_sh1_lost])), ((a0 48), .inl (cyI, 60, .inl c_sh1_items)), ((a0 49), .inr (4, [.ref (a0 50), .int c_sh2_form, .int c_sh2_size, .int c_sh2_lost])), ((a0 50), .inl (cyI, 60, .inl c_sh2_items)), ((a0 51), .inr (4, [.ref (a0 52), .int c_sh3_form, .int c_sh3_size, .int c_sh3_lost])), ((a0 52), .inl (cyI, 60, .inl c_sh3_items))]
abbrev rmX7_write : Room := { frames := 5, cells := 0, slots := 0, locals := 116 }
abbrev wdX7_write : List Cond := .code yX7_write cX7_write 6 (some .int) :: wsL_law
theorem hyX7_write : yX7_write.cls = RX7 ∧ yX7_write.cls ≠ "java/lang/invoke/MethodHandle" ∧ yX7_write.cls ≠ "java/lang/invoke/VarHandle" ∧ (parseMethodDescriptor yX7_write.desc).map (fun d => d.parameters.length) = some 2 := by decide +kernel
set_option maxRecDepth 100000 in
set_option maxHeartbeats 4000000 in
theorem wX7_write_62 (K : jK p s m args meth c A D vwCl (tyz cyI cyJ cyS) cX7_write 6 RX7 wdX7_write (some .int)) (a0 : Nat → Nat) (c_settledByKnown : Int32) (i1 : Int32) (i2 : Int32) (c_room : Int32) (c_told : jT3) (c_events : jT3) (o_r : Int32) (o_finding : Int32) (o_courseKnown : Int32) (o_course : jT11) (o_sh0 : jS4) (o_sh1 : jS4) (o_sh2 : jS4) (o_sh3 : jS4) (fei2 : i2 = (0 : Int32))  : ∀ (n : Nat) (c_finding : Int32) (c_courseKnown : Int32) (c_course : jT11) (c_sh0 : jS4) (c_sh1 : jS4) (c_sh2 : jS4) (c_sh3 : jS4) (i4 : Int32) (i5 : Int32), fX7_write_62 i1 i2 c_room c_told c_events  n c_finding c_courseKnown c_course c_sh0 c_sh1 c_sh2 c_sh3 i4 i5 = some (o_r, o_finding, o_courseKnown, o_course, o_sh0, o_sh1, o_sh2, o_sh3) → jw p l e rmX7_write s m args below meth c (jQ below args s A D vwCl (tyz cyI cyJ cyS) 0 0 (some (.int o_r)) (uX7_write cyI cyJ cyS a0 c_room o_finding o_courseKnown c_settledByKnown c_told.1 c_told.2.1 c_told.2.2.1 c_told.2.2.2 c_events.1 c_events.2.1 c_events.2.2.1 c_events.2.2.2 o_course.1 o_course.2.1 o_course.2.2.1 o_course.2.2.2.1 o_course.2.2.2.2.1 o_course.2.2.2.2.2.1 o_course.2.2.2.2.2.2.1 o_course.2.2.2.2.2.2.2.1 o_course.2.2.2.2.2.2.2.2.1 o_course.2.2.2.2.2.2.2.2.2.1 o_course.2.2.2.2.2.2.2.2.2.2.1 o_course.2.2.2.2.2.2.2.2.2.2.2 o_sh0.1 o_sh0.2.1 o_sh0.2.2.1 o_sh0.2.2.2 o_sh1.1 o_sh1.2.1 o_sh1.2.2.1 o_sh1.2.2.2 o_sh2.1 o_sh2.2.1 o_sh2.2.2.1 o_sh2.2.2.2 o_sh3.1 o_sh3.2.1 o_sh3.2.2.1 o_sh3.2.2.2)) A D vwCl 6 0 0 62 [(0, .ref (a0 0)), (1, .int i1), (2, .int i2), (3, .ref (a0 19)), (4, .int i4), (5, .int i5)] [] (uX7_write cyI cyJ cyS a0 c_room c_finding c_courseKnown c_settledByKnown c_told.1 c_told.2.1 c_told.2.2.1 c_told.2.2.2 c_events.1 c_events.2.1 c_events.2.2.1 c_events.2.2.2 c_course.1 c_course.2.1 c_course.2.2.1 c_course.2.2.2.1 c_course.2.2.2.2.1 c_course.2.2.2.2.2.1 c_course.2.2.2.2.2.2.1 c_course.2.2.2.2.2.2.2.1 c_course.2.2.2.2.2.2.2.2.1 c_course.2.2.2.2.2.2.2.2.2.1 c_course.2.2.2.2.2.2.2.2.2.2.1 c_course.2.2.2.2.2.2.2.2.2.2.2 c_sh0.1 c_sh0.2.1 c_sh0.2.2.1 c_sh0.2.2.2 c_sh1.1 c_sh1.2.1 c_sh1.2.2.1 c_sh1.2.2.2 c_sh2.1 c_sh2.2.1 c_sh2.2.2.1 c_sh2.2.2.2 c_sh3.1 c_sh3.2.1 c_sh3.2.2.1 c_sh3.2.2.2) := by
  intro n
  induction n with
  | zero => intro c_finding c_courseKnown c_course c_sh0 c_sh1 c_sh2 c_sh3 i4 i5 h; cases h
  | succ n ih =>
    intro c_finding c_courseKnown c_course c_sh0 c_sh1 c_sh2 c_sh3 i4 i5 h
    have h : bX7_write_62 i1 i2 c_room c_told c_events  (fX7_write_62 i1 i2 c_room c_told c_events  n) c_finding c_courseKnown c_course c_sh0 c_sh1 c_sh2 c_sh3 i4 i5 = some (o_r, o_finding, o_courseKnown, o_course, o_sh0, o_sh1, o_sh2, o_sh3) := h
    unfold bX7_write_62 at h
    refine j_iload K 5 rfl dX7_write_62 rfl ?_
    refine j_iload K 4 rfl dX7_write_64 rfl ?_
    refine j_icmp_ge (tgt := 93) K dX7_write_66 (by decide) rfl h (fun h => ?_) (fun h => ?_)
    · refine j_iload K 4 rfl dX7_write_93 rfl ?_
      obtain ⟨e1, g1⟩ := Prod.mk.inj (Option.some.inj h)
      subst e1
      obtain ⟨e2, g2⟩ := Prod.mk.inj g1
      subst e2
      obtain ⟨e3, g3⟩ := Prod.mk.inj g2
      subst e3
      obtain ⟨e4, g4⟩ := Prod.mk.inj g3
      subst e4
      obtain ⟨e5, g5⟩ := Prod.mk.inj g4
      subst e5
      obtain ⟨e6, g6⟩ := Prod.mk.inj g5
      subst e6
      obtain ⟨e7, g7⟩ := Prod.mk.inj g6
      subst e7
      subst g7
      exact j_iret K dX7_write_95
    · refine j_aload_n K 0 rfl dX7_write_69 rfl ?_
      refine j_getf (C := RX7) (T := TX7) (N := 15) (ci := 7) K icX7 0 8 (List.mem_cons_of_mem _ mw_2_15) rfl rfl rfl (by decide) rfl dX7_write_70 rfl ?_
      refine j_iload_n K 2 rfl dX7_write_73 rfl ?_
      refine j_aald (b := (a0 45)) K 21 2 rfl rfl (vin4_0 fei2) (by rw [fei2]; rfl) dX7_write_74 rfl ?_
      refine j_iload K 5 rfl dX7_write_75 rfl ?_
      refine j_aload_n K 3 rfl dX7_write_77 rfl ?_
      refine j_iload K 5 rfl dX7_write_78 rfl ?_
      refine j_iload_n K 1 rfl dX7_write_80 rfl ?_
      obtain ⟨r_6, hc, h⟩ := bd1_some h
      refine j_callV (rest := [.int i5, .ref (a0 45)]) (st1 := [.int r_6, .int i5, .ref (a0 45)]) (ws' := (uX7_write cyI cyJ cyS a0 c_room c_finding c_courseKnown c_settledByKnown c_told.1 c_told.2.1 c_told.2.2.1 c_told.2.2.2 c_events.1 c_events.2.1 c_events.2.2.1 c_events.2.2.2 c_course.1 c_course.2.1 c_course.2.2.1 c_course.2.2.2.1 c_course.2.2.2.2.1 c_course.2.2.2.2.2.1 c_course.2.2.2.2.2.2.1 c_course.2.2.2.2.2.2.2.1 c_course.2.2.2.2.2.2.2.2.1 c_course.2.2.2.2.2.2.2.2.2.1 c_course.2.2.2.2.2.2.2.2.2.2.1 c_course.2.2.2.2.2.2.2.2.2.2.2 c_sh0.1 c_sh0.2.1 c_sh0.2.2.1 c_sh0.2.2.2 c_sh1.1 c_sh1.2.1 c_sh1.2.2.1 c_sh1.2.2.2 c_sh2.1 c_sh2.2.1 c_sh2.2.2.1 c_sh2.2.2.2 c_sh3.1 c_sh3.2.1 c_sh3.2.2.1 c_sh3.2.2.2)) (T := TX1) (N := 12) (ci := 1) K (ctX1_floorAt l D cyI cyJ cyS (fun k => a0 (k + 19)) i5 i1 c_course.1 c_course.2.2.2.2.1 r_6 hc) (gdV mcL mw_16_10 mw_16_11 mw_16_12 mw_2_7 mw_16_13) rfl ⟨rfl, rfl⟩ hyX1_floorAt ⟨Nat.le_of_ble_eq_true rfl, Nat.le_of_ble_eq_true rfl, Nat.le_of_ble_eq_true rfl, Nat.le_of_ble_eq_true rfl⟩ [9, 13] (by decide) rfl [none, none, none, none, none, none, none, none, none, some 0, none, none, none, some 1, none, none, none, none, none, none, none, none, none, none, none, none, none, none, none, none] (by decide) rfl rfl 9 rfl rfl rfl rfl (Nat.le_of_ble_eq_true rfl) dX7_write_81 rfl rfl ?_
      obtain ⟨c_sh0_items_7, hc, h⟩ := bd1_some h
      refine j_callV (rest := []) (st1 := []) (ws' := (uX7_write cyI cyJ cyS a0 c_room c_finding c_courseKnown c_settledByKnown c_told.1 c_told.2.1 c_told.2.2.1 c_told.2.2.2 c_events.1 c_events.2.1 c_events.2.2.1 c_events.2.2.2 c_course.1 c_course.2.1 c_course.2.2.1 c_course.2.2.2.1 c_course.2.2.2.2.1 c_course.2.2.2.2.2.1 c_course.2.2.2.2.2.2.1 c_course.2.2.2.2.2.2.2.1 c_course.2.2.2.2.2.2.2.2.1 c_course.2.2.2.2.2.2.2.2.2.1 c_course.2.2.2.2.2.2.2.2.2.2.1 c_course.2.2.2.2.2.2.2.2.2.2.2 c_sh0.1 c_sh0.2.1 c_sh0.2.2.1 c_sh0_items_7 c_sh1.1 c_sh1.2.1 c_sh1.2.2.1 c_sh1.2.2.2 c_sh2.1 c_sh2.2.1 c_sh2.2.2.1 c_sh2.2.2.2 c_sh3.1 c_sh3.2.1 c_sh3.2.2.1 c_sh3.2.2.2)) (T := TX4) (N := 4) (ci := 4) K (ctX4_put l D cyI cyJ cyS (fun k => a0 (k + 45)) i5 r_6 c_sh0.2.1 c_sh0.2.2.1 c_sh0.1 c_sh0.2.2.2 c_sh0_items_7 hc) (gdV mcL mw_37_19 mw_37_20 mw_37_21 mw_3_0 mw_37_22) rfl ⟨rfl, rfl⟩ hyX4_put ⟨Nat.le_of_ble_eq_true rfl, Nat.le_of_ble_eq_true rfl, Nat.le_of_ble_eq_true rfl, Nat.le_of_ble_eq_true rfl⟩ [22, 23] (by decide) rfl [none, none, none, none, none, none, none, none, none, none, none, none, none, none, none, none, none, none, none, none, none, none, some 0, some 1, none, none, none, none, none, none] (by decide) rfl rfl 22 rfl rfl rfl rfl (Nat.le_of_ble_eq_true rfl) dX7_write_84 rfl rfl ?_
      refine j_iincN (lf := fun z => [(5, .int z), (0, .ref (a0 0)), (1, .int i1), (2, .int i2), (3, .ref (a0 19)), (4, .int i4)]) K (v := i5 + (1 : Int32)) (k := 5) rfl rfl (by decide) (fun _ => rfl) dX7_write_87 rfl h (fun i5_8 h => ?_)
      refine j_goto (pc' := 62) K dX7_write_90 (by decide) ?_
      refine j_sub [1, 2, 3, 4, 5, 0] (lv' := [(0, .ref (a0 0)), (1, .int i1), (2, .int i2), (3, .ref (a0 19)), (4, .int i4), (5, .int i5_8)]) rfl ?_
      exact ih c_finding c_courseKnown c_course (c_sh0.1, c_sh0.2.1, c_sh0.2.2.1, c_sh0_items_7) c_sh1 c_sh2 c_sh3 i4 i5_8 h
set_option maxRecDepth 100000 in
set_option maxHeartbeats 4000000 in
theorem wX7_write_62_v1 (K : jK p s m args meth c A D vwCl (tyz cyI cyJ cyS) cX7_write 6 RX7 wdX7_write (some .int)) (a0 : Nat → Nat) (c_settledByKnown : Int32) (i1 : Int32) (i2 : Int32) (c_room : Int32) (c_told : jT3) (c_events : jT3) (o_r : Int32) (o_finding : Int32) (o_courseKnown : Int32) (o_course : jT11) (o_sh0 : jS4) (o_sh1 : jS4) (o_sh2 : jS4) (o_sh3 : jS4) (fei2 : i2 = (1 : Int32))  : ∀ (n : Nat) (c_finding : Int32) (c_courseKnown : Int32) (c_course : jT11) (c_sh0 : jS4) (c_sh1 : jS4) (c_sh2 : jS4) (c_sh3 : jS4) (i4 : Int32) (i5 : Int32), fX7_write_62_v1 i1 i2 c_room c_told c_events  n c_finding c_courseKnown c_course c_sh0 c_sh1 c_sh2 c_sh3 i4 i5 = some (o_r, o_finding, o_courseKnown, o_course, o_sh0, o_sh1, o_sh2, o_sh3) → jw p l e rmX7_write s m args below meth c (jQ below args s A D vwCl (tyz cyI cyJ cyS) 0 0 (some (.int o_r)) (uX7_write cyI cyJ cyS a0 c_room o_finding o_courseKnown c_settledByKnown c_told.1 c_told.2.1 c_told.2.2.1 c_told.2.2.2 c_events.1 c_events.2.1 c_events.2.2.1 c_events.2.2.2 o_course.1 o_course.2.1 o_course.2.2.1 o_course.2.2.2.1 o_course.2.2.2.2.1 o_course.2.2.2.2.2.1 o_course.2.2.2.2.2.2.1 o_course.2.2.2.2.2.2.2.1 o_course.2.2.2.2.2.2.2.2.1 o_course.2.2.2.2.2.2.2.2.2.1 o_course.2.2.2.2.2.2.2.2.2.2.1 o_course.2.2.2.2.2.2.2.2.2.2.2 o_sh0.1 o_sh0.2.1 o_sh0.2.2.1 o_sh0.2.2.2 o_sh1.1 o_sh1.2.1 o_sh1.2.2.1 o_sh1.2.2.2 o_sh2.1 o_sh2.2.1 o_sh2.2.2.1 o_sh2.2.2.2 o_sh3.1 o_sh3.2.1 o_sh3.2.2.1 o_sh3.2.2.2)) A D vwCl 6 0 0 62 [(0, .ref (a0 0)), (1, .int i1), (2, .int i2), (3, .ref (a0 19)), (4, .int i4), (5, .int i5)] [] (uX7_write cyI cyJ cyS a0 c_room c_finding c_courseKnown c_settledByKnown c_told.1 c_told.2.1 c_told.2.2.1 c_told.2.2.2 c_events.1 c_events.2.1 c_events.2.2.1 c_events.2.2.2 c_course.1 c_course.2.1 c_course.2.2.1 c_course.2.2.2.1 c_course.2.2.2.2.1 c_course.2.2.2.2.2.1 c_course.2.2.2.2.2.2.1 c_course.2.2.2.2.2.2.2.1 c_course.2.2.2.2.2.2.2.2.1 c_course.2.2.2.2.2.2.2.2.2.1 c_course.2.2.2.2.2.2.2.2.2.2.1 c_course.2.2.2.2.2.2.2.2.2.2.2 c_sh0.1 c_sh0.2.1 c_sh0.2.2.1 c_sh0.2.2.2 c_sh1.1 c_sh1.2.1 c_sh1.2.2.1 c_sh1.2.2.2 c_sh2.1 c_sh2.2.1 c_sh2.2.2.1 c_sh2.2.2.2 c_sh3.1 c_sh3.2.1 c_sh3.2.2.1 c_sh3.2.2.2) := by
  intro n
  induction n with
  | zero => intro c_finding c_courseKnown c_course c_sh0 c_sh1 c_sh2 c_sh3 i4 i5 h; cases h
  | succ n ih =>
    intro c_finding c_courseKnown c_course c_sh0 c_sh1 c_sh2 c_sh3 i4 i5 h
    have h : bX7_write_62_v1 i1 i2 c_room c_told c_events  (fX7_write_62_v1 i1 i2 c_room c_told c_events  n) c_finding c_courseKnown c_course c_sh0 c_sh1 c_sh2 c_sh3 i4 i5 = some (o_r, o_finding, o_courseKnown, o_course, o_sh0, o_sh1, o_sh2, o_sh3) := h
    unfold bX7_write_62_v1 at h
    refine j_iload K 5 rfl dX7_write_62 rfl ?_
    refine j_iload K 4 rfl dX7_write_64 rfl ?_
    refine j_icmp_ge (tgt := 93) K dX7_write_66 (by decide) rfl h (fun h => ?_) (fun h => ?_)
    · refine j_iload K 4 rfl dX7_write_93 rfl ?_
      obtain ⟨e1, g1⟩ := Prod.mk.inj (Option.some.inj h)
      subst e1
      obtain ⟨e2, g2⟩ := Prod.mk.inj g1
      subst e2
      obtain ⟨e3, g3⟩ := Prod.mk.inj g2
      subst e3
      obtain ⟨e4, g4⟩ := Prod.mk.inj g3
      subst e4
      obtain ⟨e5, g5⟩ := Prod.mk.inj g4
      subst e5
      obtain ⟨e6, g6⟩ := Prod.mk.inj g5
      subst e6
      obtain ⟨e7, g7⟩ := Prod.mk.inj g6
      subst e7
      subst g7
      exact j_iret K dX7_write_95
    · refine j_aload_n K 0 rfl dX7_write_69 rfl ?_
      refine j_getf (C := RX7) (T := TX7) (N := 15) (ci := 7) K icX7 0 8 (List.mem_cons_of_mem _ mw_2_15) rfl rfl rfl (by decide) rfl dX7_write_70 rfl ?_
      refine j_iload_n K 2 rfl dX7_write_73 rfl ?_
      refine j_aald (b := (a0 47)) K 21 2 rfl rfl (vin4_1 fei2) (by rw [fei2]; rfl) dX7_write_74 rfl ?_
      refine j_iload K 5 rfl dX7_write_75 rfl ?_
      refine j_aload_n K 3 rfl dX7_write_77 rfl ?_
      refine j_iload K 5 rfl dX7_write_78 rfl ?_
      refine j_iload_n K 1 rfl dX7_write_80 rfl ?_
      obtain ⟨r_14, hc, h⟩ := bd1_some h
      refine j_callV (rest := [.int i5, .ref (a0 47)]) (st1 := [.int r_14, .int i5, .ref (a0 47)]) (ws' := (uX7_write cyI cyJ cyS a0 c_room c_finding c_courseKnown c_settledByKnown c_told.1 c_told.2.1 c_told.2.2.1 c_told.2.2.2 c_events.1 c_events.2.1 c_events.2.2.1 c_events.2.2.2 c_course.1 c_course.2.1 c_course.2.2.1 c_course.2.2.2.1 c_course.2.2.2.2.1 c_course.2.2.2.2.2.1 c_course.2.2.2.2.2.2.1 c_course.2.2.2.2.2.2.2.1 c_course.2.2.2.2.2.2.2.2.1 c_course.2.2.2.2.2.2.2.2.2.1 c_course.2.2.2.2.2.2.2.2.2.2.1 c_course.2.2.2.2.2.2.2.2.2.2.2 c_sh0.1 c_sh0.2.1 c_sh0.2.2.1 c_sh0.2.2.2 c_sh1.1 c_sh1.2.1 c_sh1.2.2.1 c_sh1.2.2.2 c_sh2.1 c_sh2.2.1 c_sh2.2.2.1 c_sh2.2.2.2 c_sh3.1 c_sh3.2.1 c_sh3.2.2.1 c_sh3.2.2.2)) (T := TX1) (N := 12) (ci := 1) K (ctX1_floorAt l D cyI cyJ cyS (fun k => a0 (k + 19)) i5 i1 c_course.1 c_course.2.2.2.2.1 r_14 hc) (gdV mcL mw_16_10 mw_16_11 mw_16_12 mw_2_7 mw_16_13) rfl ⟨rfl, rfl⟩ hyX1_floorAt ⟨Nat.le_of_ble_eq_true rfl, Nat.le_of_ble_eq_true rfl, Nat.le_of_ble_eq_true rfl, Nat.le_of_ble_eq_true rfl⟩ [9, 13] (by decide) rfl [none, none, none, none, none, none, none, none, none, some 0, none, none, none, some 1, none, none, none, none, none, none, none, none, none, none, none, none, none, none, none, none] (by decide) rfl rfl 9 rfl rfl rfl rfl (Nat.le_of_ble_eq_true rfl) dX7_write_81 rfl rfl ?_
      obtain ⟨c_sh1_items_15, hc, h⟩ := bd1_some h
      refine j_callV (rest := []) (st1 := []) (ws' := (uX7_write cyI cyJ cyS a0 c_room c_finding c_courseKnown c_settledByKnown c_told.1 c_told.2.1 c_told.2.2.1 c_told.2.2.2 c_events.1 c_events.2.1 c_events.2.2.1 c_events.2.2.2 c_course.1 c_course.2.1 c_course.2.2.1 c_course.2.2.2.1 c_course.2.2.2.2.1 c_course.2.2.2.2.2.1 c_course.2.2.2.2.2.2.1 c_course.2.2.2.2.2.2.2.1 c_course.2.2.2.2.2.2.2.2.1 c_course.2.2.2.2.2.2.2.2.2.1 c_course.2.2.2.2.2.2.2.2.2.2.1 c_course.2.2.2.2.2.2.2.2.2.2.2 c_sh0.1 c_sh0.2.1 c_sh0.2.2.1 c_sh0.2.2.2 c_sh1.1 c_sh1.2.1 c_sh1.2.2.1 c_sh1_items_15 c_sh2.1 c_sh2.2.1 c_sh2.2.2.1 c_sh2.2.2.2 c_sh3.1 c_sh3.2.1 c_sh3.2.2.1 c_sh3.2.2.2)) (T := TX4) (N := 4) (ci := 4) K (ctX4_put l D cyI cyJ cyS (fun k => a0 (k + 47)) i5 r_14 c_sh1.2.1 c_sh1.2.2.1 c_sh1.1 c_sh1.2.2.2 c_sh1_items_15 hc) (gdV mcL mw_37_19 mw_37_20 mw_37_21 mw_3_0 mw_37_22) rfl ⟨rfl, rfl⟩ hyX4_put ⟨Nat.le_of_ble_eq_true rfl, Nat.le_of_ble_eq_true rfl, Nat.le_of_ble_eq_true rfl, Nat.le_of_ble_eq_true rfl⟩ [24, 25] (by decide) rfl [none, none, none, none, none, none, none, none, none, none, none, none, none, none, none, none, none, none, none, none, none, none, none, none, some 0, some 1, none, none, none, none] (by decide) rfl rfl 24 rfl rfl rfl rfl (Nat.le_of_ble_eq_true rfl) dX7_write_84 rfl rfl ?_
      refine j_iincN (lf := fun z => [(5, .int z), (0, .ref (a0 0)), (1, .int i1), (2, .int i2), (3, .ref (a0 19)), (4, .int i4)]) K (v := i5 + (1 : Int32)) (k := 5) rfl rfl (by decide) (fun _ => rfl) dX7_write_87 rfl h (fun i5_16 h => ?_)
      refine j_goto (pc' := 62) K dX7_write_90 (by decide) ?_
      refine j_sub [1, 2, 3, 4, 5, 0] (lv' := [(0, .ref (a0 0)), (1, .int i1), (2, .int i2), (3, .ref (a0 19)), (4, .int i4), (5, .int i5_16)]) rfl ?_
      exact ih c_finding c_courseKnown c_course c_sh0 (c_sh1.1, c_sh1.2.1, c_sh1.2.2.1, c_sh1_items_15) c_sh2 c_sh3 i4 i5_16 h
set_option maxRecDepth 100000 in
set_option maxHeartbeats 4000000 in
theorem wX7_write_62_v2 (K : jK p s m args meth c A D vwCl (tyz cyI cyJ cyS) cX7_write 6 RX7 wdX7_write (some .int)) (a0 : Nat → Nat) (c_settledByKnown : Int32) (i1 : Int32) (i2 : Int32) (c_room : Int32) (c_told : jT3) (c_events : jT3) (o_r : Int32) (o_finding : Int32) (o_courseKnown : Int32) (o_course : jT11) (o_sh0 : jS4) (o_sh1 : jS4) (o_sh2 : jS4) (o_sh3 : jS4) (fei2 : i2 = (2 : Int32))  : ∀ (n : Nat) (c_finding : Int32) (c_courseKnown : Int32) (c_course : jT11) (c_sh0 : jS4) (c_sh1 : jS4) (c_sh2 : jS4) (c_sh3 : jS4) (i4 : Int32) (i5 : Int32), fX7_write_62_v2 i1 i2 c_room c_told c_events  n c_finding c_courseKnown c_course c_sh0 c_sh1 c_sh2 c_sh3 i4 i5 = some (o_r, o_finding, o_courseKnown, o_course, o_sh0, o_sh1, o_sh2, o_sh3) → jw p l e rmX7_write s m args below meth c (jQ below args s A D vwCl (tyz cyI cyJ cyS) 0 0 (some (.int o_r)) (uX7_write cyI cyJ cyS a0 c_room o_finding o_courseKnown c_settledByKnown c_told.1 c_told.2.1 c_told.2.2.1 c_told.2.2.2 c_events.1 c_events.2.1 c_events.2.2.1 c_events.2.2.2 o_course.1 o_course.2.1 o_course.2.2.1 o_course.2.2.2.1 o_course.2.2.2.2.1 o_course.2.2.2.2.2.1 o_course.2.2.2.2.2.2.1 o_course.2.2.2.2.2.2.2.1 o_course.2.2.2.2.2.2.2.2.1 o_course.2.2.2.2.2.2.2.2.2.1 o_course.2.2.2.2.2.2.2.2.2.2.1 o_course.2.2.2.2.2.2.2.2.2.2.2 o_sh0.1 o_sh0.2.1 o_sh0.2.2.1 o_sh0.2.2.2 o_sh1.1 o_sh1.2.1 o_sh1.2.2.1 o_sh1.2.2.2 o_sh2.1 o_sh2.2.1 o_sh2.2.2.1 o_sh2.2.2.2 o_sh3.1 o_sh3.2.1 o_sh3.2.2.1 o_sh3.2.2.2)) A D vwCl 6 0 0 62 [(0, .ref (a0 0)), (1, .int i1), (2, .int i2), (3, .ref (a0 19)), (4, .int i4), (5, .int i5)] [] (uX7_write cyI cyJ cyS a0 c_room c_finding c_courseKnown c_settledByKnown c_told.1 c_told.2.1 c_told.2.2.1 c_told.2.2.2 c_events.1 c_events.2.1 c_events.2.2.1 c_events.2.2.2 c_course.1 c_course.2.1 c_course.2.2.1 c_course.2.2.2.1 c_course.2.2.2.2.1 c_course.2.2.2.2.2.1 c_course.2.2.2.2.2.2.1 c_course.2.2.2.2.2.2.2.1 c_course.2.2.2.2.2.2.2.2.1 c_course.2.2.2.2.2.2.2.2.2.1 c_course.2.2.2.2.2.2.2.2.2.2.1 c_course.2.2.2.2.2.2.2.2.2.2.2 c_sh0.1 c_sh0.2.1 c_sh0.2.2.1 c_sh0.2.2.2 c_sh1.1 c_sh1.2.1 c_sh1.2.2.1 c_sh1.2.2.2 c_sh2.1 c_sh2.2.1 c_sh2.2.2.1 c_sh2.2.2.2 c_sh3.1 c_sh3.2.1 c_sh3.2.2.1 c_sh3.2.2.2) := by
  intro n
  induction n with
  | zero => intro c_finding c_courseKnown c_course c_sh0 c_sh1 c_sh2 c_sh3 i4 i5 h; cases h
  | succ n ih =>
    intro c_finding c_courseKnown c_course c_sh0 c_sh1 c_sh2 c_sh3 i4 i5 h
    have h : bX7_write_62_v2 i1 i2 c_room c_told c_events  (fX7_write_62_v2 i1 i2 c_room c_told c_events  n) c_finding c_courseKnown c_course c_sh0 c_sh1 c_sh2 c_sh3 i4 i5 = some (o_r, o_finding, o_courseKnown, o_course, o_sh0, o_sh1, o_sh2, o_sh3) := h
    unfold bX7_write_62_v2 at h
    refine j_iload K 5 rfl dX7_write_62 rfl ?_
    refine j_iload K 4 rfl dX7_write_64 rfl ?_
    refine j_icmp_ge (tgt := 93) K dX7_write_66 (by decide) rfl h (fun h => ?_) (fun h => ?_)
    · refine j_iload K 4 rfl dX7_write_93 rfl ?_
      obtain ⟨e1, g1⟩ := Prod.mk.inj (Option.some.inj h)
      subst e1
      obtain ⟨e2, g2⟩ := Prod.mk.inj g1
      subst e2
      obtain ⟨e3, g3⟩ := Prod.mk.inj g2
      subst e3
      obtain ⟨e4, g4⟩ := Prod.mk.inj g3
      subst e4
      obtain ⟨e5, g5⟩ := Prod.mk.inj g4
      subst e5
      obtain ⟨e6, g6⟩ := Prod.mk.inj g5
      subst e6
      obtain ⟨e7, g7⟩ := Prod.mk.inj g6
      subst e7
      subst g7
      exact j_iret K dX7_write_95
    · refine j_aload_n K 0 rfl dX7_write_69 rfl ?_
      refine j_getf (C := RX7) (T := TX7) (N := 15) (ci := 7) K icX7 0 8 (List.mem_cons_of_mem _ mw_2_15) rfl rfl rfl (by decide) rfl dX7_write_70 rfl ?_
      refine j_iload_n K 2 rfl dX7_write_73 rfl ?_
      refine j_aald (b := (a0 49)) K 21 2 rfl rfl (vin4_2 fei2) (by rw [fei2]; rfl) dX7_write_74 rfl ?_
      refine j_iload K 5 rfl dX7_write_75 rfl ?_
      refine j_aload_n K 3 rfl dX7_write_77 rfl ?_
      refine j_iload K 5 rfl dX7_write_78 rfl ?_
      refine j_iload_n K 1 rfl dX7_write_80 rfl ?_
      obtain ⟨r_22, hc, h⟩ := bd1_some h
      refine j_callV (rest := [.int i5, .ref (a0 49)]) (st1 := [.int r_22, .int i5, .ref (a0 49)]) (ws' := (uX7_write cyI cyJ cyS a0 c_room c_finding c_courseKnown c_settledByKnown c_told.1 c_told.2.1 c_told.2.2.1 c_told.2.2.2 c_events.1 c_events.2.1 c_events.2.2.1 c_events.2.2.2 c_course.1 c_course.2.1 c_course.2.2.1 c_course.2.2.2.1 c_course.2.2.2.2.1 c_course.2.2.2.2.2.1 c_course.2.2.2.2.2.2.1 c_course.2.2.2.2.2.2.2.1 c_course.2.2.2.2.2.2.2.2.1 c_course.2.2.2.2.2.2.2.2.2.1 c_course.2.2.2.2.2.2.2.2.2.2.1 c_course.2.2.2.2.2.2.2.2.2.2.2 c_sh0.1 c_sh0.2.1 c_sh0.2.2.1 c_sh0.2.2.2 c_sh1.1 c_sh1.2.1 c_sh1.2.2.1 c_sh1.2.2.2 c_sh2.1 c_sh2.2.1 c_sh2.2.2.1 c_sh2.2.2.2 c_sh3.1 c_sh3.2.1 c_sh3.2.2.1 c_sh3.2.2.2)) (T := TX1) (N := 12) (ci := 1) K (ctX1_floorAt l D cyI cyJ cyS (fun k => a0 (k + 19)) i5 i1 c_course.1 c_course.2.2.2.2.1 r_22 hc) (gdV mcL mw_16_10 mw_16_11 mw_16_12 mw_2_7 mw_16_13) rfl ⟨rfl, rfl⟩ hyX1_floorAt ⟨Nat.le_of_ble_eq_true rfl, Nat.le_of_ble_eq_true rfl, Nat.le_of_ble_eq_true rfl, Nat.le_of_ble_eq_true rfl⟩ [9, 13] (by decide) rfl [none, none, none, none, none, none, none, none, none, some 0, none, none, none, some 1, none, none, none, none, none, none, none, none, none, none, none, none, none, none, none, none] (by decide) rfl rfl 9 rfl rfl rfl rfl (Nat.le_of_ble_eq_true rfl) dX7_write_81 rfl rfl ?_
      obtain ⟨c_sh2_items_23, hc, h⟩ := bd1_some h
      refine j_callV (rest := []) (st1 := []) (ws' := (uX7_write cyI cyJ cyS a0 c_room c_finding c_courseKnown c_settledByKnown c_told.1 c_told.2.1 c_told.2.2.1 c_told.2.2.2 c_events.1 c_events.2.1 c_events.2.2.1 c_events.2.2.2 c_course.1 c_course.2.1 c_course.2.2.1 c_course.2.2.2.1 c_course.2.2.2.2.1 c_course.2.2.2.2.2.1 c_course.2.2.2.2.2.2.1 c_course.2.2.2.2.2.2.2.1 c_course.2.2.2.2.2.2.2.2.1 c_course.2.2.2.2.2.2.2.2.2.1 c_course.2.2.2.2.2.2.2.2.2.2.1 c_course.2.2.2.2.2.2.2.2.2.2.2 c_sh0.1 c_sh0.2.1 c_sh0.2.2.1 c_sh0.2.2.2 c_sh1.1 c_sh1.2.1 c_sh1.2.2.1 c_sh1.2.2.2 c_sh2.1 c_sh2.2.1 c_sh2.2.2.1 c_sh2_items_23 c_sh3.1 c_sh3.2.1 c_sh3.2.2.1 c_sh3.2.2.2)) (T := TX4) (N := 4) (ci := 4) K (ctX4_put l D cyI cyJ cyS (fun k => a0 (k + 49)) i5 r_22 c_sh2.2.1 c_sh2.2.2.1 c_sh2.1 c_sh2.2.2.2 c_sh2_items_23 hc) (gdV mcL mw_37_19 mw_37_20 mw_37_21 mw_3_0 mw_37_22) rfl ⟨rfl, rfl⟩ hyX4_put ⟨Nat.le_of_ble_eq_true rfl, Nat.le_of_ble_eq_true rfl, Nat.le_of_ble_eq_true rfl, Nat.le_of_ble_eq_true rfl⟩ [26, 27] (by decide) rfl [none, none, none, none, none, none, none, none, none, none, none, none, none, none, none, none, none, none, none, none, none, none, none, none, none, none, some 0, some 1, none, none] (by decide) rfl rfl 26 rfl rfl rfl rfl (Nat.le_of_ble_eq_true rfl) dX7_write_84 rfl rfl ?_
      refine j_iincN (lf := fun z => [(5, .int z), (0, .ref (a0 0)), (1, .int i1), (2, .int i2), (3, .ref (a0 19)), (4, .int i4)]) K (v := i5 + (1 : Int32)) (k := 5) rfl rfl (by decide) (fun _ => rfl) dX7_write_87 rfl h (fun i5_24 h => ?_)
      refine j_goto (pc' := 62) K dX7_write_90 (by decide) ?_
      refine j_sub [1, 2, 3, 4, 5, 0] (lv' := [(0, .ref (a0 0)), (1, .int i1), (2, .int i2), (3, .ref (a0 19)), (4, .int i4), (5, .int i5_24)]) rfl ?_
      exact ih c_finding c_courseKnown c_course c_sh0 c_sh1 (c_sh2.1, c_sh2.2.1, c_sh2.2.2.1, c_sh2_items_23) c_sh3 i4 i5_24 h
set_option maxRecDepth 100000 in
set_option maxHeartbeats 4000000 in
theorem wX7_write_62_v3 (K : jK p s m args meth c A D vwCl (tyz cyI cyJ cyS) cX7_write 6 RX7 wdX7_write (some .int)) (a0 : Nat → Nat) (c_settledByKnown : Int32) (i1 : Int32) (i2 : Int32) (c_room : Int32) (c_told : jT3) (c_events : jT3) (o_r : Int32) (o_finding : Int32) (o_courseKnown : Int32) (o_course : jT11) (o_sh0 : jS4) (o_sh1 : jS4) (o_sh2 : jS4) (o_sh3 : jS4) (fei2 : i2 = (3 : Int32))  : ∀ (n : Nat) (c_finding : Int32) (c_courseKnown : Int32) (c_course : jT11) (c_sh0 : jS4) (c_sh1 : jS4) (c_sh2 : jS4) (c_sh3 : jS4) (i4 : Int32) (i5 : Int32), fX7_write_62_v3 i1 i2 c_room c_told c_events  n c_finding c_courseKnown c_course c_sh0 c_sh1 c_sh2 c_sh3 i4 i5 = some (o_r, o_finding, o_courseKnown, o_course, o_sh0, o_sh1, o_sh2, o_sh3) → jw p l e rmX7_write s m args below meth c (jQ below args s A D vwCl (tyz cyI cyJ cyS) 0 0 (some (.int o_r)) (uX7_write cyI cyJ cyS a0 c_room o_finding o_courseKnown c_settledByKnown c_told.1 c_told.2.1 c_told.2.2.1 c_told.2.2.2 c_events.1 c_events.2.1 c_events.2.2.1 c_events.2.2.2 o_course.1 o_course.2.1 o_course.2.2.1 o_course.2.2.2.1 o_course.2.2.2.2.1 o_course.2.2.2.2.2.1 o_course.2.2.2.2.2.2.1 o_course.2.2.2.2.2.2.2.1 o_course.2.2.2.2.2.2.2.2.1 o_course.2.2.2.2.2.2.2.2.2.1 o_course.2.2.2.2.2.2.2.2.2.2.1 o_course.2.2.2.2.2.2.2.2.2.2.2 o_sh0.1 o_sh0.2.1 o_sh0.2.2.1 o_sh0.2.2.2 o_sh1.1 o_sh1.2.1 o_sh1.2.2.1 o_sh1.2.2.2 o_sh2.1 o_sh2.2.1 o_sh2.2.2.1 o_sh2.2.2.2 o_sh3.1 o_sh3.2.1 o_sh3.2.2.1 o_sh3.2.2.2)) A D vwCl 6 0 0 62 [(0, .ref (a0 0)), (1, .int i1), (2, .int i2), (3, .ref (a0 19)), (4, .int i4), (5, .int i5)] [] (uX7_write cyI cyJ cyS a0 c_room c_finding c_courseKnown c_settledByKnown c_told.1 c_told.2.1 c_told.2.2.1 c_told.2.2.2 c_events.1 c_events.2.1 c_events.2.2.1 c_events.2.2.2 c_course.1 c_course.2.1 c_course.2.2.1 c_course.2.2.2.1 c_course.2.2.2.2.1 c_course.2.2.2.2.2.1 c_course.2.2.2.2.2.2.1 c_course.2.2.2.2.2.2.2.1 c_course.2.2.2.2.2.2.2.2.1 c_course.2.2.2.2.2.2.2.2.2.1 c_course.2.2.2.2.2.2.2.2.2.2.1 c_course.2.2.2.2.2.2.2.2.2.2.2 c_sh0.1 c_sh0.2.1 c_sh0.2.2.1 c_sh0.2.2.2 c_sh1.1 c_sh1.2.1 c_sh1.2.2.1 c_sh1.2.2.2 c_sh2.1 c_sh2.2.1 c_sh2.2.2.1 c_sh2.2.2.2 c_sh3.1 c_sh3.2.1 c_sh3.2.2.1 c_sh3.2.2.2) := by
  intro n
  induction n with
  | zero => intro c_finding c_courseKnown c_course c_sh0 c_sh1 c_sh2 c_sh3 i4 i5 h; cases h
  | succ n ih =>
    intro c_finding c_courseKnown c_course c_sh0 c_sh1 c_sh2 c_sh3 i4 i5 h
    have h : bX7_write_62_v3 i1 i2 c_room c_told c_events  (fX7_write_62_v3 i1 i2 c_room c_told c_events  n) c_finding c_courseKnown c_course c_sh0 c_sh1 c_sh2 c_sh3 i4 i5 = some (o_r, o_finding, o_courseKnown, o_course, o_sh0, o_sh1, o_sh2, o_sh3) := h
    unfold bX7_write_62_v3 at h
    refine j_iload K 5 rfl dX7_write_62 rfl ?_
    refine j_iload K 4 rfl dX7_write_64 rfl ?_
    refine j_icmp_ge (tgt := 93) K dX7_write_66 (by decide) rfl h (fun h => ?_) (fun h => ?_)
    · refine j_iload K 4 rfl dX7_write_93 rfl ?_
      obtain ⟨e1, g1⟩ := Prod.mk.inj (Option.some.inj h)
      subst e1
      obtain ⟨e2, g2⟩ := Prod.mk.inj g1
      subst e2
      obtain ⟨e3, g3⟩ := Prod.mk.inj g2
      subst e3
      obtain ⟨e4, g4⟩ := Prod.mk.inj g3
      subst e4
      obtain ⟨e5, g5⟩ := Prod.mk.inj g4
      subst e5
      obtain ⟨e6, g6⟩ := Prod.mk.inj g5
      subst e6
      obtain ⟨e7, g7⟩ := Prod.mk.inj g6
      subst e7
      subst g7
      exact j_iret K dX7_write_95
    · refine j_aload_n K 0 rfl dX7_write_69 rfl ?_
      refine j_getf (C := RX7) (T := TX7) (N := 15) (ci := 7) K icX7 0 8 (List.mem_cons_of_mem _ mw_2_15) rfl rfl rfl (by decide) rfl dX7_write_70 rfl ?_
      refine j_iload_n K 2 rfl dX7_write_73 rfl ?_
      refine j_aald (b := (a0 51)) K 21 2 rfl rfl (vin4_3 fei2) (by rw [fei2]; rfl) dX7_write_74 rfl ?_
      refine j_iload K 5 rfl dX7_write_75 rfl ?_
      refine j_aload_n K 3 rfl dX7_write_77 rfl ?_
      refine j_iload K 5 rfl dX7_write_78 rfl ?_
      refine j_iload_n K 1 rfl dX7_write_80 rfl ?_
      obtain ⟨r_30, hc, h⟩ := bd1_some h
      refine j_callV (rest := [.int i5, .ref (a0 51)]) (st1 := [.int r_30, .int i5, .ref (a0 51)]) (ws' := (uX7_write cyI cyJ cyS a0 c_room c_finding c_courseKnown c_settledByKnown c_told.1 c_told.2.1 c_told.2.2.1 c_told.2.2.2 c_events.1 c_events.2.1 c_events.2.2.1 c_events.2.2.2 c_course.1 c_course.2.1 c_course.2.2.1 c_course.2.2.2.1 c_course.2.2.2.2.1 c_course.2.2.2.2.2.1 c_course.2.2.2.2.2.2.1 c_course.2.2.2.2.2.2.2.1 c_course.2.2.2.2.2.2.2.2.1 c_course.2.2.2.2.2.2.2.2.2.1 c_course.2.2.2.2.2.2.2.2.2.2.1 c_course.2.2.2.2.2.2.2.2.2.2.2 c_sh0.1 c_sh0.2.1 c_sh0.2.2.1 c_sh0.2.2.2 c_sh1.1 c_sh1.2.1 c_sh1.2.2.1 c_sh1.2.2.2 c_sh2.1 c_sh2.2.1 c_sh2.2.2.1 c_sh2.2.2.2 c_sh3.1 c_sh3.2.1 c_sh3.2.2.1 c_sh3.2.2.2)) (T := TX1) (N := 12) (ci := 1) K (ctX1_floorAt l D cyI cyJ cyS (fun k => a0 (k + 19)) i5 i1 c_course.1 c_course.2.2.2.2.1 r_30 hc) (gdV mcL mw_16_10 mw_16_11 mw_16_12 mw_2_7 mw_16_13) rfl ⟨rfl, rfl⟩ hyX1_floorAt ⟨Nat.le_of_ble_eq_true rfl, Nat.le_of_ble_eq_true rfl, Nat.le_of_ble_eq_true rfl, Nat.le_of_ble_eq_true rfl⟩ [9, 13] (by decide) rfl [none, none, none, none, none, none, none, none, none, some 0, none, none, none, some 1, none, none, none, none, none, none, none, none, none, none, none, none, none, none, none, none] (by decide) rfl rfl 9 rfl rfl rfl rfl (Nat.le_of_ble_eq_true rfl) dX7_write_81 rfl rfl ?_
      obtain ⟨c_sh3_items_31, hc, h⟩ := bd1_some h
      refine j_callV (rest := []) (st1 := []) (ws' := (uX7_write cyI cyJ cyS a0 c_room c_finding c_courseKnown c_settledByKnown c_told.1 c_told.2.1 c_told.2.2.1 c_told.2.2.2 c_events.1 c_events.2.1 c_events.2.2.1 c_events.2.2.2 c_course.1 c_course.2.1 c_course.2.2.1 c_course.2.2.2.1 c_course.2.2.2.2.1 c_course.2.2.2.2.2.1 c_course.2.2.2.2.2.2.1 c_course.2.2.2.2.2.2.2.1 c_course.2.2.2.2.2.2.2.2.1 c_course.2.2.2.2.2.2.2.2.2.1 c_course.2.2.2.2.2.2.2.2.2.2.1 c_course.2.2.2.2.2.2.2.2.2.2.2 c_sh0.1 c_sh0.2.1 c_sh0.2.2.1 c_sh0.2.2.2 c_sh1.1 c_sh1.2.1 c_sh1.2.2.1 c_sh1.2.2.2 c_sh2.1 c_sh2.2.1 c_sh2.2.2.1 c_sh2.2.2.2 c_sh3.1 c_sh3.2.1 c_sh3.2.2.1 c_sh3_items_31)) (T := TX4) (N := 4) (ci := 4) K (ctX4_put l D cyI cyJ cyS (fun k => a0 (k + 51)) i5 r_30 c_sh3.2.1 c_sh3.2.2.1 c_sh3.1 c_sh3.2.2.2 c_sh3_items_31 hc) (gdV mcL mw_37_19 mw_37_20 mw_37_21 mw_3_0 mw_37_22) rfl ⟨rfl, rfl⟩ hyX4_put ⟨Nat.le_of_ble_eq_true rfl, Nat.le_of_ble_eq_true rfl, Nat.le_of_ble_eq_true rfl, Nat.le_of_ble_eq_true rfl⟩ [28, 29] (by decide) rfl [none, none, none, none, none, none, none, none, none, none, none, none, none, none, none, none, none, none, none, none, none, none, none, none, none, none, none, none, some 0, some 1] (by decide) rfl rfl 28 rfl rfl rfl rfl (Nat.le_of_ble_eq_true rfl) dX7_write_84 rfl rfl ?_
      refine j_iincN (lf := fun z => [(5, .int z), (0, .ref (a0 0)), (1, .int i1), (2, .int i2), (3, .ref (a0 19)), (4, .int i4)]) K (v := i5 + (1 : Int32)) (k := 5) rfl rfl (by decide) (fun _ => rfl) dX7_write_87 rfl h (fun i5_32 h => ?_)
      refine j_goto (pc' := 62) K dX7_write_90 (by decide) ?_
      refine j_sub [1, 2, 3, 4, 5, 0] (lv' := [(0, .ref (a0 0)), (1, .int i1), (2, .int i2), (3, .ref (a0 19)), (4, .int i4), (5, .int i5_32)]) rfl ?_
      exact ih c_finding c_courseKnown c_course c_sh0 c_sh1 c_sh2 (c_sh3.1, c_sh3.2.1, c_sh3.2.2.1, c_sh3_items_31) i4 i5_32 h
set_option maxRecDepth 100000 in
set_option maxHeartbeats 4000000 in
theorem ctX7_write (l : Launch) (D : va_G) (cyI cyJ cyS : ClassId) (a0 : Nat → Nat) (i1 : Int32) (i2 : Int32) (c_settledByKnown : Int32) (c_room : Int32) (c_told : jT3) (c_events : jT3) (c_finding : Int32) (c_courseKnown : Int32) (c_course : jT11) (c_sh0 : jS4) (c_sh1 : jS4) (c_sh2 : jS4) (c_sh3 : jS4) (o_r : Int32) (o_finding : Int32) (o_courseKnown : Int32) (o_course : jT11) (o_sh0 : jS4) (o_sh1 : jS4) (o_sh2 : jS4) (o_sh3 : jS4) (h : fX7_write i1 i2 c_room c_told c_events c_finding c_courseKnown c_course c_sh0 c_sh1 c_sh2 c_sh3 = some (o_r, o_finding, o_courseKnown, o_course, o_sh0, o_sh1, o_sh2, o_sh3)) : jC l yX7_write wdX7_write rmX7_write D vwCl (tyz cyI cyJ cyS) [.ref (a0 0), .int i1, .int i2] (uX7_write cyI cyJ cyS a0 c_room c_finding c_courseKnown c_settledByKnown c_told.1 c_told.2.1 c_told.2.2.1 c_told.2.2.2 c_events.1 c_events.2.1 c_events.2.2.1 c_events.2.2.2 c_course.1 c_course.2.1 c_course.2.2.1 c_course.2.2.2.1 c_course.2.2.2.2.1 c_course.2.2.2.2.2.1 c_course.2.2.2.2.2.2.1 c_course.2.2.2.2.2.2.2.1 c_course.2.2.2.2.2.2.2.2.1 c_course.2.2.2.2.2.2.2.2.2.1 c_course.2.2.2.2.2.2.2.2.2.2.1 c_course.2.2.2.2.2.2.2.2.2.2.2 c_sh0.1 c_sh0.2.1 c_sh0.2.2.1 c_sh0.2.2.2 c_sh1.1 c_sh1.2.1 c_sh1.2.2.1 c_sh1.2.2.2 c_sh2.1 c_sh2.2.1 c_sh2.2.2.1 c_sh2.2.2.2 c_sh3.1 c_sh3.2.1 c_sh3.2.2.1 c_sh3.2.2.2) (some (.int o_r)) (uX7_write cyI cyJ cyS a0 c_room o_finding o_courseKnown c_settledByKnown c_told.1 c_told.2.1 c_told.2.2.1 c_told.2.2.2 c_events.1 c_events.2.1 c_events.2.2.1 c_events.2.2.2 o_course.1 o_course.2.1 o_course.2.2.1 o_course.2.2.2.1 o_course.2.2.2.2.1 o_course.2.2.2.2.2.1 o_course.2.2.2.2.2.2.1 o_course.2.2.2.2.2.2.2.1 o_course.2.2.2.2.2.2.2.2.1 o_course.2.2.2.2.2.2.2.2.2.1 o_course.2.2.2.2.2.2.2.2.2.2.1 o_course.2.2.2.2.2.2.2.2.2.2.2 o_sh0.1 o_sh0.2.1 o_sh0.2.2.1 o_sh0.2.2.2 o_sh1.1 o_sh1.2.1 o_sh1.2.2.1 o_sh1.2.2.2 o_sh2.1 o_sh2.2.1 o_sh2.2.2.1 o_sh2.2.2.2 o_sh3.1 o_sh3.2.1 o_sh3.2.2.1 o_sh3.2.2.2) := by
  refine jC_of (cc := cX7_write) (nL := 6) (ret := (some .int)) (own := RX7) (lv := [(0, .ref (a0 0)), (1, .int i1), (2, .int i2)]) (by decide) rfl rfl (Nat.le_of_ble_eq_true rfl) rfl ?_
  intro p e s m args below meth c A K
  unfold fX7_write at h
  refine j_aload_n K 0 rfl dX7_write_0 rfl ?_
  refine j_iload_n K 1 rfl dX7_write_1 rfl ?_
  obtain ⟨r_1, hc, h⟩ := bd1_some h
  refine j_callV (rest := []) (st1 := [.int r_1]) (ws' := (uX7_write cyI cyJ cyS a0 c_room c_finding c_courseKnown c_settledByKnown c_told.1 c_told.2.1 c_told.2.2.1 c_told.2.2.2 c_events.1 c_events.2.1 c_events.2.2.1 c_events.2.2.2 c_course.1 c_course.2.1 c_course.2.2.1 c_course.2.2.2.1 c_course.2.2.2.2.1 c_course.2.2.2.2.2.1 c_course.2.2.2.2.2.2.1 c_course.2.2.2.2.2.2.2.1 c_course.2.2.2.2.2.2.2.2.1 c_course.2.2.2.2.2.2.2.2.2.1 c_course.2.2.2.2.2.2.2.2.2.2.1 c_course.2.2.2.2.2.2.2.2.2.2.2 c_sh0.1 c_sh0.2.1 c_sh0.2.2.1 c_sh0.2.2.2 c_sh1.1 c_sh1.2.1 c_sh1.2.2.1 c_sh1.2.2.2 c_sh2.1 c_sh2.2.1 c_sh2.2.2.1 c_sh2.2.2.2 c_sh3.1 c_sh3.2.1 c_sh3.2.2.1 c_sh3.2.2.2)) (T := TX7) (N := 15) (ci := 7) K (ctX7_isTenant l D cyI cyJ cyS a0 i1 c_room c_finding c_courseKnown c_settledByKnown c_told.1 r_1 hc) (gdV mcL mw_9_19 mw_9_20 mw_9_21 mw_1_2 mw_9_22) rfl ⟨rfl, rfl⟩ hyX7_isTenant ⟨Nat.le_of_ble_eq_true rfl, Nat.le_of_ble_eq_true rfl, Nat.le_of_ble_eq_true rfl, Nat.le_of_ble_eq_true rfl⟩ [0, 1] (by decide) rfl [some 0, some 1, none, none, none, none, none, none, none, none, none, none, none, none, none, none, none, none, none, none, none, none, none, none, none, none, none, none, none, none] (by decide) rfl rfl 0 rfl rfl rfl rfl (Nat.le_of_ble_eq_true rfl) dX7_write_2 rfl rfl ?_
  refine j_if_eq (tgt := 17) K dX7_write_5 (by decide) rfl h (fun h => ?_) (fun h => ?_)
  · refine j_bipush (v := (-2 : Int32)) K (by decide) dX7_write_17 rfl ?_
    obtain ⟨e1, g1⟩ := Prod.mk.inj (Option.some.inj h)
    subst e1
    obtain ⟨e2, g2⟩ := Prod.mk.inj g1
    subst e2
    obtain ⟨e3, g3⟩ := Prod.mk.inj g2
    subst e3
    obtain ⟨e4, g4⟩ := Prod.mk.inj g3
    subst e4
    obtain ⟨e5, g5⟩ := Prod.mk.inj g4
    subst e5
    obtain ⟨e6, g6⟩ := Prod.mk.inj g5
    subst e6
    obtain ⟨e7, g7⟩ := Prod.mk.inj g6
    subst e7
    subst g7
    exact j_iret K dX7_write_19
  · refine j_iload_n K 2 rfl dX7_write_8 rfl ?_
    refine j_iconst (v := (0 : Int32)) K (by decide) dX7_write_9 rfl ?_
    refine j_iconst (v := (3 : Int32)) K (by decide) dX7_write_10 rfl ?_
    obtain ⟨r_2, hc, h⟩ := bd1_some h
    refine j_callS (rest := []) (st1 := [.int r_2]) (ws' := (uX7_write cyI cyJ cyS a0 c_room c_finding c_courseKnown c_settledByKnown c_told.1 c_told.2.1 c_told.2.2.1 c_told.2.2.2 c_events.1 c_events.2.1 c_events.2.2.1 c_events.2.2.2 c_course.1 c_course.2.1 c_course.2.2.1 c_course.2.2.2.1 c_course.2.2.2.2.1 c_course.2.2.2.2.2.1 c_course.2.2.2.2.2.2.1 c_course.2.2.2.2.2.2.2.1 c_course.2.2.2.2.2.2.2.2.1 c_course.2.2.2.2.2.2.2.2.2.1 c_course.2.2.2.2.2.2.2.2.2.2.1 c_course.2.2.2.2.2.2.2.2.2.2.2 c_sh0.1 c_sh0.2.1 c_sh0.2.2.1 c_sh0.2.2.2 c_sh1.1 c_sh1.2.1 c_sh1.2.2.1 c_sh1.2.2.2 c_sh2.1 c_sh2.2.1 c_sh2.2.2.1 c_sh2.2.2.2 c_sh3.1 c_sh3.2.1 c_sh3.2.2.1 c_sh3.2.2.2)) K (ctX7_within l D cyI cyJ cyS i2 (0 : Int32) (3 : Int32) r_2 hc) (gdS mcL mw_6_12 mw_6_13 mw_1_2 mw_6_14) rfl ⟨rfl, rfl⟩ hzX7_within ⟨Nat.le_of_ble_eq_true rfl, Nat.le_of_ble_eq_true rfl, Nat.le_of_ble_eq_true rfl, Nat.le_of_ble_eq_true rfl⟩ [] (by decide) rfl [none, none, none, none, none, none, none, none, none, none, none, none, none, none, none, none, none, none, none, none, none, none, none, none, none, none, none, none, none, none] (by decide) rfl rfl rfl rfl (Nat.le_of_ble_eq_true rfl) dX7_write_11 rfl rfl ?_
    refine j_if_ne (tgt := 20) K dX7_write_14 (by decide) rfl h (fun h => ?_) (fun h => ?_)
    · refine j_aload_n K 0 rfl dX7_write_20 rfl ?_
      refine j_getf (C := RX7) (T := TX7) (N := 15) (ci := 7) K icX7 0 8 (List.mem_cons_of_mem _ mw_2_15) rfl rfl rfl (by decide) rfl dX7_write_21 rfl ?_
      refine j_iload_n K 2 rfl dX7_write_24 rfl ?_
      rcases sw4_some h with ⟨fei2, h⟩ | ⟨fei2, h⟩ | ⟨fei2, h⟩ | ⟨fei2, h⟩
      · refine j_aald (b := (a0 45)) K 21 2 rfl rfl (vin4_0 fei2) (by rw [fei2]; rfl) dX7_write_25 rfl ?_
        refine j_getf (C := RX4) (T := TX4) (N := 4) (ci := 4) K icX4 22 3 (List.mem_cons_of_mem _ mw_12_6) rfl rfl rfl (by decide) rfl dX7_write_26 rfl ?_
        refine j_if_eq (tgt := 38) K dX7_write_29 (by decide) rfl h (fun h => ?_) (fun h => ?_)
        · refine j_aload_n K 0 rfl dX7_write_38 rfl ?_
          obtain ⟨c_courseKnown_3, c_course_4, hc, h⟩ := bd2_some h
          refine j_callV (rest := []) (st1 := [.ref (a0 19)]) (ws' := (uX7_write cyI cyJ cyS a0 c_room c_finding c_courseKnown_3 c_settledByKnown c_told.1 c_told.2.1 c_told.2.2.1 c_told.2.2.2 c_events.1 c_events.2.1 c_events.2.2.1 c_events.2.2.2 c_course_4.1 c_course_4.2.1 c_course_4.2.2.1 c_course_4.2.2.2.1 c_course_4.2.2.2.2.1 c_course_4.2.2.2.2.2.1 c_course_4.2.2.2.2.2.2.1 c_course_4.2.2.2.2.2.2.2.1 c_course_4.2.2.2.2.2.2.2.2.1 c_course_4.2.2.2.2.2.2.2.2.2.1 c_course_4.2.2.2.2.2.2.2.2.2.2.1 c_course_4.2.2.2.2.2.2.2.2.2.2.2 c_sh0.1 c_sh0.2.1 c_sh0.2.2.1 c_sh0.2.2.2 c_sh1.1 c_sh1.2.1 c_sh1.2.2.1 c_sh1.2.2.2 c_sh2.1 c_sh2.2.1 c_sh2.2.2.1 c_sh2.2.2.2 c_sh3.1 c_sh3.2.1 c_sh3.2.2.1 c_sh3.2.2.2)) (T := TX7) (N := 15) (ci := 7) K (ctX7_courseTold l D cyI cyJ cyS a0 c_finding c_settledByKnown c_room c_told c_events c_courseKnown c_course c_courseKnown_3 c_course_4 hc) (gdV mcL mw_13_10 mw_13_11 mw_13_12 mw_1_2 mw_13_13) rfl ⟨rfl, rfl⟩ hyX7_courseTold ⟨Nat.le_of_ble_eq_true rfl, Nat.le_of_ble_eq_true rfl, Nat.le_of_ble_eq_true rfl, Nat.le_of_ble_eq_true rfl⟩ [0, 1, 2, 3, 4, 5, 6, 7, 8, 9, 10, 11, 12, 13, 14, 15, 16, 17, 18, 19, 20] (by decide) rfl [some 0, some 1, some 2, some 3, some 4, some 5, some 6, some 7, some 8, some 9, some 10, some 11, some 12, some 13, some 14, some 15, some 16, some 17, some 18, some 19, some 20, none, none, none, none, none, none, none, none, none] (by decide) rfl rfl 0 rfl rfl rfl rfl (Nat.le_of_ble_eq_true rfl) dX7_write_39 rfl rfl ?_
          refine j_astore_n (lv' := [(3, .ref (a0 19)), (0, .ref (a0 0)), (1, .int i1), (2, .int i2)]) K (by decide) rfl dX7_write_42 rfl ?_
          refine j_aload_n K 1 rfl dX7_write_43 rfl ?_
          refine j_getf (C := RX7) (T := TX7) (N := 15) (ci := 7) K icX7 0 8 (List.mem_cons_of_mem _ mw_2_15) rfl rfl rfl (by decide) rfl dX7_write_44 rfl ?_
          refine j_iload_n K 3 rfl dX7_write_47 rfl ?_
          refine j_aald (b := (a0 45)) K 21 2 rfl rfl (vin4_0 fei2) (by rw [fei2]; rfl) dX7_write_48 rfl ?_
          refine j_getf (C := RX4) (T := TX4) (N := 4) (ci := 4) K icX4 22 2 (List.mem_cons_of_mem _ mw_12_8) rfl rfl rfl (by decide) rfl dX7_write_49 rfl ?_
          refine j_bipush (v := (24 : Int32)) K (by decide) dX7_write_52 rfl ?_
          refine j_mmin K (List.mem_cons_of_mem _ mw_39_15) (List.mem_cons_of_mem _ mw_14_15) (List.mem_cons_of_mem _ mw_14_16) (List.mem_cons_of_mem _ mw_14_17) ⟨Nat.le_of_ble_eq_true rfl, Nat.le_of_ble_eq_true rfl, Nat.le_of_ble_eq_true rfl, Nat.le_of_ble_eq_true rfl⟩ dX7_write_54 rfl ?_
          refine j_nmI h (fun i4_5 h => ?_)
          refine j_istore (lv' := [(4, .int i4_5), (3, .ref (a0 19)), (0, .ref (a0 0)), (1, .int i1), (2, .int i2)]) K (by decide) rfl dX7_write_57 rfl ?_
          refine j_iconst (v := (0 : Int32)) K (by decide) dX7_write_59 rfl ?_
          refine j_istore (lv' := [(5, .int (0 : Int32)), (4, .int i4_5), (3, .ref (a0 19)), (0, .ref (a0 0)), (1, .int i1), (2, .int i2)]) K (by decide) rfl dX7_write_60 rfl ?_
          refine j_sub [3, 4, 5, 2, 1, 0] (lv' := [(0, .ref (a0 0)), (1, .int i1), (2, .int i2), (3, .ref (a0 19)), (4, .int i4_5), (5, .int (0 : Int32))]) rfl ?_
          exact wX7_write_62 K a0 c_settledByKnown i1 i2 c_room c_told c_events o_r o_finding o_courseKnown o_course o_sh0 o_sh1 o_sh2 o_sh3 fei2 jF c_finding c_courseKnown_3 c_course_4 c_sh0 c_sh1 c_sh2 c_sh3 i4_5 (0 : Int32) h
        · refine j_aload_n K 0 rfl dX7_write_32 rfl ?_
          refine j_iconst (v := (1 : Int32)) K (by decide) dX7_write_33 rfl ?_
          obtain ⟨r_9, c_finding_10, hc, h⟩ := bd2_some h
          refine j_callV (rest := []) (st1 := [.int r_9]) (ws' := (uX7_write cyI cyJ cyS a0 c_room c_finding_10 c_courseKnown c_settledByKnown c_told.1 c_told.2.1 c_told.2.2.1 c_told.2.2.2 c_events.1 c_events.2.1 c_events.2.2.1 c_events.2.2.2 c_course.1 c_course.2.1 c_course.2.2.1 c_course.2.2.2.1 c_course.2.2.2.2.1 c_course.2.2.2.2.2.1 c_course.2.2.2.2.2.2.1 c_course.2.2.2.2.2.2.2.1 c_course.2.2.2.2.2.2.2.2.1 c_course.2.2.2.2.2.2.2.2.2.1 c_course.2.2.2.2.2.2.2.2.2.2.1 c_course.2.2.2.2.2.2.2.2.2.2.2 c_sh0.1 c_sh0.2.1 c_sh0.2.2.1 c_sh0.2.2.2 c_sh1.1 c_sh1.2.1 c_sh1.2.2.1 c_sh1.2.2.2 c_sh2.1 c_sh2.2.1 c_sh2.2.2.1 c_sh2.2.2.2 c_sh3.1 c_sh3.2.1 c_sh3.2.2.1 c_sh3.2.2.2)) (T := TX7) (N := 15) (ci := 7) K (ctX7_found l D cyI cyJ cyS a0 (1 : Int32) c_room c_courseKnown c_settledByKnown c_finding r_9 c_finding_10 hc) (gdV mcL mw_12_9 mw_12_10 mw_12_11 mw_1_2 mw_12_12) rfl ⟨rfl, rfl⟩ hyX7_found ⟨Nat.le_of_ble_eq_true rfl, Nat.le_of_ble_eq_true rfl, Nat.le_of_ble_eq_true rfl, Nat.le_of_ble_eq_true rfl⟩ [0] (by decide) rfl [some 0, none, none, none, none, none, none, none, none, none, none, none, none, none, none, none, none, none, none, none, none, none, none, none, none, none, none, none, none, none] (by decide) rfl rfl 0 rfl rfl rfl rfl (Nat.le_of_ble_eq_true rfl) dX7_write_34 rfl rfl ?_
          obtain ⟨e1, g1⟩ := Prod.mk.inj (Option.some.inj h)
          subst e1
          obtain ⟨e2, g2⟩ := Prod.mk.inj g1
          subst e2
          obtain ⟨e3, g3⟩ := Prod.mk.inj g2
          subst e3
          obtain ⟨e4, g4⟩ := Prod.mk.inj g3
          subst e4
          obtain ⟨e5, g5⟩ := Prod.mk.inj g4
          subst e5
          obtain ⟨e6, g6⟩ := Prod.mk.inj g5
          subst e6
          obtain ⟨e7, g7⟩ := Prod.mk.inj g6
          subst e7
          subst g7
          exact j_iret K dX7_write_37
      · refine j_aald (b := (a0 47)) K 21 2 rfl rfl (vin4_1 fei2) (by rw [fei2]; rfl) dX7_write_25 rfl ?_
        refine j_getf (C := RX4) (T := TX4) (N := 4) (ci := 4) K icX4 24 3 (List.mem_cons_of_mem _ mw_12_6) rfl rfl rfl (by decide) rfl dX7_write_26 rfl ?_
        refine j_if_eq (tgt := 38) K dX7_write_29 (by decide) rfl h (fun h => ?_) (fun h => ?_)
        · refine j_aload_n K 0 rfl dX7_write_38 rfl ?_
          obtain ⟨c_courseKnown_11, c_course_12, hc, h⟩ := bd2_some h
          refine j_callV (rest := []) (st1 := [.ref (a0 19)]) (ws' := (uX7_write cyI cyJ cyS a0 c_room c_finding c_courseKnown_11 c_settledByKnown c_told.1 c_told.2.1 c_told.2.2.1 c_told.2.2.2 c_events.1 c_events.2.1 c_events.2.2.1 c_events.2.2.2 c_course_12.1 c_course_12.2.1 c_course_12.2.2.1 c_course_12.2.2.2.1 c_course_12.2.2.2.2.1 c_course_12.2.2.2.2.2.1 c_course_12.2.2.2.2.2.2.1 c_course_12.2.2.2.2.2.2.2.1 c_course_12.2.2.2.2.2.2.2.2.1 c_course_12.2.2.2.2.2.2.2.2.2.1 c_course_12.2.2.2.2.2.2.2.2.2.2.1 c_course_12.2.2.2.2.2.2.2.2.2.2.2 c_sh0.1 c_sh0.2.1 c_sh0.2.2.1 c_sh0.2.2.2 c_sh1.1 c_sh1.2.1 c_sh1.2.2.1 c_sh1.2.2.2 c_sh2.1 c_sh2.2.1 c_sh2.2.2.1 c_sh2.2.2.2 c_sh3.1 c_sh3.2.1 c_sh3.2.2.1 c_sh3.2.2.2)) (T := TX7) (N := 15) (ci := 7) K (ctX7_courseTold l D cyI cyJ cyS a0 c_finding c_settledByKnown c_room c_told c_events c_courseKnown c_course c_courseKnown_11 c_course_12 hc) (gdV mcL mw_13_10 mw_13_11 mw_13_12 mw_1_2 mw_13_13) rfl ⟨rfl, rfl⟩ hyX7_courseTold ⟨Nat.le_of_ble_eq_true rfl, Nat.le_of_ble_eq_true rfl, Nat.le_of_ble_eq_true rfl, Nat.le_of_ble_eq_true rfl⟩ [0, 1, 2, 3, 4, 5, 6, 7, 8, 9, 10, 11, 12, 13, 14, 15, 16, 17, 18, 19, 20] (by decide) rfl [some 0, some 1, some 2, some 3, some 4, some 5, some 6, some 7, some 8, some 9, some 10, some 11, some 12, some 13, some 14, some 15, some 16, some 17, some 18, some 19, some 20, none, none, none, none, none, none, none, none, none] (by decide) rfl rfl 0 rfl rfl rfl rfl (Nat.le_of_ble_eq_true rfl) dX7_write_39 rfl rfl ?_
          refine j_astore_n (lv' := [(3, .ref (a0 19)), (0, .ref (a0 0)), (1, .int i1), (2, .int i2)]) K (by decide) rfl dX7_write_42 rfl ?_
          refine j_aload_n K 1 rfl dX7_write_43 rfl ?_
          refine j_getf (C := RX7) (T := TX7) (N := 15) (ci := 7) K icX7 0 8 (List.mem_cons_of_mem _ mw_2_15) rfl rfl rfl (by decide) rfl dX7_write_44 rfl ?_
          refine j_iload_n K 3 rfl dX7_write_47 rfl ?_
          refine j_aald (b := (a0 47)) K 21 2 rfl rfl (vin4_1 fei2) (by rw [fei2]; rfl) dX7_write_48 rfl ?_
          refine j_getf (C := RX4) (T := TX4) (N := 4) (ci := 4) K icX4 24 2 (List.mem_cons_of_mem _ mw_12_8) rfl rfl rfl (by decide) rfl dX7_write_49 rfl ?_
          refine j_bipush (v := (24 : Int32)) K (by decide) dX7_write_52 rfl ?_
          refine j_mmin K (List.mem_cons_of_mem _ mw_39_15) (List.mem_cons_of_mem _ mw_14_15) (List.mem_cons_of_mem _ mw_14_16) (List.mem_cons_of_mem _ mw_14_17) ⟨Nat.le_of_ble_eq_true rfl, Nat.le_of_ble_eq_true rfl, Nat.le_of_ble_eq_true rfl, Nat.le_of_ble_eq_true rfl⟩ dX7_write_54 rfl ?_
          refine j_nmI h (fun i4_13 h => ?_)
          refine j_istore (lv' := [(4, .int i4_13), (3, .ref (a0 19)), (0, .ref (a0 0)), (1, .int i1), (2, .int i2)]) K (by decide) rfl dX7_write_57 rfl ?_
          refine j_iconst (v := (0 : Int32)) K (by decide) dX7_write_59 rfl ?_
          refine j_istore (lv' := [(5, .int (0 : Int32)), (4, .int i4_13), (3, .ref (a0 19)), (0, .ref (a0 0)), (1, .int i1), (2, .int i2)]) K (by decide) rfl dX7_write_60 rfl ?_
          refine j_sub [3, 4, 5, 2, 1, 0] (lv' := [(0, .ref (a0 0)), (1, .int i1), (2, .int i2), (3, .ref (a0 19)), (4, .int i4_13), (5, .int (0 : Int32))]) rfl ?_
          exact wX7_write_62_v1 K a0 c_settledByKnown i1 i2 c_room c_told c_events o_r o_finding o_courseKnown o_course o_sh0 o_sh1 o_sh2 o_sh3 fei2 jF c_finding c_courseKnown_11 c_course_12 c_sh0 c_sh1 c_sh2 c_sh3 i4_13 (0 : Int32) h
        · refine j_aload_n K 0 rfl dX7_write_32 rfl ?_
          refine j_iconst (v := (1 : Int32)) K (by decide) dX7_write_33 rfl ?_
          obtain ⟨r_17, c_finding_18, hc, h⟩ := bd2_some h
          refine j_callV (rest := []) (st1 := [.int r_17]) (ws' := (uX7_write cyI cyJ cyS a0 c_room c_finding_18 c_courseKnown c_settledByKnown c_told.1 c_told.2.1 c_told.2.2.1 c_told.2.2.2 c_events.1 c_events.2.1 c_events.2.2.1 c_events.2.2.2 c_course.1 c_course.2.1 c_course.2.2.1 c_course.2.2.2.1 c_course.2.2.2.2.1 c_course.2.2.2.2.2.1 c_course.2.2.2.2.2.2.1 c_course.2.2.2.2.2.2.2.1 c_course.2.2.2.2.2.2.2.2.1 c_course.2.2.2.2.2.2.2.2.2.1 c_course.2.2.2.2.2.2.2.2.2.2.1 c_course.2.2.2.2.2.2.2.2.2.2.2 c_sh0.1 c_sh0.2.1 c_sh0.2.2.1 c_sh0.2.2.2 c_sh1.1 c_sh1.2.1 c_sh1.2.2.1 c_sh1.2.2.2 c_sh2.1 c_sh2.2.1 c_sh2.2.2.1 c_sh2.2.2.2 c_sh3.1 c_sh3.2.1 c_sh3.2.2.1 c_sh3.2.2.2)) (T := TX7) (N := 15) (ci := 7) K (ctX7_found l D cyI cyJ cyS a0 (1 : Int32) c_room c_courseKnown c_settledByKnown c_finding r_17 c_finding_18 hc) (gdV mcL mw_12_9 mw_12_10 mw_12_11 mw_1_2 mw_12_12) rfl ⟨rfl, rfl⟩ hyX7_found ⟨Nat.le_of_ble_eq_true rfl, Nat.le_of_ble_eq_true rfl, Nat.le_of_ble_eq_true rfl, Nat.le_of_ble_eq_true rfl⟩ [0] (by decide) rfl [some 0, none, none, none, none, none, none, none, none, none, none, none, none, none, none, none, none, none, none, none, none, none, none, none, none, none, none, none, none, none] (by decide) rfl rfl 0 rfl rfl rfl rfl (Nat.le_of_ble_eq_true rfl) dX7_write_34 rfl rfl ?_
          obtain ⟨e1, g1⟩ := Prod.mk.inj (Option.some.inj h)
          subst e1
          obtain ⟨e2, g2⟩ := Prod.mk.inj g1
          subst e2
          obtain ⟨e3, g3⟩ := Prod.mk.inj g2
          subst e3
          obtain ⟨e4, g4⟩ := Prod.mk.inj g3
          subst e4
          obtain ⟨e5, g5⟩ := Prod.mk.inj g4
          subst e5
          obtain ⟨e6, g6⟩ := Prod.mk.inj g5
          subst e6
          obtain ⟨e7, g7⟩ := Prod.mk.inj g6
          subst e7
          subst g7
          exact j_iret K dX7_write_37
      · refine j_aald (b := (a0 49)) K 21 2 rfl rfl (vin4_2 fei2) (by rw [fei2]; rfl) dX7_write_25 rfl ?_
        refine j_getf (C := RX4) (T := TX4) (N := 4) (ci := 4) K icX4 26 3 (List.mem_cons_of_mem _ mw_12_6) rfl rfl rfl (by decide) rfl dX7_write_26 rfl ?_
        refine j_if_eq (tgt := 38) K dX7_write_29 (by decide) rfl h (fun h => ?_) (fun h => ?_)
        · refine j_aload_n K 0 rfl dX7_write_38 rfl ?_
          obtain ⟨c_courseKnown_19, c_course_20, hc, h⟩ := bd2_some h
          refine j_callV (rest := []) (st1 := [.ref (a0 19)]) (ws' := (uX7_write cyI cyJ cyS a0 c_room c_finding c_courseKnown_19 c_settledByKnown c_told.1 c_told.2.1 c_told.2.2.1 c_told.2.2.2 c_events.1 c_events.2.1 c_events.2.2.1 c_events.2.2.2 c_course_20.1 c_course_20.2.1 c_course_20.2.2.1 c_course_20.2.2.2.1 c_course_20.2.2.2.2.1 c_course_20.2.2.2.2.2.1 c_course_20.2.2.2.2.2.2.1 c_course_20.2.2.2.2.2.2.2.1 c_course_20.2.2.2.2.2.2.2.2.1 c_course_20.2.2.2.2.2.2.2.2.2.1 c_course_20.2.2.2.2.2.2.2.2.2.2.1 c_course_20.2.2.2.2.2.2.2.2.2.2.2 c_sh0.1 c_sh0.2.1 c_sh0.2.2.1 c_sh0.2.2.2 c_sh1.1 c_sh1.2.1 c_sh1.2.2.1 c_sh1.2.2.2 c_sh2.1 c_sh2.2.1 c_sh2.2.2.1 c_sh2.2.2.2 c_sh3.1 c_sh3.2.1 c_sh3.2.2.1 c_sh3.2.2.2)) (T := TX7) (N := 15) (ci := 7) K (ctX7_courseTold l D cyI cyJ cyS a0 c_finding c_settledByKnown c_room c_told c_events c_courseKnown c_course c_courseKnown_19 c_course_20 hc) (gdV mcL mw_13_10 mw_13_11 mw_13_12 mw_1_2 mw_13_13) rfl ⟨rfl, rfl⟩ hyX7_courseTold ⟨Nat.le_of_ble_eq_true rfl, Nat.le_of_ble_eq_true rfl, Nat.le_of_ble_eq_true rfl, Nat.le_of_ble_eq_true rfl⟩ [0, 1, 2, 3, 4, 5, 6, 7, 8, 9, 10, 11, 12, 13, 14, 15, 16, 17, 18, 19, 20] (by decide) rfl [some 0, some 1, some 2, some 3, some 4, some 5, some 6, some 7, some 8, some 9, some 10, some 11, some 12, some 13, some 14, some 15, some 16, some 17, some 18, some 19, some 20, none, none, none, none, none, none, none, none, none] (by decide) rfl rfl 0 rfl rfl rfl rfl (Nat.le_of_ble_eq_true rfl) dX7_write_39 rfl rfl ?_
          refine j_astore_n (lv' := [(3, .ref (a0 19)), (0, .ref (a0 0)), (1, .int i1), (2, .int i2)]) K (by decide) rfl dX7_write_42 rfl ?_
          refine j_aload_n K 1 rfl dX7_write_43 rfl ?_
          refine j_getf (C := RX7) (T := TX7) (N := 15) (ci := 7) K icX7 0 8 (List.mem_cons_of_mem _ mw_2_15) rfl rfl rfl (by decide) rfl dX7_write_44 rfl ?_
          refine j_iload_n K 3 rfl dX7_write_47 rfl ?_
          refine j_aald (b := (a0 49)) K 21 2 rfl rfl (vin4_2 fei2) (by rw [fei2]; rfl) dX7_write_48 rfl ?_
          refine j_getf (C := RX4) (T := TX4) (N := 4) (ci := 4) K icX4 26 2 (List.mem_cons_of_mem _ mw_12_8) rfl rfl rfl (by decide) rfl dX7_write_49 rfl ?_
          refine j_bipush (v := (24 : Int32)) K (by decide) dX7_write_52 rfl ?_
          refine j_mmin K (List.mem_cons_of_mem _ mw_39_15) (List.mem_cons_of_mem _ mw_14_15) (List.mem_cons_of_mem _ mw_14_16) (List.mem_cons_of_mem _ mw_14_17) ⟨Nat.le_of_ble_eq_true rfl, Nat.le_of_ble_eq_true rfl, Nat.le_of_ble_eq_true rfl, Nat.le_of_ble_eq_true rfl⟩ dX7_write_54 rfl ?_
          refine j_nmI h (fun i4_21 h => ?_)
          refine j_istore (lv' := [(4, .int i4_21), (3, .ref (a0 19)), (0, .ref (a0 0)), (1, .int i1), (2, .int i2)]) K (by decide) rfl dX7_write_57 rfl ?_
          refine j_iconst (v := (0 : Int32)) K (by decide) dX7_write_59 rfl ?_
          refine j_istore (lv' := [(5, .int (0 : Int32)), (4, .int i4_21), (3, .ref (a0 19)), (0, .ref (a0 0)), (1, .int i1), (2, .int i2)]) K (by decide) rfl dX7_write_60 rfl ?_
          refine j_sub [3, 4, 5, 2, 1, 0] (lv' := [(0, .ref (a0 0)), (1, .int i1), (2, .int i2), (3, .ref (a0 19)), (4, .int i4_21), (5, .int (0 : Int32))]) rfl ?_
          exact wX7_write_62_v2 K a0 c_settledByKnown i1 i2 c_room c_told c_events o_r o_finding o_courseKnown o_course o_sh0 o_sh1 o_sh2 o_sh3 fei2 jF c_finding c_courseKnown_19 c_course_20 c_sh0 c_sh1 c_sh2 c_sh3 i4_21 (0 : Int32) h
        · refine j_aload_n K 0 rfl dX7_write_32 rfl ?_
          refine j_iconst (v := (1 : Int32)) K (by decide) dX7_write_33 rfl ?_
          obtain ⟨r_25, c_finding_26, hc, h⟩ := bd2_some h
          refine j_callV (rest := []) (st1 := [.int r_25]) (ws' := (uX7_write cyI cyJ cyS a0 c_room c_finding_26 c_courseKnown c_settledByKnown c_told.1 c_told.2.1 c_told.2.2.1 c_told.2.2.2 c_events.1 c_events.2.1 c_events.2.2.1 c_events.2.2.2 c_course.1 c_course.2.1 c_course.2.2.1 c_course.2.2.2.1 c_course.2.2.2.2.1 c_course.2.2.2.2.2.1 c_course.2.2.2.2.2.2.1 c_course.2.2.2.2.2.2.2.1 c_course.2.2.2.2.2.2.2.2.1 c_course.2.2.2.2.2.2.2.2.2.1 c_course.2.2.2.2.2.2.2.2.2.2.1 c_course.2.2.2.2.2.2.2.2.2.2.2 c_sh0.1 c_sh0.2.1 c_sh0.2.2.1 c_sh0.2.2.2 c_sh1.1 c_sh1.2.1 c_sh1.2.2.1 c_sh1.2.2.2 c_sh2.1 c_sh2.2.1 c_sh2.2.2.1 c_sh2.2.2.2 c_sh3.1 c_sh3.2.1 c_sh3.2.2.1 c_sh3.2.2.2)) (T := TX7) (N := 15) (ci := 7) K (ctX7_found l D cyI cyJ cyS a0 (1 : Int32) c_room c_courseKnown c_settledByKnown c_finding r_25 c_finding_26 hc) (gdV mcL mw_12_9 mw_12_10 mw_12_11 mw_1_2 mw_12_12) rfl ⟨rfl, rfl⟩ hyX7_found ⟨Nat.le_of_ble_eq_true rfl, Nat.le_of_ble_eq_true rfl, Nat.le_of_ble_eq_true rfl, Nat.le_of_ble_eq_true rfl⟩ [0] (by decide) rfl [some 0, none, none, none, none, none, none, none, none, none, none, none, none, none, none, none, none, none, none, none, none, none, none, none, none, none, none, none, none, none] (by decide) rfl rfl 0 rfl rfl rfl rfl (Nat.le_of_ble_eq_true rfl) dX7_write_34 rfl rfl ?_
          obtain ⟨e1, g1⟩ := Prod.mk.inj (Option.some.inj h)
          subst e1
          obtain ⟨e2, g2⟩ := Prod.mk.inj g1
          subst e2
          obtain ⟨e3, g3⟩ := Prod.mk.inj g2
          subst e3
          obtain ⟨e4, g4⟩ := Prod.mk.inj g3
          subst e4
          obtain ⟨e5, g5⟩ := Prod.mk.inj g4
          subst e5
          obtain ⟨e6, g6⟩ := Prod.mk.inj g5
          subst e6
          obtain ⟨e7, g7⟩ := Prod.mk.inj g6
          subst e7
          subst g7
          exact j_iret K dX7_write_37
      · refine j_aald (b := (a0 51)) K 21 2 rfl rfl (vin4_3 fei2) (by rw [fei2]; rfl) dX7_write_25 rfl ?_
        refine j_getf (C := RX4) (T := TX4) (N := 4) (ci := 4) K icX4 28 3 (List.mem_cons_of_mem _ mw_12_6) rfl rfl rfl (by decide) rfl dX7_write_26 rfl ?_
        refine j_if_eq (tgt := 38) K dX7_write_29 (by decide) rfl h (fun h => ?_) (fun h => ?_)
        · refine j_aload_n K 0 rfl dX7_write_38 rfl ?_
          obtain ⟨c_courseKnown_27, c_course_28, hc, h⟩ := bd2_some h
          refine j_callV (rest := []) (st1 := [.ref (a0 19)]) (ws' := (uX7_write cyI cyJ cyS a0 c_room c_finding c_courseKnown_27 c_settledByKnown c_told.1 c_told.2.1 c_told.2.2.1 c_told.2.2.2 c_events.1 c_events.2.1 c_events.2.2.1 c_events.2.2.2 c_course_28.1 c_course_28.2.1 c_course_28.2.2.1 c_course_28.2.2.2.1 c_course_28.2.2.2.2.1 c_course_28.2.2.2.2.2.1 c_course_28.2.2.2.2.2.2.1 c_course_28.2.2.2.2.2.2.2.1 c_course_28.2.2.2.2.2.2.2.2.1 c_course_28.2.2.2.2.2.2.2.2.2.1 c_course_28.2.2.2.2.2.2.2.2.2.2.1 c_course_28.2.2.2.2.2.2.2.2.2.2.2 c_sh0.1 c_sh0.2.1 c_sh0.2.2.1 c_sh0.2.2.2 c_sh1.1 c_sh1.2.1 c_sh1.2.2.1 c_sh1.2.2.2 c_sh2.1 c_sh2.2.1 c_sh2.2.2.1 c_sh2.2.2.2 c_sh3.1 c_sh3.2.1 c_sh3.2.2.1 c_sh3.2.2.2)) (T := TX7) (N := 15) (ci := 7) K (ctX7_courseTold l D cyI cyJ cyS a0 c_finding c_settledByKnown c_room c_told c_events c_courseKnown c_course c_courseKnown_27 c_course_28 hc) (gdV mcL mw_13_10 mw_13_11 mw_13_12 mw_1_2 mw_13_13) rfl ⟨rfl, rfl⟩ hyX7_courseTold ⟨Nat.le_of_ble_eq_true rfl, Nat.le_of_ble_eq_true rfl, Nat.le_of_ble_eq_true rfl, Nat.le_of_ble_eq_true rfl⟩ [0, 1, 2, 3, 4, 5, 6, 7, 8, 9, 10, 11, 12, 13, 14, 15, 16, 17, 18, 19, 20] (by decide) rfl [some 0, some 1, some 2, some 3, some 4, some 5, some 6, some 7, some 8, some 9, some 10, some 11, some 12, some 13, some 14, some 15, some 16, some 17, some 18, some 19, some 20, none, none, none, none, none, none, none, none, none] (by decide) rfl rfl 0 rfl rfl rfl rfl (Nat.le_of_ble_eq_true rfl) dX7_write_39 rfl rfl ?_
          refine j_astore_n (lv' := [(3, .ref (a0 19)), (0, .ref (a0 0)), (1, .int i1), (2, .int i2)]) K (by decide) rfl dX7_write_42 rfl ?_
          refine j_aload_n K 1 rfl dX7_write_43 rfl ?_
          refine j_getf (C := RX7) (T := TX7) (N := 15) (ci := 7) K icX7 0 8 (List.mem_cons_of_mem _ mw_2_15) rfl rfl rfl (by decide) rfl dX7_write_44 rfl ?_
          refine j_iload_n K 3 rfl dX7_write_47 rfl ?_
          refine j_aald (b := (a0 51)) K 21 2 rfl rfl (vin4_3 fei2) (by rw [fei2]; rfl) dX7_write_48 rfl ?_
          refine j_getf (C := RX4) (T := TX4) (N := 4) (ci := 4) K icX4 28 2 (List.mem_cons_of_mem _ mw_12_8) rfl rfl rfl (by decide) rfl dX7_write_49 rfl ?_
          refine j_bipush (v := (24 : Int32)) K (by decide) dX7_write_52 rfl ?_
          refine j_mmin K (List.mem_cons_of_mem _ mw_39_15) (List.mem_cons_of_mem _ mw_14_15) (List.mem_cons_of_mem _ mw_14_16) (List.mem_cons_of_mem _ mw_14_17) ⟨Nat.le_of_ble_eq_true rfl, Nat.le_of_ble_eq_true rfl, Nat.le_of_ble_eq_true rfl, Nat.le_of_ble_eq_true rfl⟩ dX7_write_54 rfl ?_
          refine j_nmI h (fun i4_29 h => ?_)
          refine j_istore (lv' := [(4, .int i4_29), (3, .ref (a0 19)), (0, .ref (a0 0)), (1, .int i1), (2, .int i2)]) K (by decide) rfl dX7_write_57 rfl ?_
          refine j_iconst (v := (0 : Int32)) K (by decide) dX7_write_59 rfl ?_
          refine j_istore (lv' := [(5, .int (0 : Int32)), (4, .int i4_29), (3, .ref (a0 19)), (0, .ref (a0 0)), (1, .int i1), (2, .int i2)]) K (by decide) rfl dX7_write_60 rfl ?_
          refine j_sub [3, 4, 5, 2, 1, 0] (lv' := [(0, .ref (a0 0)), (1, .int i1), (2, .int i2), (3, .ref (a0 19)), (4, .int i4_29), (5, .int (0 : Int32))]) rfl ?_
          exact wX7_write_62_v3 K a0 c_settledByKnown i1 i2 c_room c_told c_events o_r o_finding o_courseKnown o_course o_sh0 o_sh1 o_sh2 o_sh3 fei2 jF c_finding c_courseKnown_27 c_course_28 c_sh0 c_sh1 c_sh2 c_sh3 i4_29 (0 : Int32) h
        · refine j_aload_n K 0 rfl dX7_write_32 rfl ?_
          refine j_iconst (v := (1 : Int32)) K (by decide) dX7_write_33 rfl ?_
          obtain ⟨r_33, c_finding_34, hc, h⟩ := bd2_some h
          refine j_callV (rest := []) (st1 := [.int r_33]) (ws' := (uX7_write cyI cyJ cyS a0 c_room c_finding_34 c_courseKnown c_settledByKnown c_told.1 c_told.2.1 c_told.2.2.1 c_told.2.2.2 c_events.1 c_events.2.1 c_events.2.2.1 c_events.2.2.2 c_course.1 c_course.2.1 c_course.2.2.1 c_course.2.2.2.1 c_course.2.2.2.2.1 c_course.2.2.2.2.2.1 c_course.2.2.2.2.2.2.1 c_course.2.2.2.2.2.2.2.1 c_course.2.2.2.2.2.2.2.2.1 c_course.2.2.2.2.2.2.2.2.2.1 c_course.2.2.2.2.2.2.2.2.2.2.1 c_course.2.2.2.2.2.2.2.2.2.2.2 c_sh0.1 c_sh0.2.1 c_sh0.2.2.1 c_sh0.2.2.2 c_sh1.1 c_sh1.2.1 c_sh1.2.2.1 c_sh1.2.2.2 c_sh2.1 c_sh2.2.1 c_sh2.2.2.1 c_sh2.2.2.2 c_sh3.1 c_sh3.2.1 c_sh3.2.2.1 c_sh3.2.2.2)) (T := TX7) (N := 15) (ci := 7) K (ctX7_found l D cyI cyJ cyS a0 (1 : Int32) c_room c_courseKnown c_settledByKnown c_finding r_33 c_finding_34 hc) (gdV mcL mw_12_9 mw_12_10 mw_12_11 mw_1_2 mw_12_12) rfl ⟨rfl, rfl⟩ hyX7_found ⟨Nat.le_of_ble_eq_true rfl, Nat.le_of_ble_eq_true rfl, Nat.le_of_ble_eq_true rfl, Nat.le_of_ble_eq_true rfl⟩ [0] (by decide) rfl [some 0, none, none, none, none, none, none, none, none, none, none, none, none, none, none, none, none, none, none, none, none, none, none, none, none, none, none, none, none, none] (by decide) rfl rfl 0 rfl rfl rfl rfl (Nat.le_of_ble_eq_true rfl) dX7_write_34 rfl rfl ?_
          obtain ⟨e1, g1⟩ := Prod.mk.inj (Option.some.inj h)
          subst e1
          obtain ⟨e2, g2⟩ := Prod.mk.inj g1
          subst e2
          obtain ⟨e3, g3⟩ := Prod.mk.inj g2
          subst e3
          obtain ⟨e4, g4⟩ := Prod.mk.inj g3
          subst e4
          obtain ⟨e5, g5⟩ := Prod.mk.inj g4
          subst e5
          obtain ⟨e6, g6⟩ := Prod.mk.inj g5
          subst e6
          obtain ⟨e7, g7⟩ := Prod.mk.inj g6
          subst e7
          subst g7
          exact j_iret K dX7_write_37
    · refine j_bipush (v := (-2 : Int32)) K (by decide) dX7_write_17 rfl ?_
      obtain ⟨e1, g1⟩ := Prod.mk.inj (Option.some.inj h)
      subst e1
      obtain ⟨e2, g2⟩ := Prod.mk.inj g1
      subst e2
      obtain ⟨e3, g3⟩ := Prod.mk.inj g2
      subst e3
      obtain ⟨e4, g4⟩ := Prod.mk.inj g3
      subst e4
      obtain ⟨e5, g5⟩ := Prod.mk.inj g4
      subst e5
      obtain ⟨e6, g6⟩ := Prod.mk.inj g5
      subst e6
      obtain ⟨e7, g7⟩ := Prod.mk.inj g6
      subst e7
      subst g7
      exact j_iret K dX7_write_19
end GEN
