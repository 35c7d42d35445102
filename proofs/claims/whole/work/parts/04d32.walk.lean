section GEN
variable {p : Program} {l : Launch} {e : Env} {s : State} {m : MethodId} {args : Array Value} {below : List Frame} {meth : Method} {c : Code} {A : Nat → Prop} {D : va_G} {cyI cyJ cyS : ClassId}
abbrev uX7_count (cyI cyJ cyS : ClassId) (a0 : Nat → Nat) (c_room : Int32) (c_finding : Int32) (c_courseKnown : Int32) (c_settledByKnown : Int32) (c_text_size : Int32) (c_told_size : Int32) (c_told_sort : Nat → Int32) (c_told_paid : Nat → Int32) (c_told_wage : Nat → Int32) (c_events_size : Int32) (c_events_kind : Nat → Int32) (c_events_month : Nat → Int32) (c_events_number : Nat → Int32) (c_seen_size : Int32) (c_course_size : Int32) (c_course_settled : Nat → Int32) (c_course_falls : Nat → Int32) (c_course_passed : Nat → Int32) (c_course_floors : Nat → Int32) (c_course_lefts : Nat → Int32) (c_course_fallers : Nat → Int32) (c_course_floor : Nat → Int32) (c_course_before : Nat → Int32) (c_course_left : Nat → Int32) (c_course_order : Nat → Int32) (c_course_taken : Nat → Int32) : va_W := [((a0 0), .inr (7, [.ref (a0 1), .ref (a0 3), .ref (a0 7), .ref (a0 11), .ref (a0 15), .ref (a0 19), .ref (a0 31), .ref (a0 43), .ref (a0 44), .ref (a0 53), .ref (a0 54), .int c_room, .int c_finding, .int c_courseKnown, .int c_settledByKnown])), ((a0 1), .inr (6, [.ref (a0 2), .int c_text_size])), ((a0 3), .inr (5, [.ref (a0 4), .ref (a0 5), .ref (a0 6), .int c_told_size])), ((a0 4), .inl (cyI, 8, .inl c_told_sort)), ((a0 5), .inl (cyI, 8, .inl c_told_paid)), ((a0 6), .inl (cyI, 8, .inl c_told_wage)), ((a0 11), .inr (2, [.ref (a0 12), .ref (a0 13), .ref (a0 14), .int c_events_size])), ((a0 12), .inl (cyI, 8, .inl c_events_kind)), ((a0 13), .inl (cyI, 8, .inl c_events_month)), ((a0 14), .inl (cyI, 8, .inl c_events_number)), ((a0 15), .inr (3, [.ref (a0 16), .ref (a0 17), .ref (a0 18), .int c_seen_size])), ((a0 19), .inr (1, [.int c_course_size, .ref (a0 20), .ref (a0 21), .ref (a0 22), .ref (a0 23), .ref (a0 24), .ref (a0 25), .ref (a0 26), .ref (a0 27), .ref (a0 28), .ref (a0 29), .ref (a0 30)])), ((a0 20), .inl (cyI, 8, .inl c_course_settled)), ((a0 21), .inl (cyI, 8, .inl c_course_falls)), ((a0 22), .inl (cyI, 8, .inl c_course_passed)), ((a0 23), .inl (cyI, 192, .inl c_course_floors)), ((a0 24), .inl (cyI, 192, .inl c_course_lefts)), ((a0 25), .inl (cyI, 24, .inl c_course_fallers)), ((a0 26), .inl (cyI, 8, .inl c_course_floor)), ((a0 27), .inl (cyI, 8, .inl c_course_before)), ((a0 28), .inl (cyI, 8, .inl c_course_left)), ((a0 29), .inl (cyI, 8, .inl c_course_order)), ((a0 30), .inl (cyI, 13, .inl c_course_taken))]
abbrev rmX7_count : Room := { frames := 5, cells := 0, slots := 0, locals := 116 }
abbrev wdX7_count : List Cond := .code yX7_count cX7_count 2 (some .int) :: wsL_law
theorem hyX7_count : yX7_count.cls = RX7 ∧ yX7_count.cls ≠ "java/lang/invoke/MethodHandle" ∧ yX7_count.cls ≠ "java/lang/invoke/VarHandle" ∧ (parseMethodDescriptor yX7_count.desc).map (fun d => d.parameters.length) = some 1 := by decide +kernel
set_option maxRecDepth 100000 in
set_option maxHeartbeats 4000000 in
theorem ctX7_count (l : Launch) (D : va_G) (cyI cyJ cyS : ClassId) (a0 : Nat → Nat) (i1 : Int32) (c_settledByKnown : Int32) (c_room : Int32) (c_finding : Int32) (c_text_size : Int32) (c_told : jT3) (c_events : jT3) (c_seen_size : Int32) (c_courseKnown : Int32) (c_course : jT11) (o_r : Int32) (o_courseKnown : Int32) (o_course : jT11) (h : fX7_count i1 c_room c_finding c_text_size c_told c_events c_seen_size c_courseKnown c_course = some (o_r, o_courseKnown, o_course)) : jC l yX7_count wdX7_count rmX7_count D vwCl (tyz cyI cyJ cyS) [.ref (a0 0), .int i1] (uX7_count cyI cyJ cyS a0 c_room c_finding c_courseKnown c_settledByKnown c_text_size c_told.1 c_told.2.1 c_told.2.2.1 c_told.2.2.2 c_events.1 c_events.2.1 c_events.2.2.1 c_events.2.2.2 c_seen_size c_course.1 c_course.2.1 c_course.2.2.1 c_course.2.2.2.1 c_course.2.2.2.2.1 c_course.2.2.2.2.2.1 c_course.2.2.2.2.2.2.1 c_course.2.2.2.2.2.2.2.1 c_course.2.2.2.2.2.2.2.2.1 c_course.2.2.2.2.2.2.2.2.2.1 c_course.2.2.2.2.2.2.2.2.2.2.1 c_course.2.2.2.2.2.2.2.2.2.2.2) (some (.int o_r)) (uX7_count cyI cyJ cyS a0 c_room c_finding o_courseKnown c_settledByKnown c_text_size c_told.1 c_told.2.1 c_told.2.2.1 c_told.2.2.2 c_events.1 c_events.2.1 c_events.2.2.1 c_events.2.2.2 c_seen_size o_course.1 o_course.2.1 o_course.2.2.1 o_course.2.2.2.1 o_course.2.2.2.2.1 o_course.2.2.2.2.2.1 o_course.2.2.2.2.2.2.1 o_course.2.2.2.2.2.2.2.1 o_course.2.2.2.2.2.2.2.2.1 o_course.2.2.2.2.2.2.2.2.2.1 o_course.2.2.2.2.2.2.2.2.2.2.1 o_course.2.2.2.2.2.2.2.2.2.2.2) := by
  refine jC_of (cc := cX7_count) (nL := 2) (ret := (some .int)) (own := RX7) (lv := [(0, .ref (a0 0)), (1, .int i1)]) (by decide) rfl rfl (Nat.le_of_ble_eq_true rfl) rfl ?_
  intro p e s m args below meth c A K
  unfold fX7_count at h
  refine j_iload_n K 1 rfl dX7_count_0 rfl ?_
  by_cases c0 : i1 = (0 : Int32)
  · rw [if_pos c0] at h
    refine j_tableIn (off := 51) (tgt := 52) K (by rw [c0]; decide) (by rw [c0]; decide) (by rw [c0]; first | done | rfl) dX7_count_1 (by decide) ?_
    refine j_aload_n K 0 rfl dX7_count_52 rfl ?_
    refine j_getf (C := RX7) (T := TX7) (N := 15) (ci := 7) K icX7 0 1 (List.mem_cons_of_mem _ mw_1_19) rfl rfl rfl (by decide) rfl dX7_count_53 rfl ?_
    refine j_getf (C := RX5) (T := TX5) (N := 4) (ci := 5) K icX5 2 3 (List.mem_cons_of_mem _ mw_9_23) rfl rfl rfl (by decide) rfl dX7_count_56 rfl ?_
    obtain ⟨e1, g1⟩ := Prod.mk.inj (Option.some.inj h)
    subst e1
    obtain ⟨e2, g2⟩ := Prod.mk.inj g1
    subst e2
    subst g2
    exact j_iret K dX7_count_59
  · rw [if_neg c0] at h
    by_cases c1 : i1 = (1 : Int32)
    · rw [if_pos c1] at h
      refine j_tableIn (off := 59) (tgt := 60) K (by rw [c1]; decide) (by rw [c1]; decide) (by rw [c1]; first | done | rfl) dX7_count_1 (by decide) ?_
      refine j_aload_n K 0 rfl dX7_count_60 rfl ?_
      refine j_getf (C := RX7) (T := TX7) (N := 15) (ci := 7) K icX7 0 0 (List.mem_cons_of_mem _ mw_1_15) rfl rfl rfl (by decide) rfl dX7_count_61 rfl ?_
      refine j_getf (C := RX6) (T := TX6) (N := 2) (ci := 6) K icX6 1 1 (List.mem_cons_of_mem _ mw_6_10) rfl rfl rfl (by decide) rfl dX7_count_64 rfl ?_
      obtain ⟨e1, g1⟩ := Prod.mk.inj (Option.some.inj h)
      subst e1
      obtain ⟨e2, g2⟩ := Prod.mk.inj g1
      subst e2
      subst g2
      exact j_iret K dX7_count_67
    · rw [if_neg c1] at h
      by_cases c2 : i1 = (2 : Int32)
      · rw [if_pos c2] at h
        refine j_tableIn (off := 67) (tgt := 68) K (by rw [c2]; decide) (by rw [c2]; decide) (by rw [c2]; first | done | rfl) dX7_count_1 (by decide) ?_
        refine j_aload_n K 0 rfl dX7_count_68 rfl ?_
        refine j_getf (C := RX7) (T := TX7) (N := 15) (ci := 7) K icX7 0 3 (List.mem_cons_of_mem _ mw_2_0) rfl rfl rfl (by decide) rfl dX7_count_69 rfl ?_
        refine j_getf (C := RX2) (T := TX2) (N := 4) (ci := 2) K icX2 6 3 (List.mem_cons_of_mem _ mw_10_22) rfl rfl rfl (by decide) rfl dX7_count_72 rfl ?_
        obtain ⟨e1, g1⟩ := Prod.mk.inj (Option.some.inj h)
        subst e1
        obtain ⟨e2, g2⟩ := Prod.mk.inj g1
        subst e2
        subst g2
        exact j_iret K dX7_count_75
      · rw [if_neg c2] at h
        by_cases c3 : i1 = (3 : Int32)
        · rw [if_pos c3] at h
          refine j_tableIn (off := 75) (tgt := 76) K (by rw [c3]; decide) (by rw [c3]; decide) (by rw [c3]; first | done | rfl) dX7_count_1 (by decide) ?_
          refine j_aload_n K 0 rfl dX7_count_76 rfl ?_
          obtain ⟨c_courseKnown_1, c_course_2, hc, h⟩ := bd2_some h
          refine j_callV (rest := []) (st1 := [.ref (a0 19)]) (ws' := (uX7_count cyI cyJ cyS a0 c_room c_finding c_courseKnown_1 c_settledByKnown c_text_size c_told.1 c_told.2.1 c_told.2.2.1 c_told.2.2.2 c_events.1 c_events.2.1 c_events.2.2.1 c_events.2.2.2 c_seen_size c_course_2.1 c_course_2.2.1 c_course_2.2.2.1 c_course_2.2.2.2.1 c_course_2.2.2.2.2.1 c_course_2.2.2.2.2.2.1 c_course_2.2.2.2.2.2.2.1 c_course_2.2.2.2.2.2.2.2.1 c_course_2.2.2.2.2.2.2.2.2.1 c_course_2.2.2.2.2.2.2.2.2.2.1 c_course_2.2.2.2.2.2.2.2.2.2.2.1 c_course_2.2.2.2.2.2.2.2.2.2.2.2)) (T := TX7) (N := 15) (ci := 7) K (ctX7_courseTold l D cyI cyJ cyS a0 c_finding c_settledByKnown c_room c_told c_events c_courseKnown c_course c_courseKnown_1 c_course_2 hc) (gdV mcL mw_13_10 mw_13_11 mw_13_12 mw_1_2 mw_13_13) rfl ⟨rfl, rfl⟩ hyX7_courseTold ⟨Nat.le_of_ble_eq_true rfl, Nat.le_of_ble_eq_true rfl, Nat.le_of_ble_eq_true rfl, Nat.le_of_ble_eq_true rfl⟩ [0, 2, 3, 4, 5, 6, 7, 8, 9, 11, 12, 13, 14, 15, 16, 17, 18, 19, 20, 21, 22] (by decide) rfl [some 0, none, some 1, some 2, some 3, some 4, some 5, some 6, some 7, some 8, none, some 9, some 10, some 11, some 12, some 13, some 14, some 15, some 16, some 17, some 18, some 19, some 20] (by decide) rfl rfl 0 rfl rfl rfl rfl (Nat.le_of_ble_eq_true rfl) dX7_count_77 rfl rfl ?_
          obtain ⟨r_3, hc, h⟩ := bd1_some h
          refine j_callV (rest := []) (st1 := [.int r_3]) (ws' := (uX7_count cyI cyJ cyS a0 c_room c_finding c_courseKnown_1 c_settledByKnown c_text_size c_told.1 c_told.2.1 c_told.2.2.1 c_told.2.2.2 c_events.1 c_events.2.1 c_events.2.2.1 c_events.2.2.2 c_seen_size c_course_2.1 c_course_2.2.1 c_course_2.2.2.1 c_course_2.2.2.2.1 c_course_2.2.2.2.2.1 c_course_2.2.2.2.2.2.1 c_course_2.2.2.2.2.2.2.1 c_course_2.2.2.2.2.2.2.2.1 c_course_2.2.2.2.2.2.2.2.2.1 c_course_2.2.2.2.2.2.2.2.2.2.1 c_course_2.2.2.2.2.2.2.2.2.2.2.1 c_course_2.2.2.2.2.2.2.2.2.2.2.2)) (T := TX1) (N := 12) (ci := 1) K (ctX1_settledInAll l D cyI cyJ cyS (fun k => a0 (k + 19)) c_course_2.1 c_course_2.2.1 r_3 hc) (gdV mcL mw_22_3 mw_22_4 mw_22_5 mw_2_7 mw_22_6) rfl ⟨rfl, rfl⟩ hyX1_settledInAll ⟨Nat.le_of_ble_eq_true rfl, Nat.le_of_ble_eq_true rfl, Nat.le_of_ble_eq_true rfl, Nat.le_of_ble_eq_true rfl⟩ [11, 12] (by decide) rfl [none, none, none, none, none, none, none, none, none, none, none, some 0, some 1, none, none, none, none, none, none, none, none, none, none] (by decide) rfl rfl 11 rfl rfl rfl rfl (Nat.le_of_ble_eq_true rfl) dX7_count_80 rfl rfl ?_
          obtain ⟨e1, g1⟩ := Prod.mk.inj (Option.some.inj h)
          subst e1
          obtain ⟨e2, g2⟩ := Prod.mk.inj g1
          subst e2
          subst g2
          exact j_iret K dX7_count_83
        · rw [if_neg c3] at h
          by_cases c4 : i1 = (4 : Int32)
          · rw [if_pos c4] at h
            refine j_tableIn (off := 83) (tgt := 84) K (by rw [c4]; decide) (by rw [c4]; decide) (by rw [c4]; first | done | rfl) dX7_count_1 (by decide) ?_
            refine j_aload_n K 0 rfl dX7_count_84 rfl ?_
            obtain ⟨c_courseKnown_4, c_course_5, hc, h⟩ := bd2_some h
            refine j_callV (rest := []) (st1 := [.ref (a0 19)]) (ws' := (uX7_count cyI cyJ cyS a0 c_room c_finding c_courseKnown_4 c_settledByKnown c_text_size c_told.1 c_told.2.1 c_told.2.2.1 c_told.2.2.2 c_events.1 c_events.2.1 c_events.2.2.1 c_events.2.2.2 c_seen_size c_course_5.1 c_course_5.2.1 c_course_5.2.2.1 c_course_5.2.2.2.1 c_course_5.2.2.2.2.1 c_course_5.2.2.2.2.2.1 c_course_5.2.2.2.2.2.2.1 c_course_5.2.2.2.2.2.2.2.1 c_course_5.2.2.2.2.2.2.2.2.1 c_course_5.2.2.2.2.2.2.2.2.2.1 c_course_5.2.2.2.2.2.2.2.2.2.2.1 c_course_5.2.2.2.2.2.2.2.2.2.2.2)) (T := TX7) (N := 15) (ci := 7) K (ctX7_courseTold l D cyI cyJ cyS a0 c_finding c_settledByKnown c_room c_told c_events c_courseKnown c_course c_courseKnown_4 c_course_5 hc) (gdV mcL mw_13_10 mw_13_11 mw_13_12 mw_1_2 mw_13_13) rfl ⟨rfl, rfl⟩ hyX7_courseTold ⟨Nat.le_of_ble_eq_true rfl, Nat.le_of_ble_eq_true rfl, Nat.le_of_ble_eq_true rfl, Nat.le_of_ble_eq_true rfl⟩ [0, 2, 3, 4, 5, 6, 7, 8, 9, 11, 12, 13, 14, 15, 16, 17, 18, 19, 20, 21, 22] (by decide) rfl [some 0, none, some 1, some 2, some 3, some 4, some 5, some 6, some 7, some 8, none, some 9, some 10, some 11, some 12, some 13, some 14, some 15, some 16, some 17, some 18, some 19, some 20] (by decide) rfl rfl 0 rfl rfl rfl rfl (Nat.le_of_ble_eq_true rfl) dX7_count_85 rfl rfl ?_
            obtain ⟨r_6, hc, h⟩ := bd1_some h
            refine j_callV (rest := []) (st1 := [.int r_6]) (ws' := (uX7_count cyI cyJ cyS a0 c_room c_finding c_courseKnown_4 c_settledByKnown c_text_size c_told.1 c_told.2.1 c_told.2.2.1 c_told.2.2.2 c_events.1 c_events.2.1 c_events.2.2.1 c_events.2.2.2 c_seen_size c_course_5.1 c_course_5.2.1 c_course_5.2.2.1 c_course_5.2.2.2.1 c_course_5.2.2.2.2.1 c_course_5.2.2.2.2.2.1 c_course_5.2.2.2.2.2.2.1 c_course_5.2.2.2.2.2.2.2.1 c_course_5.2.2.2.2.2.2.2.2.1 c_course_5.2.2.2.2.2.2.2.2.2.1 c_course_5.2.2.2.2.2.2.2.2.2.2.1 c_course_5.2.2.2.2.2.2.2.2.2.2.2)) (T := TX1) (N := 12) (ci := 1) K (ctX1_fallsInAll l D cyI cyJ cyS (fun k => a0 (k + 19)) c_course_5.1 c_course_5.2.2.1 r_6 hc) (gdV mcL mw_22_18 mw_22_19 mw_22_20 mw_2_7 mw_22_21) rfl ⟨rfl, rfl⟩ hyX1_fallsInAll ⟨Nat.le_of_ble_eq_true rfl, Nat.le_of_ble_eq_true rfl, Nat.le_of_ble_eq_true rfl, Nat.le_of_ble_eq_true rfl⟩ [11, 13] (by decide) rfl [none, none, none, none, none, none, none, none, none, none, none, some 0, none, some 1, none, none, none, none, none, none, none, none, none] (by decide) rfl rfl 11 rfl rfl rfl rfl (Nat.le_of_ble_eq_true rfl) dX7_count_88 rfl rfl ?_
            obtain ⟨e1, g1⟩ := Prod.mk.inj (Option.some.inj h)
            subst e1
            obtain ⟨e2, g2⟩ := Prod.mk.inj g1
            subst e2
            subst g2
            exact j_iret K dX7_count_91
          · rw [if_neg c4] at h
            by_cases c5 : i1 = (5 : Int32)
            · rw [if_pos c5] at h
              refine j_tableIn (off := 91) (tgt := 92) K (by rw [c5]; decide) (by rw [c5]; decide) (by rw [c5]; first | done | rfl) dX7_count_1 (by decide) ?_
              refine j_aload_n K 0 rfl dX7_count_92 rfl ?_
              refine j_getf (C := RX7) (T := TX7) (N := 15) (ci := 7) K icX7 0 11 (List.mem_cons_of_mem _ mw_2_19) rfl rfl rfl (by decide) rfl dX7_count_93 rfl ?_
              obtain ⟨e1, g1⟩ := Prod.mk.inj (Option.some.inj h)
              subst e1
              obtain ⟨e2, g2⟩ := Prod.mk.inj g1
              subst e2
              subst g2
              exact j_iret K dX7_count_96
            · rw [if_neg c5] at h
              by_cases c6 : i1 = (6 : Int32)
              · rw [if_pos c6] at h
                refine j_tableIn (off := 96) (tgt := 97) K (by rw [c6]; decide) (by rw [c6]; decide) (by rw [c6]; first | done | rfl) dX7_count_1 (by decide) ?_
                refine j_aload_n K 0 rfl dX7_count_97 rfl ?_
                obtain ⟨c_courseKnown_7, c_course_8, hc, h⟩ := bd2_some h
                refine j_callV (rest := []) (st1 := [.ref (a0 19)]) (ws' := (uX7_count cyI cyJ cyS a0 c_room c_finding c_courseKnown_7 c_settledByKnown c_text_size c_told.1 c_told.2.1 c_told.2.2.1 c_told.2.2.2 c_events.1 c_events.2.1 c_events.2.2.1 c_events.2.2.2 c_seen_size c_course_8.1 c_course_8.2.1 c_course_8.2.2.1 c_course_8.2.2.2.1 c_course_8.2.2.2.2.1 c_course_8.2.2.2.2.2.1 c_course_8.2.2.2.2.2.2.1 c_course_8.2.2.2.2.2.2.2.1 c_course_8.2.2.2.2.2.2.2.2.1 c_course_8.2.2.2.2.2.2.2.2.2.1 c_course_8.2.2.2.2.2.2.2.2.2.2.1 c_course_8.2.2.2.2.2.2.2.2.2.2.2)) (T := TX7) (N := 15) (ci := 7) K (ctX7_courseTold l D cyI cyJ cyS a0 c_finding c_settledByKnown c_room c_told c_events c_courseKnown c_course c_courseKnown_7 c_course_8 hc) (gdV mcL mw_13_10 mw_13_11 mw_13_12 mw_1_2 mw_13_13) rfl ⟨rfl, rfl⟩ hyX7_courseTold ⟨Nat.le_of_ble_eq_true rfl, Nat.le_of_ble_eq_true rfl, Nat.le_of_ble_eq_true rfl, Nat.le_of_ble_eq_true rfl⟩ [0, 2, 3, 4, 5, 6, 7, 8, 9, 11, 12, 13, 14, 15, 16, 17, 18, 19, 20, 21, 22] (by decide) rfl [some 0, none, some 1, some 2, some 3, some 4, some 5, some 6, some 7, some 8, none, some 9, some 10, some 11, some 12, some 13, some 14, some 15, some 16, some 17, some 18, some 19, some 20] (by decide) rfl rfl 0 rfl rfl rfl rfl (Nat.le_of_ble_eq_true rfl) dX7_count_98 rfl rfl ?_
                obtain ⟨r_9, hc, h⟩ := bd1_some h
                refine j_callV (rest := []) (st1 := [.int r_9]) (ws' := (uX7_count cyI cyJ cyS a0 c_room c_finding c_courseKnown_7 c_settledByKnown c_text_size c_told.1 c_told.2.1 c_told.2.2.1 c_told.2.2.2 c_events.1 c_events.2.1 c_events.2.2.1 c_events.2.2.2 c_seen_size c_course_8.1 c_course_8.2.1 c_course_8.2.2.1 c_course_8.2.2.2.1 c_course_8.2.2.2.2.1 c_course_8.2.2.2.2.2.1 c_course_8.2.2.2.2.2.2.1 c_course_8.2.2.2.2.2.2.2.1 c_course_8.2.2.2.2.2.2.2.2.1 c_course_8.2.2.2.2.2.2.2.2.2.1 c_course_8.2.2.2.2.2.2.2.2.2.2.1 c_course_8.2.2.2.2.2.2.2.2.2.2.2)) (T := TX1) (N := 12) (ci := 1) K (ctX1_housedAtLast l D cyI cyJ cyS (fun k => a0 (k + 19)) c_course_8.1 c_course_8.2.2.2.2.1 r_9 hc) (gdV mcL mw_40_0 mw_40_1 mw_40_2 mw_2_7 mw_40_3) rfl ⟨rfl, rfl⟩ hyX1_housedAtLast ⟨Nat.le_of_ble_eq_true rfl, Nat.le_of_ble_eq_true rfl, Nat.le_of_ble_eq_true rfl, Nat.le_of_ble_eq_true rfl⟩ [11, 15] (by decide) rfl [none, none, none, none, none, none, none, none, none, none, none, some 0, none, none, none, some 1, none, none, none, none, none, none, none] (by decide) rfl rfl 11 rfl rfl rfl rfl (Nat.le_of_ble_eq_true rfl) dX7_count_101 rfl rfl ?_
                obtain ⟨e1, g1⟩ := Prod.mk.inj (Option.some.inj h)
                subst e1
                obtain ⟨e2, g2⟩ := Prod.mk.inj g1
                subst e2
                subst g2
                exact j_iret K dX7_count_104
              · rw [if_neg c6] at h
                by_cases c7 : i1 = (7 : Int32)
                · rw [if_pos c7] at h
                  refine j_tableIn (off := 104) (tgt := 105) K (by rw [c7]; decide) (by rw [c7]; decide) (by rw [c7]; first | done | rfl) dX7_count_1 (by decide) ?_
                  refine j_aload_n K 0 rfl dX7_count_105 rfl ?_
                  refine j_getf (C := RX7) (T := TX7) (N := 15) (ci := 7) K icX7 0 4 (List.mem_cons_of_mem _ mw_2_4) rfl rfl rfl (by decide) rfl dX7_count_106 rfl ?_
                  refine j_getf (C := RX3) (T := TX3) (N := 4) (ci := 3) K icX3 10 3 (List.mem_cons_of_mem _ mw_29_21) rfl rfl rfl (by decide) rfl dX7_count_109 rfl ?_
                  obtain ⟨e1, g1⟩ := Prod.mk.inj (Option.some.inj h)
                  subst e1
                  obtain ⟨e2, g2⟩ := Prod.mk.inj g1
                  subst e2
                  subst g2
                  exact j_iret K dX7_count_112
                · rw [if_neg c7] at h
                  by_cases c8 : i1 = (8 : Int32)
                  · rw [if_pos c8] at h
                    refine j_tableIn (off := 112) (tgt := 113) K (by rw [c8]; decide) (by rw [c8]; decide) (by rw [c8]; first | done | rfl) dX7_count_1 (by decide) ?_
                    refine j_aload_n K 0 rfl dX7_count_113 rfl ?_
                    refine j_getf (C := RX7) (T := TX7) (N := 15) (ci := 7) K icX7 0 12 (List.mem_cons_of_mem _ mw_2_20) rfl rfl rfl (by decide) rfl dX7_count_114 rfl ?_
                    obtain ⟨e1, g1⟩ := Prod.mk.inj (Option.some.inj h)
                    subst e1
                    obtain ⟨e2, g2⟩ := Prod.mk.inj g1
                    subst e2
                    subst g2
                    exact j_iret K dX7_count_117
                  · rw [if_neg c8] at h
                    refine j_tableOut (tgt := 118) K (by have e0 := lv_neT (a := 0) c0 (by decide); have e1 := lv_neT (a := 1) c1 (by decide); have e2 := lv_neT (a := 2) c2 (by decide); have e3 := lv_neT (a := 3) c3 (by decide); have e4 := lv_neT (a := 4) c4 (by decide); have e5 := lv_neT (a := 5) c5 (by decide); have e6 := lv_neT (a := 6) c6 (by decide); have e7 := lv_neT (a := 7) c7 (by decide); have e8 := lv_neT (a := 8) c8 (by decide); omega) dX7_count_1 (by decide) ?_
                    refine j_bipush (v := (-2 : Int32)) K (by decide) dX7_count_118 rfl ?_
                    obtain ⟨e1, g1⟩ := Prod.mk.inj (Option.some.inj h)
                    subst e1
                    obtain ⟨e2, g2⟩ := Prod.mk.inj g1
                    subst e2
                    subst g2
                    exact j_iret K dX7_count_120
end GEN
