section GEN
variable {p : Program} {l : Launch} {e : Env} {s : State} {m : MethodId} {args : Array Value} {below : List Frame} {meth : Method} {c : Code} {A : Nat → Prop} {D : va_G} {cyI cyJ cyS : ClassId}
abbrev uX7_at (cyI cyJ cyS : ClassId) (a0 : Nat → Nat) (c_room : Int32) (c_finding : Int32) (c_courseKnown : Int32) (c_settledByKnown : Int32) (c_told_size : Int32) (c_told_sort : Nat → Int32) (c_told_paid : Nat → Int32) (c_told_wage : Nat → Int32) (c_events_size : Int32) (c_events_kind : Nat → Int32) (c_events_month : Nat → Int32) (c_events_number : Nat → Int32) (c_course_size : Int32) (c_course_settled : Nat → Int32) (c_course_falls : Nat → Int32) (c_course_passed : Nat → Int32) (c_course_floors : Nat → Int32) (c_course_lefts : Nat → Int32) (c_course_fallers : Nat → Int32) (c_course_floor : Nat → Int32) (c_course_before : Nat → Int32) (c_course_left : Nat → Int32) (c_course_order : Nat → Int32) (c_course_taken : Nat → Int32) : va_W := [((a0 0), .inr (7, [.ref (a0 1), .ref (a0 3), .ref (a0 7), .ref (a0 11), .ref (a0 15), .ref (a0 19), .ref (a0 31), .ref (a0 43), .ref (a0 44), .ref (a0 53), .ref (a0 54), .int c_room, .int c_finding, .int c_courseKnown, .int c_settledByKnown])), ((a0 3), .inr (5, [.ref (a0 4), .ref (a0 5), .ref (a0 6), .int c_told_size])), ((a0 4), .inl (cyI, 8, .inl c_told_sort)), ((a0 5), .inl (cyI, 8, .inl c_told_paid)), ((a0 6), .inl (cyI, 8, .inl c_told_wage)), ((a0 11), .inr (2, [.ref (a0 12), .ref (a0 13), .ref (a0 14), .int c_events_size])), ((a0 12), .inl (cyI, 8, .inl c_events_kind)), ((a0 13), .inl (cyI, 8, .inl c_events_month)), ((a0 14), .inl (cyI, 8, .inl c_events_number)), ((a0 19), .inr (1, [.int c_course_size, .ref (a0 20), .ref (a0 21), .ref (a0 22), .ref (a0 23), .ref (a0 24), .ref (a0 25), .ref (a0 26), .ref (a0 27), .ref (a0 28), .ref (a0 29), .ref (a0 30)])), ((a0 20), .inl (cyI, 8, .inl c_course_settled)), ((a0 21), .inl (cyI, 8, .inl c_course_falls)), ((a0 22), .inl (cyI, 8, .inl c_course_passed)), ((a0 23), .inl (cyI, 192, .inl c_course_floors)), ((a0 24), .inl (cyI, 192, .inl c_course_lefts)), ((a0 25), .inl (cyI, 24, .inl c_course_fallers)), ((a0 26), .inl (cyI, 8, .inl c_course_floor)), ((a0 27), .inl (cyI, 8, .inl c_course_before)), ((a0 28), .inl (cyI, 8, .inl c_course_left)), ((a0 29), .inl (cyI, 8, .inl c_course_order)), ((a0 30), .inl (cyI, 13, .inl c_course_taken))]
abbrev rmX7_at : Room := { frames := 5, cells := 0, slots := 0, locals := 116 }
abbrev wdX7_at : List Cond := .code yX7_at cX7_at 5 (some .int) :: wsL_law
theorem hyX7_at : yX7_at.cls = RX7 ∧ yX7_at.cls ≠ "java/lang/invoke/MethodHandle" ∧ yX7_at.cls ≠ "java/lang/invoke/VarHandle" ∧ (parseMethodDescriptor yX7_at.desc).map (fun d => d.parameters.length) = some 3 := by decide +kernel
set_option maxRecDepth 100000 in
set_option maxHeartbeats 4000000 in
theorem ctX7_at (l : Launch) (D : va_G) (cyI cyJ cyS : ClassId) (a0 : Nat → Nat) (i1 : Int32) (i2 : Int32) (i3 : Int32) (c_finding : Int32) (c_settledByKnown : Int32) (c_room : Int32) (c_told : jT3) (c_events : jT3) (c_courseKnown : Int32) (c_course : jT11) (o_r : Int32) (o_courseKnown : Int32) (o_course : jT11) (h : fX7_at i1 i2 i3 c_room c_told c_events c_courseKnown c_course = some (o_r, o_courseKnown, o_course)) : jC l yX7_at wdX7_at rmX7_at D vwCl (tyz cyI cyJ cyS) [.ref (a0 0), .int i1, .int i2, .int i3] (uX7_at cyI cyJ cyS a0 c_room c_finding c_courseKnown c_settledByKnown c_told.1 c_told.2.1 c_told.2.2.1 c_told.2.2.2 c_events.1 c_events.2.1 c_events.2.2.1 c_events.2.2.2 c_course.1 c_course.2.1 c_course.2.2.1 c_course.2.2.2.1 c_course.2.2.2.2.1 c_course.2.2.2.2.2.1 c_course.2.2.2.2.2.2.1 c_course.2.2.2.2.2.2.2.1 c_course.2.2.2.2.2.2.2.2.1 c_course.2.2.2.2.2.2.2.2.2.1 c_course.2.2.2.2.2.2.2.2.2.2.1 c_course.2.2.2.2.2.2.2.2.2.2.2) (some (.int o_r)) (uX7_at cyI cyJ cyS a0 c_room c_finding o_courseKnown c_settledByKnown c_told.1 c_told.2.1 c_told.2.2.1 c_told.2.2.2 c_events.1 c_events.2.1 c_events.2.2.1 c_events.2.2.2 o_course.1 o_course.2.1 o_course.2.2.1 o_course.2.2.2.1 o_course.2.2.2.2.1 o_course.2.2.2.2.2.1 o_course.2.2.2.2.2.2.1 o_course.2.2.2.2.2.2.2.1 o_course.2.2.2.2.2.2.2.2.1 o_course.2.2.2.2.2.2.2.2.2.1 o_course.2.2.2.2.2.2.2.2.2.2.1 o_course.2.2.2.2.2.2.2.2.2.2.2) := by
  refine jC_of (cc := cX7_at) (nL := 5) (ret := (some .int)) (own := RX7) (lv := [(0, .ref (a0 0)), (1, .int i1), (2, .int i2), (3, .int i3)]) (by decide) rfl rfl (Nat.le_of_ble_eq_true rfl) rfl ?_
  intro p e s m args below meth c A K
  unfold fX7_at at h
  refine j_iload_n K 1 rfl dX7_at_0 rfl ?_
  obtain ⟨r_1, hc, h⟩ := bd1_some h
  refine j_callS (rest := []) (st1 := [.int r_1]) (ws' := (uX7_at cyI cyJ cyS a0 c_room c_finding c_courseKnown c_settledByKnown c_told.1 c_told.2.1 c_told.2.2.1 c_told.2.2.2 c_events.1 c_events.2.1 c_events.2.2.1 c_events.2.2.2 c_course.1 c_course.2.1 c_course.2.2.1 c_course.2.2.2.1 c_course.2.2.2.2.1 c_course.2.2.2.2.2.1 c_course.2.2.2.2.2.2.1 c_course.2.2.2.2.2.2.2.1 c_course.2.2.2.2.2.2.2.2.1 c_course.2.2.2.2.2.2.2.2.2.1 c_course.2.2.2.2.2.2.2.2.2.2.1 c_course.2.2.2.2.2.2.2.2.2.2.2)) K (ctX7_isMonth l D cyI cyJ cyS i1 r_1 hc) (gdS mcL mw_13_9 mw_11_2 mw_1_2 mw_11_3) rfl ⟨rfl, rfl⟩ hzX7_isMonth ⟨Nat.le_of_ble_eq_true rfl, Nat.le_of_ble_eq_true rfl, Nat.le_of_ble_eq_true rfl, Nat.le_of_ble_eq_true rfl⟩ [] (by decide) rfl [none, none, none, none, none, none, none, none, none, none, none, none, none, none, none, none, none, none, none, none, none] (by decide) rfl rfl rfl rfl (Nat.le_of_ble_eq_true rfl) dX7_at_1 rfl rfl ?_
  refine j_if_eq (tgt := 24) K dX7_at_4 (by decide) rfl h (fun h => ?_) (fun h => ?_)
  · refine j_ldc (v := (-2147483648 : Int32)) K (List.mem_cons_of_mem _ mw_13_8) dX7_at_24 rfl ?_
    obtain ⟨e1, g1⟩ := Prod.mk.inj (Option.some.inj h)
    subst e1
    obtain ⟨e2, g2⟩ := Prod.mk.inj g1
    subst e2
    subst g2
    exact j_iret K dX7_at_26
  · refine j_aload_n K 0 rfl dX7_at_7 rfl ?_
    refine j_iload_n K 2 rfl dX7_at_8 rfl ?_
    obtain ⟨r_2, hc, h⟩ := bd1_some h
    refine j_callV (rest := []) (st1 := [.int r_2]) (ws' := (uX7_at cyI cyJ cyS a0 c_room c_finding c_courseKnown c_settledByKnown c_told.1 c_told.2.1 c_told.2.2.1 c_told.2.2.2 c_events.1 c_events.2.1 c_events.2.2.1 c_events.2.2.2 c_course.1 c_course.2.1 c_course.2.2.1 c_course.2.2.2.1 c_course.2.2.2.2.1 c_course.2.2.2.2.2.1 c_course.2.2.2.2.2.2.1 c_course.2.2.2.2.2.2.2.1 c_course.2.2.2.2.2.2.2.2.1 c_course.2.2.2.2.2.2.2.2.2.1 c_course.2.2.2.2.2.2.2.2.2.2.1 c_course.2.2.2.2.2.2.2.2.2.2.2)) (T := TX7) (N := 15) (ci := 7) K (ctX7_isTenant l D cyI cyJ cyS a0 i2 c_room c_finding c_courseKnown c_settledByKnown c_told.1 r_2 hc) (gdV mcL mw_9_19 mw_9_20 mw_9_21 mw_1_2 mw_9_22) rfl ⟨rfl, rfl⟩ hyX7_isTenant ⟨Nat.le_of_ble_eq_true rfl, Nat.le_of_ble_eq_true rfl, Nat.le_of_ble_eq_true rfl, Nat.le_of_ble_eq_true rfl⟩ [0, 1] (by decide) rfl [some 0, some 1, none, none, none, none, none, none, none, none, none, none, none, none, none, none, none, none, none, none, none] (by decide) rfl rfl 0 rfl rfl rfl rfl (Nat.le_of_ble_eq_true rfl) dX7_at_9 rfl rfl ?_
    refine j_if_eq (tgt := 24) K dX7_at_12 (by decide) rfl h (fun h => ?_) (fun h => ?_)
    · refine j_ldc (v := (-2147483648 : Int32)) K (List.mem_cons_of_mem _ mw_13_8) dX7_at_24 rfl ?_
      obtain ⟨e1, g1⟩ := Prod.mk.inj (Option.some.inj h)
      subst e1
      obtain ⟨e2, g2⟩ := Prod.mk.inj g1
      subst e2
      subst g2
      exact j_iret K dX7_at_26
    · refine j_iload_n K 3 rfl dX7_at_15 rfl ?_
      refine j_iconst (v := (0 : Int32)) K (by decide) dX7_at_16 rfl ?_
      refine j_iconst (v := (3 : Int32)) K (by decide) dX7_at_17 rfl ?_
      obtain ⟨r_3, hc, h⟩ := bd1_some h
      refine j_callS (rest := []) (st1 := [.int r_3]) (ws' := (uX7_at cyI cyJ cyS a0 c_room c_finding c_courseKnown c_settledByKnown c_told.1 c_told.2.1 c_told.2.2.1 c_told.2.2.2 c_events.1 c_events.2.1 c_events.2.2.1 c_events.2.2.2 c_course.1 c_course.2.1 c_course.2.2.1 c_course.2.2.2.1 c_course.2.2.2.2.1 c_course.2.2.2.2.2.1 c_course.2.2.2.2.2.2.1 c_course.2.2.2.2.2.2.2.1 c_course.2.2.2.2.2.2.2.2.1 c_course.2.2.2.2.2.2.2.2.2.1 c_course.2.2.2.2.2.2.2.2.2.2.1 c_course.2.2.2.2.2.2.2.2.2.2.2)) K (ctX7_within l D cyI cyJ cyS i3 (0 : Int32) (3 : Int32) r_3 hc) (gdS mcL mw_6_12 mw_6_13 mw_1_2 mw_6_14) rfl ⟨rfl, rfl⟩ hzX7_within ⟨Nat.le_of_ble_eq_true rfl, Nat.le_of_ble_eq_true rfl, Nat.le_of_ble_eq_true rfl, Nat.le_of_ble_eq_true rfl⟩ [] (by decide) rfl [none, none, none, none, none, none, none, none, none, none, none, none, none, none, none, none, none, none, none, none, none] (by decide) rfl rfl rfl rfl (Nat.le_of_ble_eq_true rfl) dX7_at_18 rfl rfl ?_
      refine j_if_ne (tgt := 27) K dX7_at_21 (by decide) rfl h (fun h => ?_) (fun h => ?_)
      · refine j_aload_n K 0 rfl dX7_at_27 rfl ?_
        obtain ⟨c_courseKnown_4, c_course_5, hc, h⟩ := bd2_some h
        refine j_callV (rest := []) (st1 := [.ref (a0 19)]) (ws' := (uX7_at cyI cyJ cyS a0 c_room c_finding c_courseKnown_4 c_settledByKnown c_told.1 c_told.2.1 c_told.2.2.1 c_told.2.2.2 c_events.1 c_events.2.1 c_events.2.2.1 c_events.2.2.2 c_course_5.1 c_course_5.2.1 c_course_5.2.2.1 c_course_5.2.2.2.1 c_course_5.2.2.2.2.1 c_course_5.2.2.2.2.2.1 c_course_5.2.2.2.2.2.2.1 c_course_5.2.2.2.2.2.2.2.1 c_course_5.2.2.2.2.2.2.2.2.1 c_course_5.2.2.2.2.2.2.2.2.2.1 c_course_5.2.2.2.2.2.2.2.2.2.2.1 c_course_5.2.2.2.2.2.2.2.2.2.2.2)) (T := TX7) (N := 15) (ci := 7) K (ctX7_courseTold l D cyI cyJ cyS a0 c_finding c_settledByKnown c_room c_told c_events c_courseKnown c_course c_courseKnown_4 c_course_5 hc) (gdV mcL mw_13_10 mw_13_11 mw_13_12 mw_1_2 mw_13_13) rfl ⟨rfl, rfl⟩ hyX7_courseTold ⟨Nat.le_of_ble_eq_true rfl, Nat.le_of_ble_eq_true rfl, Nat.le_of_ble_eq_true rfl, Nat.le_of_ble_eq_true rfl⟩ [0, 1, 2, 3, 4, 5, 6, 7, 8, 9, 10, 11, 12, 13, 14, 15, 16, 17, 18, 19, 20] (by decide) rfl [some 0, some 1, some 2, some 3, some 4, some 5, some 6, some 7, some 8, some 9, some 10, some 11, some 12, some 13, some 14, some 15, some 16, some 17, some 18, some 19, some 20] (by decide) rfl rfl 0 rfl rfl rfl rfl (Nat.le_of_ble_eq_true rfl) dX7_at_28 rfl rfl ?_
        refine j_astore (lv' := [(4, .ref (a0 19)), (0, .ref (a0 0)), (1, .int i1), (2, .int i2), (3, .int i3)]) K (by decide) rfl dX7_at_31 rfl ?_
        refine j_iload_n K 4 rfl dX7_at_33 rfl ?_
        by_cases c0 : i3 = (0 : Int32)
        · rw [if_pos c0] at h
          refine j_tableIn (off := 26) (tgt := 60) K (by rw [c0]; decide) (by rw [c0]; decide) (by rw [c0]; first | done | rfl) dX7_at_34 (by decide) ?_
          refine j_aload K 0 rfl dX7_at_60 rfl ?_
          refine j_iload_n K 2 rfl dX7_at_62 rfl ?_
          refine j_iload_n K 3 rfl dX7_at_63 rfl ?_
          obtain ⟨r_6, hc, h⟩ := bd1_some h
          refine j_callV (rest := []) (st1 := [.int r_6]) (ws' := (uX7_at cyI cyJ cyS a0 c_room c_finding c_courseKnown_4 c_settledByKnown c_told.1 c_told.2.1 c_told.2.2.1 c_told.2.2.2 c_events.1 c_events.2.1 c_events.2.2.1 c_events.2.2.2 c_course_5.1 c_course_5.2.1 c_course_5.2.2.1 c_course_5.2.2.2.1 c_course_5.2.2.2.2.1 c_course_5.2.2.2.2.2.1 c_course_5.2.2.2.2.2.2.1 c_course_5.2.2.2.2.2.2.2.1 c_course_5.2.2.2.2.2.2.2.2.1 c_course_5.2.2.2.2.2.2.2.2.2.1 c_course_5.2.2.2.2.2.2.2.2.2.2.1 c_course_5.2.2.2.2.2.2.2.2.2.2.2)) (T := TX1) (N := 12) (ci := 1) K (ctX1_floorAt l D cyI cyJ cyS (fun k => a0 (k + 19)) i1 i2 c_course_5.1 c_course_5.2.2.2.2.1 r_6 hc) (gdV mcL mw_16_10 mw_16_11 mw_16_12 mw_2_7 mw_16_13) rfl ⟨rfl, rfl⟩ hyX1_floorAt ⟨Nat.le_of_ble_eq_true rfl, Nat.le_of_ble_eq_true rfl, Nat.le_of_ble_eq_true rfl, Nat.le_of_ble_eq_true rfl⟩ [9, 13] (by decide) rfl [none, none, none, none, none, none, none, none, none, some 0, none, none, none, some 1, none, none, none, none, none, none, none] (by decide) rfl rfl 9 rfl rfl rfl rfl (Nat.le_of_ble_eq_true rfl) dX7_at_64 rfl rfl ?_
          obtain ⟨e1, g1⟩ := Prod.mk.inj (Option.some.inj h)
          subst e1
          obtain ⟨e2, g2⟩ := Prod.mk.inj g1
          subst e2
          subst g2
          exact j_iret K dX7_at_67
        · rw [if_neg c0] at h
          by_cases c1 : i3 = (1 : Int32)
          · rw [if_pos c1] at h
            refine j_tableIn (off := 34) (tgt := 68) K (by rw [c1]; decide) (by rw [c1]; decide) (by rw [c1]; first | done | rfl) dX7_at_34 (by decide) ?_
            refine j_aload K 0 rfl dX7_at_68 rfl ?_
            refine j_iload_n K 2 rfl dX7_at_70 rfl ?_
            refine j_iload_n K 3 rfl dX7_at_71 rfl ?_
            obtain ⟨r_7, hc, h⟩ := bd1_some h
            refine j_callV (rest := []) (st1 := [.int r_7]) (ws' := (uX7_at cyI cyJ cyS a0 c_room c_finding c_courseKnown_4 c_settledByKnown c_told.1 c_told.2.1 c_told.2.2.1 c_told.2.2.2 c_events.1 c_events.2.1 c_events.2.2.1 c_events.2.2.2 c_course_5.1 c_course_5.2.1 c_course_5.2.2.1 c_course_5.2.2.2.1 c_course_5.2.2.2.2.1 c_course_5.2.2.2.2.2.1 c_course_5.2.2.2.2.2.2.1 c_course_5.2.2.2.2.2.2.2.1 c_course_5.2.2.2.2.2.2.2.2.1 c_course_5.2.2.2.2.2.2.2.2.2.1 c_course_5.2.2.2.2.2.2.2.2.2.2.1 c_course_5.2.2.2.2.2.2.2.2.2.2.2)) (T := TX1) (N := 12) (ci := 1) K (ctX1_leftAt l D cyI cyJ cyS (fun k => a0 (k + 19)) i1 i2 c_course_5.1 c_course_5.2.2.2.2.2.1 r_7 hc) (gdV mcL mw_16_14 mw_16_15 mw_16_16 mw_2_7 mw_16_17) rfl ⟨rfl, rfl⟩ hyX1_leftAt ⟨Nat.le_of_ble_eq_true rfl, Nat.le_of_ble_eq_true rfl, Nat.le_of_ble_eq_true rfl, Nat.le_of_ble_eq_true rfl⟩ [9, 14] (by decide) rfl [none, none, none, none, none, none, none, none, none, some 0, none, none, none, none, some 1, none, none, none, none, none, none] (by decide) rfl rfl 9 rfl rfl rfl rfl (Nat.le_of_ble_eq_true rfl) dX7_at_72 rfl rfl ?_
            obtain ⟨e1, g1⟩ := Prod.mk.inj (Option.some.inj h)
            subst e1
            obtain ⟨e2, g2⟩ := Prod.mk.inj g1
            subst e2
            subst g2
            exact j_iret K dX7_at_75
          · rw [if_neg c1] at h
            by_cases c2 : i3 = (2 : Int32)
            · rw [if_pos c2] at h
              refine j_tableIn (off := 42) (tgt := 76) K (by rw [c2]; decide) (by rw [c2]; decide) (by rw [c2]; first | done | rfl) dX7_at_34 (by decide) ?_
              refine j_aload K 0 rfl dX7_at_76 rfl ?_
              refine j_iload_n K 2 rfl dX7_at_78 rfl ?_
              refine j_iload_n K 3 rfl dX7_at_79 rfl ?_
              obtain ⟨r_8, hc, h⟩ := bd1_some h
              refine j_callV (rest := []) (st1 := [.int r_8]) (ws' := (uX7_at cyI cyJ cyS a0 c_room c_finding c_courseKnown_4 c_settledByKnown c_told.1 c_told.2.1 c_told.2.2.1 c_told.2.2.2 c_events.1 c_events.2.1 c_events.2.2.1 c_events.2.2.2 c_course_5.1 c_course_5.2.1 c_course_5.2.2.1 c_course_5.2.2.2.1 c_course_5.2.2.2.2.1 c_course_5.2.2.2.2.2.1 c_course_5.2.2.2.2.2.2.1 c_course_5.2.2.2.2.2.2.2.1 c_course_5.2.2.2.2.2.2.2.2.1 c_course_5.2.2.2.2.2.2.2.2.2.1 c_course_5.2.2.2.2.2.2.2.2.2.2.1 c_course_5.2.2.2.2.2.2.2.2.2.2.2)) (T := TX1) (N := 12) (ci := 1) K (ctX1_owes l D cyI cyJ cyS (fun k => a0 (k + 19)) i1 i2 c_course_5.1 c_course_5.2.2.2.2.1 c_course_5.2.2.2.2.2.1 r_8 hc) (gdV mcL mw_16_18 mw_16_19 mw_16_20 mw_2_7 mw_16_21) rfl ⟨rfl, rfl⟩ hyX1_owes ⟨Nat.le_of_ble_eq_true rfl, Nat.le_of_ble_eq_true rfl, Nat.le_of_ble_eq_true rfl, Nat.le_of_ble_eq_true rfl⟩ [9, 13, 14] (by decide) rfl [none, none, none, none, none, none, none, none, none, some 0, none, none, none, some 1, some 2, none, none, none, none, none, none] (by decide) rfl rfl 9 rfl rfl rfl rfl (Nat.le_of_ble_eq_true rfl) dX7_at_80 rfl rfl ?_
              refine j_if_eq (tgt := 90) K dX7_at_83 (by decide) rfl h (fun h => ?_) (fun h => ?_)
              · refine j_iconst (v := (0 : Int32)) K (by decide) dX7_at_90 rfl ?_
                obtain ⟨e1, g1⟩ := Prod.mk.inj (Option.some.inj h)
                subst e1
                obtain ⟨e2, g2⟩ := Prod.mk.inj g1
                subst e2
                subst g2
                exact j_iret K dX7_at_91
              · refine j_iconst (v := (1 : Int32)) K (by decide) dX7_at_86 rfl ?_
                refine j_goto (pc' := 91) K dX7_at_87 (by decide) ?_
                obtain ⟨e1, g1⟩ := Prod.mk.inj (Option.some.inj h)
                subst e1
                obtain ⟨e2, g2⟩ := Prod.mk.inj g1
                subst e2
                subst g2
                exact j_iret K dX7_at_91
            · rw [if_neg c2] at h
              refine j_tableOut (tgt := 92) K (by have e0 := lv_neT (a := 0) c0 (by decide); have e1 := lv_neT (a := 1) c1 (by decide); have e2 := lv_neT (a := 2) c2 (by decide); omega) dX7_at_34 (by decide) ?_
              refine j_aload K 0 rfl dX7_at_92 rfl ?_
              refine j_iload_n K 2 rfl dX7_at_94 rfl ?_
              refine j_iload_n K 3 rfl dX7_at_95 rfl ?_
              obtain ⟨r_9, hc, h⟩ := bd1_some h
              refine j_callV (rest := []) (st1 := [.int r_9]) (ws' := (uX7_at cyI cyJ cyS a0 c_room c_finding c_courseKnown_4 c_settledByKnown c_told.1 c_told.2.1 c_told.2.2.1 c_told.2.2.2 c_events.1 c_events.2.1 c_events.2.2.1 c_events.2.2.2 c_course_5.1 c_course_5.2.1 c_course_5.2.2.1 c_course_5.2.2.2.1 c_course_5.2.2.2.2.1 c_course_5.2.2.2.2.2.1 c_course_5.2.2.2.2.2.2.1 c_course_5.2.2.2.2.2.2.2.1 c_course_5.2.2.2.2.2.2.2.2.1 c_course_5.2.2.2.2.2.2.2.2.2.1 c_course_5.2.2.2.2.2.2.2.2.2.2.1 c_course_5.2.2.2.2.2.2.2.2.2.2.2)) (T := TX1) (N := 12) (ci := 1) K (ctX1_fellIn l D cyI cyJ cyS (fun k => a0 (k + 19)) i1 i2 c_course_5.1 c_course_5.2.2.2.2.2.2.1 r_9 hc) (gdV mcL mw_17_3 mw_17_4 mw_17_5 mw_2_7 mw_17_6) rfl ⟨rfl, rfl⟩ hyX1_fellIn ⟨Nat.le_of_ble_eq_true rfl, Nat.le_of_ble_eq_true rfl, Nat.le_of_ble_eq_true rfl, Nat.le_of_ble_eq_true rfl⟩ [9, 15] (by decide) rfl [none, none, none, none, none, none, none, none, none, some 0, none, none, none, none, none, some 1, none, none, none, none, none] (by decide) rfl rfl 9 rfl rfl rfl rfl (Nat.le_of_ble_eq_true rfl) dX7_at_96 rfl rfl ?_
              refine j_if_eq (tgt := 106) K dX7_at_99 (by decide) rfl h (fun h => ?_) (fun h => ?_)
              · refine j_iconst (v := (0 : Int32)) K (by decide) dX7_at_106 rfl ?_
                obtain ⟨e1, g1⟩ := Prod.mk.inj (Option.some.inj h)
                subst e1
                obtain ⟨e2, g2⟩ := Prod.mk.inj g1
                subst e2
                subst g2
                exact j_iret K dX7_at_107
              · refine j_iconst (v := (1 : Int32)) K (by decide) dX7_at_102 rfl ?_
                refine j_goto (pc' := 107) K dX7_at_103 (by decide) ?_
                obtain ⟨e1, g1⟩ := Prod.mk.inj (Option.some.inj h)
                subst e1
                obtain ⟨e2, g2⟩ := Prod.mk.inj g1
                subst e2
                subst g2
                exact j_iret K dX7_at_107
      · refine j_ldc (v := (-2147483648 : Int32)) K (List.mem_cons_of_mem _ mw_13_8) dX7_at_24 rfl ?_
        obtain ⟨e1, g1⟩ := Prod.mk.inj (Option.some.inj h)
        subst e1
        obtain ⟨e2, g2⟩ := Prod.mk.inj g1
        subst e2
        subst g2
        exact j_iret K dX7_at_26
end GEN
