section GEN
variable {p : Program} {l : Launch} {e : Env} {s : State} {m : MethodId} {args : Array Value} {below : List Frame} {meth : Method} {c : Code} {A : Nat → Prop} {D : va_G} {cyI cyJ cyS : ClassId}
abbrev uX7_was (cyI cyJ cyS : ClassId) (a0 : Nat → Nat) (c_room : Int32) (c_finding : Int32) (c_courseKnown : Int32) (c_settledByKnown : Int32) (c_told_size : Int32) (c_told_sort : Nat → Int32) (c_told_paid : Nat → Int32) (c_told_wage : Nat → Int32) (c_others_size : Int32) (c_others_sort : Nat → Int32) (c_others_paid : Nat → Int32) (c_others_wage : Nat → Int32) (c_events_size : Int32) (c_events_kind : Nat → Int32) (c_events_month : Nat → Int32) (c_events_number : Nat → Int32) (c_seen_size : Int32) (c_seen_month : Nat → Int32) (c_seen_tenant : Nat → Int32) (c_seen_floor : Nat → Int32) (c_trial_size : Int32) (c_trial_settled : Nat → Int32) (c_trial_falls : Nat → Int32) (c_trial_passed : Nat → Int32) (c_trial_floors : Nat → Int32) (c_trial_lefts : Nat → Int32) (c_trial_fallers : Nat → Int32) (c_trial_floor : Nat → Int32) (c_trial_before : Nat → Int32) (c_trial_left : Nat → Int32) (c_trial_order : Nat → Int32) (c_trial_taken : Nat → Int32) (c_views : Nat → Int32) : va_W := [((a0 0), .inr (7, [.ref (a0 1), .ref (a0 3), .ref (a0 7), .ref (a0 11), .ref (a0 15), .ref (a0 19), .ref (a0 31), .ref (a0 43), .ref (a0 44), .ref (a0 53), .ref (a0 54), .int c_room, .int c_finding, .int c_courseKnown, .int c_settledByKnown])), ((a0 3), .inr (5, [.ref (a0 4), .ref (a0 5), .ref (a0 6), .int c_told_size])), ((a0 4), .inl (cyI, 8, .inl c_told_sort)), ((a0 5), .inl (cyI, 8, .inl c_told_paid)), ((a0 6), .inl (cyI, 8, .inl c_told_wage)), ((a0 7), .inr (5, [.ref (a0 8), .ref (a0 9), .ref (a0 10), .int c_others_size])), ((a0 8), .inl (cyI, 8, .inl c_others_sort)), ((a0 9), .inl (cyI, 8, .inl c_others_paid)), ((a0 10), .inl (cyI, 8, .inl c_others_wage)), ((a0 11), .inr (2, [.ref (a0 12), .ref (a0 13), .ref (a0 14), .int c_events_size])), ((a0 12), .inl (cyI, 8, .inl c_events_kind)), ((a0 13), .inl (cyI, 8, .inl c_events_month)), ((a0 14), .inl (cyI, 8, .inl c_events_number)), ((a0 15), .inr (3, [.ref (a0 16), .ref (a0 17), .ref (a0 18), .int c_seen_size])), ((a0 16), .inl (cyI, 8, .inl c_seen_month)), ((a0 17), .inl (cyI, 8, .inl c_seen_tenant)), ((a0 18), .inl (cyI, 8, .inl c_seen_floor)), ((a0 31), .inr (1, [.int c_trial_size, .ref (a0 32), .ref (a0 33), .ref (a0 34), .ref (a0 35), .ref (a0 36), .ref (a0 37), .ref (a0 38), .ref (a0 39), .ref (a0 40), .ref (a0 41), .ref (a0 42)])), ((a0 32), .inl (cyI, 8, .inl c_trial_settled)), ((a0 33), .inl (cyI, 8, .inl c_trial_falls)), ((a0 34), .inl (cyI, 8, .inl c_trial_passed)), ((a0 35), .inl (cyI, 192, .inl c_trial_floors)), ((a0 36), .inl (cyI, 192, .inl c_trial_lefts)), ((a0 37), .inl (cyI, 24, .inl c_trial_fallers)), ((a0 38), .inl (cyI, 8, .inl c_trial_floor)), ((a0 39), .inl (cyI, 8, .inl c_trial_before)), ((a0 40), .inl (cyI, 8, .inl c_trial_left)), ((a0 41), .inl (cyI, 8, .inl c_trial_order)), ((a0 42), .inl (cyI, 13, .inl c_trial_taken)), ((a0 54), .inl (cyI, 240, .inl c_views))]
abbrev rmX7_was : Room := { frames := 5, cells := 0, slots := 0, locals := 120 }
abbrev wdX7_was : List Cond := .code yX7_was cX7_was 3 (some .int) :: wsL_law
theorem hyX7_was : yX7_was.cls = RX7 ∧ yX7_was.cls ≠ "java/lang/invoke/MethodHandle" ∧ yX7_was.cls ≠ "java/lang/invoke/VarHandle" ∧ (parseMethodDescriptor yX7_was.desc).map (fun d => d.parameters.length) = some 2 := by decide +kernel
set_option maxRecDepth 100000 in
set_option maxHeartbeats 4000000 in
theorem ctX7_was (l : Launch) (D : va_G) (cyI cyJ cyS : ClassId) (a0 : Nat → Nat) (i1 : Int32) (i2 : Int32) (c_finding : Int32) (c_courseKnown : Int32) (c_settledByKnown : Int32) (c_room : Int32) (c_told : jT3) (c_events : jT3) (c_seen : jT3) (c_others : jT3) (c_trial : jT11) (c_views : Nat → Int32) (o_r : Int32) (o_others : jT3) (o_trial : jT11) (o_views : Nat → Int32) (h : fX7_was i1 i2 c_room c_told c_events c_seen c_others c_trial c_views = some (o_r, o_others, o_trial, o_views)) : jC l yX7_was wdX7_was rmX7_was D vwCl (tyz cyI cyJ cyS) [.ref (a0 0), .int i1, .int i2] (uX7_was cyI cyJ cyS a0 c_room c_finding c_courseKnown c_settledByKnown c_told.1 c_told.2.1 c_told.2.2.1 c_told.2.2.2 c_others.1 c_others.2.1 c_others.2.2.1 c_others.2.2.2 c_events.1 c_events.2.1 c_events.2.2.1 c_events.2.2.2 c_seen.1 c_seen.2.1 c_seen.2.2.1 c_seen.2.2.2 c_trial.1 c_trial.2.1 c_trial.2.2.1 c_trial.2.2.2.1 c_trial.2.2.2.2.1 c_trial.2.2.2.2.2.1 c_trial.2.2.2.2.2.2.1 c_trial.2.2.2.2.2.2.2.1 c_trial.2.2.2.2.2.2.2.2.1 c_trial.2.2.2.2.2.2.2.2.2.1 c_trial.2.2.2.2.2.2.2.2.2.2.1 c_trial.2.2.2.2.2.2.2.2.2.2.2 c_views) (some (.int o_r)) (uX7_was cyI cyJ cyS a0 c_room c_finding c_courseKnown c_settledByKnown c_told.1 c_told.2.1 c_told.2.2.1 c_told.2.2.2 o_others.1 o_others.2.1 o_others.2.2.1 o_others.2.2.2 c_events.1 c_events.2.1 c_events.2.2.1 c_events.2.2.2 c_seen.1 c_seen.2.1 c_seen.2.2.1 c_seen.2.2.2 o_trial.1 o_trial.2.1 o_trial.2.2.1 o_trial.2.2.2.1 o_trial.2.2.2.2.1 o_trial.2.2.2.2.2.1 o_trial.2.2.2.2.2.2.1 o_trial.2.2.2.2.2.2.2.1 o_trial.2.2.2.2.2.2.2.2.1 o_trial.2.2.2.2.2.2.2.2.2.1 o_trial.2.2.2.2.2.2.2.2.2.2.1 o_trial.2.2.2.2.2.2.2.2.2.2.2 o_views) := by
  refine jC_of (cc := cX7_was) (nL := 3) (ret := (some .int)) (own := RX7) (lv := [(0, .ref (a0 0)), (1, .int i1), (2, .int i2)]) (by decide) rfl rfl (Nat.le_of_ble_eq_true rfl) rfl ?_
  intro p e s m args below meth c A K
  unfold fX7_was at h
  refine j_aload_n K 0 rfl dX7_was_0 rfl ?_
  refine j_iload_n K 1 rfl dX7_was_1 rfl ?_
  obtain ⟨r_1, hc, h⟩ := bd1_some h
  refine j_callV (rest := []) (st1 := [.int r_1]) (ws' := (uX7_was cyI cyJ cyS a0 c_room c_finding c_courseKnown c_settledByKnown c_told.1 c_told.2.1 c_told.2.2.1 c_told.2.2.2 c_others.1 c_others.2.1 c_others.2.2.1 c_others.2.2.2 c_events.1 c_events.2.1 c_events.2.2.1 c_events.2.2.2 c_seen.1 c_seen.2.1 c_seen.2.2.1 c_seen.2.2.2 c_trial.1 c_trial.2.1 c_trial.2.2.1 c_trial.2.2.2.1 c_trial.2.2.2.2.1 c_trial.2.2.2.2.2.1 c_trial.2.2.2.2.2.2.1 c_trial.2.2.2.2.2.2.2.1 c_trial.2.2.2.2.2.2.2.2.1 c_trial.2.2.2.2.2.2.2.2.2.1 c_trial.2.2.2.2.2.2.2.2.2.2.1 c_trial.2.2.2.2.2.2.2.2.2.2.2 c_views)) (T := TX7) (N := 15) (ci := 7) K (ctX7_isTenant l D cyI cyJ cyS a0 i1 c_room c_finding c_courseKnown c_settledByKnown c_told.1 r_1 hc) (gdV mcL mw_9_19 mw_9_20 mw_9_21 mw_1_2 mw_9_22) rfl ⟨rfl, rfl⟩ hyX7_isTenant ⟨Nat.le_of_ble_eq_true rfl, Nat.le_of_ble_eq_true rfl, Nat.le_of_ble_eq_true rfl, Nat.le_of_ble_eq_true rfl⟩ [0, 1] (by decide) rfl [some 0, some 1, none, none, none, none, none, none, none, none, none, none, none, none, none, none, none, none, none, none, none, none, none, none, none, none, none, none, none, none] (by decide) rfl rfl 0 rfl rfl rfl rfl (Nat.le_of_ble_eq_true rfl) dX7_was_2 rfl rfl ?_
  refine j_if_eq (tgt := 17) K dX7_was_5 (by decide) rfl h (fun h => ?_) (fun h => ?_)
  · refine j_bipush (v := (-2 : Int32)) K (by decide) dX7_was_17 rfl ?_
    obtain ⟨e1, g1⟩ := Prod.mk.inj (Option.some.inj h)
    subst e1
    obtain ⟨e2, g2⟩ := Prod.mk.inj g1
    subst e2
    obtain ⟨e3, g3⟩ := Prod.mk.inj g2
    subst e3
    subst g3
    exact j_iret K dX7_was_19
  · refine j_iload_n K 2 rfl dX7_was_8 rfl ?_
    refine j_iconst (v := (0 : Int32)) K (by decide) dX7_was_9 rfl ?_
    refine j_iconst (v := (1 : Int32)) K (by decide) dX7_was_10 rfl ?_
    obtain ⟨r_2, hc, h⟩ := bd1_some h
    refine j_callS (rest := []) (st1 := [.int r_2]) (ws' := (uX7_was cyI cyJ cyS a0 c_room c_finding c_courseKnown c_settledByKnown c_told.1 c_told.2.1 c_told.2.2.1 c_told.2.2.2 c_others.1 c_others.2.1 c_others.2.2.1 c_others.2.2.2 c_events.1 c_events.2.1 c_events.2.2.1 c_events.2.2.2 c_seen.1 c_seen.2.1 c_seen.2.2.1 c_seen.2.2.2 c_trial.1 c_trial.2.1 c_trial.2.2.1 c_trial.2.2.2.1 c_trial.2.2.2.2.1 c_trial.2.2.2.2.2.1 c_trial.2.2.2.2.2.2.1 c_trial.2.2.2.2.2.2.2.1 c_trial.2.2.2.2.2.2.2.2.1 c_trial.2.2.2.2.2.2.2.2.2.1 c_trial.2.2.2.2.2.2.2.2.2.2.1 c_trial.2.2.2.2.2.2.2.2.2.2.2 c_views)) K (ctX7_within l D cyI cyJ cyS i2 (0 : Int32) (1 : Int32) r_2 hc) (gdS mcL mw_6_12 mw_6_13 mw_1_2 mw_6_14) rfl ⟨rfl, rfl⟩ hzX7_within ⟨Nat.le_of_ble_eq_true rfl, Nat.le_of_ble_eq_true rfl, Nat.le_of_ble_eq_true rfl, Nat.le_of_ble_eq_true rfl⟩ [] (by decide) rfl [none, none, none, none, none, none, none, none, none, none, none, none, none, none, none, none, none, none, none, none, none, none, none, none, none, none, none, none, none, none] (by decide) rfl rfl rfl rfl (Nat.le_of_ble_eq_true rfl) dX7_was_11 rfl rfl ?_
    refine j_if_ne (tgt := 20) K dX7_was_14 (by decide) rfl h (fun h => ?_) (fun h => ?_)
    · refine j_iload_n K 2 rfl dX7_was_20 rfl ?_
      refine j_if_ne (tgt := 32) K dX7_was_21 (by decide) rfl h (fun h => ?_) (fun h => ?_)
      · refine j_aload_n K 0 rfl dX7_was_32 rfl ?_
        refine j_iload_n K 1 rfl dX7_was_33 rfl ?_
        obtain ⟨r_3, c_others_4, c_trial_5, hc, h⟩ := bd3_some h
        refine j_callV (rest := []) (st1 := [.int r_3]) (ws' := (uX7_was cyI cyJ cyS a0 c_room c_finding c_courseKnown c_settledByKnown c_told.1 c_told.2.1 c_told.2.2.1 c_told.2.2.2 c_others_4.1 c_others_4.2.1 c_others_4.2.2.1 c_others_4.2.2.2 c_events.1 c_events.2.1 c_events.2.2.1 c_events.2.2.2 c_seen.1 c_seen.2.1 c_seen.2.2.1 c_seen.2.2.2 c_trial_5.1 c_trial_5.2.1 c_trial_5.2.2.1 c_trial_5.2.2.2.1 c_trial_5.2.2.2.2.1 c_trial_5.2.2.2.2.2.1 c_trial_5.2.2.2.2.2.2.1 c_trial_5.2.2.2.2.2.2.2.1 c_trial_5.2.2.2.2.2.2.2.2.1 c_trial_5.2.2.2.2.2.2.2.2.2.1 c_trial_5.2.2.2.2.2.2.2.2.2.2.1 c_trial_5.2.2.2.2.2.2.2.2.2.2.2 c_views)) (T := TX7) (N := 15) (ci := 7) K (ctX7_seenSorts l D cyI cyJ cyS a0 i1 c_finding c_courseKnown c_settledByKnown c_room c_told c_events c_seen c_others c_trial r_3 c_others_4 c_trial_5 hc) (gdV mcL mw_32_1 mw_32_2 mw_32_3 mw_1_2 mw_32_4) rfl ⟨rfl, rfl⟩ hyX7_seenSorts ⟨Nat.le_of_ble_eq_true rfl, Nat.le_of_ble_eq_true rfl, Nat.le_of_ble_eq_true rfl, Nat.le_of_ble_eq_true rfl⟩ [0, 1, 2, 3, 4, 5, 6, 7, 8, 9, 10, 11, 12, 13, 14, 15, 16, 17, 18, 19, 20, 21, 22, 23, 24, 25, 26, 27, 28] (by decide) rfl [some 0, some 1, some 2, some 3, some 4, some 5, some 6, some 7, some 8, some 9, some 10, some 11, some 12, some 13, some 14, some 15, some 16, some 17, some 18, some 19, some 20, some 21, some 22, some 23, some 24, some 25, some 26, some 27, some 28, none] (by decide) rfl rfl 0 rfl rfl rfl rfl (Nat.le_of_ble_eq_true rfl) dX7_was_34 rfl rfl ?_
        obtain ⟨e1, g1⟩ := Prod.mk.inj (Option.some.inj h)
        subst e1
        obtain ⟨e2, g2⟩ := Prod.mk.inj g1
        subst e2
        obtain ⟨e3, g3⟩ := Prod.mk.inj g2
        subst e3
        subst g3
        exact j_iret K dX7_was_37
      · refine j_aload_n K 0 rfl dX7_was_24 rfl ?_
        refine j_iload_n K 1 rfl dX7_was_25 rfl ?_
        obtain ⟨r_6, c_others_7, c_trial_8, c_views_9, hc, h⟩ := bd4_some h
        refine j_callV (rest := []) (st1 := [.int r_6]) (ws' := (uX7_was cyI cyJ cyS a0 c_room c_finding c_courseKnown c_settledByKnown c_told.1 c_told.2.1 c_told.2.2.1 c_told.2.2.2 c_others_7.1 c_others_7.2.1 c_others_7.2.2.1 c_others_7.2.2.2 c_events.1 c_events.2.1 c_events.2.2.1 c_events.2.2.2 c_seen.1 c_seen.2.1 c_seen.2.2.1 c_seen.2.2.2 c_trial_8.1 c_trial_8.2.1 c_trial_8.2.2.1 c_trial_8.2.2.2.1 c_trial_8.2.2.2.2.1 c_trial_8.2.2.2.2.2.1 c_trial_8.2.2.2.2.2.2.1 c_trial_8.2.2.2.2.2.2.2.1 c_trial_8.2.2.2.2.2.2.2.2.1 c_trial_8.2.2.2.2.2.2.2.2.2.1 c_trial_8.2.2.2.2.2.2.2.2.2.2.1 c_trial_8.2.2.2.2.2.2.2.2.2.2.2 c_views_9)) (T := TX7) (N := 15) (ci := 7) K (ctX7_seenWages l D cyI cyJ cyS a0 i1 c_finding c_courseKnown c_settledByKnown c_room c_told c_events c_seen c_others c_trial c_views r_6 c_others_7 c_trial_8 c_views_9 hc) (gdV mcL mw_31_17 mw_31_18 mw_31_19 mw_1_2 mw_31_20) rfl ⟨rfl, rfl⟩ hyX7_seenWages ⟨Nat.le_of_ble_eq_true rfl, Nat.le_of_ble_eq_true rfl, Nat.le_of_ble_eq_true rfl, Nat.le_of_ble_eq_true rfl⟩ [0, 1, 2, 3, 4, 5, 6, 7, 8, 9, 10, 11, 12, 13, 14, 15, 16, 17, 18, 19, 20, 21, 22, 23, 24, 25, 26, 27, 28, 29] (by decide) rfl [some 0, some 1, some 2, some 3, some 4, some 5, some 6, some 7, some 8, some 9, some 10, some 11, some 12, some 13, some 14, some 15, some 16, some 17, some 18, some 19, some 20, some 21, some 22, some 23, some 24, some 25, some 26, some 27, some 28, some 29] (by decide) rfl rfl 0 rfl rfl rfl rfl (Nat.le_of_ble_eq_true rfl) dX7_was_26 rfl rfl ?_
        refine j_goto (pc' := 37) K dX7_was_29 (by decide) ?_
        obtain ⟨e1, g1⟩ := Prod.mk.inj (Option.some.inj h)
        subst e1
        obtain ⟨e2, g2⟩ := Prod.mk.inj g1
        subst e2
        obtain ⟨e3, g3⟩ := Prod.mk.inj g2
        subst e3
        subst g3
        exact j_iret K dX7_was_37
    · refine j_bipush (v := (-2 : Int32)) K (by decide) dX7_was_17 rfl ?_
      obtain ⟨e1, g1⟩ := Prod.mk.inj (Option.some.inj h)
      subst e1
      obtain ⟨e2, g2⟩ := Prod.mk.inj g1
      subst e2
      obtain ⟨e3, g3⟩ := Prod.mk.inj g2
      subst e3
      subst g3
      exact j_iret K dX7_was_19
end GEN
