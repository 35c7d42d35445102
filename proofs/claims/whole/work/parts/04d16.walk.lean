section GEN
variable {p : Program} {l : Launch} {e : Env} {s : State} {m : MethodId} {args : Array Value} {below : List Frame} {meth : Method} {c : Code} {A : Nat → Prop} {D : va_G} {cyI cyJ cyS : ClassId}
abbrev uX7_spare (cyI cyJ cyS : ClassId) (a0 : Nat → Nat) (c_room : Int32) (c_finding : Int32) (c_courseKnown : Int32) (c_settledByKnown : Int32) (c_told_size : Int32) (c_told_sort : Nat → Int32) (c_told_paid : Nat → Int32) (c_told_wage : Nat → Int32) (c_events_size : Int32) (c_events_kind : Nat → Int32) (c_events_month : Nat → Int32) (c_events_number : Nat → Int32) (c_trial_size : Int32) (c_trial_settled : Nat → Int32) (c_trial_falls : Nat → Int32) (c_trial_passed : Nat → Int32) (c_trial_floors : Nat → Int32) (c_trial_lefts : Nat → Int32) (c_trial_fallers : Nat → Int32) (c_trial_floor : Nat → Int32) (c_trial_before : Nat → Int32) (c_trial_left : Nat → Int32) (c_trial_order : Nat → Int32) (c_trial_taken : Nat → Int32) (c_settledBy : Nat → Int32) : va_W := [((a0 0), .inr (7, [.ref (a0 1), .ref (a0 3), .ref (a0 7), .ref (a0 11), .ref (a0 15), .ref (a0 19), .ref (a0 31), .ref (a0 43), .ref (a0 44), .ref (a0 53), .ref (a0 54), .int c_room, .int c_finding, .int c_courseKnown, .int c_settledByKnown])), ((a0 3), .inr (5, [.ref (a0 4), .ref (a0 5), .ref (a0 6), .int c_told_size])), ((a0 4), .inl (cyI, 8, .inl c_told_sort)), ((a0 5), .inl (cyI, 8, .inl c_told_paid)), ((a0 6), .inl (cyI, 8, .inl c_told_wage)), ((a0 11), .inr (2, [.ref (a0 12), .ref (a0 13), .ref (a0 14), .int c_events_size])), ((a0 12), .inl (cyI, 8, .inl c_events_kind)), ((a0 13), .inl (cyI, 8, .inl c_events_month)), ((a0 14), .inl (cyI, 8, .inl c_events_number)), ((a0 31), .inr (1, [.int c_trial_size, .ref (a0 32), .ref (a0 33), .ref (a0 34), .ref (a0 35), .ref (a0 36), .ref (a0 37), .ref (a0 38), .ref (a0 39), .ref (a0 40), .ref (a0 41), .ref (a0 42)])), ((a0 32), .inl (cyI, 8, .inl c_trial_settled)), ((a0 33), .inl (cyI, 8, .inl c_trial_falls)), ((a0 34), .inl (cyI, 8, .inl c_trial_passed)), ((a0 35), .inl (cyI, 192, .inl c_trial_floors)), ((a0 36), .inl (cyI, 192, .inl c_trial_lefts)), ((a0 37), .inl (cyI, 24, .inl c_trial_fallers)), ((a0 38), .inl (cyI, 8, .inl c_trial_floor)), ((a0 39), .inl (cyI, 8, .inl c_trial_before)), ((a0 40), .inl (cyI, 8, .inl c_trial_left)), ((a0 41), .inl (cyI, 8, .inl c_trial_order)), ((a0 42), .inl (cyI, 13, .inl c_trial_taken)), ((a0 53), .inl (cyI, 256, .inl c_settledBy))]
abbrev rmX7_spare : Room := { frames := 6, cells := 0, slots := 0, locals := 141 }
abbrev wdX7_spare : List Cond := .code yX7_spare cX7_spare 3 (some .int) :: wsL_law
theorem hyX7_spare : yX7_spare.cls = RX7 ∧ yX7_spare.cls ≠ "java/lang/invoke/MethodHandle" ∧ yX7_spare.cls ≠ "java/lang/invoke/VarHandle" ∧ (parseMethodDescriptor yX7_spare.desc).map (fun d => d.parameters.length) = some 1 := by decide +kernel
set_option maxRecDepth 100000 in
set_option maxHeartbeats 4000000 in
theorem ctX7_spare (l : Launch) (D : va_G) (cyI cyJ cyS : ClassId) (a0 : Nat → Nat) (i1 : Int32) (c_finding : Int32) (c_courseKnown : Int32) (c_room : Int32) (c_told : jT3) (c_events : jT3) (c_settledByKnown : Int32) (c_trial : jT11) (c_settledBy : Nat → Int32) (o_r : Int32) (o_settledByKnown : Int32) (o_trial : jT11) (o_settledBy : Nat → Int32) (h : fX7_spare i1 c_room c_told c_events c_settledByKnown c_trial c_settledBy = some (o_r, o_settledByKnown, o_trial, o_settledBy)) : jC l yX7_spare wdX7_spare rmX7_spare D vwCl (tyz cyI cyJ cyS) [.ref (a0 0), .int i1] (uX7_spare cyI cyJ cyS a0 c_room c_finding c_courseKnown c_settledByKnown c_told.1 c_told.2.1 c_told.2.2.1 c_told.2.2.2 c_events.1 c_events.2.1 c_events.2.2.1 c_events.2.2.2 c_trial.1 c_trial.2.1 c_trial.2.2.1 c_trial.2.2.2.1 c_trial.2.2.2.2.1 c_trial.2.2.2.2.2.1 c_trial.2.2.2.2.2.2.1 c_trial.2.2.2.2.2.2.2.1 c_trial.2.2.2.2.2.2.2.2.1 c_trial.2.2.2.2.2.2.2.2.2.1 c_trial.2.2.2.2.2.2.2.2.2.2.1 c_trial.2.2.2.2.2.2.2.2.2.2.2 c_settledBy) (some (.int o_r)) (uX7_spare cyI cyJ cyS a0 c_room c_finding c_courseKnown o_settledByKnown c_told.1 c_told.2.1 c_told.2.2.1 c_told.2.2.2 c_events.1 c_events.2.1 c_events.2.2.1 c_events.2.2.2 o_trial.1 o_trial.2.1 o_trial.2.2.1 o_trial.2.2.2.1 o_trial.2.2.2.2.1 o_trial.2.2.2.2.2.1 o_trial.2.2.2.2.2.2.1 o_trial.2.2.2.2.2.2.2.1 o_trial.2.2.2.2.2.2.2.2.1 o_trial.2.2.2.2.2.2.2.2.2.1 o_trial.2.2.2.2.2.2.2.2.2.2.1 o_trial.2.2.2.2.2.2.2.2.2.2.2 o_settledBy) := by
  refine jC_of (cc := cX7_spare) (nL := 3) (ret := (some .int)) (own := RX7) (lv := [(0, .ref (a0 0)), (1, .int i1)]) (by decide) rfl rfl (Nat.le_of_ble_eq_true rfl) rfl ?_
  intro p e s m args below meth c A K
  unfold fX7_spare at h
  refine j_iload_n K 1 rfl dX7_spare_0 rfl ?_
  refine j_iconst (v := (-1 : Int32)) K (by decide) dX7_spare_1 rfl ?_
  refine j_iconst (v := (1 : Int32)) K (by decide) dX7_spare_2 rfl ?_
  obtain ⟨r_1, hc, h⟩ := bd1_some h
  refine j_callS (rest := []) (st1 := [.int r_1]) (ws' := (uX7_spare cyI cyJ cyS a0 c_room c_finding c_courseKnown c_settledByKnown c_told.1 c_told.2.1 c_told.2.2.1 c_told.2.2.2 c_events.1 c_events.2.1 c_events.2.2.1 c_events.2.2.2 c_trial.1 c_trial.2.1 c_trial.2.2.1 c_trial.2.2.2.1 c_trial.2.2.2.2.1 c_trial.2.2.2.2.2.1 c_trial.2.2.2.2.2.2.1 c_trial.2.2.2.2.2.2.2.1 c_trial.2.2.2.2.2.2.2.2.1 c_trial.2.2.2.2.2.2.2.2.2.1 c_trial.2.2.2.2.2.2.2.2.2.2.1 c_trial.2.2.2.2.2.2.2.2.2.2.2 c_settledBy)) K (ctX7_within l D cyI cyJ cyS i1 (-1 : Int32) (1 : Int32) r_1 hc) (gdS mcL mw_6_12 mw_6_13 mw_1_2 mw_6_14) rfl ⟨rfl, rfl⟩ hzX7_within ⟨Nat.le_of_ble_eq_true rfl, Nat.le_of_ble_eq_true rfl, Nat.le_of_ble_eq_true rfl, Nat.le_of_ble_eq_true rfl⟩ [] (by decide) rfl [none, none, none, none, none, none, none, none, none, none, none, none, none, none, none, none, none, none, none, none, none, none] (by decide) rfl rfl rfl rfl (Nat.le_of_ble_eq_true rfl) dX7_spare_3 rfl rfl ?_
  refine j_if_ne (tgt := 12) K dX7_spare_6 (by decide) rfl h (fun h => ?_) (fun h => ?_)
  · refine j_aload_n K 0 rfl dX7_spare_12 rfl ?_
    obtain ⟨r_2, c_settledByKnown_3, c_trial_4, c_settledBy_5, hc, h⟩ := bd4_some h
    refine j_callV (rest := []) (st1 := [.int r_2]) (ws' := (uX7_spare cyI cyJ cyS a0 c_room c_finding c_courseKnown c_settledByKnown_3 c_told.1 c_told.2.1 c_told.2.2.1 c_told.2.2.2 c_events.1 c_events.2.1 c_events.2.2.1 c_events.2.2.2 c_trial_4.1 c_trial_4.2.1 c_trial_4.2.2.1 c_trial_4.2.2.2.1 c_trial_4.2.2.2.2.1 c_trial_4.2.2.2.2.2.1 c_trial_4.2.2.2.2.2.2.1 c_trial_4.2.2.2.2.2.2.2.1 c_trial_4.2.2.2.2.2.2.2.2.1 c_trial_4.2.2.2.2.2.2.2.2.2.1 c_trial_4.2.2.2.2.2.2.2.2.2.2.1 c_trial_4.2.2.2.2.2.2.2.2.2.2.2 c_settledBy_5)) (T := TX7) (N := 15) (ci := 7) K (ctX7_sparedEvents l D cyI cyJ cyS a0 c_finding c_courseKnown c_room c_told c_events c_settledByKnown c_trial c_settledBy r_2 c_settledByKnown_3 c_trial_4 c_settledBy_5 hc) (gdV mcL mw_28_14 mw_28_15 mw_28_16 mw_1_2 mw_28_17) rfl ⟨rfl, rfl⟩ hyX7_sparedEvents ⟨Nat.le_of_ble_eq_true rfl, Nat.le_of_ble_eq_true rfl, Nat.le_of_ble_eq_true rfl, Nat.le_of_ble_eq_true rfl⟩ [0, 1, 2, 3, 4, 5, 6, 7, 8, 9, 10, 11, 12, 13, 14, 15, 16, 17, 18, 19, 20, 21] (by decide) rfl [some 0, some 1, some 2, some 3, some 4, some 5, some 6, some 7, some 8, some 9, some 10, some 11, some 12, some 13, some 14, some 15, some 16, some 17, some 18, some 19, some 20, some 21] (by decide) rfl rfl 0 rfl rfl rfl rfl (Nat.le_of_ble_eq_true rfl) dX7_spare_13 rfl rfl ?_
    refine j_istore_n (lv' := [(2, .int r_2), (0, .ref (a0 0)), (1, .int i1)]) K (by decide) rfl dX7_spare_16 rfl ?_
    refine j_iload_n K 0 rfl dX7_spare_17 rfl ?_
    refine j_if_ge (tgt := 23) K dX7_spare_18 (by decide) rfl h (fun h => ?_) (fun h => ?_)
    · refine j_iload_n K 2 rfl dX7_spare_23 rfl ?_
      refine j_iconst (v := (-1 : Int32)) K (by decide) dX7_spare_24 rfl ?_
      refine j_icmp_ne (tgt := 35) K dX7_spare_25 (by decide) rfl h (fun h => ?_) (fun h => ?_)
      · refine j_iload_n K 0 rfl dX7_spare_35 rfl ?_
        refine j_iload_n K 2 rfl dX7_spare_36 rfl ?_
        obtain ⟨r_6, hc, h⟩ := bd1_some h
        refine j_callS (rest := []) (st1 := [.int r_6]) (ws' := (uX7_spare cyI cyJ cyS a0 c_room c_finding c_courseKnown c_settledByKnown_3 c_told.1 c_told.2.1 c_told.2.2.1 c_told.2.2.2 c_events.1 c_events.2.1 c_events.2.2.1 c_events.2.2.2 c_trial_4.1 c_trial_4.2.1 c_trial_4.2.2.1 c_trial_4.2.2.2.1 c_trial_4.2.2.2.2.1 c_trial_4.2.2.2.2.2.1 c_trial_4.2.2.2.2.2.2.1 c_trial_4.2.2.2.2.2.2.2.1 c_trial_4.2.2.2.2.2.2.2.2.1 c_trial_4.2.2.2.2.2.2.2.2.2.1 c_trial_4.2.2.2.2.2.2.2.2.2.2.1 c_trial_4.2.2.2.2.2.2.2.2.2.2.2 c_settledBy_5)) K (ctX7_bitPlace l D cyI cyJ cyS r_2 i1 r_6 hc) (gdS mcL mw_29_1 mw_29_2 mw_1_2 mw_29_3) rfl ⟨rfl, rfl⟩ hzX7_bitPlace ⟨Nat.le_of_ble_eq_true rfl, Nat.le_of_ble_eq_true rfl, Nat.le_of_ble_eq_true rfl, Nat.le_of_ble_eq_true rfl⟩ [] (by decide) rfl [none, none, none, none, none, none, none, none, none, none, none, none, none, none, none, none, none, none, none, none, none, none] (by decide) rfl rfl rfl rfl (Nat.le_of_ble_eq_true rfl) dX7_spare_37 rfl rfl ?_
        obtain ⟨e1, g1⟩ := Prod.mk.inj (Option.some.inj h)
        subst e1
        obtain ⟨e2, g2⟩ := Prod.mk.inj g1
        subst e2
        obtain ⟨e3, g3⟩ := Prod.mk.inj g2
        subst e3
        subst g3
        exact j_iret K dX7_spare_40
      · refine j_iload_n K 0 rfl dX7_spare_28 rfl ?_
        obtain ⟨r_7, hc, h⟩ := bd1_some h
        refine j_callS (rest := []) (st1 := [.int r_7]) (ws' := (uX7_spare cyI cyJ cyS a0 c_room c_finding c_courseKnown c_settledByKnown_3 c_told.1 c_told.2.1 c_told.2.2.1 c_told.2.2.2 c_events.1 c_events.2.1 c_events.2.2.1 c_events.2.2.2 c_trial_4.1 c_trial_4.2.1 c_trial_4.2.2.1 c_trial_4.2.2.2.1 c_trial_4.2.2.2.2.1 c_trial_4.2.2.2.2.2.1 c_trial_4.2.2.2.2.2.2.1 c_trial_4.2.2.2.2.2.2.2.1 c_trial_4.2.2.2.2.2.2.2.2.1 c_trial_4.2.2.2.2.2.2.2.2.2.1 c_trial_4.2.2.2.2.2.2.2.2.2.2.1 c_trial_4.2.2.2.2.2.2.2.2.2.2.2 c_settledBy_5)) K (ctJ6_bitCount_0f7a4 l D cyI cyJ cyS r_2 r_7 hc) (gdS mcL mw_29_0 mw_22_12 mw_22_13 mw_22_14) rfl ⟨rfl, rfl⟩ hzJ6_bitCount_0f7a4 ⟨Nat.le_of_ble_eq_true rfl, Nat.le_of_ble_eq_true rfl, Nat.le_of_ble_eq_true rfl, Nat.le_of_ble_eq_true rfl⟩ [] (by decide) rfl [none, none, none, none, none, none, none, none, none, none, none, none, none, none, none, none, none, none, none, none, none, none] (by decide) rfl rfl rfl rfl (Nat.le_of_ble_eq_true rfl) dX7_spare_29 rfl rfl ?_
        refine j_goto (pc' := 40) K dX7_spare_32 (by decide) ?_
        obtain ⟨e1, g1⟩ := Prod.mk.inj (Option.some.inj h)
        subst e1
        obtain ⟨e2, g2⟩ := Prod.mk.inj g1
        subst e2
        obtain ⟨e3, g3⟩ := Prod.mk.inj g2
        subst e3
        subst g3
        exact j_iret K dX7_spare_40
    · refine j_iconst (v := (-1 : Int32)) K (by decide) dX7_spare_21 rfl ?_
      obtain ⟨e1, g1⟩ := Prod.mk.inj (Option.some.inj h)
      subst e1
      obtain ⟨e2, g2⟩ := Prod.mk.inj g1
      subst e2
      obtain ⟨e3, g3⟩ := Prod.mk.inj g2
      subst e3
      subst g3
      exact j_iret K dX7_spare_22
  · refine j_bipush (v := (-2 : Int32)) K (by decide) dX7_spare_9 rfl ?_
    obtain ⟨e1, g1⟩ := Prod.mk.inj (Option.some.inj h)
    subst e1
    obtain ⟨e2, g2⟩ := Prod.mk.inj g1
    subst e2
    obtain ⟨e3, g3⟩ := Prod.mk.inj g2
    subst e3
    subst g3
    exact j_iret K dX7_spare_11
abbrev uX7_seen (cyI cyJ cyS : ClassId) (a0 : Nat → Nat) (c_room : Int32) (c_finding : Int32) (c_courseKnown : Int32) (c_settledByKnown : Int32) (c_seen_size : Int32) (c_seen_month : Nat → Int32) (c_seen_tenant : Nat → Int32) (c_seen_floor : Nat → Int32) : va_W := [((a0 0), .inr (7, [.ref (a0 1), .ref (a0 3), .ref (a0 7), .ref (a0 11), .ref (a0 15), .ref (a0 19), .ref (a0 31), .ref (a0 43), .ref (a0 44), .ref (a0 53), .ref (a0 54), .int c_room, .int c_finding, .int c_courseKnown, .int c_settledByKnown])), ((a0 15), .inr (3, [.ref (a0 16), .ref (a0 17), .ref (a0 18), .int c_seen_size])), ((a0 16), .inl (cyI, 8, .inl c_seen_month)), ((a0 17), .inl (cyI, 8, .inl c_seen_tenant)), ((a0 18), .inl (cyI, 8, .inl c_seen_floor))]
abbrev rmX7_seen : Room := { frames := 2, cells := 0, slots := 0, locals := 42 }
abbrev wdX7_seen : List Cond := .code yX7_seen cX7_seen 4 (some .int) :: wsL_law
theorem hyX7_seen : yX7_seen.cls = RX7 ∧ yX7_seen.cls ≠ "java/lang/invoke/MethodHandle" ∧ yX7_seen.cls ≠ "java/lang/invoke/VarHandle" ∧ (parseMethodDescriptor yX7_seen.desc).map (fun d => d.parameters.length) = some 3 := by decide +kernel
set_option maxRecDepth 100000 in
set_option maxHeartbeats 4000000 in
theorem ctX7_seen (l : Launch) (D : va_G) (cyI cyJ cyS : ClassId) (a0 : Nat → Nat) (i1 : Int32) (i2 : Int32) (i3 : Int32) (c_room : Int32) (c_finding : Int32) (c_courseKnown : Int32) (c_settledByKnown : Int32) (c_seen : jT3) (o_r : Int32) (o_seen : jT3) (h : fX7_seen i1 i2 i3 c_seen = some (o_r, o_seen)) : jC l yX7_seen wdX7_seen rmX7_seen D vwCl (tyz cyI cyJ cyS) [.ref (a0 0), .int i1, .int i2, .int i3] (uX7_seen cyI cyJ cyS a0 c_room c_finding c_courseKnown c_settledByKnown c_seen.1 c_seen.2.1 c_seen.2.2.1 c_seen.2.2.2) (some (.int o_r)) (uX7_seen cyI cyJ cyS a0 c_room c_finding c_courseKnown c_settledByKnown o_seen.1 o_seen.2.1 o_seen.2.2.1 o_seen.2.2.2) := by
  refine jC_of (cc := cX7_seen) (nL := 4) (ret := (some .int)) (own := RX7) (lv := [(0, .ref (a0 0)), (1, .int i1), (2, .int i2), (3, .int i3)]) (by decide) rfl rfl (Nat.le_of_ble_eq_true rfl) rfl ?_
  intro p e s m args below meth c A K
  unfold fX7_seen at h
  refine j_iload_n K 1 rfl dX7_seen_0 rfl ?_
  obtain ⟨r_1, hc, h⟩ := bd1_some h
  refine j_callS (rest := []) (st1 := [.int r_1]) (ws' := (uX7_seen cyI cyJ cyS a0 c_room c_finding c_courseKnown c_settledByKnown c_seen.1 c_seen.2.1 c_seen.2.2.1 c_seen.2.2.2)) K (ctX7_isMonth l D cyI cyJ cyS i1 r_1 hc) (gdS mcL mw_13_9 mw_11_2 mw_1_2 mw_11_3) rfl ⟨rfl, rfl⟩ hzX7_isMonth ⟨Nat.le_of_ble_eq_true rfl, Nat.le_of_ble_eq_true rfl, Nat.le_of_ble_eq_true rfl, Nat.le_of_ble_eq_true rfl⟩ [] (by decide) rfl [none, none, none, none, none] (by decide) rfl rfl rfl rfl (Nat.le_of_ble_eq_true rfl) dX7_seen_1 rfl rfl ?_
  refine j_if_eq (tgt := 27) K dX7_seen_4 (by decide) rfl h (fun h => ?_) (fun h => ?_)
  · refine j_bipush (v := (-2 : Int32)) K (by decide) dX7_seen_27 rfl ?_
    obtain ⟨e1, g1⟩ := Prod.mk.inj (Option.some.inj h)
    subst e1
    subst g1
    exact j_iret K dX7_seen_29
  · refine j_iload_n K 2 rfl dX7_seen_7 rfl ?_
    refine j_iconst (v := (0 : Int32)) K (by decide) dX7_seen_8 rfl ?_
    refine j_bipush (v := (7 : Int32)) K (by decide) dX7_seen_9 rfl ?_
    obtain ⟨r_2, hc, h⟩ := bd1_some h
    refine j_callS (rest := []) (st1 := [.int r_2]) (ws' := (uX7_seen cyI cyJ cyS a0 c_room c_finding c_courseKnown c_settledByKnown c_seen.1 c_seen.2.1 c_seen.2.2.1 c_seen.2.2.2)) K (ctX7_within l D cyI cyJ cyS i2 (0 : Int32) (7 : Int32) r_2 hc) (gdS mcL mw_6_12 mw_6_13 mw_1_2 mw_6_14) rfl ⟨rfl, rfl⟩ hzX7_within ⟨Nat.le_of_ble_eq_true rfl, Nat.le_of_ble_eq_true rfl, Nat.le_of_ble_eq_true rfl, Nat.le_of_ble_eq_true rfl⟩ [] (by decide) rfl [none, none, none, none, none] (by decide) rfl rfl rfl rfl (Nat.le_of_ble_eq_true rfl) dX7_seen_11 rfl rfl ?_
    refine j_if_eq (tgt := 27) K dX7_seen_14 (by decide) rfl h (fun h => ?_) (fun h => ?_)
    · refine j_bipush (v := (-2 : Int32)) K (by decide) dX7_seen_27 rfl ?_
      obtain ⟨e1, g1⟩ := Prod.mk.inj (Option.some.inj h)
      subst e1
      subst g1
      exact j_iret K dX7_seen_29
    · refine j_iload_n K 3 rfl dX7_seen_17 rfl ?_
      refine j_iconst (v := (-1 : Int32)) K (by decide) dX7_seen_18 rfl ?_
      refine j_bipush (v := (12 : Int32)) K (by decide) dX7_seen_19 rfl ?_
      obtain ⟨r_3, hc, h⟩ := bd1_some h
      refine j_callS (rest := []) (st1 := [.int r_3]) (ws' := (uX7_seen cyI cyJ cyS a0 c_room c_finding c_courseKnown c_settledByKnown c_seen.1 c_seen.2.1 c_seen.2.2.1 c_seen.2.2.2)) K (ctX7_within l D cyI cyJ cyS i3 (-1 : Int32) (12 : Int32) r_3 hc) (gdS mcL mw_6_12 mw_6_13 mw_1_2 mw_6_14) rfl ⟨rfl, rfl⟩ hzX7_within ⟨Nat.le_of_ble_eq_true rfl, Nat.le_of_ble_eq_true rfl, Nat.le_of_ble_eq_true rfl, Nat.le_of_ble_eq_true rfl⟩ [] (by decide) rfl [none, none, none, none, none] (by decide) rfl rfl rfl rfl (Nat.le_of_ble_eq_true rfl) dX7_seen_21 rfl rfl ?_
      refine j_if_ne (tgt := 30) K dX7_seen_24 (by decide) rfl h (fun h => ?_) (fun h => ?_)
      · refine j_aload_n K 0 rfl dX7_seen_30 rfl ?_
        refine j_getf (C := RX7) (T := TX7) (N := 15) (ci := 7) K icX7 0 4 (List.mem_cons_of_mem _ mw_2_4) rfl rfl rfl (by decide) rfl dX7_seen_31 rfl ?_
        refine j_getf (C := RX3) (T := TX3) (N := 4) (ci := 3) K icX3 1 3 (List.mem_cons_of_mem _ mw_29_21) rfl rfl rfl (by decide) rfl dX7_seen_34 rfl ?_
        refine j_bipush (v := (8 : Int32)) K (by decide) dX7_seen_37 rfl ?_
        refine j_icmp_lt (tgt := 45) K dX7_seen_39 (by decide) rfl h (fun h => ?_) (fun h => ?_)
        · refine j_aload_n K 0 rfl dX7_seen_45 rfl ?_
          refine j_getf (C := RX7) (T := TX7) (N := 15) (ci := 7) K icX7 0 4 (List.mem_cons_of_mem _ mw_2_4) rfl rfl rfl (by decide) rfl dX7_seen_46 rfl ?_
          refine j_iload_n K 1 rfl dX7_seen_49 rfl ?_
          refine j_iload_n K 2 rfl dX7_seen_50 rfl ?_
          refine j_iload_n K 3 rfl dX7_seen_51 rfl ?_
          obtain ⟨c_seen_size_4, c_seen_month_5, c_seen_tenant_6, c_seen_floor_7, hc, h⟩ := bd4_some h
          refine j_callV (rest := []) (st1 := []) (ws' := (uX7_seen cyI cyJ cyS a0 c_room c_finding c_courseKnown c_settledByKnown c_seen_size_4 c_seen_month_5 c_seen_tenant_6 c_seen_floor_7)) (T := TX3) (N := 4) (ci := 3) K (ctX3_add l D cyI cyJ cyS (fun k => a0 (k + 15)) i1 i2 i3 c_seen.1 c_seen.2.1 c_seen.2.2.1 c_seen.2.2.2 c_seen_size_4 c_seen_month_5 c_seen_tenant_6 c_seen_floor_7 hc) (gdV mcL mw_29_22 mw_29_23 mw_30_0 mw_2_3 mw_30_1) rfl ⟨rfl, rfl⟩ hyX3_add ⟨Nat.le_of_ble_eq_true rfl, Nat.le_of_ble_eq_true rfl, Nat.le_of_ble_eq_true rfl, Nat.le_of_ble_eq_true rfl⟩ [1, 2, 3, 4] (by decide) rfl [none, some 0, some 1, some 2, some 3] (by decide) rfl rfl 1 rfl rfl rfl rfl (Nat.le_of_ble_eq_true rfl) dX7_seen_52 rfl rfl ?_
          refine j_aload_n K 0 rfl dX7_seen_55 rfl ?_
          refine j_getf (C := RX7) (T := TX7) (N := 15) (ci := 7) K icX7 0 4 (List.mem_cons_of_mem _ mw_2_4) rfl rfl rfl (by decide) rfl dX7_seen_56 rfl ?_
          refine j_getf (C := RX3) (T := TX3) (N := 4) (ci := 3) K icX3 1 3 (List.mem_cons_of_mem _ mw_29_21) rfl rfl rfl (by decide) rfl dX7_seen_59 rfl ?_
          obtain ⟨e1, g1⟩ := Prod.mk.inj (Option.some.inj h)
          subst e1
          subst g1
          exact j_iret K dX7_seen_62
        · refine j_bipush (v := (-4 : Int32)) K (by decide) dX7_seen_42 rfl ?_
          obtain ⟨e1, g1⟩ := Prod.mk.inj (Option.some.inj h)
          subst e1
          subst g1
          exact j_iret K dX7_seen_44
      · refine j_bipush (v := (-2 : Int32)) K (by decide) dX7_seen_27 rfl ?_
        obtain ⟨e1, g1⟩ := Prod.mk.inj (Option.some.inj h)
        subst e1
        subst g1
        exact j_iret K dX7_seen_29
abbrev uX7_forget (cyI cyJ cyS : ClassId) (a0 : Nat → Nat) (c_room : Int32) (c_finding : Int32) (c_courseKnown : Int32) (c_settledByKnown : Int32) (c_seen_size : Int32) : va_W := [((a0 0), .inr (7, [.ref (a0 1), .ref (a0 3), .ref (a0 7), .ref (a0 11), .ref (a0 15), .ref (a0 19), .ref (a0 31), .ref (a0 43), .ref (a0 44), .ref (a0 53), .ref (a0 54), .int c_room, .int c_finding, .int c_courseKnown, .int c_settledByKnown])), ((a0 15), .inr (3, [.ref (a0 16), .ref (a0 17), .ref (a0 18), .int c_seen_size]))]
abbrev rmX7_forget : Room := { frames := 0, cells := 0, slots := 0, locals := 0 }
abbrev wdX7_forget : List Cond := .code yX7_forget cX7_forget 2 (some .int) :: wsL_law
theorem hyX7_forget : yX7_forget.cls = RX7 ∧ yX7_forget.cls ≠ "java/lang/invoke/MethodHandle" ∧ yX7_forget.cls ≠ "java/lang/invoke/VarHandle" ∧ (parseMethodDescriptor yX7_forget.desc).map (fun d => d.parameters.length) = some 0 := by decide +kernel
set_option maxRecDepth 100000 in
set_option maxHeartbeats 4000000 in
theorem ctX7_forget (l : Launch) (D : va_G) (cyI cyJ cyS : ClassId) (a0 : Nat → Nat) (c_room : Int32) (c_finding : Int32) (c_courseKnown : Int32) (c_settledByKnown : Int32) (c_seen_size : Int32) (o_r : Int32) (o_seen_size : Int32) (h : fX7_forget c_seen_size = some (o_r, o_seen_size)) : jC l yX7_forget wdX7_forget rmX7_forget D vwCl (tyz cyI cyJ cyS) [.ref (a0 0)] (uX7_forget cyI cyJ cyS a0 c_room c_finding c_courseKnown c_settledByKnown c_seen_size) (some (.int o_r)) (uX7_forget cyI cyJ cyS a0 c_room c_finding c_courseKnown c_settledByKnown o_seen_size) := by
  refine jC_of (cc := cX7_forget) (nL := 2) (ret := (some .int)) (own := RX7) (lv := [(0, .ref (a0 0))]) (by decide) rfl rfl (Nat.le_of_ble_eq_true rfl) rfl ?_
  intro p e s m args below meth c A K
  unfold fX7_forget at h
  refine j_aload_n K 0 rfl dX7_forget_0 rfl ?_
  refine j_getf (C := RX7) (T := TX7) (N := 15) (ci := 7) K icX7 0 4 (List.mem_cons_of_mem _ mw_2_4) rfl rfl rfl (by decide) rfl dX7_forget_1 rfl ?_
  refine j_getf (C := RX3) (T := TX3) (N := 4) (ci := 3) K icX3 1 3 (List.mem_cons_of_mem _ mw_29_21) rfl rfl rfl (by decide) rfl dX7_forget_4 rfl ?_
  refine j_istore_n (lv' := [(1, .int c_seen_size), (0, .ref (a0 0))]) K (by decide) rfl dX7_forget_7 rfl ?_
  refine j_aload_n K 1 rfl dX7_forget_8 rfl ?_
  refine j_getf (C := RX7) (T := TX7) (N := 15) (ci := 7) K icX7 0 4 (List.mem_cons_of_mem _ mw_2_4) rfl rfl rfl (by decide) rfl dX7_forget_9 rfl ?_
  refine j_iconst (v := (0 : Int32)) K (by decide) dX7_forget_12 rfl ?_
  refine j_putf (C := RX3) (T := TX3) (N := 4) (ci := 3) (ty := .int) (ws' := (uX7_forget cyI cyJ cyS a0 c_room c_finding c_courseKnown c_settledByKnown (0 : Int32))) K icX3 tyX3 tyX3_ok nmX3 1 3 (List.mem_cons_of_mem _ mw_29_21) rfl rfl rfl (by decide) rfl (by decide +kernel) rfl rfl (Nat.le_of_ble_eq_true rfl) rfl dX7_forget_13 rfl ?_
  refine j_iload_n K 0 rfl dX7_forget_16 rfl ?_
  obtain ⟨e1, g1⟩ := Prod.mk.inj (Option.some.inj h)
  subst e1
  subst g1
  exact j_iret K dX7_forget_17
end GEN
