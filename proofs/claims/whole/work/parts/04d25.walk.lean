section GEN
variable {p : Program} {l : Launch} {e : Env} {s : State} {m : MethodId} {args : Array Value} {below : List Frame} {meth : Method} {c : Code} {A : Nat → Prop} {D : va_G} {cyI cyJ cyS : ClassId}
abbrev uX7_houses (cyI cyJ cyS : ClassId) (a0 : Nat → Nat) (c_room : Int32) (c_finding : Int32) (c_courseKnown : Int32) (c_settledByKnown : Int32) (c_others_size : Int32) (c_others_sort : Nat → Int32) (c_others_paid : Nat → Int32) (c_others_wage : Nat → Int32) (c_events_size : Int32) (c_events_kind : Nat → Int32) (c_events_month : Nat → Int32) (c_events_number : Nat → Int32) (c_trial_size : Int32) (c_trial_settled : Nat → Int32) (c_trial_falls : Nat → Int32) (c_trial_passed : Nat → Int32) (c_trial_floors : Nat → Int32) (c_trial_lefts : Nat → Int32) (c_trial_fallers : Nat → Int32) (c_trial_floor : Nat → Int32) (c_trial_before : Nat → Int32) (c_trial_left : Nat → Int32) (c_trial_order : Nat → Int32) (c_trial_taken : Nat → Int32) : va_W := [((a0 0), .inr (7, [.ref (a0 1), .ref (a0 3), .ref (a0 7), .ref (a0 11), .ref (a0 15), .ref (a0 19), .ref (a0 31), .ref (a0 43), .ref (a0 44), .ref (a0 53), .ref (a0 54), .int c_room, .int c_finding, .int c_courseKnown, .int c_settledByKnown])), ((a0 7), .inr (5, [.ref (a0 8), .ref (a0 9), .ref (a0 10), .int c_others_size])), ((a0 8), .inl (cyI, 8, .inl c_others_sort)), ((a0 9), .inl (cyI, 8, .inl c_others_paid)), ((a0 10), .inl (cyI, 8, .inl c_others_wage)), ((a0 11), .inr (2, [.ref (a0 12), .ref (a0 13), .ref (a0 14), .int c_events_size])), ((a0 12), .inl (cyI, 8, .inl c_events_kind)), ((a0 13), .inl (cyI, 8, .inl c_events_month)), ((a0 14), .inl (cyI, 8, .inl c_events_number)), ((a0 31), .inr (1, [.int c_trial_size, .ref (a0 32), .ref (a0 33), .ref (a0 34), .ref (a0 35), .ref (a0 36), .ref (a0 37), .ref (a0 38), .ref (a0 39), .ref (a0 40), .ref (a0 41), .ref (a0 42)])), ((a0 32), .inl (cyI, 8, .inl c_trial_settled)), ((a0 33), .inl (cyI, 8, .inl c_trial_falls)), ((a0 34), .inl (cyI, 8, .inl c_trial_passed)), ((a0 35), .inl (cyI, 192, .inl c_trial_floors)), ((a0 36), .inl (cyI, 192, .inl c_trial_lefts)), ((a0 37), .inl (cyI, 24, .inl c_trial_fallers)), ((a0 38), .inl (cyI, 8, .inl c_trial_floor)), ((a0 39), .inl (cyI, 8, .inl c_trial_before)), ((a0 40), .inl (cyI, 8, .inl c_trial_left)), ((a0 41), .inl (cyI, 8, .inl c_trial_order)), ((a0 42), .inl (cyI, 13, .inl c_trial_taken))]
abbrev rmX7_houses : Room := { frames := 4, cells := 0, slots := 0, locals := 96 }
abbrev wdX7_houses : List Cond := .code yX7_houses cX7_houses 4 (some .int) :: wsL_law
theorem hyX7_houses : yX7_houses.cls = RX7 ∧ yX7_houses.cls ≠ "java/lang/invoke/MethodHandle" ∧ yX7_houses.cls ≠ "java/lang/invoke/VarHandle" ∧ (parseMethodDescriptor yX7_houses.desc).map (fun d => d.parameters.length) = some 3 := by decide +kernel
set_option maxRecDepth 100000 in
set_option maxHeartbeats 4000000 in
theorem ctX7_houses (l : Launch) (D : va_G) (cyI cyJ cyS : ClassId) (a0 : Nat → Nat) (i1 : Int32) (i2 : Int32) (i3 : Int32) (c_finding : Int32) (c_courseKnown : Int32) (c_settledByKnown : Int32) (c_room : Int32) (c_events : jT3) (c_others : jT3) (c_trial : jT11) (o_r : Int32) (o_others : jT3) (o_trial : jT11) (h : fX7_houses i1 i2 i3 c_room c_events c_others c_trial = some (o_r, o_others, o_trial)) : jC l yX7_houses wdX7_houses rmX7_houses D vwCl (tyz cyI cyJ cyS) [.ref (a0 0), .int i1, .int i2, .int i3] (uX7_houses cyI cyJ cyS a0 c_room c_finding c_courseKnown c_settledByKnown c_others.1 c_others.2.1 c_others.2.2.1 c_others.2.2.2 c_events.1 c_events.2.1 c_events.2.2.1 c_events.2.2.2 c_trial.1 c_trial.2.1 c_trial.2.2.1 c_trial.2.2.2.1 c_trial.2.2.2.2.1 c_trial.2.2.2.2.2.1 c_trial.2.2.2.2.2.2.1 c_trial.2.2.2.2.2.2.2.1 c_trial.2.2.2.2.2.2.2.2.1 c_trial.2.2.2.2.2.2.2.2.2.1 c_trial.2.2.2.2.2.2.2.2.2.2.1 c_trial.2.2.2.2.2.2.2.2.2.2.2) (some (.int o_r)) (uX7_houses cyI cyJ cyS a0 c_room c_finding c_courseKnown c_settledByKnown o_others.1 o_others.2.1 o_others.2.2.1 o_others.2.2.2 c_events.1 c_events.2.1 c_events.2.2.1 c_events.2.2.2 o_trial.1 o_trial.2.1 o_trial.2.2.1 o_trial.2.2.2.1 o_trial.2.2.2.2.1 o_trial.2.2.2.2.2.1 o_trial.2.2.2.2.2.2.1 o_trial.2.2.2.2.2.2.2.1 o_trial.2.2.2.2.2.2.2.2.1 o_trial.2.2.2.2.2.2.2.2.2.1 o_trial.2.2.2.2.2.2.2.2.2.2.1 o_trial.2.2.2.2.2.2.2.2.2.2.2) := by
  refine jC_of (cc := cX7_houses) (nL := 4) (ret := (some .int)) (own := RX7) (lv := [(0, .ref (a0 0)), (1, .int i1), (2, .int i2), (3, .int i3)]) (by decide) rfl rfl (Nat.le_of_ble_eq_true rfl) rfl ?_
  intro p e s m args below meth c A K
  unfold fX7_houses at h
  refine j_iload_n K 2 rfl dX7_houses_0 rfl ?_
  refine j_iconst (v := (0 : Int32)) K (by decide) dX7_houses_1 rfl ?_
  refine j_bipush (v := (8 : Int32)) K (by decide) dX7_houses_2 rfl ?_
  obtain ⟨r_1, hc, h⟩ := bd1_some h
  refine j_callS (rest := []) (st1 := [.int r_1]) (ws' := (uX7_houses cyI cyJ cyS a0 c_room c_finding c_courseKnown c_settledByKnown c_others.1 c_others.2.1 c_others.2.2.1 c_others.2.2.2 c_events.1 c_events.2.1 c_events.2.2.1 c_events.2.2.2 c_trial.1 c_trial.2.1 c_trial.2.2.1 c_trial.2.2.2.1 c_trial.2.2.2.2.1 c_trial.2.2.2.2.2.1 c_trial.2.2.2.2.2.2.1 c_trial.2.2.2.2.2.2.2.1 c_trial.2.2.2.2.2.2.2.2.1 c_trial.2.2.2.2.2.2.2.2.2.1 c_trial.2.2.2.2.2.2.2.2.2.2.1 c_trial.2.2.2.2.2.2.2.2.2.2.2)) K (ctX7_within l D cyI cyJ cyS i2 (0 : Int32) (8 : Int32) r_1 hc) (gdS mcL mw_6_12 mw_6_13 mw_1_2 mw_6_14) rfl ⟨rfl, rfl⟩ hzX7_within ⟨Nat.le_of_ble_eq_true rfl, Nat.le_of_ble_eq_true rfl, Nat.le_of_ble_eq_true rfl, Nat.le_of_ble_eq_true rfl⟩ [] (by decide) rfl [none, none, none, none, none, none, none, none, none, none, none, none, none, none, none, none, none, none, none, none, none] (by decide) rfl rfl rfl rfl (Nat.le_of_ble_eq_true rfl) dX7_houses_4 rfl rfl ?_
  refine j_if_eq (tgt := 19) K dX7_houses_7 (by decide) rfl h (fun h => ?_) (fun h => ?_)
  · refine j_bipush (v := (-2 : Int32)) K (by decide) dX7_houses_19 rfl ?_
    obtain ⟨e1, g1⟩ := Prod.mk.inj (Option.some.inj h)
    subst e1
    obtain ⟨e2, g2⟩ := Prod.mk.inj g1
    subst e2
    subst g2
    exact j_iret K dX7_houses_21
  · refine j_iload_n K 3 rfl dX7_houses_10 rfl ?_
    refine j_iconst (v := (0 : Int32)) K (by decide) dX7_houses_11 rfl ?_
    refine j_iconst (v := (1 : Int32)) K (by decide) dX7_houses_12 rfl ?_
    obtain ⟨r_2, hc, h⟩ := bd1_some h
    refine j_callS (rest := []) (st1 := [.int r_2]) (ws' := (uX7_houses cyI cyJ cyS a0 c_room c_finding c_courseKnown c_settledByKnown c_others.1 c_others.2.1 c_others.2.2.1 c_others.2.2.2 c_events.1 c_events.2.1 c_events.2.2.1 c_events.2.2.2 c_trial.1 c_trial.2.1 c_trial.2.2.1 c_trial.2.2.2.1 c_trial.2.2.2.2.1 c_trial.2.2.2.2.2.1 c_trial.2.2.2.2.2.2.1 c_trial.2.2.2.2.2.2.2.1 c_trial.2.2.2.2.2.2.2.2.1 c_trial.2.2.2.2.2.2.2.2.2.1 c_trial.2.2.2.2.2.2.2.2.2.2.1 c_trial.2.2.2.2.2.2.2.2.2.2.2)) K (ctX7_within l D cyI cyJ cyS i3 (0 : Int32) (1 : Int32) r_2 hc) (gdS mcL mw_6_12 mw_6_13 mw_1_2 mw_6_14) rfl ⟨rfl, rfl⟩ hzX7_within ⟨Nat.le_of_ble_eq_true rfl, Nat.le_of_ble_eq_true rfl, Nat.le_of_ble_eq_true rfl, Nat.le_of_ble_eq_true rfl⟩ [] (by decide) rfl [none, none, none, none, none, none, none, none, none, none, none, none, none, none, none, none, none, none, none, none, none] (by decide) rfl rfl rfl rfl (Nat.le_of_ble_eq_true rfl) dX7_houses_13 rfl rfl ?_
    refine j_if_ne (tgt := 22) K dX7_houses_16 (by decide) rfl h (fun h => ?_) (fun h => ?_)
    · refine j_aload_n K 0 rfl dX7_houses_22 rfl ?_
      refine j_getf (C := RX7) (T := TX7) (N := 15) (ci := 7) K icX7 0 2 (List.mem_cons_of_mem _ mw_1_20) rfl rfl rfl (by decide) rfl dX7_houses_23 rfl ?_
      refine j_iload_n K 1 rfl dX7_houses_26 rfl ?_
      refine j_iload_n K 2 rfl dX7_houses_27 rfl ?_
      obtain ⟨c_others_size_3, c_others_sort_4, c_others_paid_5, c_others_wage_6, hc, h⟩ := bd4_some h
      refine j_callV (rest := []) (st1 := []) (ws' := (uX7_houses cyI cyJ cyS a0 c_room c_finding c_courseKnown c_settledByKnown c_others_size_3 c_others_sort_4 c_others_paid_5 c_others_wage_6 c_events.1 c_events.2.1 c_events.2.2.1 c_events.2.2.2 c_trial.1 c_trial.2.1 c_trial.2.2.1 c_trial.2.2.2.1 c_trial.2.2.2.2.1 c_trial.2.2.2.2.2.1 c_trial.2.2.2.2.2.2.1 c_trial.2.2.2.2.2.2.2.1 c_trial.2.2.2.2.2.2.2.2.1 c_trial.2.2.2.2.2.2.2.2.2.1 c_trial.2.2.2.2.2.2.2.2.2.2.1 c_trial.2.2.2.2.2.2.2.2.2.2.2)) (T := TX5) (N := 4) (ci := 5) K (ctX5_drawLots l D cyI cyJ cyS (fun k => a0 (k + 7)) i1 i2 c_others.1 c_others.2.1 c_others.2.2.1 c_others.2.2.2 c_others_size_3 c_others_sort_4 c_others_paid_5 c_others_wage_6 hc) (gdV mcL mw_35_13 mw_35_14 mw_35_15 mw_1_18 mw_35_16) rfl ⟨rfl, rfl⟩ hyX5_drawLots ⟨Nat.le_of_ble_eq_true rfl, Nat.le_of_ble_eq_true rfl, Nat.le_of_ble_eq_true rfl, Nat.le_of_ble_eq_true rfl⟩ [1, 2, 3, 4] (by decide) rfl [none, some 0, some 1, some 2, some 3, none, none, none, none, none, none, none, none, none, none, none, none, none, none, none, none] (by decide) rfl rfl 1 rfl rfl rfl rfl (Nat.le_of_ble_eq_true rfl) dX7_houses_28 rfl rfl ?_
      refine j_aload_n K 0 rfl dX7_houses_31 rfl ?_
      refine j_getf (C := RX7) (T := TX7) (N := 15) (ci := 7) K icX7 0 6 (List.mem_cons_of_mem _ mw_2_9) rfl rfl rfl (by decide) rfl dX7_houses_32 rfl ?_
      refine j_aload_n K 0 rfl dX7_houses_35 rfl ?_
      refine j_getf (C := RX7) (T := TX7) (N := 15) (ci := 7) K icX7 0 2 (List.mem_cons_of_mem _ mw_1_20) rfl rfl rfl (by decide) rfl dX7_houses_36 rfl ?_
      refine j_aload_n K 0 rfl dX7_houses_39 rfl ?_
      refine j_getf (C := RX7) (T := TX7) (N := 15) (ci := 7) K icX7 0 3 (List.mem_cons_of_mem _ mw_2_0) rfl rfl rfl (by decide) rfl dX7_houses_40 rfl ?_
      refine j_sipush (v := (255 : Int32)) K (by decide) dX7_houses_43 rfl ?_
      refine j_aload_n K 0 rfl dX7_houses_46 rfl ?_
      refine j_getf (C := RX7) (T := TX7) (N := 15) (ci := 7) K icX7 0 11 (List.mem_cons_of_mem _ mw_2_19) rfl rfl rfl (by decide) rfl dX7_houses_47 rfl ?_
      obtain ⟨c_trial_size_7, c_trial_settled_8, c_trial_falls_9, c_trial_passed_10, c_trial_floors_11, c_trial_lefts_12, c_trial_fallers_13, c_trial_floor_14, c_trial_before_15, c_trial_left_16, c_trial_order_17, c_trial_taken_18, hc, h⟩ := bd12_some h
      refine j_callV (rest := []) (st1 := []) (ws' := (uX7_houses cyI cyJ cyS a0 c_room c_finding c_courseKnown c_settledByKnown c_others_size_3 c_others_sort_4 c_others_paid_5 c_others_wage_6 c_events.1 c_events.2.1 c_events.2.2.1 c_events.2.2.2 c_trial_size_7 c_trial_settled_8 c_trial_falls_9 c_trial_passed_10 c_trial_floors_11 c_trial_lefts_12 c_trial_fallers_13 c_trial_floor_14 c_trial_before_15 c_trial_left_16 c_trial_order_17 c_trial_taken_18)) (T := TX1) (N := 12) (ci := 1) K (ctX1_run l D cyI cyJ cyS (fun k => a0 (k + 31)) (fun k => a0 (k + 7)) (fun k => a0 (k + 11)) (255 : Int32) c_room c_others_size_3 c_others_sort_4 c_others_paid_5 c_others_wage_6 c_events.1 c_events.2.1 c_events.2.2.1 c_events.2.2.2 c_trial.1 c_trial.2.1 c_trial.2.2.1 c_trial.2.2.2.1 c_trial.2.2.2.2.1 c_trial.2.2.2.2.2.1 c_trial.2.2.2.2.2.2.1 c_trial.2.2.2.2.2.2.2.1 c_trial.2.2.2.2.2.2.2.2.1 c_trial.2.2.2.2.2.2.2.2.2.1 c_trial.2.2.2.2.2.2.2.2.2.2.1 c_trial.2.2.2.2.2.2.2.2.2.2.2 c_trial_size_7 c_trial_settled_8 c_trial_falls_9 c_trial_passed_10 c_trial_floors_11 c_trial_lefts_12 c_trial_fallers_13 c_trial_floor_14 c_trial_before_15 c_trial_left_16 c_trial_order_17 c_trial_taken_18 hc) (gdV mcL mw_13_14 mw_13_15 mw_13_16 mw_2_7 mw_13_17) rfl ⟨rfl, rfl⟩ hyX1_run ⟨Nat.le_of_ble_eq_true rfl, Nat.le_of_ble_eq_true rfl, Nat.le_of_ble_eq_true rfl, Nat.le_of_ble_eq_true rfl⟩ [9, 10, 11, 12, 13, 14, 15, 16, 17, 18, 19, 20, 1, 2, 3, 4, 5, 6, 7, 8] (by decide) rfl [none, some 12, some 13, some 14, some 15, some 16, some 17, some 18, some 19, some 0, some 1, some 2, some 3, some 4, some 5, some 6, some 7, some 8, some 9, some 10, some 11] (by decide) rfl rfl 9 rfl rfl rfl rfl (Nat.le_of_ble_eq_true rfl) dX7_houses_50 rfl rfl ?_
      refine j_iload_n K 3 rfl dX7_houses_53 rfl ?_
      refine j_if_ne (tgt := 67) K dX7_houses_54 (by decide) rfl h (fun h => ?_) (fun h => ?_)
      · refine j_aload_n K 0 rfl dX7_houses_67 rfl ?_
        refine j_getf (C := RX7) (T := TX7) (N := 15) (ci := 7) K icX7 0 6 (List.mem_cons_of_mem _ mw_2_9) rfl rfl rfl (by decide) rfl dX7_houses_68 rfl ?_
        obtain ⟨r_19, hc, h⟩ := bd1_some h
        refine j_callV (rest := []) (st1 := [.int r_19]) (ws' := (uX7_houses cyI cyJ cyS a0 c_room c_finding c_courseKnown c_settledByKnown c_others_size_3 c_others_sort_4 c_others_paid_5 c_others_wage_6 c_events.1 c_events.2.1 c_events.2.2.1 c_events.2.2.2 c_trial_size_7 c_trial_settled_8 c_trial_falls_9 c_trial_passed_10 c_trial_floors_11 c_trial_lefts_12 c_trial_fallers_13 c_trial_floor_14 c_trial_before_15 c_trial_left_16 c_trial_order_17 c_trial_taken_18)) (T := TX1) (N := 12) (ci := 1) K (ctX1_fallsInAll l D cyI cyJ cyS (fun k => a0 (k + 31)) c_trial_size_7 c_trial_falls_9 r_19 hc) (gdV mcL mw_22_18 mw_22_19 mw_22_20 mw_2_7 mw_22_21) rfl ⟨rfl, rfl⟩ hyX1_fallsInAll ⟨Nat.le_of_ble_eq_true rfl, Nat.le_of_ble_eq_true rfl, Nat.le_of_ble_eq_true rfl, Nat.le_of_ble_eq_true rfl⟩ [9, 11] (by decide) rfl [none, none, none, none, none, none, none, none, none, some 0, none, some 1, none, none, none, none, none, none, none, none, none] (by decide) rfl rfl 9 rfl rfl rfl rfl (Nat.le_of_ble_eq_true rfl) dX7_houses_71 rfl rfl ?_
        obtain ⟨e1, g1⟩ := Prod.mk.inj (Option.some.inj h)
        subst e1
        obtain ⟨e2, g2⟩ := Prod.mk.inj g1
        subst e2
        subst g2
        exact j_iret K dX7_houses_74
      · refine j_aload_n K 0 rfl dX7_houses_57 rfl ?_
        refine j_getf (C := RX7) (T := TX7) (N := 15) (ci := 7) K icX7 0 6 (List.mem_cons_of_mem _ mw_2_9) rfl rfl rfl (by decide) rfl dX7_houses_58 rfl ?_
        obtain ⟨r_20, hc, h⟩ := bd1_some h
        refine j_callV (rest := []) (st1 := [.int r_20]) (ws' := (uX7_houses cyI cyJ cyS a0 c_room c_finding c_courseKnown c_settledByKnown c_others_size_3 c_others_sort_4 c_others_paid_5 c_others_wage_6 c_events.1 c_events.2.1 c_events.2.2.1 c_events.2.2.2 c_trial_size_7 c_trial_settled_8 c_trial_falls_9 c_trial_passed_10 c_trial_floors_11 c_trial_lefts_12 c_trial_fallers_13 c_trial_floor_14 c_trial_before_15 c_trial_left_16 c_trial_order_17 c_trial_taken_18)) (T := TX1) (N := 12) (ci := 1) K (ctX1_settledInAll l D cyI cyJ cyS (fun k => a0 (k + 31)) c_trial_size_7 c_trial_settled_8 r_20 hc) (gdV mcL mw_22_3 mw_22_4 mw_22_5 mw_2_7 mw_22_6) rfl ⟨rfl, rfl⟩ hyX1_settledInAll ⟨Nat.le_of_ble_eq_true rfl, Nat.le_of_ble_eq_true rfl, Nat.le_of_ble_eq_true rfl, Nat.le_of_ble_eq_true rfl⟩ [9, 10] (by decide) rfl [none, none, none, none, none, none, none, none, none, some 0, some 1, none, none, none, none, none, none, none, none, none, none] (by decide) rfl rfl 9 rfl rfl rfl rfl (Nat.le_of_ble_eq_true rfl) dX7_houses_61 rfl rfl ?_
        refine j_goto (pc' := 74) K dX7_houses_64 (by decide) ?_
        obtain ⟨e1, g1⟩ := Prod.mk.inj (Option.some.inj h)
        subst e1
        obtain ⟨e2, g2⟩ := Prod.mk.inj g1
        subst e2
        subst g2
        exact j_iret K dX7_houses_74
    · refine j_bipush (v := (-2 : Int32)) K (by decide) dX7_houses_19 rfl ?_
      obtain ⟨e1, g1⟩ := Prod.mk.inj (Option.some.inj h)
      subst e1
      obtain ⟨e2, g2⟩ := Prod.mk.inj g1
      subst e2
      subst g2
      exact j_iret K dX7_houses_21
end GEN
