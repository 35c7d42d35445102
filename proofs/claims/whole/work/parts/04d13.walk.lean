section GEN
variable {p : Program} {l : Launch} {e : Env} {s : State} {m : MethodId} {args : Array Value} {below : List Frame} {meth : Method} {c : Code} {A : Nat → Prop} {D : va_G} {cyI cyJ cyS : ClassId}
abbrev uX7_planRoom (cyI cyJ cyS : ClassId) (a0 : Nat → Nat) (c_room : Int32) (c_finding : Int32) (c_courseKnown : Int32) (c_settledByKnown : Int32) (c_told_size : Int32) (c_told_sort : Nat → Int32) (c_told_paid : Nat → Int32) (c_told_wage : Nat → Int32) (c_events_size : Int32) (c_events_kind : Nat → Int32) (c_events_month : Nat → Int32) (c_events_number : Nat → Int32) (c_trial_size : Int32) (c_trial_settled : Nat → Int32) (c_trial_falls : Nat → Int32) (c_trial_passed : Nat → Int32) (c_trial_floors : Nat → Int32) (c_trial_lefts : Nat → Int32) (c_trial_fallers : Nat → Int32) (c_trial_floor : Nat → Int32) (c_trial_before : Nat → Int32) (c_trial_left : Nat → Int32) (c_trial_order : Nat → Int32) (c_trial_taken : Nat → Int32) (c_best_which : Int32) (c_best_settled : Int32) (c_best_falls : Int32) : va_W := [((a0 0), .inr (7, [.ref (a0 1), .ref (a0 3), .ref (a0 7), .ref (a0 11), .ref (a0 15), .ref (a0 19), .ref (a0 31), .ref (a0 43), .ref (a0 44), .ref (a0 53), .ref (a0 54), .int c_room, .int c_finding, .int c_courseKnown, .int c_settledByKnown])), ((a0 3), .inr (5, [.ref (a0 4), .ref (a0 5), .ref (a0 6), .int c_told_size])), ((a0 4), .inl (cyI, 8, .inl c_told_sort)), ((a0 5), .inl (cyI, 8, .inl c_told_paid)), ((a0 6), .inl (cyI, 8, .inl c_told_wage)), ((a0 11), .inr (2, [.ref (a0 12), .ref (a0 13), .ref (a0 14), .int c_events_size])), ((a0 12), .inl (cyI, 8, .inl c_events_kind)), ((a0 13), .inl (cyI, 8, .inl c_events_month)), ((a0 14), .inl (cyI, 8, .inl c_events_number)), ((a0 31), .inr (1, [.int c_trial_size, .ref (a0 32), .ref (a0 33), .ref (a0 34), .ref (a0 35), .ref (a0 36), .ref (a0 37), .ref (a0 38), .ref (a0 39), .ref (a0 40), .ref (a0 41), .ref (a0 42)])), ((a0 32), .inl (cyI, 8, .inl c_trial_settled)), ((a0 33), .inl (cyI, 8, .inl c_trial_falls)), ((a0 34), .inl (cyI, 8, .inl c_trial_passed)), ((a0 35), .inl (cyI, 192, .inl c_trial_floors)), ((a0 36), .inl (cyI, 192, .inl c_trial_lefts)), ((a0 37), .inl (cyI, 24, .inl c_trial_fallers)), ((a0 38), .inl (cyI, 8, .inl c_trial_floor)), ((a0 39), .inl (cyI, 8, .inl c_trial_before)), ((a0 40), .inl (cyI, 8, .inl c_trial_left)), ((a0 41), .inl (cyI, 8, .inl c_trial_order)), ((a0 42), .inl (cyI, 13, .inl c_trial_taken)), ((a0 43), .inr (0, [.int c_best_which, .int c_best_settled, .int c_best_falls]))]
abbrev rmX7_planRoom : Room := { frames := 4, cells := 0, slots := 0, locals := 96 }
abbrev wdX7_planRoom : List Cond := .code yX7_planRoom cX7_planRoom 2 none :: wsL_law
theorem hyX7_planRoom : yX7_planRoom.cls = RX7 ∧ yX7_planRoom.cls ≠ "java/lang/invoke/MethodHandle" ∧ yX7_planRoom.cls ≠ "java/lang/invoke/VarHandle" ∧ (parseMethodDescriptor yX7_planRoom.desc).map (fun d => d.parameters.length) = some 0 := by decide +kernel
set_option maxRecDepth 100000 in
set_option maxHeartbeats 4000000 in
theorem wX7_planRoom_9 (K : jK p s m args meth c A D vwCl (tyz cyI cyJ cyS) cX7_planRoom 2 RX7 wdX7_planRoom none) (a0 : Nat → Nat) (c_room : Int32) (c_finding : Int32) (c_courseKnown : Int32) (c_settledByKnown : Int32) (c_told : jT3) (c_events : jT3) (o_trial : jT11) (o_best : jB3)   : ∀ (n : Nat) (c_trial : jT11) (c_best : jB3) (i1 : Int32), fX7_planRoom_9 c_told c_events  n c_trial c_best i1 = some (o_trial, o_best) → jw p l e rmX7_planRoom s m args below meth c (jQ below args s A D vwCl (tyz cyI cyJ cyS) 0 0 none (uX7_planRoom cyI cyJ cyS a0 c_room c_finding c_courseKnown c_settledByKnown c_told.1 c_told.2.1 c_told.2.2.1 c_told.2.2.2 c_events.1 c_events.2.1 c_events.2.2.1 c_events.2.2.2 o_trial.1 o_trial.2.1 o_trial.2.2.1 o_trial.2.2.2.1 o_trial.2.2.2.2.1 o_trial.2.2.2.2.2.1 o_trial.2.2.2.2.2.2.1 o_trial.2.2.2.2.2.2.2.1 o_trial.2.2.2.2.2.2.2.2.1 o_trial.2.2.2.2.2.2.2.2.2.1 o_trial.2.2.2.2.2.2.2.2.2.2.1 o_trial.2.2.2.2.2.2.2.2.2.2.2 o_best.1 o_best.2.1 o_best.2.2)) A D vwCl 2 0 0 9 [(0, .ref (a0 0)), (1, .int i1)] [] (uX7_planRoom cyI cyJ cyS a0 c_room c_finding c_courseKnown c_settledByKnown c_told.1 c_told.2.1 c_told.2.2.1 c_told.2.2.2 c_events.1 c_events.2.1 c_events.2.2.1 c_events.2.2.2 c_trial.1 c_trial.2.1 c_trial.2.2.1 c_trial.2.2.2.1 c_trial.2.2.2.2.1 c_trial.2.2.2.2.2.1 c_trial.2.2.2.2.2.2.1 c_trial.2.2.2.2.2.2.2.1 c_trial.2.2.2.2.2.2.2.2.1 c_trial.2.2.2.2.2.2.2.2.2.1 c_trial.2.2.2.2.2.2.2.2.2.2.1 c_trial.2.2.2.2.2.2.2.2.2.2.2 c_best.1 c_best.2.1 c_best.2.2) := by
  intro n
  induction n with
  | zero => intro c_trial c_best i1 h; cases h
  | succ n ih =>
    intro c_trial c_best i1 h
    have h : bX7_planRoom_9 c_told c_events  (fX7_planRoom_9 c_told c_events  n) c_trial c_best i1 = some (o_trial, o_best) := h
    unfold bX7_planRoom_9 at h
    refine j_iload_n K 1 rfl dX7_planRoom_9 rfl ?_
    refine j_bipush (v := (8 : Int32)) K (by decide) dX7_planRoom_10 rfl ?_
    refine j_icmp_gt (tgt := 62) K dX7_planRoom_12 (by decide) rfl h (fun h => ?_) (fun h => ?_)
    · obtain ⟨e1, g1⟩ := Prod.mk.inj (Option.some.inj h)
      subst e1
      subst g1
      exact j_vret K dX7_planRoom_62
    · refine j_aload_n K 0 rfl dX7_planRoom_15 rfl ?_
      refine j_getf (C := RX7) (T := TX7) (N := 15) (ci := 7) K icX7 0 6 (List.mem_cons_of_mem _ mw_2_9) rfl rfl rfl (by decide) rfl dX7_planRoom_16 rfl ?_
      refine j_aload_n K 0 rfl dX7_planRoom_19 rfl ?_
      refine j_getf (C := RX7) (T := TX7) (N := 15) (ci := 7) K icX7 0 1 (List.mem_cons_of_mem _ mw_1_19) rfl rfl rfl (by decide) rfl dX7_planRoom_20 rfl ?_
      refine j_aload_n K 0 rfl dX7_planRoom_23 rfl ?_
      refine j_getf (C := RX7) (T := TX7) (N := 15) (ci := 7) K icX7 0 3 (List.mem_cons_of_mem _ mw_2_0) rfl rfl rfl (by decide) rfl dX7_planRoom_24 rfl ?_
      refine j_sipush (v := (255 : Int32)) K (by decide) dX7_planRoom_27 rfl ?_
      refine j_iload_n K 1 rfl dX7_planRoom_30 rfl ?_
      obtain ⟨c_trial_size_2, c_trial_settled_3, c_trial_falls_4, c_trial_passed_5, c_trial_floors_6, c_trial_lefts_7, c_trial_fallers_8, c_trial_floor_9, c_trial_before_10, c_trial_left_11, c_trial_order_12, c_trial_taken_13, hc, h⟩ := bd12_some h
      refine j_callV (rest := []) (st1 := []) (ws' := (uX7_planRoom cyI cyJ cyS a0 c_room c_finding c_courseKnown c_settledByKnown c_told.1 c_told.2.1 c_told.2.2.1 c_told.2.2.2 c_events.1 c_events.2.1 c_events.2.2.1 c_events.2.2.2 c_trial_size_2 c_trial_settled_3 c_trial_falls_4 c_trial_passed_5 c_trial_floors_6 c_trial_lefts_7 c_trial_fallers_8 c_trial_floor_9 c_trial_before_10 c_trial_left_11 c_trial_order_12 c_trial_taken_13 c_best.1 c_best.2.1 c_best.2.2)) (T := TX1) (N := 12) (ci := 1) K (ctX1_run l D cyI cyJ cyS (fun k => a0 (k + 31)) (fun k => a0 (k + 3)) (fun k => a0 (k + 11)) (255 : Int32) i1 c_told.1 c_told.2.1 c_told.2.2.1 c_told.2.2.2 c_events.1 c_events.2.1 c_events.2.2.1 c_events.2.2.2 c_trial.1 c_trial.2.1 c_trial.2.2.1 c_trial.2.2.2.1 c_trial.2.2.2.2.1 c_trial.2.2.2.2.2.1 c_trial.2.2.2.2.2.2.1 c_trial.2.2.2.2.2.2.2.1 c_trial.2.2.2.2.2.2.2.2.1 c_trial.2.2.2.2.2.2.2.2.2.1 c_trial.2.2.2.2.2.2.2.2.2.2.1 c_trial.2.2.2.2.2.2.2.2.2.2.2 c_trial_size_2 c_trial_settled_3 c_trial_falls_4 c_trial_passed_5 c_trial_floors_6 c_trial_lefts_7 c_trial_fallers_8 c_trial_floor_9 c_trial_before_10 c_trial_left_11 c_trial_order_12 c_trial_taken_13 hc) (gdV mcL mw_13_14 mw_13_15 mw_13_16 mw_2_7 mw_13_17) rfl ⟨rfl, rfl⟩ hyX1_run ⟨Nat.le_of_ble_eq_true rfl, Nat.le_of_ble_eq_true rfl, Nat.le_of_ble_eq_true rfl, Nat.le_of_ble_eq_true rfl⟩ [9, 10, 11, 12, 13, 14, 15, 16, 17, 18, 19, 20, 1, 2, 3, 4, 5, 6, 7, 8] (by decide) rfl [none, some 12, some 13, some 14, some 15, some 16, some 17, some 18, some 19, some 0, some 1, some 2, some 3, some 4, some 5, some 6, some 7, some 8, some 9, some 10, some 11, none] (by decide) rfl rfl 9 rfl rfl rfl rfl (Nat.le_of_ble_eq_true rfl) dX7_planRoom_31 rfl rfl ?_
      refine j_aload_n K 0 rfl dX7_planRoom_34 rfl ?_
      refine j_getf (C := RX7) (T := TX7) (N := 15) (ci := 7) K icX7 0 7 (List.mem_cons_of_mem _ mw_2_13) rfl rfl rfl (by decide) rfl dX7_planRoom_35 rfl ?_
      refine j_iload_n K 1 rfl dX7_planRoom_38 rfl ?_
      refine j_aload_n K 0 rfl dX7_planRoom_39 rfl ?_
      refine j_getf (C := RX7) (T := TX7) (N := 15) (ci := 7) K icX7 0 6 (List.mem_cons_of_mem _ mw_2_9) rfl rfl rfl (by decide) rfl dX7_planRoom_40 rfl ?_
      obtain ⟨r_14, hc, h⟩ := bd1_some h
      refine j_callV (rest := [.int i1, .ref (a0 43)]) (st1 := [.int r_14, .int i1, .ref (a0 43)]) (ws' := (uX7_planRoom cyI cyJ cyS a0 c_room c_finding c_courseKnown c_settledByKnown c_told.1 c_told.2.1 c_told.2.2.1 c_told.2.2.2 c_events.1 c_events.2.1 c_events.2.2.1 c_events.2.2.2 c_trial_size_2 c_trial_settled_3 c_trial_falls_4 c_trial_passed_5 c_trial_floors_6 c_trial_lefts_7 c_trial_fallers_8 c_trial_floor_9 c_trial_before_10 c_trial_left_11 c_trial_order_12 c_trial_taken_13 c_best.1 c_best.2.1 c_best.2.2)) (T := TX1) (N := 12) (ci := 1) K (ctX1_settledInAll l D cyI cyJ cyS (fun k => a0 (k + 31)) c_trial_size_2 c_trial_settled_3 r_14 hc) (gdV mcL mw_22_3 mw_22_4 mw_22_5 mw_2_7 mw_22_6) rfl ⟨rfl, rfl⟩ hyX1_settledInAll ⟨Nat.le_of_ble_eq_true rfl, Nat.le_of_ble_eq_true rfl, Nat.le_of_ble_eq_true rfl, Nat.le_of_ble_eq_true rfl⟩ [9, 10] (by decide) rfl [none, none, none, none, none, none, none, none, none, some 0, some 1, none, none, none, none, none, none, none, none, none, none, none] (by decide) rfl rfl 9 rfl rfl rfl rfl (Nat.le_of_ble_eq_true rfl) dX7_planRoom_43 rfl rfl ?_
      refine j_aload_n K 0 rfl dX7_planRoom_46 rfl ?_
      refine j_getf (C := RX7) (T := TX7) (N := 15) (ci := 7) K icX7 0 6 (List.mem_cons_of_mem _ mw_2_9) rfl rfl rfl (by decide) rfl dX7_planRoom_47 rfl ?_
      obtain ⟨r_15, hc, h⟩ := bd1_some h
      refine j_callV (rest := [.int r_14, .int i1, .ref (a0 43)]) (st1 := [.int r_15, .int r_14, .int i1, .ref (a0 43)]) (ws' := (uX7_planRoom cyI cyJ cyS a0 c_room c_finding c_courseKnown c_settledByKnown c_told.1 c_told.2.1 c_told.2.2.1 c_told.2.2.2 c_events.1 c_events.2.1 c_events.2.2.1 c_events.2.2.2 c_trial_size_2 c_trial_settled_3 c_trial_falls_4 c_trial_passed_5 c_trial_floors_6 c_trial_lefts_7 c_trial_fallers_8 c_trial_floor_9 c_trial_before_10 c_trial_left_11 c_trial_order_12 c_trial_taken_13 c_best.1 c_best.2.1 c_best.2.2)) (T := TX1) (N := 12) (ci := 1) K (ctX1_fallsInAll l D cyI cyJ cyS (fun k => a0 (k + 31)) c_trial_size_2 c_trial_falls_4 r_15 hc) (gdV mcL mw_22_18 mw_22_19 mw_22_20 mw_2_7 mw_22_21) rfl ⟨rfl, rfl⟩ hyX1_fallsInAll ⟨Nat.le_of_ble_eq_true rfl, Nat.le_of_ble_eq_true rfl, Nat.le_of_ble_eq_true rfl, Nat.le_of_ble_eq_true rfl⟩ [9, 11] (by decide) rfl [none, none, none, none, none, none, none, none, none, some 0, none, some 1, none, none, none, none, none, none, none, none, none, none] (by decide) rfl rfl 9 rfl rfl rfl rfl (Nat.le_of_ble_eq_true rfl) dX7_planRoom_50 rfl rfl ?_
      obtain ⟨c_best_which_16, c_best_settled_17, c_best_falls_18, hc, h⟩ := bd3_some h
      refine j_callV (rest := []) (st1 := []) (ws' := (uX7_planRoom cyI cyJ cyS a0 c_room c_finding c_courseKnown c_settledByKnown c_told.1 c_told.2.1 c_told.2.2.1 c_told.2.2.2 c_events.1 c_events.2.1 c_events.2.2.1 c_events.2.2.2 c_trial_size_2 c_trial_settled_3 c_trial_falls_4 c_trial_passed_5 c_trial_floors_6 c_trial_lefts_7 c_trial_fallers_8 c_trial_floor_9 c_trial_before_10 c_trial_left_11 c_trial_order_12 c_trial_taken_13 c_best_which_16 c_best_settled_17 c_best_falls_18)) (T := TX0) (N := 3) (ci := 0) K (ctX0_offer l D cyI cyJ cyS (fun k => a0 (k + 43)) i1 r_14 r_15 c_best.1 c_best.2.1 c_best.2.2 c_best_which_16 c_best_settled_17 c_best_falls_18 hc) (gdV mcL mw_26_7 mw_26_8 mw_26_9 mw_2_12 mw_26_10) rfl ⟨rfl, rfl⟩ hyX0_offer ⟨Nat.le_of_ble_eq_true rfl, Nat.le_of_ble_eq_true rfl, Nat.le_of_ble_eq_true rfl, Nat.le_of_ble_eq_true rfl⟩ [21] (by decide) rfl [none, none, none, none, none, none, none, none, none, none, none, none, none, none, none, none, none, none, none, none, none, some 0] (by decide) rfl rfl 21 rfl rfl rfl rfl (Nat.le_of_ble_eq_true rfl) dX7_planRoom_53 rfl rfl ?_
      refine j_iincN (lf := fun z => [(1, .int z), (0, .ref (a0 0))]) K (v := i1 + (1 : Int32)) (k := 1) rfl rfl (by decide) (fun _ => rfl) dX7_planRoom_56 rfl h (fun i1_19 h => ?_)
      refine j_goto (pc' := 9) K dX7_planRoom_59 (by decide) ?_
      refine j_sub [1, 0] (lv' := [(0, .ref (a0 0)), (1, .int i1_19)]) rfl ?_
      exact ih (c_trial_size_2, c_trial_settled_3, c_trial_falls_4, c_trial_passed_5, c_trial_floors_6, c_trial_lefts_7, c_trial_fallers_8, c_trial_floor_9, c_trial_before_10, c_trial_left_11, c_trial_order_12, c_trial_taken_13) (c_best_which_16, c_best_settled_17, c_best_falls_18) i1_19 h
set_option maxRecDepth 100000 in
set_option maxHeartbeats 4000000 in
theorem ctX7_planRoom (l : Launch) (D : va_G) (cyI cyJ cyS : ClassId) (a0 : Nat → Nat) (c_room : Int32) (c_finding : Int32) (c_courseKnown : Int32) (c_settledByKnown : Int32) (c_told : jT3) (c_events : jT3) (c_trial : jT11) (c_best : jB3) (o_trial : jT11) (o_best : jB3) (h : fX7_planRoom c_told c_events c_trial c_best = some (o_trial, o_best)) : jC l yX7_planRoom wdX7_planRoom rmX7_planRoom D vwCl (tyz cyI cyJ cyS) [.ref (a0 0)] (uX7_planRoom cyI cyJ cyS a0 c_room c_finding c_courseKnown c_settledByKnown c_told.1 c_told.2.1 c_told.2.2.1 c_told.2.2.2 c_events.1 c_events.2.1 c_events.2.2.1 c_events.2.2.2 c_trial.1 c_trial.2.1 c_trial.2.2.1 c_trial.2.2.2.1 c_trial.2.2.2.2.1 c_trial.2.2.2.2.2.1 c_trial.2.2.2.2.2.2.1 c_trial.2.2.2.2.2.2.2.1 c_trial.2.2.2.2.2.2.2.2.1 c_trial.2.2.2.2.2.2.2.2.2.1 c_trial.2.2.2.2.2.2.2.2.2.2.1 c_trial.2.2.2.2.2.2.2.2.2.2.2 c_best.1 c_best.2.1 c_best.2.2) none (uX7_planRoom cyI cyJ cyS a0 c_room c_finding c_courseKnown c_settledByKnown c_told.1 c_told.2.1 c_told.2.2.1 c_told.2.2.2 c_events.1 c_events.2.1 c_events.2.2.1 c_events.2.2.2 o_trial.1 o_trial.2.1 o_trial.2.2.1 o_trial.2.2.2.1 o_trial.2.2.2.2.1 o_trial.2.2.2.2.2.1 o_trial.2.2.2.2.2.2.1 o_trial.2.2.2.2.2.2.2.1 o_trial.2.2.2.2.2.2.2.2.1 o_trial.2.2.2.2.2.2.2.2.2.1 o_trial.2.2.2.2.2.2.2.2.2.2.1 o_trial.2.2.2.2.2.2.2.2.2.2.2 o_best.1 o_best.2.1 o_best.2.2) := by
  refine jC_of (cc := cX7_planRoom) (nL := 2) (ret := none) (own := RX7) (lv := [(0, .ref (a0 0))]) (by decide) rfl rfl (Nat.le_of_ble_eq_true rfl) rfl ?_
  intro p e s m args below meth c A K
  unfold fX7_planRoom at h
  refine j_aload_n K 0 rfl dX7_planRoom_0 rfl ?_
  refine j_getf (C := RX7) (T := TX7) (N := 15) (ci := 7) K icX7 0 7 (List.mem_cons_of_mem _ mw_2_13) rfl rfl rfl (by decide) rfl dX7_planRoom_1 rfl ?_
  obtain ⟨c_best_which_1, hc, h⟩ := bd1_some h
  refine j_callV (rest := []) (st1 := []) (ws' := (uX7_planRoom cyI cyJ cyS a0 c_room c_finding c_courseKnown c_settledByKnown c_told.1 c_told.2.1 c_told.2.2.1 c_told.2.2.2 c_events.1 c_events.2.1 c_events.2.2.1 c_events.2.2.2 c_trial.1 c_trial.2.1 c_trial.2.2.1 c_trial.2.2.2.1 c_trial.2.2.2.2.1 c_trial.2.2.2.2.2.1 c_trial.2.2.2.2.2.2.1 c_trial.2.2.2.2.2.2.2.1 c_trial.2.2.2.2.2.2.2.2.1 c_trial.2.2.2.2.2.2.2.2.2.1 c_trial.2.2.2.2.2.2.2.2.2.2.1 c_trial.2.2.2.2.2.2.2.2.2.2.2 c_best_which_1 c_best.2.1 c_best.2.2)) (T := TX0) (N := 3) (ci := 0) K (ctX0_clear l D cyI cyJ cyS (fun k => a0 (k + 43)) c_best.2.1 c_best.2.2 c_best.1 c_best_which_1 hc) (gdV mcL mw_25_22 mw_25_23 mw_26_0 mw_2_12 mw_26_1) rfl ⟨rfl, rfl⟩ hyX0_clear ⟨Nat.le_of_ble_eq_true rfl, Nat.le_of_ble_eq_true rfl, Nat.le_of_ble_eq_true rfl, Nat.le_of_ble_eq_true rfl⟩ [21] (by decide) rfl [none, none, none, none, none, none, none, none, none, none, none, none, none, none, none, none, none, none, none, none, none, some 0] (by decide) rfl rfl 21 rfl rfl rfl rfl (Nat.le_of_ble_eq_true rfl) dX7_planRoom_4 rfl rfl ?_
  refine j_iconst (v := (1 : Int32)) K (by decide) dX7_planRoom_7 rfl ?_
  refine j_istore_n (lv' := [(1, .int (1 : Int32)), (0, .ref (a0 0))]) K (by decide) rfl dX7_planRoom_8 rfl ?_
  refine j_sub [1, 0] (lv' := [(0, .ref (a0 0)), (1, .int (1 : Int32))]) rfl ?_
  exact wX7_planRoom_9 K a0 c_room c_finding c_courseKnown c_settledByKnown c_told c_events o_trial o_best jF c_trial (c_best_which_1, c_best.2.1, c_best.2.2) (1 : Int32) h
abbrev uX7_widen (cyI cyJ cyS : ClassId) (a0 : Nat → Nat) (c_room : Int32) (c_finding : Int32) (c_courseKnown : Int32) (c_settledByKnown : Int32) (c_told_size : Int32) (c_told_sort : Nat → Int32) (c_told_paid : Nat → Int32) (c_told_wage : Nat → Int32) (c_events_size : Int32) (c_events_kind : Nat → Int32) (c_events_month : Nat → Int32) (c_events_number : Nat → Int32) (c_trial_size : Int32) (c_trial_settled : Nat → Int32) (c_trial_falls : Nat → Int32) (c_trial_passed : Nat → Int32) (c_trial_floors : Nat → Int32) (c_trial_lefts : Nat → Int32) (c_trial_fallers : Nat → Int32) (c_trial_floor : Nat → Int32) (c_trial_before : Nat → Int32) (c_trial_left : Nat → Int32) (c_trial_order : Nat → Int32) (c_trial_taken : Nat → Int32) (c_best_which : Int32) (c_best_settled : Int32) (c_best_falls : Int32) : va_W := [((a0 0), .inr (7, [.ref (a0 1), .ref (a0 3), .ref (a0 7), .ref (a0 11), .ref (a0 15), .ref (a0 19), .ref (a0 31), .ref (a0 43), .ref (a0 44), .ref (a0 53), .ref (a0 54), .int c_room, .int c_finding, .int c_courseKnown, .int c_settledByKnown])), ((a0 3), .inr (5, [.ref (a0 4), .ref (a0 5), .ref (a0 6), .int c_told_size])), ((a0 4), .inl (cyI, 8, .inl c_told_sort)), ((a0 5), .inl (cyI, 8, .inl c_told_paid)), ((a0 6), .inl (cyI, 8, .inl c_told_wage)), ((a0 11), .inr (2, [.ref (a0 12), .ref (a0 13), .ref (a0 14), .int c_events_size])), ((a0 12), .inl (cyI, 8, .inl c_events_kind)), ((a0 13), .inl (cyI, 8, .inl c_events_month)), ((a0 14), .inl (cyI, 8, .inl c_events_number)), ((a0 31), .inr (1, [.int c_trial_size, .ref (a0 32), .ref (a0 33), .ref (a0 34), .ref (a0 35), .ref (a0 36), .ref (a0 37), .ref (a0 38), .ref (a0 39), .ref (a0 40), .ref (a0 41), .ref (a0 42)])), ((a0 32), .inl (cyI, 8, .inl c_trial_settled)), ((a0 33), .inl (cyI, 8, .inl c_trial_falls)), ((a0 34), .inl (cyI, 8, .inl c_trial_passed)), ((a0 35), .inl (cyI, 192, .inl c_trial_floors)), ((a0 36), .inl (cyI, 192, .inl c_trial_lefts)), ((a0 37), .inl (cyI, 24, .inl c_trial_fallers)), ((a0 38), .inl (cyI, 8, .inl c_trial_floor)), ((a0 39), .inl (cyI, 8, .inl c_trial_before)), ((a0 40), .inl (cyI, 8, .inl c_trial_left)), ((a0 41), .inl (cyI, 8, .inl c_trial_order)), ((a0 42), .inl (cyI, 13, .inl c_trial_taken)), ((a0 43), .inr (0, [.int c_best_which, .int c_best_settled, .int c_best_falls]))]
abbrev rmX7_widen : Room := { frames := 5, cells := 0, slots := 0, locals := 117 }
abbrev wdX7_widen : List Cond := .code yX7_widen cX7_widen 2 (some .int) :: wsL_law
theorem hyX7_widen : yX7_widen.cls = RX7 ∧ yX7_widen.cls ≠ "java/lang/invoke/MethodHandle" ∧ yX7_widen.cls ≠ "java/lang/invoke/VarHandle" ∧ (parseMethodDescriptor yX7_widen.desc).map (fun d => d.parameters.length) = some 1 := by decide +kernel
set_option maxRecDepth 100000 in
set_option maxHeartbeats 4000000 in
theorem ctX7_widen (l : Launch) (D : va_G) (cyI cyJ cyS : ClassId) (a0 : Nat → Nat) (i1 : Int32) (c_room : Int32) (c_finding : Int32) (c_courseKnown : Int32) (c_settledByKnown : Int32) (c_told : jT3) (c_events : jT3) (c_trial : jT11) (c_best : jB3) (o_r : Int32) (o_trial : jT11) (o_best : jB3) (h : fX7_widen i1 c_told c_events c_trial c_best = some (o_r, o_trial, o_best)) : jC l yX7_widen wdX7_widen rmX7_widen D vwCl (tyz cyI cyJ cyS) [.ref (a0 0), .int i1] (uX7_widen cyI cyJ cyS a0 c_room c_finding c_courseKnown c_settledByKnown c_told.1 c_told.2.1 c_told.2.2.1 c_told.2.2.2 c_events.1 c_events.2.1 c_events.2.2.1 c_events.2.2.2 c_trial.1 c_trial.2.1 c_trial.2.2.1 c_trial.2.2.2.1 c_trial.2.2.2.2.1 c_trial.2.2.2.2.2.1 c_trial.2.2.2.2.2.2.1 c_trial.2.2.2.2.2.2.2.1 c_trial.2.2.2.2.2.2.2.2.1 c_trial.2.2.2.2.2.2.2.2.2.1 c_trial.2.2.2.2.2.2.2.2.2.2.1 c_trial.2.2.2.2.2.2.2.2.2.2.2 c_best.1 c_best.2.1 c_best.2.2) (some (.int o_r)) (uX7_widen cyI cyJ cyS a0 c_room c_finding c_courseKnown c_settledByKnown c_told.1 c_told.2.1 c_told.2.2.1 c_told.2.2.2 c_events.1 c_events.2.1 c_events.2.2.1 c_events.2.2.2 o_trial.1 o_trial.2.1 o_trial.2.2.1 o_trial.2.2.2.1 o_trial.2.2.2.2.1 o_trial.2.2.2.2.2.1 o_trial.2.2.2.2.2.2.1 o_trial.2.2.2.2.2.2.2.1 o_trial.2.2.2.2.2.2.2.2.1 o_trial.2.2.2.2.2.2.2.2.2.1 o_trial.2.2.2.2.2.2.2.2.2.2.1 o_trial.2.2.2.2.2.2.2.2.2.2.2 o_best.1 o_best.2.1 o_best.2.2) := by
  refine jC_of (cc := cX7_widen) (nL := 2) (ret := (some .int)) (own := RX7) (lv := [(0, .ref (a0 0)), (1, .int i1)]) (by decide) rfl rfl (Nat.le_of_ble_eq_true rfl) rfl ?_
  intro p e s m args below meth c A K
  unfold fX7_widen at h
  refine j_iload_n K 1 rfl dX7_widen_0 rfl ?_
  refine j_iconst (v := (0 : Int32)) K (by decide) dX7_widen_1 rfl ?_
  refine j_iconst (v := (2 : Int32)) K (by decide) dX7_widen_2 rfl ?_
  obtain ⟨r_1, hc, h⟩ := bd1_some h
  refine j_callS (rest := []) (st1 := [.int r_1]) (ws' := (uX7_widen cyI cyJ cyS a0 c_room c_finding c_courseKnown c_settledByKnown c_told.1 c_told.2.1 c_told.2.2.1 c_told.2.2.2 c_events.1 c_events.2.1 c_events.2.2.1 c_events.2.2.2 c_trial.1 c_trial.2.1 c_trial.2.2.1 c_trial.2.2.2.1 c_trial.2.2.2.2.1 c_trial.2.2.2.2.2.1 c_trial.2.2.2.2.2.2.1 c_trial.2.2.2.2.2.2.2.1 c_trial.2.2.2.2.2.2.2.2.1 c_trial.2.2.2.2.2.2.2.2.2.1 c_trial.2.2.2.2.2.2.2.2.2.2.1 c_trial.2.2.2.2.2.2.2.2.2.2.2 c_best.1 c_best.2.1 c_best.2.2)) K (ctX7_within l D cyI cyJ cyS i1 (0 : Int32) (2 : Int32) r_1 hc) (gdS mcL mw_6_12 mw_6_13 mw_1_2 mw_6_14) rfl ⟨rfl, rfl⟩ hzX7_within ⟨Nat.le_of_ble_eq_true rfl, Nat.le_of_ble_eq_true rfl, Nat.le_of_ble_eq_true rfl, Nat.le_of_ble_eq_true rfl⟩ [] (by decide) rfl [none, none, none, none, none, none, none, none, none, none, none, none, none, none, none, none, none, none, none, none, none, none] (by decide) rfl rfl rfl rfl (Nat.le_of_ble_eq_true rfl) dX7_widen_3 rfl rfl ?_
  refine j_if_ne (tgt := 12) K dX7_widen_6 (by decide) rfl h (fun h => ?_) (fun h => ?_)
  · refine j_aload_n K 0 rfl dX7_widen_12 rfl ?_
    obtain ⟨c_trial_2, c_best_3, hc, h⟩ := bd2_some h
    refine j_callV (rest := []) (st1 := []) (ws' := (uX7_widen cyI cyJ cyS a0 c_room c_finding c_courseKnown c_settledByKnown c_told.1 c_told.2.1 c_told.2.2.1 c_told.2.2.2 c_events.1 c_events.2.1 c_events.2.2.1 c_events.2.2.2 c_trial_2.1 c_trial_2.2.1 c_trial_2.2.2.1 c_trial_2.2.2.2.1 c_trial_2.2.2.2.2.1 c_trial_2.2.2.2.2.2.1 c_trial_2.2.2.2.2.2.2.1 c_trial_2.2.2.2.2.2.2.2.1 c_trial_2.2.2.2.2.2.2.2.2.1 c_trial_2.2.2.2.2.2.2.2.2.2.1 c_trial_2.2.2.2.2.2.2.2.2.2.2.1 c_trial_2.2.2.2.2.2.2.2.2.2.2.2 c_best_3.1 c_best_3.2.1 c_best_3.2.2)) (T := TX7) (N := 15) (ci := 7) K (ctX7_planRoom l D cyI cyJ cyS a0 c_room c_finding c_courseKnown c_settledByKnown c_told c_events c_trial c_best c_trial_2 c_best_3 hc) (gdV mcL mw_27_22 mw_27_23 mw_28_0 mw_1_2 mw_28_1) rfl ⟨rfl, rfl⟩ hyX7_planRoom ⟨Nat.le_of_ble_eq_true rfl, Nat.le_of_ble_eq_true rfl, Nat.le_of_ble_eq_true rfl, Nat.le_of_ble_eq_true rfl⟩ [0, 1, 2, 3, 4, 5, 6, 7, 8, 9, 10, 11, 12, 13, 14, 15, 16, 17, 18, 19, 20, 21] (by decide) rfl [some 0, some 1, some 2, some 3, some 4, some 5, some 6, some 7, some 8, some 9, some 10, some 11, some 12, some 13, some 14, some 15, some 16, some 17, some 18, some 19, some 20, some 21] (by decide) rfl rfl 0 rfl rfl rfl rfl (Nat.le_of_ble_eq_true rfl) dX7_widen_13 rfl rfl ?_
    refine j_aload_n K 0 rfl dX7_widen_16 rfl ?_
    refine j_getf (C := RX7) (T := TX7) (N := 15) (ci := 7) K icX7 0 7 (List.mem_cons_of_mem _ mw_2_13) rfl rfl rfl (by decide) rfl dX7_widen_17 rfl ?_
    refine j_iload_n K 1 rfl dX7_widen_20 rfl ?_
    obtain ⟨r_4, hc, h⟩ := bd1_some h
    refine j_callV (rest := []) (st1 := [.int r_4]) (ws' := (uX7_widen cyI cyJ cyS a0 c_room c_finding c_courseKnown c_settledByKnown c_told.1 c_told.2.1 c_told.2.2.1 c_told.2.2.2 c_events.1 c_events.2.1 c_events.2.2.1 c_events.2.2.2 c_trial_2.1 c_trial_2.2.1 c_trial_2.2.2.1 c_trial_2.2.2.2.1 c_trial_2.2.2.2.2.1 c_trial_2.2.2.2.2.2.1 c_trial_2.2.2.2.2.2.2.1 c_trial_2.2.2.2.2.2.2.2.1 c_trial_2.2.2.2.2.2.2.2.2.1 c_trial_2.2.2.2.2.2.2.2.2.2.1 c_trial_2.2.2.2.2.2.2.2.2.2.2.1 c_trial_2.2.2.2.2.2.2.2.2.2.2.2 c_best_3.1 c_best_3.2.1 c_best_3.2.2)) (T := TX0) (N := 3) (ci := 0) K (ctX0_part l D cyI cyJ cyS (fun k => a0 (k + 43)) i1 c_best_3.1 c_best_3.2.1 c_best_3.2.2 r_4 hc) (gdV mcL mw_26_13 mw_26_14 mw_26_15 mw_2_12 mw_26_16) rfl ⟨rfl, rfl⟩ hyX0_part ⟨Nat.le_of_ble_eq_true rfl, Nat.le_of_ble_eq_true rfl, Nat.le_of_ble_eq_true rfl, Nat.le_of_ble_eq_true rfl⟩ [21] (by decide) rfl [none, none, none, none, none, none, none, none, none, none, none, none, none, none, none, none, none, none, none, none, none, some 0] (by decide) rfl rfl 21 rfl rfl rfl rfl (Nat.le_of_ble_eq_true rfl) dX7_widen_21 rfl rfl ?_
    obtain ⟨e1, g1⟩ := Prod.mk.inj (Option.some.inj h)
    subst e1
    obtain ⟨e2, g2⟩ := Prod.mk.inj g1
    subst e2
    subst g2
    exact j_iret K dX7_widen_24
  · refine j_bipush (v := (-2 : Int32)) K (by decide) dX7_widen_9 rfl ?_
    obtain ⟨e1, g1⟩ := Prod.mk.inj (Option.some.inj h)
    subst e1
    obtain ⟨e2, g2⟩ := Prod.mk.inj g1
    subst e2
    subst g2
    exact j_iret K dX7_widen_11
abbrev uX7_bitPlace (cyI cyJ cyS : ClassId) : va_W := []
abbrev rmX7_bitPlace : Room := { frames := 0, cells := 0, slots := 0, locals := 0 }
abbrev wdX7_bitPlace : List Cond := .code yX7_bitPlace cX7_bitPlace 4 (some .int) :: wsL_law
theorem hzX7_bitPlace : yX7_bitPlace.cls ≠ "java/lang/invoke/MethodHandle" ∧ yX7_bitPlace.cls ≠ "java/lang/invoke/VarHandle" ∧ (parseMethodDescriptor yX7_bitPlace.desc).map (fun d => d.parameters.length) = some 2 := by decide +kernel
set_option maxRecDepth 100000 in
set_option maxHeartbeats 4000000 in
theorem wX7_bitPlace_28 (K : jK p s m args meth c A D vwCl (tyz cyI cyJ cyS) cX7_bitPlace 4 RX7 wdX7_bitPlace (some .int))   (i0 : Int32) (i1 : Int32) (o_r : Int32)  (q_4 : Int32 → Int32 → Option (Int32)) (hq_4 : ∀ (i2 : Int32) (i3 : Int32), q_4 i2 i3 = some (o_r) → jw p l e rmX7_bitPlace s m args below meth c (jQ below args s A D vwCl (tyz cyI cyJ cyS) 0 0 (some (.int o_r)) (uX7_bitPlace cyI cyJ cyS )) A D vwCl 4 0 0 4 [(0, .int i0), (1, .int i1), (2, .int i2), (3, .int i3)] [] (uX7_bitPlace cyI cyJ cyS )) : ∀ (i2 : Int32) (i3 : Int32), fX7_bitPlace_28 i0 i1 q_4 i2 i3 = some (o_r) → jw p l e rmX7_bitPlace s m args below meth c (jQ below args s A D vwCl (tyz cyI cyJ cyS) 0 0 (some (.int o_r)) (uX7_bitPlace cyI cyJ cyS )) A D vwCl 4 0 0 28 [(0, .int i0), (1, .int i1), (2, .int i2), (3, .int i3)] [] (uX7_bitPlace cyI cyJ cyS ) := by
  intro i2 i3 h
  unfold fX7_bitPlace_28 at h
  refine j_iincN (lf := fun z => [(3, .int z), (0, .int i0), (1, .int i1), (2, .int i2)]) K (v := i3 + (1 : Int32)) (k := 3) rfl rfl (by decide) (fun _ => rfl) dX7_bitPlace_28 rfl h (fun i3_1 h => ?_)
  refine j_goto (pc' := 4) K dX7_bitPlace_31 (by decide) ?_
  refine j_sub [1, 2, 3, 0] (lv' := [(0, .int i0), (1, .int i1), (2, .int i2), (3, .int i3_1)]) rfl ?_
  exact hq_4 i2 i3_1 h
set_option maxRecDepth 100000 in
set_option maxHeartbeats 4000000 in
theorem wX7_bitPlace_4 (K : jK p s m args meth c A D vwCl (tyz cyI cyJ cyS) cX7_bitPlace 4 RX7 wdX7_bitPlace (some .int))   (i0 : Int32) (i1 : Int32) (o_r : Int32)   : ∀ (n : Nat) (i2 : Int32) (i3 : Int32), fX7_bitPlace_4 i0 i1  n i2 i3 = some (o_r) → jw p l e rmX7_bitPlace s m args below meth c (jQ below args s A D vwCl (tyz cyI cyJ cyS) 0 0 (some (.int o_r)) (uX7_bitPlace cyI cyJ cyS )) A D vwCl 4 0 0 4 [(0, .int i0), (1, .int i1), (2, .int i2), (3, .int i3)] [] (uX7_bitPlace cyI cyJ cyS ) := by
  intro n
  induction n with
  | zero => intro i2 i3 h; cases h
  | succ n ih =>
    intro i2 i3 h
    have h : bX7_bitPlace_4 i0 i1  (fX7_bitPlace_4 i0 i1  n) i2 i3 = some (o_r) := h
    unfold bX7_bitPlace_4 at h
    refine j_iload_n K 3 rfl dX7_bitPlace_4 rfl ?_
    refine j_bipush (v := (8 : Int32)) K (by decide) dX7_bitPlace_5 rfl ?_
    refine j_icmp_ge (tgt := 34) K dX7_bitPlace_7 (by decide) rfl h (fun h => ?_) (fun h => ?_)
    · refine j_iconst (v := (-1 : Int32)) K (by decide) dX7_bitPlace_34 rfl ?_
      have h := Option.some.inj h
      subst h
      exact j_iret K dX7_bitPlace_35
    · refine j_iload_n K 0 rfl dX7_bitPlace_10 rfl ?_
      refine j_iload_n K 3 rfl dX7_bitPlace_11 rfl ?_
      refine j_ishr K dX7_bitPlace_12 rfl ?_
      refine j_iconst (v := (1 : Int32)) K (by decide) dX7_bitPlace_13 rfl ?_
      refine j_iand K dX7_bitPlace_14 rfl ?_
      refine j_if_eq (tgt := 28) K dX7_bitPlace_15 (by decide) rfl h (fun h => ?_) (fun h => ?_)
      · refine j_sub [0, 1, 2, 3] (lv' := [(0, .int i0), (1, .int i1), (2, .int i2), (3, .int i3)]) rfl ?_
        exact wX7_bitPlace_28 K i0 i1 o_r (fX7_bitPlace_4 i0 i1 n) (fun z0 z1 hq => ih z0 z1 hq) i2 i3 h
      · refine j_iload_n K 2 rfl dX7_bitPlace_18 rfl ?_
        refine j_iload_n K 1 rfl dX7_bitPlace_19 rfl ?_
        refine j_icmp_ne (tgt := 25) K dX7_bitPlace_20 (by decide) rfl h (fun h => ?_) (fun h => ?_)
        · refine j_iincN (lf := fun z => [(2, .int z), (0, .int i0), (1, .int i1), (3, .int i3)]) K (v := i2 + (1 : Int32)) (k := 2) rfl rfl (by decide) (fun _ => rfl) dX7_bitPlace_25 rfl h (fun i2_2 h => ?_)
          refine j_sub [1, 2, 0, 3] (lv' := [(0, .int i0), (1, .int i1), (2, .int i2_2), (3, .int i3)]) rfl ?_
          exact wX7_bitPlace_28 K i0 i1 o_r (fX7_bitPlace_4 i0 i1 n) (fun z0 z1 hq => ih z0 z1 hq) i2_2 i3 h
        · refine j_iload_n K 3 rfl dX7_bitPlace_23 rfl ?_
          have h := Option.some.inj h
          subst h
          exact j_iret K dX7_bitPlace_24
set_option maxRecDepth 100000 in
set_option maxHeartbeats 4000000 in
theorem ctX7_bitPlace (l : Launch) (D : va_G) (cyI cyJ cyS : ClassId) (i0 : Int32) (i1 : Int32) (o_r : Int32) (h : fX7_bitPlace i0 i1 = some (o_r)) : jC l yX7_bitPlace wdX7_bitPlace rmX7_bitPlace D vwCl (tyz cyI cyJ cyS) [.int i0, .int i1] (uX7_bitPlace cyI cyJ cyS ) (some (.int o_r)) (uX7_bitPlace cyI cyJ cyS ) := by
  refine jC_of (cc := cX7_bitPlace) (nL := 4) (ret := (some .int)) (own := RX7) (lv := [(0, .int i0), (1, .int i1)]) (by decide) rfl rfl (Nat.le_of_ble_eq_true rfl) rfl ?_
  intro p e s m args below meth c A K
  unfold fX7_bitPlace at h
  refine j_iconst (v := (0 : Int32)) K (by decide) dX7_bitPlace_0 rfl ?_
  refine j_istore_n (lv' := [(2, .int (0 : Int32)), (0, .int i0), (1, .int i1)]) K (by decide) rfl dX7_bitPlace_1 rfl ?_
  refine j_iconst (v := (0 : Int32)) K (by decide) dX7_bitPlace_2 rfl ?_
  refine j_istore_n (lv' := [(3, .int (0 : Int32)), (2, .int (0 : Int32)), (0, .int i0), (1, .int i1)]) K (by decide) rfl dX7_bitPlace_3 rfl ?_
  refine j_sub [2, 3, 1, 0] (lv' := [(0, .int i0), (1, .int i1), (2, .int (0 : Int32)), (3, .int (0 : Int32))]) rfl ?_
  exact wX7_bitPlace_4 K i0 i1 o_r jF (0 : Int32) (0 : Int32) h
end GEN
