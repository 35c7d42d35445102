section GEN
variable {p : Program} {l : Launch} {e : Env} {s : State} {m : MethodId} {args : Array Value} {below : List Frame} {meth : Method} {c : Code} {A : Nat → Prop} {D : va_G} {cyI cyJ cyS : ClassId}
abbrev uX7_room (cyI cyJ cyS : ClassId) (a0 : Nat → Nat) (c_room : Int32) (c_finding : Int32) (c_courseKnown : Int32) (c_settledByKnown : Int32) : va_W := [((a0 0), .inr (7, [.ref (a0 1), .ref (a0 3), .ref (a0 7), .ref (a0 11), .ref (a0 15), .ref (a0 19), .ref (a0 31), .ref (a0 43), .ref (a0 44), .ref (a0 53), .ref (a0 54), .int c_room, .int c_finding, .int c_courseKnown, .int c_settledByKnown]))]
abbrev rmX7_room : Room := { frames := 1, cells := 0, slots := 0, locals := 22 }
abbrev wdX7_room : List Cond := .code yX7_room cX7_room 3 (some .int) :: wsL_law
theorem hyX7_room : yX7_room.cls = RX7 ∧ yX7_room.cls ≠ "java/lang/invoke/MethodHandle" ∧ yX7_room.cls ≠ "java/lang/invoke/VarHandle" ∧ (parseMethodDescriptor yX7_room.desc).map (fun d => d.parameters.length) = some 1 := by decide +kernel
set_option maxRecDepth 100000 in
set_option maxHeartbeats 4000000 in
theorem ctX7_room (l : Launch) (D : va_G) (cyI cyJ cyS : ClassId) (a0 : Nat → Nat) (i1 : Int32) (c_finding : Int32) (c_room : Int32) (c_courseKnown : Int32) (c_settledByKnown : Int32) (o_r : Int32) (o_room : Int32) (o_courseKnown : Int32) (o_settledByKnown : Int32) (h : fX7_room i1 c_room c_courseKnown c_settledByKnown = some (o_r, o_room, o_courseKnown, o_settledByKnown)) : jC l yX7_room wdX7_room rmX7_room D vwCl (tyz cyI cyJ cyS) [.ref (a0 0), .int i1] (uX7_room cyI cyJ cyS a0 c_room c_finding c_courseKnown c_settledByKnown) (some (.int o_r)) (uX7_room cyI cyJ cyS a0 o_room c_finding o_courseKnown o_settledByKnown) := by
  refine jC_of (cc := cX7_room) (nL := 3) (ret := (some .int)) (own := RX7) (lv := [(0, .ref (a0 0)), (1, .int i1)]) (by decide) rfl rfl (Nat.le_of_ble_eq_true rfl) rfl ?_
  intro p e s m args below meth c A K
  unfold fX7_room at h
  refine j_iload_n K 1 rfl dX7_room_0 rfl ?_
  refine j_iconst (v := (1 : Int32)) K (by decide) dX7_room_1 rfl ?_
  refine j_bipush (v := (8 : Int32)) K (by decide) dX7_room_2 rfl ?_
  obtain ⟨r_1, hc, h⟩ := bd1_some h
  refine j_callS (rest := []) (st1 := [.int r_1]) (ws' := (uX7_room cyI cyJ cyS a0 c_room c_finding c_courseKnown c_settledByKnown)) K (ctX7_within l D cyI cyJ cyS i1 (1 : Int32) (8 : Int32) r_1 hc) (gdS mcL mw_6_12 mw_6_13 mw_1_2 mw_6_14) rfl ⟨rfl, rfl⟩ hzX7_within ⟨Nat.le_of_ble_eq_true rfl, Nat.le_of_ble_eq_true rfl, Nat.le_of_ble_eq_true rfl, Nat.le_of_ble_eq_true rfl⟩ [] (by decide) rfl [none] (by decide) rfl rfl rfl rfl (Nat.le_of_ble_eq_true rfl) dX7_room_4 rfl rfl ?_
  refine j_if_ne (tgt := 13) K dX7_room_7 (by decide) rfl h (fun h => ?_) (fun h => ?_)
  · refine j_aload_n K 0 rfl dX7_room_13 rfl ?_
    refine j_getf (C := RX7) (T := TX7) (N := 15) (ci := 7) K icX7 0 11 (List.mem_cons_of_mem _ mw_2_19) rfl rfl rfl (by decide) rfl dX7_room_14 rfl ?_
    refine j_istore_n (lv' := [(2, .int c_room), (0, .ref (a0 0)), (1, .int i1)]) K (by decide) rfl dX7_room_17 rfl ?_
    refine j_aload_n K 1 rfl dX7_room_18 rfl ?_
    refine j_iload_n K 2 rfl dX7_room_19 rfl ?_
    refine j_putf (C := RX7) (T := TX7) (N := 15) (ci := 7) (ty := .int) (ws' := (uX7_room cyI cyJ cyS a0 i1 c_finding c_courseKnown c_settledByKnown)) K icX7 tyX7 tyX7_ok nmX7 0 11 (List.mem_cons_of_mem _ mw_2_19) rfl rfl rfl (by decide) rfl (by decide +kernel) rfl rfl (Nat.le_of_ble_eq_true rfl) rfl dX7_room_20 rfl ?_
    refine j_aload_n K 1 rfl dX7_room_23 rfl ?_
    obtain ⟨c_courseKnown_2, c_settledByKnown_3, hc, h⟩ := bd2_some h
    refine j_callV (rest := []) (st1 := []) (ws' := (uX7_room cyI cyJ cyS a0 i1 c_finding c_courseKnown_2 c_settledByKnown_3)) (T := TX7) (N := 15) (ci := 7) K (ctX7_houseChanged l D cyI cyJ cyS a0 i1 c_finding c_courseKnown c_settledByKnown c_courseKnown_2 c_settledByKnown_3 hc) (gdV mcL mw_7_12 mw_7_13 mw_7_14 mw_1_2 mw_7_15) rfl ⟨rfl, rfl⟩ hyX7_houseChanged ⟨Nat.le_of_ble_eq_true rfl, Nat.le_of_ble_eq_true rfl, Nat.le_of_ble_eq_true rfl, Nat.le_of_ble_eq_true rfl⟩ [0] (by decide) rfl [some 0] (by decide) rfl rfl 0 rfl rfl rfl rfl (Nat.le_of_ble_eq_true rfl) dX7_room_24 rfl rfl ?_
    refine j_iload_n K 0 rfl dX7_room_27 rfl ?_
    obtain ⟨e1, g1⟩ := Prod.mk.inj (Option.some.inj h)
    subst e1
    obtain ⟨e2, g2⟩ := Prod.mk.inj g1
    subst e2
    obtain ⟨e3, g3⟩ := Prod.mk.inj g2
    subst e3
    subst g3
    exact j_iret K dX7_room_28
  · refine j_bipush (v := (-2 : Int32)) K (by decide) dX7_room_10 rfl ?_
    obtain ⟨e1, g1⟩ := Prod.mk.inj (Option.some.inj h)
    subst e1
    obtain ⟨e2, g2⟩ := Prod.mk.inj g1
    subst e2
    obtain ⟨e3, g3⟩ := Prod.mk.inj g2
    subst e3
    subst g3
    exact j_iret K dX7_room_12
abbrev uX7_event (cyI cyJ cyS : ClassId) (a0 : Nat → Nat) (c_room : Int32) (c_finding : Int32) (c_courseKnown : Int32) (c_settledByKnown : Int32) (c_events_size : Int32) (c_events_kind : Nat → Int32) (c_events_month : Nat → Int32) (c_events_number : Nat → Int32) : va_W := [((a0 0), .inr (7, [.ref (a0 1), .ref (a0 3), .ref (a0 7), .ref (a0 11), .ref (a0 15), .ref (a0 19), .ref (a0 31), .ref (a0 43), .ref (a0 44), .ref (a0 53), .ref (a0 54), .int c_room, .int c_finding, .int c_courseKnown, .int c_settledByKnown])), ((a0 11), .inr (2, [.ref (a0 12), .ref (a0 13), .ref (a0 14), .int c_events_size])), ((a0 12), .inl (cyI, 8, .inl c_events_kind)), ((a0 13), .inl (cyI, 8, .inl c_events_month)), ((a0 14), .inl (cyI, 8, .inl c_events_number))]
abbrev rmX7_event : Room := { frames := 3, cells := 0, slots := 0, locals := 64 }
abbrev wdX7_event : List Cond := .code yX7_event cX7_event 4 (some .int) :: wsL_law
theorem hyX7_event : yX7_event.cls = RX7 ∧ yX7_event.cls ≠ "java/lang/invoke/MethodHandle" ∧ yX7_event.cls ≠ "java/lang/invoke/VarHandle" ∧ (parseMethodDescriptor yX7_event.desc).map (fun d => d.parameters.length) = some 3 := by decide +kernel
set_option maxRecDepth 100000 in
set_option maxHeartbeats 4000000 in
theorem ctX7_event (l : Launch) (D : va_G) (cyI cyJ cyS : ClassId) (a0 : Nat → Nat) (i1 : Int32) (i2 : Int32) (i3 : Int32) (c_room : Int32) (c_finding : Int32) (c_courseKnown : Int32) (c_settledByKnown : Int32) (c_events : jT3) (o_r : Int32) (o_courseKnown : Int32) (o_settledByKnown : Int32) (o_events : jT3) (h : fX7_event i1 i2 i3 c_courseKnown c_settledByKnown c_events = some (o_r, o_courseKnown, o_settledByKnown, o_events)) : jC l yX7_event wdX7_event rmX7_event D vwCl (tyz cyI cyJ cyS) [.ref (a0 0), .int i1, .int i2, .int i3] (uX7_event cyI cyJ cyS a0 c_room c_finding c_courseKnown c_settledByKnown c_events.1 c_events.2.1 c_events.2.2.1 c_events.2.2.2) (some (.int o_r)) (uX7_event cyI cyJ cyS a0 c_room c_finding o_courseKnown o_settledByKnown o_events.1 o_events.2.1 o_events.2.2.1 o_events.2.2.2) := by
  refine jC_of (cc := cX7_event) (nL := 4) (ret := (some .int)) (own := RX7) (lv := [(0, .ref (a0 0)), (1, .int i1), (2, .int i2), (3, .int i3)]) (by decide) rfl rfl (Nat.le_of_ble_eq_true rfl) rfl ?_
  intro p e s m args below meth c A K
  unfold fX7_event at h
  refine j_iload_n K 1 rfl dX7_event_0 rfl ?_
  refine j_iload_n K 2 rfl dX7_event_1 rfl ?_
  refine j_iload_n K 3 rfl dX7_event_2 rfl ?_
  obtain ⟨r_1, hc, h⟩ := bd1_some h
  refine j_callS (rest := []) (st1 := [.int r_1]) (ws' := (uX7_event cyI cyJ cyS a0 c_room c_finding c_courseKnown c_settledByKnown c_events.1 c_events.2.1 c_events.2.2.1 c_events.2.2.2)) K (ctX2_canBe l D cyI cyJ cyS i1 i2 i3 r_1 hc) (gdS mcL mw_10_23 mw_11_0 mw_1_23 mw_11_1) rfl ⟨rfl, rfl⟩ hzX2_canBe ⟨Nat.le_of_ble_eq_true rfl, Nat.le_of_ble_eq_true rfl, Nat.le_of_ble_eq_true rfl, Nat.le_of_ble_eq_true rfl⟩ [] (by decide) rfl [none, none, none, none, none] (by decide) rfl rfl rfl rfl (Nat.le_of_ble_eq_true rfl) dX7_event_3 rfl rfl ?_
  refine j_if_ne (tgt := 12) K dX7_event_6 (by decide) rfl h (fun h => ?_) (fun h => ?_)
  · refine j_aload_n K 0 rfl dX7_event_12 rfl ?_
    refine j_getf (C := RX7) (T := TX7) (N := 15) (ci := 7) K icX7 0 3 (List.mem_cons_of_mem _ mw_2_0) rfl rfl rfl (by decide) rfl dX7_event_13 rfl ?_
    refine j_getf (C := RX2) (T := TX2) (N := 4) (ci := 2) K icX2 1 3 (List.mem_cons_of_mem _ mw_10_22) rfl rfl rfl (by decide) rfl dX7_event_16 rfl ?_
    refine j_bipush (v := (8 : Int32)) K (by decide) dX7_event_19 rfl ?_
    refine j_icmp_lt (tgt := 27) K dX7_event_21 (by decide) rfl h (fun h => ?_) (fun h => ?_)
    · refine j_aload_n K 0 rfl dX7_event_27 rfl ?_
      refine j_getf (C := RX7) (T := TX7) (N := 15) (ci := 7) K icX7 0 3 (List.mem_cons_of_mem _ mw_2_0) rfl rfl rfl (by decide) rfl dX7_event_28 rfl ?_
      refine j_iload_n K 1 rfl dX7_event_31 rfl ?_
      refine j_iload_n K 2 rfl dX7_event_32 rfl ?_
      refine j_iload_n K 3 rfl dX7_event_33 rfl ?_
      obtain ⟨c_events_size_2, c_events_kind_3, c_events_month_4, c_events_number_5, hc, h⟩ := bd4_some h
      refine j_callV (rest := []) (st1 := []) (ws' := (uX7_event cyI cyJ cyS a0 c_room c_finding c_courseKnown c_settledByKnown c_events_size_2 c_events_kind_3 c_events_month_4 c_events_number_5)) (T := TX2) (N := 4) (ci := 2) K (ctX2_add l D cyI cyJ cyS (fun k => a0 (k + 11)) i1 i2 i3 c_events.1 c_events.2.1 c_events.2.2.1 c_events.2.2.2 c_events_size_2 c_events_kind_3 c_events_month_4 c_events_number_5 hc) (gdV mcL mw_11_4 mw_11_5 mw_11_6 mw_1_23 mw_11_7) rfl ⟨rfl, rfl⟩ hyX2_add ⟨Nat.le_of_ble_eq_true rfl, Nat.le_of_ble_eq_true rfl, Nat.le_of_ble_eq_true rfl, Nat.le_of_ble_eq_true rfl⟩ [1, 2, 3, 4] (by decide) rfl [none, some 0, some 1, some 2, some 3] (by decide) rfl rfl 1 rfl rfl rfl rfl (Nat.le_of_ble_eq_true rfl) dX7_event_34 rfl rfl ?_
      refine j_aload_n K 0 rfl dX7_event_37 rfl ?_
      obtain ⟨c_courseKnown_6, c_settledByKnown_7, hc, h⟩ := bd2_some h
      refine j_callV (rest := []) (st1 := []) (ws' := (uX7_event cyI cyJ cyS a0 c_room c_finding c_courseKnown_6 c_settledByKnown_7 c_events_size_2 c_events_kind_3 c_events_month_4 c_events_number_5)) (T := TX7) (N := 15) (ci := 7) K (ctX7_houseChanged l D cyI cyJ cyS a0 c_room c_finding c_courseKnown c_settledByKnown c_courseKnown_6 c_settledByKnown_7 hc) (gdV mcL mw_7_12 mw_7_13 mw_7_14 mw_1_2 mw_7_15) rfl ⟨rfl, rfl⟩ hyX7_houseChanged ⟨Nat.le_of_ble_eq_true rfl, Nat.le_of_ble_eq_true rfl, Nat.le_of_ble_eq_true rfl, Nat.le_of_ble_eq_true rfl⟩ [0] (by decide) rfl [some 0, none, none, none, none] (by decide) rfl rfl 0 rfl rfl rfl rfl (Nat.le_of_ble_eq_true rfl) dX7_event_38 rfl rfl ?_
      refine j_aload_n K 0 rfl dX7_event_41 rfl ?_
      refine j_getf (C := RX7) (T := TX7) (N := 15) (ci := 7) K icX7 0 3 (List.mem_cons_of_mem _ mw_2_0) rfl rfl rfl (by decide) rfl dX7_event_42 rfl ?_
      refine j_getf (C := RX2) (T := TX2) (N := 4) (ci := 2) K icX2 1 3 (List.mem_cons_of_mem _ mw_10_22) rfl rfl rfl (by decide) rfl dX7_event_45 rfl ?_
      obtain ⟨e1, g1⟩ := Prod.mk.inj (Option.some.inj h)
      subst e1
      obtain ⟨e2, g2⟩ := Prod.mk.inj g1
      subst e2
      obtain ⟨e3, g3⟩ := Prod.mk.inj g2
      subst e3
      subst g3
      exact j_iret K dX7_event_48
    · refine j_bipush (v := (-4 : Int32)) K (by decide) dX7_event_24 rfl ?_
      obtain ⟨e1, g1⟩ := Prod.mk.inj (Option.some.inj h)
      subst e1
      obtain ⟨e2, g2⟩ := Prod.mk.inj g1
      subst e2
      obtain ⟨e3, g3⟩ := Prod.mk.inj g2
      subst e3
      subst g3
      exact j_iret K dX7_event_26
  · refine j_bipush (v := (-2 : Int32)) K (by decide) dX7_event_9 rfl ?_
    obtain ⟨e1, g1⟩ := Prod.mk.inj (Option.some.inj h)
    subst e1
    obtain ⟨e2, g2⟩ := Prod.mk.inj g1
    subst e2
    obtain ⟨e3, g3⟩ := Prod.mk.inj g2
    subst e3
    subst g3
    exact j_iret K dX7_event_11
abbrev uX7_back (cyI cyJ cyS : ClassId) (a0 : Nat → Nat) (c_room : Int32) (c_finding : Int32) (c_courseKnown : Int32) (c_settledByKnown : Int32) (c_events_size : Int32) : va_W := [((a0 0), .inr (7, [.ref (a0 1), .ref (a0 3), .ref (a0 7), .ref (a0 11), .ref (a0 15), .ref (a0 19), .ref (a0 31), .ref (a0 43), .ref (a0 44), .ref (a0 53), .ref (a0 54), .int c_room, .int c_finding, .int c_courseKnown, .int c_settledByKnown])), ((a0 11), .inr (2, [.ref (a0 12), .ref (a0 13), .ref (a0 14), .int c_events_size]))]
abbrev rmX7_back : Room := { frames := 1, cells := 0, slots := 0, locals := 20 }
abbrev wdX7_back : List Cond := .code yX7_back cX7_back 1 (some .int) :: wsL_law
theorem hyX7_back : yX7_back.cls = RX7 ∧ yX7_back.cls ≠ "java/lang/invoke/MethodHandle" ∧ yX7_back.cls ≠ "java/lang/invoke/VarHandle" ∧ (parseMethodDescriptor yX7_back.desc).map (fun d => d.parameters.length) = some 0 := by decide +kernel
set_option maxRecDepth 100000 in
set_option maxHeartbeats 4000000 in
theorem ctX7_back (l : Launch) (D : va_G) (cyI cyJ cyS : ClassId) (a0 : Nat → Nat) (c_room : Int32) (c_finding : Int32) (c_courseKnown : Int32) (c_settledByKnown : Int32) (c_events_size : Int32) (o_r : Int32) (o_courseKnown : Int32) (o_settledByKnown : Int32) (o_events_size : Int32) (h : fX7_back c_courseKnown c_settledByKnown c_events_size = some (o_r, o_courseKnown, o_settledByKnown, o_events_size)) : jC l yX7_back wdX7_back rmX7_back D vwCl (tyz cyI cyJ cyS) [.ref (a0 0)] (uX7_back cyI cyJ cyS a0 c_room c_finding c_courseKnown c_settledByKnown c_events_size) (some (.int o_r)) (uX7_back cyI cyJ cyS a0 c_room c_finding o_courseKnown o_settledByKnown o_events_size) := by
  refine jC_of (cc := cX7_back) (nL := 1) (ret := (some .int)) (own := RX7) (lv := [(0, .ref (a0 0))]) (by decide) rfl rfl (Nat.le_of_ble_eq_true rfl) rfl ?_
  intro p e s m args below meth c A K
  unfold fX7_back at h
  refine j_aload_n K 0 rfl dX7_back_0 rfl ?_
  refine j_getf (C := RX7) (T := TX7) (N := 15) (ci := 7) K icX7 0 3 (List.mem_cons_of_mem _ mw_2_0) rfl rfl rfl (by decide) rfl dX7_back_1 rfl ?_
  refine j_getf (C := RX2) (T := TX2) (N := 4) (ci := 2) K icX2 1 3 (List.mem_cons_of_mem _ mw_10_22) rfl rfl rfl (by decide) rfl dX7_back_4 rfl ?_
  refine j_if_ne (tgt := 13) K dX7_back_7 (by decide) rfl h (fun h => ?_) (fun h => ?_)
  · refine j_aload_n K 0 rfl dX7_back_13 rfl ?_
    refine j_getf (C := RX7) (T := TX7) (N := 15) (ci := 7) K icX7 0 3 (List.mem_cons_of_mem _ mw_2_0) rfl rfl rfl (by decide) rfl dX7_back_14 rfl ?_
    refine j_dup K rfl dX7_back_17 rfl ?_
    refine j_getf (C := RX2) (T := TX2) (N := 4) (ci := 2) K icX2 1 3 (List.mem_cons_of_mem _ mw_10_22) rfl rfl rfl (by decide) rfl dX7_back_18 rfl ?_
    refine j_iconst (v := (1 : Int32)) K (by decide) dX7_back_21 rfl ?_
    refine j_isub K dX7_back_22 rfl ?_
    refine j_nmI h (fun c_events_size_1 h => ?_)
    refine j_putf (C := RX2) (T := TX2) (N := 4) (ci := 2) (ty := .int) (ws' := (uX7_back cyI cyJ cyS a0 c_room c_finding c_courseKnown c_settledByKnown c_events_size_1)) K icX2 tyX2 tyX2_ok nmX2 1 3 (List.mem_cons_of_mem _ mw_10_22) rfl rfl rfl (by decide) rfl (by decide +kernel) rfl rfl (Nat.le_of_ble_eq_true rfl) rfl dX7_back_23 rfl ?_
    refine j_aload_n K 0 rfl dX7_back_26 rfl ?_
    obtain ⟨c_courseKnown_2, c_settledByKnown_3, hc, h⟩ := bd2_some h
    refine j_callV (rest := []) (st1 := []) (ws' := (uX7_back cyI cyJ cyS a0 c_room c_finding c_courseKnown_2 c_settledByKnown_3 c_events_size_1)) (T := TX7) (N := 15) (ci := 7) K (ctX7_houseChanged l D cyI cyJ cyS a0 c_room c_finding c_courseKnown c_settledByKnown c_courseKnown_2 c_settledByKnown_3 hc) (gdV mcL mw_7_12 mw_7_13 mw_7_14 mw_1_2 mw_7_15) rfl ⟨rfl, rfl⟩ hyX7_houseChanged ⟨Nat.le_of_ble_eq_true rfl, Nat.le_of_ble_eq_true rfl, Nat.le_of_ble_eq_true rfl, Nat.le_of_ble_eq_true rfl⟩ [0] (by decide) rfl [some 0, none] (by decide) rfl rfl 0 rfl rfl rfl rfl (Nat.le_of_ble_eq_true rfl) dX7_back_27 rfl rfl ?_
    refine j_aload_n K 0 rfl dX7_back_30 rfl ?_
    refine j_getf (C := RX7) (T := TX7) (N := 15) (ci := 7) K icX7 0 3 (List.mem_cons_of_mem _ mw_2_0) rfl rfl rfl (by decide) rfl dX7_back_31 rfl ?_
    refine j_getf (C := RX2) (T := TX2) (N := 4) (ci := 2) K icX2 1 3 (List.mem_cons_of_mem _ mw_10_22) rfl rfl rfl (by decide) rfl dX7_back_34 rfl ?_
    obtain ⟨e1, g1⟩ := Prod.mk.inj (Option.some.inj h)
    subst e1
    obtain ⟨e2, g2⟩ := Prod.mk.inj g1
    subst e2
    obtain ⟨e3, g3⟩ := Prod.mk.inj g2
    subst e3
    subst g3
    exact j_iret K dX7_back_37
  · refine j_bipush (v := (-3 : Int32)) K (by decide) dX7_back_10 rfl ?_
    obtain ⟨e1, g1⟩ := Prod.mk.inj (Option.some.inj h)
    subst e1
    obtain ⟨e2, g2⟩ := Prod.mk.inj g1
    subst e2
    obtain ⟨e3, g3⟩ := Prod.mk.inj g2
    subst e3
    subst g3
    exact j_iret K dX7_back_12
end GEN
