section GEN
variable {p : Program} {l : Launch} {e : Env} {s : State} {m : MethodId} {args : Array Value} {below : List Frame} {meth : Method} {c : Code} {A : Nat → Prop} {D : va_G} {cyI cyJ cyS : ClassId}
abbrev uX7_textChanged (cyI cyJ cyS : ClassId) (a0 : Nat → Nat) (c_room : Int32) (c_finding : Int32) (c_courseKnown : Int32) (c_settledByKnown : Int32) (c_text_size : Int32) (c_text_bytes : Nat → Int32) (c_told_size : Int32) (c_told_sort : Nat → Int32) (c_told_paid : Nat → Int32) (c_told_wage : Nat → Int32) : va_W := [((a0 0), .inr (7, [.ref (a0 1), .ref (a0 3), .ref (a0 7), .ref (a0 11), .ref (a0 15), .ref (a0 19), .ref (a0 31), .ref (a0 43), .ref (a0 44), .ref (a0 53), .ref (a0 54), .int c_room, .int c_finding, .int c_courseKnown, .int c_settledByKnown])), ((a0 1), .inr (6, [.ref (a0 2), .int c_text_size])), ((a0 2), .inl (cyI, 31, .inl c_text_bytes)), ((a0 3), .inr (5, [.ref (a0 4), .ref (a0 5), .ref (a0 6), .int c_told_size])), ((a0 4), .inl (cyI, 8, .inl c_told_sort)), ((a0 5), .inl (cyI, 8, .inl c_told_paid)), ((a0 6), .inl (cyI, 8, .inl c_told_wage))]
abbrev rmX7_textChanged : Room := { frames := 4, cells := 0, slots := 0, locals := 84 }
abbrev wdX7_textChanged : List Cond := .code yX7_textChanged cX7_textChanged 1 none :: wsL_law
theorem hyX7_textChanged : yX7_textChanged.cls = RX7 ∧ yX7_textChanged.cls ≠ "java/lang/invoke/MethodHandle" ∧ yX7_textChanged.cls ≠ "java/lang/invoke/VarHandle" ∧ (parseMethodDescriptor yX7_textChanged.desc).map (fun d => d.parameters.length) = some 0 := by decide +kernel
set_option maxRecDepth 100000 in
set_option maxHeartbeats 4000000 in
theorem ctX7_textChanged (l : Launch) (D : va_G) (cyI cyJ cyS : ClassId) (a0 : Nat → Nat) (c_room : Int32) (c_finding : Int32) (c_text : jT1) (c_courseKnown : Int32) (c_settledByKnown : Int32) (c_told : jT3) (o_courseKnown : Int32) (o_settledByKnown : Int32) (o_told : jT3) (h : fX7_textChanged c_text c_courseKnown c_settledByKnown c_told = some (o_courseKnown, o_settledByKnown, o_told)) : jC l yX7_textChanged wdX7_textChanged rmX7_textChanged D vwCl (tyz cyI cyJ cyS) [.ref (a0 0)] (uX7_textChanged cyI cyJ cyS a0 c_room c_finding c_courseKnown c_settledByKnown c_text.1 c_text.2 c_told.1 c_told.2.1 c_told.2.2.1 c_told.2.2.2) none (uX7_textChanged cyI cyJ cyS a0 c_room c_finding o_courseKnown o_settledByKnown c_text.1 c_text.2 o_told.1 o_told.2.1 o_told.2.2.1 o_told.2.2.2) := by
  refine jC_of (cc := cX7_textChanged) (nL := 1) (ret := none) (own := RX7) (lv := [(0, .ref (a0 0))]) (by decide) rfl rfl (Nat.le_of_ble_eq_true rfl) rfl ?_
  intro p e s m args below meth c A K
  unfold fX7_textChanged at h
  refine j_aload_n K 0 rfl dX7_textChanged_0 rfl ?_
  refine j_getf (C := RX7) (T := TX7) (N := 15) (ci := 7) K icX7 0 1 (List.mem_cons_of_mem _ mw_1_19) rfl rfl rfl (by decide) rfl dX7_textChanged_1 rfl ?_
  refine j_aload_n K 0 rfl dX7_textChanged_4 rfl ?_
  refine j_getf (C := RX7) (T := TX7) (N := 15) (ci := 7) K icX7 0 0 (List.mem_cons_of_mem _ mw_1_15) rfl rfl rfl (by decide) rfl dX7_textChanged_5 rfl ?_
  obtain ⟨c_told_size_1, c_told_sort_2, c_told_paid_3, c_told_wage_4, hc, h⟩ := bd4_some h
  refine j_callV (rest := []) (st1 := []) (ws' := (uX7_textChanged cyI cyJ cyS a0 c_room c_finding c_courseKnown c_settledByKnown c_text.1 c_text.2 c_told_size_1 c_told_sort_2 c_told_paid_3 c_told_wage_4)) (T := TX5) (N := 4) (ci := 5) K (ctX5_takeFrom l D cyI cyJ cyS (fun k => a0 (k + 3)) (fun k => a0 (k + 1)) c_text.1 c_text.2 c_told.1 c_told.2.1 c_told.2.2.1 c_told.2.2.2 c_told_size_1 c_told_sort_2 c_told_paid_3 c_told_wage_4 hc) (gdV mcL mw_6_19 mw_6_20 mw_6_21 mw_1_18 mw_6_22) rfl ⟨rfl, rfl⟩ hyX5_takeFrom ⟨Nat.le_of_ble_eq_true rfl, Nat.le_of_ble_eq_true rfl, Nat.le_of_ble_eq_true rfl, Nat.le_of_ble_eq_true rfl⟩ [3, 4, 5, 6, 1, 2] (by decide) rfl [none, some 4, some 5, some 0, some 1, some 2, some 3] (by decide) rfl rfl 3 rfl rfl rfl rfl (Nat.le_of_ble_eq_true rfl) dX7_textChanged_8 rfl rfl ?_
  refine j_aload_n K 0 rfl dX7_textChanged_11 rfl ?_
  obtain ⟨c_courseKnown_5, c_settledByKnown_6, hc, h⟩ := bd2_some h
  refine j_callV (rest := []) (st1 := []) (ws' := (uX7_textChanged cyI cyJ cyS a0 c_room c_finding c_courseKnown_5 c_settledByKnown_6 c_text.1 c_text.2 c_told_size_1 c_told_sort_2 c_told_paid_3 c_told_wage_4)) (T := TX7) (N := 15) (ci := 7) K (ctX7_houseChanged l D cyI cyJ cyS a0 c_room c_finding c_courseKnown c_settledByKnown c_courseKnown_5 c_settledByKnown_6 hc) (gdV mcL mw_7_12 mw_7_13 mw_7_14 mw_1_2 mw_7_15) rfl ⟨rfl, rfl⟩ hyX7_houseChanged ⟨Nat.le_of_ble_eq_true rfl, Nat.le_of_ble_eq_true rfl, Nat.le_of_ble_eq_true rfl, Nat.le_of_ble_eq_true rfl⟩ [0] (by decide) rfl [some 0, none, none, none, none, none, none] (by decide) rfl rfl 0 rfl rfl rfl rfl (Nat.le_of_ble_eq_true rfl) dX7_textChanged_12 rfl rfl ?_
  obtain ⟨e1, g1⟩ := Prod.mk.inj (Option.some.inj h)
  subst e1
  obtain ⟨e2, g2⟩ := Prod.mk.inj g1
  subst e2
  subst g2
  exact j_vret K dX7_textChanged_15
abbrev uX7_type (cyI cyJ cyS : ClassId) (a0 : Nat → Nat) (c_room : Int32) (c_finding : Int32) (c_courseKnown : Int32) (c_settledByKnown : Int32) (c_text_size : Int32) (c_text_bytes : Nat → Int32) (c_told_size : Int32) (c_told_sort : Nat → Int32) (c_told_paid : Nat → Int32) (c_told_wage : Nat → Int32) : va_W := [((a0 0), .inr (7, [.ref (a0 1), .ref (a0 3), .ref (a0 7), .ref (a0 11), .ref (a0 15), .ref (a0 19), .ref (a0 31), .ref (a0 43), .ref (a0 44), .ref (a0 53), .ref (a0 54), .int c_room, .int c_finding, .int c_courseKnown, .int c_settledByKnown])), ((a0 1), .inr (6, [.ref (a0 2), .int c_text_size])), ((a0 2), .inl (cyI, 31, .inl c_text_bytes)), ((a0 3), .inr (5, [.ref (a0 4), .ref (a0 5), .ref (a0 6), .int c_told_size])), ((a0 4), .inl (cyI, 8, .inl c_told_sort)), ((a0 5), .inl (cyI, 8, .inl c_told_paid)), ((a0 6), .inl (cyI, 8, .inl c_told_wage))]
abbrev rmX7_type : Room := { frames := 5, cells := 0, slots := 0, locals := 104 }
abbrev wdX7_type : List Cond := .code yX7_type cX7_type 2 (some .int) :: wsL_law
theorem hyX7_type : yX7_type.cls = RX7 ∧ yX7_type.cls ≠ "java/lang/invoke/MethodHandle" ∧ yX7_type.cls ≠ "java/lang/invoke/VarHandle" ∧ (parseMethodDescriptor yX7_type.desc).map (fun d => d.parameters.length) = some 1 := by decide +kernel
set_option maxRecDepth 100000 in
set_option maxHeartbeats 4000000 in
theorem ctX7_type (l : Launch) (D : va_G) (cyI cyJ cyS : ClassId) (a0 : Nat → Nat) (i1 : Int32) (c_room : Int32) (c_finding : Int32) (c_courseKnown : Int32) (c_settledByKnown : Int32) (c_text : jT1) (c_told : jT3) (o_r : Int32) (o_courseKnown : Int32) (o_settledByKnown : Int32) (o_text : jT1) (o_told : jT3) (h : fX7_type i1 c_courseKnown c_settledByKnown c_text c_told = some (o_r, o_courseKnown, o_settledByKnown, o_text, o_told)) : jC l yX7_type wdX7_type rmX7_type D vwCl (tyz cyI cyJ cyS) [.ref (a0 0), .int i1] (uX7_type cyI cyJ cyS a0 c_room c_finding c_courseKnown c_settledByKnown c_text.1 c_text.2 c_told.1 c_told.2.1 c_told.2.2.1 c_told.2.2.2) (some (.int o_r)) (uX7_type cyI cyJ cyS a0 c_room c_finding o_courseKnown o_settledByKnown o_text.1 o_text.2 o_told.1 o_told.2.1 o_told.2.2.1 o_told.2.2.2) := by
  refine jC_of (cc := cX7_type) (nL := 2) (ret := (some .int)) (own := RX7) (lv := [(0, .ref (a0 0)), (1, .int i1)]) (by decide) rfl rfl (Nat.le_of_ble_eq_true rfl) rfl ?_
  intro p e s m args below meth c A K
  unfold fX7_type at h
  refine j_iload_n K 1 rfl dX7_type_0 rfl ?_
  refine j_iconst (v := (0 : Int32)) K (by decide) dX7_type_1 rfl ?_
  refine j_sipush (v := (255 : Int32)) K (by decide) dX7_type_2 rfl ?_
  obtain ⟨r_1, hc, h⟩ := bd1_some h
  refine j_callS (rest := []) (st1 := [.int r_1]) (ws' := (uX7_type cyI cyJ cyS a0 c_room c_finding c_courseKnown c_settledByKnown c_text.1 c_text.2 c_told.1 c_told.2.1 c_told.2.2.1 c_told.2.2.2)) K (ctX7_within l D cyI cyJ cyS i1 (0 : Int32) (255 : Int32) r_1 hc) (gdS mcL mw_6_12 mw_6_13 mw_1_2 mw_6_14) rfl ⟨rfl, rfl⟩ hzX7_within ⟨Nat.le_of_ble_eq_true rfl, Nat.le_of_ble_eq_true rfl, Nat.le_of_ble_eq_true rfl, Nat.le_of_ble_eq_true rfl⟩ [] (by decide) rfl [none, none, none, none, none, none, none] (by decide) rfl rfl rfl rfl (Nat.le_of_ble_eq_true rfl) dX7_type_5 rfl rfl ?_
  refine j_if_ne (tgt := 14) K dX7_type_8 (by decide) rfl h (fun h => ?_) (fun h => ?_)
  · refine j_aload_n K 0 rfl dX7_type_14 rfl ?_
    refine j_getf (C := RX7) (T := TX7) (N := 15) (ci := 7) K icX7 0 0 (List.mem_cons_of_mem _ mw_1_15) rfl rfl rfl (by decide) rfl dX7_type_15 rfl ?_
    refine j_getf (C := RX6) (T := TX6) (N := 2) (ci := 6) K icX6 1 1 (List.mem_cons_of_mem _ mw_6_10) rfl rfl rfl (by decide) rfl dX7_type_18 rfl ?_
    refine j_bipush (v := (31 : Int32)) K (by decide) dX7_type_21 rfl ?_
    refine j_icmp_lt (tgt := 29) K dX7_type_23 (by decide) rfl h (fun h => ?_) (fun h => ?_)
    · refine j_aload_n K 0 rfl dX7_type_29 rfl ?_
      refine j_getf (C := RX7) (T := TX7) (N := 15) (ci := 7) K icX7 0 0 (List.mem_cons_of_mem _ mw_1_15) rfl rfl rfl (by decide) rfl dX7_type_30 rfl ?_
      refine j_getf (C := RX6) (T := TX6) (N := 2) (ci := 6) K icX6 1 0 (List.mem_cons_of_mem _ mw_6_11) rfl rfl rfl (by decide) rfl dX7_type_33 rfl ?_
      refine j_aload_n K 0 rfl dX7_type_36 rfl ?_
      refine j_getf (C := RX7) (T := TX7) (N := 15) (ci := 7) K icX7 0 0 (List.mem_cons_of_mem _ mw_1_15) rfl rfl rfl (by decide) rfl dX7_type_37 rfl ?_
      refine j_getf (C := RX6) (T := TX6) (N := 2) (ci := 6) K icX6 1 1 (List.mem_cons_of_mem _ mw_6_10) rfl rfl rfl (by decide) rfl dX7_type_40 rfl ?_
      refine j_iload_n K 1 rfl dX7_type_43 rfl ?_
      refine j_iast K 2 0 (fun z => (uX7_type cyI cyJ cyS a0 c_room c_finding c_courseKnown c_settledByKnown c_text.1 z c_told.1 c_told.2.1 c_told.2.2.1 c_told.2.2.2)) rfl rfl (fun _ => rfl) dX7_type_44 rfl h (fun c_text_bytes_2 h => ?_)
      refine j_aload_n K 0 rfl dX7_type_45 rfl ?_
      refine j_getf (C := RX7) (T := TX7) (N := 15) (ci := 7) K icX7 0 0 (List.mem_cons_of_mem _ mw_1_15) rfl rfl rfl (by decide) rfl dX7_type_46 rfl ?_
      refine j_dup K rfl dX7_type_49 rfl ?_
      refine j_getf (C := RX6) (T := TX6) (N := 2) (ci := 6) K icX6 1 1 (List.mem_cons_of_mem _ mw_6_10) rfl rfl rfl (by decide) rfl dX7_type_50 rfl ?_
      refine j_iconst (v := (1 : Int32)) K (by decide) dX7_type_53 rfl ?_
      refine j_iadd K dX7_type_54 rfl ?_
      refine j_nmI h (fun c_text_size_3 h => ?_)
      refine j_putf (C := RX6) (T := TX6) (N := 2) (ci := 6) (ty := .int) (ws' := (uX7_type cyI cyJ cyS a0 c_room c_finding c_courseKnown c_settledByKnown c_text_size_3 c_text_bytes_2 c_told.1 c_told.2.1 c_told.2.2.1 c_told.2.2.2)) K icX6 tyX6 tyX6_ok nmX6 1 1 (List.mem_cons_of_mem _ mw_6_10) rfl rfl rfl (by decide) rfl (by decide +kernel) rfl rfl (Nat.le_of_ble_eq_true rfl) rfl dX7_type_55 rfl ?_
      refine j_aload_n K 0 rfl dX7_type_58 rfl ?_
      obtain ⟨c_courseKnown_4, c_settledByKnown_5, c_told_6, hc, h⟩ := bd3_some h
      refine j_callV (rest := []) (st1 := []) (ws' := (uX7_type cyI cyJ cyS a0 c_room c_finding c_courseKnown_4 c_settledByKnown_5 c_text_size_3 c_text_bytes_2 c_told_6.1 c_told_6.2.1 c_told_6.2.2.1 c_told_6.2.2.2)) (T := TX7) (N := 15) (ci := 7) K (ctX7_textChanged l D cyI cyJ cyS a0 c_room c_finding (c_text_size_3, c_text_bytes_2) c_courseKnown c_settledByKnown c_told c_courseKnown_4 c_settledByKnown_5 c_told_6 hc) (gdV mcL mw_6_15 mw_6_16 mw_6_17 mw_1_2 mw_6_18) rfl ⟨rfl, rfl⟩ hyX7_textChanged ⟨Nat.le_of_ble_eq_true rfl, Nat.le_of_ble_eq_true rfl, Nat.le_of_ble_eq_true rfl, Nat.le_of_ble_eq_true rfl⟩ [0, 1, 2, 3, 4, 5, 6] (by decide) rfl [some 0, some 1, some 2, some 3, some 4, some 5, some 6] (by decide) rfl rfl 0 rfl rfl rfl rfl (Nat.le_of_ble_eq_true rfl) dX7_type_59 rfl rfl ?_
      refine j_aload_n K 0 rfl dX7_type_62 rfl ?_
      refine j_getf (C := RX7) (T := TX7) (N := 15) (ci := 7) K icX7 0 0 (List.mem_cons_of_mem _ mw_1_15) rfl rfl rfl (by decide) rfl dX7_type_63 rfl ?_
      refine j_getf (C := RX6) (T := TX6) (N := 2) (ci := 6) K icX6 1 1 (List.mem_cons_of_mem _ mw_6_10) rfl rfl rfl (by decide) rfl dX7_type_66 rfl ?_
      obtain ⟨e1, g1⟩ := Prod.mk.inj (Option.some.inj h)
      subst e1
      obtain ⟨e2, g2⟩ := Prod.mk.inj g1
      subst e2
      obtain ⟨e3, g3⟩ := Prod.mk.inj g2
      subst e3
      obtain ⟨e4, g4⟩ := Prod.mk.inj g3
      subst e4
      subst g4
      exact j_iret K dX7_type_69
    · refine j_bipush (v := (-4 : Int32)) K (by decide) dX7_type_26 rfl ?_
      obtain ⟨e1, g1⟩ := Prod.mk.inj (Option.some.inj h)
      subst e1
      obtain ⟨e2, g2⟩ := Prod.mk.inj g1
      subst e2
      obtain ⟨e3, g3⟩ := Prod.mk.inj g2
      subst e3
      obtain ⟨e4, g4⟩ := Prod.mk.inj g3
      subst e4
      subst g4
      exact j_iret K dX7_type_28
  · refine j_bipush (v := (-2 : Int32)) K (by decide) dX7_type_11 rfl ?_
    obtain ⟨e1, g1⟩ := Prod.mk.inj (Option.some.inj h)
    subst e1
    obtain ⟨e2, g2⟩ := Prod.mk.inj g1
    subst e2
    obtain ⟨e3, g3⟩ := Prod.mk.inj g2
    subst e3
    obtain ⟨e4, g4⟩ := Prod.mk.inj g3
    subst e4
    subst g4
    exact j_iret K dX7_type_13
abbrev uX7_wipe (cyI cyJ cyS : ClassId) (a0 : Nat → Nat) (c_room : Int32) (c_finding : Int32) (c_courseKnown : Int32) (c_settledByKnown : Int32) (c_text_size : Int32) (c_text_bytes : Nat → Int32) (c_told_size : Int32) (c_told_sort : Nat → Int32) (c_told_paid : Nat → Int32) (c_told_wage : Nat → Int32) : va_W := [((a0 0), .inr (7, [.ref (a0 1), .ref (a0 3), .ref (a0 7), .ref (a0 11), .ref (a0 15), .ref (a0 19), .ref (a0 31), .ref (a0 43), .ref (a0 44), .ref (a0 53), .ref (a0 54), .int c_room, .int c_finding, .int c_courseKnown, .int c_settledByKnown])), ((a0 1), .inr (6, [.ref (a0 2), .int c_text_size])), ((a0 2), .inl (cyI, 31, .inl c_text_bytes)), ((a0 3), .inr (5, [.ref (a0 4), .ref (a0 5), .ref (a0 6), .int c_told_size])), ((a0 4), .inl (cyI, 8, .inl c_told_sort)), ((a0 5), .inl (cyI, 8, .inl c_told_paid)), ((a0 6), .inl (cyI, 8, .inl c_told_wage))]
abbrev rmX7_wipe : Room := { frames := 5, cells := 0, slots := 0, locals := 104 }
abbrev wdX7_wipe : List Cond := .code yX7_wipe cX7_wipe 2 (some .int) :: wsL_law
theorem hyX7_wipe : yX7_wipe.cls = RX7 ∧ yX7_wipe.cls ≠ "java/lang/invoke/MethodHandle" ∧ yX7_wipe.cls ≠ "java/lang/invoke/VarHandle" ∧ (parseMethodDescriptor yX7_wipe.desc).map (fun d => d.parameters.length) = some 0 := by decide +kernel
set_option maxRecDepth 100000 in
set_option maxHeartbeats 4000000 in
theorem ctX7_wipe (l : Launch) (D : va_G) (cyI cyJ cyS : ClassId) (a0 : Nat → Nat) (c_room : Int32) (c_finding : Int32) (c_courseKnown : Int32) (c_settledByKnown : Int32) (c_text : jT1) (c_told : jT3) (o_r : Int32) (o_courseKnown : Int32) (o_settledByKnown : Int32) (o_text : jT1) (o_told : jT3) (h : fX7_wipe c_courseKnown c_settledByKnown c_text c_told = some (o_r, o_courseKnown, o_settledByKnown, o_text, o_told)) : jC l yX7_wipe wdX7_wipe rmX7_wipe D vwCl (tyz cyI cyJ cyS) [.ref (a0 0)] (uX7_wipe cyI cyJ cyS a0 c_room c_finding c_courseKnown c_settledByKnown c_text.1 c_text.2 c_told.1 c_told.2.1 c_told.2.2.1 c_told.2.2.2) (some (.int o_r)) (uX7_wipe cyI cyJ cyS a0 c_room c_finding o_courseKnown o_settledByKnown o_text.1 o_text.2 o_told.1 o_told.2.1 o_told.2.2.1 o_told.2.2.2) := by
  refine jC_of (cc := cX7_wipe) (nL := 2) (ret := (some .int)) (own := RX7) (lv := [(0, .ref (a0 0))]) (by decide) rfl rfl (Nat.le_of_ble_eq_true rfl) rfl ?_
  intro p e s m args below meth c A K
  unfold fX7_wipe at h
  refine j_aload_n K 0 rfl dX7_wipe_0 rfl ?_
  refine j_getf (C := RX7) (T := TX7) (N := 15) (ci := 7) K icX7 0 0 (List.mem_cons_of_mem _ mw_1_15) rfl rfl rfl (by decide) rfl dX7_wipe_1 rfl ?_
  refine j_getf (C := RX6) (T := TX6) (N := 2) (ci := 6) K icX6 1 1 (List.mem_cons_of_mem _ mw_6_10) rfl rfl rfl (by decide) rfl dX7_wipe_4 rfl ?_
  refine j_istore_n (lv' := [(1, .int c_text.1), (0, .ref (a0 0))]) K (by decide) rfl dX7_wipe_7 rfl ?_
  refine j_aload_n K 1 rfl dX7_wipe_8 rfl ?_
  refine j_getf (C := RX7) (T := TX7) (N := 15) (ci := 7) K icX7 0 0 (List.mem_cons_of_mem _ mw_1_15) rfl rfl rfl (by decide) rfl dX7_wipe_9 rfl ?_
  refine j_iconst (v := (0 : Int32)) K (by decide) dX7_wipe_12 rfl ?_
  refine j_putf (C := RX6) (T := TX6) (N := 2) (ci := 6) (ty := .int) (ws' := (uX7_wipe cyI cyJ cyS a0 c_room c_finding c_courseKnown c_settledByKnown (0 : Int32) c_text.2 c_told.1 c_told.2.1 c_told.2.2.1 c_told.2.2.2)) K icX6 tyX6 tyX6_ok nmX6 1 1 (List.mem_cons_of_mem _ mw_6_10) rfl rfl rfl (by decide) rfl (by decide +kernel) rfl rfl (Nat.le_of_ble_eq_true rfl) rfl dX7_wipe_13 rfl ?_
  refine j_aload_n K 1 rfl dX7_wipe_16 rfl ?_
  obtain ⟨c_courseKnown_1, c_settledByKnown_2, c_told_3, hc, h⟩ := bd3_some h
  refine j_callV (rest := []) (st1 := []) (ws' := (uX7_wipe cyI cyJ cyS a0 c_room c_finding c_courseKnown_1 c_settledByKnown_2 (0 : Int32) c_text.2 c_told_3.1 c_told_3.2.1 c_told_3.2.2.1 c_told_3.2.2.2)) (T := TX7) (N := 15) (ci := 7) K (ctX7_textChanged l D cyI cyJ cyS a0 c_room c_finding ((0 : Int32), c_text.2) c_courseKnown c_settledByKnown c_told c_courseKnown_1 c_settledByKnown_2 c_told_3 hc) (gdV mcL mw_6_15 mw_6_16 mw_6_17 mw_1_2 mw_6_18) rfl ⟨rfl, rfl⟩ hyX7_textChanged ⟨Nat.le_of_ble_eq_true rfl, Nat.le_of_ble_eq_true rfl, Nat.le_of_ble_eq_true rfl, Nat.le_of_ble_eq_true rfl⟩ [0, 1, 2, 3, 4, 5, 6] (by decide) rfl [some 0, some 1, some 2, some 3, some 4, some 5, some 6] (by decide) rfl rfl 0 rfl rfl rfl rfl (Nat.le_of_ble_eq_true rfl) dX7_wipe_17 rfl rfl ?_
  refine j_iload_n K 0 rfl dX7_wipe_20 rfl ?_
  obtain ⟨e1, g1⟩ := Prod.mk.inj (Option.some.inj h)
  subst e1
  obtain ⟨e2, g2⟩ := Prod.mk.inj g1
  subst e2
  obtain ⟨e3, g3⟩ := Prod.mk.inj g2
  subst e3
  obtain ⟨e4, g4⟩ := Prod.mk.inj g3
  subst e4
  subst g4
  exact j_iret K dX7_wipe_21
end GEN
