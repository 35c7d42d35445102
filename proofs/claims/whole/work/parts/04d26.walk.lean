section GEN
variable {p : Program} {l : Launch} {e : Env} {s : State} {m : MethodId} {args : Array Value} {below : List Frame} {meth : Method} {c : Code} {A : Nat → Prop} {D : va_G} {cyI cyJ cyS : ClassId}
abbrev uX7_sheet (cyI cyJ cyS : ClassId) (a0 : Nat → Nat) (c_room : Int32) (c_finding : Int32) (c_courseKnown : Int32) (c_settledByKnown : Int32) (c_sh0_form : Int32) (c_sh0_size : Int32) (c_sh0_lost : Int32) (c_sh0_items : Nat → Int32) (c_sh1_form : Int32) (c_sh1_size : Int32) (c_sh1_lost : Int32) (c_sh1_items : Nat → Int32) (c_sh2_form : Int32) (c_sh2_size : Int32) (c_sh2_lost : Int32) (c_sh2_items : Nat → Int32) (c_sh3_form : Int32) (c_sh3_size : Int32) (c_sh3_lost : Int32) (c_sh3_items : Nat → Int32) : va_W := [((a0 0), .inr (7, [.ref (a0 1), .ref (a0 3), .ref (a0 7), .ref (a0 11), .ref (a0 15), .ref (a0 19), .ref (a0 31), .ref (a0 43), .ref (a0 44), .ref (a0 53), .ref (a0 54), .int c_room, .int c_finding, .int c_courseKnown, .int c_settledByKnown])), ((a0 44), .inl (cyS, 4, .inr (.inr (.inr (.inr (va_up (va_up (va_up (va_up (fun _ => none) 0 (some (a0 45))) 1 (some (a0 47))) 2 (some (a0 49))) 3 (some (a0 51)))))))), ((a0 45), .inr (4, [.ref (a0 46), .int c_sh0_form, .int c_sh0_size, .int c_sh0_lost])), ((a0 46), .inl (cyI, 60, .inl c_sh0_items)), ((a0 47), .inr (4, [.ref (a0 48), .int c_sh1_form, .int c_sh1_size, .int c_sh1_lost])), ((a0 48), .inl (cyI, 60, .inl c_sh1_items)), ((a0 49), .inr (4, [.ref (a0 50), .int c_sh2_form, .int c_sh2_size, .int c_sh2_lost])), ((a0 50), .inl (cyI, 60, .inl c_sh2_items)), ((a0 51), .inr (4, [.ref (a0 52), .int c_sh3_form, .int c_sh3_size, .int c_sh3_lost])), ((a0 52), .inl (cyI, 60, .inl c_sh3_items))]
abbrev rmX7_sheet : Room := { frames := 2, cells := 0, slots := 0, locals := 45 }
abbrev wdX7_sheet : List Cond := .code yX7_sheet cX7_sheet 4 (some .int) :: wsL_law
theorem hyX7_sheet : yX7_sheet.cls = RX7 ∧ yX7_sheet.cls ≠ "java/lang/invoke/MethodHandle" ∧ yX7_sheet.cls ≠ "java/lang/invoke/VarHandle" ∧ (parseMethodDescriptor yX7_sheet.desc).map (fun d => d.parameters.length) = some 3 := by decide +kernel
set_option maxRecDepth 100000 in
set_option maxHeartbeats 4000000 in
theorem ctX7_sheet (l : Launch) (D : va_G) (cyI cyJ cyS : ClassId) (a0 : Nat → Nat) (i1 : Int32) (i2 : Int32) (i3 : Int32) (c_room : Int32) (c_courseKnown : Int32) (c_settledByKnown : Int32) (c_finding : Int32) (c_sh0 : jS4) (c_sh1 : jS4) (c_sh2 : jS4) (c_sh3 : jS4) (o_r : Int32) (o_finding : Int32) (o_sh0 : jS4) (o_sh1 : jS4) (o_sh2 : jS4) (o_sh3 : jS4) (h : fX7_sheet i1 i2 i3 c_finding c_sh0 c_sh1 c_sh2 c_sh3 = some (o_r, o_finding, o_sh0, o_sh1, o_sh2, o_sh3)) : jC l yX7_sheet wdX7_sheet rmX7_sheet D vwCl (tyz cyI cyJ cyS) [.ref (a0 0), .int i1, .int i2, .int i3] (uX7_sheet cyI cyJ cyS a0 c_room c_finding c_courseKnown c_settledByKnown c_sh0.1 c_sh0.2.1 c_sh0.2.2.1 c_sh0.2.2.2 c_sh1.1 c_sh1.2.1 c_sh1.2.2.1 c_sh1.2.2.2 c_sh2.1 c_sh2.2.1 c_sh2.2.2.1 c_sh2.2.2.2 c_sh3.1 c_sh3.2.1 c_sh3.2.2.1 c_sh3.2.2.2) (some (.int o_r)) (uX7_sheet cyI cyJ cyS a0 c_room o_finding c_courseKnown c_settledByKnown o_sh0.1 o_sh0.2.1 o_sh0.2.2.1 o_sh0.2.2.2 o_sh1.1 o_sh1.2.1 o_sh1.2.2.1 o_sh1.2.2.2 o_sh2.1 o_sh2.2.1 o_sh2.2.2.1 o_sh2.2.2.2 o_sh3.1 o_sh3.2.1 o_sh3.2.2.1 o_sh3.2.2.2) := by
  refine jC_of (cc := cX7_sheet) (nL := 4) (ret := (some .int)) (own := RX7) (lv := [(0, .ref (a0 0)), (1, .int i1), (2, .int i2), (3, .int i3)]) (by decide) rfl rfl (Nat.le_of_ble_eq_true rfl) rfl ?_
  intro p e s m args below meth c A K
  unfold fX7_sheet at h
  refine j_iload_n K 1 rfl dX7_sheet_0 rfl ?_
  refine j_iconst (v := (0 : Int32)) K (by decide) dX7_sheet_1 rfl ?_
  refine j_iconst (v := (3 : Int32)) K (by decide) dX7_sheet_2 rfl ?_
  obtain ⟨r_1, hc, h⟩ := bd1_some h
  refine j_callS (rest := []) (st1 := [.int r_1]) (ws' := (uX7_sheet cyI cyJ cyS a0 c_room c_finding c_courseKnown c_settledByKnown c_sh0.1 c_sh0.2.1 c_sh0.2.2.1 c_sh0.2.2.2 c_sh1.1 c_sh1.2.1 c_sh1.2.2.1 c_sh1.2.2.2 c_sh2.1 c_sh2.2.1 c_sh2.2.2.1 c_sh2.2.2.2 c_sh3.1 c_sh3.2.1 c_sh3.2.2.1 c_sh3.2.2.2)) K (ctX7_within l D cyI cyJ cyS i1 (0 : Int32) (3 : Int32) r_1 hc) (gdS mcL mw_6_12 mw_6_13 mw_1_2 mw_6_14) rfl ⟨rfl, rfl⟩ hzX7_within ⟨Nat.le_of_ble_eq_true rfl, Nat.le_of_ble_eq_true rfl, Nat.le_of_ble_eq_true rfl, Nat.le_of_ble_eq_true rfl⟩ [] (by decide) rfl [none, none, none, none, none, none, none, none, none, none] (by decide) rfl rfl rfl rfl (Nat.le_of_ble_eq_true rfl) dX7_sheet_3 rfl rfl ?_
  refine j_if_eq (tgt := 24) K dX7_sheet_6 (by decide) rfl h (fun h => ?_) (fun h => ?_)
  · refine j_bipush (v := (-2 : Int32)) K (by decide) dX7_sheet_24 rfl ?_
    obtain ⟨e1, g1⟩ := Prod.mk.inj (Option.some.inj h)
    subst e1
    obtain ⟨e2, g2⟩ := Prod.mk.inj g1
    subst e2
    obtain ⟨e3, g3⟩ := Prod.mk.inj g2
    subst e3
    obtain ⟨e4, g4⟩ := Prod.mk.inj g3
    subst e4
    obtain ⟨e5, g5⟩ := Prod.mk.inj g4
    subst e5
    subst g5
    exact j_iret K dX7_sheet_26
  · refine j_iload_n K 2 rfl dX7_sheet_9 rfl ?_
    refine j_iconst (v := (0 : Int32)) K (by decide) dX7_sheet_10 rfl ?_
    refine j_iconst (v := (2 : Int32)) K (by decide) dX7_sheet_11 rfl ?_
    obtain ⟨r_2, hc, h⟩ := bd1_some h
    refine j_callS (rest := []) (st1 := [.int r_2]) (ws' := (uX7_sheet cyI cyJ cyS a0 c_room c_finding c_courseKnown c_settledByKnown c_sh0.1 c_sh0.2.1 c_sh0.2.2.1 c_sh0.2.2.2 c_sh1.1 c_sh1.2.1 c_sh1.2.2.1 c_sh1.2.2.2 c_sh2.1 c_sh2.2.1 c_sh2.2.2.1 c_sh2.2.2.2 c_sh3.1 c_sh3.2.1 c_sh3.2.2.1 c_sh3.2.2.2)) K (ctX7_within l D cyI cyJ cyS i2 (0 : Int32) (2 : Int32) r_2 hc) (gdS mcL mw_6_12 mw_6_13 mw_1_2 mw_6_14) rfl ⟨rfl, rfl⟩ hzX7_within ⟨Nat.le_of_ble_eq_true rfl, Nat.le_of_ble_eq_true rfl, Nat.le_of_ble_eq_true rfl, Nat.le_of_ble_eq_true rfl⟩ [] (by decide) rfl [none, none, none, none, none, none, none, none, none, none] (by decide) rfl rfl rfl rfl (Nat.le_of_ble_eq_true rfl) dX7_sheet_12 rfl rfl ?_
    refine j_if_eq (tgt := 24) K dX7_sheet_15 (by decide) rfl h (fun h => ?_) (fun h => ?_)
    · refine j_bipush (v := (-2 : Int32)) K (by decide) dX7_sheet_24 rfl ?_
      obtain ⟨e1, g1⟩ := Prod.mk.inj (Option.some.inj h)
      subst e1
      obtain ⟨e2, g2⟩ := Prod.mk.inj g1
      subst e2
      obtain ⟨e3, g3⟩ := Prod.mk.inj g2
      subst e3
      obtain ⟨e4, g4⟩ := Prod.mk.inj g3
      subst e4
      obtain ⟨e5, g5⟩ := Prod.mk.inj g4
      subst e5
      subst g5
      exact j_iret K dX7_sheet_26
    · refine j_iload_n K 3 rfl dX7_sheet_18 rfl ?_
      refine j_bipush (v := (60 : Int32)) K (by decide) dX7_sheet_19 rfl ?_
      refine j_icmp_le (tgt := 27) K dX7_sheet_21 (by decide) rfl h (fun h => ?_) (fun h => ?_)
      · refine j_iload_n K 3 rfl dX7_sheet_27 rfl ?_
        refine j_if_ge (tgt := 37) K dX7_sheet_28 (by decide) rfl h (fun h => ?_) (fun h => ?_)
        · refine j_aload_n K 0 rfl dX7_sheet_37 rfl ?_
          refine j_getf (C := RX7) (T := TX7) (N := 15) (ci := 7) K icX7 0 8 (List.mem_cons_of_mem _ mw_2_15) rfl rfl rfl (by decide) rfl dX7_sheet_38 rfl ?_
          refine j_iload_n K 1 rfl dX7_sheet_41 rfl ?_
          rcases sw4_some h with ⟨fei1, h⟩ | ⟨fei1, h⟩ | ⟨fei1, h⟩ | ⟨fei1, h⟩
          · refine j_aald (b := (a0 45)) K 1 2 rfl rfl (vin4_0 fei1) (by rw [fei1]; rfl) dX7_sheet_42 rfl ?_
            refine j_iload_n K 2 rfl dX7_sheet_43 rfl ?_
            refine j_iload_n K 3 rfl dX7_sheet_44 rfl ?_
            obtain ⟨c_sh0_form_3, c_sh0_size_4, c_sh0_lost_5, c_sh0_items_6, hc, h⟩ := bd4_some h
            refine j_callV (rest := []) (st1 := []) (ws' := (uX7_sheet cyI cyJ cyS a0 c_room c_finding c_courseKnown c_settledByKnown c_sh0_form_3 c_sh0_size_4 c_sh0_lost_5 c_sh0_items_6 c_sh1.1 c_sh1.2.1 c_sh1.2.2.1 c_sh1.2.2.2 c_sh2.1 c_sh2.2.1 c_sh2.2.2.1 c_sh2.2.2.2 c_sh3.1 c_sh3.2.1 c_sh3.2.2.1 c_sh3.2.2.2)) (T := TX4) (N := 4) (ci := 4) K (ctX4_renew l D cyI cyJ cyS (fun k => a0 (k + 45)) i2 i3 c_sh0.1 c_sh0.2.1 c_sh0.2.2.1 c_sh0.2.2.2 c_sh0_form_3 c_sh0_size_4 c_sh0_lost_5 c_sh0_items_6 hc) (gdV mcL mw_36_18 mw_36_19 mw_36_20 mw_3_0 mw_36_21) rfl ⟨rfl, rfl⟩ hyX4_renew ⟨Nat.le_of_ble_eq_true rfl, Nat.le_of_ble_eq_true rfl, Nat.le_of_ble_eq_true rfl, Nat.le_of_ble_eq_true rfl⟩ [2, 3] (by decide) rfl [none, none, some 0, some 1, none, none, none, none, none, none] (by decide) rfl rfl 2 rfl rfl rfl rfl (Nat.le_of_ble_eq_true rfl) dX7_sheet_45 rfl rfl ?_
            refine j_iload_n K 3 rfl dX7_sheet_48 rfl ?_
            obtain ⟨e1, g1⟩ := Prod.mk.inj (Option.some.inj h)
            subst e1
            obtain ⟨e2, g2⟩ := Prod.mk.inj g1
            subst e2
            obtain ⟨e3, g3⟩ := Prod.mk.inj g2
            subst e3
            obtain ⟨e4, g4⟩ := Prod.mk.inj g3
            subst e4
            obtain ⟨e5, g5⟩ := Prod.mk.inj g4
            subst e5
            subst g5
            exact j_iret K dX7_sheet_49
          · refine j_aald (b := (a0 47)) K 1 2 rfl rfl (vin4_1 fei1) (by rw [fei1]; rfl) dX7_sheet_42 rfl ?_
            refine j_iload_n K 2 rfl dX7_sheet_43 rfl ?_
            refine j_iload_n K 3 rfl dX7_sheet_44 rfl ?_
            obtain ⟨c_sh1_form_7, c_sh1_size_8, c_sh1_lost_9, c_sh1_items_10, hc, h⟩ := bd4_some h
            refine j_callV (rest := []) (st1 := []) (ws' := (uX7_sheet cyI cyJ cyS a0 c_room c_finding c_courseKnown c_settledByKnown c_sh0.1 c_sh0.2.1 c_sh0.2.2.1 c_sh0.2.2.2 c_sh1_form_7 c_sh1_size_8 c_sh1_lost_9 c_sh1_items_10 c_sh2.1 c_sh2.2.1 c_sh2.2.2.1 c_sh2.2.2.2 c_sh3.1 c_sh3.2.1 c_sh3.2.2.1 c_sh3.2.2.2)) (T := TX4) (N := 4) (ci := 4) K (ctX4_renew l D cyI cyJ cyS (fun k => a0 (k + 47)) i2 i3 c_sh1.1 c_sh1.2.1 c_sh1.2.2.1 c_sh1.2.2.2 c_sh1_form_7 c_sh1_size_8 c_sh1_lost_9 c_sh1_items_10 hc) (gdV mcL mw_36_18 mw_36_19 mw_36_20 mw_3_0 mw_36_21) rfl ⟨rfl, rfl⟩ hyX4_renew ⟨Nat.le_of_ble_eq_true rfl, Nat.le_of_ble_eq_true rfl, Nat.le_of_ble_eq_true rfl, Nat.le_of_ble_eq_true rfl⟩ [4, 5] (by decide) rfl [none, none, none, none, some 0, some 1, none, none, none, none] (by decide) rfl rfl 4 rfl rfl rfl rfl (Nat.le_of_ble_eq_true rfl) dX7_sheet_45 rfl rfl ?_
            refine j_iload_n K 3 rfl dX7_sheet_48 rfl ?_
            obtain ⟨e1, g1⟩ := Prod.mk.inj (Option.some.inj h)
            subst e1
            obtain ⟨e2, g2⟩ := Prod.mk.inj g1
            subst e2
            obtain ⟨e3, g3⟩ := Prod.mk.inj g2
            subst e3
            obtain ⟨e4, g4⟩ := Prod.mk.inj g3
            subst e4
            obtain ⟨e5, g5⟩ := Prod.mk.inj g4
            subst e5
            subst g5
            exact j_iret K dX7_sheet_49
          · refine j_aald (b := (a0 49)) K 1 2 rfl rfl (vin4_2 fei1) (by rw [fei1]; rfl) dX7_sheet_42 rfl ?_
            refine j_iload_n K 2 rfl dX7_sheet_43 rfl ?_
            refine j_iload_n K 3 rfl dX7_sheet_44 rfl ?_
            obtain ⟨c_sh2_form_11, c_sh2_size_12, c_sh2_lost_13, c_sh2_items_14, hc, h⟩ := bd4_some h
            refine j_callV (rest := []) (st1 := []) (ws' := (uX7_sheet cyI cyJ cyS a0 c_room c_finding c_courseKnown c_settledByKnown c_sh0.1 c_sh0.2.1 c_sh0.2.2.1 c_sh0.2.2.2 c_sh1.1 c_sh1.2.1 c_sh1.2.2.1 c_sh1.2.2.2 c_sh2_form_11 c_sh2_size_12 c_sh2_lost_13 c_sh2_items_14 c_sh3.1 c_sh3.2.1 c_sh3.2.2.1 c_sh3.2.2.2)) (T := TX4) (N := 4) (ci := 4) K (ctX4_renew l D cyI cyJ cyS (fun k => a0 (k + 49)) i2 i3 c_sh2.1 c_sh2.2.1 c_sh2.2.2.1 c_sh2.2.2.2 c_sh2_form_11 c_sh2_size_12 c_sh2_lost_13 c_sh2_items_14 hc) (gdV mcL mw_36_18 mw_36_19 mw_36_20 mw_3_0 mw_36_21) rfl ⟨rfl, rfl⟩ hyX4_renew ⟨Nat.le_of_ble_eq_true rfl, Nat.le_of_ble_eq_true rfl, Nat.le_of_ble_eq_true rfl, Nat.le_of_ble_eq_true rfl⟩ [6, 7] (by decide) rfl [none, none, none, none, none, none, some 0, some 1, none, none] (by decide) rfl rfl 6 rfl rfl rfl rfl (Nat.le_of_ble_eq_true rfl) dX7_sheet_45 rfl rfl ?_
            refine j_iload_n K 3 rfl dX7_sheet_48 rfl ?_
            obtain ⟨e1, g1⟩ := Prod.mk.inj (Option.some.inj h)
            subst e1
            obtain ⟨e2, g2⟩ := Prod.mk.inj g1
            subst e2
            obtain ⟨e3, g3⟩ := Prod.mk.inj g2
            subst e3
            obtain ⟨e4, g4⟩ := Prod.mk.inj g3
            subst e4
            obtain ⟨e5, g5⟩ := Prod.mk.inj g4
            subst e5
            subst g5
            exact j_iret K dX7_sheet_49
          · refine j_aald (b := (a0 51)) K 1 2 rfl rfl (vin4_3 fei1) (by rw [fei1]; rfl) dX7_sheet_42 rfl ?_
            refine j_iload_n K 2 rfl dX7_sheet_43 rfl ?_
            refine j_iload_n K 3 rfl dX7_sheet_44 rfl ?_
            obtain ⟨c_sh3_form_15, c_sh3_size_16, c_sh3_lost_17, c_sh3_items_18, hc, h⟩ := bd4_some h
            refine j_callV (rest := []) (st1 := []) (ws' := (uX7_sheet cyI cyJ cyS a0 c_room c_finding c_courseKnown c_settledByKnown c_sh0.1 c_sh0.2.1 c_sh0.2.2.1 c_sh0.2.2.2 c_sh1.1 c_sh1.2.1 c_sh1.2.2.1 c_sh1.2.2.2 c_sh2.1 c_sh2.2.1 c_sh2.2.2.1 c_sh2.2.2.2 c_sh3_form_15 c_sh3_size_16 c_sh3_lost_17 c_sh3_items_18)) (T := TX4) (N := 4) (ci := 4) K (ctX4_renew l D cyI cyJ cyS (fun k => a0 (k + 51)) i2 i3 c_sh3.1 c_sh3.2.1 c_sh3.2.2.1 c_sh3.2.2.2 c_sh3_form_15 c_sh3_size_16 c_sh3_lost_17 c_sh3_items_18 hc) (gdV mcL mw_36_18 mw_36_19 mw_36_20 mw_3_0 mw_36_21) rfl ⟨rfl, rfl⟩ hyX4_renew ⟨Nat.le_of_ble_eq_true rfl, Nat.le_of_ble_eq_true rfl, Nat.le_of_ble_eq_true rfl, Nat.le_of_ble_eq_true rfl⟩ [8, 9] (by decide) rfl [none, none, none, none, none, none, none, none, some 0, some 1] (by decide) rfl rfl 8 rfl rfl rfl rfl (Nat.le_of_ble_eq_true rfl) dX7_sheet_45 rfl rfl ?_
            refine j_iload_n K 3 rfl dX7_sheet_48 rfl ?_
            obtain ⟨e1, g1⟩ := Prod.mk.inj (Option.some.inj h)
            subst e1
            obtain ⟨e2, g2⟩ := Prod.mk.inj g1
            subst e2
            obtain ⟨e3, g3⟩ := Prod.mk.inj g2
            subst e3
            obtain ⟨e4, g4⟩ := Prod.mk.inj g3
            subst e4
            obtain ⟨e5, g5⟩ := Prod.mk.inj g4
            subst e5
            subst g5
            exact j_iret K dX7_sheet_49
        · refine j_aload_n K 0 rfl dX7_sheet_31 rfl ?_
          refine j_iconst (v := (5 : Int32)) K (by decide) dX7_sheet_32 rfl ?_
          obtain ⟨r_19, c_finding_20, hc, h⟩ := bd2_some h
          refine j_callV (rest := []) (st1 := [.int r_19]) (ws' := (uX7_sheet cyI cyJ cyS a0 c_room c_finding_20 c_courseKnown c_settledByKnown c_sh0.1 c_sh0.2.1 c_sh0.2.2.1 c_sh0.2.2.2 c_sh1.1 c_sh1.2.1 c_sh1.2.2.1 c_sh1.2.2.2 c_sh2.1 c_sh2.2.1 c_sh2.2.2.1 c_sh2.2.2.2 c_sh3.1 c_sh3.2.1 c_sh3.2.2.1 c_sh3.2.2.2)) (T := TX7) (N := 15) (ci := 7) K (ctX7_found l D cyI cyJ cyS a0 (5 : Int32) c_room c_courseKnown c_settledByKnown c_finding r_19 c_finding_20 hc) (gdV mcL mw_12_9 mw_12_10 mw_12_11 mw_1_2 mw_12_12) rfl ⟨rfl, rfl⟩ hyX7_found ⟨Nat.le_of_ble_eq_true rfl, Nat.le_of_ble_eq_true rfl, Nat.le_of_ble_eq_true rfl, Nat.le_of_ble_eq_true rfl⟩ [0] (by decide) rfl [some 0, none, none, none, none, none, none, none, none, none] (by decide) rfl rfl 0 rfl rfl rfl rfl (Nat.le_of_ble_eq_true rfl) dX7_sheet_33 rfl rfl ?_
          obtain ⟨e1, g1⟩ := Prod.mk.inj (Option.some.inj h)
          subst e1
          obtain ⟨e2, g2⟩ := Prod.mk.inj g1
          subst e2
          obtain ⟨e3, g3⟩ := Prod.mk.inj g2
          subst e3
          obtain ⟨e4, g4⟩ := Prod.mk.inj g3
          subst e4
          obtain ⟨e5, g5⟩ := Prod.mk.inj g4
          subst e5
          subst g5
          exact j_iret K dX7_sheet_36
      · refine j_bipush (v := (-2 : Int32)) K (by decide) dX7_sheet_24 rfl ?_
        obtain ⟨e1, g1⟩ := Prod.mk.inj (Option.some.inj h)
        subst e1
        obtain ⟨e2, g2⟩ := Prod.mk.inj g1
        subst e2
        obtain ⟨e3, g3⟩ := Prod.mk.inj g2
        subst e3
        obtain ⟨e4, g4⟩ := Prod.mk.inj g3
        subst e4
        obtain ⟨e5, g5⟩ := Prod.mk.inj g4
        subst e5
        subst g5
        exact j_iret K dX7_sheet_26
end GEN
