section GEN
variable {p : Program} {l : Launch} {e : Env} {s : State} {m : MethodId} {args : Array Value} {below : List Frame} {meth : Method} {c : Code} {A : Nat → Prop} {D : va_G} {cyI cyJ cyS : ClassId}
abbrev uX7_get (cyI cyJ cyS : ClassId) (a0 : Nat → Nat) (c_room : Int32) (c_finding : Int32) (c_courseKnown : Int32) (c_settledByKnown : Int32) (c_sh0_form : Int32) (c_sh0_size : Int32) (c_sh0_lost : Int32) (c_sh0_items : Nat → Int32) (c_sh1_form : Int32) (c_sh1_size : Int32) (c_sh1_lost : Int32) (c_sh1_items : Nat → Int32) (c_sh2_form : Int32) (c_sh2_size : Int32) (c_sh2_lost : Int32) (c_sh2_items : Nat → Int32) (c_sh3_form : Int32) (c_sh3_size : Int32) (c_sh3_lost : Int32) (c_sh3_items : Nat → Int32) : va_W := [((a0 0), .inr (7, [.ref (a0 1), .ref (a0 3), .ref (a0 7), .ref (a0 11), .ref (a0 15), .ref (a0 19), .ref (a0 31), .ref (a0 43), .ref (a0 44), .ref (a0 53), .ref (a0 54), .int c_room, .int c_finding, .int c_courseKnown, .int c_settledByKnown])), ((a0 44), .inl (cyS, 4, .inr (.inr (.inr (.inr (va_up (va_up (va_up (va_up (fun _ => none) 0 (some (a0 45))) 1 (some (a0 47))) 2 (some (a0 49))) 3 (some (a0 51)))))))), ((a0 45), .inr (4, [.ref (a0 46), .int c_sh0_form, .int c_sh0_size, .int c_sh0_lost])), ((a0 46), .inl (cyI, 60, .inl c_sh0_items)), ((a0 47), .inr (4, [.ref (a0 48), .int c_sh1_form, .int c_sh1_size, .int c_sh1_lost])), ((a0 48), .inl (cyI, 60, .inl c_sh1_items)), ((a0 49), .inr (4, [.ref (a0 50), .int c_sh2_form, .int c_sh2_size, .int c_sh2_lost])), ((a0 50), .inl (cyI, 60, .inl c_sh2_items)), ((a0 51), .inr (4, [.ref (a0 52), .int c_sh3_form, .int c_sh3_size, .int c_sh3_lost])), ((a0 52), .inl (cyI, 60, .inl c_sh3_items))]
abbrev rmX7_get : Room := { frames := 1, cells := 0, slots := 0, locals := 22 }
abbrev wdX7_get : List Cond := .code yX7_get cX7_get 5 (some .int) :: wsL_law
theorem hyX7_get : yX7_get.cls = RX7 ∧ yX7_get.cls ≠ "java/lang/invoke/MethodHandle" ∧ yX7_get.cls ≠ "java/lang/invoke/VarHandle" ∧ (parseMethodDescriptor yX7_get.desc).map (fun d => d.parameters.length) = some 3 := by decide +kernel
set_option maxRecDepth 100000 in
set_option maxHeartbeats 4000000 in
theorem ctX7_get (l : Launch) (D : va_G) (cyI cyJ cyS : ClassId) (a0 : Nat → Nat) (i1 : Int32) (i2 : Int32) (i3 : Int32) (c_room : Int32) (c_courseKnown : Int32) (c_settledByKnown : Int32) (c_sh0 : jS4) (c_sh1 : jS4) (c_sh2 : jS4) (c_sh3 : jS4) (c_finding : Int32) (o_r : Int32) (o_finding : Int32) (h : fX7_get i1 i2 i3 c_sh0 c_sh1 c_sh2 c_sh3 c_finding = some (o_r, o_finding)) : jC l yX7_get wdX7_get rmX7_get D vwCl (tyz cyI cyJ cyS) [.ref (a0 0), .int i1, .int i2, .int i3] (uX7_get cyI cyJ cyS a0 c_room c_finding c_courseKnown c_settledByKnown c_sh0.1 c_sh0.2.1 c_sh0.2.2.1 c_sh0.2.2.2 c_sh1.1 c_sh1.2.1 c_sh1.2.2.1 c_sh1.2.2.2 c_sh2.1 c_sh2.2.1 c_sh2.2.2.1 c_sh2.2.2.2 c_sh3.1 c_sh3.2.1 c_sh3.2.2.1 c_sh3.2.2.2) (some (.int o_r)) (uX7_get cyI cyJ cyS a0 c_room o_finding c_courseKnown c_settledByKnown c_sh0.1 c_sh0.2.1 c_sh0.2.2.1 c_sh0.2.2.2 c_sh1.1 c_sh1.2.1 c_sh1.2.2.1 c_sh1.2.2.2 c_sh2.1 c_sh2.2.1 c_sh2.2.2.1 c_sh2.2.2.2 c_sh3.1 c_sh3.2.1 c_sh3.2.2.1 c_sh3.2.2.2) := by
  refine jC_of (cc := cX7_get) (nL := 5) (ret := (some .int)) (own := RX7) (lv := [(0, .ref (a0 0)), (1, .int i1), (2, .int i2), (3, .int i3)]) (by decide) rfl rfl (Nat.le_of_ble_eq_true rfl) rfl ?_
  intro p e s m args below meth c A K
  unfold fX7_get at h
  refine j_iload_n K 1 rfl dX7_get_0 rfl ?_
  refine j_iconst (v := (0 : Int32)) K (by decide) dX7_get_1 rfl ?_
  refine j_iconst (v := (3 : Int32)) K (by decide) dX7_get_2 rfl ?_
  obtain ⟨r_1, hc, h⟩ := bd1_some h
  refine j_callS (rest := []) (st1 := [.int r_1]) (ws' := (uX7_get cyI cyJ cyS a0 c_room c_finding c_courseKnown c_settledByKnown c_sh0.1 c_sh0.2.1 c_sh0.2.2.1 c_sh0.2.2.2 c_sh1.1 c_sh1.2.1 c_sh1.2.2.1 c_sh1.2.2.2 c_sh2.1 c_sh2.2.1 c_sh2.2.2.1 c_sh2.2.2.2 c_sh3.1 c_sh3.2.1 c_sh3.2.2.1 c_sh3.2.2.2)) K (ctX7_within l D cyI cyJ cyS i1 (0 : Int32) (3 : Int32) r_1 hc) (gdS mcL mw_6_12 mw_6_13 mw_1_2 mw_6_14) rfl ⟨rfl, rfl⟩ hzX7_within ⟨Nat.le_of_ble_eq_true rfl, Nat.le_of_ble_eq_true rfl, Nat.le_of_ble_eq_true rfl, Nat.le_of_ble_eq_true rfl⟩ [] (by decide) rfl [none, none, none, none, none, none, none, none, none, none] (by decide) rfl rfl rfl rfl (Nat.le_of_ble_eq_true rfl) dX7_get_3 rfl rfl ?_
  refine j_if_eq (tgt := 18) K dX7_get_6 (by decide) rfl h (fun h => ?_) (fun h => ?_)
  · refine j_ldc (v := (-2147483648 : Int32)) K (List.mem_cons_of_mem _ mw_13_8) dX7_get_18 rfl ?_
    obtain ⟨e1, g1⟩ := Prod.mk.inj (Option.some.inj h)
    subst e1
    subst g1
    exact j_iret K dX7_get_20
  · refine j_iload_n K 2 rfl dX7_get_9 rfl ?_
    refine j_iconst (v := (0 : Int32)) K (by decide) dX7_get_10 rfl ?_
    refine j_iconst (v := (2 : Int32)) K (by decide) dX7_get_11 rfl ?_
    obtain ⟨r_2, hc, h⟩ := bd1_some h
    refine j_callS (rest := []) (st1 := [.int r_2]) (ws' := (uX7_get cyI cyJ cyS a0 c_room c_finding c_courseKnown c_settledByKnown c_sh0.1 c_sh0.2.1 c_sh0.2.2.1 c_sh0.2.2.2 c_sh1.1 c_sh1.2.1 c_sh1.2.2.1 c_sh1.2.2.2 c_sh2.1 c_sh2.2.1 c_sh2.2.2.1 c_sh2.2.2.2 c_sh3.1 c_sh3.2.1 c_sh3.2.2.1 c_sh3.2.2.2)) K (ctX7_within l D cyI cyJ cyS i2 (0 : Int32) (2 : Int32) r_2 hc) (gdS mcL mw_6_12 mw_6_13 mw_1_2 mw_6_14) rfl ⟨rfl, rfl⟩ hzX7_within ⟨Nat.le_of_ble_eq_true rfl, Nat.le_of_ble_eq_true rfl, Nat.le_of_ble_eq_true rfl, Nat.le_of_ble_eq_true rfl⟩ [] (by decide) rfl [none, none, none, none, none, none, none, none, none, none] (by decide) rfl rfl rfl rfl (Nat.le_of_ble_eq_true rfl) dX7_get_12 rfl rfl ?_
    refine j_if_ne (tgt := 21) K dX7_get_15 (by decide) rfl h (fun h => ?_) (fun h => ?_)
    · refine j_aload_n K 0 rfl dX7_get_21 rfl ?_
      refine j_getf (C := RX7) (T := TX7) (N := 15) (ci := 7) K icX7 0 8 (List.mem_cons_of_mem _ mw_2_15) rfl rfl rfl (by decide) rfl dX7_get_22 rfl ?_
      refine j_iload_n K 1 rfl dX7_get_25 rfl ?_
      rcases sw4_some h with ⟨fei1, h⟩ | ⟨fei1, h⟩ | ⟨fei1, h⟩ | ⟨fei1, h⟩
      · refine j_aald (b := (a0 45)) K 1 2 rfl rfl (vin4_0 fei1) (by rw [fei1]; rfl) dX7_get_26 rfl ?_
        refine j_iload_n K 2 rfl dX7_get_27 rfl ?_
        refine j_iload_n K 3 rfl dX7_get_28 rfl ?_
        obtain ⟨r_3, hc, h⟩ := bd1_some h
        refine j_callV (rest := []) (st1 := [.int r_3]) (ws' := (uX7_get cyI cyJ cyS a0 c_room c_finding c_courseKnown c_settledByKnown c_sh0.1 c_sh0.2.1 c_sh0.2.2.1 c_sh0.2.2.2 c_sh1.1 c_sh1.2.1 c_sh1.2.2.1 c_sh1.2.2.2 c_sh2.1 c_sh2.2.1 c_sh2.2.2.1 c_sh2.2.2.2 c_sh3.1 c_sh3.2.1 c_sh3.2.2.1 c_sh3.2.2.2)) (T := TX4) (N := 4) (ci := 4) K (ctX4_flaw l D cyI cyJ cyS (fun k => a0 (k + 45)) i2 i3 c_sh0.1 c_sh0.2.1 c_sh0.2.2.1 r_3 hc) (gdV mcL mw_37_15 mw_37_16 mw_37_17 mw_3_0 mw_37_18) rfl ⟨rfl, rfl⟩ hyX4_flaw ⟨Nat.le_of_ble_eq_true rfl, Nat.le_of_ble_eq_true rfl, Nat.le_of_ble_eq_true rfl, Nat.le_of_ble_eq_true rfl⟩ [2] (by decide) rfl [none, none, some 0, none, none, none, none, none, none, none] (by decide) rfl rfl 2 rfl rfl rfl rfl (Nat.le_of_ble_eq_true rfl) dX7_get_29 rfl rfl ?_
        refine j_istore (lv' := [(4, .int r_3), (0, .ref (a0 0)), (1, .int i1), (2, .int i2), (3, .int i3)]) K (by decide) rfl dX7_get_32 rfl ?_
        refine j_iload K 0 rfl dX7_get_34 rfl ?_
        refine j_if_eq (tgt := 48) K dX7_get_36 (by decide) rfl h (fun h => ?_) (fun h => ?_)
        · refine j_aload_n K 1 rfl dX7_get_48 rfl ?_
          refine j_getf (C := RX7) (T := TX7) (N := 15) (ci := 7) K icX7 0 8 (List.mem_cons_of_mem _ mw_2_15) rfl rfl rfl (by decide) rfl dX7_get_49 rfl ?_
          refine j_iload_n K 2 rfl dX7_get_52 rfl ?_
          refine j_aald (b := (a0 45)) K 1 2 rfl rfl (vin4_0 fei1) (by rw [fei1]; rfl) dX7_get_53 rfl ?_
          refine j_getf (C := RX4) (T := TX4) (N := 4) (ci := 4) K icX4 2 0 (List.mem_cons_of_mem _ mw_12_7) rfl rfl rfl (by decide) rfl dX7_get_54 rfl ?_
          refine j_iload_n K 4 rfl dX7_get_57 rfl ?_
          refine j_iald K 3 0 rfl rfl dX7_get_58 rfl h (fun v_4 h => ?_)
          obtain ⟨e1, g1⟩ := Prod.mk.inj (Option.some.inj h)
          subst e1
          subst g1
          exact j_iret K dX7_get_59
        · refine j_aload_n K 1 rfl dX7_get_39 rfl ?_
          refine j_iload K 0 rfl dX7_get_40 rfl ?_
          refine j_putf (C := RX7) (T := TX7) (N := 15) (ci := 7) (ty := .int) (ws' := (uX7_get cyI cyJ cyS a0 c_room r_3 c_courseKnown c_settledByKnown c_sh0.1 c_sh0.2.1 c_sh0.2.2.1 c_sh0.2.2.2 c_sh1.1 c_sh1.2.1 c_sh1.2.2.1 c_sh1.2.2.2 c_sh2.1 c_sh2.2.1 c_sh2.2.2.1 c_sh2.2.2.2 c_sh3.1 c_sh3.2.1 c_sh3.2.2.1 c_sh3.2.2.2)) K icX7 tyX7 tyX7_ok nmX7 0 12 (List.mem_cons_of_mem _ mw_2_20) rfl rfl rfl (by decide) rfl (by decide +kernel) rfl rfl (Nat.le_of_ble_eq_true rfl) rfl dX7_get_42 rfl ?_
          refine j_ldc (v := (-2147483648 : Int32)) K (List.mem_cons_of_mem _ mw_13_8) dX7_get_45 rfl ?_
          obtain ⟨e1, g1⟩ := Prod.mk.inj (Option.some.inj h)
          subst e1
          subst g1
          exact j_iret K dX7_get_47
      · refine j_aald (b := (a0 47)) K 1 2 rfl rfl (vin4_1 fei1) (by rw [fei1]; rfl) dX7_get_26 rfl ?_
        refine j_iload_n K 2 rfl dX7_get_27 rfl ?_
        refine j_iload_n K 3 rfl dX7_get_28 rfl ?_
        obtain ⟨r_5, hc, h⟩ := bd1_some h
        refine j_callV (rest := []) (st1 := [.int r_5]) (ws' := (uX7_get cyI cyJ cyS a0 c_room c_finding c_courseKnown c_settledByKnown c_sh0.1 c_sh0.2.1 c_sh0.2.2.1 c_sh0.2.2.2 c_sh1.1 c_sh1.2.1 c_sh1.2.2.1 c_sh1.2.2.2 c_sh2.1 c_sh2.2.1 c_sh2.2.2.1 c_sh2.2.2.2 c_sh3.1 c_sh3.2.1 c_sh3.2.2.1 c_sh3.2.2.2)) (T := TX4) (N := 4) (ci := 4) K (ctX4_flaw l D cyI cyJ cyS (fun k => a0 (k + 47)) i2 i3 c_sh1.1 c_sh1.2.1 c_sh1.2.2.1 r_5 hc) (gdV mcL mw_37_15 mw_37_16 mw_37_17 mw_3_0 mw_37_18) rfl ⟨rfl, rfl⟩ hyX4_flaw ⟨Nat.le_of_ble_eq_true rfl, Nat.le_of_ble_eq_true rfl, Nat.le_of_ble_eq_true rfl, Nat.le_of_ble_eq_true rfl⟩ [4] (by decide) rfl [none, none, none, none, some 0, none, none, none, none, none] (by decide) rfl rfl 4 rfl rfl rfl rfl (Nat.le_of_ble_eq_true rfl) dX7_get_29 rfl rfl ?_
        refine j_istore (lv' := [(4, .int r_5), (0, .ref (a0 0)), (1, .int i1), (2, .int i2), (3, .int i3)]) K (by decide) rfl dX7_get_32 rfl ?_
        refine j_iload K 0 rfl dX7_get_34 rfl ?_
        refine j_if_eq (tgt := 48) K dX7_get_36 (by decide) rfl h (fun h => ?_) (fun h => ?_)
        · refine j_aload_n K 1 rfl dX7_get_48 rfl ?_
          refine j_getf (C := RX7) (T := TX7) (N := 15) (ci := 7) K icX7 0 8 (List.mem_cons_of_mem _ mw_2_15) rfl rfl rfl (by decide) rfl dX7_get_49 rfl ?_
          refine j_iload_n K 2 rfl dX7_get_52 rfl ?_
          refine j_aald (b := (a0 47)) K 1 2 rfl rfl (vin4_1 fei1) (by rw [fei1]; rfl) dX7_get_53 rfl ?_
          refine j_getf (C := RX4) (T := TX4) (N := 4) (ci := 4) K icX4 4 0 (List.mem_cons_of_mem _ mw_12_7) rfl rfl rfl (by decide) rfl dX7_get_54 rfl ?_
          refine j_iload_n K 4 rfl dX7_get_57 rfl ?_
          refine j_iald K 5 0 rfl rfl dX7_get_58 rfl h (fun v_6 h => ?_)
          obtain ⟨e1, g1⟩ := Prod.mk.inj (Option.some.inj h)
          subst e1
          subst g1
          exact j_iret K dX7_get_59
        · refine j_aload_n K 1 rfl dX7_get_39 rfl ?_
          refine j_iload K 0 rfl dX7_get_40 rfl ?_
          refine j_putf (C := RX7) (T := TX7) (N := 15) (ci := 7) (ty := .int) (ws' := (uX7_get cyI cyJ cyS a0 c_room r_5 c_courseKnown c_settledByKnown c_sh0.1 c_sh0.2.1 c_sh0.2.2.1 c_sh0.2.2.2 c_sh1.1 c_sh1.2.1 c_sh1.2.2.1 c_sh1.2.2.2 c_sh2.1 c_sh2.2.1 c_sh2.2.2.1 c_sh2.2.2.2 c_sh3.1 c_sh3.2.1 c_sh3.2.2.1 c_sh3.2.2.2)) K icX7 tyX7 tyX7_ok nmX7 0 12 (List.mem_cons_of_mem _ mw_2_20) rfl rfl rfl (by decide) rfl (by decide +kernel) rfl rfl (Nat.le_of_ble_eq_true rfl) rfl dX7_get_42 rfl ?_
          refine j_ldc (v := (-2147483648 : Int32)) K (List.mem_cons_of_mem _ mw_13_8) dX7_get_45 rfl ?_
          obtain ⟨e1, g1⟩ := Prod.mk.inj (Option.some.inj h)
          subst e1
          subst g1
          exact j_iret K dX7_get_47
      · refine j_aald (b := (a0 49)) K 1 2 rfl rfl (vin4_2 fei1) (by rw [fei1]; rfl) dX7_get_26 rfl ?_
        refine j_iload_n K 2 rfl dX7_get_27 rfl ?_
        refine j_iload_n K 3 rfl dX7_get_28 rfl ?_
        obtain ⟨r_7, hc, h⟩ := bd1_some h
        refine j_callV (rest := []) (st1 := [.int r_7]) (ws' := (uX7_get cyI cyJ cyS a0 c_room c_finding c_courseKnown c_settledByKnown c_sh0.1 c_sh0.2.1 c_sh0.2.2.1 c_sh0.2.2.2 c_sh1.1 c_sh1.2.1 c_sh1.2.2.1 c_sh1.2.2.2 c_sh2.1 c_sh2.2.1 c_sh2.2.2.1 c_sh2.2.2.2 c_sh3.1 c_sh3.2.1 c_sh3.2.2.1 c_sh3.2.2.2)) (T := TX4) (N := 4) (ci := 4) K (ctX4_flaw l D cyI cyJ cyS (fun k => a0 (k + 49)) i2 i3 c_sh2.1 c_sh2.2.1 c_sh2.2.2.1 r_7 hc) (gdV mcL mw_37_15 mw_37_16 mw_37_17 mw_3_0 mw_37_18) rfl ⟨rfl, rfl⟩ hyX4_flaw ⟨Nat.le_of_ble_eq_true rfl, Nat.le_of_ble_eq_true rfl, Nat.le_of_ble_eq_true rfl, Nat.le_of_ble_eq_true rfl⟩ [6] (by decide) rfl [none, none, none, none, none, none, some 0, none, none, none] (by decide) rfl rfl 6 rfl rfl rfl rfl (Nat.le_of_ble_eq_true rfl) dX7_get_29 rfl rfl ?_
        refine j_istore (lv' := [(4, .int r_7), (0, .ref (a0 0)), (1, .int i1), (2, .int i2), (3, .int i3)]) K (by decide) rfl dX7_get_32 rfl ?_
        refine j_iload K 0 rfl dX7_get_34 rfl ?_
        refine j_if_eq (tgt := 48) K dX7_get_36 (by decide) rfl h (fun h => ?_) (fun h => ?_)
        · refine j_aload_n K 1 rfl dX7_get_48 rfl ?_
          refine j_getf (C := RX7) (T := TX7) (N := 15) (ci := 7) K icX7 0 8 (List.mem_cons_of_mem _ mw_2_15) rfl rfl rfl (by decide) rfl dX7_get_49 rfl ?_
          refine j_iload_n K 2 rfl dX7_get_52 rfl ?_
          refine j_aald (b := (a0 49)) K 1 2 rfl rfl (vin4_2 fei1) (by rw [fei1]; rfl) dX7_get_53 rfl ?_
          refine j_getf (C := RX4) (T := TX4) (N := 4) (ci := 4) K icX4 6 0 (List.mem_cons_of_mem _ mw_12_7) rfl rfl rfl (by decide) rfl dX7_get_54 rfl ?_
          refine j_iload_n K 4 rfl dX7_get_57 rfl ?_
          refine j_iald K 7 0 rfl rfl dX7_get_58 rfl h (fun v_8 h => ?_)
          obtain ⟨e1, g1⟩ := Prod.mk.inj (Option.some.inj h)
          subst e1
          subst g1
          exact j_iret K dX7_get_59
        · refine j_aload_n K 1 rfl dX7_get_39 rfl ?_
          refine j_iload K 0 rfl dX7_get_40 rfl ?_
          refine j_putf (C := RX7) (T := TX7) (N := 15) (ci := 7) (ty := .int) (ws' := (uX7_get cyI cyJ cyS a0 c_room r_7 c_courseKnown c_settledByKnown c_sh0.1 c_sh0.2.1 c_sh0.2.2.1 c_sh0.2.2.2 c_sh1.1 c_sh1.2.1 c_sh1.2.2.1 c_sh1.2.2.2 c_sh2.1 c_sh2.2.1 c_sh2.2.2.1 c_sh2.2.2.2 c_sh3.1 c_sh3.2.1 c_sh3.2.2.1 c_sh3.2.2.2)) K icX7 tyX7 tyX7_ok nmX7 0 12 (List.mem_cons_of_mem _ mw_2_20) rfl rfl rfl (by decide) rfl (by decide +kernel) rfl rfl (Nat.le_of_ble_eq_true rfl) rfl dX7_get_42 rfl ?_
          refine j_ldc (v := (-2147483648 : Int32)) K (List.mem_cons_of_mem _ mw_13_8) dX7_get_45 rfl ?_
          obtain ⟨e1, g1⟩ := Prod.mk.inj (Option.some.inj h)
          subst e1
          subst g1
          exact j_iret K dX7_get_47
      · refine j_aald (b := (a0 51)) K 1 2 rfl rfl (vin4_3 fei1) (by rw [fei1]; rfl) dX7_get_26 rfl ?_
        refine j_iload_n K 2 rfl dX7_get_27 rfl ?_
        refine j_iload_n K 3 rfl dX7_get_28 rfl ?_
        obtain ⟨r_9, hc, h⟩ := bd1_some h
        refine j_callV (rest := []) (st1 := [.int r_9]) (ws' := (uX7_get cyI cyJ cyS a0 c_room c_finding c_courseKnown c_settledByKnown c_sh0.1 c_sh0.2.1 c_sh0.2.2.1 c_sh0.2.2.2 c_sh1.1 c_sh1.2.1 c_sh1.2.2.1 c_sh1.2.2.2 c_sh2.1 c_sh2.2.1 c_sh2.2.2.1 c_sh2.2.2.2 c_sh3.1 c_sh3.2.1 c_sh3.2.2.1 c_sh3.2.2.2)) (T := TX4) (N := 4) (ci := 4) K (ctX4_flaw l D cyI cyJ cyS (fun k => a0 (k + 51)) i2 i3 c_sh3.1 c_sh3.2.1 c_sh3.2.2.1 r_9 hc) (gdV mcL mw_37_15 mw_37_16 mw_37_17 mw_3_0 mw_37_18) rfl ⟨rfl, rfl⟩ hyX4_flaw ⟨Nat.le_of_ble_eq_true rfl, Nat.le_of_ble_eq_true rfl, Nat.le_of_ble_eq_true rfl, Nat.le_of_ble_eq_true rfl⟩ [8] (by decide) rfl [none, none, none, none, none, none, none, none, some 0, none] (by decide) rfl rfl 8 rfl rfl rfl rfl (Nat.le_of_ble_eq_true rfl) dX7_get_29 rfl rfl ?_
        refine j_istore (lv' := [(4, .int r_9), (0, .ref (a0 0)), (1, .int i1), (2, .int i2), (3, .int i3)]) K (by decide) rfl dX7_get_32 rfl ?_
        refine j_iload K 0 rfl dX7_get_34 rfl ?_
        refine j_if_eq (tgt := 48) K dX7_get_36 (by decide) rfl h (fun h => ?_) (fun h => ?_)
        · refine j_aload_n K 1 rfl dX7_get_48 rfl ?_
          refine j_getf (C := RX7) (T := TX7) (N := 15) (ci := 7) K icX7 0 8 (List.mem_cons_of_mem _ mw_2_15) rfl rfl rfl (by decide) rfl dX7_get_49 rfl ?_
          refine j_iload_n K 2 rfl dX7_get_52 rfl ?_
          refine j_aald (b := (a0 51)) K 1 2 rfl rfl (vin4_3 fei1) (by rw [fei1]; rfl) dX7_get_53 rfl ?_
          refine j_getf (C := RX4) (T := TX4) (N := 4) (ci := 4) K icX4 8 0 (List.mem_cons_of_mem _ mw_12_7) rfl rfl rfl (by decide) rfl dX7_get_54 rfl ?_
          refine j_iload_n K 4 rfl dX7_get_57 rfl ?_
          refine j_iald K 9 0 rfl rfl dX7_get_58 rfl h (fun v_10 h => ?_)
          obtain ⟨e1, g1⟩ := Prod.mk.inj (Option.some.inj h)
          subst e1
          subst g1
          exact j_iret K dX7_get_59
        · refine j_aload_n K 1 rfl dX7_get_39 rfl ?_
          refine j_iload K 0 rfl dX7_get_40 rfl ?_
          refine j_putf (C := RX7) (T := TX7) (N := 15) (ci := 7) (ty := .int) (ws' := (uX7_get cyI cyJ cyS a0 c_room r_9 c_courseKnown c_settledByKnown c_sh0.1 c_sh0.2.1 c_sh0.2.2.1 c_sh0.2.2.2 c_sh1.1 c_sh1.2.1 c_sh1.2.2.1 c_sh1.2.2.2 c_sh2.1 c_sh2.2.1 c_sh2.2.2.1 c_sh2.2.2.2 c_sh3.1 c_sh3.2.1 c_sh3.2.2.1 c_sh3.2.2.2)) K icX7 tyX7 tyX7_ok nmX7 0 12 (List.mem_cons_of_mem _ mw_2_20) rfl rfl rfl (by decide) rfl (by decide +kernel) rfl rfl (Nat.le_of_ble_eq_true rfl) rfl dX7_get_42 rfl ?_
          refine j_ldc (v := (-2147483648 : Int32)) K (List.mem_cons_of_mem _ mw_13_8) dX7_get_45 rfl ?_
          obtain ⟨e1, g1⟩ := Prod.mk.inj (Option.some.inj h)
          subst e1
          subst g1
          exact j_iret K dX7_get_47
    · refine j_ldc (v := (-2147483648 : Int32)) K (List.mem_cons_of_mem _ mw_13_8) dX7_get_18 rfl ?_
      obtain ⟨e1, g1⟩ := Prod.mk.inj (Option.some.inj h)
      subst e1
      subst g1
      exact j_iret K dX7_get_20
end GEN
