section GEN
variable {p : Program} {l : Launch} {e : Env} {s : State} {m : MethodId} {args : Array Value} {below : List Frame} {meth : Method} {c : Code} {A : Nat → Prop} {D : va_G} {cyI cyJ cyS : ClassId}
abbrev uX7_lose (cyI cyJ cyS : ClassId) (a0 : Nat → Nat) (c_room : Int32) (c_finding : Int32) (c_courseKnown : Int32) (c_settledByKnown : Int32) (c_sh0_form : Int32) (c_sh0_size : Int32) (c_sh0_lost : Int32) (c_sh1_form : Int32) (c_sh1_size : Int32) (c_sh1_lost : Int32) (c_sh2_form : Int32) (c_sh2_size : Int32) (c_sh2_lost : Int32) (c_sh3_form : Int32) (c_sh3_size : Int32) (c_sh3_lost : Int32) : va_W := [((a0 0), .inr (7, [.ref (a0 1), .ref (a0 3), .ref (a0 7), .ref (a0 11), .ref (a0 15), .ref (a0 19), .ref (a0 31), .ref (a0 43), .ref (a0 44), .ref (a0 53), .ref (a0 54), .int c_room, .int c_finding, .int c_courseKnown, .int c_settledByKnown])), ((a0 44), .inl (cyS, 4, .inr (.inr (.inr (.inr (va_up (va_up (va_up (va_up (fun _ => none) 0 (some (a0 45))) 1 (some (a0 47))) 2 (some (a0 49))) 3 (some (a0 51)))))))), ((a0 45), .inr (4, [.ref (a0 46), .int c_sh0_form, .int c_sh0_size, .int c_sh0_lost])), ((a0 47), .inr (4, [.ref (a0 48), .int c_sh1_form, .int c_sh1_size, .int c_sh1_lost])), ((a0 49), .inr (4, [.ref (a0 50), .int c_sh2_form, .int c_sh2_size, .int c_sh2_lost])), ((a0 51), .inr (4, [.ref (a0 52), .int c_sh3_form, .int c_sh3_size, .int c_sh3_lost]))]
abbrev rmX7_lose : Room := { frames := 1, cells := 0, slots := 0, locals := 22 }
abbrev wdX7_lose : List Cond := .code yX7_lose cX7_lose 2 (some .int) :: wsL_law
theorem hyX7_lose : yX7_lose.cls = RX7 ∧ yX7_lose.cls ≠ "java/lang/invoke/MethodHandle" ∧ yX7_lose.cls ≠ "java/lang/invoke/VarHandle" ∧ (parseMethodDescriptor yX7_lose.desc).map (fun d => d.parameters.length) = some 1 := by decide +kernel
set_option maxRecDepth 100000 in
set_option maxHeartbeats 4000000 in
theorem ctX7_lose (l : Launch) (D : va_G) (cyI cyJ cyS : ClassId) (a0 : Nat → Nat) (i1 : Int32) (c_room : Int32) (c_courseKnown : Int32) (c_settledByKnown : Int32) (c_sh0_form : Int32) (c_sh1_form : Int32) (c_sh2_form : Int32) (c_sh3_form : Int32) (c_sh0_size : Int32) (c_sh1_size : Int32) (c_sh2_size : Int32) (c_sh3_size : Int32) (c_finding : Int32) (c_sh0_lost : Int32) (c_sh1_lost : Int32) (c_sh2_lost : Int32) (c_sh3_lost : Int32) (o_r : Int32) (o_finding : Int32) (o_sh0_lost : Int32) (o_sh1_lost : Int32) (o_sh2_lost : Int32) (o_sh3_lost : Int32) (h : fX7_lose i1 c_sh0_size c_sh1_size c_sh2_size c_sh3_size c_finding c_sh0_lost c_sh1_lost c_sh2_lost c_sh3_lost = some (o_r, o_finding, o_sh0_lost, o_sh1_lost, o_sh2_lost, o_sh3_lost)) : jC l yX7_lose wdX7_lose rmX7_lose D vwCl (tyz cyI cyJ cyS) [.ref (a0 0), .int i1] (uX7_lose cyI cyJ cyS a0 c_room c_finding c_courseKnown c_settledByKnown c_sh0_form c_sh0_size c_sh0_lost c_sh1_form c_sh1_size c_sh1_lost c_sh2_form c_sh2_size c_sh2_lost c_sh3_form c_sh3_size c_sh3_lost) (some (.int o_r)) (uX7_lose cyI cyJ cyS a0 c_room o_finding c_courseKnown c_settledByKnown c_sh0_form c_sh0_size o_sh0_lost c_sh1_form c_sh1_size o_sh1_lost c_sh2_form c_sh2_size o_sh2_lost c_sh3_form c_sh3_size o_sh3_lost) := by
  refine jC_of (cc := cX7_lose) (nL := 2) (ret := (some .int)) (own := RX7) (lv := [(0, .ref (a0 0)), (1, .int i1)]) (by decide) rfl rfl (Nat.le_of_ble_eq_true rfl) rfl ?_
  intro p e s m args below meth c A K
  unfold fX7_lose at h
  refine j_iload_n K 1 rfl dX7_lose_0 rfl ?_
  refine j_iconst (v := (0 : Int32)) K (by decide) dX7_lose_1 rfl ?_
  refine j_iconst (v := (3 : Int32)) K (by decide) dX7_lose_2 rfl ?_
  obtain ⟨r_1, hc, h⟩ := bd1_some h
  refine j_callS (rest := []) (st1 := [.int r_1]) (ws' := (uX7_lose cyI cyJ cyS a0 c_room c_finding c_courseKnown c_settledByKnown c_sh0_form c_sh0_size c_sh0_lost c_sh1_form c_sh1_size c_sh1_lost c_sh2_form c_sh2_size c_sh2_lost c_sh3_form c_sh3_size c_sh3_lost)) K (ctX7_within l D cyI cyJ cyS i1 (0 : Int32) (3 : Int32) r_1 hc) (gdS mcL mw_6_12 mw_6_13 mw_1_2 mw_6_14) rfl ⟨rfl, rfl⟩ hzX7_within ⟨Nat.le_of_ble_eq_true rfl, Nat.le_of_ble_eq_true rfl, Nat.le_of_ble_eq_true rfl, Nat.le_of_ble_eq_true rfl⟩ [] (by decide) rfl [none, none, none, none, none, none] (by decide) rfl rfl rfl rfl (Nat.le_of_ble_eq_true rfl) dX7_lose_3 rfl rfl ?_
  refine j_if_ne (tgt := 12) K dX7_lose_6 (by decide) rfl h (fun h => ?_) (fun h => ?_)
  · refine j_aload_n K 0 rfl dX7_lose_12 rfl ?_
    refine j_getf (C := RX7) (T := TX7) (N := 15) (ci := 7) K icX7 0 8 (List.mem_cons_of_mem _ mw_2_15) rfl rfl rfl (by decide) rfl dX7_lose_13 rfl ?_
    refine j_iload_n K 1 rfl dX7_lose_16 rfl ?_
    rcases sw4_some h with ⟨fei1, h⟩ | ⟨fei1, h⟩ | ⟨fei1, h⟩ | ⟨fei1, h⟩
    · refine j_aald (b := (a0 45)) K 1 2 rfl rfl (vin4_0 fei1) (by rw [fei1]; rfl) dX7_lose_17 rfl ?_
      refine j_getf (C := RX4) (T := TX4) (N := 4) (ci := 4) K icX4 2 3 (List.mem_cons_of_mem _ mw_12_6) rfl rfl rfl (by decide) rfl dX7_lose_18 rfl ?_
      refine j_if_eq (tgt := 30) K dX7_lose_21 (by decide) rfl h (fun h => ?_) (fun h => ?_)
      · refine j_aload_n K 0 rfl dX7_lose_30 rfl ?_
        refine j_getf (C := RX7) (T := TX7) (N := 15) (ci := 7) K icX7 0 8 (List.mem_cons_of_mem _ mw_2_15) rfl rfl rfl (by decide) rfl dX7_lose_31 rfl ?_
        refine j_iload_n K 1 rfl dX7_lose_34 rfl ?_
        refine j_aald (b := (a0 45)) K 1 2 rfl rfl (vin4_0 fei1) (by rw [fei1]; rfl) dX7_lose_35 rfl ?_
        refine j_iconst (v := (1 : Int32)) K (by decide) dX7_lose_36 rfl ?_
        refine j_putf (C := RX4) (T := TX4) (N := 4) (ci := 4) (ty := .boolean) (ws' := (uX7_lose cyI cyJ cyS a0 c_room c_finding c_courseKnown c_settledByKnown c_sh0_form c_sh0_size (1 : Int32) c_sh1_form c_sh1_size c_sh1_lost c_sh2_form c_sh2_size c_sh2_lost c_sh3_form c_sh3_size c_sh3_lost)) K icX4 tyX4 tyX4_ok nmX4 2 3 (List.mem_cons_of_mem _ mw_12_6) rfl rfl rfl (by decide) rfl (by decide +kernel) rfl rfl (Nat.le_of_ble_eq_true rfl) rfl dX7_lose_37 rfl ?_
        refine j_aload_n K 0 rfl dX7_lose_40 rfl ?_
        refine j_getf (C := RX7) (T := TX7) (N := 15) (ci := 7) K icX7 0 8 (List.mem_cons_of_mem _ mw_2_15) rfl rfl rfl (by decide) rfl dX7_lose_41 rfl ?_
        refine j_iload_n K 1 rfl dX7_lose_44 rfl ?_
        refine j_aald (b := (a0 45)) K 1 2 rfl rfl (vin4_0 fei1) (by rw [fei1]; rfl) dX7_lose_45 rfl ?_
        refine j_getf (C := RX4) (T := TX4) (N := 4) (ci := 4) K icX4 2 2 (List.mem_cons_of_mem _ mw_12_8) rfl rfl rfl (by decide) rfl dX7_lose_46 rfl ?_
        obtain ⟨e1, g1⟩ := Prod.mk.inj (Option.some.inj h)
        subst e1
        obtain ⟨e2, g2⟩ := Prod.mk.inj g1
        subst e2
        obtain ⟨e3, g3⟩ := Prod.mk.inj g2
        subst e3
        obtain ⟨e4, g4⟩ := Prod.mk.inj g3
        subst e4
        obtain ⟨e5, g5⟩ := Prod.mk.inj g4
        subst e5
        subst g5
        exact j_iret K dX7_lose_49
      · refine j_aload_n K 0 rfl dX7_lose_24 rfl ?_
        refine j_iconst (v := (1 : Int32)) K (by decide) dX7_lose_25 rfl ?_
        obtain ⟨r_2, c_finding_3, hc, h⟩ := bd2_some h
        refine j_callV (rest := []) (st1 := [.int r_2]) (ws' := (uX7_lose cyI cyJ cyS a0 c_room c_finding_3 c_courseKnown c_settledByKnown c_sh0_form c_sh0_size c_sh0_lost c_sh1_form c_sh1_size c_sh1_lost c_sh2_form c_sh2_size c_sh2_lost c_sh3_form c_sh3_size c_sh3_lost)) (T := TX7) (N := 15) (ci := 7) K (ctX7_found l D cyI cyJ cyS a0 (1 : Int32) c_room c_courseKnown c_settledByKnown c_finding r_2 c_finding_3 hc) (gdV mcL mw_12_9 mw_12_10 mw_12_11 mw_1_2 mw_12_12) rfl ⟨rfl, rfl⟩ hyX7_found ⟨Nat.le_of_ble_eq_true rfl, Nat.le_of_ble_eq_true rfl, Nat.le_of_ble_eq_true rfl, Nat.le_of_ble_eq_true rfl⟩ [0] (by decide) rfl [some 0, none, none, none, none, none] (by decide) rfl rfl 0 rfl rfl rfl rfl (Nat.le_of_ble_eq_true rfl) dX7_lose_26 rfl rfl ?_
        obtain ⟨e1, g1⟩ := Prod.mk.inj (Option.some.inj h)
        subst e1
        obtain ⟨e2, g2⟩ := Prod.mk.inj g1
        subst e2
        obtain ⟨e3, g3⟩ := Prod.mk.inj g2
        subst e3
        obtain ⟨e4, g4⟩ := Prod.mk.inj g3
        subst e4
        obtain ⟨e5, g5⟩ := Prod.mk.inj g4
        subst e5
        subst g5
        exact j_iret K dX7_lose_29
    · refine j_aald (b := (a0 47)) K 1 2 rfl rfl (vin4_1 fei1) (by rw [fei1]; rfl) dX7_lose_17 rfl ?_
      refine j_getf (C := RX4) (T := TX4) (N := 4) (ci := 4) K icX4 3 3 (List.mem_cons_of_mem _ mw_12_6) rfl rfl rfl (by decide) rfl dX7_lose_18 rfl ?_
      refine j_if_eq (tgt := 30) K dX7_lose_21 (by decide) rfl h (fun h => ?_) (fun h => ?_)
      · refine j_aload_n K 0 rfl dX7_lose_30 rfl ?_
        refine j_getf (C := RX7) (T := TX7) (N := 15) (ci := 7) K icX7 0 8 (List.mem_cons_of_mem _ mw_2_15) rfl rfl rfl (by decide) rfl dX7_lose_31 rfl ?_
        refine j_iload_n K 1 rfl dX7_lose_34 rfl ?_
        refine j_aald (b := (a0 47)) K 1 2 rfl rfl (vin4_1 fei1) (by rw [fei1]; rfl) dX7_lose_35 rfl ?_
        refine j_iconst (v := (1 : Int32)) K (by decide) dX7_lose_36 rfl ?_
        refine j_putf (C := RX4) (T := TX4) (N := 4) (ci := 4) (ty := .boolean) (ws' := (uX7_lose cyI cyJ cyS a0 c_room c_finding c_courseKnown c_settledByKnown c_sh0_form c_sh0_size c_sh0_lost c_sh1_form c_sh1_size (1 : Int32) c_sh2_form c_sh2_size c_sh2_lost c_sh3_form c_sh3_size c_sh3_lost)) K icX4 tyX4 tyX4_ok nmX4 3 3 (List.mem_cons_of_mem _ mw_12_6) rfl rfl rfl (by decide) rfl (by decide +kernel) rfl rfl (Nat.le_of_ble_eq_true rfl) rfl dX7_lose_37 rfl ?_
        refine j_aload_n K 0 rfl dX7_lose_40 rfl ?_
        refine j_getf (C := RX7) (T := TX7) (N := 15) (ci := 7) K icX7 0 8 (List.mem_cons_of_mem _ mw_2_15) rfl rfl rfl (by decide) rfl dX7_lose_41 rfl ?_
        refine j_iload_n K 1 rfl dX7_lose_44 rfl ?_
        refine j_aald (b := (a0 47)) K 1 2 rfl rfl (vin4_1 fei1) (by rw [fei1]; rfl) dX7_lose_45 rfl ?_
        refine j_getf (C := RX4) (T := TX4) (N := 4) (ci := 4) K icX4 3 2 (List.mem_cons_of_mem _ mw_12_8) rfl rfl rfl (by decide) rfl dX7_lose_46 rfl ?_
        obtain ⟨e1, g1⟩ := Prod.mk.inj (Option.some.inj h)
        subst e1
        obtain ⟨e2, g2⟩ := Prod.mk.inj g1
        subst e2
        obtain ⟨e3, g3⟩ := Prod.mk.inj g2
        subst e3
        obtain ⟨e4, g4⟩ := Prod.mk.inj g3
        subst e4
        obtain ⟨e5, g5⟩ := Prod.mk.inj g4
        subst e5
        subst g5
        exact j_iret K dX7_lose_49
      · refine j_aload_n K 0 rfl dX7_lose_24 rfl ?_
        refine j_iconst (v := (1 : Int32)) K (by decide) dX7_lose_25 rfl ?_
        obtain ⟨r_4, c_finding_5, hc, h⟩ := bd2_some h
        refine j_callV (rest := []) (st1 := [.int r_4]) (ws' := (uX7_lose cyI cyJ cyS a0 c_room c_finding_5 c_courseKnown c_settledByKnown c_sh0_form c_sh0_size c_sh0_lost c_sh1_form c_sh1_size c_sh1_lost c_sh2_form c_sh2_size c_sh2_lost c_sh3_form c_sh3_size c_sh3_lost)) (T := TX7) (N := 15) (ci := 7) K (ctX7_found l D cyI cyJ cyS a0 (1 : Int32) c_room c_courseKnown c_settledByKnown c_finding r_4 c_finding_5 hc) (gdV mcL mw_12_9 mw_12_10 mw_12_11 mw_1_2 mw_12_12) rfl ⟨rfl, rfl⟩ hyX7_found ⟨Nat.le_of_ble_eq_true rfl, Nat.le_of_ble_eq_true rfl, Nat.le_of_ble_eq_true rfl, Nat.le_of_ble_eq_true rfl⟩ [0] (by decide) rfl [some 0, none, none, none, none, none] (by decide) rfl rfl 0 rfl rfl rfl rfl (Nat.le_of_ble_eq_true rfl) dX7_lose_26 rfl rfl ?_
        obtain ⟨e1, g1⟩ := Prod.mk.inj (Option.some.inj h)
        subst e1
        obtain ⟨e2, g2⟩ := Prod.mk.inj g1
        subst e2
        obtain ⟨e3, g3⟩ := Prod.mk.inj g2
        subst e3
        obtain ⟨e4, g4⟩ := Prod.mk.inj g3
        subst e4
        obtain ⟨e5, g5⟩ := Prod.mk.inj g4
        subst e5
        subst g5
        exact j_iret K dX7_lose_29
    · refine j_aald (b := (a0 49)) K 1 2 rfl rfl (vin4_2 fei1) (by rw [fei1]; rfl) dX7_lose_17 rfl ?_
      refine j_getf (C := RX4) (T := TX4) (N := 4) (ci := 4) K icX4 4 3 (List.mem_cons_of_mem _ mw_12_6) rfl rfl rfl (by decide) rfl dX7_lose_18 rfl ?_
      refine j_if_eq (tgt := 30) K dX7_lose_21 (by decide) rfl h (fun h => ?_) (fun h => ?_)
      · refine j_aload_n K 0 rfl dX7_lose_30 rfl ?_
        refine j_getf (C := RX7) (T := TX7) (N := 15) (ci := 7) K icX7 0 8 (List.mem_cons_of_mem _ mw_2_15) rfl rfl rfl (by decide) rfl dX7_lose_31 rfl ?_
        refine j_iload_n K 1 rfl dX7_lose_34 rfl ?_
        refine j_aald (b := (a0 49)) K 1 2 rfl rfl (vin4_2 fei1) (by rw [fei1]; rfl) dX7_lose_35 rfl ?_
        refine j_iconst (v := (1 : Int32)) K (by decide) dX7_lose_36 rfl ?_
        refine j_putf (C := RX4) (T := TX4) (N := 4) (ci := 4) (ty := .boolean) (ws' := (uX7_lose cyI cyJ cyS a0 c_room c_finding c_courseKnown c_settledByKnown c_sh0_form c_sh0_size c_sh0_lost c_sh1_form c_sh1_size c_sh1_lost c_sh2_form c_sh2_size (1 : Int32) c_sh3_form c_sh3_size c_sh3_lost)) K icX4 tyX4 tyX4_ok nmX4 4 3 (List.mem_cons_of_mem _ mw_12_6) rfl rfl rfl (by decide) rfl (by decide +kernel) rfl rfl (Nat.le_of_ble_eq_true rfl) rfl dX7_lose_37 rfl ?_
        refine j_aload_n K 0 rfl dX7_lose_40 rfl ?_
        refine j_getf (C := RX7) (T := TX7) (N := 15) (ci := 7) K icX7 0 8 (List.mem_cons_of_mem _ mw_2_15) rfl rfl rfl (by decide) rfl dX7_lose_41 rfl ?_
        refine j_iload_n K 1 rfl dX7_lose_44 rfl ?_
        refine j_aald (b := (a0 49)) K 1 2 rfl rfl (vin4_2 fei1) (by rw [fei1]; rfl) dX7_lose_45 rfl ?_
        refine j_getf (C := RX4) (T := TX4) (N := 4) (ci := 4) K icX4 4 2 (List.mem_cons_of_mem _ mw_12_8) rfl rfl rfl (by decide) rfl dX7_lose_46 rfl ?_
        obtain ⟨e1, g1⟩ := Prod.mk.inj (Option.some.inj h)
        subst e1
        obtain ⟨e2, g2⟩ := Prod.mk.inj g1
        subst e2
        obtain ⟨e3, g3⟩ := Prod.mk.inj g2
        subst e3
        obtain ⟨e4, g4⟩ := Prod.mk.inj g3
        subst e4
        obtain ⟨e5, g5⟩ := Prod.mk.inj g4
        subst e5
        subst g5
        exact j_iret K dX7_lose_49
      · refine j_aload_n K 0 rfl dX7_lose_24 rfl ?_
        refine j_iconst (v := (1 : Int32)) K (by decide) dX7_lose_25 rfl ?_
        obtain ⟨r_6, c_finding_7, hc, h⟩ := bd2_some h
        refine j_callV (rest := []) (st1 := [.int r_6]) (ws' := (uX7_lose cyI cyJ cyS a0 c_room c_finding_7 c_courseKnown c_settledByKnown c_sh0_form c_sh0_size c_sh0_lost c_sh1_form c_sh1_size c_sh1_lost c_sh2_form c_sh2_size c_sh2_lost c_sh3_form c_sh3_size c_sh3_lost)) (T := TX7) (N := 15) (ci := 7) K (ctX7_found l D cyI cyJ cyS a0 (1 : Int32) c_room c_courseKnown c_settledByKnown c_finding r_6 c_finding_7 hc) (gdV mcL mw_12_9 mw_12_10 mw_12_11 mw_1_2 mw_12_12) rfl ⟨rfl, rfl⟩ hyX7_found ⟨Nat.le_of_ble_eq_true rfl, Nat.le_of_ble_eq_true rfl, Nat.le_of_ble_eq_true rfl, Nat.le_of_ble_eq_true rfl⟩ [0] (by decide) rfl [some 0, none, none, none, none, none] (by decide) rfl rfl 0 rfl rfl rfl rfl (Nat.le_of_ble_eq_true rfl) dX7_lose_26 rfl rfl ?_
        obtain ⟨e1, g1⟩ := Prod.mk.inj (Option.some.inj h)
        subst e1
        obtain ⟨e2, g2⟩ := Prod.mk.inj g1
        subst e2
        obtain ⟨e3, g3⟩ := Prod.mk.inj g2
        subst e3
        obtain ⟨e4, g4⟩ := Prod.mk.inj g3
        subst e4
        obtain ⟨e5, g5⟩ := Prod.mk.inj g4
        subst e5
        subst g5
        exact j_iret K dX7_lose_29
    · refine j_aald (b := (a0 51)) K 1 2 rfl rfl (vin4_3 fei1) (by rw [fei1]; rfl) dX7_lose_17 rfl ?_
      refine j_getf (C := RX4) (T := TX4) (N := 4) (ci := 4) K icX4 5 3 (List.mem_cons_of_mem _ mw_12_6) rfl rfl rfl (by decide) rfl dX7_lose_18 rfl ?_
      refine j_if_eq (tgt := 30) K dX7_lose_21 (by decide) rfl h (fun h => ?_) (fun h => ?_)
      · refine j_aload_n K 0 rfl dX7_lose_30 rfl ?_
        refine j_getf (C := RX7) (T := TX7) (N := 15) (ci := 7) K icX7 0 8 (List.mem_cons_of_mem _ mw_2_15) rfl rfl rfl (by decide) rfl dX7_lose_31 rfl ?_
        refine j_iload_n K 1 rfl dX7_lose_34 rfl ?_
        refine j_aald (b := (a0 51)) K 1 2 rfl rfl (vin4_3 fei1) (by rw [fei1]; rfl) dX7_lose_35 rfl ?_
        refine j_iconst (v := (1 : Int32)) K (by decide) dX7_lose_36 rfl ?_
        refine j_putf (C := RX4) (T := TX4) (N := 4) (ci := 4) (ty := .boolean) (ws' := (uX7_lose cyI cyJ cyS a0 c_room c_finding c_courseKnown c_settledByKnown c_sh0_form c_sh0_size c_sh0_lost c_sh1_form c_sh1_size c_sh1_lost c_sh2_form c_sh2_size c_sh2_lost c_sh3_form c_sh3_size (1 : Int32))) K icX4 tyX4 tyX4_ok nmX4 5 3 (List.mem_cons_of_mem _ mw_12_6) rfl rfl rfl (by decide) rfl (by decide +kernel) rfl rfl (Nat.le_of_ble_eq_true rfl) rfl dX7_lose_37 rfl ?_
        refine j_aload_n K 0 rfl dX7_lose_40 rfl ?_
        refine j_getf (C := RX7) (T := TX7) (N := 15) (ci := 7) K icX7 0 8 (List.mem_cons_of_mem _ mw_2_15) rfl rfl rfl (by decide) rfl dX7_lose_41 rfl ?_
        refine j_iload_n K 1 rfl dX7_lose_44 rfl ?_
        refine j_aald (b := (a0 51)) K 1 2 rfl rfl (vin4_3 fei1) (by rw [fei1]; rfl) dX7_lose_45 rfl ?_
        refine j_getf (C := RX4) (T := TX4) (N := 4) (ci := 4) K icX4 5 2 (List.mem_cons_of_mem _ mw_12_8) rfl rfl rfl (by decide) rfl dX7_lose_46 rfl ?_
        obtain ⟨e1, g1⟩ := Prod.mk.inj (Option.some.inj h)
        subst e1
        obtain ⟨e2, g2⟩ := Prod.mk.inj g1
        subst e2
        obtain ⟨e3, g3⟩ := Prod.mk.inj g2
        subst e3
        obtain ⟨e4, g4⟩ := Prod.mk.inj g3
        subst e4
        obtain ⟨e5, g5⟩ := Prod.mk.inj g4
        subst e5
        subst g5
        exact j_iret K dX7_lose_49
      · refine j_aload_n K 0 rfl dX7_lose_24 rfl ?_
        refine j_iconst (v := (1 : Int32)) K (by decide) dX7_lose_25 rfl ?_
        obtain ⟨r_8, c_finding_9, hc, h⟩ := bd2_some h
        refine j_callV (rest := []) (st1 := [.int r_8]) (ws' := (uX7_lose cyI cyJ cyS a0 c_room c_finding_9 c_courseKnown c_settledByKnown c_sh0_form c_sh0_size c_sh0_lost c_sh1_form c_sh1_size c_sh1_lost c_sh2_form c_sh2_size c_sh2_lost c_sh3_form c_sh3_size c_sh3_lost)) (T := TX7) (N := 15) (ci := 7) K (ctX7_found l D cyI cyJ cyS a0 (1 : Int32) c_room c_courseKnown c_settledByKnown c_finding r_8 c_finding_9 hc) (gdV mcL mw_12_9 mw_12_10 mw_12_11 mw_1_2 mw_12_12) rfl ⟨rfl, rfl⟩ hyX7_found ⟨Nat.le_of_ble_eq_true rfl, Nat.le_of_ble_eq_true rfl, Nat.le_of_ble_eq_true rfl, Nat.le_of_ble_eq_true rfl⟩ [0] (by decide) rfl [some 0, none, none, none, none, none] (by decide) rfl rfl 0 rfl rfl rfl rfl (Nat.le_of_ble_eq_true rfl) dX7_lose_26 rfl rfl ?_
        obtain ⟨e1, g1⟩ := Prod.mk.inj (Option.some.inj h)
        subst e1
        obtain ⟨e2, g2⟩ := Prod.mk.inj g1
        subst e2
        obtain ⟨e3, g3⟩ := Prod.mk.inj g2
        subst e3
        obtain ⟨e4, g4⟩ := Prod.mk.inj g3
        subst e4
        obtain ⟨e5, g5⟩ := Prod.mk.inj g4
        subst e5
        subst g5
        exact j_iret K dX7_lose_29
  · refine j_bipush (v := (-2 : Int32)) K (by decide) dX7_lose_9 rfl ?_
    obtain ⟨e1, g1⟩ := Prod.mk.inj (Option.some.inj h)
    subst e1
    obtain ⟨e2, g2⟩ := Prod.mk.inj g1
    subst e2
    obtain ⟨e3, g3⟩ := Prod.mk.inj g2
    subst e3
    obtain ⟨e4, g4⟩ := Prod.mk.inj g3
    subst e4
    obtain ⟨e5, g5⟩ := Prod.mk.inj g4
    subst e5
    subst g5
    exact j_iret K dX7_lose_11
end GEN
