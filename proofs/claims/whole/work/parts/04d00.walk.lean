section GEN
variable {p : Program} {l : Launch} {e : Env} {s : State} {m : MethodId} {args : Array Value} {below : List Frame} {meth : Method} {c : Code} {A : Nat → Prop} {D : va_G} {cyI cyJ cyS : ClassId}
abbrev uX5_lot (cyI cyJ cyS : ClassId) : va_W := []
abbrev rmX5_lot : Room := { frames := 0, cells := 0, slots := 0, locals := 0 }
abbrev wdX5_lot : List Cond := .code yX5_lot cX5_lot 2 (some .int) :: wsL_law
theorem hzX5_lot : yX5_lot.cls ≠ "java/lang/invoke/MethodHandle" ∧ yX5_lot.cls ≠ "java/lang/invoke/VarHandle" ∧ (parseMethodDescriptor yX5_lot.desc).map (fun d => d.parameters.length) = some 2 := by decide +kernel
set_option maxRecDepth 100000 in
set_option maxHeartbeats 4000000 in
theorem ctX5_lot (l : Launch) (D : va_G) (cyI cyJ cyS : ClassId) (i0 : Int32) (i1 : Int32) (o_r : Int32) (h : fX5_lot i0 i1 = some (o_r)) : jC l yX5_lot wdX5_lot rmX5_lot D vwCl (tyz cyI cyJ cyS) [.int i0, .int i1] (uX5_lot cyI cyJ cyS ) (some (.int o_r)) (uX5_lot cyI cyJ cyS ) := by
  refine jC_of (cc := cX5_lot) (nL := 2) (ret := (some .int)) (own := RX5) (lv := [(0, .int i0), (1, .int i1)]) (by decide) rfl rfl (Nat.le_of_ble_eq_true rfl) rfl ?_
  intro p e s m args below meth c A K
  unfold fX5_lot at h
  refine j_iload_n K 1 rfl dX5_lot_0 rfl ?_
  refine j_if_le (tgt := 13) K dX5_lot_1 (by decide) rfl h (fun h => ?_) (fun h => ?_)
  · refine j_iconst (v := (0 : Int32)) K (by decide) dX5_lot_13 rfl ?_
    have h := Option.some.inj h
    subst h
    exact j_iret K dX5_lot_14
  · refine j_iload_n K 0 rfl dX5_lot_4 rfl ?_
    refine j_bipush (v := (16 : Int32)) K (by decide) dX5_lot_5 rfl ?_
    refine j_iushr K dX5_lot_7 rfl ?_
    refine j_iload_n K 1 rfl dX5_lot_8 rfl ?_
    obtain ⟨hz, h⟩ := ckZ_some h
    refine j_irem K hz dX5_lot_9 rfl ?_
    refine j_goto (pc' := 14) K dX5_lot_10 (by decide) ?_
    have h := Option.some.inj h
    subst h
    exact j_iret K dX5_lot_14
abbrev uX5_nextSeed (cyI cyJ cyS : ClassId) : va_W := []
abbrev rmX5_nextSeed : Room := { frames := 0, cells := 0, slots := 0, locals := 0 }
abbrev wdX5_nextSeed : List Cond := .code yX5_nextSeed cX5_nextSeed 1 (some .int) :: wsL_law
theorem hzX5_nextSeed : yX5_nextSeed.cls ≠ "java/lang/invoke/MethodHandle" ∧ yX5_nextSeed.cls ≠ "java/lang/invoke/VarHandle" ∧ (parseMethodDescriptor yX5_nextSeed.desc).map (fun d => d.parameters.length) = some 1 := by decide +kernel
set_option maxRecDepth 100000 in
set_option maxHeartbeats 4000000 in
theorem ctX5_nextSeed (l : Launch) (D : va_G) (cyI cyJ cyS : ClassId) (i0 : Int32) (o_r : Int32) (h : fX5_nextSeed i0 = some (o_r)) : jC l yX5_nextSeed wdX5_nextSeed rmX5_nextSeed D vwCl (tyz cyI cyJ cyS) [.int i0] (uX5_nextSeed cyI cyJ cyS ) (some (.int o_r)) (uX5_nextSeed cyI cyJ cyS ) := by
  refine jC_of (cc := cX5_nextSeed) (nL := 1) (ret := (some .int)) (own := RX5) (lv := [(0, .int i0)]) (by decide) rfl rfl (Nat.le_of_ble_eq_true rfl) rfl ?_
  intro p e s m args below meth c A K
  unfold fX5_nextSeed at h
  refine j_ldc (v := (1103515245 : Int32)) K (List.mem_cons_of_mem _ mw_35_20) dX5_nextSeed_0 rfl ?_
  refine j_iload_n K 0 rfl dX5_nextSeed_2 rfl ?_
  refine j_imul K dX5_nextSeed_3 rfl ?_
  refine j_sipush (v := (12345 : Int32)) K (by decide) dX5_nextSeed_4 rfl ?_
  refine j_iadd K dX5_nextSeed_7 rfl ?_
  have h := Option.some.inj h
  subst h
  exact j_iret K dX5_nextSeed_8
abbrev uX5_drawLots (cyI cyJ cyS : ClassId) (a0 : Nat → Nat) (c_size : Int32) (c_sort : Nat → Int32) (c_paid : Nat → Int32) (c_wage : Nat → Int32) : va_W := [((a0 0), .inr (5, [.ref (a0 1), .ref (a0 2), .ref (a0 3), .int c_size])), ((a0 1), .inl (cyI, 8, .inl c_sort)), ((a0 2), .inl (cyI, 8, .inl c_paid)), ((a0 3), .inl (cyI, 8, .inl c_wage))]
abbrev rmX5_drawLots : Room := { frames := 1, cells := 0, slots := 0, locals := 21 }
abbrev wdX5_drawLots : List Cond := .code yX5_drawLots cX5_drawLots 5 none :: wsL_law
theorem hyX5_drawLots : yX5_drawLots.cls = RX5 ∧ yX5_drawLots.cls ≠ "java/lang/invoke/MethodHandle" ∧ yX5_drawLots.cls ≠ "java/lang/invoke/VarHandle" ∧ (parseMethodDescriptor yX5_drawLots.desc).map (fun d => d.parameters.length) = some 2 := by decide +kernel
set_option maxRecDepth 100000 in
set_option maxHeartbeats 4000000 in
theorem wX5_drawLots_10 (K : jK p s m args meth c A D vwCl (tyz cyI cyJ cyS) cX5_drawLots 5 RX5 wdX5_drawLots none) (a0 : Nat → Nat)  (i1 : Int32) (i2 : Int32) (o_size : Int32) (o_sort : Nat → Int32) (o_paid : Nat → Int32) (o_wage : Nat → Int32)   : ∀ (n : Nat) (c_size : Int32) (c_sort : Nat → Int32) (c_paid : Nat → Int32) (c_wage : Nat → Int32) (i3 : Int32) (i4 : Int32), fX5_drawLots_10 i1 i2  n c_size c_sort c_paid c_wage i3 i4 = some (o_size, o_sort, o_paid, o_wage) → jw p l e rmX5_drawLots s m args below meth c (jQ below args s A D vwCl (tyz cyI cyJ cyS) 0 0 none (uX5_drawLots cyI cyJ cyS a0 o_size o_sort o_paid o_wage)) A D vwCl 5 0 0 10 [(0, .ref (a0 0)), (2, .int i2), (3, .int i3), (4, .int i4)] [] (uX5_drawLots cyI cyJ cyS a0 c_size c_sort c_paid c_wage) := by
  intro n
  induction n with
  | zero => intro c_size c_sort c_paid c_wage i3 i4 h; cases h
  | succ n ih =>
    intro c_size c_sort c_paid c_wage i3 i4 h
    have h : bX5_drawLots_10 i1 i2  (fX5_drawLots_10 i1 i2  n) c_size c_sort c_paid c_wage i3 i4 = some (o_size, o_sort, o_paid, o_wage) := h
    unfold bX5_drawLots_10 at h
    refine j_iload K 3 rfl dX5_drawLots_10 rfl ?_
    refine j_iload_n K 1 rfl dX5_drawLots_12 rfl ?_
    refine j_icmp_ge (tgt := 75) K dX5_drawLots_13 (by decide) rfl h (fun h => ?_) (fun h => ?_)
    · obtain ⟨e1, g1⟩ := Prod.mk.inj (Option.some.inj h)
      subst e1
      obtain ⟨e2, g2⟩ := Prod.mk.inj g1
      subst e2
      obtain ⟨e3, g3⟩ := Prod.mk.inj g2
      subst e3
      subst g3
      exact j_vret K dX5_drawLots_75
    · refine j_iload_n K 2 rfl dX5_drawLots_16 rfl ?_
      obtain ⟨r_1, hc, h⟩ := bd1_some h
      refine j_callS (rest := []) (st1 := [.int r_1]) (ws' := (uX5_drawLots cyI cyJ cyS a0 c_size c_sort c_paid c_wage)) K (ctX5_nextSeed l D cyI cyJ cyS i3 r_1 hc) (gdS mcL mw_35_17 mw_35_18 mw_1_18 mw_35_19) rfl ⟨rfl, rfl⟩ hzX5_nextSeed ⟨Nat.le_of_ble_eq_true rfl, Nat.le_of_ble_eq_true rfl, Nat.le_of_ble_eq_true rfl, Nat.le_of_ble_eq_true rfl⟩ [] (by decide) rfl [none, none, none, none] (by decide) rfl rfl rfl rfl (Nat.le_of_ble_eq_true rfl) dX5_drawLots_17 rfl rfl ?_
      refine j_istore_n (lv' := [(3, .int r_1), (0, .ref (a0 0)), (2, .int i2), (4, .int i4)]) K (by decide) rfl dX5_drawLots_20 rfl ?_
      refine j_aload_n K 1 rfl dX5_drawLots_21 rfl ?_
      refine j_getf (C := RX5) (T := TX5) (N := 4) (ci := 5) K icX5 0 0 (List.mem_cons_of_mem _ mw_3_9) rfl rfl rfl (by decide) rfl dX5_drawLots_22 rfl ?_
      refine j_iload K 3 rfl dX5_drawLots_25 rfl ?_
      refine j_iload_n K 0 rfl dX5_drawLots_27 rfl ?_
      refine j_iconst (v := (4 : Int32)) K (by decide) dX5_drawLots_28 rfl ?_
      obtain ⟨r_2, hc, h⟩ := bd1_some h
      refine j_callS (rest := [.int i4, .ref (a0 1)]) (st1 := [.int r_2, .int i4, .ref (a0 1)]) (ws' := (uX5_drawLots cyI cyJ cyS a0 c_size c_sort c_paid c_wage)) K (ctX5_lot l D cyI cyJ cyS r_1 (4 : Int32) r_2 hc) (gdS mcL mw_35_21 mw_35_22 mw_1_18 mw_35_23) rfl ⟨rfl, rfl⟩ hzX5_lot ⟨Nat.le_of_ble_eq_true rfl, Nat.le_of_ble_eq_true rfl, Nat.le_of_ble_eq_true rfl, Nat.le_of_ble_eq_true rfl⟩ [] (by decide) rfl [none, none, none, none] (by decide) rfl rfl rfl rfl (Nat.le_of_ble_eq_true rfl) dX5_drawLots_29 rfl rfl ?_
      refine j_iast K 1 0 (fun z => (uX5_drawLots cyI cyJ cyS a0 c_size z c_paid c_wage)) rfl rfl (fun _ => rfl) dX5_drawLots_32 rfl h (fun c_sort_3 h => ?_)
      refine j_iload_n K 0 rfl dX5_drawLots_33 rfl ?_
      obtain ⟨r_4, hc, h⟩ := bd1_some h
      refine j_callS (rest := []) (st1 := [.int r_4]) (ws' := (uX5_drawLots cyI cyJ cyS a0 c_size c_sort_3 c_paid c_wage)) K (ctX5_nextSeed l D cyI cyJ cyS r_1 r_4 hc) (gdS mcL mw_35_17 mw_35_18 mw_1_18 mw_35_19) rfl ⟨rfl, rfl⟩ hzX5_nextSeed ⟨Nat.le_of_ble_eq_true rfl, Nat.le_of_ble_eq_true rfl, Nat.le_of_ble_eq_true rfl, Nat.le_of_ble_eq_true rfl⟩ [] (by decide) rfl [none, none, none, none] (by decide) rfl rfl rfl rfl (Nat.le_of_ble_eq_true rfl) dX5_drawLots_34 rfl rfl ?_
      refine j_istore_n (lv' := [(3, .int r_4), (0, .ref (a0 0)), (2, .int i2), (4, .int i4)]) K (by decide) rfl dX5_drawLots_37 rfl ?_
      refine j_aload_n K 1 rfl dX5_drawLots_38 rfl ?_
      refine j_getf (C := RX5) (T := TX5) (N := 4) (ci := 5) K icX5 0 1 (List.mem_cons_of_mem _ mw_3_10) rfl rfl rfl (by decide) rfl dX5_drawLots_39 rfl ?_
      refine j_iload K 3 rfl dX5_drawLots_42 rfl ?_
      refine j_iload_n K 0 rfl dX5_drawLots_44 rfl ?_
      refine j_bipush (v := (10 : Int32)) K (by decide) dX5_drawLots_45 rfl ?_
      obtain ⟨r_5, hc, h⟩ := bd1_some h
      refine j_callS (rest := [.int i4, .ref (a0 2)]) (st1 := [.int r_5, .int i4, .ref (a0 2)]) (ws' := (uX5_drawLots cyI cyJ cyS a0 c_size c_sort_3 c_paid c_wage)) K (ctX5_lot l D cyI cyJ cyS r_4 (10 : Int32) r_5 hc) (gdS mcL mw_35_21 mw_35_22 mw_1_18 mw_35_23) rfl ⟨rfl, rfl⟩ hzX5_lot ⟨Nat.le_of_ble_eq_true rfl, Nat.le_of_ble_eq_true rfl, Nat.le_of_ble_eq_true rfl, Nat.le_of_ble_eq_true rfl⟩ [] (by decide) rfl [none, none, none, none] (by decide) rfl rfl rfl rfl (Nat.le_of_ble_eq_true rfl) dX5_drawLots_47 rfl rfl ?_
      refine j_iast K 2 0 (fun z => (uX5_drawLots cyI cyJ cyS a0 c_size c_sort_3 z c_wage)) rfl rfl (fun _ => rfl) dX5_drawLots_50 rfl h (fun c_paid_6 h => ?_)
      refine j_iload_n K 0 rfl dX5_drawLots_51 rfl ?_
      obtain ⟨r_7, hc, h⟩ := bd1_some h
      refine j_callS (rest := []) (st1 := [.int r_7]) (ws' := (uX5_drawLots cyI cyJ cyS a0 c_size c_sort_3 c_paid_6 c_wage)) K (ctX5_nextSeed l D cyI cyJ cyS r_4 r_7 hc) (gdS mcL mw_35_17 mw_35_18 mw_1_18 mw_35_19) rfl ⟨rfl, rfl⟩ hzX5_nextSeed ⟨Nat.le_of_ble_eq_true rfl, Nat.le_of_ble_eq_true rfl, Nat.le_of_ble_eq_true rfl, Nat.le_of_ble_eq_true rfl⟩ [] (by decide) rfl [none, none, none, none] (by decide) rfl rfl rfl rfl (Nat.le_of_ble_eq_true rfl) dX5_drawLots_52 rfl rfl ?_
      refine j_istore_n (lv' := [(3, .int r_7), (0, .ref (a0 0)), (2, .int i2), (4, .int i4)]) K (by decide) rfl dX5_drawLots_55 rfl ?_
      refine j_aload_n K 1 rfl dX5_drawLots_56 rfl ?_
      refine j_getf (C := RX5) (T := TX5) (N := 4) (ci := 5) K icX5 0 2 (List.mem_cons_of_mem _ mw_3_11) rfl rfl rfl (by decide) rfl dX5_drawLots_57 rfl ?_
      refine j_iload K 3 rfl dX5_drawLots_60 rfl ?_
      refine j_iload_n K 0 rfl dX5_drawLots_62 rfl ?_
      refine j_bipush (v := (10 : Int32)) K (by decide) dX5_drawLots_63 rfl ?_
      obtain ⟨r_8, hc, h⟩ := bd1_some h
      refine j_callS (rest := [.int i4, .ref (a0 3)]) (st1 := [.int r_8, .int i4, .ref (a0 3)]) (ws' := (uX5_drawLots cyI cyJ cyS a0 c_size c_sort_3 c_paid_6 c_wage)) K (ctX5_lot l D cyI cyJ cyS r_7 (10 : Int32) r_8 hc) (gdS mcL mw_35_21 mw_35_22 mw_1_18 mw_35_23) rfl ⟨rfl, rfl⟩ hzX5_lot ⟨Nat.le_of_ble_eq_true rfl, Nat.le_of_ble_eq_true rfl, Nat.le_of_ble_eq_true rfl, Nat.le_of_ble_eq_true rfl⟩ [] (by decide) rfl [none, none, none, none] (by decide) rfl rfl rfl rfl (Nat.le_of_ble_eq_true rfl) dX5_drawLots_65 rfl rfl ?_
      refine j_iast K 3 0 (fun z => (uX5_drawLots cyI cyJ cyS a0 c_size c_sort_3 c_paid_6 z)) rfl rfl (fun _ => rfl) dX5_drawLots_68 rfl h (fun c_wage_9 h => ?_)
      refine j_iincN (lf := fun z => [(4, .int z), (3, .int r_7), (0, .ref (a0 0)), (2, .int i2)]) K (v := i4 + (1 : Int32)) (k := 3) rfl rfl (by decide) (fun _ => rfl) dX5_drawLots_69 rfl h (fun i4_10 h => ?_)
      refine j_goto (pc' := 10) K dX5_drawLots_72 (by decide) ?_
      refine j_sub [2, 3, 1, 0] (lv' := [(0, .ref (a0 0)), (2, .int i2), (3, .int r_7), (4, .int i4_10)]) rfl ?_
      exact ih c_size c_sort_3 c_paid_6 c_wage_9 r_7 i4_10 h
set_option maxRecDepth 100000 in
set_option maxHeartbeats 4000000 in
theorem ctX5_drawLots (l : Launch) (D : va_G) (cyI cyJ cyS : ClassId) (a0 : Nat → Nat) (i1 : Int32) (i2 : Int32) (c_size : Int32) (c_sort : Nat → Int32) (c_paid : Nat → Int32) (c_wage : Nat → Int32) (o_size : Int32) (o_sort : Nat → Int32) (o_paid : Nat → Int32) (o_wage : Nat → Int32) (h : fX5_drawLots i1 i2 c_size c_sort c_paid c_wage = some (o_size, o_sort, o_paid, o_wage)) : jC l yX5_drawLots wdX5_drawLots rmX5_drawLots D vwCl (tyz cyI cyJ cyS) [.ref (a0 0), .int i1, .int i2] (uX5_drawLots cyI cyJ cyS a0 c_size c_sort c_paid c_wage) none (uX5_drawLots cyI cyJ cyS a0 o_size o_sort o_paid o_wage) := by
  refine jC_of (cc := cX5_drawLots) (nL := 5) (ret := none) (own := RX5) (lv := [(0, .ref (a0 0)), (1, .int i1), (2, .int i2)]) (by decide) rfl rfl (Nat.le_of_ble_eq_true rfl) rfl ?_
  intro p e s m args below meth c A K
  unfold fX5_drawLots at h
  refine j_iload_n K 1 rfl dX5_drawLots_0 rfl ?_
  refine j_istore_n (lv' := [(3, .int i1), (0, .ref (a0 0)), (1, .int i1), (2, .int i2)]) K (by decide) rfl dX5_drawLots_1 rfl ?_
  refine j_aload_n K 1 rfl dX5_drawLots_2 rfl ?_
  refine j_iload_n K 3 rfl dX5_drawLots_3 rfl ?_
  refine j_putf (C := RX5) (T := TX5) (N := 4) (ci := 5) (ty := .int) (ws' := (uX5_drawLots cyI cyJ cyS a0 i2 c_sort c_paid c_wage)) K icX5 tyX5 tyX5_ok nmX5 0 3 (List.mem_cons_of_mem _ mw_3_12) rfl rfl rfl (by decide) rfl (by decide +kernel) rfl rfl (Nat.le_of_ble_eq_true rfl) rfl dX5_drawLots_4 rfl ?_
  refine j_iconst (v := (0 : Int32)) K (by decide) dX5_drawLots_7 rfl ?_
  refine j_istore (lv' := [(4, .int (0 : Int32)), (3, .int i1), (0, .ref (a0 0)), (1, .int i1), (2, .int i2)]) K (by decide) rfl dX5_drawLots_8 rfl ?_
  refine j_sub [2, 4, 1, 0] (lv' := [(0, .ref (a0 0)), (2, .int i2), (3, .int i1), (4, .int (0 : Int32))]) rfl ?_
  exact wX5_drawLots_10 K a0 i1 i2 o_size o_sort o_paid o_wage jF i2 c_sort c_paid c_wage i1 (0 : Int32) h
abbrev uX7_houseChanged (cyI cyJ cyS : ClassId) (a0 : Nat → Nat) (c_room : Int32) (c_finding : Int32) (c_courseKnown : Int32) (c_settledByKnown : Int32) : va_W := [((a0 0), .inr (7, [.ref (a0 1), .ref (a0 3), .ref (a0 7), .ref (a0 11), .ref (a0 15), .ref (a0 19), .ref (a0 31), .ref (a0 43), .ref (a0 44), .ref (a0 53), .ref (a0 54), .int c_room, .int c_finding, .int c_courseKnown, .int c_settledByKnown]))]
abbrev rmX7_houseChanged : Room := { frames := 0, cells := 0, slots := 0, locals := 0 }
abbrev wdX7_houseChanged : List Cond := .code yX7_houseChanged cX7_houseChanged 1 none :: wsL_law
theorem hyX7_houseChanged : yX7_houseChanged.cls = RX7 ∧ yX7_houseChanged.cls ≠ "java/lang/invoke/MethodHandle" ∧ yX7_houseChanged.cls ≠ "java/lang/invoke/VarHandle" ∧ (parseMethodDescriptor yX7_houseChanged.desc).map (fun d => d.parameters.length) = some 0 := by decide +kernel
set_option maxRecDepth 100000 in
set_option maxHeartbeats 4000000 in
theorem ctX7_houseChanged (l : Launch) (D : va_G) (cyI cyJ cyS : ClassId) (a0 : Nat → Nat) (c_room : Int32) (c_finding : Int32) (c_courseKnown : Int32) (c_settledByKnown : Int32) (o_courseKnown : Int32) (o_settledByKnown : Int32) (h : fX7_houseChanged c_courseKnown c_settledByKnown = some (o_courseKnown, o_settledByKnown)) : jC l yX7_houseChanged wdX7_houseChanged rmX7_houseChanged D vwCl (tyz cyI cyJ cyS) [.ref (a0 0)] (uX7_houseChanged cyI cyJ cyS a0 c_room c_finding c_courseKnown c_settledByKnown) none (uX7_houseChanged cyI cyJ cyS a0 c_room c_finding o_courseKnown o_settledByKnown) := by
  refine jC_of (cc := cX7_houseChanged) (nL := 1) (ret := none) (own := RX7) (lv := [(0, .ref (a0 0))]) (by decide) rfl rfl (Nat.le_of_ble_eq_true rfl) rfl ?_
  intro p e s m args below meth c A K
  unfold fX7_houseChanged at h
  refine j_aload_n K 0 rfl dX7_houseChanged_0 rfl ?_
  refine j_iconst (v := (0 : Int32)) K (by decide) dX7_houseChanged_1 rfl ?_
  refine j_putf (C := RX7) (T := TX7) (N := 15) (ci := 7) (ty := .boolean) (ws' := (uX7_houseChanged cyI cyJ cyS a0 c_room c_finding (0 : Int32) c_settledByKnown)) K icX7 tyX7 tyX7_ok nmX7 0 13 (List.mem_cons_of_mem _ mw_2_21) rfl rfl rfl (by decide) rfl (by decide +kernel) rfl rfl (Nat.le_of_ble_eq_true rfl) rfl dX7_houseChanged_2 rfl ?_
  refine j_aload_n K 0 rfl dX7_houseChanged_5 rfl ?_
  refine j_iconst (v := (0 : Int32)) K (by decide) dX7_houseChanged_6 rfl ?_
  refine j_putf (C := RX7) (T := TX7) (N := 15) (ci := 7) (ty := .boolean) (ws' := (uX7_houseChanged cyI cyJ cyS a0 c_room c_finding (0 : Int32) (0 : Int32))) K icX7 tyX7 tyX7_ok nmX7 0 14 (List.mem_cons_of_mem _ mw_2_22) rfl rfl rfl (by decide) rfl (by decide +kernel) rfl rfl (Nat.le_of_ble_eq_true rfl) rfl dX7_houseChanged_7 rfl ?_
  obtain ⟨e1, g1⟩ := Prod.mk.inj (Option.some.inj h)
  subst e1
  subst g1
  exact j_vret K dX7_houseChanged_10
end GEN
