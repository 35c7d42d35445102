section GEN
variable {p : Program} {l : Launch} {e : Env} {s : State} {m : MethodId} {args : Array Value} {below : List Frame} {meth : Method} {c : Code} {A : Nat → Prop} {D : va_G} {cyI cyJ cyS : ClassId}
abbrev uX7_copy (cyI cyJ cyS : ClassId) (a0 : Nat → Nat) (c_room : Int32) (c_finding : Int32) (c_courseKnown : Int32) (c_settledByKnown : Int32) (c_sh0_form : Int32) (c_sh0_size : Int32) (c_sh0_lost : Int32) (c_sh0_items : Nat → Int32) (c_sh1_form : Int32) (c_sh1_size : Int32) (c_sh1_lost : Int32) (c_sh1_items : Nat → Int32) (c_sh2_form : Int32) (c_sh2_size : Int32) (c_sh2_lost : Int32) (c_sh2_items : Nat → Int32) (c_sh3_form : Int32) (c_sh3_size : Int32) (c_sh3_lost : Int32) (c_sh3_items : Nat → Int32) : va_W := [((a0 0), .inr (7, [.ref (a0 1), .ref (a0 3), .ref (a0 7), .ref (a0 11), .ref (a0 15), .ref (a0 19), .ref (a0 31), .ref (a0 43), .ref (a0 44), .ref (a0 53), .ref (a0 54), .int c_room, .int c_finding, .int c_courseKnown, .int c_settledByKnown])), ((a0 44), .inl (cyS, 4, .inr (.inr (.inr (.inr (va_up (va_up (va_up (va_up (fun _ => none) 0 (some (a0 45))) 1 (some (a0 47))) 2 (some (a0 49))) 3 (some (a0 51)))))))), ((a0 45), .inr (4, [.ref (a0 46), .int c_sh0_form, .int c_sh0_size, .int c_sh0_lost])), ((a0 46), .inl (cyI, 60, .inl c_sh0_items)), ((a0 47), .inr (4, [.ref (a0 48), .int c_sh1_form, .int c_sh1_size, .int c_sh1_lost])), ((a0 48), .inl (cyI, 60, .inl c_sh1_items)), ((a0 49), .inr (4, [.ref (a0 50), .int c_sh2_form, .int c_sh2_size, .int c_sh2_lost])), ((a0 50), .inl (cyI, 60, .inl c_sh2_items)), ((a0 51), .inr (4, [.ref (a0 52), .int c_sh3_form, .int c_sh3_size, .int c_sh3_lost])), ((a0 52), .inl (cyI, 60, .inl c_sh3_items))]
abbrev rmX7_copy : Room := { frames := 1, cells := 0, slots := 0, locals := 26 }
abbrev wdX7_copy : List Cond := .code yX7_copy cX7_copy 8 (some .int) :: wsL_law
theorem hyX7_copy : yX7_copy.cls = RX7 ∧ yX7_copy.cls ≠ "java/lang/invoke/MethodHandle" ∧ yX7_copy.cls ≠ "java/lang/invoke/VarHandle" ∧ (parseMethodDescriptor yX7_copy.desc).map (fun d => d.parameters.length) = some 5 := by decide +kernel
set_option maxRecDepth 100000 in
set_option maxHeartbeats 4000000 in
theorem wX7_copy_53 (K : jK p s m args meth c A D vwCl (tyz cyI cyJ cyS) cX7_copy 8 RX7 wdX7_copy (some .int)) (a0 : Nat → Nat) (c_room : Int32) (c_courseKnown : Int32) (c_settledByKnown : Int32) (i1 : Int32) (i2 : Int32) (i3 : Int32) (i4 : Int32) (i5 : Int32) (o_r : Int32) (o_finding : Int32) (o_sh0 : jS4) (o_sh1 : jS4) (o_sh2 : jS4) (o_sh3 : jS4) (fei1 : i1 = (0 : Int32)) (fei3 : i3 = (0 : Int32))  : ∀ (c_finding : Int32) (c_sh0 : jS4) (c_sh1 : jS4) (c_sh2 : jS4) (c_sh3 : jS4), fX7_copy_53 i1 i2 i3 i4 i5  c_finding c_sh0 c_sh1 c_sh2 c_sh3 = some (o_r, o_finding, o_sh0, o_sh1, o_sh2, o_sh3) → jw p l e rmX7_copy s m args below meth c (jQ below args s A D vwCl (tyz cyI cyJ cyS) 0 0 (some (.int o_r)) (uX7_copy cyI cyJ cyS a0 c_room o_finding c_courseKnown c_settledByKnown o_sh0.1 o_sh0.2.1 o_sh0.2.2.1 o_sh0.2.2.2 o_sh1.1 o_sh1.2.1 o_sh1.2.2.1 o_sh1.2.2.2 o_sh2.1 o_sh2.2.1 o_sh2.2.2.1 o_sh2.2.2.2 o_sh3.1 o_sh3.2.1 o_sh3.2.2.1 o_sh3.2.2.2)) A D vwCl 8 0 0 53 [(0, .ref (a0 0))] [] (uX7_copy cyI cyJ cyS a0 c_room c_finding c_courseKnown c_settledByKnown c_sh0.1 c_sh0.2.1 c_sh0.2.2.1 c_sh0.2.2.2 c_sh1.1 c_sh1.2.1 c_sh1.2.2.1 c_sh1.2.2.2 c_sh2.1 c_sh2.2.1 c_sh2.2.2.1 c_sh2.2.2.2 c_sh3.1 c_sh3.2.1 c_sh3.2.2.1 c_sh3.2.2.2) := by
  intro c_finding c_sh0 c_sh1 c_sh2 c_sh3 h
  unfold fX7_copy_53 at h
  refine j_aload_n K 0 rfl dX7_copy_53 rfl ?_
  refine j_iconst (v := (1 : Int32)) K (by decide) dX7_copy_54 rfl ?_
  obtain ⟨r_3, c_finding_4, hc, h⟩ := bd2_some h
  refine j_callV (rest := []) (st1 := [.int r_3]) (ws' := (uX7_copy cyI cyJ cyS a0 c_room c_finding_4 c_courseKnown c_settledByKnown c_sh0.1 c_sh0.2.1 c_sh0.2.2.1 c_sh0.2.2.2 c_sh1.1 c_sh1.2.1 c_sh1.2.2.1 c_sh1.2.2.2 c_sh2.1 c_sh2.2.1 c_sh2.2.2.1 c_sh2.2.2.2 c_sh3.1 c_sh3.2.1 c_sh3.2.2.1 c_sh3.2.2.2)) (T := TX7) (N := 15) (ci := 7) K (ctX7_found l D cyI cyJ cyS a0 (1 : Int32) c_room c_courseKnown c_settledByKnown c_finding r_3 c_finding_4 hc) (gdV mcL mw_12_9 mw_12_10 mw_12_11 mw_1_2 mw_12_12) rfl ⟨rfl, rfl⟩ hyX7_found ⟨Nat.le_of_ble_eq_true rfl, Nat.le_of_ble_eq_true rfl, Nat.le_of_ble_eq_true rfl, Nat.le_of_ble_eq_true rfl⟩ [0] (by decide) rfl [some 0, none, none, none, none, none, none, none, none, none] (by decide) rfl rfl 0 rfl rfl rfl rfl (Nat.le_of_ble_eq_true rfl) dX7_copy_55 rfl rfl ?_
  obtain ⟨e1, g1⟩ := Prod.mk.inj (Option.some.inj h)
  subst e1
  obtain ⟨e2, g2⟩ := Prod.mk.inj g1
  subst e2
  obtain ⟨e3, g3⟩ := Prod.mk.inj g2
  subst e3
  obtain ⟨e4, g4⟩ := Prod.mk.inj g3
  subst e4
  obtain ⟨e5, g5⟩ := Prod.mk.inj g4
  subst e5
  subst g5
  exact j_iret K dX7_copy_58
set_option maxRecDepth 100000 in
set_option maxHeartbeats 4000000 in
theorem wX7_copy_101 (K : jK p s m args meth c A D vwCl (tyz cyI cyJ cyS) cX7_copy 8 RX7 wdX7_copy (some .int)) (a0 : Nat → Nat) (c_room : Int32) (c_courseKnown : Int32) (c_settledByKnown : Int32) (i1 : Int32) (i2 : Int32) (i3 : Int32) (i4 : Int32) (i5 : Int32) (o_r : Int32) (o_finding : Int32) (o_sh0 : jS4) (o_sh1 : jS4) (o_sh2 : jS4) (o_sh3 : jS4) (fei1 : i1 = (0 : Int32)) (fei3 : i3 = (0 : Int32))  : ∀ (c_finding : Int32) (c_sh0 : jS4) (c_sh1 : jS4) (c_sh2 : jS4) (c_sh3 : jS4), fX7_copy_101 i1 i2 i3 i4 i5  c_finding c_sh0 c_sh1 c_sh2 c_sh3 = some (o_r, o_finding, o_sh0, o_sh1, o_sh2, o_sh3) → jw p l e rmX7_copy s m args below meth c (jQ below args s A D vwCl (tyz cyI cyJ cyS) 0 0 (some (.int o_r)) (uX7_copy cyI cyJ cyS a0 c_room o_finding c_courseKnown c_settledByKnown o_sh0.1 o_sh0.2.1 o_sh0.2.2.1 o_sh0.2.2.2 o_sh1.1 o_sh1.2.1 o_sh1.2.2.1 o_sh1.2.2.2 o_sh2.1 o_sh2.2.1 o_sh2.2.2.1 o_sh2.2.2.2 o_sh3.1 o_sh3.2.1 o_sh3.2.2.1 o_sh3.2.2.2)) A D vwCl 8 0 0 101 [(0, .ref (a0 0))] [] (uX7_copy cyI cyJ cyS a0 c_room c_finding c_courseKnown c_settledByKnown c_sh0.1 c_sh0.2.1 c_sh0.2.2.1 c_sh0.2.2.2 c_sh1.1 c_sh1.2.1 c_sh1.2.2.1 c_sh1.2.2.2 c_sh2.1 c_sh2.2.1 c_sh2.2.2.1 c_sh2.2.2.2 c_sh3.1 c_sh3.2.1 c_sh3.2.2.1 c_sh3.2.2.2) := by
  intro c_finding c_sh0 c_sh1 c_sh2 c_sh3 h
  unfold fX7_copy_101 at h
  refine j_aload_n K 0 rfl dX7_copy_101 rfl ?_
  refine j_iconst (v := (2 : Int32)) K (by decide) dX7_copy_102 rfl ?_
  obtain ⟨r_6, c_finding_7, hc, h⟩ := bd2_some h
  refine j_callV (rest := []) (st1 := [.int r_6]) (ws' := (uX7_copy cyI cyJ cyS a0 c_room c_finding_7 c_courseKnown c_settledByKnown c_sh0.1 c_sh0.2.1 c_sh0.2.2.1 c_sh0.2.2.2 c_sh1.1 c_sh1.2.1 c_sh1.2.2.1 c_sh1.2.2.2 c_sh2.1 c_sh2.2.1 c_sh2.2.2.1 c_sh2.2.2.2 c_sh3.1 c_sh3.2.1 c_sh3.2.2.1 c_sh3.2.2.2)) (T := TX7) (N := 15) (ci := 7) K (ctX7_found l D cyI cyJ cyS a0 (2 : Int32) c_room c_courseKnown c_settledByKnown c_finding r_6 c_finding_7 hc) (gdV mcL mw_12_9 mw_12_10 mw_12_11 mw_1_2 mw_12_12) rfl ⟨rfl, rfl⟩ hyX7_found ⟨Nat.le_of_ble_eq_true rfl, Nat.le_of_ble_eq_true rfl, Nat.le_of_ble_eq_true rfl, Nat.le_of_ble_eq_true rfl⟩ [0] (by decide) rfl [some 0, none, none, none, none, none, none, none, none, none] (by decide) rfl rfl 0 rfl rfl rfl rfl (Nat.le_of_ble_eq_true rfl) dX7_copy_103 rfl rfl ?_
  obtain ⟨e1, g1⟩ := Prod.mk.inj (Option.some.inj h)
  subst e1
  obtain ⟨e2, g2⟩ := Prod.mk.inj g1
  subst e2
  obtain ⟨e3, g3⟩ := Prod.mk.inj g2
  subst e3
  obtain ⟨e4, g4⟩ := Prod.mk.inj g3
  subst e4
  obtain ⟨e5, g5⟩ := Prod.mk.inj g4
  subst e5
  subst g5
  exact j_iret K dX7_copy_106
set_option maxRecDepth 100000 in
set_option maxHeartbeats 4000000 in
theorem wX7_copy_53_v1 (K : jK p s m args meth c A D vwCl (tyz cyI cyJ cyS) cX7_copy 8 RX7 wdX7_copy (some .int)) (a0 : Nat → Nat) (c_room : Int32) (c_courseKnown : Int32) (c_settledByKnown : Int32) (i1 : Int32) (i2 : Int32) (i3 : Int32) (i4 : Int32) (i5 : Int32) (o_r : Int32) (o_finding : Int32) (o_sh0 : jS4) (o_sh1 : jS4) (o_sh2 : jS4) (o_sh3 : jS4) (fei1 : i1 = (0 : Int32)) (fei3 : i3 = (1 : Int32))  : ∀ (c_finding : Int32) (c_sh0 : jS4) (c_sh1 : jS4) (c_sh2 : jS4) (c_sh3 : jS4), fX7_copy_53_v1 i1 i2 i3 i4 i5  c_finding c_sh0 c_sh1 c_sh2 c_sh3 = some (o_r, o_finding, o_sh0, o_sh1, o_sh2, o_sh3) → jw p l e rmX7_copy s m args below meth c (jQ below args s A D vwCl (tyz cyI cyJ cyS) 0 0 (some (.int o_r)) (uX7_copy cyI cyJ cyS a0 c_room o_finding c_courseKnown c_settledByKnown o_sh0.1 o_sh0.2.1 o_sh0.2.2.1 o_sh0.2.2.2 o_sh1.1 o_sh1.2.1 o_sh1.2.2.1 o_sh1.2.2.2 o_sh2.1 o_sh2.2.1 o_sh2.2.2.1 o_sh2.2.2.2 o_sh3.1 o_sh3.2.1 o_sh3.2.2.1 o_sh3.2.2.2)) A D vwCl 8 0 0 53 [(0, .ref (a0 0))] [] (uX7_copy cyI cyJ cyS a0 c_room c_finding c_courseKnown c_settledByKnown c_sh0.1 c_sh0.2.1 c_sh0.2.2.1 c_sh0.2.2.2 c_sh1.1 c_sh1.2.1 c_sh1.2.2.1 c_sh1.2.2.2 c_sh2.1 c_sh2.2.1 c_sh2.2.2.1 c_sh2.2.2.2 c_sh3.1 c_sh3.2.1 c_sh3.2.2.1 c_sh3.2.2.2) := by
  intro c_finding c_sh0 c_sh1 c_sh2 c_sh3 h
  unfold fX7_copy_53_v1 at h
  refine j_aload_n K 0 rfl dX7_copy_53 rfl ?_
  refine j_iconst (v := (1 : Int32)) K (by decide) dX7_copy_54 rfl ?_
  obtain ⟨r_12, c_finding_13, hc, h⟩ := bd2_some h
  refine j_callV (rest := []) (st1 := [.int r_12]) (ws' := (uX7_copy cyI cyJ cyS a0 c_room c_finding_13 c_courseKnown c_settledByKnown c_sh0.1 c_sh0.2.1 c_sh0.2.2.1 c_sh0.2.2.2 c_sh1.1 c_sh1.2.1 c_sh1.2.2.1 c_sh1.2.2.2 c_sh2.1 c_sh2.2.1 c_sh2.2.2.1 c_sh2.2.2.2 c_sh3.1 c_sh3.2.1 c_sh3.2.2.1 c_sh3.2.2.2)) (T := TX7) (N := 15) (ci := 7) K (ctX7_found l D cyI cyJ cyS a0 (1 : Int32) c_room c_courseKnown c_settledByKnown c_finding r_12 c_finding_13 hc) (gdV mcL mw_12_9 mw_12_10 mw_12_11 mw_1_2 mw_12_12) rfl ⟨rfl, rfl⟩ hyX7_found ⟨Nat.le_of_ble_eq_true rfl, Nat.le_of_ble_eq_true rfl, Nat.le_of_ble_eq_true rfl, Nat.le_of_ble_eq_true rfl⟩ [0] (by decide) rfl [some 0, none, none, none, none, none, none, none, none, none] (by decide) rfl rfl 0 rfl rfl rfl rfl (Nat.le_of_ble_eq_true rfl) dX7_copy_55 rfl rfl ?_
  obtain ⟨e1, g1⟩ := Prod.mk.inj (Option.some.inj h)
  subst e1
  obtain ⟨e2, g2⟩ := Prod.mk.inj g1
  subst e2
  obtain ⟨e3, g3⟩ := Prod.mk.inj g2
  subst e3
  obtain ⟨e4, g4⟩ := Prod.mk.inj g3
  subst e4
  obtain ⟨e5, g5⟩ := Prod.mk.inj g4
  subst e5
  subst g5
  exact j_iret K dX7_copy_58
set_option maxRecDepth 100000 in
set_option maxHeartbeats 4000000 in
theorem wX7_copy_101_v1 (K : jK p s m args meth c A D vwCl (tyz cyI cyJ cyS) cX7_copy 8 RX7 wdX7_copy (some .int)) (a0 : Nat → Nat) (c_room : Int32) (c_courseKnown : Int32) (c_settledByKnown : Int32) (i1 : Int32) (i2 : Int32) (i3 : Int32) (i4 : Int32) (i5 : Int32) (o_r : Int32) (o_finding : Int32) (o_sh0 : jS4) (o_sh1 : jS4) (o_sh2 : jS4) (o_sh3 : jS4) (fei1 : i1 = (0 : Int32)) (fei3 : i3 = (1 : Int32))  : ∀ (c_finding : Int32) (c_sh0 : jS4) (c_sh1 : jS4) (c_sh2 : jS4) (c_sh3 : jS4), fX7_copy_101_v1 i1 i2 i3 i4 i5  c_finding c_sh0 c_sh1 c_sh2 c_sh3 = some (o_r, o_finding, o_sh0, o_sh1, o_sh2, o_sh3) → jw p l e rmX7_copy s m args below meth c (jQ below args s A D vwCl (tyz cyI cyJ cyS) 0 0 (some (.int o_r)) (uX7_copy cyI cyJ cyS a0 c_room o_finding c_courseKnown c_settledByKnown o_sh0.1 o_sh0.2.1 o_sh0.2.2.1 o_sh0.2.2.2 o_sh1.1 o_sh1.2.1 o_sh1.2.2.1 o_sh1.2.2.2 o_sh2.1 o_sh2.2.1 o_sh2.2.2.1 o_sh2.2.2.2 o_sh3.1 o_sh3.2.1 o_sh3.2.2.1 o_sh3.2.2.2)) A D vwCl 8 0 0 101 [(0, .ref (a0 0))] [] (uX7_copy cyI cyJ cyS a0 c_room c_finding c_courseKnown c_settledByKnown c_sh0.1 c_sh0.2.1 c_sh0.2.2.1 c_sh0.2.2.2 c_sh1.1 c_sh1.2.1 c_sh1.2.2.1 c_sh1.2.2.2 c_sh2.1 c_sh2.2.1 c_sh2.2.2.1 c_sh2.2.2.2 c_sh3.1 c_sh3.2.1 c_sh3.2.2.1 c_sh3.2.2.2) := by
  intro c_finding c_sh0 c_sh1 c_sh2 c_sh3 h
  unfold fX7_copy_101_v1 at h
  refine j_aload_n K 0 rfl dX7_copy_101 rfl ?_
  refine j_iconst (v := (2 : Int32)) K (by decide) dX7_copy_102 rfl ?_
  obtain ⟨r_15, c_finding_16, hc, h⟩ := bd2_some h
  refine j_callV (rest := []) (st1 := [.int r_15]) (ws' := (uX7_copy cyI cyJ cyS a0 c_room c_finding_16 c_courseKnown c_settledByKnown c_sh0.1 c_sh0.2.1 c_sh0.2.2.1 c_sh0.2.2.2 c_sh1.1 c_sh1.2.1 c_sh1.2.2.1 c_sh1.2.2.2 c_sh2.1 c_sh2.2.1 c_sh2.2.2.1 c_sh2.2.2.2 c_sh3.1 c_sh3.2.1 c_sh3.2.2.1 c_sh3.2.2.2)) (T := TX7) (N := 15) (ci := 7) K (ctX7_found l D cyI cyJ cyS a0 (2 : Int32) c_room c_courseKnown c_settledByKnown c_finding r_15 c_finding_16 hc) (gdV mcL mw_12_9 mw_12_10 mw_12_11 mw_1_2 mw_12_12) rfl ⟨rfl, rfl⟩ hyX7_found ⟨Nat.le_of_ble_eq_true rfl, Nat.le_of_ble_eq_true rfl, Nat.le_of_ble_eq_true rfl, Nat.le_of_ble_eq_true rfl⟩ [0] (by decide) rfl [some 0, none, none, none, none, none, none, none, none, none] (by decide) rfl rfl 0 rfl rfl rfl rfl (Nat.le_of_ble_eq_true rfl) dX7_copy_103 rfl rfl ?_
  obtain ⟨e1, g1⟩ := Prod.mk.inj (Option.some.inj h)
  subst e1
  obtain ⟨e2, g2⟩ := Prod.mk.inj g1
  subst e2
  obtain ⟨e3, g3⟩ := Prod.mk.inj g2
  subst e3
  obtain ⟨e4, g4⟩ := Prod.mk.inj g3
  subst e4
  obtain ⟨e5, g5⟩ := Prod.mk.inj g4
  subst e5
  subst g5
  exact j_iret K dX7_copy_106
set_option maxRecDepth 100000 in
set_option maxHeartbeats 4000000 in
theorem wX7_copy_53_v2 (K : jK p s m args meth c A D vwCl (tyz cyI cyJ cyS) cX7_copy 8 RX7 wdX7_copy (some .int)) (a0 : Nat → Nat) (c_room : Int32) (c_courseKnown : Int32) (c_settledByKnown : Int32) (i1 : Int32) (i2 : Int32) (i3 : Int32) (i4 : Int32) (i5 : Int32) (o_r : Int32) (o_finding : Int32) (o_sh0 : jS4) (o_sh1 : jS4) (o_sh2 : jS4) (o_sh3 : jS4) (fei1 : i1 = (0 : Int32)) (fei3 : i3 = (2 : Int32))  : ∀ (c_finding : Int32) (c_sh0 : jS4) (c_sh1 : jS4) (c_sh2 : jS4) (c_sh3 : jS4), fX7_copy_53_v2 i1 i2 i3 i4 i5  c_finding c_sh0 c_sh1 c_sh2 c_sh3 = some (o_r, o_finding, o_sh0, o_sh1, o_sh2, o_sh3) → jw p l e rmX7_copy s m args below meth c (jQ below args s A D vwCl (tyz cyI cyJ cyS) 0 0 (some (.int o_r)) (uX7_copy cyI cyJ cyS a0 c_room o_finding c_courseKnown c_settledByKnown o_sh0.1 o_sh0.2.1 o_sh0.2.2.1 o_sh0.2.2.2 o_sh1.1 o_sh1.2.1 o_sh1.2.2.1 o_sh1.2.2.2 o_sh2.1 o_sh2.2.1 o_sh2.2.2.1 o_sh2.2.2.2 o_sh3.1 o_sh3.2.1 o_sh3.2.2.1 o_sh3.2.2.2)) A D vwCl 8 0 0 53 [(0, .ref (a0 0))] [] (uX7_copy cyI cyJ cyS a0 c_room c_finding c_courseKnown c_settledByKnown c_sh0.1 c_sh0.2.1 c_sh0.2.2.1 c_sh0.2.2.2 c_sh1.1 c_sh1.2.1 c_sh1.2.2.1 c_sh1.2.2.2 c_sh2.1 c_sh2.2.1 c_sh2.2.2.1 c_sh2.2.2.2 c_sh3.1 c_sh3.2.1 c_sh3.2.2.1 c_sh3.2.2.2) := by
  intro c_finding c_sh0 c_sh1 c_sh2 c_sh3 h
  unfold fX7_copy_53_v2 at h
  refine j_aload_n K 0 rfl dX7_copy_53 rfl ?_
  refine j_iconst (v := (1 : Int32)) K (by decide) dX7_copy_54 rfl ?_
  obtain ⟨r_21, c_finding_22, hc, h⟩ := bd2_some h
  refine j_callV (rest := []) (st1 := [.int r_21]) (ws' := (uX7_copy cyI cyJ cyS a0 c_room c_finding_22 c_courseKnown c_settledByKnown c_sh0.1 c_sh0.2.1 c_sh0.2.2.1 c_sh0.2.2.2 c_sh1.1 c_sh1.2.1 c_sh1.2.2.1 c_sh1.2.2.2 c_sh2.1 c_sh2.2.1 c_sh2.2.2.1 c_sh2.2.2.2 c_sh3.1 c_sh3.2.1 c_sh3.2.2.1 c_sh3.2.2.2)) (T := TX7) (N := 15) (ci := 7) K (ctX7_found l D cyI cyJ cyS a0 (1 : Int32) c_room c_courseKnown c_settledByKnown c_finding r_21 c_finding_22 hc) (gdV mcL mw_12_9 mw_12_10 mw_12_11 mw_1_2 mw_12_12) rfl ⟨rfl, rfl⟩ hyX7_found ⟨Nat.le_of_ble_eq_true rfl, Nat.le_of_ble_eq_true rfl, Nat.le_of_ble_eq_true rfl, Nat.le_of_ble_eq_true rfl⟩ [0] (by decide) rfl [some 0, none, none, none, none, none, none, none, none, none] (by decide) rfl rfl 0 rfl rfl rfl rfl (Nat.le_of_ble_eq_true rfl) dX7_copy_55 rfl rfl ?_
  obtain ⟨e1, g1⟩ := Prod.mk.inj (Option.some.inj h)
  subst e1
  obtain ⟨e2, g2⟩ := Prod.mk.inj g1
  subst e2
  obtain ⟨e3, g3⟩ := Prod.mk.inj g2
  subst e3
  obtain ⟨e4, g4⟩ := Prod.mk.inj g3
  subst e4
  obtain ⟨e5, g5⟩ := Prod.mk.inj g4
  subst e5
  subst g5
  exact j_iret K dX7_copy_58
set_option maxRecDepth 100000 in
set_option maxHeartbeats 4000000 in
theorem wX7_copy_101_v2 (K : jK p s m args meth c A D vwCl (tyz cyI cyJ cyS) cX7_copy 8 RX7 wdX7_copy (some .int)) (a0 : Nat → Nat) (c_room : Int32) (c_courseKnown : Int32) (c_settledByKnown : Int32) (i1 : Int32) (i2 : Int32) (i3 : Int32) (i4 : Int32) (i5 : Int32) (o_r : Int32) (o_finding : Int32) (o_sh0 : jS4) (o_sh1 : jS4) (o_sh2 : jS4) (o_sh3 : jS4) (fei1 : i1 = (0 : Int32)) (fei3 : i3 = (2 : Int32))  : ∀ (c_finding : Int32) (c_sh0 : jS4) (c_sh1 : jS4) (c_sh2 : jS4) (c_sh3 : jS4), fX7_copy_101_v2 i1 i2 i3 i4 i5  c_finding c_sh0 c_sh1 c_sh2 c_sh3 = some (o_r, o_finding, o_sh0, o_sh1, o_sh2, o_sh3) → jw p l e rmX7_copy s m args below meth c (jQ below args s A D vwCl (tyz cyI cyJ cyS) 0 0 (some (.int o_r)) (uX7_copy cyI cyJ cyS a0 c_room o_finding c_courseKnown c_settledByKnown o_sh0.1 o_sh0.2.1 o_sh0.2.2.1 o_sh0.2.2.2 o_sh1.1 o_sh1.2.1 o_sh1.2.2.1 o_sh1.2.2.2 o_sh2.1 o_sh2.2.1 o_sh2.2.2.1 o_sh2.2.2.2 o_sh3.1 o_sh3.2.1 o_sh3.2.2.1 o_sh3.2.2.2)) A D vwCl 8 0 0 101 [(0, .ref (a0 0))] [] (uX7_copy cyI cyJ cyS a0 c_room c_finding c_courseKnown c_settledByKnown c_sh0.1 c_sh0.2.1 c_sh0.2.2.1 c_sh0.2.2.2 c_sh1.1 c_sh1.2.1 c_sh1.2.2.1 c_sh1.2.2.2 c_sh2.1 c_sh2.2.1 c_sh2.2.2.1 c_sh2.2.2.2 c_sh3.1 c_sh3.2.1 c_sh3.2.2.1 c_sh3.2.2.2) := by
  intro c_finding c_sh0 c_sh1 c_sh2 c_sh3 h
  unfold fX7_copy_101_v2 at h
  refine j_aload_n K 0 rfl dX7_copy_101 rfl ?_
  refine j_iconst (v := (2 : Int32)) K (by decide) dX7_copy_102 rfl ?_
  obtain ⟨r_24, c_finding_25, hc, h⟩ := bd2_some h
  refine j_callV (rest := []) (st1 := [.int r_24]) (ws' := (uX7_copy cyI cyJ cyS a0 c_room c_finding_25 c_courseKnown c_settledByKnown c_sh0.1 c_sh0.2.1 c_sh0.2.2.1 c_sh0.2.2.2 c_sh1.1 c_sh1.2.1 c_sh1.2.2.1 c_sh1.2.2.2 c_sh2.1 c_sh2.2.1 c_sh2.2.2.1 c_sh2.2.2.2 c_sh3.1 c_sh3.2.1 c_sh3.2.2.1 c_sh3.2.2.2)) (T := TX7) (N := 15) (ci := 7) K (ctX7_found l D cyI cyJ cyS a0 (2 : Int32) c_room c_courseKnown c_settledByKnown c_finding r_24 c_finding_25 hc) (gdV mcL mw_12_9 mw_12_10 mw_12_11 mw_1_2 mw_12_12) rfl ⟨rfl, rfl⟩ hyX7_found ⟨Nat.le_of_ble_eq_true rfl, Nat.le_of_ble_eq_true rfl, Nat.le_of_ble_eq_true rfl, Nat.le_of_ble_eq_true rfl⟩ [0] (by decide) rfl [some 0, none, none, none, none, none, none, none, none, none] (by decide) rfl rfl 0 rfl rfl rfl rfl (Nat.le_of_ble_eq_true rfl) dX7_copy_103 rfl rfl ?_
  obtain ⟨e1, g1⟩ := Prod.mk.inj (Option.some.inj h)
  subst e1
  obtain ⟨e2, g2⟩ := Prod.mk.inj g1
  subst e2
  obtain ⟨e3, g3⟩ := Prod.mk.inj g2
  subst e3
  obtain ⟨e4, g4⟩ := Prod.mk.inj g3
  subst e4
  obtain ⟨e5, g5⟩ := Prod.mk.inj g4
  subst e5
  subst g5
  exact j_iret K dX7_copy_106
set_option maxRecDepth 100000 in
set_option maxHeartbeats 4000000 in
theorem wX7_copy_53_v3 (K : jK p s m args meth c A D vwCl (tyz cyI cyJ cyS) cX7_copy 8 RX7 wdX7_copy (some .int)) (a0 : Nat → Nat) (c_room : Int32) (c_courseKnown : Int32) (c_settledByKnown : Int32) (i1 : Int32) (i2 : Int32) (i3 : Int32) (i4 : Int32) (i5 : Int32) (o_r : Int32) (o_finding : Int32) (o_sh0 : jS4) (o_sh1 : jS4) (o_sh2 : jS4) (o_sh3 : jS4) (fei1 : i1 = (0 : Int32)) (fei3 : i3 = (3 : Int32))  : ∀ (c_finding : Int32) (c_sh0 : jS4) (c_sh1 : jS4) (c_sh2 : jS4) (c_sh3 : jS4), fX7_copy_53_v3 i1 i2 i3 i4 i5  c_finding c_sh0 c_sh1 c_sh2 c_sh3 = some (o_r, o_finding, o_sh0, o_sh1, o_sh2, o_sh3) → jw p l e rmX7_copy s m args below meth c (jQ below args s A D vwCl (tyz cyI cyJ cyS) 0 0 (some (.int o_r)) (uX7_copy cyI cyJ cyS a0 c_room o_finding c_courseKnown c_settledByKnown o_sh0.1 o_sh0.2.1 o_sh0.2.2.1 o_sh0.2.2.2 o_sh1.1 o_sh1.2.1 o_sh1.2.2.1 o_sh1.2.2.2 o_sh2.1 o_sh2.2.1 o_sh2.2.2.1 o_sh2.2.2.2 o_sh3.1 o_sh3.2.1 o_sh3.2.2.1 o_sh3.2.2.2)) A D vwCl 8 0 0 53 [(0, .ref (a0 0))] [] (uX7_copy cyI cyJ cyS a0 c_room c_finding c_courseKnown c_settledByKnown c_sh0.1 c_sh0.2.1 c_sh0.2.2.1 c_sh0.2.2.2 c_sh1.1 c_sh1.2.1 c_sh1.2.2.1 c_sh1.2.2.2 c_sh2.1 c_sh2.2.1 c_sh2.2.2.1 c_sh2.2.2.2 c_sh3.1 c_sh3.2.1 c_sh3.2.2.1 c_sh3.2.2.2) := by
  intro c_finding c_sh0 c_sh1 c_sh2 c_sh3 h
  unfold fX7_copy_53_v3 at h
  refine j_aload_n K 0 rfl dX7_copy_53 rfl ?_
  refine j_iconst (v := (1 : Int32)) K (by decide) dX7_copy_54 rfl ?_
  obtain ⟨r_30, c_finding_31, hc, h⟩ := bd2_some h
  refine j_callV (rest := []) (st1 := [.int r_30]) (ws' := (uX7_copy cyI cyJ cyS a0 c_room c_finding_31 c_courseKnown c_settledByKnown c_sh0.1 c_sh0.2.1 c_sh0.2.2.1 c_sh0.2.2.2 c_sh1.1 c_sh1.2.1 c_sh1.2.2.1 c_sh1.2.2.2 c_sh2.1 c_sh2.2.1 c_sh2.2.2.1 c_sh2.2.2.2 c_sh3.1 c_sh3.2.1 c_sh3.2.2.1 c_sh3.2.2.2)) (T := TX7) (N := 15) (ci := 7) K (ctX7_found l D cyI cyJ cyS a0 (1 : Int32) c_room c_courseKnown c_settledByKnown c_finding r_30 c_finding_31 hc) (gdV mcL mw_12_9 mw_12_10 mw_12_11 mw_1_2 mw_12_12) rfl ⟨rfl, rfl⟩ hyX7_found ⟨Nat.le_of_ble_eq_true rfl, Nat.le_of_ble_eq_true rfl, Nat.le_of_ble_eq_true rfl, Nat.le_of_ble_eq_true rfl⟩ [0] (by decide) rfl [some 0, none, none, none, none, none, none, none, none, none] (by decide) rfl rfl 0 rfl rfl rfl rfl (Nat.le_of_ble_eq_true rfl) dX7_copy_55 rfl rfl ?_
  obtain ⟨e1, g1⟩ := Prod.mk.inj (Option.some.inj h)
  subst e1
  obtain ⟨e2, g2⟩ := Prod.mk.inj g1
  subst e2
  obtain ⟨e3, g3⟩ := Prod.mk.inj g2
  subst e3
  obtain ⟨e4, g4⟩ := Prod.mk.inj g3
  subst e4
  obtain ⟨e5, g5⟩ := Prod.mk.inj g4
  subst e5
  subst g5
  exact j_iret K dX7_copy_58
set_option maxRecDepth 100000 in
set_option maxHeartbeats 4000000 in
theorem wX7_copy_101_v3 (K : jK p s m args meth c A D vwCl (tyz cyI cyJ cyS) cX7_copy 8 RX7 wdX7_copy (some .int)) (a0 : Nat → Nat) (c_room : Int32) (c_courseKnown : Int32) (c_settledByKnown : Int32) (i1 : Int32) (i2 : Int32) (i3 : Int32) (i4 : Int32) (i5 : Int32) (o_r : Int32) (o_finding : Int32) (o_sh0 : jS4) (o_sh1 : jS4) (o_sh2 : jS4) (o_sh3 : jS4) (fei1 : i1 = (0 : Int32)) (fei3 : i3 = (3 : Int32))  : ∀ (c_finding : Int32) (c_sh0 : jS4) (c_sh1 : jS4) (c_sh2 : jS4) (c_sh3 : jS4), fX7_copy_101_v3 i1 i2 i3 i4 i5  c_finding c_sh0 c_sh1 c_sh2 c_sh3 = some (o_r, o_finding, o_sh0, o_sh1, o_sh2, o_sh3) → jw p l e rmX7_copy s m args below meth c (jQ below args s A D vwCl (tyz cyI cyJ cyS) 0 0 (some (.int o_r)) (uX7_copy cyI cyJ cyS a0 c_room o_finding c_courseKnown c_settledByKnown o_sh0.1 o_sh0.2.1 o_sh0.2.2.1 o_sh0.2.2.2 o_sh1.1 o_sh1.2.1 o_sh1.2.2.1 o_sh1.2.2.2 o_sh2.1 o_sh2.2.1 o_sh2.2.2.1 o_sh2.2.2.2 o_sh3.1 o_sh3.2.1 o_sh3.2.2.1 o_sh3.2.2.2)) A D vwCl 8 0 0 101 [(0, .ref (a0 0))] [] (uX7_copy cyI cyJ cyS a0 c_room c_finding c_courseKnown c_settledByKnown c_sh0.1 c_sh0.2.1 c_sh0.2.2.1 c_sh0.2.2.2 c_sh1.1 c_sh1.2.1 c_sh1.2.2.1 c_sh1.2.2.2 c_sh2.1 c_sh2.2.1 c_sh2.2.2.1 c_sh2.2.2.2 c_sh3.1 c_sh3.2.1 c_sh3.2.2.1 c_sh3.2.2.2) := by
  intro c_finding c_sh0 c_sh1 c_sh2 c_sh3 h
  unfold fX7_copy_101_v3 at h
  refine j_aload_n K 0 rfl dX7_copy_101 rfl ?_
  refine j_iconst (v := (2 : Int32)) K (by decide) dX7_copy_102 rfl ?_
  obtain ⟨r_33, c_finding_34, hc, h⟩ := bd2_some h
  refine j_callV (rest := []) (st1 := [.int r_33]) (ws' := (uX7_copy cyI cyJ cyS a0 c_room c_finding_34 c_courseKnown c_settledByKnown c_sh0.1 c_sh0.2.1 c_sh0.2.2.1 c_sh0.2.2.2 c_sh1.1 c_sh1.2.1 c_sh1.2.2.1 c_sh1.2.2.2 c_sh2.1 c_sh2.2.1 c_sh2.2.2.1 c_sh2.2.2.2 c_sh3.1 c_sh3.2.1 c_sh3.2.2.1 c_sh3.2.2.2)) (T := TX7) (N := 15) (ci := 7) K (ctX7_found l D cyI cyJ cyS a0 (2 : Int32) c_room c_courseKnown c_settledByKnown c_finding r_33 c_finding_34 hc) (gdV mcL mw_12_9 mw_12_10 mw_12_11 mw_1_2 mw_12_12) rfl ⟨rfl, rfl⟩ hyX7_found ⟨Nat.le_of_ble_eq_true rfl, Nat.le_of_ble_eq_true rfl, Nat.le_of_ble_eq_true rfl, Nat.le_of_ble_eq_true rfl⟩ [0] (by decide) rfl [some 0, none, none, none, none, none, none, none, none, none] (by decide) rfl rfl 0 rfl rfl rfl rfl (Nat.le_of_ble_eq_true rfl) dX7_copy_103 rfl rfl ?_
  obtain ⟨e1, g1⟩ := Prod.mk.inj (Option.some.inj h)
  subst e1
  obtain ⟨e2, g2⟩ := Prod.mk.inj g1
  subst e2
  obtain ⟨e3, g3⟩ := Prod.mk.inj g2
  subst e3
  obtain ⟨e4, g4⟩ := Prod.mk.inj g3
  subst e4
  obtain ⟨e5, g5⟩ := Prod.mk.inj g4
  subst e5
  subst g5
  exact j_iret K dX7_copy_106
set_option maxRecDepth 100000 in
set_option maxHeartbeats 4000000 in
theorem wX7_copy_53_v4 (K : jK p s m args meth c A D vwCl (tyz cyI cyJ cyS) cX7_copy 8 RX7 wdX7_copy (some .int)) (a0 : Nat → Nat) (c_room : Int32) (c_courseKnown : Int32) (c_settledByKnown : Int32) (i1 : Int32) (i2 : Int32) (i3 : Int32) (i4 : Int32) (i5 : Int32) (o_r : Int32) (o_finding : Int32) (o_sh0 : jS4) (o_sh1 : jS4) (o_sh2 : jS4) (o_sh3 : jS4) (fei1 : i1 = (1 : Int32)) (fei3 : i3 = (0 : Int32))  : ∀ (c_finding : Int32) (c_sh0 : jS4) (c_sh1 : jS4) (c_sh2 : jS4) (c_sh3 : jS4), fX7_copy_53_v4 i1 i2 i3 i4 i5  c_finding c_sh0 c_sh1 c_sh2 c_sh3 = some (o_r, o_finding, o_sh0, o_sh1, o_sh2, o_sh3) → jw p l e rmX7_copy s m args below meth c (jQ below args s A D vwCl (tyz cyI cyJ cyS) 0 0 (some (.int o_r)) (uX7_copy cyI cyJ cyS a0 c_room o_finding c_courseKnown c_settledByKnown o_sh0.1 o_sh0.2.1 o_sh0.2.2.1 o_sh0.2.2.2 o_sh1.1 o_sh1.2.1 o_sh1.2.2.1 o_sh1.2.2.2 o_sh2.1 o_sh2.2.1 o_sh2.2.2.1 o_sh2.2.2.2 o_sh3.1 o_sh3.2.1 o_sh3.2.2.1 o_sh3.2.2.2)) A D vwCl 8 0 0 53 [(0, .ref (a0 0))] [] (uX7_copy cyI cyJ cyS a0 c_room c_finding c_courseKnown c_settledByKnown c_sh0.1 c_sh0.2.1 c_sh0.2.2.1 c_sh0.2.2.2 c_sh1.1 c_sh1.2.1 c_sh1.2.2.1 c_sh1.2.2.2 c_sh2.1 c_sh2.2.1 c_sh2.2.2.1 c_sh2.2.2.2 c_sh3.1 c_sh3.2.1 c_sh3.2.2.1 c_sh3.2.2.2) := by
  intro c_finding c_sh0 c_sh1 c_sh2 c_sh3 h
  unfold fX7_copy_53_v4 at h
  refine j_aload_n K 0 rfl dX7_copy_53 rfl ?_
  refine j_iconst (v := (1 : Int32)) K (by decide) dX7_copy_54 rfl ?_
  obtain ⟨r_39, c_finding_40, hc, h⟩ := bd2_some h
  refine j_callV (rest := []) (st1 := [.int r_39]) (ws' := (uX7_copy cyI cyJ cyS a0 c_room c_finding_40 c_courseKnown c_settledByKnown c_sh0.1 c_sh0.2.1 c_sh0.2.2.1 c_sh0.2.2.2 c_sh1.1 c_sh1.2.1 c_sh1.2.2.1 c_sh1.2.2.2 c_sh2.1 c_sh2.2.1 c_sh2.2.2.1 c_sh2.2.2.2 c_sh3.1 c_sh3.2.1 c_sh3.2.2.1 c_sh3.2.2.2)) (T := TX7) (N := 15) (ci := 7) K (ctX7_found l D cyI cyJ cyS a0 (1 : Int32) c_room c_courseKnown c_settledByKnown c_finding r_39 c_finding_40 hc) (gdV mcL mw_12_9 mw_12_10 mw_12_11 mw_1_2 mw_12_12) rfl ⟨rfl, rfl⟩ hyX7_found ⟨Nat.le_of_ble_eq_true rfl, Nat.le_of_ble_eq_true rfl, Nat.le_of_ble_eq_true rfl, Nat.le_of_ble_eq_true rfl⟩ [0] (by decide) rfl [some 0, none, none, none, none, none, none, none, none, none] (by decide) rfl rfl 0 rfl rfl rfl rfl (Nat.le_of_ble_eq_true rfl) dX7_copy_55 rfl rfl ?_
  obtain ⟨e1, g1⟩ := Prod.mk.inj (Option.some.inj h)
  subst e1
  obtain ⟨e2, g2⟩ := Prod.mk.inj g1
  subst e2
  obtain ⟨e3, g3⟩ := Prod.mk.inj g2
  subst e3
  obtain ⟨e4, g4⟩ := Prod.mk.inj g3
  subst e4
  obtain ⟨e5, g5⟩ := Prod.mk.inj g4
  subst e5
  subst g5
  exact j_iret K dX7_copy_58
set_option maxRecDepth 100000 in
set_option maxHeartbeats 4000000 in
theorem wX7_copy_101_v4 (K : jK p s m args meth c A D vwCl (tyz cyI cyJ cyS) cX7_copy 8 RX7 wdX7_copy (some .int)) (a0 : Nat → Nat) (c_room : Int32) (c_courseKnown : Int32) (c_settledByKnown : Int32) (i1 : Int32) (i2 : Int32) (i3 : Int32) (i4 : Int32) (i5 : Int32) (o_r : Int32) (o_finding : Int32) (o_sh0 : jS4) (o_sh1 : jS4) (o_sh2 : jS4) (o_sh3 : jS4) (fei1 : i1 = (1 : Int32)) (fei3 : i3 = (0 : Int32))  : ∀ (c_finding : Int32) (c_sh0 : jS4) (c_sh1 : jS4) (c_sh2 : jS4) (c_sh3 : jS4), fX7_copy_101_v4 i1 i2 i3 i4 i5  c_finding c_sh0 c_sh1 c_sh2 c_sh3 = some (o_r, o_finding, o_sh0, o_sh1, o_sh2, o_sh3) → jw p l e rmX7_copy s m args below meth c (jQ below args s A D vwCl (tyz cyI cyJ cyS) 0 0 (some (.int o_r)) (uX7_copy cyI cyJ cyS a0 c_room o_finding c_courseKnown c_settledByKnown o_sh0.1 o_sh0.2.1 o_sh0.2.2.1 o_sh0.2.2.2 o_sh1.1 o_sh1.2.1 o_sh1.2.2.1 o_sh1.2.2.2 o_sh2.1 o_sh2.2.1 o_sh2.2.2.1 o_sh2.2.2.2 o_sh3.1 o_sh3.2.1 o_sh3.2.2.1 o_sh3.2.2.2)) A D vwCl 8 0 0 101 [(0, .ref (a0 0))] [] (uX7_copy cyI cyJ cyS a0 c_room c_finding c_courseKnown c_settledByKnown c_sh0.1 c_sh0.2.1 c_sh0.2.2.1 c_sh0.2.2.2 c_sh1.1 c_sh1.2.1 c_sh1.2.2.1 c_sh1.2.2.2 c_sh2.1 c_sh2.2.1 c_sh2.2.2.1 c_sh2.2.2.2 c_sh3.1 c_sh3.2.1 c_sh3.2.2.1 c_sh3.2.2.2) := by
  intro c_finding c_sh0 c_sh1 c_sh2 c_sh3 h
  unfold fX7_copy_101_v4 at h
  refine j_aload_n K 0 rfl dX7_copy_101 rfl ?_
  refine j_iconst (v := (2 : Int32)) K (by decide) dX7_copy_102 rfl ?_
  obtain ⟨r_42, c_finding_43, hc, h⟩ := bd2_some h
  refine j_callV (rest := []) (st1 := [.int r_42]) (ws' := (uX7_copy cyI cyJ cyS a0 c_room c_finding_43 c_courseKnown c_settledByKnown c_sh0.1 c_sh0.2.1 c_sh0.2.2.1 c_sh0.2.2.2 c_sh1.1 c_sh1.2.1 c_sh1.2.2.1 c_sh1.2.2.2 c_sh2.1 c_sh2.2.1 c_sh2.2.2.1 c_sh2.2.2.2 c_sh3.1 c_sh3.2.1 c_sh3.2.2.1 c_sh3.2.2.2)) (T := TX7) (N := 15) (ci := 7) K (ctX7_found l D cyI cyJ cyS a0 (2 : Int32) c_room c_courseKnown c_settledByKnown c_finding r_42 c_finding_43 hc) (gdV mcL mw_12_9 mw_12_10 mw_12_11 mw_1_2 mw_12_12) rfl ⟨rfl, rfl⟩ hyX7_found ⟨Nat.le_of_ble_eq_true rfl, Nat.le_of_ble_eq_true rfl, Nat.le_of_ble_eq_true rfl, Nat.le_of_ble_eq_true rfl⟩ [0] (by decide) rfl [some 0, none, none, none, none, none, none, none, none, none] (by decide) rfl rfl 0 rfl rfl rfl rfl (Nat.le_of_ble_eq_true rfl) dX7_copy_103 rfl rfl ?_
  obtain ⟨e1, g1⟩ := Prod.mk.inj (Option.some.inj h)
  subst e1
  obtain ⟨e2, g2⟩ := Prod.mk.inj g1
  subst e2
  obtain ⟨e3, g3⟩ := Prod.mk.inj g2
  subst e3
  obtain ⟨e4, g4⟩ := Prod.mk.inj g3
  subst e4
  obtain ⟨e5, g5⟩ := Prod.mk.inj g4
  subst e5
  subst g5
  exact j_iret K dX7_copy_106
set_option maxRecDepth 100000 in
set_option maxHeartbeats 4000000 in
theorem wX7_copy_53_v5 (K : jK p s m args meth c A D vwCl (tyz cyI cyJ cyS) cX7_copy 8 RX7 wdX7_copy (some .int)) (a0 : Nat → Nat) (c_room : Int32) (c_courseKnown : Int32) (c_settledByKnown : Int32) (i1 : Int32) (i2 : Int32) (i3 : Int32) (i4 : Int32) (i5 : Int32) (o_r : Int32) (o_finding : Int32) (o_sh0 : jS4) (o_sh1 : jS4) (o_sh2 : jS4) (o_sh3 : jS4) (fei1 : i1 = (1 : Int32)) (fei3 : i3 = (1 : Int32))  : ∀ (c_finding : Int32) (c_sh0 : jS4) (c_sh1 : jS4) (c_sh2 : jS4) (c_sh3 : jS4), fX7_copy_53_v5 i1 i2 i3 i4 i5  c_finding c_sh0 c_sh1 c_sh2 c_sh3 = some (o_r, o_finding, o_sh0, o_sh1, o_sh2, o_sh3) → jw p l e rmX7_copy s m args below meth c (jQ below args s A D vwCl (tyz cyI cyJ cyS) 0 0 (some (.int o_r)) (uX7_copy cyI cyJ cyS a0 c_room o_finding c_courseKnown c_settledByKnown o_sh0.1 o_sh0.2.1 o_sh0.2.2.1 o_sh0.2.2.2 o_sh1.1 o_sh1.2.1 o_sh1.2.2.1 o_sh1.2.2.2 o_sh2.1 o_sh2.2.1 o_sh2.2.2.1 o_sh2.2.2.2 o_sh3.1 o_sh3.2.1 o_sh3.2.2.1 o_sh3.2.2.2)) A D vwCl 8 0 0 53 [(0, .ref (a0 0))] [] (uX7_copy cyI cyJ cyS a0 c_room c_finding c_courseKnown c_settledByKnown c_sh0.1 c_sh0.2.1 c_sh0.2.2.1 c_sh0.2.2.2 c_sh1.1 c_sh1.2.1 c_sh1.2.2.1 c_sh1.2.2.2 c_sh2.1 c_sh2.2.1 c_sh2.2.2.1 c_sh2.2.2.2 c_sh3.1 c_sh3.2.1 c_sh3.2.2.1 c_sh3.2.2.2) := by
  intro c_finding c_sh0 c_sh1 c_sh2 c_sh3 h
  unfold fX7_copy_53_v5 at h
  refine j_aload_n K 0 rfl dX7_copy_53 rfl ?_
  refine j_iconst (v := (1 : Int32)) K (by decide) dX7_copy_54 rfl ?_
  obtain ⟨r_48, c_finding_49, hc, h⟩ := bd2_some h
  refine j_callV (rest := []) (st1 := [.int r_48]) (ws' := (uX7_copy cyI cyJ cyS a0 c_room c_finding_49 c_courseKnown c_settledByKnown c_sh0.1 c_sh0.2.1 c_sh0.2.2.1 c_sh0.2.2.2 c_sh1.1 c_sh1.2.1 c_sh1.2.2.1 c_sh1.2.2.2 c_sh2.1 c_sh2.2.1 c_sh2.2.2.1 c_sh2.2.2.2 c_sh3.1 c_sh3.2.1 c_sh3.2.2.1 c_sh3.2.2.2)) (T := TX7) (N := 15) (ci := 7) K (ctX7_found l D cyI cyJ cyS a0 (1 : Int32) c_room c_courseKnown c_settledByKnown c_finding r_48 c_finding_49 hc) (gdV mcL mw_12_9 mw_12_10 mw_12_11 mw_1_2 mw_12_12) rfl ⟨rfl, rfl⟩ hyX7_found ⟨Nat.le_of_ble_eq_true rfl, Nat.le_of_ble_eq_true rfl, Nat.le_of_ble_eq_true rfl, Nat.le_of_ble_eq_true rfl⟩ [0] (by decide) rfl [some 0, none, none, none, none, none, none, none, none, none] (by decide) rfl rfl 0 rfl rfl rfl rfl (Nat.le_of_ble_eq_true rfl) dX7_copy_55 rfl rfl ?_
  obtain ⟨e1, g1⟩ := Prod.mk.inj (Option.some.inj h)
  subst e1
  obtain ⟨e2, g2⟩ := Prod.mk.inj g1
  subst e2
  obtain ⟨e3, g3⟩ := Prod.mk.inj g2
  subst e3
  obtain ⟨e4, g4⟩ := Prod.mk.inj g3
  subst e4
  obtain ⟨e5, g5⟩ := Prod.mk.inj g4
  subst e5
  subst g5
  exact j_iret K dX7_copy_58
set_option maxRecDepth 100000 in
set_option maxHeartbeats 4000000 in
theorem wX7_copy_101_v5 (K : jK p s m args meth c A D vwCl (tyz cyI cyJ cyS) cX7_copy 8 RX7 wdX7_copy (some .int)) (a0 : Nat → Nat) (c_room : Int32) (c_courseKnown : Int32) (c_settledByKnown : Int32) (i1 : Int32) (i2 : Int32) (i3 : Int32) (i4 : Int32) (i5 : Int32) (o_r : Int32) (o_finding : Int32) (o_sh0 : jS4) (o_sh1 : jS4) (o_sh2 : jS4) (o_sh3 : jS4) (fei1 : i1 = (1 : Int32)) (fei3 : i3 = (1 : Int32))  : ∀ (c_finding : Int32) (c_sh0 : jS4) (c_sh1 : jS4) (c_sh2 : jS4) (c_sh3 : jS4), fX7_copy_101_v5 i1 i2 i3 i4 i5  c_finding c_sh0 c_sh1 c_sh2 c_sh3 = some (o_r, o_finding, o_sh0, o_sh1, o_sh2, o_sh3) → jw p l e rmX7_copy s m args below meth c (jQ below args s A D vwCl (tyz cyI cyJ cyS) 0 0 (some (.int o_r)) (uX7_copy cyI cyJ cyS a0 c_room o_finding c_courseKnown c_settledByKnown o_sh0.1 o_sh0.2.1 o_sh0.2.2.1 o_sh0.2.2.2 o_sh1.1 o_sh1.2.1 o_sh1.2.2.1 o_sh1.2.2.2 o_sh2.1 o_sh2.2.1 o_sh2.2.2.1 o_sh2.2.2.2 o_sh3.1 o_sh3.2.1 o_sh3.2.2.1 o_sh3.2.2.2)) A D vwCl 8 0 0 101 [(0, .ref (a0 0))] [] (uX7_copy cyI cyJ cyS a0 c_room c_finding c_courseKnown c_settledByKnown c_sh0.1 c_sh0.2.1 c_sh0.2.2.1 c_sh0.2.2.2 c_sh1.1 c_sh1.2.1 c_sh1.2.2.1 c_sh1.2.2.2 c_sh2.1 c_sh2.2.1 c_sh2.2.2.1 c_sh2.2.2.2 c_sh3.1 c_sh3.2.1 c_sh3.2.2.1 c_sh3.2.2.2) := by
  intro c_finding c_sh0 c_sh1 c_sh2 c_sh3 h
  unfold fX7_copy_101_v5 at h
  refine j_aload_n K 0 rfl dX7_copy_101 rfl ?_
  refine j_iconst (v := (2 : Int32)) K (by decide) dX7_copy_102 rfl ?_
  obtain ⟨r_51, c_finding_52, hc, h⟩ := bd2_some h
  refine j_callV (rest := []) (st1 := [.int r_51]) (ws' := (uX7_copy cyI cyJ cyS a0 c_room c_finding_52 c_courseKnown c_settledByKnown c_sh0.1 c_sh0.2.1 c_sh0.2.2.1 c_sh0.2.2.2 c_sh1.1 c_sh1.2.1 c_sh1.2.2.1 c_sh1.2.2.2 c_sh2.1 c_sh2.2.1 c_sh2.2.2.1 c_sh2.2.2.2 c_sh3.1 c_sh3.2.1 c_sh3.2.2.1 c_sh3.2.2.2)) (T := TX7) (N := 15) (ci := 7) K (ctX7_found l D cyI cyJ cyS a0 (2 : Int32) c_room c_courseKnown c_settledByKnown c_finding r_51 c_finding_52 hc) (gdV mcL mw_12_9 mw_12_10 mw_12_11 mw_1_2 mw_12_12) rfl ⟨rfl, rfl⟩ hyX7_found ⟨Nat.le_of_ble_eq_true rfl, Nat.le_of_ble_eq_true rfl, Nat.le_of_ble_eq_true rfl, Nat.le_of_ble_eq_true rfl⟩ [0] (by decide) rfl [some 0, none, none, none, none, none, none, none, none, none] (by decide) rfl rfl 0 rfl rfl rfl rfl (Nat.le_of_ble_eq_true rfl) dX7_copy_103 rfl rfl ?_
  obtain ⟨e1, g1⟩ := Prod.mk.inj (Option.some.inj h)
  subst e1
  obtain ⟨e2, g2⟩ := Prod.mk.inj g1
  subst e2
  obtain ⟨e3, g3⟩ := Prod.mk.inj g2
  subst e3
  obtain ⟨e4, g4⟩ := Prod.mk.inj g3
  subst e4
  obtain ⟨e5, g5⟩ := Prod.mk.inj g4
  subst e5
  subst g5
  exact j_iret K dX7_copy_106
set_option maxRecDepth 100000 in
set_option maxHeartbeats 4000000 in
theorem wX7_copy_53_v6 (K : jK p s m args meth c A D vwCl (tyz cyI cyJ cyS) cX7_copy 8 RX7 wdX7_copy (some .int)) (a0 : Nat → Nat) (c_room : Int32) (c_courseKnown : Int32) (c_settledByKnown : Int32) (i1 : Int32) (i2 : Int32) (i3 : Int32) (i4 : Int32) (i5 : Int32) (o_r : Int32) (o_finding : Int32) (o_sh0 : jS4) (o_sh1 : jS4) (o_sh2 : jS4) (o_sh3 : jS4) (fei1 : i1 = (1 : Int32)) (fei3 : i3 = (2 : Int32))  : ∀ (c_finding : Int32) (c_sh0 : jS4) (c_sh1 : jS4) (c_sh2 : jS4) (c_sh3 : jS4), fX7_copy_53_v6 i1 i2 i3 i4 i5  c_finding c_sh0 c_sh1 c_sh2 c_sh3 = some (o_r, o_finding, o_sh0, o_sh1, o_sh2, o_sh3) → jw p l e rmX7_copy s m args below meth c (jQ below args s A D vwCl (tyz cyI cyJ cyS) 0 0 (some (.int o_r)) (uX7_copy cyI cyJ cyS a0 c_room o_finding c_courseKnown c_settledByKnown o_sh0.1 o_sh0.2.1 o_sh0.2.2.1 o_sh0.2.2.2 o_sh1.1 o_sh1.2.1 o_sh1.2.2.1 o_sh1.2.2.2 o_sh2.1 o_sh2.2.1 o_sh2.2.2.1 o_sh2.2.2.2 o_sh3.1 o_sh3.2.1 o_sh3.2.2.1 o_sh3.2.2.2)) A D vwCl 8 0 0 53 [(0, .ref (a0 0))] [] (uX7_copy cyI cyJ cyS a0 c_room c_finding c_courseKnown c_settledByKnown c_sh0.1 c_sh0.2.1 c_sh0.2.2.1 c_sh0.2.2.2 c_sh1.1 c_sh1.2.1 c_sh1.2.2.1 c_sh1.2.2.2 c_sh2.1 c_sh2.2.1 c_sh2.2.2.1 c_sh2.2.2.2 c_sh3.1 c_sh3.2.1 c_sh3.2.2.1 c_sh3.2.2.2) := by
  intro c_finding c_sh0 c_sh1 c_sh2 c_sh3 h
  unfold fX7_copy_53_v6 at h
  refine j_aload_n K 0 rfl dX7_copy_53 rfl ?_
  refine j_iconst (v := (1 : Int32)) K (by decide) dX7_copy_54 rfl ?_
  obtain ⟨r_57, c_finding_58, hc, h⟩ := bd2_some h
  refine j_callV (rest := []) (st1 := [.int r_57]) (ws' := (uX7_copy cyI cyJ cyS a0 c_room c_finding_58 c_courseKnown c_settledByKnown c_sh0.1 c_sh0.2.1 c_sh0.2.2.1 c_sh0.2.2.2 c_sh1.1 c_sh1.2.1 c_sh1.2.2.1 c_sh1.2.2.2 c_sh2.1 c_sh2.2.1 c_sh2.2.2.1 c_sh2.2.2.2 c_sh3.1 c_sh3.2.1 c_sh3.2.2.1 c_sh3.2.2.2)) (T := TX7) (N := 15) (ci := 7) K (ctX7_found l D cyI cyJ cyS a0 (1 : Int32) c_room c_courseKnown c_settledByKnown c_finding r_57 c_finding_58 hc) (gdV mcL mw_12_9 mw_12_10 mw_12_11 mw_1_2 mw_12_12) rfl ⟨rfl, rfl⟩ hyX7_found ⟨Nat.le_of_ble_eq_true rfl, Nat.le_of_ble_eq_true rfl, Nat.le_of_ble_eq_true rfl, Nat.le_of_ble_eq_true rfl⟩ [0] (by decide) rfl [some 0, none, none, none, none, none, none, none, none, none] (by decide) rfl rfl 0 rfl rfl rfl rfl (Nat.le_of_ble_eq_true rfl) dX7_copy_55 rfl rfl ?_
  obtain ⟨e1, g1⟩ := Prod.mk.inj (Option.some.inj h)
  subst e1
  obtain ⟨e2, g2⟩ := Prod.mk.inj g1
  subst e2
  obtain ⟨e3, g3⟩ := Prod.mk.inj g2
  subst e3
  obtain ⟨e4, g4⟩ := Prod.mk.inj g3
  subst e4
  obtain ⟨e5, g5⟩ := Prod.mk.inj g4
  subst e5
  subst g5
  exact j_iret K dX7_copy_58
set_option maxRecDepth 100000 in
set_option maxHeartbeats 4000000 in
theorem wX7_copy_101_v6 (K : jK p s m args meth c A D vwCl (tyz cyI cyJ cyS) cX7_copy 8 RX7 wdX7_copy (some .int)) (a0 : Nat → Nat) (c_room : Int32) (c_courseKnown : Int32) (c_settledByKnown : Int32) (i1 : Int32) (i2 : Int32) (i3 : Int32) (i4 : Int32) (i5 : Int32) (o_r : Int32) (o_finding : Int32) (o_sh0 : jS4) (o_sh1 : jS4) (o_sh2 : jS4) (o_sh3 : jS4) (fei1 : i1 = (1 : Int32)) (fei3 : i3 = (2 : Int32))  : ∀ (c_finding : Int32) (c_sh0 : jS4) (c_sh1 : jS4) (c_sh2 : jS4) (c_sh3 : jS4), fX7_copy_101_v6 i1 i2 i3 i4 i5  c_finding c_sh0 c_sh1 c_sh2 c_sh3 = some (o_r, o_finding, o_sh0, o_sh1, o_sh2, o_sh3) → jw p l e rmX7_copy s m args below meth c (jQ below args s A D vwCl (tyz cyI cyJ cyS) 0 0 (some (.int o_r)) (uX7_copy cyI cyJ cyS a0 c_room o_finding c_courseKnown c_settledByKnown o_sh0.1 o_sh0.2.1 o_sh0.2.2.1 o_sh0.2.2.2 o_sh1.1 o_sh1.2.1 o_sh1.2.2.1 o_sh1.2.2.2 o_sh2.1 o_sh2.2.1 o_sh2.2.2.1 o_sh2.2.2.2 o_sh3.1 o_sh3.2.1 o_sh3.2.2.1 o_sh3.2.2.2)) A D vwCl 8 0 0 101 [(0, .ref (a0 0))] [] (uX7_copy cyI cyJ cyS a0 c_room c_finding c_courseKnown c_settledByKnown c_sh0.1 c_sh0.2.1 c_sh0.2.2.1 c_sh0.2.2.2 c_sh1.1 c_sh1.2.1 c_sh1.2.2.1 c_sh1.2.2.2 c_sh2.1 c_sh2.2.1 c_sh2.2.2.1 c_sh2.2.2.2 c_sh3.1 c_sh3.2.1 c_sh3.2.2.1 c_sh3.2.2.2) := by
  intro c_finding c_sh0 c_sh1 c_sh2 c_sh3 h
  unfold fX7_copy_101_v6 at h
  refine j_aload_n K 0 rfl dX7_copy_101 rfl ?_
  refine j_iconst (v := (2 : Int32)) K (by decide) dX7_copy_102 rfl ?_
  obtain ⟨r_60, c_finding_61, hc, h⟩ := bd2_some h
  refine j_callV (rest := []) (st1 := [.int r_60]) (ws' := (uX7_copy cyI cyJ cyS a0 c_room c_finding_61 c_courseKnown c_settledByKnown c_sh0.1 c_sh0.2.1 c_sh0.2.2.1 c_sh0.2.2.2 c_sh1.1 c_sh1.2.1 c_sh1.2.2.1 c_sh1.2.2.2 c_sh2.1 c_sh2.2.1 c_sh2.2.2.1 c_sh2.2.2.2 c_sh3.1 c_sh3.2.1 c_sh3.2.2.1 c_sh3.2.2.2)) (T := TX7) (N := 15) (ci := 7) K (ctX7_found l D cyI cyJ cyS a0 (2 : Int32) c_room c_courseKnown c_settledByKnown c_finding r_60 c_finding_61 hc) (gdV mcL mw_12_9 mw_12_10 mw_12_11 mw_1_2 mw_12_12) rfl ⟨rfl, rfl⟩ hyX7_found ⟨Nat.le_of_ble_eq_true rfl, Nat.le_of_ble_eq_true rfl, Nat.le_of_ble_eq_true rfl, Nat.le_of_ble_eq_true rfl⟩ [0] (by decide) rfl [some 0, none, none, none, none, none, none, none, none, none] (by decide) rfl rfl 0 rfl rfl rfl rfl (Nat.le_of_ble_eq_true rfl) dX7_copy_103 rfl rfl ?_
  obtain ⟨e1, g1⟩ := Prod.mk.inj (Option.some.inj h)
  subst e1
  obtain ⟨e2, g2⟩ := Prod.mk.inj g1
  subst e2
  obtain ⟨e3, g3⟩ := Prod.mk.inj g2
  subst e3
  obtain ⟨e4, g4⟩ := Prod.mk.inj g3
  subst e4
  obtain ⟨e5, g5⟩ := Prod.mk.inj g4
  subst e5
  subst g5
  exact j_iret K dX7_copy_106
set_option maxRecDepth 100000 in
set_option maxHeartbeats 4000000 in
theorem wX7_copy_53_v7 (K : jK p s m args meth c A D vwCl (tyz cyI cyJ cyS) cX7_copy 8 RX7 wdX7_copy (some .int)) (a0 : Nat → Nat) (c_room : Int32) (c_courseKnown : Int32) (c_settledByKnown : Int32) (i1 : Int32) (i2 : Int32) (i3 : Int32) (i4 : Int32) (i5 : Int32) (o_r : Int32) (o_finding : Int32) (o_sh0 : jS4) (o_sh1 : jS4) (o_sh2 : jS4) (o_sh3 : jS4) (fei1 : i1 = (1 : Int32)) (fei3 : i3 = (3 : Int32))  : ∀ (c_finding : Int32) (c_sh0 : jS4) (c_sh1 : jS4) (c_sh2 : jS4) (c_sh3 : jS4), fX7_copy_53_v7 i1 i2 i3 i4 i5  c_finding c_sh0 c_sh1 c_sh2 c_sh3 = some (o_r, o_finding, o_sh0, o_sh1, o_sh2, o_sh3) → jw p l e rmX7_copy s m args below meth c (jQ below args s A D vwCl (tyz cyI cyJ cyS) 0 0 (some (.int o_r)) (uX7_copy cyI cyJ cyS a0 c_room o_finding c_courseKnown c_settledByKnown o_sh0.1 o_sh0.2.1 o_sh0.2.2.1 o_sh0.2.2.2 o_sh1.1 o_sh1.2.1 o_sh1.2.2.1 o_sh1.2.2.2 o_sh2.1 o_sh2.2.1 o_sh2.2.2.1 o_sh2.2.2.2 o_sh3.1 o_sh3.2.1 o_sh3.2.2.1 o_sh3.2.2.2)) A D vwCl 8 0 0 53 [(0, .ref (a0 0))] [] (uX7_copy cyI cyJ cyS a0 c_room c_finding c_courseKnown c_settledByKnown c_sh0.1 c_sh0.2.1 c_sh0.2.2.1 c_sh0.2.2.2 c_sh1.1 c_sh1.2.1 c_sh1.2.2.1 c_sh1.2.2.2 c_sh2.1 c_sh2.2.1 c_sh2.2.2.1 c_sh2.2.2.2 c_sh3.1 c_sh3.2.1 c_sh3.2.2.1 c_sh3.2.2.2) := by
  intro c_finding c_sh0 c_sh1 c_sh2 c_sh3 h
  unfold fX7_copy_53_v7 at h
  refine j_aload_n K 0 rfl dX7_copy_53 rfl ?_
  refine j_iconst (v := (1 : Int32)) K (by decide) dX7_copy_54 rfl ?_
  obtain ⟨r_66, c_finding_67, hc, h⟩ := bd2_some h
  refine j_callV (rest := []) (st1 := [.int r_66]) (ws' := (uX7_copy cyI cyJ cyS a0 c_room c_finding_67 c_courseKnown c_settledByKnown c_sh0.1 c_sh0.2.1 c_sh0.2.2.1 c_sh0.2.2.2 c_sh1.1 c_sh1.2.1 c_sh1.2.2.1 c_sh1.2.2.2 c_sh2.1 c_sh2.2.1 c_sh2.2.2.1 c_sh2.2.2.2 c_sh3.1 c_sh3.2.1 c_sh3.2.2.1 c_sh3.2.2.2)) (T := TX7) (N := 15) (ci := 7) K (ctX7_found l D cyI cyJ cyS a0 (1 : Int32) c_room c_courseKnown c_settledByKnown c_finding r_66 c_finding_67 hc) (gdV mcL mw_12_9 mw_12_10 mw_12_11 mw_1_2 mw_12_12) rfl ⟨rfl, rfl⟩ hyX7_found ⟨Nat.le_of_ble_eq_true rfl, Nat.le_of_ble_eq_true rfl, Nat.le_of_ble_eq_true rfl, Nat.le_of_ble_eq_true rfl⟩ [0] (by decide) rfl [some 0, none, none, none, none, none, none, none, none, none] (by decide) rfl rfl 0 rfl rfl rfl rfl (Nat.le_of_ble_eq_true rfl) dX7_copy_55 rfl rfl ?_
  obtain ⟨e1, g1⟩ := Prod.mk.inj (Option.some.inj h)
  subst e1
  obtain ⟨e2, g2⟩ := Prod.mk.inj g1
  subst e2
  obtain ⟨e3, g3⟩ := Prod.mk.inj g2
  subst e3
  obtain ⟨e4, g4⟩ := Prod.mk.inj g3
  subst e4
  obtain ⟨e5, g5⟩ := Prod.mk.inj g4
  subst e5
  subst g5
  exact j_iret K dX7_copy_58
set_option maxRecDepth 100000 in
set_option maxHeartbeats 4000000 in
theorem wX7_copy_101_v7 (K : jK p s m args meth c A D vwCl (tyz cyI cyJ cyS) cX7_copy 8 RX7 wdX7_copy (some .int)) (a0 : Nat → Nat) (c_room : Int32) (c_courseKnown : Int32) (c_settledByKnown : Int32) (i1 : Int32) (i2 : Int32) (i3 : Int32) (i4 : Int32) (i5 : Int32) (o_r : Int32) (o_finding : Int32) (o_sh0 : jS4) (o_sh1 : jS4) (o_sh2 : jS4) (o_sh3 : jS4) (fei1 : i1 = (1 : Int32)) (fei3 : i3 = (3 : Int32))  : ∀ (c_finding : Int32) (c_sh0 : jS4) (c_sh1 : jS4) (c_sh2 : jS4) (c_sh3 : jS4), fX7_copy_101_v7 i1 i2 i3 i4 i5  c_finding c_sh0 c_sh1 c_sh2 c_sh3 = some (o_r, o_finding, o_sh0, o_sh1, o_sh2, o_sh3) → jw p l e rmX7_copy s m args below meth c (jQ below args s A D vwCl (tyz cyI cyJ cyS) 0 0 (some (.int o_r)) (uX7_copy cyI cyJ cyS a0 c_room o_finding c_courseKnown c_settledByKnown o_sh0.1 o_sh0.2.1 o_sh0.2.2.1 o_sh0.2.2.2 o_sh1.1 o_sh1.2.1 o_sh1.2.2.1 o_sh1.2.2.2 o_sh2.1 o_sh2.2.1 o_sh2.2.2.1 o_sh2.2.2.2 o_sh3.1 o_sh3.2.1 o_sh3.2.2.1 o_sh3.2.2.2)) A D vwCl 8 0 0 101 [(0, .ref (a0 0))] [] (uX7_copy cyI cyJ cyS a0 c_room c_finding c_courseKnown c_settledByKnown c_sh0.1 c_sh0.2.1 c_sh0.2.2.1 c_sh0.2.2.2 c_sh1.1 c_sh1.2.1 c_sh1.2.2.1 c_sh1.2.2.2 c_sh2.1 c_sh2.2.1 c_sh2.2.2.1 c_sh2.2.2.2 c_sh3.1 c_sh3.2.1 c_sh3.2.2.1 c_sh3.2.2.2) := by
  intro c_finding c_sh0 c_sh1 c_sh2 c_sh3 h
  unfold fX7_copy_101_v7 at h
  refine j_aload_n K 0 rfl dX7_copy_101 rfl ?_
  refine j_iconst (v := (2 : Int32)) K (by decide) dX7_copy_102 rfl ?_
  obtain ⟨r_69, c_finding_70, hc, h⟩ := bd2_some h
  refine j_callV (rest := []) (st1 := [.int r_69]) (ws' := (uX7_copy cyI cyJ cyS a0 c_room c_finding_70 c_courseKnown c_settledByKnown c_sh0.1 c_sh0.2.1 c_sh0.2.2.1 c_sh0.2.2.2 c_sh1.1 c_sh1.2.1 c_sh1.2.2.1 c_sh1.2.2.2 c_sh2.1 c_sh2.2.1 c_sh2.2.2.1 c_sh2.2.2.2 c_sh3.1 c_sh3.2.1 c_sh3.2.2.1 c_sh3.2.2.2)) (T := TX7) (N := 15) (ci := 7) K (ctX7_found l D cyI cyJ cyS a0 (2 : Int32) c_room c_courseKnown c_settledByKnown c_finding r_69 c_finding_70 hc) (gdV mcL mw_12_9 mw_12_10 mw_12_11 mw_1_2 mw_12_12) rfl ⟨rfl, rfl⟩ hyX7_found ⟨Nat.le_of_ble_eq_true rfl, Nat.le_of_ble_eq_true rfl, Nat.le_of_ble_eq_true rfl, Nat.le_of_ble_eq_true rfl⟩ [0] (by decide) rfl [some 0, none, none, none, none, none, none, none, none, none] (by decide) rfl rfl 0 rfl rfl rfl rfl (Nat.le_of_ble_eq_true rfl) dX7_copy_103 rfl rfl ?_
  obtain ⟨e1, g1⟩ := Prod.mk.inj (Option.some.inj h)
  subst e1
  obtain ⟨e2, g2⟩ := Prod.mk.inj g1
  subst e2
  obtain ⟨e3, g3⟩ := Prod.mk.inj g2
  subst e3
  obtain ⟨e4, g4⟩ := Prod.mk.inj g3
  subst e4
  obtain ⟨e5, g5⟩ := Prod.mk.inj g4
  subst e5
  subst g5
  exact j_iret K dX7_copy_106
set_option maxRecDepth 100000 in
set_option maxHeartbeats 4000000 in
theorem wX7_copy_53_v8 (K : jK p s m args meth c A D vwCl (tyz cyI cyJ cyS) cX7_copy 8 RX7 wdX7_copy (some .int)) (a0 : Nat → Nat) (c_room : Int32) (c_courseKnown : Int32) (c_settledByKnown : Int32) (i1 : Int32) (i2 : Int32) (i3 : Int32) (i4 : Int32) (i5 : Int32) (o_r : Int32) (o_finding : Int32) (o_sh0 : jS4) (o_sh1 : jS4) (o_sh2 : jS4) (o_sh3 : jS4) (fei1 : i1 = (2 : Int32)) (fei3 : i3 = (0 : Int32))  : ∀ (c_finding : Int32) (c_sh0 : jS4) (c_sh1 : jS4) (c_sh2 : jS4) (c_sh3 : jS4), fX7_copy_53_v8 i1 i2 i3 i4 i5  c_finding c_sh0 c_sh1 c_sh2 c_sh3 = some (o_r, o_finding, o_sh0, o_sh1, o_sh2, o_sh3) → jw p l e rmX7_copy s m args below meth c (jQ below args s A D vwCl (tyz cyI cyJ cyS) 0 0 (some (.int o_r)) (uX7_copy cyI cyJ cyS a0 c_room o_finding c_courseKnown c_settledByKnown o_sh0.1 o_sh0.2.1 o_sh0.2.2.1 o_sh0.2.2.2 o_sh1.1 o_sh1.2.1 o_sh1.2.2.1 o_sh1.2.2.2 o_sh2.1 o_sh2.2.1 o_sh2.2.2.1 o_sh2.2.2.2 o_sh3.1 o_sh3.2.1 o_sh3.2.2.1 o_sh3.2.2.2)) A D vwCl 8 0 0 53 [(0, .ref (a0 0))] [] (uX7_copy cyI cyJ cyS a0 c_room c_finding c_courseKnown c_settledByKnown c_sh0.1 c_sh0.2.1 c_sh0.2.2.1 c_sh0.2.2.2 c_sh1.1 c_sh1.2.1 c_sh1.2.2.1 c_sh1.2.2.2 c_sh2.1 c_sh2.2.1 c_sh2.2.2.1 c_sh2.2.2.2 c_sh3.1 c_sh3.2.1 c_sh3.2.2.1 c_sh3.2.2.2) := by
  intro c_finding c_sh0 c_sh1 c_sh2 c_sh3 h
  unfold fX7_copy_53_v8 at h
  refine j_aload_n K 0 rfl dX7_copy_53 rfl ?_
  refine j_iconst (v := (1 : Int32)) K (by decide) dX7_copy_54 rfl ?_
  obtain ⟨r_75, c_finding_76, hc, h⟩ := bd2_some h
  refine j_callV (rest := []) (st1 := [.int r_75]) (ws' := (uX7_copy cyI cyJ cyS a0 c_room c_finding_76 c_courseKnown c_settledByKnown c_sh0.1 c_sh0.2.1 c_sh0.2.2.1 c_sh0.2.2.2 c_sh1.1 c_sh1.2.1 c_sh1.2.2.1 c_sh1.2.2.2 c_sh2.1 c_sh2.2.1 c_sh2.2.2.1 c_sh2.2.2.2 c_sh3.1 c_sh3.2.1 c_sh3.2.2.1 c_sh3.2.2.2)) (T := TX7) (N := 15) (ci := 7) K (ctX7_found l D cyI cyJ cyS a0 (1 : Int32) c_room c_courseKnown c_settledByKnown c_finding r_75 c_finding_76 hc) (gdV mcL mw_12_9 mw_12_10 mw_12_11 mw_1_2 mw_12_12) rfl ⟨rfl, rfl⟩ hyX7_found ⟨Nat.le_of_ble_eq_true rfl, Nat.le_of_ble_eq_true rfl, Nat.le_of_ble_eq_true rfl, Nat.le_of_ble_eq_true rfl⟩ [0] (by decide) rfl [some 0, none, none, none, none, none, none, none, none, none] (by decide) rfl rfl 0 rfl rfl rfl rfl (Nat.le_of_ble_eq_true rfl) dX7_copy_55 rfl rfl ?_
  obtain ⟨e1, g1⟩ := Prod.mk.inj (Option.some.inj h)
  subst e1
  obtain ⟨e2, g2⟩ := Prod.mk.inj g1
  subst e2
  obtain ⟨e3, g3⟩ := Prod.mk.inj g2
  subst e3
  obtain ⟨e4, g4⟩ := Prod.mk.inj g3
  subst e4
  obtain ⟨e5, g5⟩ := Prod.mk.inj g4
  subst e5
  subst g5
  exact j_iret K dX7_copy_58
set_option maxRecDepth 100000 in
set_option maxHeartbeats 4000000 in
theorem wX7_copy_101_v8 (K : jK p s m args meth c A D vwCl (tyz cyI cyJ cyS) cX7_copy 8 RX7 wdX7_copy (some .int)) (a0 : Nat → Nat) (c_room : Int32) (c_courseKnown : Int32) (c_settledByKnown : Int32) (i1 : Int32) (i2 : Int32) (i3 : Int32) (i4 : Int32) (i5 : Int32) (o_r : Int32) (o_finding : Int32) (o_sh0 : jS4) (o_sh1 : jS4) (o_sh2 : jS4) (o_sh3 : jS4) (fei1 : i1 = (2 : Int32)) (fei3 : i3 = (0 : Int32))  : ∀ (c_finding : Int32) (c_sh0 : jS4) (c_sh1 : jS4) (c_sh2 : jS4) (c_sh3 : jS4), fX7_copy_101_v8 i1 i2 i3 i4 i5  c_finding c_sh0 c_sh1 c_sh2 c_sh3 = some (o_r, o_finding, o_sh0, o_sh1, o_sh2, o_sh3) → jw p l e rmX7_copy s m args below meth c (jQ below args s A D vwCl (tyz cyI cyJ cyS) 0 0 (some (.int o_r)) (uX7_copy cyI cyJ cyS a0 c_room o_finding c_courseKnown c_settledByKnown o_sh0.1 o_sh0.2.1 o_sh0.2.2.1 o_sh0.2.2.2 o_sh1.1 o_sh1.2.1 o_sh1.2.2.1 o_sh1.2.2.2 o_sh2.1 o_sh2.2.1 o_sh2.2.2.1 o_sh2.2.2.2 o_sh3.1 o_sh3.2.1 o_sh3.2.2.1 o_sh3.2.2.2)) A D vwCl 8 0 0 101 [(0, .ref (a0 0))] [] (uX7_copy cyI cyJ cyS a0 c_room c_finding c_courseKnown c_settledByKnown c_sh0.1 c_sh0.2.1 c_sh0.2.2.1 c_sh0.2.2.2 c_sh1.1 c_sh1.2.1 c_sh1.2.2.1 c_sh1.2.2.2 c_sh2.1 c_sh2.2.1 c_sh2.2.2.1 c_sh2.2.2.2 c_sh3.1 c_sh3.2.1 c_sh3.2.2.1 c_sh3.2.2.2) := by
  intro c_finding c_sh0 c_sh1 c_sh2 c_sh3 h
  unfold fX7_copy_101_v8 at h
  refine j_aload_n K 0 rfl dX7_copy_101 rfl ?_
  refine j_iconst (v := (2 : Int32)) K (by decide) dX7_copy_102 rfl ?_
  obtain ⟨r_78, c_finding_79, hc, h⟩ := bd2_some h
  refine j_callV (rest := []) (st1 := [.int r_78]) (ws' := (uX7_copy cyI cyJ cyS a0 c_room c_finding_79 c_courseKnown c_settledByKnown c_sh0.1 c_sh0.2.1 c_sh0.2.2.1 c_sh0.2.2.2 c_sh1.1 c_sh1.2.1 c_sh1.2.2.1 c_sh1.2.2.2 c_sh2.1 c_sh2.2.1 c_sh2.2.2.1 c_sh2.2.2.2 c_sh3.1 c_sh3.2.1 c_sh3.2.2.1 c_sh3.2.2.2)) (T := TX7) (N := 15) (ci := 7) K (ctX7_found l D cyI cyJ cyS a0 (2 : Int32) c_room c_courseKnown c_settledByKnown c_finding r_78 c_finding_79 hc) (gdV mcL mw_12_9 mw_12_10 mw_12_11 mw_1_2 mw_12_12) rfl ⟨rfl, rfl⟩ hyX7_found ⟨Nat.le_of_ble_eq_true rfl, Nat.le_of_ble_eq_true rfl, Nat.le_of_ble_eq_true rfl, Nat.le_of_ble_eq_true rfl⟩ [0] (by decide) rfl [some 0, none, none, none, none, none, none, none, none, none] (by decide) rfl rfl 0 rfl rfl rfl rfl (Nat.le_of_ble_eq_true rfl) dX7_copy_103 rfl rfl ?_
  obtain ⟨e1, g1⟩ := Prod.mk.inj (Option.some.inj h)
  subst e1
  obtain ⟨e2, g2⟩ := Prod.mk.inj g1
  subst e2
  obtain ⟨e3, g3⟩ := Prod.mk.inj g2
  subst e3
  obtain ⟨e4, g4⟩ := Prod.mk.inj g3
  subst e4
  obtain ⟨e5, g5⟩ := Prod.mk.inj g4
  subst e5
  subst g5
  exact j_iret K dX7_copy_106
set_option maxRecDepth 100000 in
set_option maxHeartbeats 4000000 in
theorem wX7_copy_53_v9 (K : jK p s m args meth c A D vwCl (tyz cyI cyJ cyS) cX7_copy 8 RX7 wdX7_copy (some .int)) (a0 : Nat → Nat) (c_room : Int32) (c_courseKnown : Int32) (c_settledByKnown : Int32) (i1 : Int32) (i2 : Int32) (i3 : Int32) (i4 : Int32) (i5 : Int32) (o_r : Int32) (o_finding : Int32) (o_sh0 : jS4) (o_sh1 : jS4) (o_sh2 : jS4) (o_sh3 : jS4) (fei1 : i1 = (2 : Int32)) (fei3 : i3 = (1 : Int32))  : ∀ (c_finding : Int32) (c_sh0 : jS4) (c_sh1 : jS4) (c_sh2 : jS4) (c_sh3 : jS4), fX7_copy_53_v9 i1 i2 i3 i4 i5  c_finding c_sh0 c_sh1 c_sh2 c_sh3 = some (o_r, o_finding, o_sh0, o_sh1, o_sh2, o_sh3) → jw p l e rmX7_copy s m args below meth c (jQ below args s A D vwCl (tyz cyI cyJ cyS) 0 0 (some (.int o_r)) (uX7_copy cyI cyJ cyS a0 c_room o_finding c_courseKnown c_settledByKnown o_sh0.1 o_sh0.2.1 o_sh0.2.2.1 o_sh0.2.2.2 o_sh1.1 o_sh1.2.1 o_sh1.2.2.1 o_sh1.2.2.2 o_sh2.1 o_sh2.2.1 o_sh2.2.2.1 o_sh2.2.2.2 o_sh3.1 o_sh3.2.1 o_sh3.2.2.1 o_sh3.2.2.2)) A D vwCl 8 0 0 53 [(0, .ref (a0 0))] [] (uX7_copy cyI cyJ cyS a0 c_room c_finding c_courseKnown c_settledByKnown c_sh0.1 c_sh0.2.1 c_sh0.2.2.1 c_sh0.2.2.2 c_sh1.1 c_sh1.2.1 c_sh1.2.2.1 c_sh1.2.2.2 c_sh2.1 c_sh2.2.1 c_sh2.2.2.1 c_sh2.2.2.2 c_sh3.1 c_sh3.2.1 c_sh3.2.2.1 c_sh3.2.2.2) := by
  intro c_finding c_sh0 c_sh1 c_sh2 c_sh3 h
  unfold fX7_copy_53_v9 at h
  refine j_aload_n K 0 rfl dX7_copy_53 rfl ?_
  refine j_iconst (v := (1 : Int32)) K (by decide) dX7_copy_54 rfl ?_
  obtain ⟨r_84, c_finding_85, hc, h⟩ := bd2_some h
  refine j_callV (rest := []) (st1 := [.int r_84]) (ws' := (uX7_copy cyI cyJ cyS a0 c_room c_finding_85 c_courseKnown c_settledByKnown c_sh0.1 c_sh0.2.1 c_sh0.2.2.1 c_sh0.2.2.2 c_sh1.1 c_sh1.2.1 c_sh1.2.2.1 c_sh1.2.2.2 c_sh2.1 c_sh2.2.1 c_sh2.2.2.1 c_sh2.2.2.2 c_sh3.1 c_sh3.2.1 c_sh3.2.2.1 c_sh3.2.2.2)) (T := TX7) (N := 15) (ci := 7) K (ctX7_found l D cyI cyJ cyS a0 (1 : Int32) c_room c_courseKnown c_settledByKnown c_finding r_84 c_finding_85 hc) (gdV mcL mw_12_9 mw_12_10 mw_12_11 mw_1_2 mw_12_12) rfl ⟨rfl, rfl⟩ hyX7_found ⟨Nat.le_of_ble_eq_true rfl, Nat.le_of_ble_eq_true rfl, Nat.le_of_ble_eq_true rfl, Nat.le_of_ble_eq_true rfl⟩ [0] (by decide) rfl [some 0, none, none, none, none, none, none, none, none, none] (by decide) rfl rfl 0 rfl rfl rfl rfl (Nat.le_of_ble_eq_true rfl) dX7_copy_55 rfl rfl ?_
  obtain ⟨e1, g1⟩ := Prod.mk.inj (Option.some.inj h)
  subst e1
  obtain ⟨e2, g2⟩ := Prod.mk.inj g1
  subst e2
  obtain ⟨e3, g3⟩ := Prod.mk.inj g2
  subst e3
  obtain ⟨e4, g4⟩ := Prod.mk.inj g3
  subst e4
  obtain ⟨e5, g5⟩ := Prod.mk.inj g4
  subst e5
  subst g5
  exact j_iret K dX7_copy_58
set_option maxRecDepth 100000 in
set_option maxHeartbeats 4000000 in
theorem wX7_copy_101_v9 (K : jK p s m args meth c A D vwCl (tyz cyI cyJ cyS) cX7_copy 8 RX7 wdX7_copy (some .int)) (a0 : Nat → Nat) (c_room : Int32) (c_courseKnown : Int32) (c_settledByKnown : Int32) (i1 : Int32) (i2 : Int32) (i3 : Int32) (i4 : Int32) (i5 : Int32) (o_r : Int32) (o_finding : Int32) (o_sh0 : jS4) (o_sh1 : jS4) (o_sh2 : jS4) (o_sh3 : jS4) (fei1 : i1 = (2 : Int32)) (fei3 : i3 = (1 : Int32))  : ∀ (c_finding : Int32) (c_sh0 : jS4) (c_sh1 : jS4) (c_sh2 : jS4) (c_sh3 : jS4), fX7_copy_101_v9 i1 i2 i3 i4 i5  c_finding c_sh0 c_sh1 c_sh2 c_sh3 = some (o_r, o_finding, o_sh0, o_sh1, o_sh2, o_sh3) → jw p l e rmX7_copy s m args below meth c (jQ below args s A D vwCl (tyz cyI cyJ cyS) 0 0 (some (.int o_r)) (uX7_copy cyI cyJ cyS a0 c_room o_finding c_courseKnown c_settledByKnown o_sh0.1 o_sh0.2.1 o_sh0.2.2.1 o_sh0.2.2.2 o_sh1.1 o_sh1.2.1 o_sh1.2.2.1 o_sh1.2.2.2 o_sh2.1 o_sh2.2.1 o_sh2.2.2.1 o_sh2.2.2.2 o_sh3.1 o_sh3.2.1 o_sh3.2.2.1 o_sh3.2.2.2)) A D vwCl 8 0 0 101 [(0, .ref (a0 0))] [] (uX7_copy cyI cyJ cyS a0 c_room c_finding c_courseKnown c_settledByKnown c_sh0.1 c_sh0.2.1 c_sh0.2.2.1 c_sh0.2.2.2 c_sh1.1 c_sh1.2.1 c_sh1.2.2.1 c_sh1.2.2.2 c_sh2.1 c_sh2.2.1 c_sh2.2.2.1 c_sh2.2.2.2 c_sh3.1 c_sh3.2.1 c_sh3.2.2.1 c_sh3.2.2.2) := by
  intro c_finding c_sh0 c_sh1 c_sh2 c_sh3 h
  unfold fX7_copy_101_v9 at h
  refine j_aload_n K 0 rfl dX7_copy_101 rfl ?_
  refine j_iconst (v := (2 : Int32)) K (by decide) dX7_copy_102 rfl ?_
  obtain ⟨r_87, c_finding_88, hc, h⟩ := bd2_some h
  refine j_callV (rest := []) (st1 := [.int r_87]) (ws' := (uX7_copy cyI cyJ cyS a0 c_room c_finding_88 c_courseKnown c_settledByKnown c_sh0.1 c_sh0.2.1 c_sh0.2.2.1 c_sh0.2.2.2 c_sh1.1 c_sh1.2.1 c_sh1.2.2.1 c_sh1.2.2.2 c_sh2.1 c_sh2.2.1 c_sh2.2.2.1 c_sh2.2.2.2 c_sh3.1 c_sh3.2.1 c_sh3.2.2.1 c_sh3.2.2.2)) (T := TX7) (N := 15) (ci := 7) K (ctX7_found l D cyI cyJ cyS a0 (2 : Int32) c_room c_courseKnown c_settledByKnown c_finding r_87 c_finding_88 hc) (gdV mcL mw_12_9 mw_12_10 mw_12_11 mw_1_2 mw_12_12) rfl ⟨rfl, rfl⟩ hyX7_found ⟨Nat.le_of_ble_eq_true rfl, Nat.le_of_ble_eq_true rfl, Nat.le_of_ble_eq_true rfl, Nat.le_of_ble_eq_true rfl⟩ [0] (by decide) rfl [some 0, none, none, none, none, none, none, none, none, none] (by decide) rfl rfl 0 rfl rfl rfl rfl (Nat.le_of_ble_eq_true rfl) dX7_copy_103 rfl rfl ?_
  obtain ⟨e1, g1⟩ := Prod.mk.inj (Option.some.inj h)
  subst e1
  obtain ⟨e2, g2⟩ := Prod.mk.inj g1
  subst e2
  obtain ⟨e3, g3⟩ := Prod.mk.inj g2
  subst e3
  obtain ⟨e4, g4⟩ := Prod.mk.inj g3
  subst e4
  obtain ⟨e5, g5⟩ := Prod.mk.inj g4
  subst e5
  subst g5
  exact j_iret K dX7_copy_106
set_option maxRecDepth 100000 in
set_option maxHeartbeats 4000000 in
theorem wX7_copy_53_v10 (K : jK p s m args meth c A D vwCl (tyz cyI cyJ cyS) cX7_copy 8 RX7 wdX7_copy (some .int)) (a0 : Nat → Nat) (c_room : Int32) (c_courseKnown : Int32) (c_settledByKnown : Int32) (i1 : Int32) (i2 : Int32) (i3 : Int32) (i4 : Int32) (i5 : Int32) (o_r : Int32) (o_finding : Int32) (o_sh0 : jS4) (o_sh1 : jS4) (o_sh2 : jS4) (o_sh3 : jS4) (fei1 : i1 = (2 : Int32)) (fei3 : i3 = (2 : Int32))  : ∀ (c_finding : Int32) (c_sh0 : jS4) (c_sh1 : jS4) (c_sh2 : jS4) (c_sh3 : jS4), fX7_copy_53_v10 i1 i2 i3 i4 i5  c_finding c_sh0 c_sh1 c_sh2 c_sh3 = some (o_r, o_finding, o_sh0, o_sh1, o_sh2, o_sh3) → jw p l e rmX7_copy s m args below meth c (jQ below args s A D vwCl (tyz cyI cyJ cyS) 0 0 (some (.int o_r)) (uX7_copy cyI cyJ cyS a0 c_room o_finding c_courseKnown c_settledByKnown o_sh0.1 o_sh0.2.1 o_sh0.2.2.1 o_sh0.2.2.2 o_sh1.1 o_sh1.2.1 o_sh1.2.2.1 o_sh1.2.2.2 o_sh2.1 o_sh2.2.1 o_sh2.2.2.1 o_sh2.2.2.2 o_sh3.1 o_sh3.2.1 o_sh3.2.2.1 o_sh3.2.2.2)) A D vwCl 8 0 0 53 [(0, .ref (a0 0))] [] (uX7_copy cyI cyJ cyS a0 c_room c_finding c_courseKnown c_settledByKnown c_sh0.1 c_sh0.2.1 c_sh0.2.2.1 c_sh0.2.2.2 c_sh1.1 c_sh1.2.1 c_sh1.2.2.1 c_sh1.2.2.2 c_sh2.1 c_sh2.2.1 c_sh2.2.2.1 c_sh2.2.2.2 c_sh3.1 c_sh3.2.1 c_sh3.2.2.1 c_sh3.2.2.2) := by
  intro c_finding c_sh0 c_sh1 c_sh2 c_sh3 h
  unfold fX7_copy_53_v10 at h
  refine j_aload_n K 0 rfl dX7_copy_53 rfl ?_
  refine j_iconst (v := (1 : Int32)) K (by decide) dX7_copy_54 rfl ?_
  obtain ⟨r_93, c_finding_94, hc, h⟩ := bd2_some h
  refine j_callV (rest := []) (st1 := [.int r_93]) (ws' := (uX7_copy cyI cyJ cyS a0 c_room c_finding_94 c_courseKnown c_settledByKnown c_sh0.1 c_sh0.2.1 c_sh0.2.2.1 c_sh0.2.2.2 c_sh1.1 c_sh1.2.1 c_sh1.2.2.1 c_sh1.2.2.2 c_sh2.1 c_sh2.2.1 c_sh2.2.2.1 c_sh2.2.2.2 c_sh3.1 c_sh3.2.1 c_sh3.2.2.1 c_sh3.2.2.2)) (T := TX7) (N := 15) (ci := 7) K (ctX7_found l D cyI cyJ cyS a0 (1 : Int32) c_room c_courseKnown c_settledByKnown c_finding r_93 c_finding_94 hc) (gdV mcL mw_12_9 mw_12_10 mw_12_11 mw_1_2 mw_12_12) rfl ⟨rfl, rfl⟩ hyX7_found ⟨Nat.le_of_ble_eq_true rfl, Nat.le_of_ble_eq_true rfl, Nat.le_of_ble_eq_true rfl, Nat.le_of_ble_eq_true rfl⟩ [0] (by decide) rfl [some 0, none, none, none, none, none, none, none, none, none] (by decide) rfl rfl 0 rfl rfl rfl rfl (Nat.le_of_ble_eq_true rfl) dX7_copy_55 rfl rfl ?_
  obtain ⟨e1, g1⟩ := Prod.mk.inj (Option.some.inj h)
  subst e1
  obtain ⟨e2, g2⟩ := Prod.mk.inj g1
  subst e2
  obtain ⟨e3, g3⟩ := Prod.mk.inj g2
  subst e3
  obtain ⟨e4, g4⟩ := Prod.mk.inj g3
  subst e4
  obtain ⟨e5, g5⟩ := Prod.mk.inj g4
  subst e5
  subst g5
  exact j_iret K dX7_copy_58
set_option maxRecDepth 100000 in
set_option maxHeartbeats 4000000 in
theorem wX7_copy_101_v10 (K : jK p s m args meth c A D vwCl (tyz cyI cyJ cyS) cX7_copy 8 RX7 wdX7_copy (some .int)) (a0 : Nat → Nat) (c_room : Int32) (c_courseKnown : Int32) (c_settledByKnown : Int32) (i1 : Int32) (i2 : Int32) (i3 : Int32) (i4 : Int32) (i5 : Int32) (o_r : Int32) (o_finding : Int32) (o_sh0 : jS4) (o_sh1 : jS4) (o_sh2 : jS4) (o_sh3 : jS4) (fei1 : i1 = (2 : Int32)) (fei3 : i3 = (2 : Int32))  : ∀ (c_finding : Int32) (c_sh0 : jS4) (c_sh1 : jS4) (c_sh2 : jS4) (c_sh3 : jS4), fX7_copy_101_v10 i1 i2 i3 i4 i5  c_finding c_sh0 c_sh1 c_sh2 c_sh3 = some (o_r, o_finding, o_sh0, o_sh1, o_sh2, o_sh3) → jw p l e rmX7_copy s m args below meth c (jQ below args s A D vwCl (tyz cyI cyJ cyS) 0 0 (some (.int o_r)) (uX7_copy cyI cyJ cyS a0 c_room o_finding c_courseKnown c_settledByKnown o_sh0.1 o_sh0.2.1 o_sh0.2.2.1 o_sh0.2.2.2 o_sh1.1 o_sh1.2.1 o_sh1.2.2.1 o_sh1.2.2.2 o_sh2.1 o_sh2.2.1 o_sh2.2.2.1 o_sh2.2.2.2 o_sh3.1 o_sh3.2.1 o_sh3.2.2.1 o_sh3.2.2.2)) A D vwCl 8 0 0 101 [(0, .ref (a0 0))] [] (uX7_copy cyI cyJ cyS a0 c_room c_finding c_courseKnown c_settledByKnown c_sh0.1 c_sh0.2.1 c_sh0.2.2.1 c_sh0.2.2.2 c_sh1.1 c_sh1.2.1 c_sh1.2.2.1 c_sh1.2.2.2 c_sh2.1 c_sh2.2.1 c_sh2.2.2.1 c_sh2.2.2.2 c_sh3.1 c_sh3.2.1 c_sh3.2.2.1 c_sh3.2.2.2) := by
  intro c_finding c_sh0 c_sh1 c_sh2 c_sh3 h
  unfold fX7_copy_101_v10 at h
  refine j_aload_n K 0 rfl dX7_copy_101 rfl ?_
  refine j_iconst (v := (2 : Int32)) K (by decide) dX7_copy_102 rfl ?_
  obtain ⟨r_96, c_finding_97, hc, h⟩ := bd2_some h
  refine j_callV (rest := []) (st1 := [.int r_96]) (ws' := (uX7_copy cyI cyJ cyS a0 c_room c_finding_97 c_courseKnown c_settledByKnown c_sh0.1 c_sh0.2.1 c_sh0.2.2.1 c_sh0.2.2.2 c_sh1.1 c_sh1.2.1 c_sh1.2.2.1 c_sh1.2.2.2 c_sh2.1 c_sh2.2.1 c_sh2.2.2.1 c_sh2.2.2.2 c_sh3.1 c_sh3.2.1 c_sh3.2.2.1 c_sh3.2.2.2)) (T := TX7) (N := 15) (ci := 7) K (ctX7_found l D cyI cyJ cyS a0 (2 : Int32) c_room c_courseKnown c_settledByKnown c_finding r_96 c_finding_97 hc) (gdV mcL mw_12_9 mw_12_10 mw_12_11 mw_1_2 mw_12_12) rfl ⟨rfl, rfl⟩ hyX7_found ⟨Nat.le_of_ble_eq_true rfl, Nat.le_of_ble_eq_true rfl, Nat.le_of_ble_eq_true rfl, Nat.le_of_ble_eq_true rfl⟩ [0] (by decide) rfl [some 0, none, none, none, none, none, none, none, none, none] (by decide) rfl rfl 0 rfl rfl rfl rfl (Nat.le_of_ble_eq_true rfl) dX7_copy_103 rfl rfl ?_
  obtain ⟨e1, g1⟩ := Prod.mk.inj (Option.some.inj h)
  subst e1
  obtain ⟨e2, g2⟩ := Prod.mk.inj g1
  subst e2
  obtain ⟨e3, g3⟩ := Prod.mk.inj g2
  subst e3
  obtain ⟨e4, g4⟩ := Prod.mk.inj g3
  subst e4
  obtain ⟨e5, g5⟩ := Prod.mk.inj g4
  subst e5
  subst g5
  exact j_iret K dX7_copy_106
set_option maxRecDepth 100000 in
set_option maxHeartbeats 4000000 in
theorem wX7_copy_53_v11 (K : jK p s m args meth c A D vwCl (tyz cyI cyJ cyS) cX7_copy 8 RX7 wdX7_copy (some .int)) (a0 : Nat → Nat) (c_room : Int32) (c_courseKnown : Int32) (c_settledByKnown : Int32) (i1 : Int32) (i2 : Int32) (i3 : Int32) (i4 : Int32) (i5 : Int32) (o_r : Int32) (o_finding : Int32) (o_sh0 : jS4) (o_sh1 : jS4) (o_sh2 : jS4) (o_sh3 : jS4) (fei1 : i1 = (2 : Int32)) (fei3 : i3 = (3 : Int32))  : ∀ (c_finding : Int32) (c_sh0 : jS4) (c_sh1 : jS4) (c_sh2 : jS4) (c_sh3 : jS4), fX7_copy_53_v11 i1 i2 i3 i4 i5  c_finding c_sh0 c_sh1 c_sh2 c_sh3 = some (o_r, o_finding, o_sh0, o_sh1, o_sh2, o_sh3) → jw p l e rmX7_copy s m args below meth c (jQ below args s A D vwCl (tyz cyI cyJ cyS) 0 0 (some (.int o_r)) (uX7_copy cyI cyJ cyS a0 c_room o_finding c_courseKnown c_settledByKnown o_sh0.1 o_sh0.2.1 o_sh0.2.2.1 o_sh0.2.2.2 o_sh1.1 o_sh1.2.1 o_sh1.2.2.1 o_sh1.2.2.2 o_sh2.1 o_sh2.2.1 o_sh2.2.2.1 o_sh2.2.2.2 o_sh3.1 o_sh3.2.1 o_sh3.2.2.1 o_sh3.2.2.2)) A D vwCl 8 0 0 53 [(0, .ref (a0 0))] [] (uX7_copy cyI cyJ cyS a0 c_room c_finding c_courseKnown c_settledByKnown c_sh0.1 c_sh0.2.1 c_sh0.2.2.1 c_sh0.2.2.2 c_sh1.1 c_sh1.2.1 c_sh1.2.2.1 c_sh1.2.2.2 c_sh2.1 c_sh2.2.1 c_sh2.2.2.1 c_sh2.2.2.2 c_sh3.1 c_sh3.2.1 c_sh3.2.2.1 c_sh3.2.2.2) := by
  intro c_finding c_sh0 c_sh1 c_sh2 c_sh3 h
  unfold fX7_copy_53_v11 at h
  refine j_aload_n K 0 rfl dX7_copy_53 rfl ?_
  refine j_iconst (v := (1 : Int32)) K (by decide) dX7_copy_54 rfl ?_
  obtain ⟨r_102, c_finding_103, hc, h⟩ := bd2_some h
  refine j_callV (rest := []) (st1 := [.int r_102]) (ws' := (uX7_copy cyI cyJ cyS a0 c_room c_finding_103 c_courseKnown c_settledByKnown c_sh0.1 c_sh0.2.1 c_sh0.2.2.1 c_sh0.2.2.2 c_sh1.1 c_sh1.2.1 c_sh1.2.2.1 c_sh1.2.2.2 c_sh2.1 c_sh2.2.1 c_sh2.2.2.1 c_sh2.2.2.2 c_sh3.1 c_sh3.2.1 c_sh3.2.2.1 c_sh3.2.2.2)) (T := TX7) (N := 15) (ci := 7) K (ctX7_found l D cyI cyJ cyS a0 (1 : Int32) c_room c_courseKnown c_settledByKnown c_finding r_102 c_finding_103 hc) (gdV mcL mw_12_9 mw_12_10 mw_12_11 mw_1_2 mw_12_12) rfl ⟨rfl, rfl⟩ hyX7_found ⟨Nat.le_of_ble_eq_true rfl, Nat.le_of_ble_eq_true rfl, Nat.le_of_ble_eq_true rfl, Nat.le_of_ble_eq_true rfl⟩ [0] (by decide) rfl [some 0, none, none, none, none, none, none, none, none, none] (by decide) rfl rfl 0 rfl rfl rfl rfl (Nat.le_of_ble_eq_true rfl) dX7_copy_55 rfl rfl ?_
  obtain ⟨e1, g1⟩ := Prod.mk.inj (Option.some.inj h)
  subst e1
  obtain ⟨e2, g2⟩ := Prod.mk.inj g1
  subst e2
  obtain ⟨e3, g3⟩ := Prod.mk.inj g2
  subst e3
  obtain ⟨e4, g4⟩ := Prod.mk.inj g3
  subst e4
  obtain ⟨e5, g5⟩ := Prod.mk.inj g4
  subst e5
  subst g5
  exact j_iret K dX7_copy_58
set_option maxRecDepth 100000 in
set_option maxHeartbeats 4000000 in
theorem wX7_copy_101_v11 (K : jK p s m args meth c A D vwCl (tyz cyI cyJ cyS) cX7_copy 8 RX7 wdX7_copy (some .int)) (a0 : Nat → Nat) (c_room : Int32) (c_courseKnown : Int32) (c_settledByKnown : Int32) (i1 : Int32) (i2 : Int32) (i3 : Int32) (i4 : Int32) (i5 : Int32) (o_r : Int32) (o_finding : Int32) (o_sh0 : jS4) (o_sh1 : jS4) (o_sh2 : jS4) (o_sh3 : jS4) (fei1 : i1 = (2 : Int32)) (fei3 : i3 = (3 : Int32))  : ∀ (c_finding : Int32) (c_sh0 : jS4) (c_sh1 : jS4) (c_sh2 : jS4) (c_sh3 : jS4), fX7_copy_101_v11 i1 i2 i3 i4 i5  c_finding c_sh0 c_sh1 c_sh2 c_sh3 = some (o_r, o_finding, o_sh0, o_sh1, o_sh2, o_sh3) → jw p l e rmX7_copy s m args below meth c (jQ below args s A D vwCl (tyz cyI cyJ cyS) 0 0 (some (.int o_r)) (uX7_copy cyI cyJ cyS a0 c_room o_finding c_courseKnown c_settledByKnown o_sh0.1 o_sh0.2.1 o_sh0.2.2.1 o_sh0.2.2.2 o_sh1.1 o_sh1.2.1 o_sh1.2.2.1 o_sh1.2.2.2 o_sh2.1 o_sh2.2.1 o_sh2.2.2.1 o_sh2.2.2.2 o_sh3.1 o_sh3.2.1 o_sh3.2.2.1 o_sh3.2.2.2)) A D vwCl 8 0 0 101 [(0, .ref (a0 0))] [] (uX7_copy cyI cyJ cyS a0 c_room c_finding c_courseKnown c_settledByKnown c_sh0.1 c_sh0.2.1 c_sh0.2.2.1 c_sh0.2.2.2 c_sh1.1 c_sh1.2.1 c_sh1.2.2.1 c_sh1.2.2.2 c_sh2.1 c_sh2.2.1 c_sh2.2.2.1 c_sh2.2.2.2 c_sh3.1 c_sh3.2.1 c_sh3.2.2.1 c_sh3.2.2.2) := by
  intro c_finding c_sh0 c_sh1 c_sh2 c_sh3 h
  unfold fX7_copy_101_v11 at h
  refine j_aload_n K 0 rfl dX7_copy_101 rfl ?_
  refine j_iconst (v := (2 : Int32)) K (by decide) dX7_copy_102 rfl ?_
  obtain ⟨r_105, c_finding_106, hc, h⟩ := bd2_some h
  refine j_callV (rest := []) (st1 := [.int r_105]) (ws' := (uX7_copy cyI cyJ cyS a0 c_room c_finding_106 c_courseKnown c_settledByKnown c_sh0.1 c_sh0.2.1 c_sh0.2.2.1 c_sh0.2.2.2 c_sh1.1 c_sh1.2.1 c_sh1.2.2.1 c_sh1.2.2.2 c_sh2.1 c_sh2.2.1 c_sh2.2.2.1 c_sh2.2.2.2 c_sh3.1 c_sh3.2.1 c_sh3.2.2.1 c_sh3.2.2.2)) (T := TX7) (N := 15) (ci := 7) K (ctX7_found l D cyI cyJ cyS a0 (2 : Int32) c_room c_courseKnown c_settledByKnown c_finding r_105 c_finding_106 hc) (gdV mcL mw_12_9 mw_12_10 mw_12_11 mw_1_2 mw_12_12) rfl ⟨rfl, rfl⟩ hyX7_found ⟨Nat.le_of_ble_eq_true rfl, Nat.le_of_ble_eq_true rfl, Nat.le_of_ble_eq_true rfl, Nat.le_of_ble_eq_true rfl⟩ [0] (by decide) rfl [some 0, none, none, none, none, none, none, none, none, none] (by decide) rfl rfl 0 rfl rfl rfl rfl (Nat.le_of_ble_eq_true rfl) dX7_copy_103 rfl rfl ?_
  obtain ⟨e1, g1⟩ := Prod.mk.inj (Option.some.inj h)
  subst e1
  obtain ⟨e2, g2⟩ := Prod.mk.inj g1
  subst e2
  obtain ⟨e3, g3⟩ := Prod.mk.inj g2
  subst e3
  obtain ⟨e4, g4⟩ := Prod.mk.inj g3
  subst e4
  obtain ⟨e5, g5⟩ := Prod.mk.inj g4
  subst e5
  subst g5
  exact j_iret K dX7_copy_106
set_option maxRecDepth 100000 in
set_option maxHeartbeats 4000000 in
theorem wX7_copy_53_v12 (K : jK p s m args meth c A D vwCl (tyz cyI cyJ cyS) cX7_copy 8 RX7 wdX7_copy (some .int)) (a0 : Nat → Nat) (c_room : Int32) (c_courseKnown : Int32) (c_settledByKnown : Int32) (i1 : Int32) (i2 : Int32) (i3 : Int32) (i4 : Int32) (i5 : Int32) (o_r : Int32) (o_finding : Int32) (o_sh0 : jS4) (o_sh1 : jS4) (o_sh2 : jS4) (o_sh3 : jS4) (fei1 : i1 = (3 : Int32)) (fei3 : i3 = (0 : Int32))  : ∀ (c_finding : Int32) (c_sh0 : jS4) (c_sh1 : jS4) (c_sh2 : jS4) (c_sh3 : jS4), fX7_copy_53_v12 i1 i2 i3 i4 i5  c_finding c_sh0 c_sh1 c_sh2 c_sh3 = some (o_r, o_finding, o_sh0, o_sh1, o_sh2, o_sh3) → jw p l e rmX7_copy s m args below meth c (jQ below args s A D vwCl (tyz cyI cyJ cyS) 0 0 (some (.int o_r)) (uX7_copy cyI cyJ cyS a0 c_room o_finding c_courseKnown c_settledByKnown o_sh0.1 o_sh0.2.1 o_sh0.2.2.1 o_sh0.2.2.2 o_sh1.1 o_sh1.2.1 o_sh1.2.2.1 o_sh1.2.2.2 o_sh2.1 o_sh2.2.1 o_sh2.2.2.1 o_sh2.2.2.2 o_sh3.1 o_sh3.2.1 o_sh3.2.2.1 o_sh3.2.2.2)) A D vwCl 8 0 0 53 [(0, .ref (a0 0))] [] (uX7_copy cyI cyJ cyS a0 c_room c_finding c_courseKnown c_settledByKnown c_sh0.1 c_sh0.2.1 c_sh0.2.2.1 c_sh0.2.2.2 c_sh1.1 c_sh1.2.1 c_sh1.2.2.1 c_sh1.2.2.2 c_sh2.1 c_sh2.2.1 c_sh2.2.2.1 c_sh2.2.2.2 c_sh3.1 c_sh3.2.1 c_sh3.2.2.1 c_sh3.2.2.2) := by
  intro c_finding c_sh0 c_sh1 c_sh2 c_sh3 h
  unfold fX7_copy_53_v12 at h
  refine j_aload_n K 0 rfl dX7_copy_53 rfl ?_
  refine j_iconst (v := (1 : Int32)) K (by decide) dX7_copy_54 rfl ?_
  obtain ⟨r_111, c_finding_112, hc, h⟩ := bd2_some h
  refine j_callV (rest := []) (st1 := [.int r_111]) (ws' := (uX7_copy cyI cyJ cyS a0 c_room c_finding_112 c_courseKnown c_settledByKnown c_sh0.1 c_sh0.2.1 c_sh0.2.2.1 c_sh0.2.2.2 c_sh1.1 c_sh1.2.1 c_sh1.2.2.1 c_sh1.2.2.2 c_sh2.1 c_sh2.2.1 c_sh2.2.2.1 c_sh2.2.2.2 c_sh3.1 c_sh3.2.1 c_sh3.2.2.1 c_sh3.2.2.2)) (T := TX7) (N := 15) (ci := 7) K (ctX7_found l D cyI cyJ cyS a0 (1 : Int32) c_room c_courseKnown c_settledByKnown c_finding r_111 c_finding_112 hc) (gdV mcL mw_12_9 mw_12_10 mw_12_11 mw_1_2 mw_12_12) rfl ⟨rfl, rfl⟩ hyX7_found ⟨Nat.le_of_ble_eq_true rfl, Nat.le_of_ble_eq_true rfl, Nat.le_of_ble_eq_true rfl, Nat.le_of_ble_eq_true rfl⟩ [0] (by decide) rfl [some 0, none, none, none, none, none, none, none, none, none] (by decide) rfl rfl 0 rfl rfl rfl rfl (Nat.le_of_ble_eq_true rfl) dX7_copy_55 rfl rfl ?_
  obtain ⟨e1, g1⟩ := Prod.mk.inj (Option.some.inj h)
  subst e1
  obtain ⟨e2, g2⟩ := Prod.mk.inj g1
  subst e2
  obtain ⟨e3, g3⟩ := Prod.mk.inj g2
  subst e3
  obtain ⟨e4, g4⟩ := Prod.mk.inj g3
  subst e4
  obtain ⟨e5, g5⟩ := Prod.mk.inj g4
  subst e5
  subst g5
  exact j_iret K dX7_copy_58
set_option maxRecDepth 100000 in
set_option maxHeartbeats 4000000 in
theorem wX7_copy_101_v12 (K : jK p s m args meth c A D vwCl (tyz cyI cyJ cyS) cX7_copy 8 RX7 wdX7_copy (some .int)) (a0 : Nat → Nat) (c_room : Int32) (c_courseKnown : Int32) (c_settledByKnown : Int32) (i1 : Int32) (i2 : Int32) (i3 : Int32) (i4 : Int32) (i5 : Int32) (o_r : Int32) (o_finding : Int32) (o_sh0 : jS4) (o_sh1 : jS4) (o_sh2 : jS4) (o_sh3 : jS4) (fei1 : i1 = (3 : Int32)) (fei3 : i3 = (0 : Int32))  : ∀ (c_finding : Int32) (c_sh0 : jS4) (c_sh1 : jS4) (c_sh2 : jS4) (c_sh3 : jS4), fX7_copy_101_v12 i1 i2 i3 i4 i5  c_finding c_sh0 c_sh1 c_sh2 c_sh3 = some (o_r, o_finding, o_sh0, o_sh1, o_sh2, o_sh3) → jw p l e rmX7_copy s m args below meth c (jQ below args s A D vwCl (tyz cyI cyJ cyS) 0 0 (some (.int o_r)) (uX7_copy cyI cyJ cyS a0 c_room o_finding c_courseKnown c_settledByKnown o_sh0.1 o_sh0.2.1 o_sh0.2.2.1 o_sh0.2.2.2 o_sh1.1 o_sh1.2.1 o_sh1.2.2.1 o_sh1.2.2.2 o_sh2.1 o_sh2.2.1 o_sh2.2.2.1 o_sh2.2.2.2 o_sh3.1 o_sh3.2.1 o_sh3.2.2.1 o_sh3.2.2.2)) A D vwCl 8 0 0 101 [(0, .ref (a0 0))] [] (uX7_copy cyI cyJ cyS a0 c_room c_finding c_courseKnown c_settledByKnown c_sh0.1 c_sh0.2.1 c_sh0.2.2.1 c_sh0.2.2.2 c_sh1.1 c_sh1.2.1 c_sh1.2.2.1 c_sh1.2.2.2 c_sh2.1 c_sh2.2.1 c_sh2.2.2.1 c_sh2.2.2.2 c_sh3.1 c_sh3.2.1 c_sh3.2.2.1 c_sh3.2.2.2) := by
  intro c_finding c_sh0 c_sh1 c_sh2 c_sh3 h
  unfold fX7_copy_101_v12 at h
  refine j_aload_n K 0 rfl dX7_copy_101 rfl ?_
  refine j_iconst (v := (2 : Int32)) K (by decide) dX7_copy_102 rfl ?_
  obtain ⟨r_114, c_finding_115, hc, h⟩ := bd2_some h
  refine j_callV (rest := []) (st1 := [.int r_114]) (ws' := (uX7_copy cyI cyJ cyS a0 c_room c_finding_115 c_courseKnown c_settledByKnown c_sh0.1 c_sh0.2.1 c_sh0.2.2.1 c_sh0.2.2.2 c_sh1.1 c_sh1.2.1 c_sh1.2.2.1 c_sh1.2.2.2 c_sh2.1 c_sh2.2.1 c_sh2.2.2.1 c_sh2.2.2.2 c_sh3.1 c_sh3.2.1 c_sh3.2.2.1 c_sh3.2.2.2)) (T := TX7) (N := 15) (ci := 7) K (ctX7_found l D cyI cyJ cyS a0 (2 : Int32) c_room c_courseKnown c_settledByKnown c_finding r_114 c_finding_115 hc) (gdV mcL mw_12_9 mw_12_10 mw_12_11 mw_1_2 mw_12_12) rfl ⟨rfl, rfl⟩ hyX7_found ⟨Nat.le_of_ble_eq_true rfl, Nat.le_of_ble_eq_true rfl, Nat.le_of_ble_eq_true rfl, Nat.le_of_ble_eq_true rfl⟩ [0] (by decide) rfl [some 0, none, none, none, none, none, none, none, none, none] (by decide) rfl rfl 0 rfl rfl rfl rfl (Nat.le_of_ble_eq_true rfl) dX7_copy_103 rfl rfl ?_
  obtain ⟨e1, g1⟩ := Prod.mk.inj (Option.some.inj h)
  subst e1
  obtain ⟨e2, g2⟩ := Prod.mk.inj g1
  subst e2
  obtain ⟨e3, g3⟩ := Prod.mk.inj g2
  subst e3
  obtain ⟨e4, g4⟩ := Prod.mk.inj g3
  subst e4
  obtain ⟨e5, g5⟩ := Prod.mk.inj g4
  subst e5
  subst g5
  exact j_iret K dX7_copy_106
set_option maxRecDepth 100000 in
set_option maxHeartbeats 4000000 in
theorem wX7_copy_53_v13 (K : jK p s m args meth c A D vwCl (tyz cyI cyJ cyS) cX7_copy 8 RX7 wdX7_copy (some .int)) (a0 : Nat → Nat) (c_room : Int32) (c_courseKnown : Int32) (c_settledByKnown : Int32) (i1 : Int32) (i2 : Int32) (i3 : Int32) (i4 : Int32) (i5 : Int32) (o_r : Int32) (o_finding : Int32) (o_sh0 : jS4) (o_sh1 : jS4) (o_sh2 : jS4) (o_sh3 : jS4) (fei1 : i1 = (3 : Int32)) (fei3 : i3 = (1 : Int32))  : ∀ (c_finding : Int32) (c_sh0 : jS4) (c_sh1 : jS4) (c_sh2 : jS4) (c_sh3 : jS4), fX7_copy_53_v13 i1 i2 i3 i4 i5  c_finding c_sh0 c_sh1 c_sh2 c_sh3 = some (o_r, o_finding, o_sh0, o_sh1, o_sh2, o_sh3) → jw p l e rmX7_copy s m args below meth c (jQ below args s A D vwCl (tyz cyI cyJ cyS) 0 0 (some (.int o_r)) (uX7_copy cyI cyJ cyS a0 c_room o_finding c_courseKnown c_settledByKnown o_sh0.1 o_sh0.2.1 o_sh0.2.2.1 o_sh0.2.2.2 o_sh1.1 o_sh1.2.1 o_sh1.2.2.1 o_sh1.2.2.2 o_sh2.1 o_sh2.2.1 o_sh2.2.2.1 o_sh2.2.2.2 o_sh3.1 o_sh3.2.1 o_sh3.2.2.1 o_sh3.2.2.2)) A D vwCl 8 0 0 53 [(0, .ref (a0 0))] [] (uX7_copy cyI cyJ cyS a0 c_room c_finding c_courseKnown c_settledByKnown c_sh0.1 c_sh0.2.1 c_sh0.2.2.1 c_sh0.2.2.2 c_sh1.1 c_sh1.2.1 c_sh1.2.2.1 c_sh1.2.2.2 c_sh2.1 c_sh2.2.1 c_sh2.2.2.1 c_sh2.2.2.2 c_sh3.1 c_sh3.2.1 c_sh3.2.2.1 c_sh3.2.2.2) := by
  intro c_finding c_sh0 c_sh1 c_sh2 c_sh3 h
  unfold fX7_copy_53_v13 at h
  refine j_aload_n K 0 rfl dX7_copy_53 rfl ?_
  refine j_iconst (v := (1 : Int32)) K (by decide) dX7_copy_54 rfl ?_
  obtain ⟨r_120, c_finding_121, hc, h⟩ := bd2_some h
  refine j_callV (rest := []) (st1 := [.int r_120]) (ws' := (uX7_copy cyI cyJ cyS a0 c_room c_finding_121 c_courseKnown c_settledByKnown c_sh0.1 c_sh0.2.1 c_sh0.2.2.1 c_sh0.2.2.2 c_sh1.1 c_sh1.2.1 c_sh1.2.2.1 c_sh1.2.2.2 c_sh2.1 c_sh2.2.1 c_sh2.2.2.1 c_sh2.2.2.2 c_sh3.1 c_sh3.2.1 c_sh3.2.2.1 c_sh3.2.2.2)) (T := TX7) (N := 15) (ci := 7) K (ctX7_found l D cyI cyJ cyS a0 (1 : Int32) c_room c_courseKnown c_settledByKnown c_finding r_120 c_finding_121 hc) (gdV mcL mw_12_9 mw_12_10 mw_12_11 mw_1_2 mw_12_12) rfl ⟨rfl, rfl⟩ hyX7_found ⟨Nat.le_of_ble_eq_true rfl, Nat.le_of_ble_eq_true rfl, Nat.le_of_ble_eq_true rfl, Nat.le_of_ble_eq_true rfl⟩ [0] (by decide) rfl [some 0, none, none, none, none, none, none, none, none, none] (by decide) rfl rfl 0 rfl rfl rfl rfl (Nat.le_of_ble_eq_true rfl) dX7_copy_55 rfl rfl ?_
  obtain ⟨e1, g1⟩ := Prod.mk.inj (Option.some.inj h)
  subst e1
  obtain ⟨e2, g2⟩ := Prod.mk.inj g1
  subst e2
  obtain ⟨e3, g3⟩ := Prod.mk.inj g2
  subst e3
  obtain ⟨e4, g4⟩ := Prod.mk.inj g3
  subst e4
  obtain ⟨e5, g5⟩ := Prod.mk.inj g4
  subst e5
  subst g5
  exact j_iret K dX7_copy_58
set_option maxRecDepth 100000 in
set_option maxHeartbeats 4000000 in
theorem wX7_copy_101_v13 (K : jK p s m args meth c A D vwCl (tyz cyI cyJ cyS) cX7_copy 8 RX7 wdX7_copy (some .int)) (a0 : Nat → Nat) (c_room : Int32) (c_courseKnown : Int32) (c_settledByKnown : Int32) (i1 : Int32) (i2 : Int32) (i3 : Int32) (i4 : Int32) (i5 : Int32) (o_r : Int32) (o_finding : Int32) (o_sh0 : jS4) (o_sh1 : jS4) (o_sh2 : jS4) (o_sh3 : jS4) (fei1 : i1 = (3 : Int32)) (fei3 : i3 = (1 : Int32))  : ∀ (c_finding : Int32) (c_sh0 : jS4) (c_sh1 : jS4) (c_sh2 : jS4) (c_sh3 : jS4), fX7_copy_101_v13 i1 i2 i3 i4 i5  c_finding c_sh0 c_sh1 c_sh2 c_sh3 = some (o_r, o_finding, o_sh0, o_sh1, o_sh2, o_sh3) → jw p l e rmX7_copy s m args below meth c (jQ below args s A D vwCl (tyz cyI cyJ cyS) 0 0 (some (.int o_r)) (uX7_copy cyI cyJ cyS a0 c_room o_finding c_courseKnown c_settledByKnown o_sh0.1 o_sh0.2.1 o_sh0.2.2.1 o_sh0.2.2.2 o_sh1.1 o_sh1.2.1 o_sh1.2.2.1 o_sh1.2.2.2 o_sh2.1 o_sh2.2.1 o_sh2.2.2.1 o_sh2.2.2.2 o_sh3.1 o_sh3.2.1 o_sh3.2.2.1 o_sh3.2.2.2)) A D vwCl 8 0 0 101 [(0, .ref (a0 0))] [] (uX7_copy cyI cyJ cyS a0 c_room c_finding c_courseKnown c_settledByKnown c_sh0.1 c_sh0.2.1 c_sh0.2.2.1 c_sh0.2.2.2 c_sh1.1 c_sh1.2.1 c_sh1.2.2.1 c_sh1.2.2.2 c_sh2.1 c_sh2.2.1 c_sh2.2.2.1 c_sh2.2.2.2 c_sh3.1 c_sh3.2.1 c_sh3.2.2.1 c_sh3.2.2.2) := by
  intro c_finding c_sh0 c_sh1 c_sh2 c_sh3 h
  unfold fX7_copy_101_v13 at h
  refine j_aload_n K 0 rfl dX7_copy_101 rfl ?_
  refine j_iconst (v := (2 : Int32)) K (by decide) dX7_copy_102 rfl ?_
  obtain ⟨r_123, c_finding_124, hc, h⟩ := bd2_some h
  refine j_callV (rest := []) (st1 := [.int r_123]) (ws' := (uX7_copy cyI cyJ cyS a0 c_room c_finding_124 c_courseKnown c_settledByKnown c_sh0.1 c_sh0.2.1 c_sh0.2.2.1 c_sh0.2.2.2 c_sh1.1 c_sh1.2.1 c_sh1.2.2.1 c_sh1.2.2.2 c_sh2.1 c_sh2.2.1 c_sh2.2.2.1 c_sh2.2.2.2 c_sh3.1 c_sh3.2.1 c_sh3.2.2.1 c_sh3.2.2.2)) (T := TX7) (N := 15) (ci := 7) K (ctX7_found l D cyI cyJ cyS a0 (2 : Int32) c_room c_courseKnown c_settledByKnown c_finding r_123 c_finding_124 hc) (gdV mcL mw_12_9 mw_12_10 mw_12_11 mw_1_2 mw_12_12) rfl ⟨rfl, rfl⟩ hyX7_found ⟨Nat.le_of_ble_eq_true rfl, Nat.le_of_ble_eq_true rfl, Nat.le_of_ble_eq_true rfl, Nat.le_of_ble_eq_true rfl⟩ [0] (by decide) rfl [some 0, none, none, none, none, none, none, none, none, none] (by decide) rfl rfl 0 rfl rfl rfl rfl (Nat.le_of_ble_eq_true rfl) dX7_copy_103 rfl rfl ?_
  obtain ⟨e1, g1⟩ := Prod.mk.inj (Option.some.inj h)
  subst e1
  obtain ⟨e2, g2⟩ := Prod.mk.inj g1
  subst e2
  obtain ⟨e3, g3⟩ := Prod.mk.inj g2
  subst e3
  obtain ⟨e4, g4⟩ := Prod.mk.inj g3
  subst e4
  obtain ⟨e5, g5⟩ := Prod.mk.inj g4
  subst e5
  subst g5
  exact j_iret K dX7_copy_106
set_option maxRecDepth 100000 in
set_option maxHeartbeats 4000000 in
theorem wX7_copy_53_v14 (K : jK p s m args meth c A D vwCl (tyz cyI cyJ cyS) cX7_copy 8 RX7 wdX7_copy (some .int)) (a0 : Nat → Nat) (c_room : Int32) (c_courseKnown : Int32) (c_settledByKnown : Int32) (i1 : Int32) (i2 : Int32) (i3 : Int32) (i4 : Int32) (i5 : Int32) (o_r : Int32) (o_finding : Int32) (o_sh0 : jS4) (o_sh1 : jS4) (o_sh2 : jS4) (o_sh3 : jS4) (fei1 : i1 = (3 : Int32)) (fei3 : i3 = (2 : Int32))  : ∀ (c_finding : Int32) (c_sh0 : jS4) (c_sh1 : jS4) (c_sh2 : jS4) (c_sh3 : jS4), fX7_copy_53_v14 i1 i2 i3 i4 i5  c_finding c_sh0 c_sh1 c_sh2 c_sh3 = some (o_r, o_finding, o_sh0, o_sh1, o_sh2, o_sh3) → jw p l e rmX7_copy s m args below meth c (jQ below args s A D vwCl (tyz cyI cyJ cyS) 0 0 (some (.int o_r)) (uX7_copy cyI cyJ cyS a0 c_room o_finding c_courseKnown c_settledByKnown o_sh0.1 o_sh0.2.1 o_sh0.2.2.1 o_sh0.2.2.2 o_sh1.1 o_sh1.2.1 o_sh1.2.2.1 o_sh1.2.2.2 o_sh2.1 o_sh2.2.1 o_sh2.2.2.1 o_sh2.2.2.2 o_sh3.1 o_sh3.2.1 o_sh3.2.2.1 o_sh3.2.2.2)) A D vwCl 8 0 0 53 [(0, .ref (a0 0))] [] (uX7_copy cyI cyJ cyS a0 c_room c_finding c_courseKnown c_settledByKnown c_sh0.1 c_sh0.2.1 c_sh0.2.2.1 c_sh0.2.2.2 c_sh1.1 c_sh1.2.1 c_sh1.2.2.1 c_sh1.2.2.2 c_sh2.1 c_sh2.2.1 c_sh2.2.2.1 c_sh2.2.2.2 c_sh3.1 c_sh3.2.1 c_sh3.2.2.1 c_sh3.2.2.2) := by
  intro c_finding c_sh0 c_sh1 c_sh2 c_sh3 h
  unfold fX7_copy_53_v14 at h
  refine j_aload_n K 0 rfl dX7_copy_53 rfl ?_
  refine j_iconst (v := (1 : Int32)) K (by decide) dX7_copy_54 rfl ?_
  obtain ⟨r_129, c_finding_130, hc, h⟩ := bd2_some h
  refine j_callV (rest := []) (st1 := [.int r_129]) (ws' := (uX7_copy cyI cyJ cyS a0 c_room c_finding_130 c_courseKnown c_settledByKnown c_sh0.1 c_sh0.2.1 c_sh0.2.2.1 c_sh0.2.2.2 c_sh1.1 c_sh1.2.1 c_sh1.2.2.1 c_sh1.2.2.2 c_sh2.1 c_sh2.2.1 c_sh2.2.2.1 c_sh2.2.2.2 c_sh3.1 c_sh3.2.1 c_sh3.2.2.1 c_sh3.2.2.2)) (T := TX7) (N := 15) (ci := 7) K (ctX7_found l D cyI cyJ cyS a0 (1 : Int32) c_room c_courseKnown c_settledByKnown c_finding r_129 c_finding_130 hc) (gdV mcL mw_12_9 mw_12_10 mw_12_11 mw_1_2 mw_12_12) rfl ⟨rfl, rfl⟩ hyX7_found ⟨Nat.le_of_ble_eq_true rfl, Nat.le_of_ble_eq_true rfl, Nat.le_of_ble_eq_true rfl, Nat.le_of_ble_eq_true rfl⟩ [0] (by decide) rfl [some 0, none, none, none, none, none, none, none, none, none] (by decide) rfl rfl 0 rfl rfl rfl rfl (Nat.le_of_ble_eq_true rfl) dX7_copy_55 rfl rfl ?_
  obtain ⟨e1, g1⟩ := Prod.mk.inj (Option.some.inj h)
  subst e1
  obtain ⟨e2, g2⟩ := Prod.mk.inj g1
  subst e2
  obtain ⟨e3, g3⟩ := Prod.mk.inj g2
  subst e3
  obtain ⟨e4, g4⟩ := Prod.mk.inj g3
  subst e4
  obtain ⟨e5, g5⟩ := Prod.mk.inj g4
  subst e5
  subst g5
  exact j_iret K dX7_copy_58
set_option maxRecDepth 100000 in
set_option maxHeartbeats 4000000 in
theorem wX7_copy_101_v14 (K : jK p s m args meth c A D vwCl (tyz cyI cyJ cyS) cX7_copy 8 RX7 wdX7_copy (some .int)) (a0 : Nat → Nat) (c_room : Int32) (c_courseKnown : Int32) (c_settledByKnown : Int32) (i1 : Int32) (i2 : Int32) (i3 : Int32) (i4 : Int32) (i5 : Int32) (o_r : Int32) (o_finding : Int32) (o_sh0 : jS4) (o_sh1 : jS4) (o_sh2 : jS4) (o_sh3 : jS4) (fei1 : i1 = (3 : Int32)) (fei3 : i3 = (2 : Int32))  : ∀ (c_finding : Int32) (c_sh0 : jS4) (c_sh1 : jS4) (c_sh2 : jS4) (c_sh3 : jS4), fX7_copy_101_v14 i1 i2 i3 i4 i5  c_finding c_sh0 c_sh1 c_sh2 c_sh3 = some (o_r, o_finding, o_sh0, o_sh1, o_sh2, o_sh3) → jw p l e rmX7_copy s m args below meth c (jQ below args s A D vwCl (tyz cyI cyJ cyS) 0 0 (some (.int o_r)) (uX7_copy cyI cyJ cyS a0 c_room o_finding c_courseKnown c_settledByKnown o_sh0.1 o_sh0.2.1 o_sh0.2.2.1 o_sh0.2.2.2 o_sh1.1 o_sh1.2.1 o_sh1.2.2.1 o_sh1.2.2.2 o_sh2.1 o_sh2.2.1 o_sh2.2.2.1 o_sh2.2.2.2 o_sh3.1 o_sh3.2.1 o_sh3.2.2.1 o_sh3.2.2.2)) A D vwCl 8 0 0 101 [(0, .ref (a0 0))] [] (uX7_copy cyI cyJ cyS a0 c_room c_finding c_courseKnown c_settledByKnown c_sh0.1 c_sh0.2.1 c_sh0.2.2.1 c_sh0.2.2.2 c_sh1.1 c_sh1.2.1 c_sh1.2.2.1 c_sh1.2.2.2 c_sh2.1 c_sh2.2.1 c_sh2.2.2.1 c_sh2.2.2.2 c_sh3.1 c_sh3.2.1 c_sh3.2.2.1 c_sh3.2.2.2) := by
  intro c_finding c_sh0 c_sh1 c_sh2 c_sh3 h
  unfold fX7_copy_101_v14 at h
  refine j_aload_n K 0 rfl dX7_copy_101 rfl ?_
  refine j_iconst (v := (2 : Int32)) K (by decide) dX7_copy_102 rfl ?_
  obtain ⟨r_132, c_finding_133, hc, h⟩ := bd2_some h
  refine j_callV (rest := []) (st1 := [.int r_132]) (ws' := (uX7_copy cyI cyJ cyS a0 c_room c_finding_133 c_courseKnown c_settledByKnown c_sh0.1 c_sh0.2.1 c_sh0.2.2.1 c_sh0.2.2.2 c_sh1.1 c_sh1.2.1 c_sh1.2.2.1 c_sh1.2.2.2 c_sh2.1 c_sh2.2.1 c_sh2.2.2.1 c_sh2.2.2.2 c_sh3.1 c_sh3.2.1 c_sh3.2.2.1 c_sh3.2.2.2)) (T := TX7) (N := 15) (ci := 7) K (ctX7_found l D cyI cyJ cyS a0 (2 : Int32) c_room c_courseKnown c_settledByKnown c_finding r_132 c_finding_133 hc) (gdV mcL mw_12_9 mw_12_10 mw_12_11 mw_1_2 mw_12_12) rfl ⟨rfl, rfl⟩ hyX7_found ⟨Nat.le_of_ble_eq_true rfl, Nat.le_of_ble_eq_true rfl, Nat.le_of_ble_eq_true rfl, Nat.le_of_ble_eq_true rfl⟩ [0] (by decide) rfl [some 0, none, none, none, none, none, none, none, none, none] (by decide) rfl rfl 0 rfl rfl rfl rfl (Nat.le_of_ble_eq_true rfl) dX7_copy_103 rfl rfl ?_
  obtain ⟨e1, g1⟩ := Prod.mk.inj (Option.some.inj h)
  subst e1
  obtain ⟨e2, g2⟩ := Prod.mk.inj g1
  subst e2
  obtain ⟨e3, g3⟩ := Prod.mk.inj g2
  subst e3
  obtain ⟨e4, g4⟩ := Prod.mk.inj g3
  subst e4
  obtain ⟨e5, g5⟩ := Prod.mk.inj g4
  subst e5
  subst g5
  exact j_iret K dX7_copy_106
set_option maxRecDepth 100000 in
set_option maxHeartbeats 4000000 in
theorem wX7_copy_53_v15 (K : jK p s m args meth c A D vwCl (tyz cyI cyJ cyS) cX7_copy 8 RX7 wdX7_copy (some .int)) (a0 : Nat → Nat) (c_room : Int32) (c_courseKnown : Int32) (c_settledByKnown : Int32) (i1 : Int32) (i2 : Int32) (i3 : Int32) (i4 : Int32) (i5 : Int32) (o_r : Int32) (o_finding : Int32) (o_sh0 : jS4) (o_sh1 : jS4) (o_sh2 : jS4) (o_sh3 : jS4) (fei1 : i1 = (3 : Int32)) (fei3 : i3 = (3 : Int32))  : ∀ (c_finding : Int32) (c_sh0 : jS4) (c_sh1 : jS4) (c_sh2 : jS4) (c_sh3 : jS4), fX7_copy_53_v15 i1 i2 i3 i4 i5  c_finding c_sh0 c_sh1 c_sh2 c_sh3 = some (o_r, o_finding, o_sh0, o_sh1, o_sh2, o_sh3) → jw p l e rmX7_copy s m args below meth c (jQ below args s A D vwCl (tyz cyI cyJ cyS) 0 0 (some (.int o_r)) (uX7_copy cyI cyJ cyS a0 c_room o_finding c_courseKnown c_settledByKnown o_sh0.1 o_sh0.2.1 o_sh0.2.2.1 o_sh0.2.2.2 o_sh1.1 o_sh1.2.1 o_sh1.2.2.1 o_sh1.2.2.2 o_sh2.1 o_sh2.2.1 o_sh2.2.2.1 o_sh2.2.2.2 o_sh3.1 o_sh3.2.1 o_sh3.2.2.1 o_sh3.2.2.2)) A D vwCl 8 0 0 53 [(0, .ref (a0 0))] [] (uX7_copy cyI cyJ cyS a0 c_room c_finding c_courseKnown c_settledByKnown c_sh0.1 c_sh0.2.1 c_sh0.2.2.1 c_sh0.2.2.2 c_sh1.1 c_sh1.2.1 c_sh1.2.2.1 c_sh1.2.2.2 c_sh2.1 c_sh2.2.1 c_sh2.2.2.1 c_sh2.2.2.2 c_sh3.1 c_sh3.2.1 c_sh3.2.2.1 c_sh3.2.2.2) := by
  intro c_finding c_sh0 c_sh1 c_sh2 c_sh3 h
  unfold fX7_copy_53_v15 at h
  refine j_aload_n K 0 rfl dX7_copy_53 rfl ?_
  refine j_iconst (v := (1 : Int32)) K (by decide) dX7_copy_54 rfl ?_
  obtain ⟨r_138, c_finding_139, hc, h⟩ := bd2_some h
  refine j_callV (rest := []) (st1 := [.int r_138]) (ws' := (uX7_copy cyI cyJ cyS a0 c_room c_finding_139 c_courseKnown c_settledByKnown c_sh0.1 c_sh0.2.1 c_sh0.2.2.1 c_sh0.2.2.2 c_sh1.1 c_sh1.2.1 c_sh1.2.2.1 c_sh1.2.2.2 c_sh2.1 c_sh2.2.1 c_sh2.2.2.1 c_sh2.2.2.2 c_sh3.1 c_sh3.2.1 c_sh3.2.2.1 c_sh3.2.2.2)) (T := TX7) (N := 15) (ci := 7) K (ctX7_found l D cyI cyJ cyS a0 (1 : Int32) c_room c_courseKnown c_settledByKnown c_finding r_138 c_finding_139 hc) (gdV mcL mw_12_9 mw_12_10 mw_12_11 mw_1_2 mw_12_12) rfl ⟨rfl, rfl⟩ hyX7_found ⟨Nat.le_of_ble_eq_true rfl, Nat.le_of_ble_eq_true rfl, Nat.le_of_ble_eq_true rfl, Nat.le_of_ble_eq_true rfl⟩ [0] (by decide) rfl [some 0, none, none, none, none, none, none, none, none, none] (by decide) rfl rfl 0 rfl rfl rfl rfl (Nat.le_of_ble_eq_true rfl) dX7_copy_55 rfl rfl ?_
  obtain ⟨e1, g1⟩ := Prod.mk.inj (Option.some.inj h)
  subst e1
  obtain ⟨e2, g2⟩ := Prod.mk.inj g1
  subst e2
  obtain ⟨e3, g3⟩ := Prod.mk.inj g2
  subst e3
  obtain ⟨e4, g4⟩ := Prod.mk.inj g3
  subst e4
  obtain ⟨e5, g5⟩ := Prod.mk.inj g4
  subst e5
  subst g5
  exact j_iret K dX7_copy_58
set_option maxRecDepth 100000 in
set_option maxHeartbeats 4000000 in
theorem wX7_copy_101_v15 (K : jK p s m args meth c A D vwCl (tyz cyI cyJ cyS) cX7_copy 8 RX7 wdX7_copy (some .int)) (a0 : Nat → Nat) (c_room : Int32) (c_courseKnown : Int32) (c_settledByKnown : Int32) (i1 : Int32) (i2 : Int32) (i3 : Int32) (i4 : Int32) (i5 : Int32) (o_r : Int32) (o_finding : Int32) (o_sh0 : jS4) (o_sh1 : jS4) (o_sh2 : jS4) (o_sh3 : jS4) (fei1 : i1 = (3 : Int32)) (fei3 : i3 = (3 : Int32))  : ∀ (c_finding : Int32) (c_sh0 : jS4) (c_sh1 : jS4) (c_sh2 : jS4) (c_sh3 : jS4), fX7_copy_101_v15 i1 i2 i3 i4 i5  c_finding c_sh0 c_sh1 c_sh2 c_sh3 = some (o_r, o_finding, o_sh0, o_sh1, o_sh2, o_sh3) → jw p l e rmX7_copy s m args below meth c (jQ below args s A D vwCl (tyz cyI cyJ cyS) 0 0 (some (.int o_r)) (uX7_copy cyI cyJ cyS a0 c_room o_finding c_courseKnown c_settledByKnown o_sh0.1 o_sh0.2.1 o_sh0.2.2.1 o_sh0.2.2.2 o_sh1.1 o_sh1.2.1 o_sh1.2.2.1 o_sh1.2.2.2 o_sh2.1 o_sh2.2.1 o_sh2.2.2.1 o_sh2.2.2.2 o_sh3.1 o_sh3.2.1 o_sh3.2.2.1 o_sh3.2.2.2)) A D vwCl 8 0 0 101 [(0, .ref (a0 0))] [] (uX7_copy cyI cyJ cyS a0 c_room c_finding c_courseKnown c_settledByKnown c_sh0.1 c_sh0.2.1 c_sh0.2.2.1 c_sh0.2.2.2 c_sh1.1 c_sh1.2.1 c_sh1.2.2.1 c_sh1.2.2.2 c_sh2.1 c_sh2.2.1 c_sh2.2.2.1 c_sh2.2.2.2 c_sh3.1 c_sh3.2.1 c_sh3.2.2.1 c_sh3.2.2.2) := by
  intro c_finding c_sh0 c_sh1 c_sh2 c_sh3 h
  unfold fX7_copy_101_v15 at h
  refine j_aload_n K 0 rfl dX7_copy_101 rfl ?_
  refine j_iconst (v := (2 : Int32)) K (by decide) dX7_copy_102 rfl ?_
  obtain ⟨r_141, c_finding_142, hc, h⟩ := bd2_some h
  refine j_callV (rest := []) (st1 := [.int r_141]) (ws' := (uX7_copy cyI cyJ cyS a0 c_room c_finding_142 c_courseKnown c_settledByKnown c_sh0.1 c_sh0.2.1 c_sh0.2.2.1 c_sh0.2.2.2 c_sh1.1 c_sh1.2.1 c_sh1.2.2.1 c_sh1.2.2.2 c_sh2.1 c_sh2.2.1 c_sh2.2.2.1 c_sh2.2.2.2 c_sh3.1 c_sh3.2.1 c_sh3.2.2.1 c_sh3.2.2.2)) (T := TX7) (N := 15) (ci := 7) K (ctX7_found l D cyI cyJ cyS a0 (2 : Int32) c_room c_courseKnown c_settledByKnown c_finding r_141 c_finding_142 hc) (gdV mcL mw_12_9 mw_12_10 mw_12_11 mw_1_2 mw_12_12) rfl ⟨rfl, rfl⟩ hyX7_found ⟨Nat.le_of_ble_eq_true rfl, Nat.le_of_ble_eq_true rfl, Nat.le_of_ble_eq_true rfl, Nat.le_of_ble_eq_true rfl⟩ [0] (by decide) rfl [some 0, none, none, none, none, none, none, none, none, none] (by decide) rfl rfl 0 rfl rfl rfl rfl (Nat.le_of_ble_eq_true rfl) dX7_copy_103 rfl rfl ?_
  obtain ⟨e1, g1⟩ := Prod.mk.inj (Option.some.inj h)
  subst e1
  obtain ⟨e2, g2⟩ := Prod.mk.inj g1
  subst e2
  obtain ⟨e3, g3⟩ := Prod.mk.inj g2
  subst e3
  obtain ⟨e4, g4⟩ := Prod.mk.inj g3
  subst e4
  obtain ⟨e5, g5⟩ := Prod.mk.inj g4
  subst e5
  subst g5
  exact j_iret K dX7_copy_106
set_option maxRecDepth 100000 in
set_option maxHeartbeats 4000000 in
theorem ctX7_copy (l : Launch) (D : va_G) (cyI cyJ cyS : ClassId) (a0 : Nat → Nat) (i1 : Int32) (i2 : Int32) (i3 : Int32) (i4 : Int32) (i5 : Int32) (c_room : Int32) (c_courseKnown : Int32) (c_settledByKnown : Int32) (c_finding : Int32) (c_sh0 : jS4) (c_sh1 : jS4) (c_sh2 : jS4) (c_sh3 : jS4) (o_r : Int32) (o_finding : Int32) (o_sh0 : jS4) (o_sh1 : jS4) (o_sh2 : jS4) (o_sh3 : jS4) (h : fX7_copy i1 i2 i3 i4 i5 c_finding c_sh0 c_sh1 c_sh2 c_sh3 = some (o_r, o_finding, o_sh0, o_sh1, o_sh2, o_sh3)) : jC l yX7_copy wdX7_copy rmX7_copy D vwCl (tyz cyI cyJ cyS) [.ref (a0 0), .int i1, .int i2, .int i3, .int i4, .int i5] (uX7_copy cyI cyJ cyS a0 c_room c_finding c_courseKnown c_settledByKnown c_sh0.1 c_sh0.2.1 c_sh0.2.2.1 c_sh0.2.2.2 c_sh1.1 c_sh1.2.1 c_sh1.2.2.1 c_sh1.2.2.2 c_sh2.1 c_sh2.2.1 c_sh2.2.2.1 c_sh2.2.2.2 c_sh3.1 c_sh3.2.1 c_sh3.2.2.1 c_sh3.2.2.2) (some (.int o_r)) (uX7_copy cyI cyJ cyS a0 c_room o_finding c_courseKnown c_settledByKnown o_sh0.1 o_sh0.2.1 o_sh0.2.2.1 o_sh0.2.2.2 o_sh1.1 o_sh1.2.1 o_sh1.2.2.1 o_sh1.2.2.2 o_sh2.1 o_sh2.2.1 o_sh2.2.2.1 o_sh2.2.2.2 o_sh3.1 o_sh3.2.1 o_sh3.2.2.1 o_sh3.2.2.2) := by
  refine jC_of (cc := cX7_copy) (nL := 8) (ret := (some .int)) (own := RX7) (lv := [(0, .ref (a0 0)), (1, .int i1), (2, .int i2), (3, .int i3), (4, .int i4), (5, .int i5)]) (by decide) rfl rfl (Nat.le_of_ble_eq_true rfl) rfl ?_
  intro p e s m args below meth c A K
  unfold fX7_copy at h
  refine j_iload_n K 1 rfl dX7_copy_0 rfl ?_
  refine j_iconst (v := (0 : Int32)) K (by decide) dX7_copy_1 rfl ?_
  refine j_iconst (v := (3 : Int32)) K (by decide) dX7_copy_2 rfl ?_
  obtain ⟨r_1, hc, h⟩ := bd1_some h
  refine j_callS (rest := []) (st1 := [.int r_1]) (ws' := (uX7_copy cyI cyJ cyS a0 c_room c_finding c_courseKnown c_settledByKnown c_sh0.1 c_sh0.2.1 c_sh0.2.2.1 c_sh0.2.2.2 c_sh1.1 c_sh1.2.1 c_sh1.2.2.1 c_sh1.2.2.2 c_sh2.1 c_sh2.2.1 c_sh2.2.2.1 c_sh2.2.2.2 c_sh3.1 c_sh3.2.1 c_sh3.2.2.1 c_sh3.2.2.2)) K (ctX7_within l D cyI cyJ cyS i1 (0 : Int32) (3 : Int32) r_1 hc) (gdS mcL mw_6_12 mw_6_13 mw_1_2 mw_6_14) rfl ⟨rfl, rfl⟩ hzX7_within ⟨Nat.le_of_ble_eq_true rfl, Nat.le_of_ble_eq_true rfl, Nat.le_of_ble_eq_true rfl, Nat.le_of_ble_eq_true rfl⟩ [] (by decide) rfl [none, none, none, none, none, none, none, none, none, none] (by decide) rfl rfl rfl rfl (Nat.le_of_ble_eq_true rfl) dX7_copy_3 rfl rfl ?_
  refine j_if_eq (tgt := 18) K dX7_copy_6 (by decide) rfl h (fun h => ?_) (fun h => ?_)
  · refine j_bipush (v := (-2 : Int32)) K (by decide) dX7_copy_18 rfl ?_
    obtain ⟨e1, g1⟩ := Prod.mk.inj (Option.some.inj h)
    subst e1
    obtain ⟨e2, g2⟩ := Prod.mk.inj g1
    subst e2
    obtain ⟨e3, g3⟩ := Prod.mk.inj g2
    subst e3
    obtain ⟨e4, g4⟩ := Prod.mk.inj g3
    subst e4
    obtain ⟨e5, g5⟩ := Prod.mk.inj g4
    subst e5
    subst g5
    exact j_iret K dX7_copy_20
  · refine j_iload_n K 3 rfl dX7_copy_9 rfl ?_
    refine j_iconst (v := (0 : Int32)) K (by decide) dX7_copy_10 rfl ?_
    refine j_iconst (v := (3 : Int32)) K (by decide) dX7_copy_11 rfl ?_
    obtain ⟨r_2, hc, h⟩ := bd1_some h
    refine j_callS (rest := []) (st1 := [.int r_2]) (ws' := (uX7_copy cyI cyJ cyS a0 c_room c_finding c_courseKnown c_settledByKnown c_sh0.1 c_sh0.2.1 c_sh0.2.2.1 c_sh0.2.2.2 c_sh1.1 c_sh1.2.1 c_sh1.2.2.1 c_sh1.2.2.2 c_sh2.1 c_sh2.2.1 c_sh2.2.2.1 c_sh2.2.2.2 c_sh3.1 c_sh3.2.1 c_sh3.2.2.1 c_sh3.2.2.2)) K (ctX7_within l D cyI cyJ cyS i3 (0 : Int32) (3 : Int32) r_2 hc) (gdS mcL mw_6_12 mw_6_13 mw_1_2 mw_6_14) rfl ⟨rfl, rfl⟩ hzX7_within ⟨Nat.le_of_ble_eq_true rfl, Nat.le_of_ble_eq_true rfl, Nat.le_of_ble_eq_true rfl, Nat.le_of_ble_eq_true rfl⟩ [] (by decide) rfl [none, none, none, none, none, none, none, none, none, none] (by decide) rfl rfl rfl rfl (Nat.le_of_ble_eq_true rfl) dX7_copy_12 rfl rfl ?_
    refine j_if_ne (tgt := 21) K dX7_copy_15 (by decide) rfl h (fun h => ?_) (fun h => ?_)
    · refine j_aload_n K 0 rfl dX7_copy_21 rfl ?_
      refine j_getf (C := RX7) (T := TX7) (N := 15) (ci := 7) K icX7 0 8 (List.mem_cons_of_mem _ mw_2_15) rfl rfl rfl (by decide) rfl dX7_copy_22 rfl ?_
      refine j_iload_n K 1 rfl dX7_copy_25 rfl ?_
      rcases sw4_some h with ⟨fei1, h⟩ | ⟨fei1, h⟩ | ⟨fei1, h⟩ | ⟨fei1, h⟩
      · refine j_aald (b := (a0 45)) K 1 2 rfl rfl (vin4_0 fei1) (by rw [fei1]; rfl) dX7_copy_26 rfl ?_
        refine j_astore (lv' := [(6, .ref (a0 45)), (0, .ref (a0 0)), (1, .int i1), (2, .int i2), (3, .int i3), (4, .int i4), (5, .int i5)]) K (by decide) rfl dX7_copy_27 rfl ?_
        refine j_aload_n K 1 rfl dX7_copy_29 rfl ?_
        refine j_getf (C := RX7) (T := TX7) (N := 15) (ci := 7) K icX7 0 8 (List.mem_cons_of_mem _ mw_2_15) rfl rfl rfl (by decide) rfl dX7_copy_30 rfl ?_
        refine j_iload_n K 4 rfl dX7_copy_33 rfl ?_
        rcases sw4_some h with ⟨fei3, h⟩ | ⟨fei3, h⟩ | ⟨fei3, h⟩ | ⟨fei3, h⟩
        · refine j_aald (b := (a0 45)) K 1 2 rfl rfl (vin4_0 fei3) (by rw [fei3]; rfl) dX7_copy_34 rfl ?_
          refine j_astore (lv' := [(7, .ref (a0 45)), (6, .ref (a0 45)), (0, .ref (a0 0)), (1, .int i1), (2, .int i2), (3, .int i3), (4, .int i4), (5, .int i5)]) K (by decide) rfl dX7_copy_35 rfl ?_
          refine j_aload K 1 rfl dX7_copy_37 rfl ?_
          refine j_getf (C := RX4) (T := TX4) (N := 4) (ci := 4) K icX4 2 3 (List.mem_cons_of_mem _ mw_12_6) rfl rfl rfl (by decide) rfl dX7_copy_39 rfl ?_
          refine j_if_ne (tgt := 53) K dX7_copy_42 (by decide) rfl h (fun h => ?_) (fun h => ?_)
          · refine j_sub [2] (lv' := [(0, .ref (a0 0))]) rfl ?_
            exact wX7_copy_53 K a0 c_room c_courseKnown c_settledByKnown i1 i2 i3 i4 i5 o_r o_finding o_sh0 o_sh1 o_sh2 o_sh3 fei1 fei3 c_finding c_sh0 c_sh1 c_sh2 c_sh3 h
          · refine j_aload K 0 rfl dX7_copy_45 rfl ?_
            refine j_getf (C := RX4) (T := TX4) (N := 4) (ci := 4) K icX4 2 3 (List.mem_cons_of_mem _ mw_12_6) rfl rfl rfl (by decide) rfl dX7_copy_47 rfl ?_
            refine j_if_eq (tgt := 59) K dX7_copy_50 (by decide) rfl h (fun h => ?_) (fun h => ?_)
            · refine j_aload K 1 rfl dX7_copy_59 rfl ?_
              refine j_getf (C := RX4) (T := TX4) (N := 4) (ci := 4) K icX4 2 1 (List.mem_cons_of_mem _ mw_38_22) rfl rfl rfl (by decide) rfl dX7_copy_61 rfl ?_
              refine j_aload K 0 rfl dX7_copy_64 rfl ?_
              refine j_getf (C := RX4) (T := TX4) (N := 4) (ci := 4) K icX4 2 1 (List.mem_cons_of_mem _ mw_38_22) rfl rfl rfl (by decide) rfl dX7_copy_66 rfl ?_
              refine j_icmp_eq (tgt := 78) K dX7_copy_69 (by decide) rfl h (fun h => ?_) (fun h => ?_)
              · refine j_aload K 1 rfl dX7_copy_78 rfl ?_
                refine j_iload_n K 4 rfl dX7_copy_80 rfl ?_
                refine j_iload K 7 rfl dX7_copy_81 rfl ?_
                obtain ⟨r_5, hc, h⟩ := bd1_some h
                refine j_callV (rest := []) (st1 := [.int r_5]) (ws' := (uX7_copy cyI cyJ cyS a0 c_room c_finding c_courseKnown c_settledByKnown c_sh0.1 c_sh0.2.1 c_sh0.2.2.1 c_sh0.2.2.2 c_sh1.1 c_sh1.2.1 c_sh1.2.2.1 c_sh1.2.2.2 c_sh2.1 c_sh2.2.1 c_sh2.2.2.1 c_sh2.2.2.2 c_sh3.1 c_sh3.2.1 c_sh3.2.2.1 c_sh3.2.2.2)) (T := TX4) (N := 4) (ci := 4) K (ctX4_hasSpan l D cyI cyJ cyS (fun k => a0 (k + 45)) i2 i5 c_sh0.1 c_sh0.2.2.1 c_sh0.2.1 r_5 hc) (gdV mcL mw_39_3 mw_39_4 mw_39_5 mw_3_0 mw_39_6) rfl ⟨rfl, rfl⟩ hyX4_hasSpan ⟨Nat.le_of_ble_eq_true rfl, Nat.le_of_ble_eq_true rfl, Nat.le_of_ble_eq_true rfl, Nat.le_of_ble_eq_true rfl⟩ [2] (by decide) rfl [none, none, some 0, none, none, none, none, none, none, none] (by decide) rfl rfl 2 rfl rfl rfl rfl (Nat.le_of_ble_eq_true rfl) dX7_copy_83 rfl rfl ?_
                refine j_if_eq (tgt := 101) K dX7_copy_86 (by decide) rfl h (fun h => ?_) (fun h => ?_)
                · refine j_sub [2] (lv' := [(0, .ref (a0 0))]) rfl ?_
                  exact wX7_copy_101 K a0 c_room c_courseKnown c_settledByKnown i1 i2 i3 i4 i5 o_r o_finding o_sh0 o_sh1 o_sh2 o_sh3 fei1 fei3 c_finding c_sh0 c_sh1 c_sh2 c_sh3 h
                · refine j_aload K 0 rfl dX7_copy_89 rfl ?_
                  refine j_iload K 6 rfl dX7_copy_91 rfl ?_
                  refine j_iload K 7 rfl dX7_copy_93 rfl ?_
                  obtain ⟨r_8, hc, h⟩ := bd1_some h
                  refine j_callV (rest := []) (st1 := [.int r_8]) (ws' := (uX7_copy cyI cyJ cyS a0 c_room c_finding c_courseKnown c_settledByKnown c_sh0.1 c_sh0.2.1 c_sh0.2.2.1 c_sh0.2.2.2 c_sh1.1 c_sh1.2.1 c_sh1.2.2.1 c_sh1.2.2.2 c_sh2.1 c_sh2.2.1 c_sh2.2.2.1 c_sh2.2.2.2 c_sh3.1 c_sh3.2.1 c_sh3.2.2.1 c_sh3.2.2.2)) (T := TX4) (N := 4) (ci := 4) K (ctX4_hasSpan l D cyI cyJ cyS (fun k => a0 (k + 45)) i4 i5 c_sh0.1 c_sh0.2.2.1 c_sh0.2.1 r_8 hc) (gdV mcL mw_39_3 mw_39_4 mw_39_5 mw_3_0 mw_39_6) rfl ⟨rfl, rfl⟩ hyX4_hasSpan ⟨Nat.le_of_ble_eq_true rfl, Nat.le_of_ble_eq_true rfl, Nat.le_of_ble_eq_true rfl, Nat.le_of_ble_eq_true rfl⟩ [2] (by decide) rfl [none, none, some 0, none, none, none, none, none, none, none] (by decide) rfl rfl 2 rfl rfl rfl rfl (Nat.le_of_ble_eq_true rfl) dX7_copy_95 rfl rfl ?_
                  refine j_if_ne (tgt := 107) K dX7_copy_98 (by decide) rfl h (fun h => ?_) (fun h => ?_)
                  · refine j_aload K 1 rfl dX7_copy_107 rfl ?_
                    refine j_getf (C := RX4) (T := TX4) (N := 4) (ci := 4) K icX4 2 0 (List.mem_cons_of_mem _ mw_12_7) rfl rfl rfl (by decide) rfl dX7_copy_109 rfl ?_
                    refine j_iload_n K 4 rfl dX7_copy_112 rfl ?_
                    refine j_aload K 0 rfl dX7_copy_113 rfl ?_
                    refine j_getf (C := RX4) (T := TX4) (N := 4) (ci := 4) K icX4 2 0 (List.mem_cons_of_mem _ mw_12_7) rfl rfl rfl (by decide) rfl dX7_copy_115 rfl ?_
                    refine j_iload K 6 rfl dX7_copy_118 rfl ?_
                    refine j_iload K 7 rfl dX7_copy_120 rfl ?_
                    refine j_copyi K 3 3 0 (fun z => (uX7_copy cyI cyJ cyS a0 c_room c_finding c_courseKnown c_settledByKnown c_sh0.1 c_sh0.2.1 c_sh0.2.2.1 z c_sh1.1 c_sh1.2.1 c_sh1.2.2.1 c_sh1.2.2.2 c_sh2.1 c_sh2.2.1 c_sh2.2.2.1 c_sh2.2.2.2 c_sh3.1 c_sh3.2.1 c_sh3.2.2.1 c_sh3.2.2.2)) (List.mem_cons_of_mem _ mw_38_23) (List.mem_cons_of_mem _ mw_39_0) (List.mem_cons_of_mem _ mw_39_1) (List.mem_cons_of_mem _ mw_39_2) rfl rfl rfl (fun _ => rfl) ⟨Nat.le_of_ble_eq_true rfl, Nat.le_of_ble_eq_true rfl⟩ dX7_copy_122 rfl h (fun c_sh0_items_9 h => ?_)
                    refine j_iconst (v := (1 : Int32)) K (by decide) dX7_copy_125 rfl ?_
                    obtain ⟨e1, g1⟩ := Prod.mk.inj (Option.some.inj h)
                    subst e1
                    obtain ⟨e2, g2⟩ := Prod.mk.inj g1
                    subst e2
                    obtain ⟨e3, g3⟩ := Prod.mk.inj g2
                    subst e3
                    obtain ⟨e4, g4⟩ := Prod.mk.inj g3
                    subst e4
                    obtain ⟨e5, g5⟩ := Prod.mk.inj g4
                    subst e5
                    subst g5
                    exact j_iret K dX7_copy_126
                  · refine j_sub [2] (lv' := [(0, .ref (a0 0))]) rfl ?_
                    exact wX7_copy_101 K a0 c_room c_courseKnown c_settledByKnown i1 i2 i3 i4 i5 o_r o_finding o_sh0 o_sh1 o_sh2 o_sh3 fei1 fei3 c_finding c_sh0 c_sh1 c_sh2 c_sh3 h
              · refine j_aload_n K 2 rfl dX7_copy_72 rfl ?_
                refine j_iconst (v := (4 : Int32)) K (by decide) dX7_copy_73 rfl ?_
                obtain ⟨r_10, c_finding_11, hc, h⟩ := bd2_some h
                refine j_callV (rest := []) (st1 := [.int r_10]) (ws' := (uX7_copy cyI cyJ cyS a0 c_room c_finding_11 c_courseKnown c_settledByKnown c_sh0.1 c_sh0.2.1 c_sh0.2.2.1 c_sh0.2.2.2 c_sh1.1 c_sh1.2.1 c_sh1.2.2.1 c_sh1.2.2.2 c_sh2.1 c_sh2.2.1 c_sh2.2.2.1 c_sh2.2.2.2 c_sh3.1 c_sh3.2.1 c_sh3.2.2.1 c_sh3.2.2.2)) (T := TX7) (N := 15) (ci := 7) K (ctX7_found l D cyI cyJ cyS a0 (4 : Int32) c_room c_courseKnown c_settledByKnown c_finding r_10 c_finding_11 hc) (gdV mcL mw_12_9 mw_12_10 mw_12_11 mw_1_2 mw_12_12) rfl ⟨rfl, rfl⟩ hyX7_found ⟨Nat.le_of_ble_eq_true rfl, Nat.le_of_ble_eq_true rfl, Nat.le_of_ble_eq_true rfl, Nat.le_of_ble_eq_true rfl⟩ [0] (by decide) rfl [some 0, none, none, none, none, none, none, none, none, none] (by decide) rfl rfl 0 rfl rfl rfl rfl (Nat.le_of_ble_eq_true rfl) dX7_copy_74 rfl rfl ?_
                obtain ⟨e1, g1⟩ := Prod.mk.inj (Option.some.inj h)
                subst e1
                obtain ⟨e2, g2⟩ := Prod.mk.inj g1
                subst e2
                obtain ⟨e3, g3⟩ := Prod.mk.inj g2
                subst e3
                obtain ⟨e4, g4⟩ := Prod.mk.inj g3
                subst e4
                obtain ⟨e5, g5⟩ := Prod.mk.inj g4
                subst e5
                subst g5
                exact j_iret K dX7_copy_77
            · refine j_sub [2] (lv' := [(0, .ref (a0 0))]) rfl ?_
              exact wX7_copy_53 K a0 c_room c_courseKnown c_settledByKnown i1 i2 i3 i4 i5 o_r o_finding o_sh0 o_sh1 o_sh2 o_sh3 fei1 fei3 c_finding c_sh0 c_sh1 c_sh2 c_sh3 h
        · refine j_aald (b := (a0 47)) K 1 2 rfl rfl (vin4_1 fei3) (by rw [fei3]; rfl) dX7_copy_34 rfl ?_
          refine j_astore (lv' := [(7, .ref (a0 47)), (6, .ref (a0 45)), (0, .ref (a0 0)), (1, .int i1), (2, .int i2), (3, .int i3), (4, .int i4), (5, .int i5)]) K (by decide) rfl dX7_copy_35 rfl ?_
          refine j_aload K 1 rfl dX7_copy_37 rfl ?_
          refine j_getf (C := RX4) (T := TX4) (N := 4) (ci := 4) K icX4 2 3 (List.mem_cons_of_mem _ mw_12_6) rfl rfl rfl (by decide) rfl dX7_copy_39 rfl ?_
          refine j_if_ne (tgt := 53) K dX7_copy_42 (by decide) rfl h (fun h => ?_) (fun h => ?_)
          · refine j_sub [2] (lv' := [(0, .ref (a0 0))]) rfl ?_
            exact wX7_copy_53_v1 K a0 c_room c_courseKnown c_settledByKnown i1 i2 i3 i4 i5 o_r o_finding o_sh0 o_sh1 o_sh2 o_sh3 fei1 fei3 c_finding c_sh0 c_sh1 c_sh2 c_sh3 h
          · refine j_aload K 0 rfl dX7_copy_45 rfl ?_
            refine j_getf (C := RX4) (T := TX4) (N := 4) (ci := 4) K icX4 4 3 (List.mem_cons_of_mem _ mw_12_6) rfl rfl rfl (by decide) rfl dX7_copy_47 rfl ?_
            refine j_if_eq (tgt := 59) K dX7_copy_50 (by decide) rfl h (fun h => ?_) (fun h => ?_)
            · refine j_aload K 1 rfl dX7_copy_59 rfl ?_
              refine j_getf (C := RX4) (T := TX4) (N := 4) (ci := 4) K icX4 2 1 (List.mem_cons_of_mem _ mw_38_22) rfl rfl rfl (by decide) rfl dX7_copy_61 rfl ?_
              refine j_aload K 0 rfl dX7_copy_64 rfl ?_
              refine j_getf (C := RX4) (T := TX4) (N := 4) (ci := 4) K icX4 4 1 (List.mem_cons_of_mem _ mw_38_22) rfl rfl rfl (by decide) rfl dX7_copy_66 rfl ?_
              refine j_icmp_eq (tgt := 78) K dX7_copy_69 (by decide) rfl h (fun h => ?_) (fun h => ?_)
              · refine j_aload K 1 rfl dX7_copy_78 rfl ?_
                refine j_iload_n K 4 rfl dX7_copy_80 rfl ?_
                refine j_iload K 7 rfl dX7_copy_81 rfl ?_
                obtain ⟨r_14, hc, h⟩ := bd1_some h
                refine j_callV (rest := []) (st1 := [.int r_14]) (ws' := (uX7_copy cyI cyJ cyS a0 c_room c_finding c_courseKnown c_settledByKnown c_sh0.1 c_sh0.2.1 c_sh0.2.2.1 c_sh0.2.2.2 c_sh1.1 c_sh1.2.1 c_sh1.2.2.1 c_sh1.2.2.2 c_sh2.1 c_sh2.2.1 c_sh2.2.2.1 c_sh2.2.2.2 c_sh3.1 c_sh3.2.1 c_sh3.2.2.1 c_sh3.2.2.2)) (T := TX4) (N := 4) (ci := 4) K (ctX4_hasSpan l D cyI cyJ cyS (fun k => a0 (k + 45)) i2 i5 c_sh0.1 c_sh0.2.2.1 c_sh0.2.1 r_14 hc) (gdV mcL mw_39_3 mw_39_4 mw_39_5 mw_3_0 mw_39_6) rfl ⟨rfl, rfl⟩ hyX4_hasSpan ⟨Nat.le_of_ble_eq_true rfl, Nat.le_of_ble_eq_true rfl, Nat.le_of_ble_eq_true rfl, Nat.le_of_ble_eq_true rfl⟩ [2] (by decide) rfl [none, none, some 0, none, none, none, none, none, none, none] (by decide) rfl rfl 2 rfl rfl rfl rfl (Nat.le_of_ble_eq_true rfl) dX7_copy_83 rfl rfl ?_
                refine j_if_eq (tgt := 101) K dX7_copy_86 (by decide) rfl h (fun h => ?_) (fun h => ?_)
                · refine j_sub [2] (lv' := [(0, .ref (a0 0))]) rfl ?_
                  exact wX7_copy_101_v1 K a0 c_room c_courseKnown c_settledByKnown i1 i2 i3 i4 i5 o_r o_finding o_sh0 o_sh1 o_sh2 o_sh3 fei1 fei3 c_finding c_sh0 c_sh1 c_sh2 c_sh3 h
                · refine j_aload K 0 rfl dX7_copy_89 rfl ?_
                  refine j_iload K 6 rfl dX7_copy_91 rfl ?_
                  refine j_iload K 7 rfl dX7_copy_93 rfl ?_
                  obtain ⟨r_17, hc, h⟩ := bd1_some h
                  refine j_callV (rest := []) (st1 := [.int r_17]) (ws' := (uX7_copy cyI cyJ cyS a0 c_room c_finding c_courseKnown c_settledByKnown c_sh0.1 c_sh0.2.1 c_sh0.2.2.1 c_sh0.2.2.2 c_sh1.1 c_sh1.2.1 c_sh1.2.2.1 c_sh1.2.2.2 c_sh2.1 c_sh2.2.1 c_sh2.2.2.1 c_sh2.2.2.2 c_sh3.1 c_sh3.2.1 c_sh3.2.2.1 c_sh3.2.2.2)) (T := TX4) (N := 4) (ci := 4) K (ctX4_hasSpan l D cyI cyJ cyS (fun k => a0 (k + 47)) i4 i5 c_sh1.1 c_sh1.2.2.1 c_sh1.2.1 r_17 hc) (gdV mcL mw_39_3 mw_39_4 mw_39_5 mw_3_0 mw_39_6) rfl ⟨rfl, rfl⟩ hyX4_hasSpan ⟨Nat.le_of_ble_eq_true rfl, Nat.le_of_ble_eq_true rfl, Nat.le_of_ble_eq_true rfl, Nat.le_of_ble_eq_true rfl⟩ [4] (by decide) rfl [none, none, none, none, some 0, none, none, none, none, none] (by decide) rfl rfl 4 rfl rfl rfl rfl (Nat.le_of_ble_eq_true rfl) dX7_copy_95 rfl rfl ?_
                  refine j_if_ne (tgt := 107) K dX7_copy_98 (by decide) rfl h (fun h => ?_) (fun h => ?_)
                  · refine j_aload K 1 rfl dX7_copy_107 rfl ?_
                    refine j_getf (C := RX4) (T := TX4) (N := 4) (ci := 4) K icX4 2 0 (List.mem_cons_of_mem _ mw_12_7) rfl rfl rfl (by decide) rfl dX7_copy_109 rfl ?_
                    refine j_iload_n K 4 rfl dX7_copy_112 rfl ?_
                    refine j_aload K 0 rfl dX7_copy_113 rfl ?_
                    refine j_getf (C := RX4) (T := TX4) (N := 4) (ci := 4) K icX4 4 0 (List.mem_cons_of_mem _ mw_12_7) rfl rfl rfl (by decide) rfl dX7_copy_115 rfl ?_
                    refine j_iload K 6 rfl dX7_copy_118 rfl ?_
                    refine j_iload K 7 rfl dX7_copy_120 rfl ?_
                    refine j_copyi K 3 5 0 (fun z => (uX7_copy cyI cyJ cyS a0 c_room c_finding c_courseKnown c_settledByKnown c_sh0.1 c_sh0.2.1 c_sh0.2.2.1 c_sh0.2.2.2 c_sh1.1 c_sh1.2.1 c_sh1.2.2.1 z c_sh2.1 c_sh2.2.1 c_sh2.2.2.1 c_sh2.2.2.2 c_sh3.1 c_sh3.2.1 c_sh3.2.2.1 c_sh3.2.2.2)) (List.mem_cons_of_mem _ mw_38_23) (List.mem_cons_of_mem _ mw_39_0) (List.mem_cons_of_mem _ mw_39_1) (List.mem_cons_of_mem _ mw_39_2) rfl rfl rfl (fun _ => rfl) ⟨Nat.le_of_ble_eq_true rfl, Nat.le_of_ble_eq_true rfl⟩ dX7_copy_122 rfl h (fun c_sh1_items_18 h => ?_)
                    refine j_iconst (v := (1 : Int32)) K (by decide) dX7_copy_125 rfl ?_
                    obtain ⟨e1, g1⟩ := Prod.mk.inj (Option.some.inj h)
                    subst e1
                    obtain ⟨e2, g2⟩ := Prod.mk.inj g1
                    subst e2
                    obtain ⟨e3, g3⟩ := Prod.mk.inj g2
                    subst e3
                    obtain ⟨e4, g4⟩ := Prod.mk.inj g3
                    subst e4
                    obtain ⟨e5, g5⟩ := Prod.mk.inj g4
                    subst e5
                    subst g5
                    exact j_iret K dX7_copy_126
                  · refine j_sub [2] (lv' := [(0, .ref (a0 0))]) rfl ?_
                    exact wX7_copy_101_v1 K a0 c_room c_courseKnown c_settledByKnown i1 i2 i3 i4 i5 o_r o_finding o_sh0 o_sh1 o_sh2 o_sh3 fei1 fei3 c_finding c_sh0 c_sh1 c_sh2 c_sh3 h
              · refine j_aload_n K 2 rfl dX7_copy_72 rfl ?_
                refine j_iconst (v := (4 : Int32)) K (by decide) dX7_copy_73 rfl ?_
                obtain ⟨r_19, c_finding_20, hc, h⟩ := bd2_some h
                refine j_callV (rest := []) (st1 := [.int r_19]) (ws' := (uX7_copy cyI cyJ cyS a0 c_room c_finding_20 c_courseKnown c_settledByKnown c_sh0.1 c_sh0.2.1 c_sh0.2.2.1 c_sh0.2.2.2 c_sh1.1 c_sh1.2.1 c_sh1.2.2.1 c_sh1.2.2.2 c_sh2.1 c_sh2.2.1 c_sh2.2.2.1 c_sh2.2.2.2 c_sh3.1 c_sh3.2.1 c_sh3.2.2.1 c_sh3.2.2.2)) (T := TX7) (N := 15) (ci := 7) K (ctX7_found l D cyI cyJ cyS a0 (4 : Int32) c_room c_courseKnown c_settledByKnown c_finding r_19 c_finding_20 hc) (gdV mcL mw_12_9 mw_12_10 mw_12_11 mw_1_2 mw_12_12) rfl ⟨rfl, rfl⟩ hyX7_found ⟨Nat.le_of_ble_eq_true rfl, Nat.le_of_ble_eq_true rfl, Nat.le_of_ble_eq_true rfl, Nat.le_of_ble_eq_true rfl⟩ [0] (by decide) rfl [some 0, none, none, none, none, none, none, none, none, none] (by decide) rfl rfl 0 rfl rfl rfl rfl (Nat.le_of_ble_eq_true rfl) dX7_copy_74 rfl rfl ?_
                obtain ⟨e1, g1⟩ := Prod.mk.inj (Option.some.inj h)
                subst e1
                obtain ⟨e2, g2⟩ := Prod.mk.inj g1
                subst e2
                obtain ⟨e3, g3⟩ := Prod.mk.inj g2
                subst e3
                obtain ⟨e4, g4⟩ := Prod.mk.inj g3
                subst e4
                obtain ⟨e5, g5⟩ := Prod.mk.inj g4
                subst e5
                subst g5
                exact j_iret K dX7_copy_77
            · refine j_sub [2] (lv' := [(0, .ref (a0 0))]) rfl ?_
              exact wX7_copy_53_v1 K a0 c_room c_courseKnown c_settledByKnown i1 i2 i3 i4 i5 o_r o_finding o_sh0 o_sh1 o_sh2 o_sh3 fei1 fei3 c_finding c_sh0 c_sh1 c_sh2 c_sh3 h
        · refine j_aald (b := (a0 49)) K 1 2 rfl rfl (vin4_2 fei3) (by rw [fei3]; rfl) dX7_copy_34 rfl ?_
          refine j_astore (lv' := [(7, .ref (a0 49)), (6, .ref (a0 45)), (0, .ref (a0 0)), (1, .int i1), (2, .int i2), (3, .int i3), (4, .int i4), (5, .int i5)]) K (by decide) rfl dX7_copy_35 rfl ?_
          refine j_aload K 1 rfl dX7_copy_37 rfl ?_
          refine j_getf (C := RX4) (T := TX4) (N := 4) (ci := 4) K icX4 2 3 (List.mem_cons_of_mem _ mw_12_6) rfl rfl rfl (by decide) rfl dX7_copy_39 rfl ?_
          refine j_if_ne (tgt := 53) K dX7_copy_42 (by decide) rfl h (fun h => ?_) (fun h => ?_)
          · refine j_sub [2] (lv' := [(0, .ref (a0 0))]) rfl ?_
            exact wX7_copy_53_v2 K a0 c_room c_courseKnown c_settledByKnown i1 i2 i3 i4 i5 o_r o_finding o_sh0 o_sh1 o_sh2 o_sh3 fei1 fei3 c_finding c_sh0 c_sh1 c_sh2 c_sh3 h
          · refine j_aload K 0 rfl dX7_copy_45 rfl ?_
            refine j_getf (C := RX4) (T := TX4) (N := 4) (ci := 4) K icX4 6 3 (List.mem_cons_of_mem _ mw_12_6) rfl rfl rfl (by decide) rfl dX7_copy_47 rfl ?_
            refine j_if_eq (tgt := 59) K dX7_copy_50 (by decide) rfl h (fun h => ?_) (fun h => ?_)
            · refine j_aload K 1 rfl dX7_copy_59 rfl ?_
              refine j_getf (C := RX4) (T := TX4) (N := 4) (ci := 4) K icX4 2 1 (List.mem_cons_of_mem _ mw_38_22) rfl rfl rfl (by decide) rfl dX7_copy_61 rfl ?_
              refine j_aload K 0 rfl dX7_copy_64 rfl ?_
              refine j_getf (C := RX4) (T := TX4) (N := 4) (ci := 4) K icX4 6 1 (List.mem_cons_of_mem _ mw_38_22) rfl rfl rfl (by decide) rfl dX7_copy_66 rfl ?_
              refine j_icmp_eq (tgt := 78) K dX7_copy_69 (by decide) rfl h (fun h => ?_) (fun h => ?_)
              · refine j_aload K 1 rfl dX7_copy_78 rfl ?_
                refine j_iload_n K 4 rfl dX7_copy_80 rfl ?_
                refine j_iload K 7 rfl dX7_copy_81 rfl ?_
                obtain ⟨r_23, hc, h⟩ := bd1_some h
                refine j_callV (rest := []) (st1 := [.int r_23]) (ws' := (uX7_copy cyI cyJ cyS a0 c_room c_finding c_courseKnown c_settledByKnown c_sh0.1 c_sh0.2.1 c_sh0.2.2.1 c_sh0.2.2.2 c_sh1.1 c_sh1.2.1 c_sh1.2.2.1 c_sh1.2.2.2 c_sh2.1 c_sh2.2.1 c_sh2.2.2.1 c_sh2.2.2.2 c_sh3.1 c_sh3.2.1 c_sh3.2.2.1 c_sh3.2.2.2)) (T := TX4) (N := 4) (ci := 4) K (ctX4_hasSpan l D cyI cyJ cyS (fun k => a0 (k + 45)) i2 i5 c_sh0.1 c_sh0.2.2.1 c_sh0.2.1 r_23 hc) (gdV mcL mw_39_3 mw_39_4 mw_39_5 mw_3_0 mw_39_6) rfl ⟨rfl, rfl⟩ hyX4_hasSpan ⟨Nat.le_of_ble_eq_true rfl, Nat.le_of_ble_eq_true rfl, Nat.le_of_ble_eq_true rfl, Nat.le_of_ble_eq_true rfl⟩ [2] (by decide) rfl [none, none, some 0, none, none, none, none, none, none, none] (by decide) rfl rfl 2 rfl rfl rfl rfl (Nat.le_of_ble_eq_true rfl) dX7_copy_83 rfl rfl ?_
                refine j_if_eq (tgt := 101) K dX7_copy_86 (by decide) rfl h (fun h => ?_) (fun h => ?_)
                · refine j_sub [2] (lv' := [(0, .ref (a0 0))]) rfl ?_
                  exact wX7_copy_101_v2 K a0 c_room c_courseKnown c_settledByKnown i1 i2 i3 i4 i5 o_r o_finding o_sh0 o_sh1 o_sh2 o_sh3 fei1 fei3 c_finding c_sh0 c_sh1 c_sh2 c_sh3 h
                · refine j_aload K 0 rfl dX7_copy_89 rfl ?_
                  refine j_iload K 6 rfl dX7_copy_91 rfl ?_
                  refine j_iload K 7 rfl dX7_copy_93 rfl ?_
                  obtain ⟨r_26, hc, h⟩ := bd1_some h
                  refine j_callV (rest := []) (st1 := [.int r_26]) (ws' := (uX7_copy cyI cyJ cyS a0 c_room c_finding c_courseKnown c_settledByKnown c_sh0.1 c_sh0.2.1 c_sh0.2.2.1 c_sh0.2.2.2 c_sh1.1 c_sh1.2.1 c_sh1.2.2.1 c_sh1.2.2.2 c_sh2.1 c_sh2.2.1 c_sh2.2.2.1 c_sh2.2.2.2 c_sh3.1 c_sh3.2.1 c_sh3.2.2.1 c_sh3.2.2.2)) (T := TX4) (N := 4) (ci := 4) K (ctX4_hasSpan l D cyI cyJ cyS (fun k => a0 (k + 49)) i4 i5 c_sh2.1 c_sh2.2.2.1 c_sh2.2.1 r_26 hc) (gdV mcL mw_39_3 mw_39_4 mw_39_5 mw_3_0 mw_39_6) rfl ⟨rfl, rfl⟩ hyX4_hasSpan ⟨Nat.le_of_ble_eq_true rfl, Nat.le_of_ble_eq_true rfl, Nat.le_of_ble_eq_true rfl, Nat.le_of_ble_eq_true rfl⟩ [6] (by decide) rfl [none, none, none, none, none, none, some 0, none, none, none] (by decide) rfl rfl 6 rfl rfl rfl rfl (Nat.le_of_ble_eq_true rfl) dX7_copy_95 rfl rfl ?_
                  refine j_if_ne (tgt := 107) K dX7_copy_98 (by decide) rfl h (fun h => ?_) (fun h => ?_)
                  · refine j_aload K 1 rfl dX7_copy_107 rfl ?_
                    refine j_getf (C := RX4) (T := TX4) (N := 4) (ci := 4) K icX4 2 0 (List.mem_cons_of_mem _ mw_12_7) rfl rfl rfl (by decide) rfl dX7_copy_109 rfl ?_
                    refine j_iload_n K 4 rfl dX7_copy_112 rfl ?_
                    refine j_aload K 0 rfl dX7_copy_113 rfl ?_
                    refine j_getf (C := RX4) (T := TX4) (N := 4) (ci := 4) K icX4 6 0 (List.mem_cons_of_mem _ mw_12_7) rfl rfl rfl (by decide) rfl dX7_copy_115 rfl ?_
                    refine j_iload K 6 rfl dX7_copy_118 rfl ?_
                    refine j_iload K 7 rfl dX7_copy_120 rfl ?_
                    refine j_copyi K 3 7 0 (fun z => (uX7_copy cyI cyJ cyS a0 c_room c_finding c_courseKnown c_settledByKnown c_sh0.1 c_sh0.2.1 c_sh0.2.2.1 c_sh0.2.2.2 c_sh1.1 c_sh1.2.1 c_sh1.2.2.1 c_sh1.2.2.2 c_sh2.1 c_sh2.2.1 c_sh2.2.2.1 z c_sh3.1 c_sh3.2.1 c_sh3.2.2.1 c_sh3.2.2.2)) (List.mem_cons_of_mem _ mw_38_23) (List.mem_cons_of_mem _ mw_39_0) (List.mem_cons_of_mem _ mw_39_1) (List.mem_cons_of_mem _ mw_39_2) rfl rfl rfl (fun _ => rfl) ⟨Nat.le_of_ble_eq_true rfl, Nat.le_of_ble_eq_true rfl⟩ dX7_copy_122 rfl h (fun c_sh2_items_27 h => ?_)
                    refine j_iconst (v := (1 : Int32)) K (by decide) dX7_copy_125 rfl ?_
                    obtain ⟨e1, g1⟩ := Prod.mk.inj (Option.some.inj h)
                    subst e1
                    obtain ⟨e2, g2⟩ := Prod.mk.inj g1
                    subst e2
                    obtain ⟨e3, g3⟩ := Prod.mk.inj g2
                    subst e3
                    obtain ⟨e4, g4⟩ := Prod.mk.inj g3
                    subst e4
                    obtain ⟨e5, g5⟩ := Prod.mk.inj g4
                    subst e5
                    subst g5
                    exact j_iret K dX7_copy_126
                  · refine j_sub [2] (lv' := [(0, .ref (a0 0))]) rfl ?_
                    exact wX7_copy_101_v2 K a0 c_room c_courseKnown c_settledByKnown i1 i2 i3 i4 i5 o_r o_finding o_sh0 o_sh1 o_sh2 o_sh3 fei1 fei3 c_finding c_sh0 c_sh1 c_sh2 c_sh3 h
              · refine j_aload_n K 2 rfl dX7_copy_72 rfl ?_
                refine j_iconst (v := (4 : Int32)) K (by decide) dX7_copy_73 rfl ?_
                obtain ⟨r_28, c_finding_29, hc, h⟩ := bd2_some h
                refine j_callV (rest := []) (st1 := [.int r_28]) (ws' := (uX7_copy cyI cyJ cyS a0 c_room c_finding_29 c_courseKnown c_settledByKnown c_sh0.1 c_sh0.2.1 c_sh0.2.2.1 c_sh0.2.2.2 c_sh1.1 c_sh1.2.1 c_sh1.2.2.1 c_sh1.2.2.2 c_sh2.1 c_sh2.2.1 c_sh2.2.2.1 c_sh2.2.2.2 c_sh3.1 c_sh3.2.1 c_sh3.2.2.1 c_sh3.2.2.2)) (T := TX7) (N := 15) (ci := 7) K (ctX7_found l D cyI cyJ cyS a0 (4 : Int32) c_room c_courseKnown c_settledByKnown c_finding r_28 c_finding_29 hc) (gdV mcL mw_12_9 mw_12_10 mw_12_11 mw_1_2 mw_12_12) rfl ⟨rfl, rfl⟩ hyX7_found ⟨Nat.le_of_ble_eq_true rfl, Nat.le_of_ble_eq_true rfl, Nat.le_of_ble_eq_true rfl, Nat.le_of_ble_eq_true rfl⟩ [0] (by decide) rfl [some 0, none, none, none, none, none, none, none, none, none] (by decide) rfl rfl 0 rfl rfl rfl rfl (Nat.le_of_ble_eq_true rfl) dX7_copy_74 rfl rfl ?_
                obtain ⟨e1, g1⟩ := Prod.mk.inj (Option.some.inj h)
                subst e1
                obtain ⟨e2, g2⟩ := Prod.mk.inj g1
                subst e2
                obtain ⟨e3, g3⟩ := Prod.mk.inj g2
                subst e3
                obtain ⟨e4, g4⟩ := Prod.mk.inj g3
                subst e4
                obtain ⟨e5, g5⟩ := Prod.mk.inj g4
                subst e5
                subst g5
                exact j_iret K dX7_copy_77
            · refine j_sub [2] (lv' := [(0, .ref (a0 0))]) rfl ?_
              exact wX7_copy_53_v2 K a0 c_room c_courseKnown c_settledByKnown i1 i2 i3 i4 i5 o_r o_finding o_sh0 o_sh1 o_sh2 o_sh3 fei1 fei3 c_finding c_sh0 c_sh1 c_sh2 c_sh3 h
        · refine j_aald (b := (a0 51)) K 1 2 rfl rfl (vin4_3 fei3) (by rw [fei3]; rfl) dX7_copy_34 rfl ?_
          refine j_astore (lv' := [(7, .ref (a0 51)), (6, .ref (a0 45)), (0, .ref (a0 0)), (1, .int i1), (2, .int i2), (3, .int i3), (4, .int i4), (5, .int i5)]) K (by decide) rfl dX7_copy_35 rfl ?_
          refine j_aload K 1 rfl dX7_copy_37 rfl ?_
          refine j_getf (C := RX4) (T := TX4) (N := 4) (ci := 4) K icX4 2 3 (List.mem_cons_of_mem _ mw_12_6) rfl rfl rfl (by decide) rfl dX7_copy_39 rfl ?_
          refine j_if_ne (tgt := 53) K dX7_copy_42 (by decide) rfl h (fun h => ?_) (fun h => ?_)
          · refine j_sub [2] (lv' := [(0, .ref (a0 0))]) rfl ?_
            exact wX7_copy_53_v3 K a0 c_room c_courseKnown c_settledByKnown i1 i2 i3 i4 i5 o_r o_finding o_sh0 o_sh1 o_sh2 o_sh3 fei1 fei3 c_finding c_sh0 c_sh1 c_sh2 c_sh3 h
          · refine j_aload K 0 rfl dX7_copy_45 rfl ?_
            refine j_getf (C := RX4) (T := TX4) (N := 4) (ci := 4) K icX4 8 3 (List.mem_cons_of_mem _ mw_12_6) rfl rfl rfl (by decide) rfl dX7_copy_47 rfl ?_
            refine j_if_eq (tgt := 59) K dX7_copy_50 (by decide) rfl h (fun h => ?_) (fun h => ?_)
            · refine j_aload K 1 rfl dX7_copy_59 rfl ?_
              refine j_getf (C := RX4) (T := TX4) (N := 4) (ci := 4) K icX4 2 1 (List.mem_cons_of_mem _ mw_38_22) rfl rfl rfl (by decide) rfl dX7_copy_61 rfl ?_
              refine j_aload K 0 rfl dX7_copy_64 rfl ?_
              refine j_getf (C := RX4) (T := TX4) (N := 4) (ci := 4) K icX4 8 1 (List.mem_cons_of_mem _ mw_38_22) rfl rfl rfl (by decide) rfl dX7_copy_66 rfl ?_
              refine j_icmp_eq (tgt := 78) K dX7_copy_69 (by decide) rfl h (fun h => ?_) (fun h => ?_)
              · refine j_aload K 1 rfl dX7_copy_78 rfl ?_
                refine j_iload_n K 4 rfl dX7_copy_80 rfl ?_
                refine j_iload K 7 rfl dX7_copy_81 rfl ?_
                obtain ⟨r_32, hc, h⟩ := bd1_some h
                refine j_callV (rest := []) (st1 := [.int r_32]) (ws' := (uX7_copy cyI cyJ cyS a0 c_room c_finding c_courseKnown c_settledByKnown c_sh0.1 c_sh0.2.1 c_sh0.2.2.1 c_sh0.2.2.2 c_sh1.1 c_sh1.2.1 c_sh1.2.2.1 c_sh1.2.2.2 c_sh2.1 c_sh2.2.1 c_sh2.2.2.1 c_sh2.2.2.2 c_sh3.1 c_sh3.2.1 c_sh3.2.2.1 c_sh3.2.2.2)) (T := TX4) (N := 4) (ci := 4) K (ctX4_hasSpan l D cyI cyJ cyS (fun k => a0 (k + 45)) i2 i5 c_sh0.1 c_sh0.2.2.1 c_sh0.2.1 r_32 hc) (gdV mcL mw_39_3 mw_39_4 mw_39_5 mw_3_0 mw_39_6) rfl ⟨rfl, rfl⟩ hyX4_hasSpan ⟨Nat.le_of_ble_eq_true rfl, Nat.le_of_ble_eq_true rfl, Nat.le_of_ble_eq_true rfl, Nat.le_of_ble_eq_true rfl⟩ [2] (by decide) rfl [none, none, some 0, none, none, none, none, none, none, none] (by decide) rfl rfl 2 rfl rfl rfl rfl (Nat.le_of_ble_eq_true rfl) dX7_copy_83 rfl rfl ?_
                refine j_if_eq (tgt := 101) K dX7_copy_86 (by decide) rfl h (fun h => ?_) (fun h => ?_)
                · refine j_sub [2] (lv' := [(0, .ref (a0 0))]) rfl ?_
                  exact wX7_copy_101_v3 K a0 c_room c_courseKnown c_settledByKnown i1 i2 i3 i4 i5 o_r o_finding o_sh0 o_sh1 o_sh2 o_sh3 fei1 fei3 c_finding c_sh0 c_sh1 c_sh2 c_sh3 h
                · refine j_aload K 0 rfl dX7_copy_89 rfl ?_
                  refine j_iload K 6 rfl dX7_copy_91 rfl ?_
                  refine j_iload K 7 rfl dX7_copy_93 rfl ?_
                  obtain ⟨r_35, hc, h⟩ := bd1_some h
                  refine j_callV (rest := []) (st1 := [.int r_35]) (ws' := (uX7_copy cyI cyJ cyS a0 c_room c_finding c_courseKnown c_settledByKnown c_sh0.1 c_sh0.2.1 c_sh0.2.2.1 c_sh0.2.2.2 c_sh1.1 c_sh1.2.1 c_sh1.2.2.1 c_sh1.2.2.2 c_sh2.1 c_sh2.2.1 c_sh2.2.2.1 c_sh2.2.2.2 c_sh3.1 c_sh3.2.1 c_sh3.2.2.1 c_sh3.2.2.2)) (T := TX4) (N := 4) (ci := 4) K (ctX4_hasSpan l D cyI cyJ cyS (fun k => a0 (k + 51)) i4 i5 c_sh3.1 c_sh3.2.2.1 c_sh3.2.1 r_35 hc) (gdV mcL mw_39_3 mw_39_4 mw_39_5 mw_3_0 mw_39_6) rfl ⟨rfl, rfl⟩ hyX4_hasSpan ⟨Nat.le_of_ble_eq_true rfl, Nat.le_of_ble_eq_true rfl, Nat.le_of_ble_eq_true rfl, Nat.le_of_ble_eq_true rfl⟩ [8] (by decide) rfl [none, none, none, none, none, none, none, none, some 0, none] (by decide) rfl rfl 8 rfl rfl rfl rfl (Nat.le_of_ble_eq_true rfl) dX7_copy_95 rfl rfl ?_
                  refine j_if_ne (tgt := 107) K dX7_copy_98 (by decide) rfl h (fun h => ?_) (fun h => ?_)
                  · refine j_aload K 1 rfl dX7_copy_107 rfl ?_
                    refine j_getf (C := RX4) (T := TX4) (N := 4) (ci := 4) K icX4 2 0 (List.mem_cons_of_mem _ mw_12_7) rfl rfl rfl (by decide) rfl dX7_copy_109 rfl ?_
                    refine j_iload_n K 4 rfl dX7_copy_112 rfl ?_
                    refine j_aload K 0 rfl dX7_copy_113 rfl ?_
                    refine j_getf (C := RX4) (T := TX4) (N := 4) (ci := 4) K icX4 8 0 (List.mem_cons_of_mem _ mw_12_7) rfl rfl rfl (by decide) rfl dX7_copy_115 rfl ?_
                    refine j_iload K 6 rfl dX7_copy_118 rfl ?_
                    refine j_iload K 7 rfl dX7_copy_120 rfl ?_
                    refine j_copyi K 3 9 0 (fun z => (uX7_copy cyI cyJ cyS a0 c_room c_finding c_courseKnown c_settledByKnown c_sh0.1 c_sh0.2.1 c_sh0.2.2.1 c_sh0.2.2.2 c_sh1.1 c_sh1.2.1 c_sh1.2.2.1 c_sh1.2.2.2 c_sh2.1 c_sh2.2.1 c_sh2.2.2.1 c_sh2.2.2.2 c_sh3.1 c_sh3.2.1 c_sh3.2.2.1 z)) (List.mem_cons_of_mem _ mw_38_23) (List.mem_cons_of_mem _ mw_39_0) (List.mem_cons_of_mem _ mw_39_1) (List.mem_cons_of_mem _ mw_39_2) rfl rfl rfl (fun _ => rfl) ⟨Nat.le_of_ble_eq_true rfl, Nat.le_of_ble_eq_true rfl⟩ dX7_copy_122 rfl h (fun c_sh3_items_36 h => ?_)
                    refine j_iconst (v := (1 : Int32)) K (by decide) dX7_copy_125 rfl ?_
                    obtain ⟨e1, g1⟩ := Prod.mk.inj (Option.some.inj h)
                    subst e1
                    obtain ⟨e2, g2⟩ := Prod.mk.inj g1
                    subst e2
                    obtain ⟨e3, g3⟩ := Prod.mk.inj g2
                    subst e3
                    obtain ⟨e4, g4⟩ := Prod.mk.inj g3
                    subst e4
                    obtain ⟨e5, g5⟩ := Prod.mk.inj g4
                    subst e5
                    subst g5
                    exact j_iret K dX7_copy_126
                  · refine j_sub [2] (lv' := [(0, .ref (a0 0))]) rfl ?_
                    exact wX7_copy_101_v3 K a0 c_room c_courseKnown c_settledByKnown i1 i2 i3 i4 i5 o_r o_finding o_sh0 o_sh1 o_sh2 o_sh3 fei1 fei3 c_finding c_sh0 c_sh1 c_sh2 c_sh3 h
              · refine j_aload_n K 2 rfl dX7_copy_72 rfl ?_
                refine j_iconst (v := (4 : Int32)) K (by decide) dX7_copy_73 rfl ?_
                obtain ⟨r_37, c_finding_38, hc, h⟩ := bd2_some h
                refine j_callV (rest := []) (st1 := [.int r_37]) (ws' := (uX7_copy cyI cyJ cyS a0 c_room c_finding_38 c_courseKnown c_settledByKnown c_sh0.1 c_sh0.2.1 c_sh0.2.2.1 c_sh0.2.2.2 c_sh1.1 c_sh1.2.1 c_sh1.2.2.1 c_sh1.2.2.2 c_sh2.1 c_sh2.2.1 c_sh2.2.2.1 c_sh2.2.2.2 c_sh3.1 c_sh3.2.1 c_sh3.2.2.1 c_sh3.2.2.2)) (T := TX7) (N := 15) (ci := 7) K (ctX7_found l D cyI cyJ cyS a0 (4 : Int32) c_room c_courseKnown c_settledByKnown c_finding r_37 c_finding_38 hc) (gdV mcL mw_12_9 mw_12_10 mw_12_11 mw_1_2 mw_12_12) rfl ⟨rfl, rfl⟩ hyX7_found ⟨Nat.le_of_ble_eq_true rfl, Nat.le_of_ble_eq_true rfl, Nat.le_of_ble_eq_true rfl, Nat.le_of_ble_eq_true rfl⟩ [0] (by decide) rfl [some 0, none, none, none, none, none, none, none, none, none] (by decide) rfl rfl 0 rfl rfl rfl rfl (Nat.le_of_ble_eq_true rfl) dX7_copy_74 rfl rfl ?_
                obtain ⟨e1, g1⟩ := Prod.mk.inj (Option.some.inj h)
                subst e1
                obtain ⟨e2, g2⟩ := Prod.mk.inj g1
                subst e2
                obtain ⟨e3, g3⟩ := Prod.mk.inj g2
                subst e3
                obtain ⟨e4, g4⟩ := Prod.mk.inj g3
                subst e4
                obtain ⟨e5, g5⟩ := Prod.mk.inj g4
                subst e5
                subst g5
                exact j_iret K dX7_copy_77
            · refine j_sub [2] (lv' := [(0, .ref (a0 0))]) rfl ?_
              exact wX7_copy_53_v3 K a0 c_room c_courseKnown c_settledByKnown i1 i2 i3 i4 i5 o_r o_finding o_sh0 o_sh1 o_sh2 o_sh3 fei1 fei3 c_finding c_sh0 c_sh1 c_sh2 c_sh3 h
      · refine j_aald (b := (a0 47)) K 1 2 rfl rfl (vin4_1 fei1) (by rw [fei1]; rfl) dX7_copy_26 rfl ?_
        refine j_astore (lv' := [(6, .ref (a0 47)), (0, .ref (a0 0)), (1, .int i1), (2, .int i2), (3, .int i3), (4, .int i4), (5, .int i5)]) K (by decide) rfl dX7_copy_27 rfl ?_
        refine j_aload_n K 1 rfl dX7_copy_29 rfl ?_
        refine j_getf (C := RX7) (T := TX7) (N := 15) (ci := 7) K icX7 0 8 (List.mem_cons_of_mem _ mw_2_15) rfl rfl rfl (by decide) rfl dX7_copy_30 rfl ?_
        refine j_iload_n K 4 rfl dX7_copy_33 rfl ?_
        rcases sw4_some h with ⟨fei3, h⟩ | ⟨fei3, h⟩ | ⟨fei3, h⟩ | ⟨fei3, h⟩
        · refine j_aald (b := (a0 45)) K 1 2 rfl rfl (vin4_0 fei3) (by rw [fei3]; rfl) dX7_copy_34 rfl ?_
          refine j_astore (lv' := [(7, .ref (a0 45)), (6, .ref (a0 47)), (0, .ref (a0 0)), (1, .int i1), (2, .int i2), (3, .int i3), (4, .int i4), (5, .int i5)]) K (by decide) rfl dX7_copy_35 rfl ?_
          refine j_aload K 1 rfl dX7_copy_37 rfl ?_
          refine j_getf (C := RX4) (T := TX4) (N := 4) (ci := 4) K icX4 4 3 (List.mem_cons_of_mem _ mw_12_6) rfl rfl rfl (by decide) rfl dX7_copy_39 rfl ?_
          refine j_if_ne (tgt := 53) K dX7_copy_42 (by decide) rfl h (fun h => ?_) (fun h => ?_)
          · refine j_sub [2] (lv' := [(0, .ref (a0 0))]) rfl ?_
            exact wX7_copy_53_v4 K a0 c_room c_courseKnown c_settledByKnown i1 i2 i3 i4 i5 o_r o_finding o_sh0 o_sh1 o_sh2 o_sh3 fei1 fei3 c_finding c_sh0 c_sh1 c_sh2 c_sh3 h
          · refine j_aload K 0 rfl dX7_copy_45 rfl ?_
            refine j_getf (C := RX4) (T := TX4) (N := 4) (ci := 4) K icX4 2 3 (List.mem_cons_of_mem _ mw_12_6) rfl rfl rfl (by decide) rfl dX7_copy_47 rfl ?_
            refine j_if_eq (tgt := 59) K dX7_copy_50 (by decide) rfl h (fun h => ?_) (fun h => ?_)
            · refine j_aload K 1 rfl dX7_copy_59 rfl ?_
              refine j_getf (C := RX4) (T := TX4) (N := 4) (ci := 4) K icX4 4 1 (List.mem_cons_of_mem _ mw_38_22) rfl rfl rfl (by decide) rfl dX7_copy_61 rfl ?_
              refine j_aload K 0 rfl dX7_copy_64 rfl ?_
              refine j_getf (C := RX4) (T := TX4) (N := 4) (ci := 4) K icX4 2 1 (List.mem_cons_of_mem _ mw_38_22) rfl rfl rfl (by decide) rfl dX7_copy_66 rfl ?_
              refine j_icmp_eq (tgt := 78) K dX7_copy_69 (by decide) rfl h (fun h => ?_) (fun h => ?_)
              · refine j_aload K 1 rfl dX7_copy_78 rfl ?_
                refine j_iload_n K 4 rfl dX7_copy_80 rfl ?_
                refine j_iload K 7 rfl dX7_copy_81 rfl ?_
                obtain ⟨r_41, hc, h⟩ := bd1_some h
                refine j_callV (rest := []) (st1 := [.int r_41]) (ws' := (uX7_copy cyI cyJ cyS a0 c_room c_finding c_courseKnown c_settledByKnown c_sh0.1 c_sh0.2.1 c_sh0.2.2.1 c_sh0.2.2.2 c_sh1.1 c_sh1.2.1 c_sh1.2.2.1 c_sh1.2.2.2 c_sh2.1 c_sh2.2.1 c_sh2.2.2.1 c_sh2.2.2.2 c_sh3.1 c_sh3.2.1 c_sh3.2.2.1 c_sh3.2.2.2)) (T := TX4) (N := 4) (ci := 4) K (ctX4_hasSpan l D cyI cyJ cyS (fun k => a0 (k + 47)) i2 i5 c_sh1.1 c_sh1.2.2.1 c_sh1.2.1 r_41 hc) (gdV mcL mw_39_3 mw_39_4 mw_39_5 mw_3_0 mw_39_6) rfl ⟨rfl, rfl⟩ hyX4_hasSpan ⟨Nat.le_of_ble_eq_true rfl, Nat.le_of_ble_eq_true rfl, Nat.le_of_ble_eq_true rfl, Nat.le_of_ble_eq_true rfl⟩ [4] (by decide) rfl [none, none, none, none, some 0, none, none, none, none, none] (by decide) rfl rfl 4 rfl rfl rfl rfl (Nat.le_of_ble_eq_true rfl) dX7_copy_83 rfl rfl ?_
                refine j_if_eq (tgt := 101) K dX7_copy_86 (by decide) rfl h (fun h => ?_) (fun h => ?_)
                · refine j_sub [2] (lv' := [(0, .ref (a0 0))]) rfl ?_
                  exact wX7_copy_101_v4 K a0 c_room c_courseKnown c_settledByKnown i1 i2 i3 i4 i5 o_r o_finding o_sh0 o_sh1 o_sh2 o_sh3 fei1 fei3 c_finding c_sh0 c_sh1 c_sh2 c_sh3 h
                · refine j_aload K 0 rfl dX7_copy_89 rfl ?_
                  refine j_iload K 6 rfl dX7_copy_91 rfl ?_
                  refine j_iload K 7 rfl dX7_copy_93 rfl ?_
                  obtain ⟨r_44, hc, h⟩ := bd1_some h
                  refine j_callV (rest := []) (st1 := [.int r_44]) (ws' := (uX7_copy cyI cyJ cyS a0 c_room c_finding c_courseKnown c_settledByKnown c_sh0.1 c_sh0.2.1 c_sh0.2.2.1 c_sh0.2.2.2 c_sh1.1 c_sh1.2.1 c_sh1.2.2.1 c_sh1.2.2.2 c_sh2.1 c_sh2.2.1 c_sh2.2.2.1 c_sh2.2.2.2 c_sh3.1 c_sh3.2.1 c_sh3.2.2.1 c_sh3.2.2.2)) (T := TX4) (N := 4) (ci := 4) K (ctX4_hasSpan l D cyI cyJ cyS (fun k => a0 (k + 45)) i4 i5 c_sh0.1 c_sh0.2.2.1 c_sh0.2.1 r_44 hc) (gdV mcL mw_39_3 mw_39_4 mw_39_5 mw_3_0 mw_39_6) rfl ⟨rfl, rfl⟩ hyX4_hasSpan ⟨Nat.le_of_ble_eq_true rfl, Nat.le_of_ble_eq_true rfl, Nat.le_of_ble_eq_true rfl, Nat.le_of_ble_eq_true rfl⟩ [2] (by decide) rfl [none, none, some 0, none, none, none, none, none, none, none] (by decide) rfl rfl 2 rfl rfl rfl rfl (Nat.le_of_ble_eq_true rfl) dX7_copy_95 rfl rfl ?_
                  refine j_if_ne (tgt := 107) K dX7_copy_98 (by decide) rfl h (fun h => ?_) (fun h => ?_)
                  · refine j_aload K 1 rfl dX7_copy_107 rfl ?_
                    refine j_getf (C := RX4) (T := TX4) (N := 4) (ci := 4) K icX4 4 0 (List.mem_cons_of_mem _ mw_12_7) rfl rfl rfl (by decide) rfl dX7_copy_109 rfl ?_
                    refine j_iload_n K 4 rfl dX7_copy_112 rfl ?_
                    refine j_aload K 0 rfl dX7_copy_113 rfl ?_
                    refine j_getf (C := RX4) (T := TX4) (N := 4) (ci := 4) K icX4 2 0 (List.mem_cons_of_mem _ mw_12_7) rfl rfl rfl (by decide) rfl dX7_copy_115 rfl ?_
                    refine j_iload K 6 rfl dX7_copy_118 rfl ?_
                    refine j_iload K 7 rfl dX7_copy_120 rfl ?_
                    refine j_copyi K 5 3 0 (fun z => (uX7_copy cyI cyJ cyS a0 c_room c_finding c_courseKnown c_settledByKnown c_sh0.1 c_sh0.2.1 c_sh0.2.2.1 z c_sh1.1 c_sh1.2.1 c_sh1.2.2.1 c_sh1.2.2.2 c_sh2.1 c_sh2.2.1 c_sh2.2.2.1 c_sh2.2.2.2 c_sh3.1 c_sh3.2.1 c_sh3.2.2.1 c_sh3.2.2.2)) (List.mem_cons_of_mem _ mw_38_23) (List.mem_cons_of_mem _ mw_39_0) (List.mem_cons_of_mem _ mw_39_1) (List.mem_cons_of_mem _ mw_39_2) rfl rfl rfl (fun _ => rfl) ⟨Nat.le_of_ble_eq_true rfl, Nat.le_of_ble_eq_true rfl⟩ dX7_copy_122 rfl h (fun c_sh0_items_45 h => ?_)
                    refine j_iconst (v := (1 : Int32)) K (by decide) dX7_copy_125 rfl ?_
                    obtain ⟨e1, g1⟩ := Prod.mk.inj (Option.some.inj h)
                    subst e1
                    obtain ⟨e2, g2⟩ := Prod.mk.inj g1
                    subst e2
                    obtain ⟨e3, g3⟩ := Prod.mk.inj g2
                    subst e3
                    obtain ⟨e4, g4⟩ := Prod.mk.inj g3
                    subst e4
                    obtain ⟨e5, g5⟩ := Prod.mk.inj g4
                    subst e5
                    subst g5
                    exact j_iret K dX7_copy_126
                  · refine j_sub [2] (lv' := [(0, .ref (a0 0))]) rfl ?_
                    exact wX7_copy_101_v4 K a0 c_room c_courseKnown c_settledByKnown i1 i2 i3 i4 i5 o_r o_finding o_sh0 o_sh1 o_sh2 o_sh3 fei1 fei3 c_finding c_sh0 c_sh1 c_sh2 c_sh3 h
              · refine j_aload_n K 2 rfl dX7_copy_72 rfl ?_
                refine j_iconst (v := (4 : Int32)) K (by decide) dX7_copy_73 rfl ?_
                obtain ⟨r_46, c_finding_47, hc, h⟩ := bd2_some h
                refine j_callV (rest := []) (st1 := [.int r_46]) (ws' := (uX7_copy cyI cyJ cyS a0 c_room c_finding_47 c_courseKnown c_settledByKnown c_sh0.1 c_sh0.2.1 c_sh0.2.2.1 c_sh0.2.2.2 c_sh1.1 c_sh1.2.1 c_sh1.2.2.1 c_sh1.2.2.2 c_sh2.1 c_sh2.2.1 c_sh2.2.2.1 c_sh2.2.2.2 c_sh3.1 c_sh3.2.1 c_sh3.2.2.1 c_sh3.2.2.2)) (T := TX7) (N := 15) (ci := 7) K (ctX7_found l D cyI cyJ cyS a0 (4 : Int32) c_room c_courseKnown c_settledByKnown c_finding r_46 c_finding_47 hc) (gdV mcL mw_12_9 mw_12_10 mw_12_11 mw_1_2 mw_12_12) rfl ⟨rfl, rfl⟩ hyX7_found ⟨Nat.le_of_ble_eq_true rfl, Nat.le_of_ble_eq_true rfl, Nat.le_of_ble_eq_true rfl, Nat.le_of_ble_eq_true rfl⟩ [0] (by decide) rfl [some 0, none, none, none, none, none, none, none, none, none] (by decide) rfl rfl 0 rfl rfl rfl rfl (Nat.le_of_ble_eq_true rfl) dX7_copy_74 rfl rfl ?_
                obtain ⟨e1, g1⟩ := Prod.mk.inj (Option.some.inj h)
                subst e1
                obtain ⟨e2, g2⟩ := Prod.mk.inj g1
                subst e2
                obtain ⟨e3, g3⟩ := Prod.mk.inj g2
                subst e3
                obtain ⟨e4, g4⟩ := Prod.mk.inj g3
                subst e4
                obtain ⟨e5, g5⟩ := Prod.mk.inj g4
                subst e5
                subst g5
                exact j_iret K dX7_copy_77
            · refine j_sub [2] (lv' := [(0, .ref (a0 0))]) rfl ?_
              exact wX7_copy_53_v4 K a0 c_room c_courseKnown c_settledByKnown i1 i2 i3 i4 i5 o_r o_finding o_sh0 o_sh1 o_sh2 o_sh3 fei1 fei3 c_finding c_sh0 c_sh1 c_sh2 c_sh3 h
        · refine j_aald (b := (a0 47)) K 1 2 rfl rfl (vin4_1 fei3) (by rw [fei3]; rfl) dX7_copy_34 rfl ?_
          refine j_astore (lv' := [(7, .ref (a0 47)), (6, .ref (a0 47)), (0, .ref (a0 0)), (1, .int i1), (2, .int i2), (3, .int i3), (4, .int i4), (5, .int i5)]) K (by decide) rfl dX7_copy_35 rfl ?_
          refine j_aload K 1 rfl dX7_copy_37 rfl ?_
          refine j_getf (C := RX4) (T := TX4) (N := 4) (ci := 4) K icX4 4 3 (List.mem_cons_of_mem _ mw_12_6) rfl rfl rfl (by decide) rfl dX7_copy_39 rfl ?_
          refine j_if_ne (tgt := 53) K dX7_copy_42 (by decide) rfl h (fun h => ?_) (fun h => ?_)
          · refine j_sub [2] (lv' := [(0, .ref (a0 0))]) rfl ?_
            exact wX7_copy_53_v5 K a0 c_room c_courseKnown c_settledByKnown i1 i2 i3 i4 i5 o_r o_finding o_sh0 o_sh1 o_sh2 o_sh3 fei1 fei3 c_finding c_sh0 c_sh1 c_sh2 c_sh3 h
          · refine j_aload K 0 rfl dX7_copy_45 rfl ?_
            refine j_getf (C := RX4) (T := TX4) (N := 4) (ci := 4) K icX4 4 3 (List.mem_cons_of_mem _ mw_12_6) rfl rfl rfl (by decide) rfl dX7_copy_47 rfl ?_
            refine j_if_eq (tgt := 59) K dX7_copy_50 (by decide) rfl h (fun h => ?_) (fun h => ?_)
            · refine j_aload K 1 rfl dX7_copy_59 rfl ?_
              refine j_getf (C := RX4) (T := TX4) (N := 4) (ci := 4) K icX4 4 1 (List.mem_cons_of_mem _ mw_38_22) rfl rfl rfl (by decide) rfl dX7_copy_61 rfl ?_
              refine j_aload K 0 rfl dX7_copy_64 rfl ?_
              refine j_getf (C := RX4) (T := TX4) (N := 4) (ci := 4) K icX4 4 1 (List.mem_cons_of_mem _ mw_38_22) rfl rfl rfl (by decide) rfl dX7_copy_66 rfl ?_
              refine j_icmp_eq (tgt := 78) K dX7_copy_69 (by decide) rfl h (fun h => ?_) (fun h => ?_)
              · refine j_aload K 1 rfl dX7_copy_78 rfl ?_
                refine j_iload_n K 4 rfl dX7_copy_80 rfl ?_
                refine j_iload K 7 rfl dX7_copy_81 rfl ?_
                obtain ⟨r_50, hc, h⟩ := bd1_some h
                refine j_callV (rest := []) (st1 := [.int r_50]) (ws' := (uX7_copy cyI cyJ cyS a0 c_room c_finding c_courseKnown c_settledByKnown c_sh0.1 c_sh0.2.1 c_sh0.2.2.1 c_sh0.2.2.2 c_sh1.1 c_sh1.2.1 c_sh1.2.2.1 c_sh1.2.2.2 c_sh2.1 c_sh2.2.1 c_sh2.2.2.1 c_sh2.2.2.2 c_sh3.1 c_sh3.2.1 c_sh3.2.2.1 c_sh3.2.2.2)) (T := TX4) (N := 4) (ci := 4) K (ctX4_hasSpan l D cyI cyJ cyS (fun k => a0 (k + 47)) i2 i5 c_sh1.1 c_sh1.2.2.1 c_sh1.2.1 r_50 hc) (gdV mcL mw_39_3 mw_39_4 mw_39_5 mw_3_0 mw_39_6) rfl ⟨rfl, rfl⟩ hyX4_hasSpan ⟨Nat.le_of_ble_eq_true rfl, Nat.le_of_ble_eq_true rfl, Nat.le_of_ble_eq_true rfl, Nat.le_of_ble_eq_true rfl⟩ [4] (by decide) rfl [none, none, none, none, some 0, none, none, none, none, none] (by decide) rfl rfl 4 rfl rfl rfl rfl (Nat.le_of_ble_eq_true rfl) dX7_copy_83 rfl rfl ?_
                refine j_if_eq (tgt := 101) K dX7_copy_86 (by decide) rfl h (fun h => ?_) (fun h => ?_)
                · refine j_sub [2] (lv' := [(0, .ref (a0 0))]) rfl ?_
                  exact wX7_copy_101_v5 K a0 c_room c_courseKnown c_settledByKnown i1 i2 i3 i4 i5 o_r o_finding o_sh0 o_sh1 o_sh2 o_sh3 fei1 fei3 c_finding c_sh0 c_sh1 c_sh2 c_sh3 h
                · refine j_aload K 0 rfl dX7_copy_89 rfl ?_
                  refine j_iload K 6 rfl dX7_copy_91 rfl ?_
                  refine j_iload K 7 rfl dX7_copy_93 rfl ?_
                  obtain ⟨r_53, hc, h⟩ := bd1_some h
                  refine j_callV (rest := []) (st1 := [.int r_53]) (ws' := (uX7_copy cyI cyJ cyS a0 c_room c_finding c_courseKnown c_settledByKnown c_sh0.1 c_sh0.2.1 c_sh0.2.2.1 c_sh0.2.2.2 c_sh1.1 c_sh1.2.1 c_sh1.2.2.1 c_sh1.2.2.2 c_sh2.1 c_sh2.2.1 c_sh2.2.2.1 c_sh2.2.2.2 c_sh3.1 c_sh3.2.1 c_sh3.2.2.1 c_sh3.2.2.2)) (T := TX4) (N := 4) (ci := 4) K (ctX4_hasSpan l D cyI cyJ cyS (fun k => a0 (k + 47)) i4 i5 c_sh1.1 c_sh1.2.2.1 c_sh1.2.1 r_53 hc) (gdV mcL mw_39_3 mw_39_4 mw_39_5 mw_3_0 mw_39_6) rfl ⟨rfl, rfl⟩ hyX4_hasSpan ⟨Nat.le_of_ble_eq_true rfl, Nat.le_of_ble_eq_true rfl, Nat.le_of_ble_eq_true rfl, Nat.le_of_ble_eq_true rfl⟩ [4] (by decide) rfl [none, none, none, none, some 0, none, none, none, none, none] (by decide) rfl rfl 4 rfl rfl rfl rfl (Nat.le_of_ble_eq_true rfl) dX7_copy_95 rfl rfl ?_
                  refine j_if_ne (tgt := 107) K dX7_copy_98 (by decide) rfl h (fun h => ?_) (fun h => ?_)
                  · refine j_aload K 1 rfl dX7_copy_107 rfl ?_
                    refine j_getf (C := RX4) (T := TX4) (N := 4) (ci := 4) K icX4 4 0 (List.mem_cons_of_mem _ mw_12_7) rfl rfl rfl (by decide) rfl dX7_copy_109 rfl ?_
                    refine j_iload_n K 4 rfl dX7_copy_112 rfl ?_
                    refine j_aload K 0 rfl dX7_copy_113 rfl ?_
                    refine j_getf (C := RX4) (T := TX4) (N := 4) (ci := 4) K icX4 4 0 (List.mem_cons_of_mem _ mw_12_7) rfl rfl rfl (by decide) rfl dX7_copy_115 rfl ?_
                    refine j_iload K 6 rfl dX7_copy_118 rfl ?_
                    refine j_iload K 7 rfl dX7_copy_120 rfl ?_
                    refine j_copyi K 5 5 0 (fun z => (uX7_copy cyI cyJ cyS a0 c_room c_finding c_courseKnown c_settledByKnown c_sh0.1 c_sh0.2.1 c_sh0.2.2.1 c_sh0.2.2.2 c_sh1.1 c_sh1.2.1 c_sh1.2.2.1 z c_sh2.1 c_sh2.2.1 c_sh2.2.2.1 c_sh2.2.2.2 c_sh3.1 c_sh3.2.1 c_sh3.2.2.1 c_sh3.2.2.2)) (List.mem_cons_of_mem _ mw_38_23) (List.mem_cons_of_mem _ mw_39_0) (List.mem_cons_of_mem _ mw_39_1) (List.mem_cons_of_mem _ mw_39_2) rfl rfl rfl (fun _ => rfl) ⟨Nat.le_of_ble_eq_true rfl, Nat.le_of_ble_eq_true rfl⟩ dX7_copy_122 rfl h (fun c_sh1_items_54 h => ?_)
                    refine j_iconst (v := (1 : Int32)) K (by decide) dX7_copy_125 rfl ?_
                    obtain ⟨e1, g1⟩ := Prod.mk.inj (Option.some.inj h)
                    subst e1
                    obtain ⟨e2, g2⟩ := Prod.mk.inj g1
                    subst e2
                    obtain ⟨e3, g3⟩ := Prod.mk.inj g2
                    subst e3
                    obtain ⟨e4, g4⟩ := Prod.mk.inj g3
                    subst e4
                    obtain ⟨e5, g5⟩ := Prod.mk.inj g4
                    subst e5
                    subst g5
                    exact j_iret K dX7_copy_126
                  · refine j_sub [2] (lv' := [(0, .ref (a0 0))]) rfl ?_
                    exact wX7_copy_101_v5 K a0 c_room c_courseKnown c_settledByKnown i1 i2 i3 i4 i5 o_r o_finding o_sh0 o_sh1 o_sh2 o_sh3 fei1 fei3 c_finding c_sh0 c_sh1 c_sh2 c_sh3 h
              · refine j_aload_n K 2 rfl dX7_copy_72 rfl ?_
                refine j_iconst (v := (4 : Int32)) K (by decide) dX7_copy_73 rfl ?_
                obtain ⟨r_55, c_finding_56, hc, h⟩ := bd2_some h
                refine j_callV (rest := []) (st1 := [.int r_55]) (ws' := (uX7_copy cyI cyJ cyS a0 c_room c_finding_56 c_courseKnown c_settledByKnown c_sh0.1 c_sh0.2.1 c_sh0.2.2.1 c_sh0.2.2.2 c_sh1.1 c_sh1.2.1 c_sh1.2.2.1 c_sh1.2.2.2 c_sh2.1 c_sh2.2.1 c_sh2.2.2.1 c_sh2.2.2.2 c_sh3.1 c_sh3.2.1 c_sh3.2.2.1 c_sh3.2.2.2)) (T := TX7) (N := 15) (ci := 7) K (ctX7_found l D cyI cyJ cyS a0 (4 : Int32) c_room c_courseKnown c_settledByKnown c_finding r_55 c_finding_56 hc) (gdV mcL mw_12_9 mw_12_10 mw_12_11 mw_1_2 mw_12_12) rfl ⟨rfl, rfl⟩ hyX7_found ⟨Nat.le_of_ble_eq_true rfl, Nat.le_of_ble_eq_true rfl, Nat.le_of_ble_eq_true rfl, Nat.le_of_ble_eq_true rfl⟩ [0] (by decide) rfl [some 0, none, none, none, none, none, none, none, none, none] (by decide) rfl rfl 0 rfl rfl rfl rfl (Nat.le_of_ble_eq_true rfl) dX7_copy_74 rfl rfl ?_
                obtain ⟨e1, g1⟩ := Prod.mk.inj (Option.some.inj h)
                subst e1
                obtain ⟨e2, g2⟩ := Prod.mk.inj g1
                subst e2
                obtain ⟨e3, g3⟩ := Prod.mk.inj g2
                subst e3
                obtain ⟨e4, g4⟩ := Prod.mk.inj g3
                subst e4
                obtain ⟨e5, g5⟩ := Prod.mk.inj g4
                subst e5
                subst g5
                exact j_iret K dX7_copy_77
            · refine j_sub [2] (lv' := [(0, .ref (a0 0))]) rfl ?_
              exact wX7_copy_53_v5 K a0 c_room c_courseKnown c_settledByKnown i1 i2 i3 i4 i5 o_r o_finding o_sh0 o_sh1 o_sh2 o_sh3 fei1 fei3 c_finding c_sh0 c_sh1 c_sh2 c_sh3 h
        · refine j_aald (b := (a0 49)) K 1 2 rfl rfl (vin4_2 fei3) (by rw [fei3]; rfl) dX7_copy_34 rfl ?_
          refine j_astore (lv' := [(7, .ref (a0 49)), (6, .ref (a0 47)), (0, .ref (a0 0)), (1, .int i1), (2, .int i2), (3, .int i3), (4, .int i4), (5, .int i5)]) K (by decide) rfl dX7_copy_35 rfl ?_
          refine j_aload K 1 rfl dX7_copy_37 rfl ?_
          refine j_getf (C := RX4) (T := TX4) (N := 4) (ci := 4) K icX4 4 3 (List.mem_cons_of_mem _ mw_12_6) rfl rfl rfl (by decide) rfl dX7_copy_39 rfl ?_
          refine j_if_ne (tgt := 53) K dX7_copy_42 (by decide) rfl h (fun h => ?_) (fun h => ?_)
          · refine j_sub [2] (lv' := [(0, .ref (a0 0))]) rfl ?_
            exact wX7_copy_53_v6 K a0 c_room c_courseKnown c_settledByKnown i1 i2 i3 i4 i5 o_r o_finding o_sh0 o_sh1 o_sh2 o_sh3 fei1 fei3 c_finding c_sh0 c_sh1 c_sh2 c_sh3 h
          · refine j_aload K 0 rfl dX7_copy_45 rfl ?_
            refine j_getf (C := RX4) (T := TX4) (N := 4) (ci := 4) K icX4 6 3 (List.mem_cons_of_mem _ mw_12_6) rfl rfl rfl (by decide) rfl dX7_copy_47 rfl ?_
            refine j_if_eq (tgt := 59) K dX7_copy_50 (by decide) rfl h (fun h => ?_) (fun h => ?_)
            · refine j_aload K 1 rfl dX7_copy_59 rfl ?_
              refine j_getf (C := RX4) (T := TX4) (N := 4) (ci := 4) K icX4 4 1 (List.mem_cons_of_mem _ mw_38_22) rfl rfl rfl (by decide) rfl dX7_copy_61 rfl ?_
              refine j_aload K 0 rfl dX7_copy_64 rfl ?_
              refine j_getf (C := RX4) (T := TX4) (N := 4) (ci := 4) K icX4 6 1 (List.mem_cons_of_mem _ mw_38_22) rfl rfl rfl (by decide) rfl dX7_copy_66 rfl ?_
              refine j_icmp_eq (tgt := 78) K dX7_copy_69 (by decide) rfl h (fun h => ?_) (fun h => ?_)
              · refine j_aload K 1 rfl dX7_copy_78 rfl ?_
                refine j_iload_n K 4 rfl dX7_copy_80 rfl ?_
                refine j_iload K 7 rfl dX7_copy_81 rfl ?_
                obtain ⟨r_59, hc, h⟩ := bd1_some h
                refine j_callV (rest := []) (st1 := [.int r_59]) (ws' := (uX7_copy cyI cyJ cyS a0 c_room c_finding c_courseKnown c_settledByKnown c_sh0.1 c_sh0.2.1 c_sh0.2.2.1 c_sh0.2.2.2 c_sh1.1 c_sh1.2.1 c_sh1.2.2.1 c_sh1.2.2.2 c_sh2.1 c_sh2.2.1 c_sh2.2.2.1 c_sh2.2.2.2 c_sh3.1 c_sh3.2.1 c_sh3.2.2.1 c_sh3.2.2.2)) (T := TX4) (N := 4) (ci := 4) K (ctX4_hasSpan l D cyI cyJ cyS (fun k => a0 (k + 47)) i2 i5 c_sh1.1 c_sh1.2.2.1 c_sh1.2.1 r_59 hc) (gdV mcL mw_39_3 mw_39_4 mw_39_5 mw_3_0 mw_39_6) rfl ⟨rfl, rfl⟩ hyX4_hasSpan ⟨Nat.le_of_ble_eq_true rfl, Nat.le_of_ble_eq_true rfl, Nat.le_of_ble_eq_true rfl, Nat.le_of_ble_eq_true rfl⟩ [4] (by decide) rfl [none, none, none, none, some 0, none, none, none, none, none] (by decide) rfl rfl 4 rfl rfl rfl rfl (Nat.le_of_ble_eq_true rfl) dX7_copy_83 rfl rfl ?_
                refine j_if_eq (tgt := 101) K dX7_copy_86 (by decide) rfl h (fun h => ?_) (fun h => ?_)
                · refine j_sub [2] (lv' := [(0, .ref (a0 0))]) rfl ?_
                  exact wX7_copy_101_v6 K a0 c_room c_courseKnown c_settledByKnown i1 i2 i3 i4 i5 o_r o_finding o_sh0 o_sh1 o_sh2 o_sh3 fei1 fei3 c_finding c_sh0 c_sh1 c_sh2 c_sh3 h
                · refine j_aload K 0 rfl dX7_copy_89 rfl ?_
                  refine j_iload K 6 rfl dX7_copy_91 rfl ?_
                  refine j_iload K 7 rfl dX7_copy_93 rfl ?_
                  obtain ⟨r_62, hc, h⟩ := bd1_some h
                  refine j_callV (rest := []) (st1 := [.int r_62]) (ws' := (uX7_copy cyI cyJ cyS a0 c_room c_finding c_courseKnown c_settledByKnown c_sh0.1 c_sh0.2.1 c_sh0.2.2.1 c_sh0.2.2.2 c_sh1.1 c_sh1.2.1 c_sh1.2.2.1 c_sh1.2.2.2 c_sh2.1 c_sh2.2.1 c_sh2.2.2.1 c_sh2.2.2.2 c_sh3.1 c_sh3.2.1 c_sh3.2.2.1 c_sh3.2.2.2)) (T := TX4) (N := 4) (ci := 4) K (ctX4_hasSpan l D cyI cyJ cyS (fun k => a0 (k + 49)) i4 i5 c_sh2.1 c_sh2.2.2.1 c_sh2.2.1 r_62 hc) (gdV mcL mw_39_3 mw_39_4 mw_39_5 mw_3_0 mw_39_6) rfl ⟨rfl, rfl⟩ hyX4_hasSpan ⟨Nat.le_of_ble_eq_true rfl, Nat.le_of_ble_eq_true rfl, Nat.le_of_ble_eq_true rfl, Nat.le_of_ble_eq_true rfl⟩ [6] (by decide) rfl [none, none, none, none, none, none, some 0, none, none, none] (by decide) rfl rfl 6 rfl rfl rfl rfl (Nat.le_of_ble_eq_true rfl) dX7_copy_95 rfl rfl ?_
                  refine j_if_ne (tgt := 107) K dX7_copy_98 (by decide) rfl h (fun h => ?_) (fun h => ?_)
                  · refine j_aload K 1 rfl dX7_copy_107 rfl ?_
                    refine j_getf (C := RX4) (T := TX4) (N := 4) (ci := 4) K icX4 4 0 (List.mem_cons_of_mem _ mw_12_7) rfl rfl rfl (by decide) rfl dX7_copy_109 rfl ?_
                    refine j_iload_n K 4 rfl dX7_copy_112 rfl ?_
                    refine j_aload K 0 rfl dX7_copy_113 rfl ?_
                    refine j_getf (C := RX4) (T := TX4) (N := 4) (ci := 4) K icX4 6 0 (List.mem_cons_of_mem _ mw_12_7) rfl rfl rfl (by decide) rfl dX7_copy_115 rfl ?_
                    refine j_iload K 6 rfl dX7_copy_118 rfl ?_
                    refine j_iload K 7 rfl dX7_copy_120 rfl ?_
                    refine j_copyi K 5 7 0 (fun z => (uX7_copy cyI cyJ cyS a0 c_room c_finding c_courseKnown c_settledByKnown c_sh0.1 c_sh0.2.1 c_sh0.2.2.1 c_sh0.2.2.2 c_sh1.1 c_sh1.2.1 c_sh1.2.2.1 c_sh1.2.2.2 c_sh2.1 c_sh2.2.1 c_sh2.2.2.1 z c_sh3.1 c_sh3.2.1 c_sh3.2.2.1 c_sh3.2.2.2)) (List.mem_cons_of_mem _ mw_38_23) (List.mem_cons_of_mem _ mw_39_0) (List.mem_cons_of_mem _ mw_39_1) (List.mem_cons_of_mem _ mw_39_2) rfl rfl rfl (fun _ => rfl) ⟨Nat.le_of_ble_eq_true rfl, Nat.le_of_ble_eq_true rfl⟩ dX7_copy_122 rfl h (fun c_sh2_items_63 h => ?_)
                    refine j_iconst (v := (1 : Int32)) K (by decide) dX7_copy_125 rfl ?_
                    obtain ⟨e1, g1⟩ := Prod.mk.inj (Option.some.inj h)
                    subst e1
                    obtain ⟨e2, g2⟩ := Prod.mk.inj g1
                    subst e2
                    obtain ⟨e3, g3⟩ := Prod.mk.inj g2
                    subst e3
                    obtain ⟨e4, g4⟩ := Prod.mk.inj g3
                    subst e4
                    obtain ⟨e5, g5⟩ := Prod.mk.inj g4
                    subst e5
                    subst g5
                    exact j_iret K dX7_copy_126
                  · refine j_sub [2] (lv' := [(0, .ref (a0 0))]) rfl ?_
                    exact wX7_copy_101_v6 K a0 c_room c_courseKnown c_settledByKnown i1 i2 i3 i4 i5 o_r o_finding o_sh0 o_sh1 o_sh2 o_sh3 fei1 fei3 c_finding c_sh0 c_sh1 c_sh2 c_sh3 h
              · refine j_aload_n K 2 rfl dX7_copy_72 rfl ?_
                refine j_iconst (v := (4 : Int32)) K (by decide) dX7_copy_73 rfl ?_
                obtain ⟨r_64, c_finding_65, hc, h⟩ := bd2_some h
                refine j_callV (rest := []) (st1 := [.int r_64]) (ws' := (uX7_copy cyI cyJ cyS a0 c_room c_finding_65 c_courseKnown c_settledByKnown c_sh0.1 c_sh0.2.1 c_sh0.2.2.1 c_sh0.2.2.2 c_sh1.1 c_sh1.2.1 c_sh1.2.2.1 c_sh1.2.2.2 c_sh2.1 c_sh2.2.1 c_sh2.2.2.1 c_sh2.2.2.2 c_sh3.1 c_sh3.2.1 c_sh3.2.2.1 c_sh3.2.2.2)) (T := TX7) (N := 15) (ci := 7) K (ctX7_found l D cyI cyJ cyS a0 (4 : Int32) c_room c_courseKnown c_settledByKnown c_finding r_64 c_finding_65 hc) (gdV mcL mw_12_9 mw_12_10 mw_12_11 mw_1_2 mw_12_12) rfl ⟨rfl, rfl⟩ hyX7_found ⟨Nat.le_of_ble_eq_true rfl, Nat.le_of_ble_eq_true rfl, Nat.le_of_ble_eq_true rfl, Nat.le_of_ble_eq_true rfl⟩ [0] (by decide) rfl [some 0, none, none, none, none, none, none, none, none, none] (by decide) rfl rfl 0 rfl rfl rfl rfl (Nat.le_of_ble_eq_true rfl) dX7_copy_74 rfl rfl ?_
                obtain ⟨e1, g1⟩ := Prod.mk.inj (Option.some.inj h)
                subst e1
                obtain ⟨e2, g2⟩ := Prod.mk.inj g1
                subst e2
                obtain ⟨e3, g3⟩ := Prod.mk.inj g2
                subst e3
                obtain ⟨e4, g4⟩ := Prod.mk.inj g3
                subst e4
                obtain ⟨e5, g5⟩ := Prod.mk.inj g4
                subst e5
                subst g5
                exact j_iret K dX7_copy_77
            · refine j_sub [2] (lv' := [(0, .ref (a0 0))]) rfl ?_
              exact wX7_copy_53_v6 K a0 c_room c_courseKnown c_settledByKnown i1 i2 i3 i4 i5 o_r o_finding o_sh0 o_sh1 o_sh2 o_sh3 fei1 fei3 c_finding c_sh0 c_sh1 c_sh2 c_sh3 h
        · refine j_aald (b := (a0 51)) K 1 2 rfl rfl (vin4_3 fei3) (by rw [fei3]; rfl) dX7_copy_34 rfl ?_
          refine j_astore (lv' := [(7, .ref (a0 51)), (6, .ref (a0 47)), (0, .ref (a0 0)), (1, .int i1), (2, .int i2), (3, .int i3), (4, .int i4), (5, .int i5)]) K (by decide) rfl dX7_copy_35 rfl ?_
          refine j_aload K 1 rfl dX7_copy_37 rfl ?_
          refine j_getf (C := RX4) (T := TX4) (N := 4) (ci := 4) K icX4 4 3 (List.mem_cons_of_mem _ mw_12_6) rfl rfl rfl (by decide) rfl dX7_copy_39 rfl ?_
          refine j_if_ne (tgt := 53) K dX7_copy_42 (by decide) rfl h (fun h => ?_) (fun h => ?_)
          · refine j_sub [2] (lv' := [(0, .ref (a0 0))]) rfl ?_
            exact wX7_copy_53_v7 K a0 c_room c_courseKnown c_settledByKnown i1 i2 i3 i4 i5 o_r o_finding o_sh0 o_sh1 o_sh2 o_sh3 fei1 fei3 c_finding c_sh0 c_sh1 c_sh2 c_sh3 h
          · refine j_aload K 0 rfl dX7_copy_45 rfl ?_
            refine j_getf (C := RX4) (T := TX4) (N := 4) (ci := 4) K icX4 8 3 (List.mem_cons_of_mem _ mw_12_6) rfl rfl rfl (by decide) rfl dX7_copy_47 rfl ?_
            refine j_if_eq (tgt := 59) K dX7_copy_50 (by decide) rfl h (fun h => ?_) (fun h => ?_)
            · refine j_aload K 1 rfl dX7_copy_59 rfl ?_
              refine j_getf (C := RX4) (T := TX4) (N := 4) (ci := 4) K icX4 4 1 (List.mem_cons_of_mem _ mw_38_22) rfl rfl rfl (by decide) rfl dX7_copy_61 rfl ?_
              refine j_aload K 0 rfl dX7_copy_64 rfl ?_
              refine j_getf (C := RX4) (T := TX4) (N := 4) (ci := 4) K icX4 8 1 (List.mem_cons_of_mem _ mw_38_22) rfl rfl rfl (by decide) rfl dX7_copy_66 rfl ?_
              refine j_icmp_eq (tgt := 78) K dX7_copy_69 (by decide) rfl h (fun h => ?_) (fun h => ?_)
              · refine j_aload K 1 rfl dX7_copy_78 rfl ?_
                refine j_iload_n K 4 rfl dX7_copy_80 rfl ?_
                refine j_iload K 7 rfl dX7_copy_81 rfl ?_
                obtain ⟨r_68, hc, h⟩ := bd1_some h
                refine j_callV (rest := []) (st1 := [.int r_68]) (ws' := (uX7_copy cyI cyJ cyS a0 c_room c_finding c_courseKnown c_settledByKnown c_sh0.1 c_sh0.2.1 c_sh0.2.2.1 c_sh0.2.2.2 c_sh1.1 c_sh1.2.1 c_sh1.2.2.1 c_sh1.2.2.2 c_sh2.1 c_sh2.2.1 c_sh2.2.2.1 c_sh2.2.2.2 c_sh3.1 c_sh3.2.1 c_sh3.2.2.1 c_sh3.2.2.2)) (T := TX4) (N := 4) (ci := 4) K (ctX4_hasSpan l D cyI cyJ cyS (fun k => a0 (k + 47)) i2 i5 c_sh1.1 c_sh1.2.2.1 c_sh1.2.1 r_68 hc) (gdV mcL mw_39_3 mw_39_4 mw_39_5 mw_3_0 mw_39_6) rfl ⟨rfl, rfl⟩ hyX4_hasSpan ⟨Nat.le_of_ble_eq_true rfl, Nat.le_of_ble_eq_true rfl, Nat.le_of_ble_eq_true rfl, Nat.le_of_ble_eq_true rfl⟩ [4] (by decide) rfl [none, none, none, none, some 0, none, none, none, none, none] (by decide) rfl rfl 4 rfl rfl rfl rfl (Nat.le_of_ble_eq_true rfl) dX7_copy_83 rfl rfl ?_
                refine j_if_eq (tgt := 101) K dX7_copy_86 (by decide) rfl h (fun h => ?_) (fun h => ?_)
                · refine j_sub [2] (lv' := [(0, .ref (a0 0))]) rfl ?_
                  exact wX7_copy_101_v7 K a0 c_room c_courseKnown c_settledByKnown i1 i2 i3 i4 i5 o_r o_finding o_sh0 o_sh1 o_sh2 o_sh3 fei1 fei3 c_finding c_sh0 c_sh1 c_sh2 c_sh3 h
                · refine j_aload K 0 rfl dX7_copy_89 rfl ?_
                  refine j_iload K 6 rfl dX7_copy_91 rfl ?_
                  refine j_iload K 7 rfl dX7_copy_93 rfl ?_
                  obtain ⟨r_71, hc, h⟩ := bd1_some h
                  refine j_callV (rest := []) (st1 := [.int r_71]) (ws' := (uX7_copy cyI cyJ cyS a0 c_room c_finding c_courseKnown c_settledByKnown c_sh0.1 c_sh0.2.1 c_sh0.2.2.1 c_sh0.2.2.2 c_sh1.1 c_sh1.2.1 c_sh1.2.2.1 c_sh1.2.2.2 c_sh2.1 c_sh2.2.1 c_sh2.2.2.1 c_sh2.2.2.2 c_sh3.1 c_sh3.2.1 c_sh3.2.2.1 c_sh3.2.2.2)) (T := TX4) (N := 4) (ci := 4) K (ctX4_hasSpan l D cyI cyJ cyS (fun k => a0 (k + 51)) i4 i5 c_sh3.1 c_sh3.2.2.1 c_sh3.2.1 r_71 hc) (gdV mcL mw_39_3 mw_39_4 mw_39_5 mw_3_0 mw_39_6) rfl ⟨rfl, rfl⟩ hyX4_hasSpan ⟨Nat.le_of_ble_eq_true rfl, Nat.le_of_ble_eq_true rfl, Nat.le_of_ble_eq_true rfl, Nat.le_of_ble_eq_true rfl⟩ [8] (by decide) rfl [none, none, none, none, none, none, none, none, some 0, none] (by decide) rfl rfl 8 rfl rfl rfl rfl (Nat.le_of_ble_eq_true rfl) dX7_copy_95 rfl rfl ?_
                  refine j_if_ne (tgt := 107) K dX7_copy_98 (by decide) rfl h (fun h => ?_) (fun h => ?_)
                  · refine j_aload K 1 rfl dX7_copy_107 rfl ?_
                    refine j_getf (C := RX4) (T := TX4) (N := 4) (ci := 4) K icX4 4 0 (List.mem_cons_of_mem _ mw_12_7) rfl rfl rfl (by decide) rfl dX7_copy_109 rfl ?_
                    refine j_iload_n K 4 rfl dX7_copy_112 rfl ?_
                    refine j_aload K 0 rfl dX7_copy_113 rfl ?_
                    refine j_getf (C := RX4) (T := TX4) (N := 4) (ci := 4) K icX4 8 0 (List.mem_cons_of_mem _ mw_12_7) rfl rfl rfl (by decide) rfl dX7_copy_115 rfl ?_
                    refine j_iload K 6 rfl dX7_copy_118 rfl ?_
                    refine j_iload K 7 rfl dX7_copy_120 rfl ?_
                    refine j_copyi K 5 9 0 (fun z => (uX7_copy cyI cyJ cyS a0 c_room c_finding c_courseKnown c_settledByKnown c_sh0.1 c_sh0.2.1 c_sh0.2.2.1 c_sh0.2.2.2 c_sh1.1 c_sh1.2.1 c_sh1.2.2.1 c_sh1.2.2.2 c_sh2.1 c_sh2.2.1 c_sh2.2.2.1 c_sh2.2.2.2 c_sh3.1 c_sh3.2.1 c_sh3.2.2.1 z)) (List.mem_cons_of_mem _ mw_38_23) (List.mem_cons_of_mem _ mw_39_0) (List.mem_cons_of_mem _ mw_39_1) (List.mem_cons_of_mem _ mw_39_2) rfl rfl rfl (fun _ => rfl) ⟨Nat.le_of_ble_eq_true rfl, Nat.le_of_ble_eq_true rfl⟩ dX7_copy_122 rfl h (fun c_sh3_items_72 h => ?_)
                    refine j_iconst (v := (1 : Int32)) K (by decide) dX7_copy_125 rfl ?_
                    obtain ⟨e1, g1⟩ := Prod.mk.inj (Option.some.inj h)
                    subst e1
                    obtain ⟨e2, g2⟩ := Prod.mk.inj g1
                    subst e2
                    obtain ⟨e3, g3⟩ := Prod.mk.inj g2
                    subst e3
                    obtain ⟨e4, g4⟩ := Prod.mk.inj g3
                    subst e4
                    obtain ⟨e5, g5⟩ := Prod.mk.inj g4
                    subst e5
                    subst g5
                    exact j_iret K dX7_copy_126
                  · refine j_sub [2] (lv' := [(0, .ref (a0 0))]) rfl ?_
                    exact wX7_copy_101_v7 K a0 c_room c_courseKnown c_settledByKnown i1 i2 i3 i4 i5 o_r o_finding o_sh0 o_sh1 o_sh2 o_sh3 fei1 fei3 c_finding c_sh0 c_sh1 c_sh2 c_sh3 h
              · refine j_aload_n K 2 rfl dX7_copy_72 rfl ?_
                refine j_iconst (v := (4 : Int32)) K (by decide) dX7_copy_73 rfl ?_
                obtain ⟨r_73, c_finding_74, hc, h⟩ := bd2_some h
                refine j_callV (rest := []) (st1 := [.int r_73]) (ws' := (uX7_copy cyI cyJ cyS a0 c_room c_finding_74 c_courseKnown c_settledByKnown c_sh0.1 c_sh0.2.1 c_sh0.2.2.1 c_sh0.2.2.2 c_sh1.1 c_sh1.2.1 c_sh1.2.2.1 c_sh1.2.2.2 c_sh2.1 c_sh2.2.1 c_sh2.2.2.1 c_sh2.2.2.2 c_sh3.1 c_sh3.2.1 c_sh3.2.2.1 c_sh3.2.2.2)) (T := TX7) (N := 15) (ci := 7) K (ctX7_found l D cyI cyJ cyS a0 (4 : Int32) c_room c_courseKnown c_settledByKnown c_finding r_73 c_finding_74 hc) (gdV mcL mw_12_9 mw_12_10 mw_12_11 mw_1_2 mw_12_12) rfl ⟨rfl, rfl⟩ hyX7_found ⟨Nat.le_of_ble_eq_true rfl, Nat.le_of_ble_eq_true rfl, Nat.le_of_ble_eq_true rfl, Nat.le_of_ble_eq_true rfl⟩ [0] (by decide) rfl [some 0, none, none, none, none, none, none, none, none, none] (by decide) rfl rfl 0 rfl rfl rfl rfl (Nat.le_of_ble_eq_true rfl) dX7_copy_74 rfl rfl ?_
                obtain ⟨e1, g1⟩ := Prod.mk.inj (Option.some.inj h)
                subst e1
                obtain ⟨e2, g2⟩ := Prod.mk.inj g1
                subst e2
                obtain ⟨e3, g3⟩ := Prod.mk.inj g2
                subst e3
                obtain ⟨e4, g4⟩ := Prod.mk.inj g3
                subst e4
                obtain ⟨e5, g5⟩ := Prod.mk.inj g4
                subst e5
                subst g5
                exact j_iret K dX7_copy_77
            · refine j_sub [2] (lv' := [(0, .ref (a0 0))]) rfl ?_
              exact wX7_copy_53_v7 K a0 c_room c_courseKnown c_settledByKnown i1 i2 i3 i4 i5 o_r o_finding o_sh0 o_sh1 o_sh2 o_sh3 fei1 fei3 c_finding c_sh0 c_sh1 c_sh2 c_sh3 h
      · refine j_aald (b := (a0 49)) K 1 2 rfl rfl (vin4_2 fei1) (by rw [fei1]; rfl) dX7_copy_26 rfl ?_
        refine j_astore (lv' := [(6, .ref (a0 49)), (0, .ref (a0 0)), (1, .int i1), (2, .int i2), (3, .int i3), (4, .int i4), (5, .int i5)]) K (by decide) rfl dX7_copy_27 rfl ?_
        refine j_aload_n K 1 rfl dX7_copy_29 rfl ?_
        refine j_getf (C := RX7) (T := TX7) (N := 15) (ci := 7) K icX7 0 8 (List.mem_cons_of_mem _ mw_2_15) rfl rfl rfl (by decide) rfl dX7_copy_30 rfl ?_
        refine j_iload_n K 4 rfl dX7_copy_33 rfl ?_
        rcases sw4_some h with ⟨fei3, h⟩ | ⟨fei3, h⟩ | ⟨fei3, h⟩ | ⟨fei3, h⟩
        · refine j_aald (b := (a0 45)) K 1 2 rfl rfl (vin4_0 fei3) (by rw [fei3]; rfl) dX7_copy_34 rfl ?_
          refine j_astore (lv' := [(7, .ref (a0 45)), (6, .ref (a0 49)), (0, .ref (a0 0)), (1, .int i1), (2, .int i2), (3, .int i3), (4, .int i4), (5, .int i5)]) K (by decide) rfl dX7_copy_35 rfl ?_
          refine j_aload K 1 rfl dX7_copy_37 rfl ?_
          refine j_getf (C := RX4) (T := TX4) (N := 4) (ci := 4) K icX4 6 3 (List.mem_cons_of_mem _ mw_12_6) rfl rfl rfl (by decide) rfl dX7_copy_39 rfl ?_
          refine j_if_ne (tgt := 53) K dX7_copy_42 (by decide) rfl h (fun h => ?_) (fun h => ?_)
          · refine j_sub [2] (lv' := [(0, .ref (a0 0))]) rfl ?_
            exact wX7_copy_53_v8 K a0 c_room c_courseKnown c_settledByKnown i1 i2 i3 i4 i5 o_r o_finding o_sh0 o_sh1 o_sh2 o_sh3 fei1 fei3 c_finding c_sh0 c_sh1 c_sh2 c_sh3 h
          · refine j_aload K 0 rfl dX7_copy_45 rfl ?_
            refine j_getf (C := RX4) (T := TX4) (N := 4) (ci := 4) K icX4 2 3 (List.mem_cons_of_mem _ mw_12_6) rfl rfl rfl (by decide) rfl dX7_copy_47 rfl ?_
            refine j_if_eq (tgt := 59) K dX7_copy_50 (by decide) rfl h (fun h => ?_) (fun h => ?_)
            · refine j_aload K 1 rfl dX7_copy_59 rfl ?_
              refine j_getf (C := RX4) (T := TX4) (N := 4) (ci := 4) K icX4 6 1 (List.mem_cons_of_mem _ mw_38_22) rfl rfl rfl (by decide) rfl dX7_copy_61 rfl ?_
              refine j_aload K 0 rfl dX7_copy_64 rfl ?_
              refine j_getf (C := RX4) (T := TX4) (N := 4) (ci := 4) K icX4 2 1 (List.mem_cons_of_mem _ mw_38_22) rfl rfl rfl (by decide) rfl dX7_copy_66 rfl ?_
              refine j_icmp_eq (tgt := 78) K dX7_copy_69 (by decide) rfl h (fun h => ?_) (fun h => ?_)
              · refine j_aload K 1 rfl dX7_copy_78 rfl ?_
                refine j_iload_n K 4 rfl dX7_copy_80 rfl ?_
                refine j_iload K 7 rfl dX7_copy_81 rfl ?_
                obtain ⟨r_77, hc, h⟩ := bd1_some h
                refine j_callV (rest := []) (st1 := [.int r_77]) (ws' := (uX7_copy cyI cyJ cyS a0 c_room c_finding c_courseKnown c_settledByKnown c_sh0.1 c_sh0.2.1 c_sh0.2.2.1 c_sh0.2.2.2 c_sh1.1 c_sh1.2.1 c_sh1.2.2.1 c_sh1.2.2.2 c_sh2.1 c_sh2.2.1 c_sh2.2.2.1 c_sh2.2.2.2 c_sh3.1 c_sh3.2.1 c_sh3.2.2.1 c_sh3.2.2.2)) (T := TX4) (N := 4) (ci := 4) K (ctX4_hasSpan l D cyI cyJ cyS (fun k => a0 (k + 49)) i2 i5 c_sh2.1 c_sh2.2.2.1 c_sh2.2.1 r_77 hc) (gdV mcL mw_39_3 mw_39_4 mw_39_5 mw_3_0 mw_39_6) rfl ⟨rfl, rfl⟩ hyX4_hasSpan ⟨Nat.le_of_ble_eq_true rfl, Nat.le_of_ble_eq_true rfl, Nat.le_of_ble_eq_true rfl, Nat.le_of_ble_eq_true rfl⟩ [6] (by decide) rfl [none, none, none, none, none, none, some 0, none, none, none] (by decide) rfl rfl 6 rfl rfl rfl rfl (Nat.le_of_ble_eq_true rfl) dX7_copy_83 rfl rfl ?_
                refine j_if_eq (tgt := 101) K dX7_copy_86 (by decide) rfl h (fun h => ?_) (fun h => ?_)
                · refine j_sub [2] (lv' := [(0, .ref (a0 0))]) rfl ?_
                  exact wX7_copy_101_v8 K a0 c_room c_courseKnown c_settledByKnown i1 i2 i3 i4 i5 o_r o_finding o_sh0 o_sh1 o_sh2 o_sh3 fei1 fei3 c_finding c_sh0 c_sh1 c_sh2 c_sh3 h
                · refine j_aload K 0 rfl dX7_copy_89 rfl ?_
                  refine j_iload K 6 rfl dX7_copy_91 rfl ?_
                  refine j_iload K 7 rfl dX7_copy_93 rfl ?_
                  obtain ⟨r_80, hc, h⟩ := bd1_some h
                  refine j_callV (rest := []) (st1 := [.int r_80]) (ws' := (uX7_copy cyI cyJ cyS a0 c_room c_finding c_courseKnown c_settledByKnown c_sh0.1 c_sh0.2.1 c_sh0.2.2.1 c_sh0.2.2.2 c_sh1.1 c_sh1.2.1 c_sh1.2.2.1 c_sh1.2.2.2 c_sh2.1 c_sh2.2.1 c_sh2.2.2.1 c_sh2.2.2.2 c_sh3.1 c_sh3.2.1 c_sh3.2.2.1 c_sh3.2.2.2)) (T := TX4) (N := 4) (ci := 4) K (ctX4_hasSpan l D cyI cyJ cyS (fun k => a0 (k + 45)) i4 i5 c_sh0.1 c_sh0.2.2.1 c_sh0.2.1 r_80 hc) (gdV mcL mw_39_3 mw_39_4 mw_39_5 mw_3_0 mw_39_6) rfl ⟨rfl, rfl⟩ hyX4_hasSpan ⟨Nat.le_of_ble_eq_true rfl, Nat.le_of_ble_eq_true rfl, Nat.le_of_ble_eq_true rfl, Nat.le_of_ble_eq_true rfl⟩ [2] (by decide) rfl [none, none, some 0, none, none, none, none, none, none, none] (by decide) rfl rfl 2 rfl rfl rfl rfl (Nat.le_of_ble_eq_true rfl) dX7_copy_95 rfl rfl ?_
                  refine j_if_ne (tgt := 107) K dX7_copy_98 (by decide) rfl h (fun h => ?_) (fun h => ?_)
                  · refine j_aload K 1 rfl dX7_copy_107 rfl ?_
                    refine j_getf (C := RX4) (T := TX4) (N := 4) (ci := 4) K icX4 6 0 (List.mem_cons_of_mem _ mw_12_7) rfl rfl rfl (by decide) rfl dX7_copy_109 rfl ?_
                    refine j_iload_n K 4 rfl dX7_copy_112 rfl ?_
                    refine j_aload K 0 rfl dX7_copy_113 rfl ?_
                    refine j_getf (C := RX4) (T := TX4) (N := 4) (ci := 4) K icX4 2 0 (List.mem_cons_of_mem _ mw_12_7) rfl rfl rfl (by decide) rfl dX7_copy_115 rfl ?_
                    refine j_iload K 6 rfl dX7_copy_118 rfl ?_
                    refine j_iload K 7 rfl dX7_copy_120 rfl ?_
                    refine j_copyi K 7 3 0 (fun z => (uX7_copy cyI cyJ cyS a0 c_room c_finding c_courseKnown c_settledByKnown c_sh0.1 c_sh0.2.1 c_sh0.2.2.1 z c_sh1.1 c_sh1.2.1 c_sh1.2.2.1 c_sh1.2.2.2 c_sh2.1 c_sh2.2.1 c_sh2.2.2.1 c_sh2.2.2.2 c_sh3.1 c_sh3.2.1 c_sh3.2.2.1 c_sh3.2.2.2)) (List.mem_cons_of_mem _ mw_38_23) (List.mem_cons_of_mem _ mw_39_0) (List.mem_cons_of_mem _ mw_39_1) (List.mem_cons_of_mem _ mw_39_2) rfl rfl rfl (fun _ => rfl) ⟨Nat.le_of_ble_eq_true rfl, Nat.le_of_ble_eq_true rfl⟩ dX7_copy_122 rfl h (fun c_sh0_items_81 h => ?_)
                    refine j_iconst (v := (1 : Int32)) K (by decide) dX7_copy_125 rfl ?_
                    obtain ⟨e1, g1⟩ := Prod.mk.inj (Option.some.inj h)
                    subst e1
                    obtain ⟨e2, g2⟩ := Prod.mk.inj g1
                    subst e2
                    obtain ⟨e3, g3⟩ := Prod.mk.inj g2
                    subst e3
                    obtain ⟨e4, g4⟩ := Prod.mk.inj g3
                    subst e4
                    obtain ⟨e5, g5⟩ := Prod.mk.inj g4
                    subst e5
                    subst g5
                    exact j_iret K dX7_copy_126
                  · refine j_sub [2] (lv' := [(0, .ref (a0 0))]) rfl ?_
                    exact wX7_copy_101_v8 K a0 c_room c_courseKnown c_settledByKnown i1 i2 i3 i4 i5 o_r o_finding o_sh0 o_sh1 o_sh2 o_sh3 fei1 fei3 c_finding c_sh0 c_sh1 c_sh2 c_sh3 h
              · refine j_aload_n K 2 rfl dX7_copy_72 rfl ?_
                refine j_iconst (v := (4 : Int32)) K (by decide) dX7_copy_73 rfl ?_
                obtain ⟨r_82, c_finding_83, hc, h⟩ := bd2_some h
                refine j_callV (rest := []) (st1 := [.int r_82]) (ws' := (uX7_copy cyI cyJ cyS a0 c_room c_finding_83 c_courseKnown c_settledByKnown c_sh0.1 c_sh0.2.1 c_sh0.2.2.1 c_sh0.2.2.2 c_sh1.1 c_sh1.2.1 c_sh1.2.2.1 c_sh1.2.2.2 c_sh2.1 c_sh2.2.1 c_sh2.2.2.1 c_sh2.2.2.2 c_sh3.1 c_sh3.2.1 c_sh3.2.2.1 c_sh3.2.2.2)) (T := TX7) (N := 15) (ci := 7) K (ctX7_found l D cyI cyJ cyS a0 (4 : Int32) c_room c_courseKnown c_settledByKnown c_finding r_82 c_finding_83 hc) (gdV mcL mw_12_9 mw_12_10 mw_12_11 mw_1_2 mw_12_12) rfl ⟨rfl, rfl⟩ hyX7_found ⟨Nat.le_of_ble_eq_true rfl, Nat.le_of_ble_eq_true rfl, Nat.le_of_ble_eq_true rfl, Nat.le_of_ble_eq_true rfl⟩ [0] (by decide) rfl [some 0, none, none, none, none, none, none, none, none, none] (by decide) rfl rfl 0 rfl rfl rfl rfl (Nat.le_of_ble_eq_true rfl) dX7_copy_74 rfl rfl ?_
                obtain ⟨e1, g1⟩ := Prod.mk.inj (Option.some.inj h)
                subst e1
                obtain ⟨e2, g2⟩ := Prod.mk.inj g1
                subst e2
                obtain ⟨e3, g3⟩ := Prod.mk.inj g2
                subst e3
                obtain ⟨e4, g4⟩ := Prod.mk.inj g3
                subst e4
                obtain ⟨e5, g5⟩ := Prod.mk.inj g4
                subst e5
                subst g5
                exact j_iret K dX7_copy_77
            · refine j_sub [2] (lv' := [(0, .ref (a0 0))]) rfl ?_
              exact wX7_copy_53_v8 K a0 c_room c_courseKnown c_settledByKnown i1 i2 i3 i4 i5 o_r o_finding o_sh0 o_sh1 o_sh2 o_sh3 fei1 fei3 c_finding c_sh0 c_sh1 c_sh2 c_sh3 h
        · refine j_aald (b := (a0 47)) K 1 2 rfl rfl (vin4_1 fei3) (by rw [fei3]; rfl) dX7_copy_34 rfl ?_
          refine j_astore (lv' := [(7, .ref (a0 47)), (6, .ref (a0 49)), (0, .ref (a0 0)), (1, .int i1), (2, .int i2), (3, .int i3), (4, .int i4), (5, .int i5)]) K (by decide) rfl dX7_copy_35 rfl ?_
          refine j_aload K 1 rfl dX7_copy_37 rfl ?_
          refine j_getf (C := RX4) (T := TX4) (N := 4) (ci := 4) K icX4 6 3 (List.mem_cons_of_mem _ mw_12_6) rfl rfl rfl (by decide) rfl dX7_copy_39 rfl ?_
          refine j_if_ne (tgt := 53) K dX7_copy_42 (by decide) rfl h (fun h => ?_) (fun h => ?_)
          · refine j_sub [2] (lv' := [(0, .ref (a0 0))]) rfl ?_
            exact wX7_copy_53_v9 K a0 c_room c_courseKnown c_settledByKnown i1 i2 i3 i4 i5 o_r o_finding o_sh0 o_sh1 o_sh2 o_sh3 fei1 fei3 c_finding c_sh0 c_sh1 c_sh2 c_sh3 h
          · refine j_aload K 0 rfl dX7_copy_45 rfl ?_
            refine j_getf (C := RX4) (T := TX4) (N := 4) (ci := 4) K icX4 4 3 (List.mem_cons_of_mem _ mw_12_6) rfl rfl rfl (by decide) rfl dX7_copy_47 rfl ?_
            refine j_if_eq (tgt := 59) K dX7_copy_50 (by decide) rfl h (fun h => ?_) (fun h => ?_)
            · refine j_aload K 1 rfl dX7_copy_59 rfl ?_
              refine j_getf (C := RX4) (T := TX4) (N := 4) (ci := 4) K icX4 6 1 (List.mem_cons_of_mem _ mw_38_22) rfl rfl rfl (by decide) rfl dX7_copy_61 rfl ?_
              refine j_aload K 0 rfl dX7_copy_64 rfl ?_
              refine j_getf (C := RX4) (T := TX4) (N := 4) (ci := 4) K icX4 4 1 (List.mem_cons_of_mem _ mw_38_22) rfl rfl rfl (by decide) rfl dX7_copy_66 rfl ?_
              refine j_icmp_eq (tgt := 78) K dX7_copy_69 (by decide) rfl h (fun h => ?_) (fun h => ?_)
              · refine j_aload K 1 rfl dX7_copy_78 rfl ?_
                refine j_iload_n K 4 rfl dX7_copy_80 rfl ?_
                refine j_iload K 7 rfl dX7_copy_81 rfl ?_
                obtain ⟨r_86, hc, h⟩ := bd1_some h
                refine j_callV (rest := []) (st1 := [.int r_86]) (ws' := (uX7_copy cyI cyJ cyS a0 c_room c_finding c_courseKnown c_settledByKnown c_sh0.1 c_sh0.2.1 c_sh0.2.2.1 c_sh0.2.2.2 c_sh1.1 c_sh1.2.1 c_sh1.2.2.1 c_sh1.2.2.2 c_sh2.1 c_sh2.2.1 c_sh2.2.2.1 c_sh2.2.2.2 c_sh3.1 c_sh3.2.1 c_sh3.2.2.1 c_sh3.2.2.2)) (T := TX4) (N := 4) (ci := 4) K (ctX4_hasSpan l D cyI cyJ cyS (fun k => a0 (k + 49)) i2 i5 c_sh2.1 c_sh2.2.2.1 c_sh2.2.1 r_86 hc) (gdV mcL mw_39_3 mw_39_4 mw_39_5 mw_3_0 mw_39_6) rfl ⟨rfl, rfl⟩ hyX4_hasSpan ⟨Nat.le_of_ble_eq_true rfl, Nat.le_of_ble_eq_true rfl, Nat.le_of_ble_eq_true rfl, Nat.le_of_ble_eq_true rfl⟩ [6] (by decide) rfl [none, none, none, none, none, none, some 0, none, none, none] (by decide) rfl rfl 6 rfl rfl rfl rfl (Nat.le_of_ble_eq_true rfl) dX7_copy_83 rfl rfl ?_
                refine j_if_eq (tgt := 101) K dX7_copy_86 (by decide) rfl h (fun h => ?_) (fun h => ?_)
                · refine j_sub [2] (lv' := [(0, .ref (a0 0))]) rfl ?_
                  exact wX7_copy_101_v9 K a0 c_room c_courseKnown c_settledByKnown i1 i2 i3 i4 i5 o_r o_finding o_sh0 o_sh1 o_sh2 o_sh3 fei1 fei3 c_finding c_sh0 c_sh1 c_sh2 c_sh3 h
                · refine j_aload K 0 rfl dX7_copy_89 rfl ?_
                  refine j_iload K 6 rfl dX7_copy_91 rfl ?_
                  refine j_iload K 7 rfl dX7_copy_93 rfl ?_
                  obtain ⟨r_89, hc, h⟩ := bd1_some h
                  refine j_callV (rest := []) (st1 := [.int r_89]) (ws' := (uX7_copy cyI cyJ cyS a0 c_room c_finding c_courseKnown c_settledByKnown c_sh0.1 c_sh0.2.1 c_sh0.2.2.1 c_sh0.2.2.2 c_sh1.1 c_sh1.2.1 c_sh1.2.2.1 c_sh1.2.2.2 c_sh2.1 c_sh2.2.1 c_sh2.2.2.1 c_sh2.2.2.2 c_sh3.1 c_sh3.2.1 c_sh3.2.2.1 c_sh3.2.2.2)) (T := TX4) (N := 4) (ci := 4) K (ctX4_hasSpan l D cyI cyJ cyS (fun k => a0 (k + 47)) i4 i5 c_sh1.1 c_sh1.2.2.1 c_sh1.2.1 r_89 hc) (gdV mcL mw_39_3 mw_39_4 mw_39_5 mw_3_0 mw_39_6) rfl ⟨rfl, rfl⟩ hyX4_hasSpan ⟨Nat.le_of_ble_eq_true rfl, Nat.le_of_ble_eq_true rfl, Nat.le_of_ble_eq_true rfl, Nat.le_of_ble_eq_true rfl⟩ [4] (by decide) rfl [none, none, none, none, some 0, none, none, none, none, none] (by decide) rfl rfl 4 rfl rfl rfl rfl (Nat.le_of_ble_eq_true rfl) dX7_copy_95 rfl rfl ?_
                  refine j_if_ne (tgt := 107) K dX7_copy_98 (by decide) rfl h (fun h => ?_) (fun h => ?_)
                  · refine j_aload K 1 rfl dX7_copy_107 rfl ?_
                    refine j_getf (C := RX4) (T := TX4) (N := 4) (ci := 4) K icX4 6 0 (List.mem_cons_of_mem _ mw_12_7) rfl rfl rfl (by decide) rfl dX7_copy_109 rfl ?_
                    refine j_iload_n K 4 rfl dX7_copy_112 rfl ?_
                    refine j_aload K 0 rfl dX7_copy_113 rfl ?_
                    refine j_getf (C := RX4) (T := TX4) (N := 4) (ci := 4) K icX4 4 0 (List.mem_cons_of_mem _ mw_12_7) rfl rfl rfl (by decide) rfl dX7_copy_115 rfl ?_
                    refine j_iload K 6 rfl dX7_copy_118 rfl ?_
                    refine j_iload K 7 rfl dX7_copy_120 rfl ?_
                    refine j_copyi K 7 5 0 (fun z => (uX7_copy cyI cyJ cyS a0 c_room c_finding c_courseKnown c_settledByKnown c_sh0.1 c_sh0.2.1 c_sh0.2.2.1 c_sh0.2.2.2 c_sh1.1 c_sh1.2.1 c_sh1.2.2.1 z c_sh2.1 c_sh2.2.1 c_sh2.2.2.1 c_sh2.2.2.2 c_sh3.1 c_sh3.2.1 c_sh3.2.2.1 c_sh3.2.2.2)) (List.mem_cons_of_mem _ mw_38_23) (List.mem_cons_of_mem _ mw_39_0) (List.mem_cons_of_mem _ mw_39_1) (List.mem_cons_of_mem _ mw_39_2) rfl rfl rfl (fun _ => rfl) ⟨Nat.le_of_ble_eq_true rfl, Nat.le_of_ble_eq_true rfl⟩ dX7_copy_122 rfl h (fun c_sh1_items_90 h => ?_)
                    refine j_iconst (v := (1 : Int32)) K (by decide) dX7_copy_125 rfl ?_
                    obtain ⟨e1, g1⟩ := Prod.mk.inj (Option.some.inj h)
                    subst e1
                    obtain ⟨e2, g2⟩ := Prod.mk.inj g1
                    subst e2
                    obtain ⟨e3, g3⟩ := Prod.mk.inj g2
                    subst e3
                    obtain ⟨e4, g4⟩ := Prod.mk.inj g3
                    subst e4
                    obtain ⟨e5, g5⟩ := Prod.mk.inj g4
                    subst e5
                    subst g5
                    exact j_iret K dX7_copy_126
                  · refine j_sub [2] (lv' := [(0, .ref (a0 0))]) rfl ?_
                    exact wX7_copy_101_v9 K a0 c_room c_courseKnown c_settledByKnown i1 i2 i3 i4 i5 o_r o_finding o_sh0 o_sh1 o_sh2 o_sh3 fei1 fei3 c_finding c_sh0 c_sh1 c_sh2 c_sh3 h
              · refine j_aload_n K 2 rfl dX7_copy_72 rfl ?_
                refine j_iconst (v := (4 : Int32)) K (by decide) dX7_copy_73 rfl ?_
                obtain ⟨r_91, c_finding_92, hc, h⟩ := bd2_some h
                refine j_callV (rest := []) (st1 := [.int r_91]) (ws' := (uX7_copy cyI cyJ cyS a0 c_room c_finding_92 c_courseKnown c_settledByKnown c_sh0.1 c_sh0.2.1 c_sh0.2.2.1 c_sh0.2.2.2 c_sh1.1 c_sh1.2.1 c_sh1.2.2.1 c_sh1.2.2.2 c_sh2.1 c_sh2.2.1 c_sh2.2.2.1 c_sh2.2.2.2 c_sh3.1 c_sh3.2.1 c_sh3.2.2.1 c_sh3.2.2.2)) (T := TX7) (N := 15) (ci := 7) K (ctX7_found l D cyI cyJ cyS a0 (4 : Int32) c_room c_courseKnown c_settledByKnown c_finding r_91 c_finding_92 hc) (gdV mcL mw_12_9 mw_12_10 mw_12_11 mw_1_2 mw_12_12) rfl ⟨rfl, rfl⟩ hyX7_found ⟨Nat.le_of_ble_eq_true rfl, Nat.le_of_ble_eq_true rfl, Nat.le_of_ble_eq_true rfl, Nat.le_of_ble_eq_true rfl⟩ [0] (by decide) rfl [some 0, none, none, none, none, none, none, none, none, none] (by decide) rfl rfl 0 rfl rfl rfl rfl (Nat.le_of_ble_eq_true rfl) dX7_copy_74 rfl rfl ?_
                obtain ⟨e1, g1⟩ := Prod.mk.inj (Option.some.inj h)
                subst e1
                obtain ⟨e2, g2⟩ := Prod.mk.inj g1
                subst e2
                obtain ⟨e3, g3⟩ := Prod.mk.inj g2
                subst e3
                obtain ⟨e4, g4⟩ := Prod.mk.inj g3
                subst e4
                obtain ⟨e5, g5⟩ := Prod.mk.inj g4
                subst e5
                subst g5
                exact j_iret K dX7_copy_77
            · refine j_sub [2] (lv' := [(0, .ref (a0 0))]) rfl ?_
              exact wX7_copy_53_v9 K a0 c_room c_courseKnown c_settledByKnown i1 i2 i3 i4 i5 o_r o_finding o_sh0 o_sh1 o_sh2 o_sh3 fei1 fei3 c_finding c_sh0 c_sh1 c_sh2 c_sh3 h
        · refine j_aald (b := (a0 49)) K 1 2 rfl rfl (vin4_2 fei3) (by rw [fei3]; rfl) dX7_copy_34 rfl ?_
          refine j_astore (lv' := [(7, .ref (a0 49)), (6, .ref (a0 49)), (0, .ref (a0 0)), (1, .int i1), (2, .int i2), (3, .int i3), (4, .int i4), (5, .int i5)]) K (by decide) rfl dX7_copy_35 rfl ?_
          refine j_aload K 1 rfl dX7_copy_37 rfl ?_
          refine j_getf (C := RX4) (T := TX4) (N := 4) (ci := 4) K icX4 6 3 (List.mem_cons_of_mem _ mw_12_6) rfl rfl rfl (by decide) rfl dX7_copy_39 rfl ?_
          refine j_if_ne (tgt := 53) K dX7_copy_42 (by decide) rfl h (fun h => ?_) (fun h => ?_)
          · refine j_sub [2] (lv' := [(0, .ref (a0 0))]) rfl ?_
            exact wX7_copy_53_v10 K a0 c_room c_courseKnown c_settledByKnown i1 i2 i3 i4 i5 o_r o_finding o_sh0 o_sh1 o_sh2 o_sh3 fei1 fei3 c_finding c_sh0 c_sh1 c_sh2 c_sh3 h
          · refine j_aload K 0 rfl dX7_copy_45 rfl ?_
            refine j_getf (C := RX4) (T := TX4) (N := 4) (ci := 4) K icX4 6 3 (List.mem_cons_of_mem _ mw_12_6) rfl rfl rfl (by decide) rfl dX7_copy_47 rfl ?_
            refine j_if_eq (tgt := 59) K dX7_copy_50 (by decide) rfl h (fun h => ?_) (fun h => ?_)
            · refine j_aload K 1 rfl dX7_copy_59 rfl ?_
              refine j_getf (C := RX4) (T := TX4) (N := 4) (ci := 4) K icX4 6 1 (List.mem_cons_of_mem _ mw_38_22) rfl rfl rfl (by decide) rfl dX7_copy_61 rfl ?_
              refine j_aload K 0 rfl dX7_copy_64 rfl ?_
              refine j_getf (C := RX4) (T := TX4) (N := 4) (ci := 4) K icX4 6 1 (List.mem_cons_of_mem _ mw_38_22) rfl rfl rfl (by decide) rfl dX7_copy_66 rfl ?_
              refine j_icmp_eq (tgt := 78) K dX7_copy_69 (by decide) rfl h (fun h => ?_) (fun h => ?_)
              · refine j_aload K 1 rfl dX7_copy_78 rfl ?_
                refine j_iload_n K 4 rfl dX7_copy_80 rfl ?_
                refine j_iload K 7 rfl dX7_copy_81 rfl ?_
                obtain ⟨r_95, hc, h⟩ := bd1_some h
                refine j_callV (rest := []) (st1 := [.int r_95]) (ws' := (uX7_copy cyI cyJ cyS a0 c_room c_finding c_courseKnown c_settledByKnown c_sh0.1 c_sh0.2.1 c_sh0.2.2.1 c_sh0.2.2.2 c_sh1.1 c_sh1.2.1 c_sh1.2.2.1 c_sh1.2.2.2 c_sh2.1 c_sh2.2.1 c_sh2.2.2.1 c_sh2.2.2.2 c_sh3.1 c_sh3.2.1 c_sh3.2.2.1 c_sh3.2.2.2)) (T := TX4) (N := 4) (ci := 4) K (ctX4_hasSpan l D cyI cyJ cyS (fun k => a0 (k + 49)) i2 i5 c_sh2.1 c_sh2.2.2.1 c_sh2.2.1 r_95 hc) (gdV mcL mw_39_3 mw_39_4 mw_39_5 mw_3_0 mw_39_6) rfl ⟨rfl, rfl⟩ hyX4_hasSpan ⟨Nat.le_of_ble_eq_true rfl, Nat.le_of_ble_eq_true rfl, Nat.le_of_ble_eq_true rfl, Nat.le_of_ble_eq_true rfl⟩ [6] (by decide) rfl [none, none, none, none, none, none, some 0, none, none, none] (by decide) rfl rfl 6 rfl rfl rfl rfl (Nat.le_of_ble_eq_true rfl) dX7_copy_83 rfl rfl ?_
                refine j_if_eq (tgt := 101) K dX7_copy_86 (by decide) rfl h (fun h => ?_) (fun h => ?_)
                · refine j_sub [2] (lv' := [(0, .ref (a0 0))]) rfl ?_
                  exact wX7_copy_101_v10 K a0 c_room c_courseKnown c_settledByKnown i1 i2 i3 i4 i5 o_r o_finding o_sh0 o_sh1 o_sh2 o_sh3 fei1 fei3 c_finding c_sh0 c_sh1 c_sh2 c_sh3 h
                · refine j_aload K 0 rfl dX7_copy_89 rfl ?_
                  refine j_iload K 6 rfl dX7_copy_91 rfl ?_
                  refine j_iload K 7 rfl dX7_copy_93 rfl ?_
                  obtain ⟨r_98, hc, h⟩ := bd1_some h
                  refine j_callV (rest := []) (st1 := [.int r_98]) (ws' := (uX7_copy cyI cyJ cyS a0 c_room c_finding c_courseKnown c_settledByKnown c_sh0.1 c_sh0.2.1 c_sh0.2.2.1 c_sh0.2.2.2 c_sh1.1 c_sh1.2.1 c_sh1.2.2.1 c_sh1.2.2.2 c_sh2.1 c_sh2.2.1 c_sh2.2.2.1 c_sh2.2.2.2 c_sh3.1 c_sh3.2.1 c_sh3.2.2.1 c_sh3.2.2.2)) (T := TX4) (N := 4) (ci := 4) K (ctX4_hasSpan l D cyI cyJ cyS (fun k => a0 (k + 49)) i4 i5 c_sh2.1 c_sh2.2.2.1 c_sh2.2.1 r_98 hc) (gdV mcL mw_39_3 mw_39_4 mw_39_5 mw_3_0 mw_39_6) rfl ⟨rfl, rfl⟩ hyX4_hasSpan ⟨Nat.le_of_ble_eq_true rfl, Nat.le_of_ble_eq_true rfl, Nat.le_of_ble_eq_true rfl, Nat.le_of_ble_eq_true rfl⟩ [6] (by decide) rfl [none, none, none, none, none, none, some 0, none, none, none] (by decide) rfl rfl 6 rfl rfl rfl rfl (Nat.le_of_ble_eq_true rfl) dX7_copy_95 rfl rfl ?_
                  refine j_if_ne (tgt := 107) K dX7_copy_98 (by decide) rfl h (fun h => ?_) (fun h => ?_)
                  · refine j_aload K 1 rfl dX7_copy_107 rfl ?_
                    refine j_getf (C := RX4) (T := TX4) (N := 4) (ci := 4) K icX4 6 0 (List.mem_cons_of_mem _ mw_12_7) rfl rfl rfl (by decide) rfl dX7_copy_109 rfl ?_
                    refine j_iload_n K 4 rfl dX7_copy_112 rfl ?_
                    refine j_aload K 0 rfl dX7_copy_113 rfl ?_
                    refine j_getf (C := RX4) (T := TX4) (N := 4) (ci := 4) K icX4 6 0 (List.mem_cons_of_mem _ mw_12_7) rfl rfl rfl (by decide) rfl dX7_copy_115 rfl ?_
                    refine j_iload K 6 rfl dX7_copy_118 rfl ?_
                    refine j_iload K 7 rfl dX7_copy_120 rfl ?_
                    refine j_copyi K 7 7 0 (fun z => (uX7_copy cyI cyJ cyS a0 c_room c_finding c_courseKnown c_settledByKnown c_sh0.1 c_sh0.2.1 c_sh0.2.2.1 c_sh0.2.2.2 c_sh1.1 c_sh1.2.1 c_sh1.2.2.1 c_sh1.2.2.2 c_sh2.1 c_sh2.2.1 c_sh2.2.2.1 z c_sh3.1 c_sh3.2.1 c_sh3.2.2.1 c_sh3.2.2.2)) (List.mem_cons_of_mem _ mw_38_23) (List.mem_cons_of_mem _ mw_39_0) (List.mem_cons_of_mem _ mw_39_1) (List.mem_cons_of_mem _ mw_39_2) rfl rfl rfl (fun _ => rfl) ⟨Nat.le_of_ble_eq_true rfl, Nat.le_of_ble_eq_true rfl⟩ dX7_copy_122 rfl h (fun c_sh2_items_99 h => ?_)
                    refine j_iconst (v := (1 : Int32)) K (by decide) dX7_copy_125 rfl ?_
                    obtain ⟨e1, g1⟩ := Prod.mk.inj (Option.some.inj h)
                    subst e1
                    obtain ⟨e2, g2⟩ := Prod.mk.inj g1
                    subst e2
                    obtain ⟨e3, g3⟩ := Prod.mk.inj g2
                    subst e3
                    obtain ⟨e4, g4⟩ := Prod.mk.inj g3
                    subst e4
                    obtain ⟨e5, g5⟩ := Prod.mk.inj g4
                    subst e5
                    subst g5
                    exact j_iret K dX7_copy_126
                  · refine j_sub [2] (lv' := [(0, .ref (a0 0))]) rfl ?_
                    exact wX7_copy_101_v10 K a0 c_room c_courseKnown c_settledByKnown i1 i2 i3 i4 i5 o_r o_finding o_sh0 o_sh1 o_sh2 o_sh3 fei1 fei3 c_finding c_sh0 c_sh1 c_sh2 c_sh3 h
              · refine j_aload_n K 2 rfl dX7_copy_72 rfl ?_
                refine j_iconst (v := (4 : Int32)) K (by decide) dX7_copy_73 rfl ?_
                obtain ⟨r_100, c_finding_101, hc, h⟩ := bd2_some h
                refine j_callV (rest := []) (st1 := [.int r_100]) (ws' := (uX7_copy cyI cyJ cyS a0 c_room c_finding_101 c_courseKnown c_settledByKnown c_sh0.1 c_sh0.2.1 c_sh0.2.2.1 c_sh0.2.2.2 c_sh1.1 c_sh1.2.1 c_sh1.2.2.1 c_sh1.2.2.2 c_sh2.1 c_sh2.2.1 c_sh2.2.2.1 c_sh2.2.2.2 c_sh3.1 c_sh3.2.1 c_sh3.2.2.1 c_sh3.2.2.2)) (T := TX7) (N := 15) (ci := 7) K (ctX7_found l D cyI cyJ cyS a0 (4 : Int32) c_room c_courseKnown c_settledByKnown c_finding r_100 c_finding_101 hc) (gdV mcL mw_12_9 mw_12_10 mw_12_11 mw_1_2 mw_12_12) rfl ⟨rfl, rfl⟩ hyX7_found ⟨Nat.le_of_ble_eq_true rfl, Nat.le_of_ble_eq_true rfl, Nat.le_of_ble_eq_true rfl, Nat.le_of_ble_eq_true rfl⟩ [0] (by decide) rfl [some 0, none, none, none, none, none, none, none, none, none] (by decide) rfl rfl 0 rfl rfl rfl rfl (Nat.le_of_ble_eq_true rfl) dX7_copy_74 rfl rfl ?_
                obtain ⟨e1, g1⟩ := Prod.mk.inj (Option.some.inj h)
                subst e1
                obtain ⟨e2, g2⟩ := Prod.mk.inj g1
                subst e2
                obtain ⟨e3, g3⟩ := Prod.mk.inj g2
                subst e3
                obtain ⟨e4, g4⟩ := Prod.mk.inj g3
                subst e4
                obtain ⟨e5, g5⟩ := Prod.mk.inj g4
                subst e5
                subst g5
                exact j_iret K dX7_copy_77
            · refine j_sub [2] (lv' := [(0, .ref (a0 0))]) rfl ?_
              exact wX7_copy_53_v10 K a0 c_room c_courseKnown c_settledByKnown i1 i2 i3 i4 i5 o_r o_finding o_sh0 o_sh1 o_sh2 o_sh3 fei1 fei3 c_finding c_sh0 c_sh1 c_sh2 c_sh3 h
        · refine j_aald (b := (a0 51)) K 1 2 rfl rfl (vin4_3 fei3) (by rw [fei3]; rfl) dX7_copy_34 rfl ?_
          refine j_astore (lv' := [(7, .ref (a0 51)), (6, .ref (a0 49)), (0, .ref (a0 0)), (1, .int i1), (2, .int i2), (3, .int i3), (4, .int i4), (5, .int i5)]) K (by decide) rfl dX7_copy_35 rfl ?_
          refine j_aload K 1 rfl dX7_copy_37 rfl ?_
          refine j_getf (C := RX4) (T := TX4) (N := 4) (ci := 4) K icX4 6 3 (List.mem_cons_of_mem _ mw_12_6) rfl rfl rfl (by decide) rfl dX7_copy_39 rfl ?_
          refine j_if_ne (tgt := 53) K dX7_copy_42 (by decide) rfl h (fun h => ?_) (fun h => ?_)
          · refine j_sub [2] (lv' := [(0, .ref (a0 0))]) rfl ?_
            exact wX7_copy_53_v11 K a0 c_room c_courseKnown c_settledByKnown i1 i2 i3 i4 i5 o_r o_finding o_sh0 o_sh1 o_sh2 o_sh3 fei1 fei3 c_finding c_sh0 c_sh1 c_sh2 c_sh3 h
          · refine j_aload K 0 rfl dX7_copy_45 rfl ?_
            refine j_getf (C := RX4) (T := TX4) (N := 4) (ci := 4) K icX4 8 3 (List.mem_cons_of_mem _ mw_12_6) rfl rfl rfl (by decide) rfl dX7_copy_47 rfl ?_
            refine j_if_eq (tgt := 59) K dX7_copy_50 (by decide) rfl h (fun h => ?_) (fun h => ?_)
            · refine j_aload K 1 rfl dX7_copy_59 rfl ?_
              refine j_getf (C := RX4) (T := TX4) (N := 4) (ci := 4) K icX4 6 1 (List.mem_cons_of_mem _ mw_38_22) rfl rfl rfl (by decide) rfl dX7_copy_61 rfl ?_
              refine j_aload K 0 rfl dX7_copy_64 rfl ?_
              refine j_getf (C := RX4) (T := TX4) (N := 4) (ci := 4) K icX4 8 1 (List.mem_cons_of_mem _ mw_38_22) rfl rfl rfl (by decide) rfl dX7_copy_66 rfl ?_
              refine j_icmp_eq (tgt := 78) K dX7_copy_69 (by decide) rfl h (fun h => ?_) (fun h => ?_)
              · refine j_aload K 1 rfl dX7_copy_78 rfl ?_
                refine j_iload_n K 4 rfl dX7_copy_80 rfl ?_
                refine j_iload K 7 rfl dX7_copy_81 rfl ?_
                obtain ⟨r_104, hc, h⟩ := bd1_some h
                refine j_callV (rest := []) (st1 := [.int r_104]) (ws' := (uX7_copy cyI cyJ cyS a0 c_room c_finding c_courseKnown c_settledByKnown c_sh0.1 c_sh0.2.1 c_sh0.2.2.1 c_sh0.2.2.2 c_sh1.1 c_sh1.2.1 c_sh1.2.2.1 c_sh1.2.2.2 c_sh2.1 c_sh2.2.1 c_sh2.2.2.1 c_sh2.2.2.2 c_sh3.1 c_sh3.2.1 c_sh3.2.2.1 c_sh3.2.2.2)) (T := TX4) (N := 4) (ci := 4) K (ctX4_hasSpan l D cyI cyJ cyS (fun k => a0 (k + 49)) i2 i5 c_sh2.1 c_sh2.2.2.1 c_sh2.2.1 r_104 hc) (gdV mcL mw_39_3 mw_39_4 mw_39_5 mw_3_0 mw_39_6) rfl ⟨rfl, rfl⟩ hyX4_hasSpan ⟨Nat.le_of_ble_eq_true rfl, Nat.le_of_ble_eq_true rfl, Nat.le_of_ble_eq_true rfl, Nat.le_of_ble_eq_true rfl⟩ [6] (by decide) rfl [none, none, none, none, none, none, some 0, none, none, none] (by decide) rfl rfl 6 rfl rfl rfl rfl (Nat.le_of_ble_eq_true rfl) dX7_copy_83 rfl rfl ?_
                refine j_if_eq (tgt := 101) K dX7_copy_86 (by decide) rfl h (fun h => ?_) (fun h => ?_)
                · refine j_sub [2] (lv' := [(0, .ref (a0 0))]) rfl ?_
                  exact wX7_copy_101_v11 K a0 c_room c_courseKnown c_settledByKnown i1 i2 i3 i4 i5 o_r o_finding o_sh0 o_sh1 o_sh2 o_sh3 fei1 fei3 c_finding c_sh0 c_sh1 c_sh2 c_sh3 h
                · refine j_aload K 0 rfl dX7_copy_89 rfl ?_
                  refine j_iload K 6 rfl dX7_copy_91 rfl ?_
                  refine j_iload K 7 rfl dX7_copy_93 rfl ?_
                  obtain ⟨r_107, hc, h⟩ := bd1_some h
                  refine j_callV (rest := []) (st1 := [.int r_107]) (ws' := (uX7_copy cyI cyJ cyS a0 c_room c_finding c_courseKnown c_settledByKnown c_sh0.1 c_sh0.2.1 c_sh0.2.2.1 c_sh0.2.2.2 c_sh1.1 c_sh1.2.1 c_sh1.2.2.1 c_sh1.2.2.2 c_sh2.1 c_sh2.2.1 c_sh2.2.2.1 c_sh2.2.2.2 c_sh3.1 c_sh3.2.1 c_sh3.2.2.1 c_sh3.2.2.2)) (T := TX4) (N := 4) (ci := 4) K (ctX4_hasSpan l D cyI cyJ cyS (fun k => a0 (k + 51)) i4 i5 c_sh3.1 c_sh3.2.2.1 c_sh3.2.1 r_107 hc) (gdV mcL mw_39_3 mw_39_4 mw_39_5 mw_3_0 mw_39_6) rfl ⟨rfl, rfl⟩ hyX4_hasSpan ⟨Nat.le_of_ble_eq_true rfl, Nat.le_of_ble_eq_true rfl, Nat.le_of_ble_eq_true rfl, Nat.le_of_ble_eq_true rfl⟩ [8] (by decide) rfl [none, none, none, none, none, none, none, none, some 0, none] (by decide) rfl rfl 8 rfl rfl rfl rfl (Nat.le_of_ble_eq_true rfl) dX7_copy_95 rfl rfl ?_
                  refine j_if_ne (tgt := 107) K dX7_copy_98 (by decide) rfl h (fun h => ?_) (fun h => ?_)
                  · refine j_aload K 1 rfl dX7_copy_107 rfl ?_
                    refine j_getf (C := RX4) (T := TX4) (N := 4) (ci := 4) K icX4 6 0 (List.mem_cons_of_mem _ mw_12_7) rfl rfl rfl (by decide) rfl dX7_copy_109 rfl ?_
                    refine j_iload_n K 4 rfl dX7_copy_112 rfl ?_
                    refine j_aload K 0 rfl dX7_copy_113 rfl ?_
                    refine j_getf (C := RX4) (T := TX4) (N := 4) (ci := 4) K icX4 8 0 (List.mem_cons_of_mem _ mw_12_7) rfl rfl rfl (by decide) rfl dX7_copy_115 rfl ?_
                    refine j_iload K 6 rfl dX7_copy_118 rfl ?_
                    refine j_iload K 7 rfl dX7_copy_120 rfl ?_
                    refine j_copyi K 7 9 0 (fun z => (uX7_copy cyI cyJ cyS a0 c_room c_finding c_courseKnown c_settledByKnown c_sh0.1 c_sh0.2.1 c_sh0.2.2.1 c_sh0.2.2.2 c_sh1.1 c_sh1.2.1 c_sh1.2.2.1 c_sh1.2.2.2 c_sh2.1 c_sh2.2.1 c_sh2.2.2.1 c_sh2.2.2.2 c_sh3.1 c_sh3.2.1 c_sh3.2.2.1 z)) (List.mem_cons_of_mem _ mw_38_23) (List.mem_cons_of_mem _ mw_39_0) (List.mem_cons_of_mem _ mw_39_1) (List.mem_cons_of_mem _ mw_39_2) rfl rfl rfl (fun _ => rfl) ⟨Nat.le_of_ble_eq_true rfl, Nat.le_of_ble_eq_true rfl⟩ dX7_copy_122 rfl h (fun c_sh3_items_108 h => ?_)
                    refine j_iconst (v := (1 : Int32)) K (by decide) dX7_copy_125 rfl ?_
                    obtain ⟨e1, g1⟩ := Prod.mk.inj (Option.some.inj h)
                    subst e1
                    obtain ⟨e2, g2⟩ := Prod.mk.inj g1
                    subst e2
                    obtain ⟨e3, g3⟩ := Prod.mk.inj g2
                    subst e3
                    obtain ⟨e4, g4⟩ := Prod.mk.inj g3
                    subst e4
                    obtain ⟨e5, g5⟩ := Prod.mk.inj g4
                    subst e5
                    subst g5
                    exact j_iret K dX7_copy_126
                  · refine j_sub [2] (lv' := [(0, .ref (a0 0))]) rfl ?_
                    exact wX7_copy_101_v11 K a0 c_room c_courseKnown c_settledByKnown i1 i2 i3 i4 i5 o_r o_finding o_sh0 o_sh1 o_sh2 o_sh3 fei1 fei3 c_finding c_sh0 c_sh1 c_sh2 c_sh3 h
              · refine j_aload_n K 2 rfl dX7_copy_72 rfl ?_
                refine j_iconst (v := (4 : Int32)) K (by decide) dX7_copy_73 rfl ?_
                obtain ⟨r_109, c_finding_110, hc, h⟩ := bd2_some h
                refine j_callV (rest := []) (st1 := [.int r_109]) (ws' := (uX7_copy cyI cyJ cyS a0 c_room c_finding_110 c_courseKnown c_settledByKnown c_sh0.1 c_sh0.2.1 c_sh0.2.2.1 c_sh0.2.2.2 c_sh1.1 c_sh1.2.1 c_sh1.2.2.1 c_sh1.2.2.2 c_sh2.1 c_sh2.2.1 c_sh2.2.2.1 c_sh2.2.2.2 c_sh3.1 c_sh3.2.1 c_sh3.2.2.1 c_sh3.2.2.2)) (T := TX7) (N := 15) (ci := 7) K (ctX7_found l D cyI cyJ cyS a0 (4 : Int32) c_room c_courseKnown c_settledByKnown c_finding r_109 c_finding_110 hc) (gdV mcL mw_12_9 mw_12_10 mw_12_11 mw_1_2 mw_12_12) rfl ⟨rfl, rfl⟩ hyX7_found ⟨Nat.le_of_ble_eq_true rfl, Nat.le_of_ble_eq_true rfl, Nat.le_of_ble_eq_true rfl, Nat.le_of_ble_eq_true rfl⟩ [0] (by decide) rfl [some 0, none, none, none, none, none, none, none, none, none] (by decide) rfl rfl 0 rfl rfl rfl rfl (Nat.le_of_ble_eq_true rfl) dX7_copy_74 rfl rfl ?_
                obtain ⟨e1, g1⟩ := Prod.mk.inj (Option.some.inj h)
                subst e1
                obtain ⟨e2, g2⟩ := Prod.mk.inj g1
                subst e2
                obtain ⟨e3, g3⟩ := Prod.mk.inj g2
                subst e3
                obtain ⟨e4, g4⟩ := Prod.mk.inj g3
                subst e4
                obtain ⟨e5, g5⟩ := Prod.mk.inj g4
                subst e5
                subst g5
                exact j_iret K dX7_copy_77
            · refine j_sub [2] (lv' := [(0, .ref (a0 0))]) rfl ?_
              exact wX7_copy_53_v11 K a0 c_room c_courseKnown c_settledByKnown i1 i2 i3 i4 i5 o_r o_finding o_sh0 o_sh1 o_sh2 o_sh3 fei1 fei3 c_finding c_sh0 c_sh1 c_sh2 c_sh3 h
      · refine j_aald (b := (a0 51)) K 1 2 rfl rfl (vin4_3 fei1) (by rw [fei1]; rfl) dX7_copy_26 rfl ?_
        refine j_astore (lv' := [(6, .ref (a0 51)), (0, .ref (a0 0)), (1, .int i1), (2, .int i2), (3, .int i3), (4, .int i4), (5, .int i5)]) K (by decide) rfl dX7_copy_27 rfl ?_
        refine j_aload_n K 1 rfl dX7_copy_29 rfl ?_
        refine j_getf (C := RX7) (T := TX7) (N := 15) (ci := 7) K icX7 0 8 (List.mem_cons_of_mem _ mw_2_15) rfl rfl rfl (by decide) rfl dX7_copy_30 rfl ?_
        refine j_iload_n K 4 rfl dX7_copy_33 rfl ?_
        rcases sw4_some h with ⟨fei3, h⟩ | ⟨fei3, h⟩ | ⟨fei3, h⟩ | ⟨fei3, h⟩
        · refine j_aald (b := (a0 45)) K 1 2 rfl rfl (vin4_0 fei3) (by rw [fei3]; rfl) dX7_copy_34 rfl ?_
          refine j_astore (lv' := [(7, .ref (a0 45)), (6, .ref (a0 51)), (0, .ref (a0 0)), (1, .int i1), (2, .int i2), (3, .int i3), (4, .int i4), (5, .int i5)]) K (by decide) rfl dX7_copy_35 rfl ?_
          refine j_aload K 1 rfl dX7_copy_37 rfl ?_
          refine j_getf (C := RX4) (T := TX4) (N := 4) (ci := 4) K icX4 8 3 (List.mem_cons_of_mem _ mw_12_6) rfl rfl rfl (by decide) rfl dX7_copy_39 rfl ?_
          refine j_if_ne (tgt := 53) K dX7_copy_42 (by decide) rfl h (fun h => ?_) (fun h => ?_)
          · refine j_sub [2] (lv' := [(0, .ref (a0 0))]) rfl ?_
            exact wX7_copy_53_v12 K a0 c_room c_courseKnown c_settledByKnown i1 i2 i3 i4 i5 o_r o_finding o_sh0 o_sh1 o_sh2 o_sh3 fei1 fei3 c_finding c_sh0 c_sh1 c_sh2 c_sh3 h
          · refine j_aload K 0 rfl dX7_copy_45 rfl ?_
            refine j_getf (C := RX4) (T := TX4) (N := 4) (ci := 4) K icX4 2 3 (List.mem_cons_of_mem _ mw_12_6) rfl rfl rfl (by decide) rfl dX7_copy_47 rfl ?_
            refine j_if_eq (tgt := 59) K dX7_copy_50 (by decide) rfl h (fun h => ?_) (fun h => ?_)
            · refine j_aload K 1 rfl dX7_copy_59 rfl ?_
              refine j_getf (C := RX4) (T := TX4) (N := 4) (ci := 4) K icX4 8 1 (List.mem_cons_of_mem _ mw_38_22) rfl rfl rfl (by decide) rfl dX7_copy_61 rfl ?_
              refine j_aload K 0 rfl dX7_copy_64 rfl ?_
              refine j_getf (C := RX4) (T := TX4) (N := 4) (ci := 4) K icX4 2 1 (List.mem_cons_of_mem _ mw_38_22) rfl rfl rfl (by decide) rfl dX7_copy_66 rfl ?_
              refine j_icmp_eq (tgt := 78) K dX7_copy_69 (by decide) rfl h (fun h => ?_) (fun h => ?_)
              · refine j_aload K 1 rfl dX7_copy_78 rfl ?_
                refine j_iload_n K 4 rfl dX7_copy_80 rfl ?_
                refine j_iload K 7 rfl dX7_copy_81 rfl ?_
                obtain ⟨r_113, hc, h⟩ := bd1_some h
                refine j_callV (rest := []) (st1 := [.int r_113]) (ws' := (uX7_copy cyI cyJ cyS a0 c_room c_finding c_courseKnown c_settledByKnown c_sh0.1 c_sh0.2.1 c_sh0.2.2.1 c_sh0.2.2.2 c_sh1.1 c_sh1.2.1 c_sh1.2.2.1 c_sh1.2.2.2 c_sh2.1 c_sh2.2.1 c_sh2.2.2.1 c_sh2.2.2.2 c_sh3.1 c_sh3.2.1 c_sh3.2.2.1 c_sh3.2.2.2)) (T := TX4) (N := 4) (ci := 4) K (ctX4_hasSpan l D cyI cyJ cyS (fun k => a0 (k + 51)) i2 i5 c_sh3.1 c_sh3.2.2.1 c_sh3.2.1 r_113 hc) (gdV mcL mw_39_3 mw_39_4 mw_39_5 mw_3_0 mw_39_6) rfl ⟨rfl, rfl⟩ hyX4_hasSpan ⟨Nat.le_of_ble_eq_true rfl, Nat.le_of_ble_eq_true rfl, Nat.le_of_ble_eq_true rfl, Nat.le_of_ble_eq_true rfl⟩ [8] (by decide) rfl [none, none, none, none, none, none, none, none, some 0, none] (by decide) rfl rfl 8 rfl rfl rfl rfl (Nat.le_of_ble_eq_true rfl) dX7_copy_83 rfl rfl ?_
                refine j_if_eq (tgt := 101) K dX7_copy_86 (by decide) rfl h (fun h => ?_) (fun h => ?_)
                · refine j_sub [2] (lv' := [(0, .ref (a0 0))]) rfl ?_
                  exact wX7_copy_101_v12 K a0 c_room c_courseKnown c_settledByKnown i1 i2 i3 i4 i5 o_r o_finding o_sh0 o_sh1 o_sh2 o_sh3 fei1 fei3 c_finding c_sh0 c_sh1 c_sh2 c_sh3 h
                · refine j_aload K 0 rfl dX7_copy_89 rfl ?_
                  refine j_iload K 6 rfl dX7_copy_91 rfl ?_
                  refine j_iload K 7 rfl dX7_copy_93 rfl ?_
                  obtain ⟨r_116, hc, h⟩ := bd1_some h
                  refine j_callV (rest := []) (st1 := [.int r_116]) (ws' := (uX7_copy cyI cyJ cyS a0 c_room c_finding c_courseKnown c_settledByKnown c_sh0.1 c_sh0.2.1 c_sh0.2.2.1 c_sh0.2.2.2 c_sh1.1 c_sh1.2.1 c_sh1.2.2.1 c_sh1.2.2.2 c_sh2.1 c_sh2.2.1 c_sh2.2.2.1 c_sh2.2.2.2 c_sh3.1 c_sh3.2.1 c_sh3.2.2.1 c_sh3.2.2.2)) (T := TX4) (N := 4) (ci := 4) K (ctX4_hasSpan l D cyI cyJ cyS (fun k => a0 (k + 45)) i4 i5 c_sh0.1 c_sh0.2.2.1 c_sh0.2.1 r_116 hc) (gdV mcL mw_39_3 mw_39_4 mw_39_5 mw_3_0 mw_39_6) rfl ⟨rfl, rfl⟩ hyX4_hasSpan ⟨Nat.le_of_ble_eq_true rfl, Nat.le_of_ble_eq_true rfl, Nat.le_of_ble_eq_true rfl, Nat.le_of_ble_eq_true rfl⟩ [2] (by decide) rfl [none, none, some 0, none, none, none, none, none, none, none] (by decide) rfl rfl 2 rfl rfl rfl rfl (Nat.le_of_ble_eq_true rfl) dX7_copy_95 rfl rfl ?_
                  refine j_if_ne (tgt := 107) K dX7_copy_98 (by decide) rfl h (fun h => ?_) (fun h => ?_)
                  · refine j_aload K 1 rfl dX7_copy_107 rfl ?_
                    refine j_getf (C := RX4) (T := TX4) (N := 4) (ci := 4) K icX4 8 0 (List.mem_cons_of_mem _ mw_12_7) rfl rfl rfl (by decide) rfl dX7_copy_109 rfl ?_
                    refine j_iload_n K 4 rfl dX7_copy_112 rfl ?_
                    refine j_aload K 0 rfl dX7_copy_113 rfl ?_
                    refine j_getf (C := RX4) (T := TX4) (N := 4) (ci := 4) K icX4 2 0 (List.mem_cons_of_mem _ mw_12_7) rfl rfl rfl (by decide) rfl dX7_copy_115 rfl ?_
                    refine j_iload K 6 rfl dX7_copy_118 rfl ?_
                    refine j_iload K 7 rfl dX7_copy_120 rfl ?_
                    refine j_copyi K 9 3 0 (fun z => (uX7_copy cyI cyJ cyS a0 c_room c_finding c_courseKnown c_settledByKnown c_sh0.1 c_sh0.2.1 c_sh0.2.2.1 z c_sh1.1 c_sh1.2.1 c_sh1.2.2.1 c_sh1.2.2.2 c_sh2.1 c_sh2.2.1 c_sh2.2.2.1 c_sh2.2.2.2 c_sh3.1 c_sh3.2.1 c_sh3.2.2.1 c_sh3.2.2.2)) (List.mem_cons_of_mem _ mw_38_23) (List.mem_cons_of_mem _ mw_39_0) (List.mem_cons_of_mem _ mw_39_1) (List.mem_cons_of_mem _ mw_39_2) rfl rfl rfl (fun _ => rfl) ⟨Nat.le_of_ble_eq_true rfl, Nat.le_of_ble_eq_true rfl⟩ dX7_copy_122 rfl h (fun c_sh0_items_117 h => ?_)
                    refine j_iconst (v := (1 : Int32)) K (by decide) dX7_copy_125 rfl ?_
                    obtain ⟨e1, g1⟩ := Prod.mk.inj (Option.some.inj h)
                    subst e1
                    obtain ⟨e2, g2⟩ := Prod.mk.inj g1
                    subst e2
                    obtain ⟨e3, g3⟩ := Prod.mk.inj g2
                    subst e3
                    obtain ⟨e4, g4⟩ := Prod.mk.inj g3
                    subst e4
                    obtain ⟨e5, g5⟩ := Prod.mk.inj g4
                    subst e5
                    subst g5
                    exact j_iret K dX7_copy_126
                  · refine j_sub [2] (lv' := [(0, .ref (a0 0))]) rfl ?_
                    exact wX7_copy_101_v12 K a0 c_room c_courseKnown c_settledByKnown i1 i2 i3 i4 i5 o_r o_finding o_sh0 o_sh1 o_sh2 o_sh3 fei1 fei3 c_finding c_sh0 c_sh1 c_sh2 c_sh3 h
              · refine j_aload_n K 2 rfl dX7_copy_72 rfl ?_
                refine j_iconst (v := (4 : Int32)) K (by decide) dX7_copy_73 rfl ?_
                obtain ⟨r_118, c_finding_119, hc, h⟩ := bd2_some h
                refine j_callV (rest := []) (st1 := [.int r_118]) (ws' := (uX7_copy cyI cyJ cyS a0 c_room c_finding_119 c_courseKnown c_settledByKnown c_sh0.1 c_sh0.2.1 c_sh0.2.2.1 c_sh0.2.2.2 c_sh1.1 c_sh1.2.1 c_sh1.2.2.1 c_sh1.2.2.2 c_sh2.1 c_sh2.2.1 c_sh2.2.2.1 c_sh2.2.2.2 c_sh3.1 c_sh3.2.1 c_sh3.2.2.1 c_sh3.2.2.2)) (T := TX7) (N := 15) (ci := 7) K (ctX7_found l D cyI cyJ cyS a0 (4 : Int32) c_room c_courseKnown c_settledByKnown c_finding r_118 c_finding_119 hc) (gdV mcL mw_12_9 mw_12_10 mw_12_11 mw_1_2 mw_12_12) rfl ⟨rfl, rfl⟩ hyX7_found ⟨Nat.le_of_ble_eq_true rfl, Nat.le_of_ble_eq_true rfl, Nat.le_of_ble_eq_true rfl, Nat.le_of_ble_eq_true rfl⟩ [0] (by decide) rfl [some 0, none, none, none, none, none, none, none, none, none] (by decide) rfl rfl 0 rfl rfl rfl rfl (Nat.le_of_ble_eq_true rfl) dX7_copy_74 rfl rfl ?_
                obtain ⟨e1, g1⟩ := Prod.mk.inj (Option.some.inj h)
                subst e1
                obtain ⟨e2, g2⟩ := Prod.mk.inj g1
                subst e2
                obtain ⟨e3, g3⟩ := Prod.mk.inj g2
                subst e3
                obtain ⟨e4, g4⟩ := Prod.mk.inj g3
                subst e4
                obtain ⟨e5, g5⟩ := Prod.mk.inj g4
                subst e5
                subst g5
                exact j_iret K dX7_copy_77
            · refine j_sub [2] (lv' := [(0, .ref (a0 0))]) rfl ?_
              exact wX7_copy_53_v12 K a0 c_room c_courseKnown c_settledByKnown i1 i2 i3 i4 i5 o_r o_finding o_sh0 o_sh1 o_sh2 o_sh3 fei1 fei3 c_finding c_sh0 c_sh1 c_sh2 c_sh3 h
        · refine j_aald (b := (a0 47)) K 1 2 rfl rfl (vin4_1 fei3) (by rw [fei3]; rfl) dX7_copy_34 rfl ?_
          refine j_astore (lv' := [(7, .ref (a0 47)), (6, .ref (a0 51)), (0, .ref (a0 0)), (1, .int i1), (2, .int i2), (3, .int i3), (4, .int i4), (5, .int i5)]) K (by decide) rfl dX7_copy_35 rfl ?_
          refine j_aload K 1 rfl dX7_copy_37 rfl ?_
          refine j_getf (C := RX4) (T := TX4) (N := 4) (ci := 4) K icX4 8 3 (List.mem_cons_of_mem _ mw_12_6) rfl rfl rfl (by decide) rfl dX7_copy_39 rfl ?_
          refine j_if_ne (tgt := 53) K dX7_copy_42 (by decide) rfl h (fun h => ?_) (fun h => ?_)
          · refine j_sub [2] (lv' := [(0, .ref (a0 0))]) rfl ?_
            exact wX7_copy_53_v13 K a0 c_room c_courseKnown c_settledByKnown i1 i2 i3 i4 i5 o_r o_finding o_sh0 o_sh1 o_sh2 o_sh3 fei1 fei3 c_finding c_sh0 c_sh1 c_sh2 c_sh3 h
          · refine j_aload K 0 rfl dX7_copy_45 rfl ?_
            refine j_getf (C := RX4) (T := TX4) (N := 4) (ci := 4) K icX4 4 3 (List.mem_cons_of_mem _ mw_12_6) rfl rfl rfl (by decide) rfl dX7_copy_47 rfl ?_
            refine j_if_eq (tgt := 59) K dX7_copy_50 (by decide) rfl h (fun h => ?_) (fun h => ?_)
            · refine j_aload K 1 rfl dX7_copy_59 rfl ?_
              refine j_getf (C := RX4) (T := TX4) (N := 4) (ci := 4) K icX4 8 1 (List.mem_cons_of_mem _ mw_38_22) rfl rfl rfl (by decide) rfl dX7_copy_61 rfl ?_
              refine j_aload K 0 rfl dX7_copy_64 rfl ?_
              refine j_getf (C := RX4) (T := TX4) (N := 4) (ci := 4) K icX4 4 1 (List.mem_cons_of_mem _ mw_38_22) rfl rfl rfl (by decide) rfl dX7_copy_66 rfl ?_
              refine j_icmp_eq (tgt := 78) K dX7_copy_69 (by decide) rfl h (fun h => ?_) (fun h => ?_)
              · refine j_aload K 1 rfl dX7_copy_78 rfl ?_
                refine j_iload_n K 4 rfl dX7_copy_80 rfl ?_
                refine j_iload K 7 rfl dX7_copy_81 rfl ?_
                obtain ⟨r_122, hc, h⟩ := bd1_some h
                refine j_callV (rest := []) (st1 := [.int r_122]) (ws' := (uX7_copy cyI cyJ cyS a0 c_room c_finding c_courseKnown c_settledByKnown c_sh0.1 c_sh0.2.1 c_sh0.2.2.1 c_sh0.2.2.2 c_sh1.1 c_sh1.2.1 c_sh1.2.2.1 c_sh1.2.2.2 c_sh2.1 c_sh2.2.1 c_sh2.2.2.1 c_sh2.2.2.2 c_sh3.1 c_sh3.2.1 c_sh3.2.2.1 c_sh3.2.2.2)) (T := TX4) (N := 4) (ci := 4) K (ctX4_hasSpan l D cyI cyJ cyS (fun k => a0 (k + 51)) i2 i5 c_sh3.1 c_sh3.2.2.1 c_sh3.2.1 r_122 hc) (gdV mcL mw_39_3 mw_39_4 mw_39_5 mw_3_0 mw_39_6) rfl ⟨rfl, rfl⟩ hyX4_hasSpan ⟨Nat.le_of_ble_eq_true rfl, Nat.le_of_ble_eq_true rfl, Nat.le_of_ble_eq_true rfl, Nat.le_of_ble_eq_true rfl⟩ [8] (by decide) rfl [none, none, none, none, none, none, none, none, some 0, none] (by decide) rfl rfl 8 rfl rfl rfl rfl (Nat.le_of_ble_eq_true rfl) dX7_copy_83 rfl rfl ?_
                refine j_if_eq (tgt := 101) K dX7_copy_86 (by decide) rfl h (fun h => ?_) (fun h => ?_)
                · refine j_sub [2] (lv' := [(0, .ref (a0 0))]) rfl ?_
                  exact wX7_copy_101_v13 K a0 c_room c_courseKnown c_settledByKnown i1 i2 i3 i4 i5 o_r o_finding o_sh0 o_sh1 o_sh2 o_sh3 fei1 fei3 c_finding c_sh0 c_sh1 c_sh2 c_sh3 h
                · refine j_aload K 0 rfl dX7_copy_89 rfl ?_
                  refine j_iload K 6 rfl dX7_copy_91 rfl ?_
                  refine j_iload K 7 rfl dX7_copy_93 rfl ?_
                  obtain ⟨r_125, hc, h⟩ := bd1_some h
                  refine j_callV (rest := []) (st1 := [.int r_125]) (ws' := (uX7_copy cyI cyJ cyS a0 c_room c_finding c_courseKnown c_settledByKnown c_sh0.1 c_sh0.2.1 c_sh0.2.2.1 c_sh0.2.2.2 c_sh1.1 c_sh1.2.1 c_sh1.2.2.1 c_sh1.2.2.2 c_sh2.1 c_sh2.2.1 c_sh2.2.2.1 c_sh2.2.2.2 c_sh3.1 c_sh3.2.1 c_sh3.2.2.1 c_sh3.2.2.2)) (T := TX4) (N := 4) (ci := 4) K (ctX4_hasSpan l D cyI cyJ cyS (fun k => a0 (k + 47)) i4 i5 c_sh1.1 c_sh1.2.2.1 c_sh1.2.1 r_125 hc) (gdV mcL mw_39_3 mw_39_4 mw_39_5 mw_3_0 mw_39_6) rfl ⟨rfl, rfl⟩ hyX4_hasSpan ⟨Nat.le_of_ble_eq_true rfl, Nat.le_of_ble_eq_true rfl, Nat.le_of_ble_eq_true rfl, Nat.le_of_ble_eq_true rfl⟩ [4] (by decide) rfl [none, none, none, none, some 0, none, none, none, none, none] (by decide) rfl rfl 4 rfl rfl rfl rfl (Nat.le_of_ble_eq_true rfl) dX7_copy_95 rfl rfl ?_
                  refine j_if_ne (tgt := 107) K dX7_copy_98 (by decide) rfl h (fun h => ?_) (fun h => ?_)
                  · refine j_aload K 1 rfl dX7_copy_107 rfl ?_
                    refine j_getf (C := RX4) (T := TX4) (N := 4) (ci := 4) K icX4 8 0 (List.mem_cons_of_mem _ mw_12_7) rfl rfl rfl (by decide) rfl dX7_copy_109 rfl ?_
                    refine j_iload_n K 4 rfl dX7_copy_112 rfl ?_
                    refine j_aload K 0 rfl dX7_copy_113 rfl ?_
                    refine j_getf (C := RX4) (T := TX4) (N := 4) (ci := 4) K icX4 4 0 (List.mem_cons_of_mem _ mw_12_7) rfl rfl rfl (by decide) rfl dX7_copy_115 rfl ?_
                    refine j_iload K 6 rfl dX7_copy_118 rfl ?_
                    refine j_iload K 7 rfl dX7_copy_120 rfl ?_
                    refine j_copyi K 9 5 0 (fun z => (uX7_copy cyI cyJ cyS a0 c_room c_finding c_courseKnown c_settledByKnown c_sh0.1 c_sh0.2.1 c_sh0.2.2.1 c_sh0.2.2.2 c_sh1.1 c_sh1.2.1 c_sh1.2.2.1 z c_sh2.1 c_sh2.2.1 c_sh2.2.2.1 c_sh2.2.2.2 c_sh3.1 c_sh3.2.1 c_sh3.2.2.1 c_sh3.2.2.2)) (List.mem_cons_of_mem _ mw_38_23) (List.mem_cons_of_mem _ mw_39_0) (List.mem_cons_of_mem _ mw_39_1) (List.mem_cons_of_mem _ mw_39_2) rfl rfl rfl (fun _ => rfl) ⟨Nat.le_of_ble_eq_true rfl, Nat.le_of_ble_eq_true rfl⟩ dX7_copy_122 rfl h (fun c_sh1_items_126 h => ?_)
                    refine j_iconst (v := (1 : Int32)) K (by decide) dX7_copy_125 rfl ?_
                    obtain ⟨e1, g1⟩ := Prod.mk.inj (Option.some.inj h)
                    subst e1
                    obtain ⟨e2, g2⟩ := Prod.mk.inj g1
                    subst e2
                    obtain ⟨e3, g3⟩ := Prod.mk.inj g2
                    subst e3
                    obtain ⟨e4, g4⟩ := Prod.mk.inj g3
                    subst e4
                    obtain ⟨e5, g5⟩ := Prod.mk.inj g4
                    subst e5
                    subst g5
                    exact j_iret K dX7_copy_126
                  · refine j_sub [2] (lv' := [(0, .ref (a0 0))]) rfl ?_
                    exact wX7_copy_101_v13 K a0 c_room c_courseKnown c_settledByKnown i1 i2 i3 i4 i5 o_r o_finding o_sh0 o_sh1 o_sh2 o_sh3 fei1 fei3 c_finding c_sh0 c_sh1 c_sh2 c_sh3 h
              · refine j_aload_n K 2 rfl dX7_copy_72 rfl ?_
                refine j_iconst (v := (4 : Int32)) K (by decide) dX7_copy_73 rfl ?_
                obtain ⟨r_127, c_finding_128, hc, h⟩ := bd2_some h
                refine j_callV (rest := []) (st1 := [.int r_127]) (ws' := (uX7_copy cyI cyJ cyS a0 c_room c_finding_128 c_courseKnown c_settledByKnown c_sh0.1 c_sh0.2.1 c_sh0.2.2.1 c_sh0.2.2.2 c_sh1.1 c_sh1.2.1 c_sh1.2.2.1 c_sh1.2.2.2 c_sh2.1 c_sh2.2.1 c_sh2.2.2.1 c_sh2.2.2.2 c_sh3.1 c_sh3.2.1 c_sh3.2.2.1 c_sh3.2.2.2)) (T := TX7) (N := 15) (ci := 7) K (ctX7_found l D cyI cyJ cyS a0 (4 : Int32) c_room c_courseKnown c_settledByKnown c_finding r_127 c_finding_128 hc) (gdV mcL mw_12_9 mw_12_10 mw_12_11 mw_1_2 mw_12_12) rfl ⟨rfl, rfl⟩ hyX7_found ⟨Nat.le_of_ble_eq_true rfl, Nat.le_of_ble_eq_true rfl, Nat.le_of_ble_eq_true rfl, Nat.le_of_ble_eq_true rfl⟩ [0] (by decide) rfl [some 0, none, none, none, none, none, none, none, none, none] (by decide) rfl rfl 0 rfl rfl rfl rfl (Nat.le_of_ble_eq_true rfl) dX7_copy_74 rfl rfl ?_
                obtain ⟨e1, g1⟩ := Prod.mk.inj (Option.some.inj h)
                subst e1
                obtain ⟨e2, g2⟩ := Prod.mk.inj g1
                subst e2
                obtain ⟨e3, g3⟩ := Prod.mk.inj g2
                subst e3
                obtain ⟨e4, g4⟩ := Prod.mk.inj g3
                subst e4
                obtain ⟨e5, g5⟩ := Prod.mk.inj g4
                subst e5
                subst g5
                exact j_iret K dX7_copy_77
            · refine j_sub [2] (lv' := [(0, .ref (a0 0))]) rfl ?_
              exact wX7_copy_53_v13 K a0 c_room c_courseKnown c_settledByKnown i1 i2 i3 i4 i5 o_r o_finding o_sh0 o_sh1 o_sh2 o_sh3 fei1 fei3 c_finding c_sh0 c_sh1 c_sh2 c_sh3 h
        · refine j_aald (b := (a0 49)) K 1 2 rfl rfl (vin4_2 fei3) (by rw [fei3]; rfl) dX7_copy_34 rfl ?_
          refine j_astore (lv' := [(7, .ref (a0 49)), (6, .ref (a0 51)), (0, .ref (a0 0)), (1, .int i1), (2, .int i2), (3, .int i3), (4, .int i4), (5, .int i5)]) K (by decide) rfl dX7_copy_35 rfl ?_
          refine j_aload K 1 rfl dX7_copy_37 rfl ?_
          refine j_getf (C := RX4) (T := TX4) (N := 4) (ci := 4) K icX4 8 3 (List.mem_cons_of_mem _ mw_12_6) rfl rfl rfl (by decide) rfl dX7_copy_39 rfl ?_
          refine j_if_ne (tgt := 53) K dX7_copy_42 (by decide) rfl h (fun h => ?_) (fun h => ?_)
          · refine j_sub [2] (lv' := [(0, .ref (a0 0))]) rfl ?_
            exact wX7_copy_53_v14 K a0 c_room c_courseKnown c_settledByKnown i1 i2 i3 i4 i5 o_r o_finding o_sh0 o_sh1 o_sh2 o_sh3 fei1 fei3 c_finding c_sh0 c_sh1 c_sh2 c_sh3 h
          · refine j_aload K 0 rfl dX7_copy_45 rfl ?_
            refine j_getf (C := RX4) (T := TX4) (N := 4) (ci := 4) K icX4 6 3 (List.mem_cons_of_mem _ mw_12_6) rfl rfl rfl (by decide) rfl dX7_copy_47 rfl ?_
            refine j_if_eq (tgt := 59) K dX7_copy_50 (by decide) rfl h (fun h => ?_) (fun h => ?_)
            · refine j_aload K 1 rfl dX7_copy_59 rfl ?_
              refine j_getf (C := RX4) (T := TX4) (N := 4) (ci := 4) K icX4 8 1 (List.mem_cons_of_mem _ mw_38_22) rfl rfl rfl (by decide) rfl dX7_copy_61 rfl ?_
              refine j_aload K 0 rfl dX7_copy_64 rfl ?_
              refine j_getf (C := RX4) (T := TX4) (N := 4) (ci := 4) K icX4 6 1 (List.mem_cons_of_mem _ mw_38_22) rfl rfl rfl (by decide) rfl dX7_copy_66 rfl ?_
              refine j_icmp_eq (tgt := 78) K dX7_copy_69 (by decide) rfl h (fun h => ?_) (fun h => ?_)
              · refine j_aload K 1 rfl dX7_copy_78 rfl ?_
                refine j_iload_n K 4 rfl dX7_copy_80 rfl ?_
                refine j_iload K 7 rfl dX7_copy_81 rfl ?_
                obtain ⟨r_131, hc, h⟩ := bd1_some h
                refine j_callV (rest := []) (st1 := [.int r_131]) (ws' := (uX7_copy cyI cyJ cyS a0 c_room c_finding c_courseKnown c_settledByKnown c_sh0.1 c_sh0.2.1 c_sh0.2.2.1 c_sh0.2.2.2 c_sh1.1 c_sh1.2.1 c_sh1.2.2.1 c_sh1.2.2.2 c_sh2.1 c_sh2.2.1 c_sh2.2.2.1 c_sh2.2.2.2 c_sh3.1 c_sh3.2.1 c_sh3.2.2.1 c_sh3.2.2.2)) (T := TX4) (N := 4) (ci := 4) K (ctX4_hasSpan l D cyI cyJ cyS (fun k => a0 (k + 51)) i2 i5 c_sh3.1 c_sh3.2.2.1 c_sh3.2.1 r_131 hc) (gdV mcL mw_39_3 mw_39_4 mw_39_5 mw_3_0 mw_39_6) rfl ⟨rfl, rfl⟩ hyX4_hasSpan ⟨Nat.le_of_ble_eq_true rfl, Nat.le_of_ble_eq_true rfl, Nat.le_of_ble_eq_true rfl, Nat.le_of_ble_eq_true rfl⟩ [8] (by decide) rfl [none, none, none, none, none, none, none, none, some 0, none] (by decide) rfl rfl 8 rfl rfl rfl rfl (Nat.le_of_ble_eq_true rfl) dX7_copy_83 rfl rfl ?_
                refine j_if_eq (tgt := 101) K dX7_copy_86 (by decide) rfl h (fun h => ?_) (fun h => ?_)
                · refine j_sub [2] (lv' := [(0, .ref (a0 0))]) rfl ?_
                  exact wX7_copy_101_v14 K a0 c_room c_courseKnown c_settledByKnown i1 i2 i3 i4 i5 o_r o_finding o_sh0 o_sh1 o_sh2 o_sh3 fei1 fei3 c_finding c_sh0 c_sh1 c_sh2 c_sh3 h
                · refine j_aload K 0 rfl dX7_copy_89 rfl ?_
                  refine j_iload K 6 rfl dX7_copy_91 rfl ?_
                  refine j_iload K 7 rfl dX7_copy_93 rfl ?_
                  obtain ⟨r_134, hc, h⟩ := bd1_some h
                  refine j_callV (rest := []) (st1 := [.int r_134]) (ws' := (uX7_copy cyI cyJ cyS a0 c_room c_finding c_courseKnown c_settledByKnown c_sh0.1 c_sh0.2.1 c_sh0.2.2.1 c_sh0.2.2.2 c_sh1.1 c_sh1.2.1 c_sh1.2.2.1 c_sh1.2.2.2 c_sh2.1 c_sh2.2.1 c_sh2.2.2.1 c_sh2.2.2.2 c_sh3.1 c_sh3.2.1 c_sh3.2.2.1 c_sh3.2.2.2)) (T := TX4) (N := 4) (ci := 4) K (ctX4_hasSpan l D cyI cyJ cyS (fun k => a0 (k + 49)) i4 i5 c_sh2.1 c_sh2.2.2.1 c_sh2.2.1 r_134 hc) (gdV mcL mw_39_3 mw_39_4 mw_39_5 mw_3_0 mw_39_6) rfl ⟨rfl, rfl⟩ hyX4_hasSpan ⟨Nat.le_of_ble_eq_true rfl, Nat.le_of_ble_eq_true rfl, Nat.le_of_ble_eq_true rfl, Nat.le_of_ble_eq_true rfl⟩ [6] (by decide) rfl [none, none, none, none, none, none, some 0, none, none, none] (by decide) rfl rfl 6 rfl rfl rfl rfl (Nat.le_of_ble_eq_true rfl) dX7_copy_95 rfl rfl ?_
                  refine j_if_ne (tgt := 107) K dX7_copy_98 (by decide) rfl h (fun h => ?_) (fun h => ?_)
                  · refine j_aload K 1 rfl dX7_copy_107 rfl ?_
                    refine j_getf (C := RX4) (T := TX4) (N := 4) (ci := 4) K icX4 8 0 (List.mem_cons_of_mem _ mw_12_7) rfl rfl rfl (by decide) rfl dX7_copy_109 rfl ?_
                    refine j_iload_n K 4 rfl dX7_copy_112 rfl ?_
                    refine j_aload K 0 rfl dX7_copy_113 rfl ?_
                    refine j_getf (C := RX4) (T := TX4) (N := 4) (ci := 4) K icX4 6 0 (List.mem_cons_of_mem _ mw_12_7) rfl rfl rfl (by decide) rfl dX7_copy_115 rfl ?_
                    refine j_iload K 6 rfl dX7_copy_118 rfl ?_
                    refine j_iload K 7 rfl dX7_copy_120 rfl ?_
                    refine j_copyi K 9 7 0 (fun z => (uX7_copy cyI cyJ cyS a0 c_room c_finding c_courseKnown c_settledByKnown c_sh0.1 c_sh0.2.1 c_sh0.2.2.1 c_sh0.2.2.2 c_sh1.1 c_sh1.2.1 c_sh1.2.2.1 c_sh1.2.2.2 c_sh2.1 c_sh2.2.1 c_sh2.2.2.1 z c_sh3.1 c_sh3.2.1 c_sh3.2.2.1 c_sh3.2.2.2)) (List.mem_cons_of_mem _ mw_38_23) (List.mem_cons_of_mem _ mw_39_0) (List.mem_cons_of_mem _ mw_39_1) (List.mem_cons_of_mem _ mw_39_2) rfl rfl rfl (fun _ => rfl) ⟨Nat.le_of_ble_eq_true rfl, Nat.le_of_ble_eq_true rfl⟩ dX7_copy_122 rfl h (fun c_sh2_items_135 h => ?_)
                    refine j_iconst (v := (1 : Int32)) K (by decide) dX7_copy_125 rfl ?_
                    obtain ⟨e1, g1⟩ := Prod.mk.inj (Option.some.inj h)
                    subst e1
                    obtain ⟨e2, g2⟩ := Prod.mk.inj g1
                    subst e2
                    obtain ⟨e3, g3⟩ := Prod.mk.inj g2
                    subst e3
                    obtain ⟨e4, g4⟩ := Prod.mk.inj g3
                    subst e4
                    obtain ⟨e5, g5⟩ := Prod.mk.inj g4
                    subst e5
                    subst g5
                    exact j_iret K dX7_copy_126
                  · refine j_sub [2] (lv' := [(0, .ref (a0 0))]) rfl ?_
                    exact wX7_copy_101_v14 K a0 c_room c_courseKnown c_settledByKnown i1 i2 i3 i4 i5 o_r o_finding o_sh0 o_sh1 o_sh2 o_sh3 fei1 fei3 c_finding c_sh0 c_sh1 c_sh2 c_sh3 h
              · refine j_aload_n K 2 rfl dX7_copy_72 rfl ?_
                refine j_iconst (v := (4 : Int32)) K (by decide) dX7_copy_73 rfl ?_
                obtain ⟨r_136, c_finding_137, hc, h⟩ := bd2_some h
                refine j_callV (rest := []) (st1 := [.int r_136]) (ws' := (uX7_copy cyI cyJ cyS a0 c_room c_finding_137 c_courseKnown c_settledByKnown c_sh0.1 c_sh0.2.1 c_sh0.2.2.1 c_sh0.2.2.2 c_sh1.1 c_sh1.2.1 c_sh1.2.2.1 c_sh1.2.2.2 c_sh2.1 c_sh2.2.1 c_sh2.2.2.1 c_sh2.2.2.2 c_sh3.1 c_sh3.2.1 c_sh3.2.2.1 c_sh3.2.2.2)) (T := TX7) (N := 15) (ci := 7) K (ctX7_found l D cyI cyJ cyS a0 (4 : Int32) c_room c_courseKnown c_settledByKnown c_finding r_136 c_finding_137 hc) (gdV mcL mw_12_9 mw_12_10 mw_12_11 mw_1_2 mw_12_12) rfl ⟨rfl, rfl⟩ hyX7_found ⟨Nat.le_of_ble_eq_true rfl, Nat.le_of_ble_eq_true rfl, Nat.le_of_ble_eq_true rfl, Nat.le_of_ble_eq_true rfl⟩ [0] (by decide) rfl [some 0, none, none, none, none, none, none, none, none, none] (by decide) rfl rfl 0 rfl rfl rfl rfl (Nat.le_of_ble_eq_true rfl) dX7_copy_74 rfl rfl ?_
                obtain ⟨e1, g1⟩ := Prod.mk.inj (Option.some.inj h)
                subst e1
                obtain ⟨e2, g2⟩ := Prod.mk.inj g1
                subst e2
                obtain ⟨e3, g3⟩ := Prod.mk.inj g2
                subst e3
                obtain ⟨e4, g4⟩ := Prod.mk.inj g3
                subst e4
                obtain ⟨e5, g5⟩ := Prod.mk.inj g4
                subst e5
                subst g5
                exact j_iret K dX7_copy_77
            · refine j_sub [2] (lv' := [(0, .ref (a0 0))]) rfl ?_
              exact wX7_copy_53_v14 K a0 c_room c_courseKnown c_settledByKnown i1 i2 i3 i4 i5 o_r o_finding o_sh0 o_sh1 o_sh2 o_sh3 fei1 fei3 c_finding c_sh0 c_sh1 c_sh2 c_sh3 h
        · refine j_aald (b := (a0 51)) K 1 2 rfl rfl (vin4_3 fei3) (by rw [fei3]; rfl) dX7_copy_34 rfl ?_
          refine j_astore (lv' := [(7, .ref (a0 51)), (6, .ref (a0 51)), (0, .ref (a0 0)), (1, .int i1), (2, .int i2), (3, .int i3), (4, .int i4), (5, .int i5)]) K (by decide) rfl dX7_copy_35 rfl ?_
          refine j_aload K 1 rfl dX7_copy_37 rfl ?_
          refine j_getf (C := RX4) (T := TX4) (N := 4) (ci := 4) K icX4 8 3 (List.mem_cons_of_mem _ mw_12_6) rfl rfl rfl (by decide) rfl dX7_copy_39 rfl ?_
          refine j_if_ne (tgt := 53) K dX7_copy_42 (by decide) rfl h (fun h => ?_) (fun h => ?_)
          · refine j_sub [2] (lv' := [(0, .ref (a0 0))]) rfl ?_
            exact wX7_copy_53_v15 K a0 c_room c_courseKnown c_settledByKnown i1 i2 i3 i4 i5 o_r o_finding o_sh0 o_sh1 o_sh2 o_sh3 fei1 fei3 c_finding c_sh0 c_sh1 c_sh2 c_sh3 h
          · refine j_aload K 0 rfl dX7_copy_45 rfl ?_
            refine j_getf (C := RX4) (T := TX4) (N := 4) (ci := 4) K icX4 8 3 (List.mem_cons_of_mem _ mw_12_6) rfl rfl rfl (by decide) rfl dX7_copy_47 rfl ?_
            refine j_if_eq (tgt := 59) K dX7_copy_50 (by decide) rfl h (fun h => ?_) (fun h => ?_)
            · refine j_aload K 1 rfl dX7_copy_59 rfl ?_
              refine j_getf (C := RX4) (T := TX4) (N := 4) (ci := 4) K icX4 8 1 (List.mem_cons_of_mem _ mw_38_22) rfl rfl rfl (by decide) rfl dX7_copy_61 rfl ?_
              refine j_aload K 0 rfl dX7_copy_64 rfl ?_
              refine j_getf (C := RX4) (T := TX4) (N := 4) (ci := 4) K icX4 8 1 (List.mem_cons_of_mem _ mw_38_22) rfl rfl rfl (by decide) rfl dX7_copy_66 rfl ?_
              refine j_icmp_eq (tgt := 78) K dX7_copy_69 (by decide) rfl h (fun h => ?_) (fun h => ?_)
              · refine j_aload K 1 rfl dX7_copy_78 rfl ?_
                refine j_iload_n K 4 rfl dX7_copy_80 rfl ?_
                refine j_iload K 7 rfl dX7_copy_81 rfl ?_
                obtain ⟨r_140, hc, h⟩ := bd1_some h
                refine j_callV (rest := []) (st1 := [.int r_140]) (ws' := (uX7_copy cyI cyJ cyS a0 c_room c_finding c_courseKnown c_settledByKnown c_sh0.1 c_sh0.2.1 c_sh0.2.2.1 c_sh0.2.2.2 c_sh1.1 c_sh1.2.1 c_sh1.2.2.1 c_sh1.2.2.2 c_sh2.1 c_sh2.2.1 c_sh2.2.2.1 c_sh2.2.2.2 c_sh3.1 c_sh3.2.1 c_sh3.2.2.1 c_sh3.2.2.2)) (T := TX4) (N := 4) (ci := 4) K (ctX4_hasSpan l D cyI cyJ cyS (fun k => a0 (k + 51)) i2 i5 c_sh3.1 c_sh3.2.2.1 c_sh3.2.1 r_140 hc) (gdV mcL mw_39_3 mw_39_4 mw_39_5 mw_3_0 mw_39_6) rfl ⟨rfl, rfl⟩ hyX4_hasSpan ⟨Nat.le_of_ble_eq_true rfl, Nat.le_of_ble_eq_true rfl, Nat.le_of_ble_eq_true rfl, Nat.le_of_ble_eq_true rfl⟩ [8] (by decide) rfl [none, none, none, none, none, none, none, none, some 0, none] (by decide) rfl rfl 8 rfl rfl rfl rfl (Nat.le_of_ble_eq_true rfl) dX7_copy_83 rfl rfl ?_
                refine j_if_eq (tgt := 101) K dX7_copy_86 (by decide) rfl h (fun h => ?_) (fun h => ?_)
                · refine j_sub [2] (lv' := [(0, .ref (a0 0))]) rfl ?_
                  exact wX7_copy_101_v15 K a0 c_room c_courseKnown c_settledByKnown i1 i2 i3 i4 i5 o_r o_finding o_sh0 o_sh1 o_sh2 o_sh3 fei1 fei3 c_finding c_sh0 c_sh1 c_sh2 c_sh3 h
                · refine j_aload K 0 rfl dX7_copy_89 rfl ?_
                  refine j_iload K 6 rfl dX7_copy_91 rfl ?_
                  refine j_iload K 7 rfl dX7_copy_93 rfl ?_
                  obtain ⟨r_143, hc, h⟩ := bd1_some h
                  refine j_callV (rest := []) (st1 := [.int r_143]) (ws' := (uX7_copy cyI cyJ cyS a0 c_room c_finding c_courseKnown c_settledByKnown c_sh0.1 c_sh0.2.1 c_sh0.2.2.1 c_sh0.2.2.2 c_sh1.1 c_sh1.2.1 c_sh1.2.2.1 c_sh1.2.2.2 c_sh2.1 c_sh2.2.1 c_sh2.2.2.1 c_sh2.2.2.2 c_sh3.1 c_sh3.2.1 c_sh3.2.2.1 c_sh3.2.2.2)) (T := TX4) (N := 4) (ci := 4) K (ctX4_hasSpan l D cyI cyJ cyS (fun k => a0 (k + 51)) i4 i5 c_sh3.1 c_sh3.2.2.1 c_sh3.2.1 r_143 hc) (gdV mcL mw_39_3 mw_39_4 mw_39_5 mw_3_0 mw_39_6) rfl ⟨rfl, rfl⟩ hyX4_hasSpan ⟨Nat.le_of_ble_eq_true rfl, Nat.le_of_ble_eq_true rfl, Nat.le_of_ble_eq_true rfl, Nat.le_of_ble_eq_true rfl⟩ [8] (by decide) rfl [none, none, none, none, none, none, none, none, some 0, none] (by decide) rfl rfl 8 rfl rfl rfl rfl (Nat.le_of_ble_eq_true rfl) dX7_copy_95 rfl rfl ?_
                  refine j_if_ne (tgt := 107) K dX7_copy_98 (by decide) rfl h (fun h => ?_) (fun h => ?_)
                  · refine j_aload K 1 rfl dX7_copy_107 rfl ?_
                    refine j_getf (C := RX4) (T := TX4) (N := 4) (ci := 4) K icX4 8 0 (List.mem_cons_of_mem _ mw_12_7) rfl rfl rfl (by decide) rfl dX7_copy_109 rfl ?_
                    refine j_iload_n K 4 rfl dX7_copy_112 rfl ?_
                    refine j_aload K 0 rfl dX7_copy_113 rfl ?_
                    refine j_getf (C := RX4) (T := TX4) (N := 4) (ci := 4) K icX4 8 0 (List.mem_cons_of_mem _ mw_12_7) rfl rfl rfl (by decide) rfl dX7_copy_115 rfl ?_
                    refine j_iload K 6 rfl dX7_copy_118 rfl ?_
                    refine j_iload K 7 rfl dX7_copy_120 rfl ?_
                    refine j_copyi K 9 9 0 (fun z => (uX7_copy cyI cyJ cyS a0 c_room c_finding c_courseKnown c_settledByKnown c_sh0.1 c_sh0.2.1 c_sh0.2.2.1 c_sh0.2.2.2 c_sh1.1 c_sh1.2.1 c_sh1.2.2.1 c_sh1.2.2.2 c_sh2.1 c_sh2.2.1 c_sh2.2.2.1 c_sh2.2.2.2 c_sh3.1 c_sh3.2.1 c_sh3.2.2.1 z)) (List.mem_cons_of_mem _ mw_38_23) (List.mem_cons_of_mem _ mw_39_0) (List.mem_cons_of_mem _ mw_39_1) (List.mem_cons_of_mem _ mw_39_2) rfl rfl rfl (fun _ => rfl) ⟨Nat.le_of_ble_eq_true rfl, Nat.le_of_ble_eq_true rfl⟩ dX7_copy_122 rfl h (fun c_sh3_items_144 h => ?_)
                    refine j_iconst (v := (1 : Int32)) K (by decide) dX7_copy_125 rfl ?_
                    obtain ⟨e1, g1⟩ := Prod.mk.inj (Option.some.inj h)
                    subst e1
                    obtain ⟨e2, g2⟩ := Prod.mk.inj g1
                    subst e2
                    obtain ⟨e3, g3⟩ := Prod.mk.inj g2
                    subst e3
                    obtain ⟨e4, g4⟩ := Prod.mk.inj g3
                    subst e4
                    obtain ⟨e5, g5⟩ := Prod.mk.inj g4
                    subst e5
                    subst g5
                    exact j_iret K dX7_copy_126
                  · refine j_sub [2] (lv' := [(0, .ref (a0 0))]) rfl ?_
                    exact wX7_copy_101_v15 K a0 c_room c_courseKnown c_settledByKnown i1 i2 i3 i4 i5 o_r o_finding o_sh0 o_sh1 o_sh2 o_sh3 fei1 fei3 c_finding c_sh0 c_sh1 c_sh2 c_sh3 h
              · refine j_aload_n K 2 rfl dX7_copy_72 rfl ?_
                refine j_iconst (v := (4 : Int32)) K (by decide) dX7_copy_73 rfl ?_
                obtain ⟨r_145, c_finding_146, hc, h⟩ := bd2_some h
                refine j_callV (rest := []) (st1 := [.int r_145]) (ws' := (uX7_copy cyI cyJ cyS a0 c_room c_finding_146 c_courseKnown c_settledByKnown c_sh0.1 c_sh0.2.1 c_sh0.2.2.1 c_sh0.2.2.2 c_sh1.1 c_sh1.2.1 c_sh1.2.2.1 c_sh1.2.2.2 c_sh2.1 c_sh2.2.1 c_sh2.2.2.1 c_sh2.2.2.2 c_sh3.1 c_sh3.2.1 c_sh3.2.2.1 c_sh3.2.2.2)) (T := TX7) (N := 15) (ci := 7) K (ctX7_found l D cyI cyJ cyS a0 (4 : Int32) c_room c_courseKnown c_settledByKnown c_finding r_145 c_finding_146 hc) (gdV mcL mw_12_9 mw_12_10 mw_12_11 mw_1_2 mw_12_12) rfl ⟨rfl, rfl⟩ hyX7_found ⟨Nat.le_of_ble_eq_true rfl, Nat.le_of_ble_eq_true rfl, Nat.le_of_ble_eq_true rfl, Nat.le_of_ble_eq_true rfl⟩ [0] (by decide) rfl [some 0, none, none, none, none, none, none, none, none, none] (by decide) rfl rfl 0 rfl rfl rfl rfl (Nat.le_of_ble_eq_true rfl) dX7_copy_74 rfl rfl ?_
                obtain ⟨e1, g1⟩ := Prod.mk.inj (Option.some.inj h)
                subst e1
                obtain ⟨e2, g2⟩ := Prod.mk.inj g1
                subst e2
                obtain ⟨e3, g3⟩ := Prod.mk.inj g2
                subst e3
                obtain ⟨e4, g4⟩ := Prod.mk.inj g3
                subst e4
                obtain ⟨e5, g5⟩ := Prod.mk.inj g4
                subst e5
                subst g5
                exact j_iret K dX7_copy_77
            · refine j_sub [2] (lv' := [(0, .ref (a0 0))]) rfl ?_
              exact wX7_copy_53_v15 K a0 c_room c_courseKnown c_settledByKnown i1 i2 i3 i4 i5 o_r o_finding o_sh0 o_sh1 o_sh2 o_sh3 fei1 fei3 c_finding c_sh0 c_sh1 c_sh2 c_sh3 h
    · refine j_bipush (v := (-2 : Int32)) K (by decide) dX7_copy_18 rfl ?_
      obtain ⟨e1, g1⟩ := Prod.mk.inj (Option.some.inj h)
      subst e1
      obtain ⟨e2, g2⟩ := Prod.mk.inj g1
      subst e2
      obtain ⟨e3, g3⟩ := Prod.mk.inj g2
      subst e3
      obtain ⟨e4, g4⟩ := Prod.mk.inj g3
      subst e4
      obtain ⟨e5, g5⟩ := Prod.mk.inj g4
      subst e5
      subst g5
      exact j_iret K dX7_copy_20
end GEN
