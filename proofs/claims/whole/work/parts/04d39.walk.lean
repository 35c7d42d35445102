section GEN
variable {p : Program} {l : Launch} {e : Env} {s : State} {m : MethodId} {args : Array Value} {below : List Frame} {meth : Method} {c : Code} {A : Nat → Prop} {D : va_G} {cyI cyJ cyS : ClassId}
abbrev uX8_sheet (cyI cyJ cyS : ClassId) (a0 : Nat → Nat) (c_latest : Int32) (c_typed : Int32) (c_tenants : Int32) (c_room : Int32) (c_events : Int32) (c_gone : Int32) (c_audit : Int32) (c_sights : Int32) (c_drawn : Int32) (c_forms : Nat → Int32) (c_sizes : Nat → Int32) (c_items : Nat → Int32) : va_W := [((a0 0), .inr (8, [.ref (a0 1), .ref (a0 2), .ref (a0 3), .ref (a0 4), .int c_latest, .ref (a0 5), .int c_typed, .int c_tenants, .ref (a0 6), .int c_room, .int c_events, .ref (a0 7), .int c_gone, .ref (a0 8), .ref (a0 9), .ref (a0 10), .ref (a0 11), .ref (a0 12), .ref (a0 13), .ref (a0 14), .ref (a0 15), .ref (a0 16), .ref (a0 17), .ref (a0 18), .int c_audit, .int c_sights, .ref (a0 19), .ref (a0 20), .int c_drawn])), ((a0 1), .inl (cyI, 4, .inl c_forms)), ((a0 2), .inl (cyI, 4, .inl c_sizes)), ((a0 3), .inl (cyI, 240, .inl c_items))]
abbrev rmX8_sheet : Room := { frames := 2, cells := 0, slots := 0, locals := 45 }
abbrev wdX8_sheet : List Cond := .code yX8_sheet cX8_sheet 5 (some .int) :: wsL_law
theorem hyX8_sheet : yX8_sheet.cls = RX8 ∧ yX8_sheet.cls ≠ "java/lang/invoke/MethodHandle" ∧ yX8_sheet.cls ≠ "java/lang/invoke/VarHandle" ∧ (parseMethodDescriptor yX8_sheet.desc).map (fun d => d.parameters.length) = some 3 := by decide +kernel
set_option maxRecDepth 100000 in
set_option maxHeartbeats 4000000 in
theorem wX8_sheet_55 (K : jK p s m args meth c A D vwCl (tyz cyI cyJ cyS) cX8_sheet 5 RX8 wdX8_sheet (some .int)) (a0 : Nat → Nat) (c_typed : Int32) (c_tenants : Int32) (c_room : Int32) (c_events : Int32) (c_gone : Int32) (c_audit : Int32) (c_sights : Int32) (c_drawn : Int32) (i1 : Int32) (i2 : Int32) (i3 : Int32) (o_r : Int32) (o_latest : Int32) (o_forms : Nat → Int32) (o_sizes : Nat → Int32) (o_items : Nat → Int32)   : ∀ (n : Nat) (c_latest : Int32) (c_forms : Nat → Int32) (c_sizes : Nat → Int32) (c_items : Nat → Int32) (i4 : Int32), fX8_sheet_55 i1 i2 i3  n c_latest c_forms c_sizes c_items i4 = some (o_r, o_latest, o_forms, o_sizes, o_items) → jw p l e rmX8_sheet s m args below meth c (jQ below args s A D vwCl (tyz cyI cyJ cyS) 0 0 (some (.int o_r)) (uX8_sheet cyI cyJ cyS a0 o_latest c_typed c_tenants c_room c_events c_gone c_audit c_sights c_drawn o_forms o_sizes o_items)) A D vwCl 5 0 0 55 [(0, .ref (a0 0)), (1, .int i1), (3, .int i3), (4, .int i4)] [] (uX8_sheet cyI cyJ cyS a0 c_latest c_typed c_tenants c_room c_events c_gone c_audit c_sights c_drawn c_forms c_sizes c_items) := by
  intro n
  induction n with
  | zero => intro c_latest c_forms c_sizes c_items i4 h; cases h
  | succ n ih =>
    intro c_latest c_forms c_sizes c_items i4 h
    have h : bX8_sheet_55 i1 i2 i3  (fX8_sheet_55 i1 i2 i3  n) c_latest c_forms c_sizes c_items i4 = some (o_r, o_latest, o_forms, o_sizes, o_items) := h
    unfold bX8_sheet_55 at h
    refine j_iload K 3 rfl dX8_sheet_55 rfl ?_
    refine j_iload_n K 2 rfl dX8_sheet_57 rfl ?_
    refine j_icmp_ge (tgt := 80) K dX8_sheet_58 (by decide) rfl h (fun h => ?_) (fun h => ?_)
    · refine j_iload_n K 2 rfl dX8_sheet_80 rfl ?_
      obtain ⟨e1, g1⟩ := Prod.mk.inj (Option.some.inj h)
      subst e1
      obtain ⟨e2, g2⟩ := Prod.mk.inj g1
      subst e2
      obtain ⟨e3, g3⟩ := Prod.mk.inj g2
      subst e3
      obtain ⟨e4, g4⟩ := Prod.mk.inj g3
      subst e4
      subst g4
      exact j_iret K dX8_sheet_81
    · refine j_aload_n K 0 rfl dX8_sheet_61 rfl ?_
      refine j_getf (C := RX8) (T := TX8) (N := 29) (ci := 8) K icX8 0 2 (List.mem_cons_of_mem _ mw_5_10) rfl rfl rfl (by decide) rfl dX8_sheet_62 rfl ?_
      refine j_bipush (v := (60 : Int32)) K (by decide) dX8_sheet_65 rfl ?_
      refine j_iload_n K 1 rfl dX8_sheet_67 rfl ?_
      refine j_imul K dX8_sheet_68 rfl ?_
      refine j_iload K 3 rfl dX8_sheet_69 rfl ?_
      refine j_iadd K dX8_sheet_71 rfl ?_
      refine j_iconst (v := (0 : Int32)) K (by decide) dX8_sheet_72 rfl ?_
      refine j_iast K 3 0 (fun z => (uX8_sheet cyI cyJ cyS a0 c_latest c_typed c_tenants c_room c_events c_gone c_audit c_sights c_drawn c_forms c_sizes z)) rfl rfl (fun _ => rfl) dX8_sheet_73 rfl h (fun c_items_5 h => ?_)
      refine j_iincN (lf := fun z => [(4, .int z), (0, .ref (a0 0)), (1, .int i1), (3, .int i3)]) K (v := i4 + (1 : Int32)) (k := 3) rfl rfl (by decide) (fun _ => rfl) dX8_sheet_74 rfl h (fun i4_6 h => ?_)
      refine j_goto (pc' := 55) K dX8_sheet_77 (by decide) ?_
      refine j_sub [1, 2, 3, 0] (lv' := [(0, .ref (a0 0)), (1, .int i1), (3, .int i3), (4, .int i4_6)]) rfl ?_
      exact ih c_latest c_forms c_sizes c_items_5 i4_6 h
set_option maxRecDepth 100000 in
set_option maxHeartbeats 4000000 in
theorem ctX8_sheet (l : Launch) (D : va_G) (cyI cyJ cyS : ClassId) (a0 : Nat → Nat) (i1 : Int32) (i2 : Int32) (i3 : Int32) (c_typed : Int32) (c_tenants : Int32) (c_room : Int32) (c_events : Int32) (c_gone : Int32) (c_audit : Int32) (c_sights : Int32) (c_drawn : Int32) (c_latest : Int32) (c_forms : Nat → Int32) (c_sizes : Nat → Int32) (c_items : Nat → Int32) (o_r : Int32) (o_latest : Int32) (o_forms : Nat → Int32) (o_sizes : Nat → Int32) (o_items : Nat → Int32) (h : fX8_sheet i1 i2 i3 c_latest c_forms c_sizes c_items = some (o_r, o_latest, o_forms, o_sizes, o_items)) : jC l yX8_sheet wdX8_sheet rmX8_sheet D vwCl (tyz cyI cyJ cyS) [.ref (a0 0), .int i1, .int i2, .int i3] (uX8_sheet cyI cyJ cyS a0 c_latest c_typed c_tenants c_room c_events c_gone c_audit c_sights c_drawn c_forms c_sizes c_items) (some (.int o_r)) (uX8_sheet cyI cyJ cyS a0 o_latest c_typed c_tenants c_room c_events c_gone c_audit c_sights c_drawn o_forms o_sizes o_items) := by
  refine jC_of (cc := cX8_sheet) (nL := 5) (ret := (some .int)) (own := RX8) (lv := [(0, .ref (a0 0)), (1, .int i1), (2, .int i2), (3, .int i3)]) (by decide) rfl rfl (Nat.le_of_ble_eq_true rfl) rfl ?_
  intro p e s m args below meth c A K
  unfold fX8_sheet at h
  refine j_iload_n K 1 rfl dX8_sheet_0 rfl ?_
  obtain ⟨r_1, hc, h⟩ := bd1_some h
  refine j_callS (rest := []) (st1 := [.int r_1]) (ws' := (uX8_sheet cyI cyJ cyS a0 c_latest c_typed c_tenants c_room c_events c_gone c_audit c_sights c_drawn c_forms c_sizes c_items)) K (ctX8_isSheet l D cyI cyJ cyS i1 r_1 hc) (gdS mcL mw_12_18 mw_12_19 mw_1_5 mw_12_20) rfl ⟨rfl, rfl⟩ hzX8_isSheet ⟨Nat.le_of_ble_eq_true rfl, Nat.le_of_ble_eq_true rfl, Nat.le_of_ble_eq_true rfl, Nat.le_of_ble_eq_true rfl⟩ [] (by decide) rfl [none, none, none, none] (by decide) rfl rfl rfl rfl (Nat.le_of_ble_eq_true rfl) dX8_sheet_1 rfl rfl ?_
  refine j_if_eq (tgt := 25) K dX8_sheet_4 (by decide) rfl h (fun h => ?_) (fun h => ?_)
  · refine j_bipush (v := (-2 : Int32)) K (by decide) dX8_sheet_25 rfl ?_
    obtain ⟨e1, g1⟩ := Prod.mk.inj (Option.some.inj h)
    subst e1
    obtain ⟨e2, g2⟩ := Prod.mk.inj g1
    subst e2
    obtain ⟨e3, g3⟩ := Prod.mk.inj g2
    subst e3
    obtain ⟨e4, g4⟩ := Prod.mk.inj g3
    subst e4
    subst g4
    exact j_iret K dX8_sheet_27
  · refine j_iload_n K 2 rfl dX8_sheet_7 rfl ?_
    refine j_i2l K dX8_sheet_8 rfl ?_
    refine j_lconst (v := (0 : Int64)) K (by decide) dX8_sheet_9 rfl ?_
    refine j_ldc2 (v := (2 : Int64)) K (List.mem_cons_of_mem _ mw_10_4) dX8_sheet_10 rfl ?_
    obtain ⟨r_2, hc, h⟩ := bd1_some h
    refine j_callS (rest := []) (st1 := [.int r_2]) (ws' := (uX8_sheet cyI cyJ cyS a0 c_latest c_typed c_tenants c_room c_events c_gone c_audit c_sights c_drawn c_forms c_sizes c_items)) K (ctX8_in l D cyI cyJ cyS (Int32.toInt64 i2) (0 : Int64) (2 : Int64) r_2 hc) (gdS mcL mw_7_22 mw_7_23 mw_1_5 mw_8_0) rfl ⟨rfl, rfl⟩ hzX8_in ⟨Nat.le_of_ble_eq_true rfl, Nat.le_of_ble_eq_true rfl, Nat.le_of_ble_eq_true rfl, Nat.le_of_ble_eq_true rfl⟩ [] (by decide) rfl [none, none, none, none] (by decide) rfl rfl rfl rfl (Nat.le_of_ble_eq_true rfl) dX8_sheet_13 rfl rfl ?_
    refine j_if_eq (tgt := 25) K dX8_sheet_16 (by decide) rfl h (fun h => ?_) (fun h => ?_)
    · refine j_bipush (v := (-2 : Int32)) K (by decide) dX8_sheet_25 rfl ?_
      obtain ⟨e1, g1⟩ := Prod.mk.inj (Option.some.inj h)
      subst e1
      obtain ⟨e2, g2⟩ := Prod.mk.inj g1
      subst e2
      obtain ⟨e3, g3⟩ := Prod.mk.inj g2
      subst e3
      obtain ⟨e4, g4⟩ := Prod.mk.inj g3
      subst e4
      subst g4
      exact j_iret K dX8_sheet_27
    · refine j_iload_n K 3 rfl dX8_sheet_19 rfl ?_
      refine j_bipush (v := (60 : Int32)) K (by decide) dX8_sheet_20 rfl ?_
      refine j_icmp_le (tgt := 28) K dX8_sheet_22 (by decide) rfl h (fun h => ?_) (fun h => ?_)
      · refine j_iload_n K 3 rfl dX8_sheet_28 rfl ?_
        refine j_if_ge (tgt := 38) K dX8_sheet_29 (by decide) rfl h (fun h => ?_) (fun h => ?_)
        · refine j_aload_n K 0 rfl dX8_sheet_38 rfl ?_
          refine j_getf (C := RX8) (T := TX8) (N := 29) (ci := 8) K icX8 0 0 (List.mem_cons_of_mem _ mw_5_8) rfl rfl rfl (by decide) rfl dX8_sheet_39 rfl ?_
          refine j_iload_n K 1 rfl dX8_sheet_42 rfl ?_
          refine j_iload_n K 2 rfl dX8_sheet_43 rfl ?_
          refine j_iast K 1 0 (fun z => (uX8_sheet cyI cyJ cyS a0 c_latest c_typed c_tenants c_room c_events c_gone c_audit c_sights c_drawn z c_sizes c_items)) rfl rfl (fun _ => rfl) dX8_sheet_44 rfl h (fun c_forms_3 h => ?_)
          refine j_aload_n K 0 rfl dX8_sheet_45 rfl ?_
          refine j_getf (C := RX8) (T := TX8) (N := 29) (ci := 8) K icX8 0 1 (List.mem_cons_of_mem _ mw_5_9) rfl rfl rfl (by decide) rfl dX8_sheet_46 rfl ?_
          refine j_iload_n K 1 rfl dX8_sheet_49 rfl ?_
          refine j_iload_n K 3 rfl dX8_sheet_50 rfl ?_
          refine j_iast K 2 0 (fun z => (uX8_sheet cyI cyJ cyS a0 c_latest c_typed c_tenants c_room c_events c_gone c_audit c_sights c_drawn c_forms_3 z c_items)) rfl rfl (fun _ => rfl) dX8_sheet_51 rfl h (fun c_sizes_4 h => ?_)
          refine j_iconst (v := (0 : Int32)) K (by decide) dX8_sheet_52 rfl ?_
          refine j_istore (lv' := [(4, .int (0 : Int32)), (0, .ref (a0 0)), (1, .int i1), (2, .int i2), (3, .int i3)]) K (by decide) rfl dX8_sheet_53 rfl ?_
          refine j_sub [1, 2, 4, 0] (lv' := [(0, .ref (a0 0)), (1, .int i1), (3, .int i3), (4, .int (0 : Int32))]) rfl ?_
          exact wX8_sheet_55 K a0 c_typed c_tenants c_room c_events c_gone c_audit c_sights c_drawn i1 i2 i3 o_r o_latest o_forms o_sizes o_items jF c_latest c_forms_3 c_sizes_4 c_items (0 : Int32) h
        · refine j_aload_n K 0 rfl dX8_sheet_32 rfl ?_
          refine j_iconst (v := (5 : Int32)) K (by decide) dX8_sheet_33 rfl ?_
          obtain ⟨r_7, c_latest_8, hc, h⟩ := bd2_some h
          refine j_callV (rest := []) (st1 := [.int r_7]) (ws' := (uX8_sheet cyI cyJ cyS a0 c_latest_8 c_typed c_tenants c_room c_events c_gone c_audit c_sights c_drawn c_forms c_sizes c_items)) (T := TX8) (N := 29) (ci := 8) K (ctX8_finds l D cyI cyJ cyS a0 (5 : Int32) c_typed c_tenants c_room c_events c_gone c_audit c_sights c_drawn c_latest r_7 c_latest_8 hc) (gdV mcL mw_12_22 mw_12_23 mw_13_0 mw_1_5 mw_13_1) rfl ⟨rfl, rfl⟩ hyX8_finds ⟨Nat.le_of_ble_eq_true rfl, Nat.le_of_ble_eq_true rfl, Nat.le_of_ble_eq_true rfl, Nat.le_of_ble_eq_true rfl⟩ [0] (by decide) rfl [some 0, none, none, none] (by decide) rfl rfl 0 rfl rfl rfl rfl (Nat.le_of_ble_eq_true rfl) dX8_sheet_34 rfl rfl ?_
          obtain ⟨e1, g1⟩ := Prod.mk.inj (Option.some.inj h)
          subst e1
          obtain ⟨e2, g2⟩ := Prod.mk.inj g1
          subst e2
          obtain ⟨e3, g3⟩ := Prod.mk.inj g2
          subst e3
          obtain ⟨e4, g4⟩ := Prod.mk.inj g3
          subst e4
          subst g4
          exact j_iret K dX8_sheet_37
      · refine j_bipush (v := (-2 : Int32)) K (by decide) dX8_sheet_25 rfl ?_
        obtain ⟨e1, g1⟩ := Prod.mk.inj (Option.some.inj h)
        subst e1
        obtain ⟨e2, g2⟩ := Prod.mk.inj g1
        subst e2
        obtain ⟨e3, g3⟩ := Prod.mk.inj g2
        subst e3
        obtain ⟨e4, g4⟩ := Prod.mk.inj g3
        subst e4
        subst g4
        exact j_iret K dX8_sheet_27
end GEN
