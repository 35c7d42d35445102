section GEN
variable {p : Program} {l : Launch} {e : Env} {s : State} {m : MethodId} {args : Array Value} {below : List Frame} {meth : Method} {c : Code} {A : Nat → Prop} {D : va_G} {cyI cyJ cyS : ClassId}
abbrev uX8_lay (cyI cyJ cyS : ClassId) (a0 : Nat → Nat) (c_latest : Int32) (c_typed : Int32) (c_tenants : Int32) (c_room : Int32) (c_events : Int32) (c_gone : Int32) (c_audit : Int32) (c_sights : Int32) (c_drawn : Int32) (c_forms : Nat → Int32) (c_sizes : Nat → Int32) (c_items : Nat → Int32) : va_W := [((a0 0), .inr (8, [.ref (a0 1), .ref (a0 2), .ref (a0 3), .ref (a0 4), .int c_latest, .ref (a0 5), .int c_typed, .int c_tenants, .ref (a0 6), .int c_room, .int c_events, .ref (a0 7), .int c_gone, .ref (a0 8), .ref (a0 9), .ref (a0 10), .ref (a0 11), .ref (a0 12), .ref (a0 13), .ref (a0 14), .ref (a0 15), .ref (a0 16), .ref (a0 17), .ref (a0 18), .int c_audit, .int c_sights, .ref (a0 19), .ref (a0 20), .int c_drawn])), ((a0 1), .inl (cyI, 4, .inl c_forms)), ((a0 2), .inl (cyI, 4, .inl c_sizes)), ((a0 3), .inl (cyI, 240, .inl c_items))]
abbrev rmX8_lay : Room := { frames := 2, cells := 0, slots := 0, locals := 48 }
abbrev wdX8_lay : List Cond := .code yX8_lay cX8_lay 6 (some .int) :: wsL_law
theorem hyX8_lay : yX8_lay.cls = RX8 ∧ yX8_lay.cls ≠ "java/lang/invoke/MethodHandle" ∧ yX8_lay.cls ≠ "java/lang/invoke/VarHandle" ∧ (parseMethodDescriptor yX8_lay.desc).map (fun d => d.parameters.length) = some 4 := by decide +kernel
set_option maxRecDepth 100000 in
set_option maxHeartbeats 4000000 in
theorem ctX8_lay (l : Launch) (D : va_G) (cyI cyJ cyS : ClassId) (a0 : Nat → Nat) (i1 : Int32) (i2 : Int32) (i3 : Int32) (i4 : Int32) (c_typed : Int32) (c_tenants : Int32) (c_room : Int32) (c_events : Int32) (c_gone : Int32) (c_audit : Int32) (c_sights : Int32) (c_drawn : Int32) (c_forms : Nat → Int32) (c_sizes : Nat → Int32) (c_latest : Int32) (c_items : Nat → Int32) (o_r : Int32) (o_latest : Int32) (o_items : Nat → Int32) (h : fX8_lay i1 i2 i3 i4 c_forms c_sizes c_latest c_items = some (o_r, o_latest, o_items)) : jC l yX8_lay wdX8_lay rmX8_lay D vwCl (tyz cyI cyJ cyS) [.ref (a0 0), .int i1, .int i2, .int i3, .int i4] (uX8_lay cyI cyJ cyS a0 c_latest c_typed c_tenants c_room c_events c_gone c_audit c_sights c_drawn c_forms c_sizes c_items) (some (.int o_r)) (uX8_lay cyI cyJ cyS a0 o_latest c_typed c_tenants c_room c_events c_gone c_audit c_sights c_drawn c_forms c_sizes o_items) := by
  refine jC_of (cc := cX8_lay) (nL := 6) (ret := (some .int)) (own := RX8) (lv := [(0, .ref (a0 0)), (1, .int i1), (2, .int i2), (3, .int i3), (4, .int i4)]) (by decide) rfl rfl (Nat.le_of_ble_eq_true rfl) rfl ?_
  intro p e s m args below meth c A K
  unfold fX8_lay at h
  refine j_iload_n K 1 rfl dX8_lay_0 rfl ?_
  obtain ⟨r_1, hc, h⟩ := bd1_some h
  refine j_callS (rest := []) (st1 := [.int r_1]) (ws' := (uX8_lay cyI cyJ cyS a0 c_latest c_typed c_tenants c_room c_events c_gone c_audit c_sights c_drawn c_forms c_sizes c_items)) K (ctX8_isSheet l D cyI cyJ cyS i1 r_1 hc) (gdS mcL mw_12_18 mw_12_19 mw_1_5 mw_12_20) rfl ⟨rfl, rfl⟩ hzX8_isSheet ⟨Nat.le_of_ble_eq_true rfl, Nat.le_of_ble_eq_true rfl, Nat.le_of_ble_eq_true rfl, Nat.le_of_ble_eq_true rfl⟩ [] (by decide) rfl [none, none, none, none] (by decide) rfl rfl rfl rfl (Nat.le_of_ble_eq_true rfl) dX8_lay_1 rfl rfl ?_
  refine j_if_eq (tgt := 19) K dX8_lay_4 (by decide) rfl h (fun h => ?_) (fun h => ?_)
  · refine j_bipush (v := (-2 : Int32)) K (by decide) dX8_lay_19 rfl ?_
    obtain ⟨e1, g1⟩ := Prod.mk.inj (Option.some.inj h)
    subst e1
    obtain ⟨e2, g2⟩ := Prod.mk.inj g1
    subst e2
    subst g2
    exact j_iret K dX8_lay_21
  · refine j_iload_n K 2 rfl dX8_lay_7 rfl ?_
    refine j_i2l K dX8_lay_8 rfl ?_
    refine j_lconst (v := (0 : Int64)) K (by decide) dX8_lay_9 rfl ?_
    refine j_ldc2 (v := (2 : Int64)) K (List.mem_cons_of_mem _ mw_10_4) dX8_lay_10 rfl ?_
    obtain ⟨r_2, hc, h⟩ := bd1_some h
    refine j_callS (rest := []) (st1 := [.int r_2]) (ws' := (uX8_lay cyI cyJ cyS a0 c_latest c_typed c_tenants c_room c_events c_gone c_audit c_sights c_drawn c_forms c_sizes c_items)) K (ctX8_in l D cyI cyJ cyS (Int32.toInt64 i2) (0 : Int64) (2 : Int64) r_2 hc) (gdS mcL mw_7_22 mw_7_23 mw_1_5 mw_8_0) rfl ⟨rfl, rfl⟩ hzX8_in ⟨Nat.le_of_ble_eq_true rfl, Nat.le_of_ble_eq_true rfl, Nat.le_of_ble_eq_true rfl, Nat.le_of_ble_eq_true rfl⟩ [] (by decide) rfl [none, none, none, none] (by decide) rfl rfl rfl rfl (Nat.le_of_ble_eq_true rfl) dX8_lay_13 rfl rfl ?_
    refine j_if_ne (tgt := 22) K dX8_lay_16 (by decide) rfl h (fun h => ?_) (fun h => ?_)
    · refine j_aload_n K 0 rfl dX8_lay_22 rfl ?_
      refine j_iload_n K 1 rfl dX8_lay_23 rfl ?_
      refine j_iload_n K 2 rfl dX8_lay_24 rfl ?_
      refine j_iload_n K 3 rfl dX8_lay_25 rfl ?_
      obtain ⟨r_3, c_latest_4, hc, h⟩ := bd2_some h
      refine j_callV (rest := []) (st1 := [.int r_3]) (ws' := (uX8_lay cyI cyJ cyS a0 c_latest_4 c_typed c_tenants c_room c_events c_gone c_audit c_sights c_drawn c_forms c_sizes c_items)) (T := TX8) (N := 29) (ci := 8) K (ctX8_lacks l D cyI cyJ cyS a0 i1 i2 i3 c_typed c_tenants c_room c_events c_gone c_audit c_sights c_drawn c_forms c_sizes c_latest r_3 c_latest_4 hc) (gdV mcL mw_38_3 mw_38_4 mw_38_5 mw_1_5 mw_38_6) rfl ⟨rfl, rfl⟩ hyX8_lacks ⟨Nat.le_of_ble_eq_true rfl, Nat.le_of_ble_eq_true rfl, Nat.le_of_ble_eq_true rfl, Nat.le_of_ble_eq_true rfl⟩ [0, 1, 2] (by decide) rfl [some 0, some 1, some 2, none] (by decide) rfl rfl 0 rfl rfl rfl rfl (Nat.le_of_ble_eq_true rfl) dX8_lay_26 rfl rfl ?_
      refine j_istore (lv' := [(5, .int r_3), (0, .ref (a0 0)), (1, .int i1), (2, .int i2), (3, .int i3), (4, .int i4)]) K (by decide) rfl dX8_lay_29 rfl ?_
      refine j_iload K 0 rfl dX8_lay_31 rfl ?_
      refine j_if_eq (tgt := 39) K dX8_lay_33 (by decide) rfl h (fun h => ?_) (fun h => ?_)
      · refine j_aload_n K 1 rfl dX8_lay_39 rfl ?_
        refine j_getf (C := RX8) (T := TX8) (N := 29) (ci := 8) K icX8 0 2 (List.mem_cons_of_mem _ mw_5_10) rfl rfl rfl (by decide) rfl dX8_lay_40 rfl ?_
        refine j_bipush (v := (60 : Int32)) K (by decide) dX8_lay_43 rfl ?_
        refine j_iload_n K 2 rfl dX8_lay_45 rfl ?_
        refine j_imul K dX8_lay_46 rfl ?_
        refine j_iload_n K 4 rfl dX8_lay_47 rfl ?_
        refine j_iadd K dX8_lay_48 rfl ?_
        refine j_iload_n K 3 rfl dX8_lay_49 rfl ?_
        refine j_iload K 5 rfl dX8_lay_50 rfl ?_
        obtain ⟨r_5, hc, h⟩ := bd1_some h
        refine j_callS (rest := [.int (((60 : Int32) * i1) + i3), .ref (a0 3)]) (st1 := [.int r_5, .int (((60 : Int32) * i1) + i3), .ref (a0 3)]) (ws' := (uX8_lay cyI cyJ cyS a0 c_latest_4 c_typed c_tenants c_room c_events c_gone c_audit c_sights c_drawn c_forms c_sizes c_items)) K (ctX8_cut l D cyI cyJ cyS i2 i4 r_5 hc) (gdS mcL mw_38_7 mw_38_8 mw_1_5 mw_38_9) rfl ⟨rfl, rfl⟩ hzX8_cut ⟨Nat.le_of_ble_eq_true rfl, Nat.le_of_ble_eq_true rfl, Nat.le_of_ble_eq_true rfl, Nat.le_of_ble_eq_true rfl⟩ [] (by decide) rfl [none, none, none, none] (by decide) rfl rfl rfl rfl (Nat.le_of_ble_eq_true rfl) dX8_lay_52 rfl rfl ?_
        refine j_iast K 3 0 (fun z => (uX8_lay cyI cyJ cyS a0 c_latest_4 c_typed c_tenants c_room c_events c_gone c_audit c_sights c_drawn c_forms c_sizes z)) rfl rfl (fun _ => rfl) dX8_lay_55 rfl h (fun c_items_6 h => ?_)
        refine j_iconst (v := (1 : Int32)) K (by decide) dX8_lay_56 rfl ?_
        obtain ⟨e1, g1⟩ := Prod.mk.inj (Option.some.inj h)
        subst e1
        obtain ⟨e2, g2⟩ := Prod.mk.inj g1
        subst e2
        subst g2
        exact j_iret K dX8_lay_57
      · refine j_iload K 0 rfl dX8_lay_36 rfl ?_
        obtain ⟨e1, g1⟩ := Prod.mk.inj (Option.some.inj h)
        subst e1
        obtain ⟨e2, g2⟩ := Prod.mk.inj g1
        subst e2
        subst g2
        exact j_iret K dX8_lay_38
    · refine j_bipush (v := (-2 : Int32)) K (by decide) dX8_lay_19 rfl ?_
      obtain ⟨e1, g1⟩ := Prod.mk.inj (Option.some.inj h)
      subst e1
      obtain ⟨e2, g2⟩ := Prod.mk.inj g1
      subst e2
      subst g2
      exact j_iret K dX8_lay_21
abbrev uX8_get (cyI cyJ cyS : ClassId) (a0 : Nat → Nat) (c_latest : Int32) (c_typed : Int32) (c_tenants : Int32) (c_room : Int32) (c_events : Int32) (c_gone : Int32) (c_audit : Int32) (c_sights : Int32) (c_drawn : Int32) (c_forms : Nat → Int32) (c_sizes : Nat → Int32) (c_items : Nat → Int32) : va_W := [((a0 0), .inr (8, [.ref (a0 1), .ref (a0 2), .ref (a0 3), .ref (a0 4), .int c_latest, .ref (a0 5), .int c_typed, .int c_tenants, .ref (a0 6), .int c_room, .int c_events, .ref (a0 7), .int c_gone, .ref (a0 8), .ref (a0 9), .ref (a0 10), .ref (a0 11), .ref (a0 12), .ref (a0 13), .ref (a0 14), .ref (a0 15), .ref (a0 16), .ref (a0 17), .ref (a0 18), .int c_audit, .int c_sights, .ref (a0 19), .ref (a0 20), .int c_drawn])), ((a0 1), .inl (cyI, 4, .inl c_forms)), ((a0 2), .inl (cyI, 4, .inl c_sizes)), ((a0 3), .inl (cyI, 240, .inl c_items))]
abbrev rmX8_get : Room := { frames := 2, cells := 0, slots := 0, locals := 48 }
abbrev wdX8_get : List Cond := .code yX8_get cX8_get 4 (some .int) :: wsL_law
theorem hyX8_get : yX8_get.cls = RX8 ∧ yX8_get.cls ≠ "java/lang/invoke/MethodHandle" ∧ yX8_get.cls ≠ "java/lang/invoke/VarHandle" ∧ (parseMethodDescriptor yX8_get.desc).map (fun d => d.parameters.length) = some 3 := by decide +kernel
set_option maxRecDepth 100000 in
set_option maxHeartbeats 4000000 in
theorem ctX8_get (l : Launch) (D : va_G) (cyI cyJ cyS : ClassId) (a0 : Nat → Nat) (i1 : Int32) (i2 : Int32) (i3 : Int32) (c_typed : Int32) (c_tenants : Int32) (c_room : Int32) (c_events : Int32) (c_gone : Int32) (c_audit : Int32) (c_sights : Int32) (c_drawn : Int32) (c_forms : Nat → Int32) (c_sizes : Nat → Int32) (c_items : Nat → Int32) (c_latest : Int32) (o_r : Int32) (o_latest : Int32) (h : fX8_get i1 i2 i3 c_forms c_sizes c_items c_latest = some (o_r, o_latest)) : jC l yX8_get wdX8_get rmX8_get D vwCl (tyz cyI cyJ cyS) [.ref (a0 0), .int i1, .int i2, .int i3] (uX8_get cyI cyJ cyS a0 c_latest c_typed c_tenants c_room c_events c_gone c_audit c_sights c_drawn c_forms c_sizes c_items) (some (.int o_r)) (uX8_get cyI cyJ cyS a0 o_latest c_typed c_tenants c_room c_events c_gone c_audit c_sights c_drawn c_forms c_sizes c_items) := by
  refine jC_of (cc := cX8_get) (nL := 4) (ret := (some .int)) (own := RX8) (lv := [(0, .ref (a0 0)), (1, .int i1), (2, .int i2), (3, .int i3)]) (by decide) rfl rfl (Nat.le_of_ble_eq_true rfl) rfl ?_
  intro p e s m args below meth c A K
  unfold fX8_get at h
  refine j_iload_n K 1 rfl dX8_get_0 rfl ?_
  obtain ⟨r_1, hc, h⟩ := bd1_some h
  refine j_callS (rest := []) (st1 := [.int r_1]) (ws' := (uX8_get cyI cyJ cyS a0 c_latest c_typed c_tenants c_room c_events c_gone c_audit c_sights c_drawn c_forms c_sizes c_items)) K (ctX8_isSheet l D cyI cyJ cyS i1 r_1 hc) (gdS mcL mw_12_18 mw_12_19 mw_1_5 mw_12_20) rfl ⟨rfl, rfl⟩ hzX8_isSheet ⟨Nat.le_of_ble_eq_true rfl, Nat.le_of_ble_eq_true rfl, Nat.le_of_ble_eq_true rfl, Nat.le_of_ble_eq_true rfl⟩ [] (by decide) rfl [none, none, none, none] (by decide) rfl rfl rfl rfl (Nat.le_of_ble_eq_true rfl) dX8_get_1 rfl rfl ?_
  refine j_if_eq (tgt := 29) K dX8_get_4 (by decide) rfl h (fun h => ?_) (fun h => ?_)
  · refine j_ldc (v := (-2147483648 : Int32)) K (List.mem_cons_of_mem _ mw_17_11) dX8_get_29 rfl ?_
    obtain ⟨e1, g1⟩ := Prod.mk.inj (Option.some.inj h)
    subst e1
    subst g1
    exact j_iret K dX8_get_31
  · refine j_iload_n K 2 rfl dX8_get_7 rfl ?_
    refine j_i2l K dX8_get_8 rfl ?_
    refine j_lconst (v := (0 : Int64)) K (by decide) dX8_get_9 rfl ?_
    refine j_ldc2 (v := (2 : Int64)) K (List.mem_cons_of_mem _ mw_10_4) dX8_get_10 rfl ?_
    obtain ⟨r_2, hc, h⟩ := bd1_some h
    refine j_callS (rest := []) (st1 := [.int r_2]) (ws' := (uX8_get cyI cyJ cyS a0 c_latest c_typed c_tenants c_room c_events c_gone c_audit c_sights c_drawn c_forms c_sizes c_items)) K (ctX8_in l D cyI cyJ cyS (Int32.toInt64 i2) (0 : Int64) (2 : Int64) r_2 hc) (gdS mcL mw_7_22 mw_7_23 mw_1_5 mw_8_0) rfl ⟨rfl, rfl⟩ hzX8_in ⟨Nat.le_of_ble_eq_true rfl, Nat.le_of_ble_eq_true rfl, Nat.le_of_ble_eq_true rfl, Nat.le_of_ble_eq_true rfl⟩ [] (by decide) rfl [none, none, none, none] (by decide) rfl rfl rfl rfl (Nat.le_of_ble_eq_true rfl) dX8_get_13 rfl rfl ?_
    refine j_if_eq (tgt := 29) K dX8_get_16 (by decide) rfl h (fun h => ?_) (fun h => ?_)
    · refine j_ldc (v := (-2147483648 : Int32)) K (List.mem_cons_of_mem _ mw_17_11) dX8_get_29 rfl ?_
      obtain ⟨e1, g1⟩ := Prod.mk.inj (Option.some.inj h)
      subst e1
      subst g1
      exact j_iret K dX8_get_31
    · refine j_aload_n K 0 rfl dX8_get_19 rfl ?_
      refine j_iload_n K 1 rfl dX8_get_20 rfl ?_
      refine j_iload_n K 2 rfl dX8_get_21 rfl ?_
      refine j_iload_n K 3 rfl dX8_get_22 rfl ?_
      obtain ⟨r_3, c_latest_4, hc, h⟩ := bd2_some h
      refine j_callV (rest := []) (st1 := [.int r_3]) (ws' := (uX8_get cyI cyJ cyS a0 c_latest_4 c_typed c_tenants c_room c_events c_gone c_audit c_sights c_drawn c_forms c_sizes c_items)) (T := TX8) (N := 29) (ci := 8) K (ctX8_lacks l D cyI cyJ cyS a0 i1 i2 i3 c_typed c_tenants c_room c_events c_gone c_audit c_sights c_drawn c_forms c_sizes c_latest r_3 c_latest_4 hc) (gdV mcL mw_38_3 mw_38_4 mw_38_5 mw_1_5 mw_38_6) rfl ⟨rfl, rfl⟩ hyX8_lacks ⟨Nat.le_of_ble_eq_true rfl, Nat.le_of_ble_eq_true rfl, Nat.le_of_ble_eq_true rfl, Nat.le_of_ble_eq_true rfl⟩ [0, 1, 2] (by decide) rfl [some 0, some 1, some 2, none] (by decide) rfl rfl 0 rfl rfl rfl rfl (Nat.le_of_ble_eq_true rfl) dX8_get_23 rfl rfl ?_
      refine j_if_eq (tgt := 32) K dX8_get_26 (by decide) rfl h (fun h => ?_) (fun h => ?_)
      · refine j_aload_n K 0 rfl dX8_get_32 rfl ?_
        refine j_getf (C := RX8) (T := TX8) (N := 29) (ci := 8) K icX8 0 2 (List.mem_cons_of_mem _ mw_5_10) rfl rfl rfl (by decide) rfl dX8_get_33 rfl ?_
        refine j_bipush (v := (60 : Int32)) K (by decide) dX8_get_36 rfl ?_
        refine j_iload_n K 1 rfl dX8_get_38 rfl ?_
        refine j_imul K dX8_get_39 rfl ?_
        refine j_iload_n K 3 rfl dX8_get_40 rfl ?_
        refine j_iadd K dX8_get_41 rfl ?_
        refine j_iald K 3 0 rfl rfl dX8_get_42 rfl h (fun v_5 h => ?_)
        obtain ⟨e1, g1⟩ := Prod.mk.inj (Option.some.inj h)
        subst e1
        subst g1
        exact j_iret K dX8_get_43
      · refine j_ldc (v := (-2147483648 : Int32)) K (List.mem_cons_of_mem _ mw_17_11) dX8_get_29 rfl ?_
        obtain ⟨e1, g1⟩ := Prod.mk.inj (Option.some.inj h)
        subst e1
        subst g1
        exact j_iret K dX8_get_31
end GEN
