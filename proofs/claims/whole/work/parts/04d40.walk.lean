section GEN
variable {p : Program} {l : Launch} {e : Env} {s : State} {m : MethodId} {args : Array Value} {below : List Frame} {meth : Method} {c : Code} {A : Nat → Prop} {D : va_G} {cyI cyJ cyS : ClassId}
abbrev uX8_lose (cyI cyJ cyS : ClassId) (a0 : Nat → Nat) (c_latest : Int32) (c_typed : Int32) (c_tenants : Int32) (c_room : Int32) (c_events : Int32) (c_gone : Int32) (c_audit : Int32) (c_sights : Int32) (c_drawn : Int32) (c_forms : Nat → Int32) (c_sizes : Nat → Int32) : va_W := [((a0 0), .inr (8, [.ref (a0 1), .ref (a0 2), .ref (a0 3), .ref (a0 4), .int c_latest, .ref (a0 5), .int c_typed, .int c_tenants, .ref (a0 6), .int c_room, .int c_events, .ref (a0 7), .int c_gone, .ref (a0 8), .ref (a0 9), .ref (a0 10), .ref (a0 11), .ref (a0 12), .ref (a0 13), .ref (a0 14), .ref (a0 15), .ref (a0 16), .ref (a0 17), .ref (a0 18), .int c_audit, .int c_sights, .ref (a0 19), .ref (a0 20), .int c_drawn])), ((a0 1), .inl (cyI, 4, .inl c_forms)), ((a0 2), .inl (cyI, 4, .inl c_sizes))]
abbrev rmX8_lose : Room := { frames := 2, cells := 0, slots := 0, locals := 45 }
abbrev wdX8_lose : List Cond := .code yX8_lose cX8_lose 2 (some .int) :: wsL_law
theorem hyX8_lose : yX8_lose.cls = RX8 ∧ yX8_lose.cls ≠ "java/lang/invoke/MethodHandle" ∧ yX8_lose.cls ≠ "java/lang/invoke/VarHandle" ∧ (parseMethodDescriptor yX8_lose.desc).map (fun d => d.parameters.length) = some 1 := by decide +kernel
set_option maxRecDepth 100000 in
set_option maxHeartbeats 4000000 in
theorem ctX8_lose (l : Launch) (D : va_G) (cyI cyJ cyS : ClassId) (a0 : Nat → Nat) (i1 : Int32) (c_typed : Int32) (c_tenants : Int32) (c_room : Int32) (c_events : Int32) (c_gone : Int32) (c_audit : Int32) (c_sights : Int32) (c_drawn : Int32) (c_sizes : Nat → Int32) (c_latest : Int32) (c_forms : Nat → Int32) (o_r : Int32) (o_latest : Int32) (o_forms : Nat → Int32) (h : fX8_lose i1 c_sizes c_latest c_forms = some (o_r, o_latest, o_forms)) : jC l yX8_lose wdX8_lose rmX8_lose D vwCl (tyz cyI cyJ cyS) [.ref (a0 0), .int i1] (uX8_lose cyI cyJ cyS a0 c_latest c_typed c_tenants c_room c_events c_gone c_audit c_sights c_drawn c_forms c_sizes) (some (.int o_r)) (uX8_lose cyI cyJ cyS a0 o_latest c_typed c_tenants c_room c_events c_gone c_audit c_sights c_drawn o_forms c_sizes) := by
  refine jC_of (cc := cX8_lose) (nL := 2) (ret := (some .int)) (own := RX8) (lv := [(0, .ref (a0 0)), (1, .int i1)]) (by decide) rfl rfl (Nat.le_of_ble_eq_true rfl) rfl ?_
  intro p e s m args below meth c A K
  unfold fX8_lose at h
  refine j_iload_n K 1 rfl dX8_lose_0 rfl ?_
  obtain ⟨r_1, hc, h⟩ := bd1_some h
  refine j_callS (rest := []) (st1 := [.int r_1]) (ws' := (uX8_lose cyI cyJ cyS a0 c_latest c_typed c_tenants c_room c_events c_gone c_audit c_sights c_drawn c_forms c_sizes)) K (ctX8_isSheet l D cyI cyJ cyS i1 r_1 hc) (gdS mcL mw_12_18 mw_12_19 mw_1_5 mw_12_20) rfl ⟨rfl, rfl⟩ hzX8_isSheet ⟨Nat.le_of_ble_eq_true rfl, Nat.le_of_ble_eq_true rfl, Nat.le_of_ble_eq_true rfl, Nat.le_of_ble_eq_true rfl⟩ [] (by decide) rfl [none, none, none] (by decide) rfl rfl rfl rfl (Nat.le_of_ble_eq_true rfl) dX8_lose_1 rfl rfl ?_
  refine j_if_ne (tgt := 10) K dX8_lose_4 (by decide) rfl h (fun h => ?_) (fun h => ?_)
  · refine j_aload_n K 0 rfl dX8_lose_10 rfl ?_
    refine j_getf (C := RX8) (T := TX8) (N := 29) (ci := 8) K icX8 0 0 (List.mem_cons_of_mem _ mw_5_8) rfl rfl rfl (by decide) rfl dX8_lose_11 rfl ?_
    refine j_iload_n K 1 rfl dX8_lose_14 rfl ?_
    refine j_iald K 1 0 rfl rfl dX8_lose_15 rfl h (fun v_2 h => ?_)
    refine j_if_ge (tgt := 25) K dX8_lose_16 (by decide) rfl h (fun h => ?_) (fun h => ?_)
    · refine j_aload_n K 0 rfl dX8_lose_25 rfl ?_
      refine j_getf (C := RX8) (T := TX8) (N := 29) (ci := 8) K icX8 0 0 (List.mem_cons_of_mem _ mw_5_8) rfl rfl rfl (by decide) rfl dX8_lose_26 rfl ?_
      refine j_iload_n K 1 rfl dX8_lose_29 rfl ?_
      refine j_iconst (v := (-1 : Int32)) K (by decide) dX8_lose_30 rfl ?_
      refine j_iast K 1 0 (fun z => (uX8_lose cyI cyJ cyS a0 c_latest c_typed c_tenants c_room c_events c_gone c_audit c_sights c_drawn z c_sizes)) rfl rfl (fun _ => rfl) dX8_lose_31 rfl h (fun c_forms_3 h => ?_)
      refine j_aload_n K 0 rfl dX8_lose_32 rfl ?_
      refine j_getf (C := RX8) (T := TX8) (N := 29) (ci := 8) K icX8 0 1 (List.mem_cons_of_mem _ mw_5_9) rfl rfl rfl (by decide) rfl dX8_lose_33 rfl ?_
      refine j_iload_n K 1 rfl dX8_lose_36 rfl ?_
      refine j_iald K 2 0 rfl rfl dX8_lose_37 rfl h (fun v_4 h => ?_)
      obtain ⟨e1, g1⟩ := Prod.mk.inj (Option.some.inj h)
      subst e1
      obtain ⟨e2, g2⟩ := Prod.mk.inj g1
      subst e2
      subst g2
      exact j_iret K dX8_lose_38
    · refine j_aload_n K 0 rfl dX8_lose_19 rfl ?_
      refine j_iconst (v := (1 : Int32)) K (by decide) dX8_lose_20 rfl ?_
      obtain ⟨r_5, c_latest_6, hc, h⟩ := bd2_some h
      refine j_callV (rest := []) (st1 := [.int r_5]) (ws' := (uX8_lose cyI cyJ cyS a0 c_latest_6 c_typed c_tenants c_room c_events c_gone c_audit c_sights c_drawn c_forms c_sizes)) (T := TX8) (N := 29) (ci := 8) K (ctX8_finds l D cyI cyJ cyS a0 (1 : Int32) c_typed c_tenants c_room c_events c_gone c_audit c_sights c_drawn c_latest r_5 c_latest_6 hc) (gdV mcL mw_12_22 mw_12_23 mw_13_0 mw_1_5 mw_13_1) rfl ⟨rfl, rfl⟩ hyX8_finds ⟨Nat.le_of_ble_eq_true rfl, Nat.le_of_ble_eq_true rfl, Nat.le_of_ble_eq_true rfl, Nat.le_of_ble_eq_true rfl⟩ [0] (by decide) rfl [some 0, none, none] (by decide) rfl rfl 0 rfl rfl rfl rfl (Nat.le_of_ble_eq_true rfl) dX8_lose_21 rfl rfl ?_
      obtain ⟨e1, g1⟩ := Prod.mk.inj (Option.some.inj h)
      subst e1
      obtain ⟨e2, g2⟩ := Prod.mk.inj g1
      subst e2
      subst g2
      exact j_iret K dX8_lose_24
  · refine j_bipush (v := (-2 : Int32)) K (by decide) dX8_lose_7 rfl ?_
    obtain ⟨e1, g1⟩ := Prod.mk.inj (Option.some.inj h)
    subst e1
    obtain ⟨e2, g2⟩ := Prod.mk.inj g1
    subst e2
    subst g2
    exact j_iret K dX8_lose_9
abbrev uX8_lacks (cyI cyJ cyS : ClassId) (a0 : Nat → Nat) (c_latest : Int32) (c_typed : Int32) (c_tenants : Int32) (c_room : Int32) (c_events : Int32) (c_gone : Int32) (c_audit : Int32) (c_sights : Int32) (c_drawn : Int32) (c_forms : Nat → Int32) (c_sizes : Nat → Int32) : va_W := [((a0 0), .inr (8, [.ref (a0 1), .ref (a0 2), .ref (a0 3), .ref (a0 4), .int c_latest, .ref (a0 5), .int c_typed, .int c_tenants, .ref (a0 6), .int c_room, .int c_events, .ref (a0 7), .int c_gone, .ref (a0 8), .ref (a0 9), .ref (a0 10), .ref (a0 11), .ref (a0 12), .ref (a0 13), .ref (a0 14), .ref (a0 15), .ref (a0 16), .ref (a0 17), .ref (a0 18), .int c_audit, .int c_sights, .ref (a0 19), .ref (a0 20), .int c_drawn])), ((a0 1), .inl (cyI, 4, .inl c_forms)), ((a0 2), .inl (cyI, 4, .inl c_sizes))]
abbrev rmX8_lacks : Room := { frames := 1, cells := 0, slots := 0, locals := 25 }
abbrev wdX8_lacks : List Cond := .code yX8_lacks cX8_lacks 4 (some .int) :: wsL_law
theorem hyX8_lacks : yX8_lacks.cls = RX8 ∧ yX8_lacks.cls ≠ "java/lang/invoke/MethodHandle" ∧ yX8_lacks.cls ≠ "java/lang/invoke/VarHandle" ∧ (parseMethodDescriptor yX8_lacks.desc).map (fun d => d.parameters.length) = some 3 := by decide +kernel
set_option maxRecDepth 100000 in
set_option maxHeartbeats 4000000 in
theorem ctX8_lacks (l : Launch) (D : va_G) (cyI cyJ cyS : ClassId) (a0 : Nat → Nat) (i1 : Int32) (i2 : Int32) (i3 : Int32) (c_typed : Int32) (c_tenants : Int32) (c_room : Int32) (c_events : Int32) (c_gone : Int32) (c_audit : Int32) (c_sights : Int32) (c_drawn : Int32) (c_forms : Nat → Int32) (c_sizes : Nat → Int32) (c_latest : Int32) (o_r : Int32) (o_latest : Int32) (h : fX8_lacks i1 i2 i3 c_forms c_sizes c_latest = some (o_r, o_latest)) : jC l yX8_lacks wdX8_lacks rmX8_lacks D vwCl (tyz cyI cyJ cyS) [.ref (a0 0), .int i1, .int i2, .int i3] (uX8_lacks cyI cyJ cyS a0 c_latest c_typed c_tenants c_room c_events c_gone c_audit c_sights c_drawn c_forms c_sizes) (some (.int o_r)) (uX8_lacks cyI cyJ cyS a0 o_latest c_typed c_tenants c_room c_events c_gone c_audit c_sights c_drawn c_forms c_sizes) := by
  refine jC_of (cc := cX8_lacks) (nL := 4) (ret := (some .int)) (own := RX8) (lv := [(0, .ref (a0 0)), (1, .int i1), (2, .int i2), (3, .int i3)]) (by decide) rfl rfl (Nat.le_of_ble_eq_true rfl) rfl ?_
  intro p e s m args below meth c A K
  unfold fX8_lacks at h
  refine j_aload_n K 0 rfl dX8_lacks_0 rfl ?_
  refine j_getf (C := RX8) (T := TX8) (N := 29) (ci := 8) K icX8 0 0 (List.mem_cons_of_mem _ mw_5_8) rfl rfl rfl (by decide) rfl dX8_lacks_1 rfl ?_
  refine j_iload_n K 1 rfl dX8_lacks_4 rfl ?_
  refine j_iald K 1 0 rfl rfl dX8_lacks_5 rfl h (fun v_1 h => ?_)
  refine j_if_ge (tgt := 15) K dX8_lacks_6 (by decide) rfl h (fun h => ?_) (fun h => ?_)
  · refine j_aload_n K 0 rfl dX8_lacks_15 rfl ?_
    refine j_getf (C := RX8) (T := TX8) (N := 29) (ci := 8) K icX8 0 0 (List.mem_cons_of_mem _ mw_5_8) rfl rfl rfl (by decide) rfl dX8_lacks_16 rfl ?_
    refine j_iload_n K 1 rfl dX8_lacks_19 rfl ?_
    refine j_iald K 1 0 rfl rfl dX8_lacks_20 rfl h (fun v_2 h => ?_)
    refine j_iload_n K 2 rfl dX8_lacks_21 rfl ?_
    refine j_icmp_eq (tgt := 31) K dX8_lacks_22 (by decide) rfl h (fun h => ?_) (fun h => ?_)
    · refine j_iload_n K 3 rfl dX8_lacks_31 rfl ?_
      refine j_i2l K dX8_lacks_32 rfl ?_
      refine j_lconst (v := (0 : Int64)) K (by decide) dX8_lacks_33 rfl ?_
      refine j_aload_n K 0 rfl dX8_lacks_34 rfl ?_
      refine j_getf (C := RX8) (T := TX8) (N := 29) (ci := 8) K icX8 0 1 (List.mem_cons_of_mem _ mw_5_9) rfl rfl rfl (by decide) rfl dX8_lacks_35 rfl ?_
      refine j_iload_n K 1 rfl dX8_lacks_38 rfl ?_
      refine j_iald K 2 0 rfl rfl dX8_lacks_39 rfl h (fun v_3 h => ?_)
      refine j_iconst (v := (1 : Int32)) K (by decide) dX8_lacks_40 rfl ?_
      refine j_isub K dX8_lacks_41 rfl ?_
      refine j_i2l K dX8_lacks_42 rfl ?_
      obtain ⟨r_4, hc, h⟩ := bd1_some h
      refine j_callS (rest := []) (st1 := [.int r_4]) (ws' := (uX8_lacks cyI cyJ cyS a0 c_latest c_typed c_tenants c_room c_events c_gone c_audit c_sights c_drawn c_forms c_sizes)) K (ctX8_in l D cyI cyJ cyS (Int32.toInt64 i3) (0 : Int64) (Int32.toInt64 (v_3 - (1 : Int32))) r_4 hc) (gdS mcL mw_7_22 mw_7_23 mw_1_5 mw_8_0) rfl ⟨rfl, rfl⟩ hzX8_in ⟨Nat.le_of_ble_eq_true rfl, Nat.le_of_ble_eq_true rfl, Nat.le_of_ble_eq_true rfl, Nat.le_of_ble_eq_true rfl⟩ [] (by decide) rfl [none, none, none] (by decide) rfl rfl rfl rfl (Nat.le_of_ble_eq_true rfl) dX8_lacks_43 rfl rfl ?_
      refine j_if_eq (tgt := 53) K dX8_lacks_46 (by decide) rfl h (fun h => ?_) (fun h => ?_)
      · refine j_aload_n K 0 rfl dX8_lacks_53 rfl ?_
        refine j_iconst (v := (2 : Int32)) K (by decide) dX8_lacks_54 rfl ?_
        obtain ⟨r_5, c_latest_6, hc, h⟩ := bd2_some h
        refine j_callV (rest := []) (st1 := [.int r_5]) (ws' := (uX8_lacks cyI cyJ cyS a0 c_latest_6 c_typed c_tenants c_room c_events c_gone c_audit c_sights c_drawn c_forms c_sizes)) (T := TX8) (N := 29) (ci := 8) K (ctX8_finds l D cyI cyJ cyS a0 (2 : Int32) c_typed c_tenants c_room c_events c_gone c_audit c_sights c_drawn c_latest r_5 c_latest_6 hc) (gdV mcL mw_12_22 mw_12_23 mw_13_0 mw_1_5 mw_13_1) rfl ⟨rfl, rfl⟩ hyX8_finds ⟨Nat.le_of_ble_eq_true rfl, Nat.le_of_ble_eq_true rfl, Nat.le_of_ble_eq_true rfl, Nat.le_of_ble_eq_true rfl⟩ [0] (by decide) rfl [some 0, none, none] (by decide) rfl rfl 0 rfl rfl rfl rfl (Nat.le_of_ble_eq_true rfl) dX8_lacks_55 rfl rfl ?_
        obtain ⟨e1, g1⟩ := Prod.mk.inj (Option.some.inj h)
        subst e1
        subst g1
        exact j_iret K dX8_lacks_58
      · refine j_iconst (v := (0 : Int32)) K (by decide) dX8_lacks_49 rfl ?_
        refine j_goto (pc' := 58) K dX8_lacks_50 (by decide) ?_
        obtain ⟨e1, g1⟩ := Prod.mk.inj (Option.some.inj h)
        subst e1
        subst g1
        exact j_iret K dX8_lacks_58
    · refine j_aload_n K 0 rfl dX8_lacks_25 rfl ?_
      refine j_iconst (v := (3 : Int32)) K (by decide) dX8_lacks_26 rfl ?_
      obtain ⟨r_7, c_latest_8, hc, h⟩ := bd2_some h
      refine j_callV (rest := []) (st1 := [.int r_7]) (ws' := (uX8_lacks cyI cyJ cyS a0 c_latest_8 c_typed c_tenants c_room c_events c_gone c_audit c_sights c_drawn c_forms c_sizes)) (T := TX8) (N := 29) (ci := 8) K (ctX8_finds l D cyI cyJ cyS a0 (3 : Int32) c_typed c_tenants c_room c_events c_gone c_audit c_sights c_drawn c_latest r_7 c_latest_8 hc) (gdV mcL mw_12_22 mw_12_23 mw_13_0 mw_1_5 mw_13_1) rfl ⟨rfl, rfl⟩ hyX8_finds ⟨Nat.le_of_ble_eq_true rfl, Nat.le_of_ble_eq_true rfl, Nat.le_of_ble_eq_true rfl, Nat.le_of_ble_eq_true rfl⟩ [0] (by decide) rfl [some 0, none, none] (by decide) rfl rfl 0 rfl rfl rfl rfl (Nat.le_of_ble_eq_true rfl) dX8_lacks_27 rfl rfl ?_
      obtain ⟨e1, g1⟩ := Prod.mk.inj (Option.some.inj h)
      subst e1
      subst g1
      exact j_iret K dX8_lacks_30
  · refine j_aload_n K 0 rfl dX8_lacks_9 rfl ?_
    refine j_iconst (v := (1 : Int32)) K (by decide) dX8_lacks_10 rfl ?_
    obtain ⟨r_9, c_latest_10, hc, h⟩ := bd2_some h
    refine j_callV (rest := []) (st1 := [.int r_9]) (ws' := (uX8_lacks cyI cyJ cyS a0 c_latest_10 c_typed c_tenants c_room c_events c_gone c_audit c_sights c_drawn c_forms c_sizes)) (T := TX8) (N := 29) (ci := 8) K (ctX8_finds l D cyI cyJ cyS a0 (1 : Int32) c_typed c_tenants c_room c_events c_gone c_audit c_sights c_drawn c_latest r_9 c_latest_10 hc) (gdV mcL mw_12_22 mw_12_23 mw_13_0 mw_1_5 mw_13_1) rfl ⟨rfl, rfl⟩ hyX8_finds ⟨Nat.le_of_ble_eq_true rfl, Nat.le_of_ble_eq_true rfl, Nat.le_of_ble_eq_true rfl, Nat.le_of_ble_eq_true rfl⟩ [0] (by decide) rfl [some 0, none, none] (by decide) rfl rfl 0 rfl rfl rfl rfl (Nat.le_of_ble_eq_true rfl) dX8_lacks_11 rfl rfl ?_
    obtain ⟨e1, g1⟩ := Prod.mk.inj (Option.some.inj h)
    subst e1
    subst g1
    exact j_iret K dX8_lacks_14
abbrev uX8_cut (cyI cyJ cyS : ClassId) : va_W := []
abbrev rmX8_cut : Room := { frames := 0, cells := 0, slots := 0, locals := 0 }
abbrev wdX8_cut : List Cond := .code yX8_cut cX8_cut 2 (some .int) :: wsL_law
theorem hzX8_cut : yX8_cut.cls ≠ "java/lang/invoke/MethodHandle" ∧ yX8_cut.cls ≠ "java/lang/invoke/VarHandle" ∧ (parseMethodDescriptor yX8_cut.desc).map (fun d => d.parameters.length) = some 2 := by decide +kernel
set_option maxRecDepth 100000 in
set_option maxHeartbeats 4000000 in
theorem ctX8_cut (l : Launch) (D : va_G) (cyI cyJ cyS : ClassId) (i0 : Int32) (i1 : Int32) (o_r : Int32) (h : fX8_cut i0 i1 = some (o_r)) : jC l yX8_cut wdX8_cut rmX8_cut D vwCl (tyz cyI cyJ cyS) [.int i0, .int i1] (uX8_cut cyI cyJ cyS ) (some (.int o_r)) (uX8_cut cyI cyJ cyS ) := by
  refine jC_of (cc := cX8_cut) (nL := 2) (ret := (some .int)) (own := RX8) (lv := [(0, .int i0), (1, .int i1)]) (by decide) rfl rfl (Nat.le_of_ble_eq_true rfl) rfl ?_
  intro p e s m args below meth c A K
  unfold fX8_cut at h
  refine j_iload_n K 0 rfl dX8_cut_0 rfl ?_
  refine j_if_ne (tgt := 9) K dX8_cut_1 (by decide) rfl h (fun h => ?_) (fun h => ?_)
  · refine j_iload_n K 0 rfl dX8_cut_9 rfl ?_
    refine j_iconst (v := (1 : Int32)) K (by decide) dX8_cut_10 rfl ?_
    refine j_icmp_ne (tgt := 19) K dX8_cut_11 (by decide) rfl h (fun h => ?_) (fun h => ?_)
    · refine j_iload_n K 1 rfl dX8_cut_19 rfl ?_
      have h := Option.some.inj h
      subst h
      exact j_iret K dX8_cut_20
    · refine j_iload_n K 1 rfl dX8_cut_14 rfl ?_
      refine j_i2s K dX8_cut_15 rfl ?_
      refine j_goto (pc' := 20) K dX8_cut_16 (by decide) ?_
      have h := Option.some.inj h
      subst h
      exact j_iret K dX8_cut_20
  · refine j_iload_n K 1 rfl dX8_cut_4 rfl ?_
    refine j_i2b K dX8_cut_5 rfl ?_
    refine j_goto (pc' := 20) K dX8_cut_6 (by decide) ?_
    have h := Option.some.inj h
    subst h
    exact j_iret K dX8_cut_20
end GEN
