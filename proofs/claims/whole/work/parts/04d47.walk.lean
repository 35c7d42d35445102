section GEN
variable {p : Program} {l : Launch} {e : Env} {s : State} {m : MethodId} {args : Array Value} {below : List Frame} {meth : Method} {c : Code} {A : Nat → Prop} {D : va_G} {cyI cyJ cyS : ClassId}
abbrev uX8_event (cyI cyJ cyS : ClassId) (a0 : Nat → Nat) (c_latest : Int32) (c_typed : Int32) (c_tenants : Int32) (c_room : Int32) (c_events : Int32) (c_gone : Int32) (c_audit : Int32) (c_sights : Int32) (c_drawn : Int32) (c_event : Nat → Int32) : va_W := [((a0 0), .inr (8, [.ref (a0 1), .ref (a0 2), .ref (a0 3), .ref (a0 4), .int c_latest, .ref (a0 5), .int c_typed, .int c_tenants, .ref (a0 6), .int c_room, .int c_events, .ref (a0 7), .int c_gone, .ref (a0 8), .ref (a0 9), .ref (a0 10), .ref (a0 11), .ref (a0 12), .ref (a0 13), .ref (a0 14), .ref (a0 15), .ref (a0 16), .ref (a0 17), .ref (a0 18), .int c_audit, .int c_sights, .ref (a0 19), .ref (a0 20), .int c_drawn])), ((a0 7), .inl (cyI, 24, .inl c_event))]
abbrev rmX8_event : Room := { frames := 2, cells := 0, slots := 0, locals := 45 }
abbrev wdX8_event : List Cond := .code yX8_event cX8_event 4 (some .int) :: wsL_law
theorem hyX8_event : yX8_event.cls = RX8 ∧ yX8_event.cls ≠ "java/lang/invoke/MethodHandle" ∧ yX8_event.cls ≠ "java/lang/invoke/VarHandle" ∧ (parseMethodDescriptor yX8_event.desc).map (fun d => d.parameters.length) = some 3 := by decide +kernel
set_option maxRecDepth 100000 in
set_option maxHeartbeats 4000000 in
theorem ctX8_event (l : Launch) (D : va_G) (cyI cyJ cyS : ClassId) (a0 : Nat → Nat) (i1 : Int32) (i2 : Int32) (i3 : Int32) (c_latest : Int32) (c_typed : Int32) (c_tenants : Int32) (c_room : Int32) (c_gone : Int32) (c_audit : Int32) (c_sights : Int32) (c_drawn : Int32) (c_events : Int32) (c_event : Nat → Int32) (o_r : Int32) (o_events : Int32) (o_event : Nat → Int32) (h : fX8_event i1 i2 i3 c_events c_event = some (o_r, o_events, o_event)) : jC l yX8_event wdX8_event rmX8_event D vwCl (tyz cyI cyJ cyS) [.ref (a0 0), .int i1, .int i2, .int i3] (uX8_event cyI cyJ cyS a0 c_latest c_typed c_tenants c_room c_events c_gone c_audit c_sights c_drawn c_event) (some (.int o_r)) (uX8_event cyI cyJ cyS a0 c_latest c_typed c_tenants c_room o_events c_gone c_audit c_sights c_drawn o_event) := by
  refine jC_of (cc := cX8_event) (nL := 4) (ret := (some .int)) (own := RX8) (lv := [(0, .ref (a0 0)), (1, .int i1), (2, .int i2), (3, .int i3)]) (by decide) rfl rfl (Nat.le_of_ble_eq_true rfl) rfl ?_
  intro p e s m args below meth c A K
  unfold fX8_event at h
  refine j_iload_n K 1 rfl dX8_event_0 rfl ?_
  refine j_i2l K dX8_event_1 rfl ?_
  refine j_lconst (v := (0 : Int64)) K (by decide) dX8_event_2 rfl ?_
  refine j_ldc2 (v := (2 : Int64)) K (List.mem_cons_of_mem _ mw_10_4) dX8_event_3 rfl ?_
  obtain ⟨r_1, hc, h⟩ := bd1_some h
  refine j_callS (rest := []) (st1 := [.int r_1]) (ws' := (uX8_event cyI cyJ cyS a0 c_latest c_typed c_tenants c_room c_events c_gone c_audit c_sights c_drawn c_event)) K (ctX8_in l D cyI cyJ cyS (Int32.toInt64 i1) (0 : Int64) (2 : Int64) r_1 hc) (gdS mcL mw_7_22 mw_7_23 mw_1_5 mw_8_0) rfl ⟨rfl, rfl⟩ hzX8_in ⟨Nat.le_of_ble_eq_true rfl, Nat.le_of_ble_eq_true rfl, Nat.le_of_ble_eq_true rfl, Nat.le_of_ble_eq_true rfl⟩ [] (by decide) rfl [none, none] (by decide) rfl rfl rfl rfl (Nat.le_of_ble_eq_true rfl) dX8_event_6 rfl rfl ?_
  refine j_if_eq (tgt := 31) K dX8_event_9 (by decide) rfl h (fun h => ?_) (fun h => ?_)
  · refine j_bipush (v := (-2 : Int32)) K (by decide) dX8_event_31 rfl ?_
    obtain ⟨e1, g1⟩ := Prod.mk.inj (Option.some.inj h)
    subst e1
    obtain ⟨e2, g2⟩ := Prod.mk.inj g1
    subst e2
    subst g2
    exact j_iret K dX8_event_33
  · refine j_iload_n K 2 rfl dX8_event_12 rfl ?_
    obtain ⟨r_2, hc, h⟩ := bd1_some h
    refine j_callS (rest := []) (st1 := [.int r_2]) (ws' := (uX8_event cyI cyJ cyS a0 c_latest c_typed c_tenants c_room c_events c_gone c_audit c_sights c_drawn c_event)) K (ctX8_isMonth l D cyI cyJ cyS i2 r_2 hc) (gdS mcL mw_11_14 mw_11_15 mw_1_5 mw_11_16) rfl ⟨rfl, rfl⟩ hzX8_isMonth ⟨Nat.le_of_ble_eq_true rfl, Nat.le_of_ble_eq_true rfl, Nat.le_of_ble_eq_true rfl, Nat.le_of_ble_eq_true rfl⟩ [] (by decide) rfl [none, none] (by decide) rfl rfl rfl rfl (Nat.le_of_ble_eq_true rfl) dX8_event_13 rfl rfl ?_
    refine j_if_eq (tgt := 31) K dX8_event_16 (by decide) rfl h (fun h => ?_) (fun h => ?_)
    · refine j_bipush (v := (-2 : Int32)) K (by decide) dX8_event_31 rfl ?_
      obtain ⟨e1, g1⟩ := Prod.mk.inj (Option.some.inj h)
      subst e1
      obtain ⟨e2, g2⟩ := Prod.mk.inj g1
      subst e2
      subst g2
      exact j_iret K dX8_event_33
    · refine j_iload_n K 3 rfl dX8_event_19 rfl ?_
      refine j_i2l K dX8_event_20 rfl ?_
      refine j_lconst (v := (0 : Int64)) K (by decide) dX8_event_21 rfl ?_
      refine j_ldc2 (v := (7 : Int64)) K (List.mem_cons_of_mem _ mw_11_12) dX8_event_22 rfl ?_
      obtain ⟨r_3, hc, h⟩ := bd1_some h
      refine j_callS (rest := []) (st1 := [.int r_3]) (ws' := (uX8_event cyI cyJ cyS a0 c_latest c_typed c_tenants c_room c_events c_gone c_audit c_sights c_drawn c_event)) K (ctX8_in l D cyI cyJ cyS (Int32.toInt64 i3) (0 : Int64) (7 : Int64) r_3 hc) (gdS mcL mw_7_22 mw_7_23 mw_1_5 mw_8_0) rfl ⟨rfl, rfl⟩ hzX8_in ⟨Nat.le_of_ble_eq_true rfl, Nat.le_of_ble_eq_true rfl, Nat.le_of_ble_eq_true rfl, Nat.le_of_ble_eq_true rfl⟩ [] (by decide) rfl [none, none] (by decide) rfl rfl rfl rfl (Nat.le_of_ble_eq_true rfl) dX8_event_25 rfl rfl ?_
      refine j_if_ne (tgt := 34) K dX8_event_28 (by decide) rfl h (fun h => ?_) (fun h => ?_)
      · refine j_aload_n K 0 rfl dX8_event_34 rfl ?_
        refine j_getf (C := RX8) (T := TX8) (N := 29) (ci := 8) K icX8 0 10 (List.mem_cons_of_mem _ mw_11_13) rfl rfl rfl (by decide) rfl dX8_event_35 rfl ?_
        refine j_bipush (v := (8 : Int32)) K (by decide) dX8_event_38 rfl ?_
        refine j_icmp_ne (tgt := 46) K dX8_event_40 (by decide) rfl h (fun h => ?_) (fun h => ?_)
        · refine j_aload_n K 0 rfl dX8_event_46 rfl ?_
          refine j_getf (C := RX8) (T := TX8) (N := 29) (ci := 8) K icX8 0 11 (List.mem_cons_of_mem _ mw_5_14) rfl rfl rfl (by decide) rfl dX8_event_47 rfl ?_
          refine j_iconst (v := (3 : Int32)) K (by decide) dX8_event_50 rfl ?_
          refine j_aload_n K 0 rfl dX8_event_51 rfl ?_
          refine j_getf (C := RX8) (T := TX8) (N := 29) (ci := 8) K icX8 0 10 (List.mem_cons_of_mem _ mw_11_13) rfl rfl rfl (by decide) rfl dX8_event_52 rfl ?_
          refine j_imul K dX8_event_55 rfl ?_
          refine j_iload_n K 1 rfl dX8_event_56 rfl ?_
          refine j_iast K 1 0 (fun z => (uX8_event cyI cyJ cyS a0 c_latest c_typed c_tenants c_room c_events c_gone c_audit c_sights c_drawn z)) rfl rfl (fun _ => rfl) dX8_event_57 rfl h (fun c_event_4 h => ?_)
          refine j_aload_n K 0 rfl dX8_event_58 rfl ?_
          refine j_getf (C := RX8) (T := TX8) (N := 29) (ci := 8) K icX8 0 11 (List.mem_cons_of_mem _ mw_5_14) rfl rfl rfl (by decide) rfl dX8_event_59 rfl ?_
          refine j_iconst (v := (3 : Int32)) K (by decide) dX8_event_62 rfl ?_
          refine j_aload_n K 0 rfl dX8_event_63 rfl ?_
          refine j_getf (C := RX8) (T := TX8) (N := 29) (ci := 8) K icX8 0 10 (List.mem_cons_of_mem _ mw_11_13) rfl rfl rfl (by decide) rfl dX8_event_64 rfl ?_
          refine j_imul K dX8_event_67 rfl ?_
          refine j_iconst (v := (1 : Int32)) K (by decide) dX8_event_68 rfl ?_
          refine j_iadd K dX8_event_69 rfl ?_
          refine j_iload_n K 2 rfl dX8_event_70 rfl ?_
          refine j_iast K 1 0 (fun z => (uX8_event cyI cyJ cyS a0 c_latest c_typed c_tenants c_room c_events c_gone c_audit c_sights c_drawn z)) rfl rfl (fun _ => rfl) dX8_event_71 rfl h (fun c_event_5 h => ?_)
          refine j_aload_n K 0 rfl dX8_event_72 rfl ?_
          refine j_getf (C := RX8) (T := TX8) (N := 29) (ci := 8) K icX8 0 11 (List.mem_cons_of_mem _ mw_5_14) rfl rfl rfl (by decide) rfl dX8_event_73 rfl ?_
          refine j_iconst (v := (3 : Int32)) K (by decide) dX8_event_76 rfl ?_
          refine j_aload_n K 0 rfl dX8_event_77 rfl ?_
          refine j_getf (C := RX8) (T := TX8) (N := 29) (ci := 8) K icX8 0 10 (List.mem_cons_of_mem _ mw_11_13) rfl rfl rfl (by decide) rfl dX8_event_78 rfl ?_
          refine j_imul K dX8_event_81 rfl ?_
          refine j_iconst (v := (2 : Int32)) K (by decide) dX8_event_82 rfl ?_
          refine j_iadd K dX8_event_83 rfl ?_
          refine j_iload_n K 3 rfl dX8_event_84 rfl ?_
          refine j_iast K 1 0 (fun z => (uX8_event cyI cyJ cyS a0 c_latest c_typed c_tenants c_room c_events c_gone c_audit c_sights c_drawn z)) rfl rfl (fun _ => rfl) dX8_event_85 rfl h (fun c_event_6 h => ?_)
          refine j_aload_n K 0 rfl dX8_event_86 rfl ?_
          refine j_dup K rfl dX8_event_87 rfl ?_
          refine j_getf (C := RX8) (T := TX8) (N := 29) (ci := 8) K icX8 0 10 (List.mem_cons_of_mem _ mw_11_13) rfl rfl rfl (by decide) rfl dX8_event_88 rfl ?_
          refine j_iconst (v := (1 : Int32)) K (by decide) dX8_event_91 rfl ?_
          refine j_iadd K dX8_event_92 rfl ?_
          refine j_nmI h (fun c_events_7 h => ?_)
          refine j_putf (C := RX8) (T := TX8) (N := 29) (ci := 8) (ty := .int) (ws' := (uX8_event cyI cyJ cyS a0 c_latest c_typed c_tenants c_room c_events_7 c_gone c_audit c_sights c_drawn c_event_6)) K icX8 tyX8 tyX8_ok nmX8 0 10 (List.mem_cons_of_mem _ mw_11_13) rfl rfl rfl (by decide) rfl (by decide +kernel) rfl rfl (Nat.le_of_ble_eq_true rfl) rfl dX8_event_93 rfl ?_
          refine j_aload_n K 0 rfl dX8_event_96 rfl ?_
          refine j_getf (C := RX8) (T := TX8) (N := 29) (ci := 8) K icX8 0 10 (List.mem_cons_of_mem _ mw_11_13) rfl rfl rfl (by decide) rfl dX8_event_97 rfl ?_
          obtain ⟨e1, g1⟩ := Prod.mk.inj (Option.some.inj h)
          subst e1
          obtain ⟨e2, g2⟩ := Prod.mk.inj g1
          subst e2
          subst g2
          exact j_iret K dX8_event_100
        · refine j_bipush (v := (-4 : Int32)) K (by decide) dX8_event_43 rfl ?_
          obtain ⟨e1, g1⟩ := Prod.mk.inj (Option.some.inj h)
          subst e1
          obtain ⟨e2, g2⟩ := Prod.mk.inj g1
          subst e2
          subst g2
          exact j_iret K dX8_event_45
      · refine j_bipush (v := (-2 : Int32)) K (by decide) dX8_event_31 rfl ?_
        obtain ⟨e1, g1⟩ := Prod.mk.inj (Option.some.inj h)
        subst e1
        obtain ⟨e2, g2⟩ := Prod.mk.inj g1
        subst e2
        subst g2
        exact j_iret K dX8_event_33
abbrev uX8_back (cyI cyJ cyS : ClassId) (a0 : Nat → Nat) (c_latest : Int32) (c_typed : Int32) (c_tenants : Int32) (c_room : Int32) (c_events : Int32) (c_gone : Int32) (c_audit : Int32) (c_sights : Int32) (c_drawn : Int32) : va_W := [((a0 0), .inr (8, [.ref (a0 1), .ref (a0 2), .ref (a0 3), .ref (a0 4), .int c_latest, .ref (a0 5), .int c_typed, .int c_tenants, .ref (a0 6), .int c_room, .int c_events, .ref (a0 7), .int c_gone, .ref (a0 8), .ref (a0 9), .ref (a0 10), .ref (a0 11), .ref (a0 12), .ref (a0 13), .ref (a0 14), .ref (a0 15), .ref (a0 16), .ref (a0 17), .ref (a0 18), .int c_audit, .int c_sights, .ref (a0 19), .ref (a0 20), .int c_drawn]))]
abbrev rmX8_back : Room := { frames := 0, cells := 0, slots := 0, locals := 0 }
abbrev wdX8_back : List Cond := .code yX8_back cX8_back 1 (some .int) :: wsL_law
theorem hyX8_back : yX8_back.cls = RX8 ∧ yX8_back.cls ≠ "java/lang/invoke/MethodHandle" ∧ yX8_back.cls ≠ "java/lang/invoke/VarHandle" ∧ (parseMethodDescriptor yX8_back.desc).map (fun d => d.parameters.length) = some 0 := by decide +kernel
set_option maxRecDepth 100000 in
set_option maxHeartbeats 4000000 in
theorem ctX8_back (l : Launch) (D : va_G) (cyI cyJ cyS : ClassId) (a0 : Nat → Nat) (c_latest : Int32) (c_typed : Int32) (c_tenants : Int32) (c_room : Int32) (c_gone : Int32) (c_audit : Int32) (c_sights : Int32) (c_drawn : Int32) (c_events : Int32) (o_r : Int32) (o_events : Int32) (h : fX8_back c_events = some (o_r, o_events)) : jC l yX8_back wdX8_back rmX8_back D vwCl (tyz cyI cyJ cyS) [.ref (a0 0)] (uX8_back cyI cyJ cyS a0 c_latest c_typed c_tenants c_room c_events c_gone c_audit c_sights c_drawn) (some (.int o_r)) (uX8_back cyI cyJ cyS a0 c_latest c_typed c_tenants c_room o_events c_gone c_audit c_sights c_drawn) := by
  refine jC_of (cc := cX8_back) (nL := 1) (ret := (some .int)) (own := RX8) (lv := [(0, .ref (a0 0))]) (by decide) rfl rfl (Nat.le_of_ble_eq_true rfl) rfl ?_
  intro p e s m args below meth c A K
  unfold fX8_back at h
  refine j_aload_n K 0 rfl dX8_back_0 rfl ?_
  refine j_getf (C := RX8) (T := TX8) (N := 29) (ci := 8) K icX8 0 10 (List.mem_cons_of_mem _ mw_11_13) rfl rfl rfl (by decide) rfl dX8_back_1 rfl ?_
  refine j_if_ne (tgt := 10) K dX8_back_4 (by decide) rfl h (fun h => ?_) (fun h => ?_)
  · refine j_aload_n K 0 rfl dX8_back_10 rfl ?_
    refine j_dup K rfl dX8_back_11 rfl ?_
    refine j_getf (C := RX8) (T := TX8) (N := 29) (ci := 8) K icX8 0 10 (List.mem_cons_of_mem _ mw_11_13) rfl rfl rfl (by decide) rfl dX8_back_12 rfl ?_
    refine j_iconst (v := (1 : Int32)) K (by decide) dX8_back_15 rfl ?_
    refine j_isub K dX8_back_16 rfl ?_
    refine j_nmI h (fun c_events_1 h => ?_)
    refine j_putf (C := RX8) (T := TX8) (N := 29) (ci := 8) (ty := .int) (ws' := (uX8_back cyI cyJ cyS a0 c_latest c_typed c_tenants c_room c_events_1 c_gone c_audit c_sights c_drawn)) K icX8 tyX8 tyX8_ok nmX8 0 10 (List.mem_cons_of_mem _ mw_11_13) rfl rfl rfl (by decide) rfl (by decide +kernel) rfl rfl (Nat.le_of_ble_eq_true rfl) rfl dX8_back_17 rfl ?_
    refine j_aload_n K 0 rfl dX8_back_20 rfl ?_
    refine j_getf (C := RX8) (T := TX8) (N := 29) (ci := 8) K icX8 0 10 (List.mem_cons_of_mem _ mw_11_13) rfl rfl rfl (by decide) rfl dX8_back_21 rfl ?_
    obtain ⟨e1, g1⟩ := Prod.mk.inj (Option.some.inj h)
    subst e1
    subst g1
    exact j_iret K dX8_back_24
  · refine j_bipush (v := (-3 : Int32)) K (by decide) dX8_back_7 rfl ?_
    obtain ⟨e1, g1⟩ := Prod.mk.inj (Option.some.inj h)
    subst e1
    subst g1
    exact j_iret K dX8_back_9
end GEN
