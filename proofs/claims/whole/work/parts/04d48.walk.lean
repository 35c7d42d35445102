section GEN
variable {p : Program} {l : Launch} {e : Env} {s : State} {m : MethodId} {args : Array Value} {below : List Frame} {meth : Method} {c : Code} {A : Nat → Prop} {D : va_G} {cyI cyJ cyS : ClassId}
abbrev uX8_read (cyI cyJ cyS : ClassId) (a0 : Nat → Nat) (c_latest : Int32) (c_typed : Int32) (c_tenants : Int32) (c_room : Int32) (c_events : Int32) (c_gone : Int32) (c_audit : Int32) (c_sights : Int32) (c_drawn : Int32) (c_forms : Nat → Int32) (c_sizes : Nat → Int32) (c_items : Nat → Int32) (c_event : Nat → Int32) : va_W := [((a0 0), .inr (8, [.ref (a0 1), .ref (a0 2), .ref (a0 3), .ref (a0 4), .int c_latest, .ref (a0 5), .int c_typed, .int c_tenants, .ref (a0 6), .int c_room, .int c_events, .ref (a0 7), .int c_gone, .ref (a0 8), .ref (a0 9), .ref (a0 10), .ref (a0 11), .ref (a0 12), .ref (a0 13), .ref (a0 14), .ref (a0 15), .ref (a0 16), .ref (a0 17), .ref (a0 18), .int c_audit, .int c_sights, .ref (a0 19), .ref (a0 20), .int c_drawn])), ((a0 1), .inl (cyI, 4, .inl c_forms)), ((a0 2), .inl (cyI, 4, .inl c_sizes)), ((a0 3), .inl (cyI, 240, .inl c_items)), ((a0 7), .inl (cyI, 24, .inl c_event))]
abbrev rmX8_read : Room := { frames := 3, cells := 0, slots := 0, locals := 68 }
abbrev wdX8_read : List Cond := .code yX8_read cX8_read 5 (some .int) :: wsL_law
theorem hyX8_read : yX8_read.cls = RX8 ∧ yX8_read.cls ≠ "java/lang/invoke/MethodHandle" ∧ yX8_read.cls ≠ "java/lang/invoke/VarHandle" ∧ (parseMethodDescriptor yX8_read.desc).map (fun d => d.parameters.length) = some 1 := by decide +kernel
set_option maxRecDepth 100000 in
set_option maxHeartbeats 4000000 in
theorem wX8_read_105 (K : jK p s m args meth c A D vwCl (tyz cyI cyJ cyS) cX8_read 5 RX8 wdX8_read (some .int)) (a0 : Nat → Nat) (c_typed : Int32) (c_tenants : Int32) (c_room : Int32) (c_gone : Int32) (c_audit : Int32) (c_sights : Int32) (c_drawn : Int32) (i1 : Int32) (c_forms : Nat → Int32) (c_sizes : Nat → Int32) (c_items : Nat → Int32) (o_r : Int32) (o_latest : Int32) (o_events : Int32) (o_event : Nat → Int32)  (q_29 : Int32 → Int32 → (Nat → Int32) → Int32 → Int32 → (Option (Int32 × Int32 × Int32 × (Nat → Int32)))) (hq_29 : ∀ (c_latest : Int32) (c_events : Int32) (c_event : Nat → Int32) (i2 : Int32) (i3 : Int32), q_29 c_latest c_events c_event i2 i3 = some (o_r, o_latest, o_events, o_event) → jw p l e rmX8_read s m args below meth c (jQ below args s A D vwCl (tyz cyI cyJ cyS) 0 0 (some (.int o_r)) (uX8_read cyI cyJ cyS a0 o_latest c_typed c_tenants c_room o_events c_gone c_audit c_sights c_drawn c_forms c_sizes c_items o_event)) A D vwCl 5 0 0 29 [(0, .ref (a0 0)), (1, .int i1), (2, .int i2), (3, .int i3)] [] (uX8_read cyI cyJ cyS a0 c_latest c_typed c_tenants c_room c_events c_gone c_audit c_sights c_drawn c_forms c_sizes c_items c_event)) : ∀ (c_latest : Int32) (c_events : Int32) (c_event : Nat → Int32) (i3 : Int32) (t0 : Int32) (t1 : Int32), fX8_read_105 i1 c_forms c_sizes c_items q_29 c_latest c_events c_event i3 t0 t1 = some (o_r, o_latest, o_events, o_event) → jw p l e rmX8_read s m args below meth c (jQ below args s A D vwCl (tyz cyI cyJ cyS) 0 0 (some (.int o_r)) (uX8_read cyI cyJ cyS a0 o_latest c_typed c_tenants c_room o_events c_gone c_audit c_sights c_drawn c_forms c_sizes c_items o_event)) A D vwCl 5 0 0 105 [(0, .ref (a0 0)), (1, .int i1), (3, .int i3)] [.int t0, .int t1] (uX8_read cyI cyJ cyS a0 c_latest c_typed c_tenants c_room c_events c_gone c_audit c_sights c_drawn c_forms c_sizes c_items c_event) := by
  intro c_latest c_events c_event i3 t0 t1 h
  unfold fX8_read_105 at h
  refine j_iadd K dX8_read_105 rfl ?_
  refine j_nmI h (fun i2_11 h => ?_)
  refine j_istore_n (lv' := [(2, .int i2_11), (0, .ref (a0 0)), (1, .int i1), (3, .int i3)]) K (by decide) rfl dX8_read_106 rfl ?_
  refine j_goto (pc' := 29) K dX8_read_107 (by decide) ?_
  refine j_sub [1, 2, 0, 3] (lv' := [(0, .ref (a0 0)), (1, .int i1), (2, .int i2_11), (3, .int i3)]) rfl ?_
  exact hq_29 c_latest c_events c_event i2_11 i3 h
set_option maxRecDepth 100000 in
set_option maxHeartbeats 4000000 in
theorem wX8_read_94 (K : jK p s m args meth c A D vwCl (tyz cyI cyJ cyS) cX8_read 5 RX8 wdX8_read (some .int)) (a0 : Nat → Nat) (c_typed : Int32) (c_tenants : Int32) (c_room : Int32) (c_gone : Int32) (c_audit : Int32) (c_sights : Int32) (c_drawn : Int32) (i1 : Int32) (c_forms : Nat → Int32) (c_sizes : Nat → Int32) (c_items : Nat → Int32) (o_r : Int32) (o_latest : Int32) (o_events : Int32) (o_event : Nat → Int32)  (q_29 : Int32 → Int32 → (Nat → Int32) → Int32 → Int32 → (Option (Int32 × Int32 × Int32 × (Nat → Int32)))) (hq_29 : ∀ (c_latest : Int32) (c_events : Int32) (c_event : Nat → Int32) (i2 : Int32) (i3 : Int32), q_29 c_latest c_events c_event i2 i3 = some (o_r, o_latest, o_events, o_event) → jw p l e rmX8_read s m args below meth c (jQ below args s A D vwCl (tyz cyI cyJ cyS) 0 0 (some (.int o_r)) (uX8_read cyI cyJ cyS a0 o_latest c_typed c_tenants c_room o_events c_gone c_audit c_sights c_drawn c_forms c_sizes c_items o_event)) A D vwCl 5 0 0 29 [(0, .ref (a0 0)), (1, .int i1), (2, .int i2), (3, .int i3)] [] (uX8_read cyI cyJ cyS a0 c_latest c_typed c_tenants c_room c_events c_gone c_audit c_sights c_drawn c_forms c_sizes c_items c_event)) : ∀ (c_latest : Int32) (c_events : Int32) (c_event : Nat → Int32) (i2 : Int32) (t0 : Int32), fX8_read_94 i1 c_forms c_sizes c_items q_29 c_latest c_events c_event i2 t0 = some (o_r, o_latest, o_events, o_event) → jw p l e rmX8_read s m args below meth c (jQ below args s A D vwCl (tyz cyI cyJ cyS) 0 0 (some (.int o_r)) (uX8_read cyI cyJ cyS a0 o_latest c_typed c_tenants c_room o_events c_gone c_audit c_sights c_drawn c_forms c_sizes c_items o_event)) A D vwCl 5 0 0 94 [(0, .ref (a0 0)), (1, .int i1), (2, .int i2)] [.int t0] (uX8_read cyI cyJ cyS a0 c_latest c_typed c_tenants c_room c_events c_gone c_audit c_sights c_drawn c_forms c_sizes c_items c_event) := by
  intro c_latest c_events c_event i2 t0 h
  unfold fX8_read_94 at h
  refine j_istore_n (lv' := [(3, .int t0), (0, .ref (a0 0)), (1, .int i1), (2, .int i2)]) K (by decide) rfl dX8_read_94 rfl ?_
  refine j_iload_n K 3 rfl dX8_read_95 rfl ?_
  refine j_iload_n K 0 rfl dX8_read_96 rfl ?_
  refine j_if_eq (tgt := 104) K dX8_read_97 (by decide) rfl h (fun h => ?_) (fun h => ?_)
  · refine j_iconst (v := (0 : Int32)) K (by decide) dX8_read_104 rfl ?_
    refine j_sub [1, 2, 0] (lv' := [(0, .ref (a0 0)), (1, .int i1), (3, .int t0)]) rfl ?_
    exact wX8_read_105 K a0 c_typed c_tenants c_room c_gone c_audit c_sights c_drawn i1 c_forms c_sizes c_items o_r o_latest o_events o_event q_29 hq_29 c_latest c_events c_event t0 (0 : Int32) i2 h
  · refine j_iconst (v := (1 : Int32)) K (by decide) dX8_read_100 rfl ?_
    refine j_goto (pc' := 105) K dX8_read_101 (by decide) ?_
    refine j_sub [1, 2, 0] (lv' := [(0, .ref (a0 0)), (1, .int i1), (3, .int t0)]) rfl ?_
    exact wX8_read_105 K a0 c_typed c_tenants c_room c_gone c_audit c_sights c_drawn i1 c_forms c_sizes c_items o_r o_latest o_events o_event q_29 hq_29 c_latest c_events c_event t0 (1 : Int32) i2 h
set_option maxRecDepth 100000 in
set_option maxHeartbeats 4000000 in
theorem wX8_read_29 (K : jK p s m args meth c A D vwCl (tyz cyI cyJ cyS) cX8_read 5 RX8 wdX8_read (some .int)) (a0 : Nat → Nat) (c_typed : Int32) (c_tenants : Int32) (c_room : Int32) (c_gone : Int32) (c_audit : Int32) (c_sights : Int32) (c_drawn : Int32) (i1 : Int32) (c_forms : Nat → Int32) (c_sizes : Nat → Int32) (c_items : Nat → Int32) (o_r : Int32) (o_latest : Int32) (o_events : Int32) (o_event : Nat → Int32)   : ∀ (n : Nat) (c_latest : Int32) (c_events : Int32) (c_event : Nat → Int32) (i2 : Int32) (i3 : Int32), fX8_read_29 i1 c_forms c_sizes c_items  n c_latest c_events c_event i2 i3 = some (o_r, o_latest, o_events, o_event) → jw p l e rmX8_read s m args below meth c (jQ below args s A D vwCl (tyz cyI cyJ cyS) 0 0 (some (.int o_r)) (uX8_read cyI cyJ cyS a0 o_latest c_typed c_tenants c_room o_events c_gone c_audit c_sights c_drawn c_forms c_sizes c_items o_event)) A D vwCl 5 0 0 29 [(0, .ref (a0 0)), (1, .int i1), (2, .int i2), (3, .int i3)] [] (uX8_read cyI cyJ cyS a0 c_latest c_typed c_tenants c_room c_events c_gone c_audit c_sights c_drawn c_forms c_sizes c_items c_event) := by
  intro n
  induction n with
  | zero => intro c_latest c_events c_event i2 i3 h; cases h
  | succ n ih =>
    intro c_latest c_events c_event i2 i3 h
    have h : bX8_read_29 i1 c_forms c_sizes c_items  (fX8_read_29 i1 c_forms c_sizes c_items  n) c_latest c_events c_event i2 i3 = some (o_r, o_latest, o_events, o_event) := h
    unfold bX8_read_29 at h
    refine j_iload_n K 3 rfl dX8_read_29 rfl ?_
    refine j_if_eq (tgt := 110) K dX8_read_30 (by decide) rfl h (fun h => ?_) (fun h => ?_)
    · refine j_iload_n K 2 rfl dX8_read_110 rfl ?_
      obtain ⟨e1, g1⟩ := Prod.mk.inj (Option.some.inj h)
      subst e1
      obtain ⟨e2, g2⟩ := Prod.mk.inj g1
      subst e2
      obtain ⟨e3, g3⟩ := Prod.mk.inj g2
      subst e3
      subst g3
      exact j_iret K dX8_read_111
    · refine j_iconst (v := (3 : Int32)) K (by decide) dX8_read_33 rfl ?_
      refine j_iload_n K 2 rfl dX8_read_34 rfl ?_
      refine j_imul K dX8_read_35 rfl ?_
      refine j_iconst (v := (3 : Int32)) K (by decide) dX8_read_36 rfl ?_
      refine j_iadd K dX8_read_37 rfl ?_
      refine j_aload_n K 0 rfl dX8_read_38 rfl ?_
      refine j_getf (C := RX8) (T := TX8) (N := 29) (ci := 8) K icX8 0 1 (List.mem_cons_of_mem _ mw_5_9) rfl rfl rfl (by decide) rfl dX8_read_39 rfl ?_
      refine j_iload_n K 1 rfl dX8_read_42 rfl ?_
      refine j_iald K 2 0 rfl rfl dX8_read_43 rfl h (fun v_3 h => ?_)
      refine j_icmp_gt (tgt := 110) K dX8_read_44 (by decide) rfl h (fun h => ?_) (fun h => ?_)
      · refine j_iload_n K 2 rfl dX8_read_110 rfl ?_
        obtain ⟨e1, g1⟩ := Prod.mk.inj (Option.some.inj h)
        subst e1
        obtain ⟨e2, g2⟩ := Prod.mk.inj g1
        subst e2
        obtain ⟨e3, g3⟩ := Prod.mk.inj g2
        subst e3
        subst g3
        exact j_iret K dX8_read_111
      · refine j_bipush (v := (60 : Int32)) K (by decide) dX8_read_47 rfl ?_
        refine j_iload_n K 1 rfl dX8_read_49 rfl ?_
        refine j_imul K dX8_read_50 rfl ?_
        refine j_iconst (v := (3 : Int32)) K (by decide) dX8_read_51 rfl ?_
        refine j_iload_n K 2 rfl dX8_read_52 rfl ?_
        refine j_imul K dX8_read_53 rfl ?_
        refine j_iadd K dX8_read_54 rfl ?_
        refine j_nmI h (fun i4_4 h => ?_)
        refine j_istore (lv' := [(4, .int i4_4), (0, .ref (a0 0)), (1, .int i1), (2, .int i2), (3, .int i3)]) K (by decide) rfl dX8_read_55 rfl ?_
        refine j_aload_n K 1 rfl dX8_read_57 rfl ?_
        refine j_aload_n K 1 rfl dX8_read_58 rfl ?_
        refine j_getf (C := RX8) (T := TX8) (N := 29) (ci := 8) K icX8 0 2 (List.mem_cons_of_mem _ mw_5_10) rfl rfl rfl (by decide) rfl dX8_read_59 rfl ?_
        refine j_iload K 0 rfl dX8_read_62 rfl ?_
        refine j_iald K 3 0 rfl rfl dX8_read_64 rfl h (fun v_5 h => ?_)
        refine j_aload_n K 1 rfl dX8_read_65 rfl ?_
        refine j_getf (C := RX8) (T := TX8) (N := 29) (ci := 8) K icX8 0 2 (List.mem_cons_of_mem _ mw_5_10) rfl rfl rfl (by decide) rfl dX8_read_66 rfl ?_
        refine j_iload K 0 rfl dX8_read_69 rfl ?_
        refine j_iconst (v := (1 : Int32)) K (by decide) dX8_read_71 rfl ?_
        refine j_iadd K dX8_read_72 rfl ?_
        refine j_iald K 3 0 rfl rfl dX8_read_73 rfl h (fun v_6 h => ?_)
        refine j_aload_n K 1 rfl dX8_read_74 rfl ?_
        refine j_getf (C := RX8) (T := TX8) (N := 29) (ci := 8) K icX8 0 2 (List.mem_cons_of_mem _ mw_5_10) rfl rfl rfl (by decide) rfl dX8_read_75 rfl ?_
        refine j_iload K 0 rfl dX8_read_78 rfl ?_
        refine j_iconst (v := (2 : Int32)) K (by decide) dX8_read_80 rfl ?_
        refine j_iadd K dX8_read_81 rfl ?_
        refine j_iald K 3 0 rfl rfl dX8_read_82 rfl h (fun v_7 h => ?_)
        obtain ⟨r_8, c_events_9, c_event_10, hc, h⟩ := bd3_some h
        refine j_callV (rest := []) (st1 := [.int r_8]) (ws' := (uX8_read cyI cyJ cyS a0 c_latest c_typed c_tenants c_room c_events_9 c_gone c_audit c_sights c_drawn c_forms c_sizes c_items c_event_10)) (T := TX8) (N := 29) (ci := 8) K (ctX8_event l D cyI cyJ cyS a0 v_5 v_6 v_7 c_latest c_typed c_tenants c_room c_gone c_audit c_sights c_drawn c_events c_event r_8 c_events_9 c_event_10 hc) (gdV mcL mw_13_3 mw_11_9 mw_11_10 mw_1_5 mw_11_11) rfl ⟨rfl, rfl⟩ hyX8_event ⟨Nat.le_of_ble_eq_true rfl, Nat.le_of_ble_eq_true rfl, Nat.le_of_ble_eq_true rfl, Nat.le_of_ble_eq_true rfl⟩ [0, 4] (by decide) rfl [some 0, none, none, none, some 1] (by decide) rfl rfl 0 rfl rfl rfl rfl (Nat.le_of_ble_eq_true rfl) dX8_read_83 rfl rfl ?_
        refine j_if_lt (tgt := 93) K dX8_read_86 (by decide) rfl h (fun h => ?_) (fun h => ?_)
        · refine j_iconst (v := (0 : Int32)) K (by decide) dX8_read_93 rfl ?_
          refine j_sub [1, 2, 3] (lv' := [(0, .ref (a0 0)), (1, .int i1), (2, .int i2)]) rfl ?_
          exact wX8_read_94 K a0 c_typed c_tenants c_room c_gone c_audit c_sights c_drawn i1 c_forms c_sizes c_items o_r o_latest o_events o_event (fX8_read_29 i1 c_forms c_sizes c_items n) (fun z0 z1 z2 z3 z4 hq => ih z0 z1 z2 z3 z4 hq) c_latest c_events_9 c_event_10 i2 (0 : Int32) h
        · refine j_iconst (v := (1 : Int32)) K (by decide) dX8_read_89 rfl ?_
          refine j_goto (pc' := 94) K dX8_read_90 (by decide) ?_
          refine j_sub [1, 2, 3] (lv' := [(0, .ref (a0 0)), (1, .int i1), (2, .int i2)]) rfl ?_
          exact wX8_read_94 K a0 c_typed c_tenants c_room c_gone c_audit c_sights c_drawn i1 c_forms c_sizes c_items o_r o_latest o_events o_event (fX8_read_29 i1 c_forms c_sizes c_items n) (fun z0 z1 z2 z3 z4 hq => ih z0 z1 z2 z3 z4 hq) c_latest c_events_9 c_event_10 i2 (1 : Int32) h
set_option maxRecDepth 100000 in
set_option maxHeartbeats 4000000 in
theorem ctX8_read (l : Launch) (D : va_G) (cyI cyJ cyS : ClassId) (a0 : Nat → Nat) (i1 : Int32) (c_typed : Int32) (c_tenants : Int32) (c_room : Int32) (c_gone : Int32) (c_audit : Int32) (c_sights : Int32) (c_drawn : Int32) (c_forms : Nat → Int32) (c_sizes : Nat → Int32) (c_items : Nat → Int32) (c_latest : Int32) (c_events : Int32) (c_event : Nat → Int32) (o_r : Int32) (o_latest : Int32) (o_events : Int32) (o_event : Nat → Int32) (h : fX8_read i1 c_forms c_sizes c_items c_latest c_events c_event = some (o_r, o_latest, o_events, o_event)) : jC l yX8_read wdX8_read rmX8_read D vwCl (tyz cyI cyJ cyS) [.ref (a0 0), .int i1] (uX8_read cyI cyJ cyS a0 c_latest c_typed c_tenants c_room c_events c_gone c_audit c_sights c_drawn c_forms c_sizes c_items c_event) (some (.int o_r)) (uX8_read cyI cyJ cyS a0 o_latest c_typed c_tenants c_room o_events c_gone c_audit c_sights c_drawn c_forms c_sizes c_items o_event) := by
  refine jC_of (cc := cX8_read) (nL := 5) (ret := (some .int)) (own := RX8) (lv := [(0, .ref (a0 0)), (1, .int i1)]) (by decide) rfl rfl (Nat.le_of_ble_eq_true rfl) rfl ?_
  intro p e s m args below meth c A K
  unfold fX8_read at h
  refine j_iload_n K 1 rfl dX8_read_0 rfl ?_
  obtain ⟨r_1, hc, h⟩ := bd1_some h
  refine j_callS (rest := []) (st1 := [.int r_1]) (ws' := (uX8_read cyI cyJ cyS a0 c_latest c_typed c_tenants c_room c_events c_gone c_audit c_sights c_drawn c_forms c_sizes c_items c_event)) K (ctX8_isSheet l D cyI cyJ cyS i1 r_1 hc) (gdS mcL mw_12_18 mw_12_19 mw_1_5 mw_12_20) rfl ⟨rfl, rfl⟩ hzX8_isSheet ⟨Nat.le_of_ble_eq_true rfl, Nat.le_of_ble_eq_true rfl, Nat.le_of_ble_eq_true rfl, Nat.le_of_ble_eq_true rfl⟩ [] (by decide) rfl [none, none, none, none, none] (by decide) rfl rfl rfl rfl (Nat.le_of_ble_eq_true rfl) dX8_read_1 rfl rfl ?_
  refine j_if_ne (tgt := 10) K dX8_read_4 (by decide) rfl h (fun h => ?_) (fun h => ?_)
  · refine j_aload_n K 0 rfl dX8_read_10 rfl ?_
    refine j_getf (C := RX8) (T := TX8) (N := 29) (ci := 8) K icX8 0 0 (List.mem_cons_of_mem _ mw_5_8) rfl rfl rfl (by decide) rfl dX8_read_11 rfl ?_
    refine j_iload_n K 1 rfl dX8_read_14 rfl ?_
    refine j_iald K 1 0 rfl rfl dX8_read_15 rfl h (fun v_2 h => ?_)
    refine j_if_ge (tgt := 25) K dX8_read_16 (by decide) rfl h (fun h => ?_) (fun h => ?_)
    · refine j_iconst (v := (0 : Int32)) K (by decide) dX8_read_25 rfl ?_
      refine j_istore_n (lv' := [(2, .int (0 : Int32)), (0, .ref (a0 0)), (1, .int i1)]) K (by decide) rfl dX8_read_26 rfl ?_
      refine j_iconst (v := (1 : Int32)) K (by decide) dX8_read_27 rfl ?_
      refine j_istore_n (lv' := [(3, .int (1 : Int32)), (2, .int (0 : Int32)), (0, .ref (a0 0)), (1, .int i1)]) K (by decide) rfl dX8_read_28 rfl ?_
      refine j_sub [2, 3, 1, 0] (lv' := [(0, .ref (a0 0)), (1, .int i1), (2, .int (0 : Int32)), (3, .int (1 : Int32))]) rfl ?_
      exact wX8_read_29 K a0 c_typed c_tenants c_room c_gone c_audit c_sights c_drawn i1 c_forms c_sizes c_items o_r o_latest o_events o_event jF c_latest c_events c_event (0 : Int32) (1 : Int32) h
    · refine j_aload_n K 0 rfl dX8_read_19 rfl ?_
      refine j_iconst (v := (1 : Int32)) K (by decide) dX8_read_20 rfl ?_
      obtain ⟨r_12, c_latest_13, hc, h⟩ := bd2_some h
      refine j_callV (rest := []) (st1 := [.int r_12]) (ws' := (uX8_read cyI cyJ cyS a0 c_latest_13 c_typed c_tenants c_room c_events c_gone c_audit c_sights c_drawn c_forms c_sizes c_items c_event)) (T := TX8) (N := 29) (ci := 8) K (ctX8_finds l D cyI cyJ cyS a0 (1 : Int32) c_typed c_tenants c_room c_events c_gone c_audit c_sights c_drawn c_latest r_12 c_latest_13 hc) (gdV mcL mw_12_22 mw_12_23 mw_13_0 mw_1_5 mw_13_1) rfl ⟨rfl, rfl⟩ hyX8_finds ⟨Nat.le_of_ble_eq_true rfl, Nat.le_of_ble_eq_true rfl, Nat.le_of_ble_eq_true rfl, Nat.le_of_ble_eq_true rfl⟩ [0] (by decide) rfl [some 0, none, none, none, none] (by decide) rfl rfl 0 rfl rfl rfl rfl (Nat.le_of_ble_eq_true rfl) dX8_read_21 rfl rfl ?_
      obtain ⟨e1, g1⟩ := Prod.mk.inj (Option.some.inj h)
      subst e1
      obtain ⟨e2, g2⟩ := Prod.mk.inj g1
      subst e2
      obtain ⟨e3, g3⟩ := Prod.mk.inj g2
      subst e3
      subst g3
      exact j_iret K dX8_read_24
  · refine j_bipush (v := (-2 : Int32)) K (by decide) dX8_read_7 rfl ?_
    obtain ⟨e1, g1⟩ := Prod.mk.inj (Option.some.inj h)
    subst e1
    obtain ⟨e2, g2⟩ := Prod.mk.inj g1
    subst e2
    obtain ⟨e3, g3⟩ := Prod.mk.inj g2
    subst e3
    subst g3
    exact j_iret K dX8_read_9
end GEN
