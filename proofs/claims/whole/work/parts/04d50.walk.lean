section GEN
variable {p : Program} {l : Launch} {e : Env} {s : State} {m : MethodId} {args : Array Value} {below : List Frame} {meth : Method} {c : Code} {A : Nat → Prop} {D : va_G} {cyI cyJ cyS : ClassId}
abbrev uX8_pays (cyI cyJ cyS : ClassId) (a0 : Nat → Nat) (c_latest : Int32) (c_typed : Int32) (c_tenants : Int32) (c_room : Int32) (c_events : Int32) (c_gone : Int32) (c_audit : Int32) (c_sights : Int32) (c_drawn : Int32) (c_tenant : Nat → Int32) (c_floor : Nat → Int32) (c_before : Nat → Int32) (c_left : Nat → Int32) (c_settled : Nat → Int32) : va_W := [((a0 0), .inr (8, [.ref (a0 1), .ref (a0 2), .ref (a0 3), .ref (a0 4), .int c_latest, .ref (a0 5), .int c_typed, .int c_tenants, .ref (a0 6), .int c_room, .int c_events, .ref (a0 7), .int c_gone, .ref (a0 8), .ref (a0 9), .ref (a0 10), .ref (a0 11), .ref (a0 12), .ref (a0 13), .ref (a0 14), .ref (a0 15), .ref (a0 16), .ref (a0 17), .ref (a0 18), .int c_audit, .int c_sights, .ref (a0 19), .ref (a0 20), .int c_drawn])), ((a0 6), .inl (cyI, 24, .inl c_tenant)), ((a0 8), .inl (cyI, 8, .inl c_floor)), ((a0 9), .inl (cyI, 8, .inl c_before)), ((a0 10), .inl (cyI, 8, .inl c_left)), ((a0 11), .inl (cyI, 8, .inl c_settled))]
abbrev rmX8_pays : Room := { frames := 1, cells := 0, slots := 0, locals := 21 }
abbrev wdX8_pays : List Cond := .code yX8_pays cX8_pays 6 none :: wsL_law
theorem hyX8_pays : yX8_pays.cls = RX8 ∧ yX8_pays.cls ≠ "java/lang/invoke/MethodHandle" ∧ yX8_pays.cls ≠ "java/lang/invoke/VarHandle" ∧ (parseMethodDescriptor yX8_pays.desc).map (fun d => d.parameters.length) = some 2 := by decide +kernel
set_option maxRecDepth 100000 in
set_option maxHeartbeats 4000000 in
theorem wX8_pays_108 (K : jK p s m args meth c A D vwCl (tyz cyI cyJ cyS) cX8_pays 6 RX8 wdX8_pays none) (a0 : Nat → Nat) (c_latest : Int32) (c_typed : Int32) (c_tenants : Int32) (c_room : Int32) (c_events : Int32) (c_gone : Int32) (c_audit : Int32) (c_sights : Int32) (c_drawn : Int32) (i1 : Int32) (i2 : Int32) (c_tenant : Nat → Int32) (c_before : Nat → Int32) (o_floor : Nat → Int32) (o_left : Nat → Int32) (o_settled : Nat → Int32)   : ∀ (c_floor : Nat → Int32) (c_left : Nat → Int32) (c_settled : Nat → Int32) (t0 : Int32) (t1 : Int32), fX8_pays_108 i1 i2 c_tenant c_before  c_floor c_left c_settled t0 t1 = some (o_floor, o_left, o_settled) → jw p l e rmX8_pays s m args below meth c (jQ below args s A D vwCl (tyz cyI cyJ cyS) 0 0 none (uX8_pays cyI cyJ cyS a0 c_latest c_typed c_tenants c_room c_events c_gone c_audit c_sights c_drawn c_tenant o_floor c_before o_left o_settled)) A D vwCl 6 0 0 108 [(0, .ref (a0 0)), (1, .int i1), (2, .int i2)] [.int t0, .int t1] (uX8_pays cyI cyJ cyS a0 c_latest c_typed c_tenants c_room c_events c_gone c_audit c_sights c_drawn c_tenant c_floor c_before c_left c_settled) := by
  intro c_floor c_left c_settled t0 t1 h
  unfold fX8_pays_108 at h
  refine j_icmp_ge (tgt := 125) K dX8_pays_108 (by decide) rfl h (fun h => ?_) (fun h => ?_)
  · obtain ⟨e1, g1⟩ := Prod.mk.inj (Option.some.inj h)
    subst e1
    obtain ⟨e2, g2⟩ := Prod.mk.inj g1
    subst e2
    subst g2
    exact j_vret K dX8_pays_125
  · refine j_aload_n K 0 rfl dX8_pays_111 rfl ?_
    refine j_getf (C := RX8) (T := TX8) (N := 29) (ci := 8) K icX8 0 16 (List.mem_cons_of_mem _ mw_5_18) rfl rfl rfl (by decide) rfl dX8_pays_112 rfl ?_
    refine j_iload_n K 2 rfl dX8_pays_115 rfl ?_
    refine j_iload_n K 1 rfl dX8_pays_116 rfl ?_
    refine j_iast K 5 0 (fun z => (uX8_pays cyI cyJ cyS a0 c_latest c_typed c_tenants c_room c_events c_gone c_audit c_sights c_drawn c_tenant c_floor c_before c_left z)) rfl rfl (fun _ => rfl) dX8_pays_117 rfl h (fun c_settled_11 h => ?_)
    refine j_aload_n K 0 rfl dX8_pays_118 rfl ?_
    refine j_getf (C := RX8) (T := TX8) (N := 29) (ci := 8) K icX8 0 13 (List.mem_cons_of_mem _ mw_5_15) rfl rfl rfl (by decide) rfl dX8_pays_119 rfl ?_
    refine j_iload_n K 2 rfl dX8_pays_122 rfl ?_
    refine j_iconst (v := (-1 : Int32)) K (by decide) dX8_pays_123 rfl ?_
    refine j_iast K 2 0 (fun z => (uX8_pays cyI cyJ cyS a0 c_latest c_typed c_tenants c_room c_events c_gone c_audit c_sights c_drawn c_tenant z c_before c_left c_settled_11)) rfl rfl (fun _ => rfl) dX8_pays_124 rfl h (fun c_floor_12 h => ?_)
    obtain ⟨e1, g1⟩ := Prod.mk.inj (Option.some.inj h)
    subst e1
    obtain ⟨e2, g2⟩ := Prod.mk.inj g1
    subst e2
    subst g2
    exact j_vret K dX8_pays_125
set_option maxRecDepth 100000 in
set_option maxHeartbeats 4000000 in
theorem wX8_pays_72 (K : jK p s m args meth c A D vwCl (tyz cyI cyJ cyS) cX8_pays 6 RX8 wdX8_pays none) (a0 : Nat → Nat) (c_latest : Int32) (c_typed : Int32) (c_tenants : Int32) (c_room : Int32) (c_events : Int32) (c_gone : Int32) (c_audit : Int32) (c_sights : Int32) (c_drawn : Int32) (i1 : Int32) (i2 : Int32) (c_tenant : Nat → Int32) (c_before : Nat → Int32) (o_floor : Nat → Int32) (o_left : Nat → Int32) (o_settled : Nat → Int32)   : ∀ (c_floor : Nat → Int32) (c_left : Nat → Int32) (c_settled : Nat → Int32) (i3 : Int32) (t0 : Int32) (t1 : Int32) (t2 : Int32), fX8_pays_72 i1 i2 c_tenant c_before  c_floor c_left c_settled i3 t0 t1 t2 = some (o_floor, o_left, o_settled) → jw p l e rmX8_pays s m args below meth c (jQ below args s A D vwCl (tyz cyI cyJ cyS) 0 0 none (uX8_pays cyI cyJ cyS a0 c_latest c_typed c_tenants c_room c_events c_gone c_audit c_sights c_drawn c_tenant o_floor c_before o_left o_settled)) A D vwCl 6 0 0 72 [(0, .ref (a0 0)), (1, .int i1), (2, .int i2), (3, .int i3)] [.int t0, .int t1, .int t2, .ref (a0 10)] (uX8_pays cyI cyJ cyS a0 c_latest c_typed c_tenants c_room c_events c_gone c_audit c_sights c_drawn c_tenant c_floor c_before c_left c_settled) := by
  intro c_floor c_left c_settled i3 t0 t1 t2 h
  unfold fX8_pays_72 at h
  refine j_iadd K dX8_pays_72 rfl ?_
  refine j_iast K 4 0 (fun z => (uX8_pays cyI cyJ cyS a0 c_latest c_typed c_tenants c_room c_events c_gone c_audit c_sights c_drawn c_tenant c_floor c_before z c_settled)) rfl rfl (fun _ => rfl) dX8_pays_73 rfl h (fun c_left_6 h => ?_)
  refine j_aload_n K 0 rfl dX8_pays_74 rfl ?_
  refine j_getf (C := RX8) (T := TX8) (N := 29) (ci := 8) K icX8 0 15 (List.mem_cons_of_mem _ mw_5_17) rfl rfl rfl (by decide) rfl dX8_pays_75 rfl ?_
  refine j_iload_n K 2 rfl dX8_pays_78 rfl ?_
  refine j_aload_n K 0 rfl dX8_pays_79 rfl ?_
  refine j_getf (C := RX8) (T := TX8) (N := 29) (ci := 8) K icX8 0 15 (List.mem_cons_of_mem _ mw_5_17) rfl rfl rfl (by decide) rfl dX8_pays_80 rfl ?_
  refine j_iload_n K 2 rfl dX8_pays_83 rfl ?_
  refine j_iald K 4 0 rfl rfl dX8_pays_84 rfl h (fun v_7 h => ?_)
  refine j_bipush (v := (60 : Int32)) K (by decide) dX8_pays_85 rfl ?_
  obtain ⟨r_8, hc, h⟩ := bd1_some h
  refine j_callS (rest := [.int i2, .ref (a0 10)]) (st1 := [.int r_8, .int i2, .ref (a0 10)]) (ws' := (uX8_pays cyI cyJ cyS a0 c_latest c_typed c_tenants c_room c_events c_gone c_audit c_sights c_drawn c_tenant c_floor c_before c_left_6 c_settled)) K (ctX8_lesser l D cyI cyJ cyS v_7 (60 : Int32) r_8 hc) (gdS mcL mw_18_13 mw_18_14 mw_1_5 mw_18_15) rfl ⟨rfl, rfl⟩ hzX8_lesser ⟨Nat.le_of_ble_eq_true rfl, Nat.le_of_ble_eq_true rfl, Nat.le_of_ble_eq_true rfl, Nat.le_of_ble_eq_true rfl⟩ [] (by decide) rfl [none, none, none, none, none, none] (by decide) rfl rfl rfl rfl (Nat.le_of_ble_eq_true rfl) dX8_pays_87 rfl rfl ?_
  refine j_iast K 4 0 (fun z => (uX8_pays cyI cyJ cyS a0 c_latest c_typed c_tenants c_room c_events c_gone c_audit c_sights c_drawn c_tenant c_floor c_before z c_settled)) rfl rfl (fun _ => rfl) dX8_pays_90 rfl h (fun c_left_9 h => ?_)
  refine j_aload_n K 0 rfl dX8_pays_91 rfl ?_
  refine j_getf (C := RX8) (T := TX8) (N := 29) (ci := 8) K icX8 0 15 (List.mem_cons_of_mem _ mw_5_17) rfl rfl rfl (by decide) rfl dX8_pays_92 rfl ?_
  refine j_iload_n K 2 rfl dX8_pays_95 rfl ?_
  refine j_iald K 4 0 rfl rfl dX8_pays_96 rfl h (fun v_10 h => ?_)
  refine j_iload_n K 3 rfl dX8_pays_97 rfl ?_
  refine j_iconst (v := (3 : Int32)) K (by decide) dX8_pays_98 rfl ?_
  refine j_icmp_ne (tgt := 107) K dX8_pays_99 (by decide) rfl h (fun h => ?_) (fun h => ?_)
  · refine j_iconst (v := (0 : Int32)) K (by decide) dX8_pays_107 rfl ?_
    refine j_sub [0, 1, 2] (lv' := [(0, .ref (a0 0)), (1, .int i1), (2, .int i2)]) rfl ?_
    exact wX8_pays_108 K a0 c_latest c_typed c_tenants c_room c_events c_gone c_audit c_sights c_drawn i1 i2 c_tenant c_before o_floor o_left o_settled c_floor c_left_9 c_settled (0 : Int32) v_10 h
  · refine j_bipush (v := (-6 : Int32)) K (by decide) dX8_pays_102 rfl ?_
    refine j_goto (pc' := 108) K dX8_pays_104 (by decide) ?_
    refine j_sub [0, 1, 2] (lv' := [(0, .ref (a0 0)), (1, .int i1), (2, .int i2)]) rfl ?_
    exact wX8_pays_108 K a0 c_latest c_typed c_tenants c_room c_events c_gone c_audit c_sights c_drawn i1 i2 c_tenant c_before o_floor o_left o_settled c_floor c_left_9 c_settled (-6 : Int32) v_10 h
set_option maxRecDepth 100000 in
set_option maxHeartbeats 4000000 in
theorem ctX8_pays (l : Launch) (D : va_G) (cyI cyJ cyS : ClassId) (a0 : Nat → Nat) (i1 : Int32) (i2 : Int32) (c_latest : Int32) (c_typed : Int32) (c_tenants : Int32) (c_room : Int32) (c_events : Int32) (c_gone : Int32) (c_audit : Int32) (c_sights : Int32) (c_drawn : Int32) (c_tenant : Nat → Int32) (c_before : Nat → Int32) (c_floor : Nat → Int32) (c_left : Nat → Int32) (c_settled : Nat → Int32) (o_floor : Nat → Int32) (o_left : Nat → Int32) (o_settled : Nat → Int32) (h : fX8_pays i1 i2 c_tenant c_before c_floor c_left c_settled = some (o_floor, o_left, o_settled)) : jC l yX8_pays wdX8_pays rmX8_pays D vwCl (tyz cyI cyJ cyS) [.ref (a0 0), .int i1, .int i2] (uX8_pays cyI cyJ cyS a0 c_latest c_typed c_tenants c_room c_events c_gone c_audit c_sights c_drawn c_tenant c_floor c_before c_left c_settled) none (uX8_pays cyI cyJ cyS a0 c_latest c_typed c_tenants c_room c_events c_gone c_audit c_sights c_drawn c_tenant o_floor c_before o_left o_settled) := by
  refine jC_of (cc := cX8_pays) (nL := 6) (ret := none) (own := RX8) (lv := [(0, .ref (a0 0)), (1, .int i1), (2, .int i2)]) (by decide) rfl rfl (Nat.le_of_ble_eq_true rfl) rfl ?_
  intro p e s m args below meth c A K
  unfold fX8_pays at h
  refine j_aload_n K 0 rfl dX8_pays_0 rfl ?_
  refine j_getf (C := RX8) (T := TX8) (N := 29) (ci := 8) K icX8 0 8 (List.mem_cons_of_mem _ mw_5_13) rfl rfl rfl (by decide) rfl dX8_pays_1 rfl ?_
  refine j_iconst (v := (3 : Int32)) K (by decide) dX8_pays_4 rfl ?_
  refine j_iload_n K 2 rfl dX8_pays_5 rfl ?_
  refine j_imul K dX8_pays_6 rfl ?_
  refine j_iald K 1 0 rfl rfl dX8_pays_7 rfl h (fun v_1 h => ?_)
  refine j_istore_n (lv' := [(3, .int v_1), (0, .ref (a0 0)), (1, .int i1), (2, .int i2)]) K (by decide) rfl dX8_pays_8 rfl ?_
  refine j_aload_n K 1 rfl dX8_pays_9 rfl ?_
  refine j_getf (C := RX8) (T := TX8) (N := 29) (ci := 8) K icX8 0 8 (List.mem_cons_of_mem _ mw_5_13) rfl rfl rfl (by decide) rfl dX8_pays_10 rfl ?_
  refine j_iconst (v := (3 : Int32)) K (by decide) dX8_pays_13 rfl ?_
  refine j_iload_n K 3 rfl dX8_pays_14 rfl ?_
  refine j_imul K dX8_pays_15 rfl ?_
  refine j_iconst (v := (2 : Int32)) K (by decide) dX8_pays_16 rfl ?_
  refine j_iadd K dX8_pays_17 rfl ?_
  refine j_iald K 1 0 rfl rfl dX8_pays_18 rfl h (fun v_2 h => ?_)
  refine j_istore (lv' := [(4, .int v_2), (3, .int v_1), (0, .ref (a0 0)), (1, .int i1), (2, .int i2)]) K (by decide) rfl dX8_pays_19 rfl ?_
  refine j_aload_n K 2 rfl dX8_pays_21 rfl ?_
  refine j_getf (C := RX8) (T := TX8) (N := 29) (ci := 8) K icX8 0 14 (List.mem_cons_of_mem _ mw_5_16) rfl rfl rfl (by decide) rfl dX8_pays_22 rfl ?_
  refine j_iload_n K 4 rfl dX8_pays_25 rfl ?_
  refine j_iald K 3 0 rfl rfl dX8_pays_26 rfl h (fun v_3 h => ?_)
  refine j_iconst (v := (2 : Int32)) K (by decide) dX8_pays_27 rfl ?_
  refine j_idiv K (by decide) dX8_pays_28 rfl ?_
  refine j_iconst (v := (1 : Int32)) K (by decide) dX8_pays_29 rfl ?_
  refine j_iadd K dX8_pays_30 rfl ?_
  refine j_nmI h (fun i5_4 h => ?_)
  refine j_istore (lv' := [(5, .int i5_4), (4, .int v_2), (3, .int v_1), (0, .ref (a0 0)), (1, .int i1), (2, .int i2)]) K (by decide) rfl dX8_pays_31 rfl ?_
  refine j_aload_n K 3 rfl dX8_pays_33 rfl ?_
  refine j_getf (C := RX8) (T := TX8) (N := 29) (ci := 8) K icX8 0 15 (List.mem_cons_of_mem _ mw_5_17) rfl rfl rfl (by decide) rfl dX8_pays_34 rfl ?_
  refine j_iload_n K 5 rfl dX8_pays_37 rfl ?_
  refine j_dup2 K rfl rfl dX8_pays_38 rfl ?_
  refine j_iald K 4 0 rfl rfl dX8_pays_39 rfl h (fun v_5 h => ?_)
  refine j_iload_n K 2 rfl dX8_pays_40 rfl ?_
  refine j_iconst (v := (2 : Int32)) K (by decide) dX8_pays_41 rfl ?_
  refine j_icmp_ne (tgt := 52) K dX8_pays_42 (by decide) rfl h (fun h => ?_) (fun h => ?_)
  · refine j_iload_n K 2 rfl dX8_pays_52 rfl ?_
    refine j_iconst (v := (1 : Int32)) K (by decide) dX8_pays_53 rfl ?_
    refine j_icmp_ne (tgt := 67) K dX8_pays_54 (by decide) rfl h (fun h => ?_) (fun h => ?_)
    · refine j_iload K 1 rfl dX8_pays_67 rfl ?_
      refine j_iload K 0 rfl dX8_pays_69 rfl ?_
      refine j_isub K dX8_pays_71 rfl ?_
      refine j_sub [3, 4, 5, 2] (lv' := [(0, .ref (a0 0)), (1, .int i1), (2, .int i2), (3, .int v_1)]) rfl ?_
      exact wX8_pays_72 K a0 c_latest c_typed c_tenants c_room c_events c_gone c_audit c_sights c_drawn i1 i2 c_tenant c_before o_floor o_left o_settled c_floor c_left c_settled v_1 (v_2 - i5_4) v_5 i2 h
    · refine j_iload K 1 rfl dX8_pays_57 rfl ?_
      refine j_iload K 0 rfl dX8_pays_59 rfl ?_
      refine j_isub K dX8_pays_61 rfl ?_
      refine j_iconst (v := (1 : Int32)) K (by decide) dX8_pays_62 rfl ?_
      refine j_iadd K dX8_pays_63 rfl ?_
      refine j_goto (pc' := 72) K dX8_pays_64 (by decide) ?_
      refine j_sub [3, 4, 5, 2] (lv' := [(0, .ref (a0 0)), (1, .int i1), (2, .int i2), (3, .int v_1)]) rfl ?_
      exact wX8_pays_72 K a0 c_latest c_typed c_tenants c_room c_events c_gone c_audit c_sights c_drawn i1 i2 c_tenant c_before o_floor o_left o_settled c_floor c_left c_settled v_1 ((v_2 - i5_4) + (1 : Int32)) v_5 i2 h
  · refine j_iload K 1 rfl dX8_pays_45 rfl ?_
    refine j_iconst (v := (2 : Int32)) K (by decide) dX8_pays_47 rfl ?_
    refine j_idiv K (by decide) dX8_pays_48 rfl ?_
    refine j_goto (pc' := 72) K dX8_pays_49 (by decide) ?_
    refine j_sub [3, 4, 5, 2] (lv' := [(0, .ref (a0 0)), (1, .int i1), (2, .int i2), (3, .int v_1)]) rfl ?_
    exact wX8_pays_72 K a0 c_latest c_typed c_tenants c_room c_events c_gone c_audit c_sights c_drawn i1 i2 c_tenant c_before o_floor o_left o_settled c_floor c_left c_settled v_1 (v_2 / (2 : Int32)) v_5 i2 h
abbrev uX8_third (cyI cyJ cyS : ClassId) : va_W := []
abbrev rmX8_third : Room := { frames := 0, cells := 0, slots := 0, locals := 0 }
abbrev wdX8_third : List Cond := .code yX8_third cX8_third 1 (some .int) :: wsL_law
theorem hzX8_third : yX8_third.cls ≠ "java/lang/invoke/MethodHandle" ∧ yX8_third.cls ≠ "java/lang/invoke/VarHandle" ∧ (parseMethodDescriptor yX8_third.desc).map (fun d => d.parameters.length) = some 1 := by decide +kernel
set_option maxRecDepth 100000 in
set_option maxHeartbeats 4000000 in
theorem ctX8_third (l : Launch) (D : va_G) (cyI cyJ cyS : ClassId) (i0 : Int32) (o_r : Int32) (h : fX8_third i0 = some (o_r)) : jC l yX8_third wdX8_third rmX8_third D vwCl (tyz cyI cyJ cyS) [.int i0] (uX8_third cyI cyJ cyS ) (some (.int o_r)) (uX8_third cyI cyJ cyS ) := by
  refine jC_of (cc := cX8_third) (nL := 1) (ret := (some .int)) (own := RX8) (lv := [(0, .int i0)]) (by decide) rfl rfl (Nat.le_of_ble_eq_true rfl) rfl ?_
  intro p e s m args below meth c A K
  unfold fX8_third at h
  refine j_iload_n K 0 rfl dX8_third_0 rfl ?_
  refine j_if_ge (tgt := 8) K dX8_third_1 (by decide) rfl h (fun h => ?_) (fun h => ?_)
  · refine j_iload_n K 0 rfl dX8_third_8 rfl ?_
    refine j_iconst (v := (3 : Int32)) K (by decide) dX8_third_9 rfl ?_
    refine j_idiv K (by decide) dX8_third_10 rfl ?_
    have h := Option.some.inj h
    subst h
    exact j_iret K dX8_third_11
  · refine j_iconst (v := (0 : Int32)) K (by decide) dX8_third_4 rfl ?_
    refine j_goto (pc' := 11) K dX8_third_5 (by decide) ?_
    have h := Option.some.inj h
    subst h
    exact j_iret K dX8_third_11
end GEN
