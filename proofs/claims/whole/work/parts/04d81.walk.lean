section GEN
variable {p : Program} {l : Launch} {e : Env} {s : State} {m : MethodId} {args : Array Value} {below : List Frame} {meth : Method} {c : Code} {A : Nat → Prop} {D : va_G} {cyI cyJ cyS : ClassId}
abbrev uX8_write (cyI cyJ cyS : ClassId) (a0 : Nat → Nat) (c_latest : Int32) (c_typed : Int32) (c_tenants : Int32) (c_room : Int32) (c_events : Int32) (c_gone : Int32) (c_audit : Int32) (c_sights : Int32) (c_drawn : Int32) (c_forms : Nat → Int32) (c_sizes : Nat → Int32) (c_items : Nat → Int32) (c_bytes : Nat → Int32) (c_tenant : Nat → Int32) (c_event : Nat → Int32) (c_floor : Nat → Int32) (c_before : Nat → Int32) (c_left : Nat → Int32) (c_settled : Nat → Int32) (c_fell : Nat → Int32) (c_past : Nat → Int32) (c_highest : Nat → Int32) (c_many : Nat → Int32) (c_floorBy : Nat → Int32) (c_leftBy : Nat → Int32) (c_fellBy : Nat → Int32) : va_W := [((a0 0), .inr (8, [.ref (a0 1), .ref (a0 2), .ref (a0 3), .ref (a0 4), .int c_latest, .ref (a0 5), .int c_typed, .int c_tenants, .ref (a0 6), .int c_room, .int c_events, .ref (a0 7), .int c_gone, .ref (a0 8), .ref (a0 9), .ref (a0 10), .ref (a0 11), .ref (a0 12), .ref (a0 13), .ref (a0 14), .ref (a0 15), .ref (a0 16), .ref (a0 17), .ref (a0 18), .int c_audit, .int c_sights, .ref (a0 19), .ref (a0 20), .int c_drawn])), ((a0 1), .inl (cyI, 4, .inl c_forms)), ((a0 2), .inl (cyI, 4, .inl c_sizes)), ((a0 3), .inl (cyI, 240, .inl c_items)), ((a0 5), .inl (cyI, 31, .inl c_bytes)), ((a0 6), .inl (cyI, 24, .inl c_tenant)), ((a0 7), .inl (cyI, 24, .inl c_event)), ((a0 8), .inl (cyI, 8, .inl c_floor)), ((a0 9), .inl (cyI, 8, .inl c_before)), ((a0 10), .inl (cyI, 8, .inl c_left)), ((a0 11), .inl (cyI, 8, .inl c_settled)), ((a0 12), .inl (cyI, 8, .inl c_fell)), ((a0 13), .inl (cyI, 8, .inl c_past)), ((a0 14), .inl (cyI, 8, .inl c_highest)), ((a0 15), .inl (cyI, 13, .inl c_many)), ((a0 16), .inl (cyI, 192, .inl c_floorBy)), ((a0 17), .inl (cyI, 192, .inl c_leftBy)), ((a0 18), .inl (cyI, 192, .inl c_fellBy))]
abbrev rmX8_write : Room := { frames := 6, cells := 0, slots := 0, locals := 134 }
abbrev wdX8_write : List Cond := .code yX8_write cX8_write 5 (some .int) :: wsL_law
theorem hyX8_write : yX8_write.cls = RX8 ∧ yX8_write.cls ≠ "java/lang/invoke/MethodHandle" ∧ yX8_write.cls ≠ "java/lang/invoke/VarHandle" ∧ (parseMethodDescriptor yX8_write.desc).map (fun d => d.parameters.length) = some 2 := by decide +kernel
set_option maxRecDepth 100000 in
set_option maxHeartbeats 4000000 in
theorem wX8_write_52 (K : jK p s m args meth c A D vwCl (tyz cyI cyJ cyS) cX8_write 5 RX8 wdX8_write (some .int)) (a0 : Nat → Nat) (c_sights : Int32) (c_drawn : Int32) (i1 : Int32) (i2 : Int32) (c_typed : Int32) (c_room : Int32) (c_events : Int32) (c_gone : Int32) (c_forms : Nat → Int32) (c_sizes : Nat → Int32) (c_bytes : Nat → Int32) (c_event : Nat → Int32) (o_r : Int32) (o_latest : Int32) (o_tenants : Int32) (o_sim : jT11) (o_items : Nat → Int32) (o_tenant : Nat → Int32)   : ∀ (n : Nat) (c_latest : Int32) (c_tenants : Int32) (c_sim : jT11) (c_items : Nat → Int32) (c_tenant : Nat → Int32) (i3 : Int32) (i4 : Int32), fX8_write_52 i1 i2 c_typed c_room c_events c_gone c_forms c_sizes c_bytes c_event  n c_latest c_tenants c_sim c_items c_tenant i3 i4 = some (o_r, o_latest, o_tenants, o_sim, o_items, o_tenant) → jw p l e rmX8_write s m args below meth c (jQ below args s A D vwCl (tyz cyI cyJ cyS) 0 0 (some (.int o_r)) (uX8_write cyI cyJ cyS a0 o_latest c_typed o_tenants c_room c_events c_gone o_sim.1 c_sights c_drawn c_forms c_sizes o_items c_bytes o_tenant c_event o_sim.2.1 o_sim.2.2.1 o_sim.2.2.2.1 o_sim.2.2.2.2.1 o_sim.2.2.2.2.2.1 o_sim.2.2.2.2.2.2.1 o_sim.2.2.2.2.2.2.2.1 o_sim.2.2.2.2.2.2.2.2.1 o_sim.2.2.2.2.2.2.2.2.2.1 o_sim.2.2.2.2.2.2.2.2.2.2.1 o_sim.2.2.2.2.2.2.2.2.2.2.2)) A D vwCl 5 0 0 52 [(0, .ref (a0 0)), (1, .int i1), (2, .int i2), (3, .int i3), (4, .int i4)] [] (uX8_write cyI cyJ cyS a0 c_latest c_typed c_tenants c_room c_events c_gone c_sim.1 c_sights c_drawn c_forms c_sizes c_items c_bytes c_tenant c_event c_sim.2.1 c_sim.2.2.1 c_sim.2.2.2.1 c_sim.2.2.2.2.1 c_sim.2.2.2.2.2.1 c_sim.2.2.2.2.2.2.1 c_sim.2.2.2.2.2.2.2.1 c_sim.2.2.2.2.2.2.2.2.1 c_sim.2.2.2.2.2.2.2.2.2.1 c_sim.2.2.2.2.2.2.2.2.2.2.1 c_sim.2.2.2.2.2.2.2.2.2.2.2) := by
  intro n
  induction n with
  | zero => intro c_latest c_tenants c_sim c_items c_tenant i3 i4 h; cases h
  | succ n ih =>
    intro c_latest c_tenants c_sim c_items c_tenant i3 i4 h
    have h : bX8_write_52 i1 i2 c_typed c_room c_events c_gone c_forms c_sizes c_bytes c_event  (fX8_write_52 i1 i2 c_typed c_room c_events c_gone c_forms c_sizes c_bytes c_event  n) c_latest c_tenants c_sim c_items c_tenant i3 i4 = some (o_r, o_latest, o_tenants, o_sim, o_items, o_tenant) := h
    unfold bX8_write_52 at h
    refine j_iload K 4 rfl dX8_write_52 rfl ?_
    refine j_iload_n K 3 rfl dX8_write_54 rfl ?_
    refine j_icmp_ge (tgt := 97) K dX8_write_55 (by decide) rfl h (fun h => ?_) (fun h => ?_)
    · refine j_iload_n K 3 rfl dX8_write_97 rfl ?_
      obtain ⟨e1, g1⟩ := Prod.mk.inj (Option.some.inj h)
      subst e1
      obtain ⟨e2, g2⟩ := Prod.mk.inj g1
      subst e2
      obtain ⟨e3, g3⟩ := Prod.mk.inj g2
      subst e3
      obtain ⟨e4, g4⟩ := Prod.mk.inj g3
      subst e4
      obtain ⟨e5, g5⟩ := Prod.mk.inj g4
      subst e5
      subst g5
      exact j_iret K dX8_write_98
    · refine j_aload_n K 0 rfl dX8_write_58 rfl ?_
      refine j_getf (C := RX8) (T := TX8) (N := 29) (ci := 8) K icX8 0 2 (List.mem_cons_of_mem _ mw_5_10) rfl rfl rfl (by decide) rfl dX8_write_59 rfl ?_
      refine j_bipush (v := (60 : Int32)) K (by decide) dX8_write_62 rfl ?_
      refine j_iload_n K 2 rfl dX8_write_64 rfl ?_
      refine j_imul K dX8_write_65 rfl ?_
      refine j_iload K 4 rfl dX8_write_66 rfl ?_
      refine j_iadd K dX8_write_68 rfl ?_
      refine j_aload_n K 0 rfl dX8_write_69 rfl ?_
      refine j_getf (C := RX8) (T := TX8) (N := 29) (ci := 8) K icX8 0 0 (List.mem_cons_of_mem _ mw_5_8) rfl rfl rfl (by decide) rfl dX8_write_70 rfl ?_
      refine j_iload_n K 2 rfl dX8_write_73 rfl ?_
      refine j_iald K 1 0 rfl rfl dX8_write_74 rfl h (fun v_9 h => ?_)
      refine j_aload_n K 0 rfl dX8_write_75 rfl ?_
      refine j_getf (C := RX8) (T := TX8) (N := 29) (ci := 8) K icX8 0 21 (List.mem_cons_of_mem _ mw_5_23) rfl rfl rfl (by decide) rfl dX8_write_76 rfl ?_
      refine j_bipush (v := (8 : Int32)) K (by decide) dX8_write_79 rfl ?_
      refine j_iload K 4 rfl dX8_write_81 rfl ?_
      refine j_imul K dX8_write_83 rfl ?_
      refine j_iload_n K 1 rfl dX8_write_84 rfl ?_
      refine j_iadd K dX8_write_85 rfl ?_
      refine j_iald K 15 0 rfl rfl dX8_write_86 rfl h (fun v_10 h => ?_)
      obtain ⟨r_11, hc, h⟩ := bd1_some h
      refine j_callS (rest := [.int (((60 : Int32) * i2) + i4), .ref (a0 3)]) (st1 := [.int r_11, .int (((60 : Int32) * i2) + i4), .ref (a0 3)]) (ws' := (uX8_write cyI cyJ cyS a0 c_latest c_typed c_tenants c_room c_events c_gone c_sim.1 c_sights c_drawn c_forms c_sizes c_items c_bytes c_tenant c_event c_sim.2.1 c_sim.2.2.1 c_sim.2.2.2.1 c_sim.2.2.2.2.1 c_sim.2.2.2.2.2.1 c_sim.2.2.2.2.2.2.1 c_sim.2.2.2.2.2.2.2.1 c_sim.2.2.2.2.2.2.2.2.1 c_sim.2.2.2.2.2.2.2.2.2.1 c_sim.2.2.2.2.2.2.2.2.2.2.1 c_sim.2.2.2.2.2.2.2.2.2.2.2)) K (ctX8_cut l D cyI cyJ cyS v_9 v_10 r_11 hc) (gdS mcL mw_38_7 mw_38_8 mw_1_5 mw_38_9) rfl ⟨rfl, rfl⟩ hzX8_cut ⟨Nat.le_of_ble_eq_true rfl, Nat.le_of_ble_eq_true rfl, Nat.le_of_ble_eq_true rfl, Nat.le_of_ble_eq_true rfl⟩ [] (by decide) rfl [none, none, none, none, none, none, none, none, none, none, none, none, none, none, none, none, none, none] (by decide) rfl rfl rfl rfl (Nat.le_of_ble_eq_true rfl) dX8_write_87 rfl rfl ?_
      refine j_iast K 3 0 (fun z => (uX8_write cyI cyJ cyS a0 c_latest c_typed c_tenants c_room c_events c_gone c_sim.1 c_sights c_drawn c_forms c_sizes z c_bytes c_tenant c_event c_sim.2.1 c_sim.2.2.1 c_sim.2.2.2.1 c_sim.2.2.2.2.1 c_sim.2.2.2.2.2.1 c_sim.2.2.2.2.2.2.1 c_sim.2.2.2.2.2.2.2.1 c_sim.2.2.2.2.2.2.2.2.1 c_sim.2.2.2.2.2.2.2.2.2.1 c_sim.2.2.2.2.2.2.2.2.2.2.1 c_sim.2.2.2.2.2.2.2.2.2.2.2)) rfl rfl (fun _ => rfl) dX8_write_90 rfl h (fun c_items_12 h => ?_)
      refine j_iincN (lf := fun z => [(4, .int z), (0, .ref (a0 0)), (1, .int i1), (2, .int i2), (3, .int i3)]) K (v := i4 + (1 : Int32)) (k := 4) rfl rfl (by decide) (fun _ => rfl) dX8_write_91 rfl h (fun i4_13 h => ?_)
      refine j_goto (pc' := 52) K dX8_write_94 (by decide) ?_
      refine j_sub [1, 2, 3, 4, 0] (lv' := [(0, .ref (a0 0)), (1, .int i1), (2, .int i2), (3, .int i3), (4, .int i4_13)]) rfl ?_
      exact ih c_latest c_tenants c_sim c_items_12 c_tenant i3 i4_13 h
set_option maxRecDepth 100000 in
set_option maxHeartbeats 4000000 in
theorem ctX8_write (l : Launch) (D : va_G) (cyI cyJ cyS : ClassId) (a0 : Nat → Nat) (i1 : Int32) (i2 : Int32) (c_sights : Int32) (c_drawn : Int32) (c_typed : Int32) (c_room : Int32) (c_events : Int32) (c_gone : Int32) (c_forms : Nat → Int32) (c_sizes : Nat → Int32) (c_bytes : Nat → Int32) (c_event : Nat → Int32) (c_latest : Int32) (c_tenants : Int32) (c_sim : jT11) (c_items : Nat → Int32) (c_tenant : Nat → Int32) (o_r : Int32) (o_latest : Int32) (o_tenants : Int32) (o_sim : jT11) (o_items : Nat → Int32) (o_tenant : Nat → Int32) (h : fX8_write i1 i2 c_typed c_room c_events c_gone c_forms c_sizes c_bytes c_event c_latest c_tenants c_sim c_items c_tenant = some (o_r, o_latest, o_tenants, o_sim, o_items, o_tenant)) : jC l yX8_write wdX8_write rmX8_write D vwCl (tyz cyI cyJ cyS) [.ref (a0 0), .int i1, .int i2] (uX8_write cyI cyJ cyS a0 c_latest c_typed c_tenants c_room c_events c_gone c_sim.1 c_sights c_drawn c_forms c_sizes c_items c_bytes c_tenant c_event c_sim.2.1 c_sim.2.2.1 c_sim.2.2.2.1 c_sim.2.2.2.2.1 c_sim.2.2.2.2.2.1 c_sim.2.2.2.2.2.2.1 c_sim.2.2.2.2.2.2.2.1 c_sim.2.2.2.2.2.2.2.2.1 c_sim.2.2.2.2.2.2.2.2.2.1 c_sim.2.2.2.2.2.2.2.2.2.2.1 c_sim.2.2.2.2.2.2.2.2.2.2.2) (some (.int o_r)) (uX8_write cyI cyJ cyS a0 o_latest c_typed o_tenants c_room c_events c_gone o_sim.1 c_sights c_drawn c_forms c_sizes o_items c_bytes o_tenant c_event o_sim.2.1 o_sim.2.2.1 o_sim.2.2.2.1 o_sim.2.2.2.2.1 o_sim.2.2.2.2.2.1 o_sim.2.2.2.2.2.2.1 o_sim.2.2.2.2.2.2.2.1 o_sim.2.2.2.2.2.2.2.2.1 o_sim.2.2.2.2.2.2.2.2.2.1 o_sim.2.2.2.2.2.2.2.2.2.2.1 o_sim.2.2.2.2.2.2.2.2.2.2.2) := by
  refine jC_of (cc := cX8_write) (nL := 5) (ret := (some .int)) (own := RX8) (lv := [(0, .ref (a0 0)), (1, .int i1), (2, .int i2)]) (by decide) rfl rfl (Nat.le_of_ble_eq_true rfl) rfl ?_
  intro p e s m args below meth c A K
  unfold fX8_write at h
  refine j_aload_n K 0 rfl dX8_write_0 rfl ?_
  obtain ⟨c_tenants_1, c_sim_2, c_tenant_3, hc, h⟩ := bd3_some h
  refine j_callV (rest := []) (st1 := []) (ws' := (uX8_write cyI cyJ cyS a0 c_latest c_typed c_tenants_1 c_room c_events c_gone c_sim_2.1 c_sights c_drawn c_forms c_sizes c_items c_bytes c_tenant_3 c_event c_sim_2.2.1 c_sim_2.2.2.1 c_sim_2.2.2.2.1 c_sim_2.2.2.2.2.1 c_sim_2.2.2.2.2.2.1 c_sim_2.2.2.2.2.2.2.1 c_sim_2.2.2.2.2.2.2.2.1 c_sim_2.2.2.2.2.2.2.2.2.1 c_sim_2.2.2.2.2.2.2.2.2.2.1 c_sim_2.2.2.2.2.2.2.2.2.2.2.1 c_sim_2.2.2.2.2.2.2.2.2.2.2.2)) (T := TX8) (N := 29) (ci := 8) K (ctX8_find l D cyI cyJ cyS a0 c_latest c_sights c_drawn c_typed c_room c_events c_gone c_bytes c_event c_tenants c_sim c_tenant c_tenants_1 c_sim_2 c_tenant_3 hc) (gdV mcL mw_17_12 mw_17_13 mw_17_14 mw_1_5 mw_17_15) rfl ⟨rfl, rfl⟩ hyX8_find ⟨Nat.le_of_ble_eq_true rfl, Nat.le_of_ble_eq_true rfl, Nat.le_of_ble_eq_true rfl, Nat.le_of_ble_eq_true rfl⟩ [0, 4, 5, 6, 7, 8, 9, 10, 11, 12, 13, 14, 15, 16, 17] (by decide) rfl [some 0, none, none, none, some 1, some 2, some 3, some 4, some 5, some 6, some 7, some 8, some 9, some 10, some 11, some 12, some 13, some 14] (by decide) rfl rfl 0 rfl rfl rfl rfl (Nat.le_of_ble_eq_true rfl) dX8_write_1 rfl rfl ?_
  refine j_aload_n K 0 rfl dX8_write_4 rfl ?_
  refine j_iload_n K 1 rfl dX8_write_5 rfl ?_
  obtain ⟨r_4, hc, h⟩ := bd1_some h
  refine j_callV (rest := []) (st1 := [.int r_4]) (ws' := (uX8_write cyI cyJ cyS a0 c_latest c_typed c_tenants_1 c_room c_events c_gone c_sim_2.1 c_sights c_drawn c_forms c_sizes c_items c_bytes c_tenant_3 c_event c_sim_2.2.1 c_sim_2.2.2.1 c_sim_2.2.2.2.1 c_sim_2.2.2.2.2.1 c_sim_2.2.2.2.2.2.1 c_sim_2.2.2.2.2.2.2.1 c_sim_2.2.2.2.2.2.2.2.1 c_sim_2.2.2.2.2.2.2.2.2.1 c_sim_2.2.2.2.2.2.2.2.2.2.1 c_sim_2.2.2.2.2.2.2.2.2.2.2.1 c_sim_2.2.2.2.2.2.2.2.2.2.2.2)) (T := TX8) (N := 29) (ci := 8) K (ctX8_isTenant l D cyI cyJ cyS a0 i1 c_latest c_typed c_room c_events c_gone c_sim_2.1 c_sights c_drawn c_tenants_1 r_4 hc) (gdV mcL mw_10_5 mw_10_6 mw_10_7 mw_1_5 mw_10_8) rfl ⟨rfl, rfl⟩ hyX8_isTenant ⟨Nat.le_of_ble_eq_true rfl, Nat.le_of_ble_eq_true rfl, Nat.le_of_ble_eq_true rfl, Nat.le_of_ble_eq_true rfl⟩ [0] (by decide) rfl [some 0, none, none, none, none, none, none, none, none, none, none, none, none, none, none, none, none, none] (by decide) rfl rfl 0 rfl rfl rfl rfl (Nat.le_of_ble_eq_true rfl) dX8_write_6 rfl rfl ?_
  refine j_if_eq (tgt := 19) K dX8_write_9 (by decide) rfl h (fun h => ?_) (fun h => ?_)
  · refine j_bipush (v := (-2 : Int32)) K (by decide) dX8_write_19 rfl ?_
    obtain ⟨e1, g1⟩ := Prod.mk.inj (Option.some.inj h)
    subst e1
    obtain ⟨e2, g2⟩ := Prod.mk.inj g1
    subst e2
    obtain ⟨e3, g3⟩ := Prod.mk.inj g2
    subst e3
    obtain ⟨e4, g4⟩ := Prod.mk.inj g3
    subst e4
    obtain ⟨e5, g5⟩ := Prod.mk.inj g4
    subst e5
    subst g5
    exact j_iret K dX8_write_21
  · refine j_iload_n K 2 rfl dX8_write_12 rfl ?_
    obtain ⟨r_5, hc, h⟩ := bd1_some h
    refine j_callS (rest := []) (st1 := [.int r_5]) (ws' := (uX8_write cyI cyJ cyS a0 c_latest c_typed c_tenants_1 c_room c_events c_gone c_sim_2.1 c_sights c_drawn c_forms c_sizes c_items c_bytes c_tenant_3 c_event c_sim_2.2.1 c_sim_2.2.2.1 c_sim_2.2.2.2.1 c_sim_2.2.2.2.2.1 c_sim_2.2.2.2.2.2.1 c_sim_2.2.2.2.2.2.2.1 c_sim_2.2.2.2.2.2.2.2.1 c_sim_2.2.2.2.2.2.2.2.2.1 c_sim_2.2.2.2.2.2.2.2.2.2.1 c_sim_2.2.2.2.2.2.2.2.2.2.2.1 c_sim_2.2.2.2.2.2.2.2.2.2.2.2)) K (ctX8_isSheet l D cyI cyJ cyS i2 r_5 hc) (gdS mcL mw_12_18 mw_12_19 mw_1_5 mw_12_20) rfl ⟨rfl, rfl⟩ hzX8_isSheet ⟨Nat.le_of_ble_eq_true rfl, Nat.le_of_ble_eq_true rfl, Nat.le_of_ble_eq_true rfl, Nat.le_of_ble_eq_true rfl⟩ [] (by decide) rfl [none, none, none, none, none, none, none, none, none, none, none, none, none, none, none, none, none, none] (by decide) rfl rfl rfl rfl (Nat.le_of_ble_eq_true rfl) dX8_write_13 rfl rfl ?_
    refine j_if_ne (tgt := 22) K dX8_write_16 (by decide) rfl h (fun h => ?_) (fun h => ?_)
    · refine j_aload_n K 0 rfl dX8_write_22 rfl ?_
      refine j_getf (C := RX8) (T := TX8) (N := 29) (ci := 8) K icX8 0 0 (List.mem_cons_of_mem _ mw_5_8) rfl rfl rfl (by decide) rfl dX8_write_23 rfl ?_
      refine j_iload_n K 2 rfl dX8_write_26 rfl ?_
      refine j_iald K 1 0 rfl rfl dX8_write_27 rfl h (fun v_6 h => ?_)
      refine j_if_ge (tgt := 37) K dX8_write_28 (by decide) rfl h (fun h => ?_) (fun h => ?_)
      · refine j_aload_n K 0 rfl dX8_write_37 rfl ?_
        refine j_getf (C := RX8) (T := TX8) (N := 29) (ci := 8) K icX8 0 1 (List.mem_cons_of_mem _ mw_5_9) rfl rfl rfl (by decide) rfl dX8_write_38 rfl ?_
        refine j_iload_n K 2 rfl dX8_write_41 rfl ?_
        refine j_iald K 2 0 rfl rfl dX8_write_42 rfl h (fun v_7 h => ?_)
        refine j_bipush (v := (24 : Int32)) K (by decide) dX8_write_43 rfl ?_
        obtain ⟨r_8, hc, h⟩ := bd1_some h
        refine j_callS (rest := []) (st1 := [.int r_8]) (ws' := (uX8_write cyI cyJ cyS a0 c_latest c_typed c_tenants_1 c_room c_events c_gone c_sim_2.1 c_sights c_drawn c_forms c_sizes c_items c_bytes c_tenant_3 c_event c_sim_2.2.1 c_sim_2.2.2.1 c_sim_2.2.2.2.1 c_sim_2.2.2.2.2.1 c_sim_2.2.2.2.2.2.1 c_sim_2.2.2.2.2.2.2.1 c_sim_2.2.2.2.2.2.2.2.1 c_sim_2.2.2.2.2.2.2.2.2.1 c_sim_2.2.2.2.2.2.2.2.2.2.1 c_sim_2.2.2.2.2.2.2.2.2.2.2.1 c_sim_2.2.2.2.2.2.2.2.2.2.2.2)) K (ctX8_lesser l D cyI cyJ cyS v_7 (24 : Int32) r_8 hc) (gdS mcL mw_18_13 mw_18_14 mw_1_5 mw_18_15) rfl ⟨rfl, rfl⟩ hzX8_lesser ⟨Nat.le_of_ble_eq_true rfl, Nat.le_of_ble_eq_true rfl, Nat.le_of_ble_eq_true rfl, Nat.le_of_ble_eq_true rfl⟩ [] (by decide) rfl [none, none, none, none, none, none, none, none, none, none, none, none, none, none, none, none, none, none] (by decide) rfl rfl rfl rfl (Nat.le_of_ble_eq_true rfl) dX8_write_45 rfl rfl ?_
        refine j_istore_n (lv' := [(3, .int r_8), (0, .ref (a0 0)), (1, .int i1), (2, .int i2)]) K (by decide) rfl dX8_write_48 rfl ?_
        refine j_iconst (v := (0 : Int32)) K (by decide) dX8_write_49 rfl ?_
        refine j_istore (lv' := [(4, .int (0 : Int32)), (3, .int r_8), (0, .ref (a0 0)), (1, .int i1), (2, .int i2)]) K (by decide) rfl dX8_write_50 rfl ?_
        refine j_sub [2, 3, 4, 1, 0] (lv' := [(0, .ref (a0 0)), (1, .int i1), (2, .int i2), (3, .int r_8), (4, .int (0 : Int32))]) rfl ?_
        exact wX8_write_52 K a0 c_sights c_drawn i1 i2 c_typed c_room c_events c_gone c_forms c_sizes c_bytes c_event o_r o_latest o_tenants o_sim o_items o_tenant jF c_latest c_tenants_1 c_sim_2 c_items c_tenant_3 r_8 (0 : Int32) h
      · refine j_aload_n K 0 rfl dX8_write_31 rfl ?_
        refine j_iconst (v := (1 : Int32)) K (by decide) dX8_write_32 rfl ?_
        obtain ⟨r_14, c_latest_15, hc, h⟩ := bd2_some h
        refine j_callV (rest := []) (st1 := [.int r_14]) (ws' := (uX8_write cyI cyJ cyS a0 c_latest_15 c_typed c_tenants_1 c_room c_events c_gone c_sim_2.1 c_sights c_drawn c_forms c_sizes c_items c_bytes c_tenant_3 c_event c_sim_2.2.1 c_sim_2.2.2.1 c_sim_2.2.2.2.1 c_sim_2.2.2.2.2.1 c_sim_2.2.2.2.2.2.1 c_sim_2.2.2.2.2.2.2.1 c_sim_2.2.2.2.2.2.2.2.1 c_sim_2.2.2.2.2.2.2.2.2.1 c_sim_2.2.2.2.2.2.2.2.2.2.1 c_sim_2.2.2.2.2.2.2.2.2.2.2.1 c_sim_2.2.2.2.2.2.2.2.2.2.2.2)) (T := TX8) (N := 29) (ci := 8) K (ctX8_finds l D cyI cyJ cyS a0 (1 : Int32) c_typed c_tenants_1 c_room c_events c_gone c_sim_2.1 c_sights c_drawn c_latest r_14 c_latest_15 hc) (gdV mcL mw_12_22 mw_12_23 mw_13_0 mw_1_5 mw_13_1) rfl ⟨rfl, rfl⟩ hyX8_finds ⟨Nat.le_of_ble_eq_true rfl, Nat.le_of_ble_eq_true rfl, Nat.le_of_ble_eq_true rfl, Nat.le_of_ble_eq_true rfl⟩ [0] (by decide) rfl [some 0, none, none, none, none, none, none, none, none, none, none, none, none, none, none, none, none, none] (by decide) rfl rfl 0 rfl rfl rfl rfl (Nat.le_of_ble_eq_true rfl) dX8_write_33 rfl rfl ?_
        obtain ⟨e1, g1⟩ := Prod.mk.inj (Option.some.inj h)
        subst e1
        obtain ⟨e2, g2⟩ := Prod.mk.inj g1
        subst e2
        obtain ⟨e3, g3⟩ := Prod.mk.inj g2
        subst e3
        obtain ⟨e4, g4⟩ := Prod.mk.inj g3
        subst e4
        obtain ⟨e5, g5⟩ := Prod.mk.inj g4
        subst e5
        subst g5
        exact j_iret K dX8_write_36
    · refine j_bipush (v := (-2 : Int32)) K (by decide) dX8_write_19 rfl ?_
      obtain ⟨e1, g1⟩ := Prod.mk.inj (Option.some.inj h)
      subst e1
      obtain ⟨e2, g2⟩ := Prod.mk.inj g1
      subst e2
      obtain ⟨e3, g3⟩ := Prod.mk.inj g2
      subst e3
      obtain ⟨e4, g4⟩ := Prod.mk.inj g3
      subst e4
      obtain ⟨e5, g5⟩ := Prod.mk.inj g4
      subst e5
      subst g5
      exact j_iret K dX8_write_21
end GEN
