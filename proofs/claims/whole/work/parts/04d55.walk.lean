section GEN
variable {p : Program} {l : Launch} {e : Env} {s : State} {m : MethodId} {args : Array Value} {below : List Frame} {meth : Method} {c : Code} {A : Nat → Prop} {D : va_G} {cyI cyJ cyS : ClassId}
abbrev uX8_lives (cyI cyJ cyS : ClassId) (a0 : Nat → Nat) (c_latest : Int32) (c_typed : Int32) (c_tenants : Int32) (c_room : Int32) (c_events : Int32) (c_gone : Int32) (c_audit : Int32) (c_sights : Int32) (c_drawn : Int32) (c_tenant : Nat → Int32) (c_event : Nat → Int32) (c_floor : Nat → Int32) (c_before : Nat → Int32) (c_left : Nat → Int32) (c_settled : Nat → Int32) (c_fell : Nat → Int32) (c_past : Nat → Int32) (c_highest : Nat → Int32) (c_many : Nat → Int32) (c_floorBy : Nat → Int32) (c_leftBy : Nat → Int32) (c_fellBy : Nat → Int32) : va_W := [((a0 0), .inr (8, [.ref (a0 1), .ref (a0 2), .ref (a0 3), .ref (a0 4), .int c_latest, .ref (a0 5), .int c_typed, .int c_tenants, .ref (a0 6), .int c_room, .int c_events, .ref (a0 7), .int c_gone, .ref (a0 8), .ref (a0 9), .ref (a0 10), .ref (a0 11), .ref (a0 12), .ref (a0 13), .ref (a0 14), .ref (a0 15), .ref (a0 16), .ref (a0 17), .ref (a0 18), .int c_audit, .int c_sights, .ref (a0 19), .ref (a0 20), .int c_drawn])), ((a0 6), .inl (cyI, 24, .inl c_tenant)), ((a0 7), .inl (cyI, 24, .inl c_event)), ((a0 8), .inl (cyI, 8, .inl c_floor)), ((a0 9), .inl (cyI, 8, .inl c_before)), ((a0 10), .inl (cyI, 8, .inl c_left)), ((a0 11), .inl (cyI, 8, .inl c_settled)), ((a0 12), .inl (cyI, 8, .inl c_fell)), ((a0 13), .inl (cyI, 8, .inl c_past)), ((a0 14), .inl (cyI, 8, .inl c_highest)), ((a0 15), .inl (cyI, 13, .inl c_many)), ((a0 16), .inl (cyI, 192, .inl c_floorBy)), ((a0 17), .inl (cyI, 192, .inl c_leftBy)), ((a0 18), .inl (cyI, 192, .inl c_fellBy))]
abbrev rmX8_lives : Room := { frames := 4, cells := 0, slots := 0, locals := 93 }
abbrev wdX8_lives : List Cond := .code yX8_lives cX8_lives 2 none :: wsL_law
theorem hyX8_lives : yX8_lives.cls = RX8 ∧ yX8_lives.cls ≠ "java/lang/invoke/MethodHandle" ∧ yX8_lives.cls ≠ "java/lang/invoke/VarHandle" ∧ (parseMethodDescriptor yX8_lives.desc).map (fun d => d.parameters.length) = some 0 := by decide +kernel
set_option maxRecDepth 100000 in
set_option maxHeartbeats 4000000 in
theorem wX8_lives_71 (K : jK p s m args meth c A D vwCl (tyz cyI cyJ cyS) cX8_lives 2 RX8 wdX8_lives none) (a0 : Nat → Nat) (c_latest : Int32) (c_typed : Int32) (c_sights : Int32) (c_drawn : Int32) (c_tenants : Int32) (c_room : Int32) (c_events : Int32) (c_gone : Int32) (c_tenant : Nat → Int32) (c_event : Nat → Int32) (o_sim : jT11)   : ∀ (n : Nat) (c_sim : jT11) (i1 : Int32), fX8_lives_71 c_tenants c_room c_events c_gone c_tenant c_event  n c_sim i1 = some (o_sim) → jw p l e rmX8_lives s m args below meth c (jQ below args s A D vwCl (tyz cyI cyJ cyS) 0 0 none (uX8_lives cyI cyJ cyS a0 c_latest c_typed c_tenants c_room c_events c_gone o_sim.1 c_sights c_drawn c_tenant c_event o_sim.2.1 o_sim.2.2.1 o_sim.2.2.2.1 o_sim.2.2.2.2.1 o_sim.2.2.2.2.2.1 o_sim.2.2.2.2.2.2.1 o_sim.2.2.2.2.2.2.2.1 o_sim.2.2.2.2.2.2.2.2.1 o_sim.2.2.2.2.2.2.2.2.2.1 o_sim.2.2.2.2.2.2.2.2.2.2.1 o_sim.2.2.2.2.2.2.2.2.2.2.2)) A D vwCl 2 0 0 71 [(0, .ref (a0 0)), (1, .int i1)] [] (uX8_lives cyI cyJ cyS a0 c_latest c_typed c_tenants c_room c_events c_gone c_sim.1 c_sights c_drawn c_tenant c_event c_sim.2.1 c_sim.2.2.1 c_sim.2.2.2.1 c_sim.2.2.2.2.1 c_sim.2.2.2.2.2.1 c_sim.2.2.2.2.2.2.1 c_sim.2.2.2.2.2.2.2.1 c_sim.2.2.2.2.2.2.2.2.1 c_sim.2.2.2.2.2.2.2.2.2.1 c_sim.2.2.2.2.2.2.2.2.2.2.1 c_sim.2.2.2.2.2.2.2.2.2.2.2) := by
  intro n
  induction n with
  | zero => intro c_sim i1 h; cases h
  | succ n ih =>
    intro c_sim i1 h
    have h : bX8_lives_71 c_tenants c_room c_events c_gone c_tenant c_event  (fX8_lives_71 c_tenants c_room c_events c_gone c_tenant c_event  n) c_sim i1 = some (o_sim) := h
    unfold bX8_lives_71 at h
    refine j_iload_n K 1 rfl dX8_lives_71 rfl ?_
    refine j_bipush (v := (24 : Int32)) K (by decide) dX8_lives_72 rfl ?_
    refine j_icmp_ge (tgt := 88) K dX8_lives_74 (by decide) rfl h (fun h => ?_) (fun h => ?_)
    · have h := Option.some.inj h
      subst h
      exact j_vret K dX8_lives_88
    · refine j_aload_n K 0 rfl dX8_lives_77 rfl ?_
      refine j_iload_n K 1 rfl dX8_lives_78 rfl ?_
      obtain ⟨c_sim_1, hc, h⟩ := bd1_some h
      refine j_callV (rest := []) (st1 := []) (ws' := (uX8_lives cyI cyJ cyS a0 c_latest c_typed c_tenants c_room c_events c_gone c_sim_1.1 c_sights c_drawn c_tenant c_event c_sim_1.2.1 c_sim_1.2.2.1 c_sim_1.2.2.2.1 c_sim_1.2.2.2.2.1 c_sim_1.2.2.2.2.2.1 c_sim_1.2.2.2.2.2.2.1 c_sim_1.2.2.2.2.2.2.2.1 c_sim_1.2.2.2.2.2.2.2.2.1 c_sim_1.2.2.2.2.2.2.2.2.2.1 c_sim_1.2.2.2.2.2.2.2.2.2.2.1 c_sim_1.2.2.2.2.2.2.2.2.2.2.2)) (T := TX8) (N := 29) (ci := 8) K (ctX8_passes l D cyI cyJ cyS a0 i1 c_latest c_typed c_sights c_drawn c_tenants c_room c_events c_gone c_tenant c_event c_sim c_sim_1 hc) (gdV mcL mw_17_20 mw_17_21 mw_17_22 mw_1_5 mw_17_23) rfl ⟨rfl, rfl⟩ hyX8_passes ⟨Nat.le_of_ble_eq_true rfl, Nat.le_of_ble_eq_true rfl, Nat.le_of_ble_eq_true rfl, Nat.le_of_ble_eq_true rfl⟩ [0, 1, 2, 3, 4, 5, 6, 7, 8, 9, 10, 11, 12, 13] (by decide) rfl [some 0, some 1, some 2, some 3, some 4, some 5, some 6, some 7, some 8, some 9, some 10, some 11, some 12, some 13] (by decide) rfl rfl 0 rfl rfl rfl rfl (Nat.le_of_ble_eq_true rfl) dX8_lives_79 rfl rfl ?_
      refine j_iincN (lf := fun z => [(1, .int z), (0, .ref (a0 0))]) K (v := i1 + (1 : Int32)) (k := 1) rfl rfl (by decide) (fun _ => rfl) dX8_lives_82 rfl h (fun i1_2 h => ?_)
      refine j_goto (pc' := 71) K dX8_lives_85 (by decide) ?_
      refine j_sub [1, 0] (lv' := [(0, .ref (a0 0)), (1, .int i1_2)]) rfl ?_
      exact ih c_sim_1 i1_2 h
set_option maxRecDepth 100000 in
set_option maxHeartbeats 4000000 in
theorem wX8_lives_2 (K : jK p s m args meth c A D vwCl (tyz cyI cyJ cyS) cX8_lives 2 RX8 wdX8_lives none) (a0 : Nat → Nat) (c_latest : Int32) (c_typed : Int32) (c_sights : Int32) (c_drawn : Int32) (c_tenants : Int32) (c_room : Int32) (c_events : Int32) (c_gone : Int32) (c_tenant : Nat → Int32) (c_event : Nat → Int32) (o_sim : jT11)   : ∀ (n : Nat) (c_sim : jT11) (i1 : Int32), fX8_lives_2 c_tenants c_room c_events c_gone c_tenant c_event  n c_sim i1 = some (o_sim) → jw p l e rmX8_lives s m args below meth c (jQ below args s A D vwCl (tyz cyI cyJ cyS) 0 0 none (uX8_lives cyI cyJ cyS a0 c_latest c_typed c_tenants c_room c_events c_gone o_sim.1 c_sights c_drawn c_tenant c_event o_sim.2.1 o_sim.2.2.1 o_sim.2.2.2.1 o_sim.2.2.2.2.1 o_sim.2.2.2.2.2.1 o_sim.2.2.2.2.2.2.1 o_sim.2.2.2.2.2.2.2.1 o_sim.2.2.2.2.2.2.2.2.1 o_sim.2.2.2.2.2.2.2.2.2.1 o_sim.2.2.2.2.2.2.2.2.2.2.1 o_sim.2.2.2.2.2.2.2.2.2.2.2)) A D vwCl 2 0 0 2 [(0, .ref (a0 0)), (1, .int i1)] [] (uX8_lives cyI cyJ cyS a0 c_latest c_typed c_tenants c_room c_events c_gone c_sim.1 c_sights c_drawn c_tenant c_event c_sim.2.1 c_sim.2.2.1 c_sim.2.2.2.1 c_sim.2.2.2.2.1 c_sim.2.2.2.2.2.1 c_sim.2.2.2.2.2.2.1 c_sim.2.2.2.2.2.2.2.1 c_sim.2.2.2.2.2.2.2.2.1 c_sim.2.2.2.2.2.2.2.2.2.1 c_sim.2.2.2.2.2.2.2.2.2.2.1 c_sim.2.2.2.2.2.2.2.2.2.2.2) := by
  intro n
  induction n with
  | zero => intro c_sim i1 h; cases h
  | succ n ih =>
    intro c_sim i1 h
    have h : bX8_lives_2 c_tenants c_room c_events c_gone c_tenant c_event  (fX8_lives_2 c_tenants c_room c_events c_gone c_tenant c_event  n) c_sim i1 = some (o_sim) := h
    unfold bX8_lives_2 at h
    refine j_iload_n K 1 rfl dX8_lives_2 rfl ?_
    refine j_aload_n K 0 rfl dX8_lives_3 rfl ?_
    refine j_getf (C := RX8) (T := TX8) (N := 29) (ci := 8) K icX8 0 7 (List.mem_cons_of_mem _ mw_9_6) rfl rfl rfl (by decide) rfl dX8_lives_4 rfl ?_
    refine j_icmp_ge (tgt := 69) K dX8_lives_7 (by decide) rfl h (fun h => ?_) (fun h => ?_)
    · refine j_iconst (v := (0 : Int32)) K (by decide) dX8_lives_69 rfl ?_
      refine j_istore_n (lv' := [(1, .int (0 : Int32)), (0, .ref (a0 0))]) K (by decide) rfl dX8_lives_70 rfl ?_
      refine j_sub [1, 0] (lv' := [(0, .ref (a0 0)), (1, .int (0 : Int32))]) rfl ?_
      exact wX8_lives_71 K a0 c_latest c_typed c_sights c_drawn c_tenants c_room c_events c_gone c_tenant c_event o_sim jF c_sim (0 : Int32) h
    · refine j_aload_n K 0 rfl dX8_lives_10 rfl ?_
      refine j_getf (C := RX8) (T := TX8) (N := 29) (ci := 8) K icX8 0 13 (List.mem_cons_of_mem _ mw_5_15) rfl rfl rfl (by decide) rfl dX8_lives_11 rfl ?_
      refine j_iload_n K 1 rfl dX8_lives_14 rfl ?_
      refine j_iconst (v := (0 : Int32)) K (by decide) dX8_lives_15 rfl ?_
      refine j_iast K 3 0 (fun z => (uX8_lives cyI cyJ cyS a0 c_latest c_typed c_tenants c_room c_events c_gone c_sim.1 c_sights c_drawn c_tenant c_event z c_sim.2.2.1 c_sim.2.2.2.1 c_sim.2.2.2.2.1 c_sim.2.2.2.2.2.1 c_sim.2.2.2.2.2.2.1 c_sim.2.2.2.2.2.2.2.1 c_sim.2.2.2.2.2.2.2.2.1 c_sim.2.2.2.2.2.2.2.2.2.1 c_sim.2.2.2.2.2.2.2.2.2.2.1 c_sim.2.2.2.2.2.2.2.2.2.2.2)) rfl rfl (fun _ => rfl) dX8_lives_16 rfl h (fun c_floor_3 h => ?_)
      refine j_aload_n K 0 rfl dX8_lives_17 rfl ?_
      refine j_getf (C := RX8) (T := TX8) (N := 29) (ci := 8) K icX8 0 15 (List.mem_cons_of_mem _ mw_5_17) rfl rfl rfl (by decide) rfl dX8_lives_18 rfl ?_
      refine j_iload_n K 1 rfl dX8_lives_21 rfl ?_
      refine j_iconst (v := (3 : Int32)) K (by decide) dX8_lives_22 rfl ?_
      refine j_aload_n K 0 rfl dX8_lives_23 rfl ?_
      refine j_getf (C := RX8) (T := TX8) (N := 29) (ci := 8) K icX8 0 8 (List.mem_cons_of_mem _ mw_5_13) rfl rfl rfl (by decide) rfl dX8_lives_24 rfl ?_
      refine j_iconst (v := (3 : Int32)) K (by decide) dX8_lives_27 rfl ?_
      refine j_iload_n K 1 rfl dX8_lives_28 rfl ?_
      refine j_imul K dX8_lives_29 rfl ?_
      refine j_iconst (v := (1 : Int32)) K (by decide) dX8_lives_30 rfl ?_
      refine j_iadd K dX8_lives_31 rfl ?_
      refine j_iald K 1 0 rfl rfl dX8_lives_32 rfl h (fun v_4 h => ?_)
      refine j_imul K dX8_lives_33 rfl ?_
      refine j_iast K 5 0 (fun z => (uX8_lives cyI cyJ cyS a0 c_latest c_typed c_tenants c_room c_events c_gone c_sim.1 c_sights c_drawn c_tenant c_event c_floor_3 c_sim.2.2.1 z c_sim.2.2.2.2.1 c_sim.2.2.2.2.2.1 c_sim.2.2.2.2.2.2.1 c_sim.2.2.2.2.2.2.2.1 c_sim.2.2.2.2.2.2.2.2.1 c_sim.2.2.2.2.2.2.2.2.2.1 c_sim.2.2.2.2.2.2.2.2.2.2.1 c_sim.2.2.2.2.2.2.2.2.2.2.2)) rfl rfl (fun _ => rfl) dX8_lives_34 rfl h (fun c_left_5 h => ?_)
      refine j_aload_n K 0 rfl dX8_lives_35 rfl ?_
      refine j_getf (C := RX8) (T := TX8) (N := 29) (ci := 8) K icX8 0 16 (List.mem_cons_of_mem _ mw_5_18) rfl rfl rfl (by decide) rfl dX8_lives_36 rfl ?_
      refine j_iload_n K 1 rfl dX8_lives_39 rfl ?_
      refine j_iconst (v := (-1 : Int32)) K (by decide) dX8_lives_40 rfl ?_
      refine j_iast K 6 0 (fun z => (uX8_lives cyI cyJ cyS a0 c_latest c_typed c_tenants c_room c_events c_gone c_sim.1 c_sights c_drawn c_tenant c_event c_floor_3 c_sim.2.2.1 c_left_5 z c_sim.2.2.2.2.2.1 c_sim.2.2.2.2.2.2.1 c_sim.2.2.2.2.2.2.2.1 c_sim.2.2.2.2.2.2.2.2.1 c_sim.2.2.2.2.2.2.2.2.2.1 c_sim.2.2.2.2.2.2.2.2.2.2.1 c_sim.2.2.2.2.2.2.2.2.2.2.2)) rfl rfl (fun _ => rfl) dX8_lives_41 rfl h (fun c_settled_6 h => ?_)
      refine j_aload_n K 0 rfl dX8_lives_42 rfl ?_
      refine j_getf (C := RX8) (T := TX8) (N := 29) (ci := 8) K icX8 0 17 (List.mem_cons_of_mem _ mw_5_19) rfl rfl rfl (by decide) rfl dX8_lives_43 rfl ?_
      refine j_iload_n K 1 rfl dX8_lives_46 rfl ?_
      refine j_iconst (v := (0 : Int32)) K (by decide) dX8_lives_47 rfl ?_
      refine j_iast K 7 0 (fun z => (uX8_lives cyI cyJ cyS a0 c_latest c_typed c_tenants c_room c_events c_gone c_sim.1 c_sights c_drawn c_tenant c_event c_floor_3 c_sim.2.2.1 c_left_5 c_settled_6 z c_sim.2.2.2.2.2.2.1 c_sim.2.2.2.2.2.2.2.1 c_sim.2.2.2.2.2.2.2.2.1 c_sim.2.2.2.2.2.2.2.2.2.1 c_sim.2.2.2.2.2.2.2.2.2.2.1 c_sim.2.2.2.2.2.2.2.2.2.2.2)) rfl rfl (fun _ => rfl) dX8_lives_48 rfl h (fun c_fell_7 h => ?_)
      refine j_aload_n K 0 rfl dX8_lives_49 rfl ?_
      refine j_getf (C := RX8) (T := TX8) (N := 29) (ci := 8) K icX8 0 18 (List.mem_cons_of_mem _ mw_5_20) rfl rfl rfl (by decide) rfl dX8_lives_50 rfl ?_
      refine j_iload_n K 1 rfl dX8_lives_53 rfl ?_
      refine j_iconst (v := (0 : Int32)) K (by decide) dX8_lives_54 rfl ?_
      refine j_iast K 8 0 (fun z => (uX8_lives cyI cyJ cyS a0 c_latest c_typed c_tenants c_room c_events c_gone c_sim.1 c_sights c_drawn c_tenant c_event c_floor_3 c_sim.2.2.1 c_left_5 c_settled_6 c_fell_7 z c_sim.2.2.2.2.2.2.2.1 c_sim.2.2.2.2.2.2.2.2.1 c_sim.2.2.2.2.2.2.2.2.2.1 c_sim.2.2.2.2.2.2.2.2.2.2.1 c_sim.2.2.2.2.2.2.2.2.2.2.2)) rfl rfl (fun _ => rfl) dX8_lives_55 rfl h (fun c_past_8 h => ?_)
      refine j_aload_n K 0 rfl dX8_lives_56 rfl ?_
      refine j_getf (C := RX8) (T := TX8) (N := 29) (ci := 8) K icX8 0 19 (List.mem_cons_of_mem _ mw_5_21) rfl rfl rfl (by decide) rfl dX8_lives_57 rfl ?_
      refine j_iload_n K 1 rfl dX8_lives_60 rfl ?_
      refine j_iconst (v := (-1 : Int32)) K (by decide) dX8_lives_61 rfl ?_
      refine j_iast K 9 0 (fun z => (uX8_lives cyI cyJ cyS a0 c_latest c_typed c_tenants c_room c_events c_gone c_sim.1 c_sights c_drawn c_tenant c_event c_floor_3 c_sim.2.2.1 c_left_5 c_settled_6 c_fell_7 c_past_8 z c_sim.2.2.2.2.2.2.2.2.1 c_sim.2.2.2.2.2.2.2.2.2.1 c_sim.2.2.2.2.2.2.2.2.2.2.1 c_sim.2.2.2.2.2.2.2.2.2.2.2)) rfl rfl (fun _ => rfl) dX8_lives_62 rfl h (fun c_highest_9 h => ?_)
      refine j_iincN (lf := fun z => [(1, .int z), (0, .ref (a0 0))]) K (v := i1 + (1 : Int32)) (k := 1) rfl rfl (by decide) (fun _ => rfl) dX8_lives_63 rfl h (fun i1_10 h => ?_)
      refine j_goto (pc' := 2) K dX8_lives_66 (by decide) ?_
      refine j_sub [1, 0] (lv' := [(0, .ref (a0 0)), (1, .int i1_10)]) rfl ?_
      exact ih (c_sim.1, c_floor_3, c_sim.2.2.1, c_left_5, c_settled_6, c_fell_7, c_past_8, c_highest_9, c_sim.2.2.2.2.2.2.2.2.1, c_sim.2.2.2.2.2.2.2.2.2.1, c_sim.2.2.2.2.2.2.2.2.2.2.1, c_sim.2.2.2.2.2.2.2.2.2.2.2) i1_10 h
set_option maxRecDepth 100000 in
set_option maxHeartbeats 4000000 in
theorem ctX8_lives (l : Launch) (D : va_G) (cyI cyJ cyS : ClassId) (a0 : Nat → Nat) (c_latest : Int32) (c_typed : Int32) (c_sights : Int32) (c_drawn : Int32) (c_tenants : Int32) (c_room : Int32) (c_events : Int32) (c_gone : Int32) (c_tenant : Nat → Int32) (c_event : Nat → Int32) (c_sim : jT11) (o_sim : jT11) (h : fX8_lives c_tenants c_room c_events c_gone c_tenant c_event c_sim = some (o_sim)) : jC l yX8_lives wdX8_lives rmX8_lives D vwCl (tyz cyI cyJ cyS) [.ref (a0 0)] (uX8_lives cyI cyJ cyS a0 c_latest c_typed c_tenants c_room c_events c_gone c_sim.1 c_sights c_drawn c_tenant c_event c_sim.2.1 c_sim.2.2.1 c_sim.2.2.2.1 c_sim.2.2.2.2.1 c_sim.2.2.2.2.2.1 c_sim.2.2.2.2.2.2.1 c_sim.2.2.2.2.2.2.2.1 c_sim.2.2.2.2.2.2.2.2.1 c_sim.2.2.2.2.2.2.2.2.2.1 c_sim.2.2.2.2.2.2.2.2.2.2.1 c_sim.2.2.2.2.2.2.2.2.2.2.2) none (uX8_lives cyI cyJ cyS a0 c_latest c_typed c_tenants c_room c_events c_gone o_sim.1 c_sights c_drawn c_tenant c_event o_sim.2.1 o_sim.2.2.1 o_sim.2.2.2.1 o_sim.2.2.2.2.1 o_sim.2.2.2.2.2.1 o_sim.2.2.2.2.2.2.1 o_sim.2.2.2.2.2.2.2.1 o_sim.2.2.2.2.2.2.2.2.1 o_sim.2.2.2.2.2.2.2.2.2.1 o_sim.2.2.2.2.2.2.2.2.2.2.1 o_sim.2.2.2.2.2.2.2.2.2.2.2) := by
  refine jC_of (cc := cX8_lives) (nL := 2) (ret := none) (own := RX8) (lv := [(0, .ref (a0 0))]) (by decide) rfl rfl (Nat.le_of_ble_eq_true rfl) rfl ?_
  intro p e s m args below meth c A K
  unfold fX8_lives at h
  refine j_iconst (v := (0 : Int32)) K (by decide) dX8_lives_0 rfl ?_
  refine j_istore_n (lv' := [(1, .int (0 : Int32)), (0, .ref (a0 0))]) K (by decide) rfl dX8_lives_1 rfl ?_
  refine j_sub [1, 0] (lv' := [(0, .ref (a0 0)), (1, .int (0 : Int32))]) rfl ?_
  exact wX8_lives_2 K a0 c_latest c_typed c_sights c_drawn c_tenants c_room c_events c_gone c_tenant c_event o_sim jF c_sim (0 : Int32) h
abbrev uX8_find (cyI cyJ cyS : ClassId) (a0 : Nat → Nat) (c_latest : Int32) (c_typed : Int32) (c_tenants : Int32) (c_room : Int32) (c_events : Int32) (c_gone : Int32) (c_audit : Int32) (c_sights : Int32) (c_drawn : Int32) (c_bytes : Nat → Int32) (c_tenant : Nat → Int32) (c_event : Nat → Int32) (c_floor : Nat → Int32) (c_before : Nat → Int32) (c_left : Nat → Int32) (c_settled : Nat → Int32) (c_fell : Nat → Int32) (c_past : Nat → Int32) (c_highest : Nat → Int32) (c_many : Nat → Int32) (c_floorBy : Nat → Int32) (c_leftBy : Nat → Int32) (c_fellBy : Nat → Int32) : va_W := [((a0 0), .inr (8, [.ref (a0 1), .ref (a0 2), .ref (a0 3), .ref (a0 4), .int c_latest, .ref (a0 5), .int c_typed, .int c_tenants, .ref (a0 6), .int c_room, .int c_events, .ref (a0 7), .int c_gone, .ref (a0 8), .ref (a0 9), .ref (a0 10), .ref (a0 11), .ref (a0 12), .ref (a0 13), .ref (a0 14), .ref (a0 15), .ref (a0 16), .ref (a0 17), .ref (a0 18), .int c_audit, .int c_sights, .ref (a0 19), .ref (a0 20), .int c_drawn])), ((a0 5), .inl (cyI, 31, .inl c_bytes)), ((a0 6), .inl (cyI, 24, .inl c_tenant)), ((a0 7), .inl (cyI, 24, .inl c_event)), ((a0 8), .inl (cyI, 8, .inl c_floor)), ((a0 9), .inl (cyI, 8, .inl c_before)), ((a0 10), .inl (cyI, 8, .inl c_left)), ((a0 11), .inl (cyI, 8, .inl c_settled)), ((a0 12), .inl (cyI, 8, .inl c_fell)), ((a0 13), .inl (cyI, 8, .inl c_past)), ((a0 14), .inl (cyI, 8, .inl c_highest)), ((a0 15), .inl (cyI, 13, .inl c_many)), ((a0 16), .inl (cyI, 192, .inl c_floorBy)), ((a0 17), .inl (cyI, 192, .inl c_leftBy)), ((a0 18), .inl (cyI, 192, .inl c_fellBy))]
abbrev rmX8_find : Room := { frames := 5, cells := 0, slots := 0, locals := 114 }
abbrev wdX8_find : List Cond := .code yX8_find cX8_find 1 none :: wsL_law
theorem hyX8_find : yX8_find.cls = RX8 ∧ yX8_find.cls ≠ "java/lang/invoke/MethodHandle" ∧ yX8_find.cls ≠ "java/lang/invoke/VarHandle" ∧ (parseMethodDescriptor yX8_find.desc).map (fun d => d.parameters.length) = some 0 := by decide +kernel
set_option maxRecDepth 100000 in
set_option maxHeartbeats 4000000 in
theorem ctX8_find (l : Launch) (D : va_G) (cyI cyJ cyS : ClassId) (a0 : Nat → Nat) (c_latest : Int32) (c_sights : Int32) (c_drawn : Int32) (c_typed : Int32) (c_room : Int32) (c_events : Int32) (c_gone : Int32) (c_bytes : Nat → Int32) (c_event : Nat → Int32) (c_tenants : Int32) (c_sim : jT11) (c_tenant : Nat → Int32) (o_tenants : Int32) (o_sim : jT11) (o_tenant : Nat → Int32) (h : fX8_find c_typed c_room c_events c_gone c_bytes c_event c_tenants c_sim c_tenant = some (o_tenants, o_sim, o_tenant)) : jC l yX8_find wdX8_find rmX8_find D vwCl (tyz cyI cyJ cyS) [.ref (a0 0)] (uX8_find cyI cyJ cyS a0 c_latest c_typed c_tenants c_room c_events c_gone c_sim.1 c_sights c_drawn c_bytes c_tenant c_event c_sim.2.1 c_sim.2.2.1 c_sim.2.2.2.1 c_sim.2.2.2.2.1 c_sim.2.2.2.2.2.1 c_sim.2.2.2.2.2.2.1 c_sim.2.2.2.2.2.2.2.1 c_sim.2.2.2.2.2.2.2.2.1 c_sim.2.2.2.2.2.2.2.2.2.1 c_sim.2.2.2.2.2.2.2.2.2.2.1 c_sim.2.2.2.2.2.2.2.2.2.2.2) none (uX8_find cyI cyJ cyS a0 c_latest c_typed o_tenants c_room c_events c_gone o_sim.1 c_sights c_drawn c_bytes o_tenant c_event o_sim.2.1 o_sim.2.2.1 o_sim.2.2.2.1 o_sim.2.2.2.2.1 o_sim.2.2.2.2.2.1 o_sim.2.2.2.2.2.2.1 o_sim.2.2.2.2.2.2.2.1 o_sim.2.2.2.2.2.2.2.2.1 o_sim.2.2.2.2.2.2.2.2.2.1 o_sim.2.2.2.2.2.2.2.2.2.2.1 o_sim.2.2.2.2.2.2.2.2.2.2.2) := by
  refine jC_of (cc := cX8_find) (nL := 1) (ret := none) (own := RX8) (lv := [(0, .ref (a0 0))]) (by decide) rfl rfl (Nat.le_of_ble_eq_true rfl) rfl ?_
  intro p e s m args below meth c A K
  unfold fX8_find at h
  refine j_aload_n K 0 rfl dX8_find_0 rfl ?_
  obtain ⟨r_1, c_tenants_2, c_tenant_3, hc, h⟩ := bd3_some h
  refine j_callV (rest := []) (st1 := [.int r_1]) (ws' := (uX8_find cyI cyJ cyS a0 c_latest c_typed c_tenants_2 c_room c_events c_gone c_sim.1 c_sights c_drawn c_bytes c_tenant_3 c_event c_sim.2.1 c_sim.2.2.1 c_sim.2.2.2.1 c_sim.2.2.2.2.1 c_sim.2.2.2.2.2.1 c_sim.2.2.2.2.2.2.1 c_sim.2.2.2.2.2.2.2.1 c_sim.2.2.2.2.2.2.2.2.1 c_sim.2.2.2.2.2.2.2.2.2.1 c_sim.2.2.2.2.2.2.2.2.2.2.1 c_sim.2.2.2.2.2.2.2.2.2.2.2)) (T := TX8) (N := 29) (ci := 8) K (ctX8_reads l D cyI cyJ cyS a0 c_latest c_room c_events c_gone c_sim.1 c_sights c_drawn c_typed c_bytes c_tenants c_tenant r_1 c_tenants_2 c_tenant_3 hc) (gdV mcL mw_9_2 mw_9_3 mw_9_4 mw_1_5 mw_9_5) rfl ⟨rfl, rfl⟩ hyX8_reads ⟨Nat.le_of_ble_eq_true rfl, Nat.le_of_ble_eq_true rfl, Nat.le_of_ble_eq_true rfl, Nat.le_of_ble_eq_true rfl⟩ [0, 1, 2] (by decide) rfl [some 0, some 1, some 2, none, none, none, none, none, none, none, none, none, none, none, none] (by decide) rfl rfl 0 rfl rfl rfl rfl (Nat.le_of_ble_eq_true rfl) dX8_find_1 rfl rfl ?_
  refine j_pop K rfl dX8_find_4 rfl ?_
  refine j_aload_n K 0 rfl dX8_find_5 rfl ?_
  obtain ⟨c_sim_4, hc, h⟩ := bd1_some h
  refine j_callV (rest := []) (st1 := []) (ws' := (uX8_find cyI cyJ cyS a0 c_latest c_typed c_tenants_2 c_room c_events c_gone c_sim_4.1 c_sights c_drawn c_bytes c_tenant_3 c_event c_sim_4.2.1 c_sim_4.2.2.1 c_sim_4.2.2.2.1 c_sim_4.2.2.2.2.1 c_sim_4.2.2.2.2.2.1 c_sim_4.2.2.2.2.2.2.1 c_sim_4.2.2.2.2.2.2.2.1 c_sim_4.2.2.2.2.2.2.2.2.1 c_sim_4.2.2.2.2.2.2.2.2.2.1 c_sim_4.2.2.2.2.2.2.2.2.2.2.1 c_sim_4.2.2.2.2.2.2.2.2.2.2.2)) (T := TX8) (N := 29) (ci := 8) K (ctX8_lives l D cyI cyJ cyS a0 c_latest c_typed c_sights c_drawn c_tenants_2 c_room c_events c_gone c_tenant_3 c_event c_sim c_sim_4 hc) (gdV mcL mw_17_16 mw_17_17 mw_17_18 mw_1_5 mw_17_19) rfl ⟨rfl, rfl⟩ hyX8_lives ⟨Nat.le_of_ble_eq_true rfl, Nat.le_of_ble_eq_true rfl, Nat.le_of_ble_eq_true rfl, Nat.le_of_ble_eq_true rfl⟩ [0, 2, 3, 4, 5, 6, 7, 8, 9, 10, 11, 12, 13, 14] (by decide) rfl [some 0, none, some 1, some 2, some 3, some 4, some 5, some 6, some 7, some 8, some 9, some 10, some 11, some 12, some 13] (by decide) rfl rfl 0 rfl rfl rfl rfl (Nat.le_of_ble_eq_true rfl) dX8_find_6 rfl rfl ?_
  obtain ⟨e1, g1⟩ := Prod.mk.inj (Option.some.inj h)
  subst e1
  obtain ⟨e2, g2⟩ := Prod.mk.inj g1
  subst e2
  subst g2
  exact j_vret K dX8_find_9
abbrev uX8_owes (cyI cyJ cyS : ClassId) (a0 : Nat → Nat) (c_latest : Int32) (c_typed : Int32) (c_tenants : Int32) (c_room : Int32) (c_events : Int32) (c_gone : Int32) (c_audit : Int32) (c_sights : Int32) (c_drawn : Int32) (c_floorBy : Nat → Int32) (c_leftBy : Nat → Int32) : va_W := [((a0 0), .inr (8, [.ref (a0 1), .ref (a0 2), .ref (a0 3), .ref (a0 4), .int c_latest, .ref (a0 5), .int c_typed, .int c_tenants, .ref (a0 6), .int c_room, .int c_events, .ref (a0 7), .int c_gone, .ref (a0 8), .ref (a0 9), .ref (a0 10), .ref (a0 11), .ref (a0 12), .ref (a0 13), .ref (a0 14), .ref (a0 15), .ref (a0 16), .ref (a0 17), .ref (a0 18), .int c_audit, .int c_sights, .ref (a0 19), .ref (a0 20), .int c_drawn])), ((a0 16), .inl (cyI, 192, .inl c_floorBy)), ((a0 17), .inl (cyI, 192, .inl c_leftBy))]
abbrev rmX8_owes : Room := { frames := 1, cells := 0, slots := 0, locals := 20 }
abbrev wdX8_owes : List Cond := .code yX8_owes cX8_owes 2 (some .int) :: wsL_law
theorem hyX8_owes : yX8_owes.cls = RX8 ∧ yX8_owes.cls ≠ "java/lang/invoke/MethodHandle" ∧ yX8_owes.cls ≠ "java/lang/invoke/VarHandle" ∧ (parseMethodDescriptor yX8_owes.desc).map (fun d => d.parameters.length) = some 1 := by decide +kernel
set_option maxRecDepth 100000 in
set_option maxHeartbeats 4000000 in
theorem ctX8_owes (l : Launch) (D : va_G) (cyI cyJ cyS : ClassId) (a0 : Nat → Nat) (i1 : Int32) (c_latest : Int32) (c_typed : Int32) (c_tenants : Int32) (c_room : Int32) (c_events : Int32) (c_gone : Int32) (c_audit : Int32) (c_sights : Int32) (c_drawn : Int32) (c_floorBy : Nat → Int32) (c_leftBy : Nat → Int32) (o_r : Int32) (h : fX8_owes i1 c_floorBy c_leftBy = some (o_r)) : jC l yX8_owes wdX8_owes rmX8_owes D vwCl (tyz cyI cyJ cyS) [.ref (a0 0), .int i1] (uX8_owes cyI cyJ cyS a0 c_latest c_typed c_tenants c_room c_events c_gone c_audit c_sights c_drawn c_floorBy c_leftBy) (some (.int o_r)) (uX8_owes cyI cyJ cyS a0 c_latest c_typed c_tenants c_room c_events c_gone c_audit c_sights c_drawn c_floorBy c_leftBy) := by
  refine jC_of (cc := cX8_owes) (nL := 2) (ret := (some .int)) (own := RX8) (lv := [(0, .ref (a0 0)), (1, .int i1)]) (by decide) rfl rfl (Nat.le_of_ble_eq_true rfl) rfl ?_
  intro p e s m args below meth c A K
  unfold fX8_owes at h
  refine j_aload_n K 0 rfl dX8_owes_0 rfl ?_
  refine j_getf (C := RX8) (T := TX8) (N := 29) (ci := 8) K icX8 0 21 (List.mem_cons_of_mem _ mw_5_23) rfl rfl rfl (by decide) rfl dX8_owes_1 rfl ?_
  refine j_iload_n K 1 rfl dX8_owes_4 rfl ?_
  refine j_iald K 1 0 rfl rfl dX8_owes_5 rfl h (fun v_1 h => ?_)
  refine j_aload_n K 0 rfl dX8_owes_6 rfl ?_
  refine j_getf (C := RX8) (T := TX8) (N := 29) (ci := 8) K icX8 0 22 (List.mem_cons_of_mem _ mw_6_0) rfl rfl rfl (by decide) rfl dX8_owes_7 rfl ?_
  refine j_iload_n K 1 rfl dX8_owes_10 rfl ?_
  refine j_iald K 2 0 rfl rfl dX8_owes_11 rfl h (fun v_2 h => ?_)
  obtain ⟨r_3, hc, h⟩ := bd1_some h
  refine j_callS (rest := [.int v_1]) (st1 := [.int r_3, .int v_1]) (ws' := (uX8_owes cyI cyJ cyS a0 c_latest c_typed c_tenants c_room c_events c_gone c_audit c_sights c_drawn c_floorBy c_leftBy)) K (ctX8_third l D cyI cyJ cyS v_2 r_3 hc) (gdS mcL mw_19_15 mw_19_16 mw_1_5 mw_19_17) rfl ⟨rfl, rfl⟩ hzX8_third ⟨Nat.le_of_ble_eq_true rfl, Nat.le_of_ble_eq_true rfl, Nat.le_of_ble_eq_true rfl, Nat.le_of_ble_eq_true rfl⟩ [] (by decide) rfl [none, none, none] (by decide) rfl rfl rfl rfl (Nat.le_of_ble_eq_true rfl) dX8_owes_12 rfl rfl ?_
  refine j_icmp_le (tgt := 22) K dX8_owes_15 (by decide) rfl h (fun h => ?_) (fun h => ?_)
  · refine j_iconst (v := (0 : Int32)) K (by decide) dX8_owes_22 rfl ?_
    have h := Option.some.inj h
    subst h
    exact j_iret K dX8_owes_23
  · refine j_iconst (v := (1 : Int32)) K (by decide) dX8_owes_18 rfl ?_
    refine j_goto (pc' := 23) K dX8_owes_19 (by decide) ?_
    have h := Option.some.inj h
    subst h
    exact j_iret K dX8_owes_23
end GEN
