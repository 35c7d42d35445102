section GEN
variable {p : Program} {l : Launch} {e : Env} {s : State} {m : MethodId} {args : Array Value} {below : List Frame} {meth : Method} {c : Code} {A : Nat → Prop} {D : va_G} {cyI cyJ cyS : ClassId}
abbrev uX8_widenBy (cyI cyJ cyS : ClassId) (a0 : Nat → Nat) (c_latest : Int32) (c_typed : Int32) (c_tenants : Int32) (c_room : Int32) (c_events : Int32) (c_gone : Int32) (c_audit : Int32) (c_sights : Int32) (c_drawn : Int32) (c_tenant : Nat → Int32) (c_event : Nat → Int32) (c_floor : Nat → Int32) (c_before : Nat → Int32) (c_left : Nat → Int32) (c_settled : Nat → Int32) (c_fell : Nat → Int32) (c_past : Nat → Int32) (c_highest : Nat → Int32) (c_many : Nat → Int32) (c_floorBy : Nat → Int32) (c_leftBy : Nat → Int32) (c_fellBy : Nat → Int32) : va_W := [((a0 0), .inr (8, [.ref (a0 1), .ref (a0 2), .ref (a0 3), .ref (a0 4), .int c_latest, .ref (a0 5), .int c_typed, .int c_tenants, .ref (a0 6), .int c_room, .int c_events, .ref (a0 7), .int c_gone, .ref (a0 8), .ref (a0 9), .ref (a0 10), .ref (a0 11), .ref (a0 12), .ref (a0 13), .ref (a0 14), .ref (a0 15), .ref (a0 16), .ref (a0 17), .ref (a0 18), .int c_audit, .int c_sights, .ref (a0 19), .ref (a0 20), .int c_drawn])), ((a0 6), .inl (cyI, 24, .inl c_tenant)), ((a0 7), .inl (cyI, 24, .inl c_event)), ((a0 8), .inl (cyI, 8, .inl c_floor)), ((a0 9), .inl (cyI, 8, .inl c_before)), ((a0 10), .inl (cyI, 8, .inl c_left)), ((a0 11), .inl (cyI, 8, .inl c_settled)), ((a0 12), .inl (cyI, 8, .inl c_fell)), ((a0 13), .inl (cyI, 8, .inl c_past)), ((a0 14), .inl (cyI, 8, .inl c_highest)), ((a0 15), .inl (cyI, 13, .inl c_many)), ((a0 16), .inl (cyI, 192, .inl c_floorBy)), ((a0 17), .inl (cyI, 192, .inl c_leftBy)), ((a0 18), .inl (cyI, 192, .inl c_fellBy))]
abbrev rmX8_widenBy : Room := { frames := 6, cells := 0, slots := 0, locals := 134 }
abbrev wdX8_widenBy : List Cond := .code yX8_widenBy cX8_widenBy 7 (some .int) :: wsL_law
theorem hyX8_widenBy : yX8_widenBy.cls = RX8 ∧ yX8_widenBy.cls ≠ "java/lang/invoke/MethodHandle" ∧ yX8_widenBy.cls ≠ "java/lang/invoke/VarHandle" ∧ (parseMethodDescriptor yX8_widenBy.desc).map (fun d => d.parameters.length) = some 1 := by decide +kernel
set_option maxRecDepth 100000 in
set_option maxHeartbeats 4000000 in
theorem wX8_widenBy_46 (K : jK p s m args meth c A D vwCl (tyz cyI cyJ cyS) cX8_widenBy 7 RX8 wdX8_widenBy (some .int)) (a0 : Nat → Nat) (c_latest : Int32) (c_typed : Int32) (c_sights : Int32) (c_drawn : Int32) (i1 : Int32) (c_tenants : Int32) (c_events : Int32) (c_gone : Int32) (c_tenant : Nat → Int32) (c_event : Nat → Int32) (o_r : Int32) (o_room : Int32) (o_sim : jT11)  (q_14 : Int32 → jT11 → Int32 → Int32 → Int32 → Int32 → (Option (Int32 × Int32 × jT11))) (hq_14 : ∀ (c_room : Int32) (c_sim : jT11) (i2 : Int32) (i3 : Int32) (i4 : Int32) (i5 : Int32), q_14 c_room c_sim i2 i3 i4 i5 = some (o_r, o_room, o_sim) → jw p l e rmX8_widenBy s m args below meth c (jQ below args s A D vwCl (tyz cyI cyJ cyS) 0 0 (some (.int o_r)) (uX8_widenBy cyI cyJ cyS a0 c_latest c_typed c_tenants o_room c_events c_gone o_sim.1 c_sights c_drawn c_tenant c_event o_sim.2.1 o_sim.2.2.1 o_sim.2.2.2.1 o_sim.2.2.2.2.1 o_sim.2.2.2.2.2.1 o_sim.2.2.2.2.2.2.1 o_sim.2.2.2.2.2.2.2.1 o_sim.2.2.2.2.2.2.2.2.1 o_sim.2.2.2.2.2.2.2.2.2.1 o_sim.2.2.2.2.2.2.2.2.2.2.1 o_sim.2.2.2.2.2.2.2.2.2.2.2)) A D vwCl 7 0 0 14 [(0, .ref (a0 0)), (1, .int i1), (2, .int i2), (3, .int i3), (4, .int i4), (5, .int i5)] [] (uX8_widenBy cyI cyJ cyS a0 c_latest c_typed c_tenants c_room c_events c_gone c_sim.1 c_sights c_drawn c_tenant c_event c_sim.2.1 c_sim.2.2.1 c_sim.2.2.2.1 c_sim.2.2.2.2.1 c_sim.2.2.2.2.2.1 c_sim.2.2.2.2.2.2.1 c_sim.2.2.2.2.2.2.2.1 c_sim.2.2.2.2.2.2.2.2.1 c_sim.2.2.2.2.2.2.2.2.2.1 c_sim.2.2.2.2.2.2.2.2.2.2.1 c_sim.2.2.2.2.2.2.2.2.2.2.2)) : ∀ (c_room : Int32) (c_sim : jT11) (i2 : Int32) (i4 : Int32) (i5 : Int32) (i6 : Int32) (t0 : Int32), fX8_widenBy_46 i1 c_tenants c_events c_gone c_tenant c_event q_14 c_room c_sim i2 i4 i5 i6 t0 = some (o_r, o_room, o_sim) → jw p l e rmX8_widenBy s m args below meth c (jQ below args s A D vwCl (tyz cyI cyJ cyS) 0 0 (some (.int o_r)) (uX8_widenBy cyI cyJ cyS a0 c_latest c_typed c_tenants o_room c_events c_gone o_sim.1 c_sights c_drawn c_tenant c_event o_sim.2.1 o_sim.2.2.1 o_sim.2.2.2.1 o_sim.2.2.2.2.1 o_sim.2.2.2.2.2.1 o_sim.2.2.2.2.2.2.1 o_sim.2.2.2.2.2.2.2.1 o_sim.2.2.2.2.2.2.2.2.1 o_sim.2.2.2.2.2.2.2.2.2.1 o_sim.2.2.2.2.2.2.2.2.2.2.1 o_sim.2.2.2.2.2.2.2.2.2.2.2)) A D vwCl 7 0 0 46 [(0, .ref (a0 0)), (1, .int i1), (2, .int i2), (4, .int i4), (5, .int i5), (6, .int i6)] [.int t0] (uX8_widenBy cyI cyJ cyS a0 c_latest c_typed c_tenants c_room c_events c_gone c_sim.1 c_sights c_drawn c_tenant c_event c_sim.2.1 c_sim.2.2.1 c_sim.2.2.2.1 c_sim.2.2.2.2.1 c_sim.2.2.2.2.2.1 c_sim.2.2.2.2.2.2.1 c_sim.2.2.2.2.2.2.2.1 c_sim.2.2.2.2.2.2.2.2.1 c_sim.2.2.2.2.2.2.2.2.2.1 c_sim.2.2.2.2.2.2.2.2.2.2.1 c_sim.2.2.2.2.2.2.2.2.2.2.2) := by
  intro c_room c_sim i2 i4 i5 i6 t0 h
  unfold fX8_widenBy_46 at h
  refine j_istore_n (lv' := [(3, .int t0), (0, .ref (a0 0)), (1, .int i1), (2, .int i2), (4, .int i4), (5, .int i5), (6, .int i6)]) K (by decide) rfl dX8_widenBy_46 rfl ?_
  refine j_iload K 6 rfl dX8_widenBy_47 rfl ?_
  refine j_iload K 4 rfl dX8_widenBy_49 rfl ?_
  obtain ⟨r_3, hc, h⟩ := bd1_some h
  refine j_callS (rest := []) (st1 := [.int r_3]) (ws' := (uX8_widenBy cyI cyJ cyS a0 c_latest c_typed c_tenants c_room c_events c_gone c_sim.1 c_sights c_drawn c_tenant c_event c_sim.2.1 c_sim.2.2.1 c_sim.2.2.2.1 c_sim.2.2.2.2.1 c_sim.2.2.2.2.2.1 c_sim.2.2.2.2.2.2.1 c_sim.2.2.2.2.2.2.2.1 c_sim.2.2.2.2.2.2.2.2.1 c_sim.2.2.2.2.2.2.2.2.2.1 c_sim.2.2.2.2.2.2.2.2.2.2.1 c_sim.2.2.2.2.2.2.2.2.2.2.2)) K (ctX8_lesser l D cyI cyJ cyS i6 i4 r_3 hc) (gdS mcL mw_18_13 mw_18_14 mw_1_5 mw_18_15) rfl ⟨rfl, rfl⟩ hzX8_lesser ⟨Nat.le_of_ble_eq_true rfl, Nat.le_of_ble_eq_true rfl, Nat.le_of_ble_eq_true rfl, Nat.le_of_ble_eq_true rfl⟩ [] (by decide) rfl [none, none, none, none, none, none, none, none, none, none, none, none, none, none] (by decide) rfl rfl rfl rfl (Nat.le_of_ble_eq_true rfl) dX8_widenBy_51 rfl rfl ?_
  refine j_istore (lv' := [(4, .int r_3), (3, .int t0), (0, .ref (a0 0)), (1, .int i1), (2, .int i2), (5, .int i5), (6, .int i6)]) K (by decide) rfl dX8_widenBy_54 rfl ?_
  refine j_iincN (lf := fun z => [(5, .int z), (4, .int r_3), (3, .int t0), (0, .ref (a0 0)), (1, .int i1), (2, .int i2), (6, .int i6)]) K (v := i5 + (1 : Int32)) (k := 5) rfl rfl (by decide) (fun _ => rfl) dX8_widenBy_56 rfl h (fun i5_4 h => ?_)
  refine j_goto (pc' := 14) K dX8_widenBy_59 (by decide) ?_
  refine j_sub [3, 4, 5, 2, 1, 0] (lv' := [(0, .ref (a0 0)), (1, .int i1), (2, .int i2), (3, .int t0), (4, .int r_3), (5, .int i5_4)]) rfl ?_
  exact hq_14 c_room c_sim i2 t0 r_3 i5_4 h
set_option maxRecDepth 100000 in
set_option maxHeartbeats 4000000 in
theorem wX8_widenBy_14 (K : jK p s m args meth c A D vwCl (tyz cyI cyJ cyS) cX8_widenBy 7 RX8 wdX8_widenBy (some .int)) (a0 : Nat → Nat) (c_latest : Int32) (c_typed : Int32) (c_sights : Int32) (c_drawn : Int32) (i1 : Int32) (c_tenants : Int32) (c_events : Int32) (c_gone : Int32) (c_tenant : Nat → Int32) (c_event : Nat → Int32) (o_r : Int32) (o_room : Int32) (o_sim : jT11)   : ∀ (n : Nat) (c_room : Int32) (c_sim : jT11) (i2 : Int32) (i3 : Int32) (i4 : Int32) (i5 : Int32), fX8_widenBy_14 i1 c_tenants c_events c_gone c_tenant c_event  n c_room c_sim i2 i3 i4 i5 = some (o_r, o_room, o_sim) → jw p l e rmX8_widenBy s m args below meth c (jQ below args s A D vwCl (tyz cyI cyJ cyS) 0 0 (some (.int o_r)) (uX8_widenBy cyI cyJ cyS a0 c_latest c_typed c_tenants o_room c_events c_gone o_sim.1 c_sights c_drawn c_tenant c_event o_sim.2.1 o_sim.2.2.1 o_sim.2.2.2.1 o_sim.2.2.2.2.1 o_sim.2.2.2.2.2.1 o_sim.2.2.2.2.2.2.1 o_sim.2.2.2.2.2.2.2.1 o_sim.2.2.2.2.2.2.2.2.1 o_sim.2.2.2.2.2.2.2.2.2.1 o_sim.2.2.2.2.2.2.2.2.2.2.1 o_sim.2.2.2.2.2.2.2.2.2.2.2)) A D vwCl 7 0 0 14 [(0, .ref (a0 0)), (1, .int i1), (2, .int i2), (3, .int i3), (4, .int i4), (5, .int i5)] [] (uX8_widenBy cyI cyJ cyS a0 c_latest c_typed c_tenants c_room c_events c_gone c_sim.1 c_sights c_drawn c_tenant c_event c_sim.2.1 c_sim.2.2.1 c_sim.2.2.2.1 c_sim.2.2.2.2.1 c_sim.2.2.2.2.2.1 c_sim.2.2.2.2.2.2.1 c_sim.2.2.2.2.2.2.2.1 c_sim.2.2.2.2.2.2.2.2.1 c_sim.2.2.2.2.2.2.2.2.2.1 c_sim.2.2.2.2.2.2.2.2.2.2.1 c_sim.2.2.2.2.2.2.2.2.2.2.2) := by
  intro n
  induction n with
  | zero => intro c_room c_sim i2 i3 i4 i5 h; cases h
  | succ n ih =>
    intro c_room c_sim i2 i3 i4 i5 h
    have h : bX8_widenBy_14 i1 c_tenants c_events c_gone c_tenant c_event  (fX8_widenBy_14 i1 c_tenants c_events c_gone c_tenant c_event  n) c_room c_sim i2 i3 i4 i5 = some (o_r, o_room, o_sim) := h
    unfold bX8_widenBy_14 at h
    refine j_iload K 5 rfl dX8_widenBy_14 rfl ?_
    refine j_bipush (v := (9 : Int32)) K (by decide) dX8_widenBy_16 rfl ?_
    refine j_icmp_ge (tgt := 62) K dX8_widenBy_18 (by decide) rfl h (fun h => ?_) (fun h => ?_)
    · refine j_aload_n K 0 rfl dX8_widenBy_62 rfl ?_
      refine j_iload_n K 2 rfl dX8_widenBy_63 rfl ?_
      refine j_putf (C := RX8) (T := TX8) (N := 29) (ci := 8) (ty := .int) (ws' := (uX8_widenBy cyI cyJ cyS a0 c_latest c_typed c_tenants i2 c_events c_gone c_sim.1 c_sights c_drawn c_tenant c_event c_sim.2.1 c_sim.2.2.1 c_sim.2.2.2.1 c_sim.2.2.2.2.1 c_sim.2.2.2.2.2.1 c_sim.2.2.2.2.2.2.1 c_sim.2.2.2.2.2.2.2.1 c_sim.2.2.2.2.2.2.2.2.1 c_sim.2.2.2.2.2.2.2.2.2.1 c_sim.2.2.2.2.2.2.2.2.2.2.1 c_sim.2.2.2.2.2.2.2.2.2.2.2)) K icX8 tyX8 tyX8_ok nmX8 0 9 (List.mem_cons_of_mem _ mw_6_5) rfl rfl rfl (by decide) rfl (by decide +kernel) rfl rfl (Nat.le_of_ble_eq_true rfl) rfl dX8_widenBy_64 rfl ?_
      refine j_iload_n K 1 rfl dX8_widenBy_67 rfl ?_
      refine j_if_ne (tgt := 75) K dX8_widenBy_68 (by decide) rfl h (fun h => ?_) (fun h => ?_)
      · refine j_iload_n K 1 rfl dX8_widenBy_75 rfl ?_
        refine j_iconst (v := (1 : Int32)) K (by decide) dX8_widenBy_76 rfl ?_
        refine j_icmp_ne (tgt := 89) K dX8_widenBy_77 (by decide) rfl h (fun h => ?_) (fun h => ?_)
        · refine j_iload K 4 rfl dX8_widenBy_89 rfl ?_
          refine j_sipush (v := (1000 : Int32)) K (by decide) dX8_widenBy_91 rfl ?_
          refine j_irem K (by decide) dX8_widenBy_94 rfl ?_
          obtain ⟨e1, g1⟩ := Prod.mk.inj (Option.some.inj h)
          subst e1
          obtain ⟨e2, g2⟩ := Prod.mk.inj g1
          subst e2
          subst g2
          exact j_iret K dX8_widenBy_95
        · refine j_iload K 4 rfl dX8_widenBy_80 rfl ?_
          refine j_sipush (v := (1000 : Int32)) K (by decide) dX8_widenBy_82 rfl ?_
          refine j_idiv K (by decide) dX8_widenBy_85 rfl ?_
          refine j_goto (pc' := 95) K dX8_widenBy_86 (by decide) ?_
          obtain ⟨e1, g1⟩ := Prod.mk.inj (Option.some.inj h)
          subst e1
          obtain ⟨e2, g2⟩ := Prod.mk.inj g1
          subst e2
          subst g2
          exact j_iret K dX8_widenBy_95
      · refine j_iload_n K 3 rfl dX8_widenBy_71 rfl ?_
        refine j_goto (pc' := 95) K dX8_widenBy_72 (by decide) ?_
        obtain ⟨e1, g1⟩ := Prod.mk.inj (Option.some.inj h)
        subst e1
        obtain ⟨e2, g2⟩ := Prod.mk.inj g1
        subst e2
        subst g2
        exact j_iret K dX8_widenBy_95
    · refine j_aload_n K 0 rfl dX8_widenBy_21 rfl ?_
      refine j_iload K 5 rfl dX8_widenBy_22 rfl ?_
      refine j_putf (C := RX8) (T := TX8) (N := 29) (ci := 8) (ty := .int) (ws' := (uX8_widenBy cyI cyJ cyS a0 c_latest c_typed c_tenants i5 c_events c_gone c_sim.1 c_sights c_drawn c_tenant c_event c_sim.2.1 c_sim.2.2.1 c_sim.2.2.2.1 c_sim.2.2.2.2.1 c_sim.2.2.2.2.2.1 c_sim.2.2.2.2.2.2.1 c_sim.2.2.2.2.2.2.2.1 c_sim.2.2.2.2.2.2.2.2.1 c_sim.2.2.2.2.2.2.2.2.2.1 c_sim.2.2.2.2.2.2.2.2.2.2.1 c_sim.2.2.2.2.2.2.2.2.2.2.2)) K icX8 tyX8 tyX8_ok nmX8 0 9 (List.mem_cons_of_mem _ mw_6_5) rfl rfl rfl (by decide) rfl (by decide +kernel) rfl rfl (Nat.le_of_ble_eq_true rfl) rfl dX8_widenBy_24 rfl ?_
      refine j_aload_n K 0 rfl dX8_widenBy_27 rfl ?_
      obtain ⟨r_1, c_sim_2, hc, h⟩ := bd2_some h
      refine j_callV (rest := []) (st1 := [.int r_1]) (ws' := (uX8_widenBy cyI cyJ cyS a0 c_latest c_typed c_tenants i5 c_events c_gone c_sim_2.1 c_sights c_drawn c_tenant c_event c_sim_2.2.1 c_sim_2.2.2.1 c_sim_2.2.2.2.1 c_sim_2.2.2.2.2.1 c_sim_2.2.2.2.2.2.1 c_sim_2.2.2.2.2.2.2.1 c_sim_2.2.2.2.2.2.2.2.1 c_sim_2.2.2.2.2.2.2.2.2.1 c_sim_2.2.2.2.2.2.2.2.2.2.1 c_sim_2.2.2.2.2.2.2.2.2.2.2.1 c_sim_2.2.2.2.2.2.2.2.2.2.2.2)) (T := TX8) (N := 29) (ci := 8) K (ctX8_cost l D cyI cyJ cyS a0 c_latest c_typed c_sights c_drawn c_tenants i5 c_events c_gone c_tenant c_event c_sim r_1 c_sim_2 hc) (gdV mcL mw_27_2 mw_27_3 mw_27_4 mw_1_5 mw_27_5) rfl ⟨rfl, rfl⟩ hyX8_cost ⟨Nat.le_of_ble_eq_true rfl, Nat.le_of_ble_eq_true rfl, Nat.le_of_ble_eq_true rfl, Nat.le_of_ble_eq_true rfl⟩ [0, 1, 2, 3, 4, 5, 6, 7, 8, 9, 10, 11, 12, 13] (by decide) rfl [some 0, some 1, some 2, some 3, some 4, some 5, some 6, some 7, some 8, some 9, some 10, some 11, some 12, some 13] (by decide) rfl rfl 0 rfl rfl rfl rfl (Nat.le_of_ble_eq_true rfl) dX8_widenBy_28 rfl rfl ?_
      refine j_istore (lv' := [(6, .int r_1), (0, .ref (a0 0)), (1, .int i1), (2, .int i2), (3, .int i3), (4, .int i4), (5, .int i5)]) K (by decide) rfl dX8_widenBy_31 rfl ?_
      refine j_iload K 0 rfl dX8_widenBy_33 rfl ?_
      refine j_iload K 5 rfl dX8_widenBy_35 rfl ?_
      refine j_icmp_ge (tgt := 45) K dX8_widenBy_37 (by decide) rfl h (fun h => ?_) (fun h => ?_)
      · refine j_iload_n K 4 rfl dX8_widenBy_45 rfl ?_
        refine j_sub [1, 2, 3, 5, 6, 0] (lv' := [(0, .ref (a0 0)), (1, .int i1), (2, .int i2), (4, .int i4), (5, .int i5), (6, .int r_1)]) rfl ?_
        exact wX8_widenBy_46 K a0 c_latest c_typed c_sights c_drawn i1 c_tenants c_events c_gone c_tenant c_event o_r o_room o_sim (fX8_widenBy_14 i1 c_tenants c_events c_gone c_tenant c_event n) (fun z0 z1 z2 z3 z4 z5 hq => ih z0 z1 z2 z3 z4 z5 hq) i5 c_sim_2 i2 i4 i5 r_1 i3 h
      · refine j_iload K 6 rfl dX8_widenBy_40 rfl ?_
        refine j_goto (pc' := 46) K dX8_widenBy_42 (by decide) ?_
        refine j_sub [1, 2, 3, 5, 6, 0] (lv' := [(0, .ref (a0 0)), (1, .int i1), (2, .int i2), (4, .int i4), (5, .int i5), (6, .int r_1)]) rfl ?_
        exact wX8_widenBy_46 K a0 c_latest c_typed c_sights c_drawn i1 c_tenants c_events c_gone c_tenant c_event o_r o_room o_sim (fX8_widenBy_14 i1 c_tenants c_events c_gone c_tenant c_event n) (fun z0 z1 z2 z3 z4 z5 hq => ih z0 z1 z2 z3 z4 z5 hq) i5 c_sim_2 i2 i4 i5 r_1 i5 h
set_option maxRecDepth 100000 in
set_option maxHeartbeats 4000000 in
theorem ctX8_widenBy (l : Launch) (D : va_G) (cyI cyJ cyS : ClassId) (a0 : Nat → Nat) (i1 : Int32) (c_latest : Int32) (c_typed : Int32) (c_sights : Int32) (c_drawn : Int32) (c_tenants : Int32) (c_events : Int32) (c_gone : Int32) (c_tenant : Nat → Int32) (c_event : Nat → Int32) (c_room : Int32) (c_sim : jT11) (o_r : Int32) (o_room : Int32) (o_sim : jT11) (h : fX8_widenBy i1 c_tenants c_events c_gone c_tenant c_event c_room c_sim = some (o_r, o_room, o_sim)) : jC l yX8_widenBy wdX8_widenBy rmX8_widenBy D vwCl (tyz cyI cyJ cyS) [.ref (a0 0), .int i1] (uX8_widenBy cyI cyJ cyS a0 c_latest c_typed c_tenants c_room c_events c_gone c_sim.1 c_sights c_drawn c_tenant c_event c_sim.2.1 c_sim.2.2.1 c_sim.2.2.2.1 c_sim.2.2.2.2.1 c_sim.2.2.2.2.2.1 c_sim.2.2.2.2.2.2.1 c_sim.2.2.2.2.2.2.2.1 c_sim.2.2.2.2.2.2.2.2.1 c_sim.2.2.2.2.2.2.2.2.2.1 c_sim.2.2.2.2.2.2.2.2.2.2.1 c_sim.2.2.2.2.2.2.2.2.2.2.2) (some (.int o_r)) (uX8_widenBy cyI cyJ cyS a0 c_latest c_typed c_tenants o_room c_events c_gone o_sim.1 c_sights c_drawn c_tenant c_event o_sim.2.1 o_sim.2.2.1 o_sim.2.2.2.1 o_sim.2.2.2.2.1 o_sim.2.2.2.2.2.1 o_sim.2.2.2.2.2.2.1 o_sim.2.2.2.2.2.2.2.1 o_sim.2.2.2.2.2.2.2.2.1 o_sim.2.2.2.2.2.2.2.2.2.1 o_sim.2.2.2.2.2.2.2.2.2.2.1 o_sim.2.2.2.2.2.2.2.2.2.2.2) := by
  refine jC_of (cc := cX8_widenBy) (nL := 7) (ret := (some .int)) (own := RX8) (lv := [(0, .ref (a0 0)), (1, .int i1)]) (by decide) rfl rfl (Nat.le_of_ble_eq_true rfl) rfl ?_
  intro p e s m args below meth c A K
  unfold fX8_widenBy at h
  refine j_aload_n K 0 rfl dX8_widenBy_0 rfl ?_
  refine j_getf (C := RX8) (T := TX8) (N := 29) (ci := 8) K icX8 0 9 (List.mem_cons_of_mem _ mw_6_5) rfl rfl rfl (by decide) rfl dX8_widenBy_1 rfl ?_
  refine j_istore_n (lv' := [(2, .int c_room), (0, .ref (a0 0)), (1, .int i1)]) K (by decide) rfl dX8_widenBy_4 rfl ?_
  refine j_iconst (v := (-1 : Int32)) K (by decide) dX8_widenBy_5 rfl ?_
  refine j_istore_n (lv' := [(3, .int (-1 : Int32)), (2, .int c_room), (0, .ref (a0 0)), (1, .int i1)]) K (by decide) rfl dX8_widenBy_6 rfl ?_
  refine j_ldc (v := (999999 : Int32)) K (List.mem_cons_of_mem _ mw_27_1) dX8_widenBy_7 rfl ?_
  refine j_istore (lv' := [(4, .int (999999 : Int32)), (3, .int (-1 : Int32)), (2, .int c_room), (0, .ref (a0 0)), (1, .int i1)]) K (by decide) rfl dX8_widenBy_9 rfl ?_
  refine j_iconst (v := (1 : Int32)) K (by decide) dX8_widenBy_11 rfl ?_
  refine j_istore (lv' := [(5, .int (1 : Int32)), (4, .int (999999 : Int32)), (3, .int (-1 : Int32)), (2, .int c_room), (0, .ref (a0 0)), (1, .int i1)]) K (by decide) rfl dX8_widenBy_12 rfl ?_
  refine j_sub [4, 5, 3, 2, 1, 0] (lv' := [(0, .ref (a0 0)), (1, .int i1), (2, .int c_room), (3, .int (-1 : Int32)), (4, .int (999999 : Int32)), (5, .int (1 : Int32))]) rfl ?_
  exact wX8_widenBy_14 K a0 c_latest c_typed c_sights c_drawn i1 c_tenants c_events c_gone c_tenant c_event o_r o_room o_sim jF c_room c_sim c_room (-1 : Int32) (999999 : Int32) (1 : Int32) h
abbrev uX8_widen (cyI cyJ cyS : ClassId) (a0 : Nat → Nat) (c_latest : Int32) (c_typed : Int32) (c_tenants : Int32) (c_room : Int32) (c_events : Int32) (c_gone : Int32) (c_audit : Int32) (c_sights : Int32) (c_drawn : Int32) (c_bytes : Nat → Int32) (c_tenant : Nat → Int32) (c_event : Nat → Int32) (c_floor : Nat → Int32) (c_before : Nat → Int32) (c_left : Nat → Int32) (c_settled : Nat → Int32) (c_fell : Nat → Int32) (c_past : Nat → Int32) (c_highest : Nat → Int32) (c_many : Nat → Int32) (c_floorBy : Nat → Int32) (c_leftBy : Nat → Int32) (c_fellBy : Nat → Int32) : va_W := [((a0 0), .inr (8, [.ref (a0 1), .ref (a0 2), .ref (a0 3), .ref (a0 4), .int c_latest, .ref (a0 5), .int c_typed, .int c_tenants, .ref (a0 6), .int c_room, .int c_events, .ref (a0 7), .int c_gone, .ref (a0 8), .ref (a0 9), .ref (a0 10), .ref (a0 11), .ref (a0 12), .ref (a0 13), .ref (a0 14), .ref (a0 15), .ref (a0 16), .ref (a0 17), .ref (a0 18), .int c_audit, .int c_sights, .ref (a0 19), .ref (a0 20), .int c_drawn])), ((a0 5), .inl (cyI, 31, .inl c_bytes)), ((a0 6), .inl (cyI, 24, .inl c_tenant)), ((a0 7), .inl (cyI, 24, .inl c_event)), ((a0 8), .inl (cyI, 8, .inl c_floor)), ((a0 9), .inl (cyI, 8, .inl c_before)), ((a0 10), .inl (cyI, 8, .inl c_left)), ((a0 11), .inl (cyI, 8, .inl c_settled)), ((a0 12), .inl (cyI, 8, .inl c_fell)), ((a0 13), .inl (cyI, 8, .inl c_past)), ((a0 14), .inl (cyI, 8, .inl c_highest)), ((a0 15), .inl (cyI, 13, .inl c_many)), ((a0 16), .inl (cyI, 192, .inl c_floorBy)), ((a0 17), .inl (cyI, 192, .inl c_leftBy)), ((a0 18), .inl (cyI, 192, .inl c_fellBy))]
abbrev rmX8_widen : Room := { frames := 7, cells := 0, slots := 0, locals := 160 }
abbrev wdX8_widen : List Cond := .code yX8_widen cX8_widen 2 (some .int) :: wsL_law
theorem hyX8_widen : yX8_widen.cls = RX8 ∧ yX8_widen.cls ≠ "java/lang/invoke/MethodHandle" ∧ yX8_widen.cls ≠ "java/lang/invoke/VarHandle" ∧ (parseMethodDescriptor yX8_widen.desc).map (fun d => d.parameters.length) = some 1 := by decide +kernel
set_option maxRecDepth 100000 in
set_option maxHeartbeats 4000000 in
theorem ctX8_widen (l : Launch) (D : va_G) (cyI cyJ cyS : ClassId) (a0 : Nat → Nat) (i1 : Int32) (c_latest : Int32) (c_sights : Int32) (c_drawn : Int32) (c_typed : Int32) (c_events : Int32) (c_gone : Int32) (c_bytes : Nat → Int32) (c_event : Nat → Int32) (c_tenants : Int32) (c_room : Int32) (c_sim : jT11) (c_tenant : Nat → Int32) (o_r : Int32) (o_tenants : Int32) (o_room : Int32) (o_sim : jT11) (o_tenant : Nat → Int32) (h : fX8_widen i1 c_typed c_events c_gone c_bytes c_event c_tenants c_room c_sim c_tenant = some (o_r, o_tenants, o_room, o_sim, o_tenant)) : jC l yX8_widen wdX8_widen rmX8_widen D vwCl (tyz cyI cyJ cyS) [.ref (a0 0), .int i1] (uX8_widen cyI cyJ cyS a0 c_latest c_typed c_tenants c_room c_events c_gone c_sim.1 c_sights c_drawn c_bytes c_tenant c_event c_sim.2.1 c_sim.2.2.1 c_sim.2.2.2.1 c_sim.2.2.2.2.1 c_sim.2.2.2.2.2.1 c_sim.2.2.2.2.2.2.1 c_sim.2.2.2.2.2.2.2.1 c_sim.2.2.2.2.2.2.2.2.1 c_sim.2.2.2.2.2.2.2.2.2.1 c_sim.2.2.2.2.2.2.2.2.2.2.1 c_sim.2.2.2.2.2.2.2.2.2.2.2) (some (.int o_r)) (uX8_widen cyI cyJ cyS a0 c_latest c_typed o_tenants o_room c_events c_gone o_sim.1 c_sights c_drawn c_bytes o_tenant c_event o_sim.2.1 o_sim.2.2.1 o_sim.2.2.2.1 o_sim.2.2.2.2.1 o_sim.2.2.2.2.2.1 o_sim.2.2.2.2.2.2.1 o_sim.2.2.2.2.2.2.2.1 o_sim.2.2.2.2.2.2.2.2.1 o_sim.2.2.2.2.2.2.2.2.2.1 o_sim.2.2.2.2.2.2.2.2.2.2.1 o_sim.2.2.2.2.2.2.2.2.2.2.2) := by
  refine jC_of (cc := cX8_widen) (nL := 2) (ret := (some .int)) (own := RX8) (lv := [(0, .ref (a0 0)), (1, .int i1)]) (by decide) rfl rfl (Nat.le_of_ble_eq_true rfl) rfl ?_
  intro p e s m args below meth c A K
  unfold fX8_widen at h
  refine j_aload_n K 0 rfl dX8_widen_0 rfl ?_
  obtain ⟨c_tenants_1, c_sim_2, c_tenant_3, hc, h⟩ := bd3_some h
  refine j_callV (rest := []) (st1 := []) (ws' := (uX8_widen cyI cyJ cyS a0 c_latest c_typed c_tenants_1 c_room c_events c_gone c_sim_2.1 c_sights c_drawn c_bytes c_tenant_3 c_event c_sim_2.2.1 c_sim_2.2.2.1 c_sim_2.2.2.2.1 c_sim_2.2.2.2.2.1 c_sim_2.2.2.2.2.2.1 c_sim_2.2.2.2.2.2.2.1 c_sim_2.2.2.2.2.2.2.2.1 c_sim_2.2.2.2.2.2.2.2.2.1 c_sim_2.2.2.2.2.2.2.2.2.2.1 c_sim_2.2.2.2.2.2.2.2.2.2.2.1 c_sim_2.2.2.2.2.2.2.2.2.2.2.2)) (T := TX8) (N := 29) (ci := 8) K (ctX8_find l D cyI cyJ cyS a0 c_latest c_sights c_drawn c_typed c_room c_events c_gone c_bytes c_event c_tenants c_sim c_tenant c_tenants_1 c_sim_2 c_tenant_3 hc) (gdV mcL mw_17_12 mw_17_13 mw_17_14 mw_1_5 mw_17_15) rfl ⟨rfl, rfl⟩ hyX8_find ⟨Nat.le_of_ble_eq_true rfl, Nat.le_of_ble_eq_true rfl, Nat.le_of_ble_eq_true rfl, Nat.le_of_ble_eq_true rfl⟩ [0, 1, 2, 3, 4, 5, 6, 7, 8, 9, 10, 11, 12, 13, 14] (by decide) rfl [some 0, some 1, some 2, some 3, some 4, some 5, some 6, some 7, some 8, some 9, some 10, some 11, some 12, some 13, some 14] (by decide) rfl rfl 0 rfl rfl rfl rfl (Nat.le_of_ble_eq_true rfl) dX8_widen_1 rfl rfl ?_
  refine j_iload_n K 1 rfl dX8_widen_4 rfl ?_
  refine j_i2l K dX8_widen_5 rfl ?_
  refine j_lconst (v := (0 : Int64)) K (by decide) dX8_widen_6 rfl ?_
  refine j_ldc2 (v := (2 : Int64)) K (List.mem_cons_of_mem _ mw_10_4) dX8_widen_7 rfl ?_
  obtain ⟨r_4, hc, h⟩ := bd1_some h
  refine j_callS (rest := []) (st1 := [.int r_4]) (ws' := (uX8_widen cyI cyJ cyS a0 c_latest c_typed c_tenants_1 c_room c_events c_gone c_sim_2.1 c_sights c_drawn c_bytes c_tenant_3 c_event c_sim_2.2.1 c_sim_2.2.2.1 c_sim_2.2.2.2.1 c_sim_2.2.2.2.2.1 c_sim_2.2.2.2.2.2.1 c_sim_2.2.2.2.2.2.2.1 c_sim_2.2.2.2.2.2.2.2.1 c_sim_2.2.2.2.2.2.2.2.2.1 c_sim_2.2.2.2.2.2.2.2.2.2.1 c_sim_2.2.2.2.2.2.2.2.2.2.2.1 c_sim_2.2.2.2.2.2.2.2.2.2.2.2)) K (ctX8_in l D cyI cyJ cyS (Int32.toInt64 i1) (0 : Int64) (2 : Int64) r_4 hc) (gdS mcL mw_7_22 mw_7_23 mw_1_5 mw_8_0) rfl ⟨rfl, rfl⟩ hzX8_in ⟨Nat.le_of_ble_eq_true rfl, Nat.le_of_ble_eq_true rfl, Nat.le_of_ble_eq_true rfl, Nat.le_of_ble_eq_true rfl⟩ [] (by decide) rfl [none, none, none, none, none, none, none, none, none, none, none, none, none, none, none] (by decide) rfl rfl rfl rfl (Nat.le_of_ble_eq_true rfl) dX8_widen_10 rfl rfl ?_
  refine j_if_eq (tgt := 24) K dX8_widen_13 (by decide) rfl h (fun h => ?_) (fun h => ?_)
  · refine j_bipush (v := (-2 : Int32)) K (by decide) dX8_widen_24 rfl ?_
    obtain ⟨e1, g1⟩ := Prod.mk.inj (Option.some.inj h)
    subst e1
    obtain ⟨e2, g2⟩ := Prod.mk.inj g1
    subst e2
    obtain ⟨e3, g3⟩ := Prod.mk.inj g2
    subst e3
    obtain ⟨e4, g4⟩ := Prod.mk.inj g3
    subst e4
    subst g4
    exact j_iret K dX8_widen_26
  · refine j_aload_n K 0 rfl dX8_widen_16 rfl ?_
    refine j_iload_n K 1 rfl dX8_widen_17 rfl ?_
    obtain ⟨r_5, c_room_6, c_sim_7, hc, h⟩ := bd3_some h
    refine j_callV (rest := []) (st1 := [.int r_5]) (ws' := (uX8_widen cyI cyJ cyS a0 c_latest c_typed c_tenants_1 c_room_6 c_events c_gone c_sim_7.1 c_sights c_drawn c_bytes c_tenant_3 c_event c_sim_7.2.1 c_sim_7.2.2.1 c_sim_7.2.2.2.1 c_sim_7.2.2.2.2.1 c_sim_7.2.2.2.2.2.1 c_sim_7.2.2.2.2.2.2.1 c_sim_7.2.2.2.2.2.2.2.1 c_sim_7.2.2.2.2.2.2.2.2.1 c_sim_7.2.2.2.2.2.2.2.2.2.1 c_sim_7.2.2.2.2.2.2.2.2.2.2.1 c_sim_7.2.2.2.2.2.2.2.2.2.2.2)) (T := TX8) (N := 29) (ci := 8) K (ctX8_widenBy l D cyI cyJ cyS a0 i1 c_latest c_typed c_sights c_drawn c_tenants_1 c_events c_gone c_tenant_3 c_event c_room c_sim_2 r_5 c_room_6 c_sim_7 hc) (gdV mcL mw_28_6 mw_28_7 mw_28_8 mw_1_5 mw_28_9) rfl ⟨rfl, rfl⟩ hyX8_widenBy ⟨Nat.le_of_ble_eq_true rfl, Nat.le_of_ble_eq_true rfl, Nat.le_of_ble_eq_true rfl, Nat.le_of_ble_eq_true rfl⟩ [0, 2, 3, 4, 5, 6, 7, 8, 9, 10, 11, 12, 13, 14] (by decide) rfl [some 0, none, some 1, some 2, some 3, some 4, some 5, some 6, some 7, some 8, some 9, some 10, some 11, some 12, some 13] (by decide) rfl rfl 0 rfl rfl rfl rfl (Nat.le_of_ble_eq_true rfl) dX8_widen_18 rfl rfl ?_
    refine j_goto (pc' := 26) K dX8_widen_21 (by decide) ?_
    obtain ⟨e1, g1⟩ := Prod.mk.inj (Option.some.inj h)
    subst e1
    obtain ⟨e2, g2⟩ := Prod.mk.inj g1
    subst e2
    obtain ⟨e3, g3⟩ := Prod.mk.inj g2
    subst e3
    obtain ⟨e4, g4⟩ := Prod.mk.inj g3
    subst e4
    subst g4
    exact j_iret K dX8_widen_26
end GEN
