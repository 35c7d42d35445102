section GEN
variable {p : Program} {l : Launch} {e : Env} {s : State} {m : MethodId} {args : Array Value} {below : List Frame} {meth : Method} {c : Code} {A : Nat → Prop} {D : va_G} {cyI cyJ cyS : ClassId}
abbrev uX8_spareBy (cyI cyJ cyS : ClassId) (a0 : Nat → Nat) (c_latest : Int32) (c_typed : Int32) (c_tenants : Int32) (c_room : Int32) (c_events : Int32) (c_gone : Int32) (c_audit : Int32) (c_sights : Int32) (c_drawn : Int32) (c_tenant : Nat → Int32) (c_event : Nat → Int32) (c_floor : Nat → Int32) (c_before : Nat → Int32) (c_left : Nat → Int32) (c_settled : Nat → Int32) (c_fell : Nat → Int32) (c_past : Nat → Int32) (c_highest : Nat → Int32) (c_many : Nat → Int32) (c_floorBy : Nat → Int32) (c_leftBy : Nat → Int32) (c_fellBy : Nat → Int32) : va_W := [((a0 0), .inr (8, [.ref (a0 1), .ref (a0 2), .ref (a0 3), .ref (a0 4), .int c_latest, .ref (a0 5), .int c_typed, .int c_tenants, .ref (a0 6), .int c_room, .int c_events, .ref (a0 7), .int c_gone, .ref (a0 8), .ref (a0 9), .ref (a0 10), .ref (a0 11), .ref (a0 12), .ref (a0 13), .ref (a0 14), .ref (a0 15), .ref (a0 16), .ref (a0 17), .ref (a0 18), .int c_audit, .int c_sights, .ref (a0 19), .ref (a0 20), .int c_drawn])), ((a0 6), .inl (cyI, 24, .inl c_tenant)), ((a0 7), .inl (cyI, 24, .inl c_event)), ((a0 8), .inl (cyI, 8, .inl c_floor)), ((a0 9), .inl (cyI, 8, .inl c_before)), ((a0 10), .inl (cyI, 8, .inl c_left)), ((a0 11), .inl (cyI, 8, .inl c_settled)), ((a0 12), .inl (cyI, 8, .inl c_fell)), ((a0 13), .inl (cyI, 8, .inl c_past)), ((a0 14), .inl (cyI, 8, .inl c_highest)), ((a0 15), .inl (cyI, 13, .inl c_many)), ((a0 16), .inl (cyI, 192, .inl c_floorBy)), ((a0 17), .inl (cyI, 192, .inl c_leftBy)), ((a0 18), .inl (cyI, 192, .inl c_fellBy))]
abbrev rmX8_spareBy : Room := { frames := 6, cells := 0, slots := 0, locals := 135 }
abbrev wdX8_spareBy : List Cond := .code yX8_spareBy cX8_spareBy 4 (some .int) :: wsL_law
theorem hyX8_spareBy : yX8_spareBy.cls = RX8 ∧ yX8_spareBy.cls ≠ "java/lang/invoke/MethodHandle" ∧ yX8_spareBy.cls ≠ "java/lang/invoke/VarHandle" ∧ (parseMethodDescriptor yX8_spareBy.desc).map (fun d => d.parameters.length) = some 1 := by decide +kernel
set_option maxRecDepth 100000 in
set_option maxHeartbeats 4000000 in
theorem wX8_spareBy_78 (K : jK p s m args meth c A D vwCl (tyz cyI cyJ cyS) cX8_spareBy 4 RX8 wdX8_spareBy (some .int)) (a0 : Nat → Nat) (c_latest : Int32) (c_typed : Int32) (c_sights : Int32) (c_drawn : Int32) (i1 : Int32) (c_tenants : Int32) (c_room : Int32) (c_events : Int32) (c_tenant : Nat → Int32) (c_event : Nat → Int32) (o_r : Int32) (o_gone : Int32) (o_sim : jT11)  (q_66 : Int32 → jT11 → Int32 → (Option (Int32 × Int32 × jT11))) (hq_66 : ∀ (c_gone : Int32) (c_sim : jT11) (i2 : Int32), q_66 c_gone c_sim i2 = some (o_r, o_gone, o_sim) → jw p l e rmX8_spareBy s m args below meth c (jQ below args s A D vwCl (tyz cyI cyJ cyS) 0 0 (some (.int o_r)) (uX8_spareBy cyI cyJ cyS a0 c_latest c_typed c_tenants c_room c_events o_gone o_sim.1 c_sights c_drawn c_tenant c_event o_sim.2.1 o_sim.2.2.1 o_sim.2.2.2.1 o_sim.2.2.2.2.1 o_sim.2.2.2.2.2.1 o_sim.2.2.2.2.2.2.1 o_sim.2.2.2.2.2.2.2.1 o_sim.2.2.2.2.2.2.2.2.1 o_sim.2.2.2.2.2.2.2.2.2.1 o_sim.2.2.2.2.2.2.2.2.2.2.1 o_sim.2.2.2.2.2.2.2.2.2.2.2)) A D vwCl 4 0 0 66 [(0, .ref (a0 0)), (1, .int i1), (2, .int i2)] [] (uX8_spareBy cyI cyJ cyS a0 c_latest c_typed c_tenants c_room c_events c_gone c_sim.1 c_sights c_drawn c_tenant c_event c_sim.2.1 c_sim.2.2.1 c_sim.2.2.2.1 c_sim.2.2.2.2.1 c_sim.2.2.2.2.2.1 c_sim.2.2.2.2.2.2.1 c_sim.2.2.2.2.2.2.2.1 c_sim.2.2.2.2.2.2.2.2.1 c_sim.2.2.2.2.2.2.2.2.2.1 c_sim.2.2.2.2.2.2.2.2.2.2.1 c_sim.2.2.2.2.2.2.2.2.2.2.2)) : ∀ (n : Nat) (c_gone : Int32) (c_sim : jT11) (i2 : Int32) (i3 : Int32), fX8_spareBy_78 i1 c_tenants c_room c_events c_tenant c_event q_66 n c_gone c_sim i2 i3 = some (o_r, o_gone, o_sim) → jw p l e rmX8_spareBy s m args below meth c (jQ below args s A D vwCl (tyz cyI cyJ cyS) 0 0 (some (.int o_r)) (uX8_spareBy cyI cyJ cyS a0 c_latest c_typed c_tenants c_room c_events o_gone o_sim.1 c_sights c_drawn c_tenant c_event o_sim.2.1 o_sim.2.2.1 o_sim.2.2.2.1 o_sim.2.2.2.2.1 o_sim.2.2.2.2.2.1 o_sim.2.2.2.2.2.2.1 o_sim.2.2.2.2.2.2.2.1 o_sim.2.2.2.2.2.2.2.2.1 o_sim.2.2.2.2.2.2.2.2.2.1 o_sim.2.2.2.2.2.2.2.2.2.2.1 o_sim.2.2.2.2.2.2.2.2.2.2.2)) A D vwCl 4 0 0 78 [(0, .ref (a0 0)), (1, .int i1), (2, .int i2), (3, .int i3)] [] (uX8_spareBy cyI cyJ cyS a0 c_latest c_typed c_tenants c_room c_events c_gone c_sim.1 c_sights c_drawn c_tenant c_event c_sim.2.1 c_sim.2.2.1 c_sim.2.2.2.1 c_sim.2.2.2.2.1 c_sim.2.2.2.2.2.1 c_sim.2.2.2.2.2.2.1 c_sim.2.2.2.2.2.2.2.1 c_sim.2.2.2.2.2.2.2.2.1 c_sim.2.2.2.2.2.2.2.2.2.1 c_sim.2.2.2.2.2.2.2.2.2.2.1 c_sim.2.2.2.2.2.2.2.2.2.2.2) := by
  intro n
  induction n with
  | zero => intro c_gone c_sim i2 i3 h; cases h
  | succ n ih =>
    intro c_gone c_sim i2 i3 h
    have h : bX8_spareBy_78 i1 c_tenants c_room c_events c_tenant c_event q_66 (fX8_spareBy_78 i1 c_tenants c_room c_events c_tenant c_event q_66 n) c_gone c_sim i2 i3 = some (o_r, o_gone, o_sim) := h
    unfold bX8_spareBy_78 at h
    refine j_iload_n K 3 rfl dX8_spareBy_78 rfl ?_
    refine j_aload_n K 0 rfl dX8_spareBy_79 rfl ?_
    refine j_getf (C := RX8) (T := TX8) (N := 29) (ci := 8) K icX8 0 10 (List.mem_cons_of_mem _ mw_11_13) rfl rfl rfl (by decide) rfl dX8_spareBy_80 rfl ?_
    refine j_icmp_ge (tgt := 125) K dX8_spareBy_83 (by decide) rfl h (fun h => ?_) (fun h => ?_)
    · refine j_iincN (lf := fun z => [(2, .int z), (0, .ref (a0 0)), (1, .int i1), (3, .int i3)]) K (v := i2 + (1 : Int32)) (k := 2) rfl rfl (by decide) (fun _ => rfl) dX8_spareBy_125 rfl h (fun i2_5 h => ?_)
      refine j_goto (pc' := 66) K dX8_spareBy_128 (by decide) ?_
      refine j_sub [1, 2, 0] (lv' := [(0, .ref (a0 0)), (1, .int i1), (2, .int i2_5)]) rfl ?_
      exact hq_66 c_gone c_sim i2_5 h
    · refine j_aload_n K 0 rfl dX8_spareBy_86 rfl ?_
      refine j_iconst (v := (1 : Int32)) K (by decide) dX8_spareBy_87 rfl ?_
      refine j_iload_n K 2 rfl dX8_spareBy_88 rfl ?_
      refine j_ishl K dX8_spareBy_89 rfl ?_
      refine j_iconst (v := (1 : Int32)) K (by decide) dX8_spareBy_90 rfl ?_
      refine j_iload_n K 3 rfl dX8_spareBy_91 rfl ?_
      refine j_ishl K dX8_spareBy_92 rfl ?_
      refine j_ior K dX8_spareBy_93 rfl ?_
      obtain ⟨r_6, c_gone_7, c_sim_8, hc, h⟩ := bd3_some h
      refine j_callV (rest := []) (st1 := [.int r_6]) (ws' := (uX8_spareBy cyI cyJ cyS a0 c_latest c_typed c_tenants c_room c_events c_gone_7 c_sim_8.1 c_sights c_drawn c_tenant c_event c_sim_8.2.1 c_sim_8.2.2.1 c_sim_8.2.2.2.1 c_sim_8.2.2.2.2.1 c_sim_8.2.2.2.2.2.1 c_sim_8.2.2.2.2.2.2.1 c_sim_8.2.2.2.2.2.2.2.1 c_sim_8.2.2.2.2.2.2.2.2.1 c_sim_8.2.2.2.2.2.2.2.2.2.1 c_sim_8.2.2.2.2.2.2.2.2.2.2.1 c_sim_8.2.2.2.2.2.2.2.2.2.2.2)) (T := TX8) (N := 29) (ci := 8) K (ctX8_isSpared l D cyI cyJ cyS a0 (((1 : Int32) <<< (i2 &&& (31 : Int32))) ||| ((1 : Int32) <<< (i3 &&& (31 : Int32)))) c_latest c_typed c_sights c_drawn c_tenants c_room c_events c_tenant c_event c_gone c_sim r_6 c_gone_7 c_sim_8 hc) (gdV mcL mw_29_13 mw_29_14 mw_29_15 mw_1_5 mw_29_16) rfl ⟨rfl, rfl⟩ hyX8_isSpared ⟨Nat.le_of_ble_eq_true rfl, Nat.le_of_ble_eq_true rfl, Nat.le_of_ble_eq_true rfl, Nat.le_of_ble_eq_true rfl⟩ [0, 1, 2, 3, 4, 5, 6, 7, 8, 9, 10, 11, 12, 13] (by decide) rfl [some 0, some 1, some 2, some 3, some 4, some 5, some 6, some 7, some 8, some 9, some 10, some 11, some 12, some 13] (by decide) rfl rfl 0 rfl rfl rfl rfl (Nat.le_of_ble_eq_true rfl) dX8_spareBy_94 rfl rfl ?_
      refine j_if_eq (tgt := 119) K dX8_spareBy_97 (by decide) rfl h (fun h => ?_) (fun h => ?_)
      · refine j_iincN (lf := fun z => [(3, .int z), (0, .ref (a0 0)), (1, .int i1), (2, .int i2)]) K (v := i3 + (1 : Int32)) (k := 3) rfl rfl (by decide) (fun _ => rfl) dX8_spareBy_119 rfl h (fun i3_9 h => ?_)
        refine j_goto (pc' := 78) K dX8_spareBy_122 (by decide) ?_
        refine j_sub [1, 2, 3, 0] (lv' := [(0, .ref (a0 0)), (1, .int i1), (2, .int i2), (3, .int i3_9)]) rfl ?_
        exact ih c_gone_7 c_sim_8 i2 i3_9 h
      · refine j_iload_n K 1 rfl dX8_spareBy_100 rfl ?_
        refine j_iconst (v := (-1 : Int32)) K (by decide) dX8_spareBy_101 rfl ?_
        refine j_icmp_ne (tgt := 109) K dX8_spareBy_102 (by decide) rfl h (fun h => ?_) (fun h => ?_)
        · refine j_iload_n K 1 rfl dX8_spareBy_109 rfl ?_
          refine j_if_ne (tgt := 117) K dX8_spareBy_110 (by decide) rfl h (fun h => ?_) (fun h => ?_)
          · refine j_iload_n K 3 rfl dX8_spareBy_117 rfl ?_
            obtain ⟨e1, g1⟩ := Prod.mk.inj (Option.some.inj h)
            subst e1
            obtain ⟨e2, g2⟩ := Prod.mk.inj g1
            subst e2
            subst g2
            exact j_iret K dX8_spareBy_118
          · refine j_iload_n K 2 rfl dX8_spareBy_113 rfl ?_
            refine j_goto (pc' := 118) K dX8_spareBy_114 (by decide) ?_
            obtain ⟨e1, g1⟩ := Prod.mk.inj (Option.some.inj h)
            subst e1
            obtain ⟨e2, g2⟩ := Prod.mk.inj g1
            subst e2
            subst g2
            exact j_iret K dX8_spareBy_118
        · refine j_iconst (v := (2 : Int32)) K (by decide) dX8_spareBy_105 rfl ?_
          refine j_goto (pc' := 118) K dX8_spareBy_106 (by decide) ?_
          obtain ⟨e1, g1⟩ := Prod.mk.inj (Option.some.inj h)
          subst e1
          obtain ⟨e2, g2⟩ := Prod.mk.inj g1
          subst e2
          subst g2
          exact j_iret K dX8_spareBy_118
set_option maxRecDepth 100000 in
set_option maxHeartbeats 4000000 in
theorem wX8_spareBy_66 (K : jK p s m args meth c A D vwCl (tyz cyI cyJ cyS) cX8_spareBy 4 RX8 wdX8_spareBy (some .int)) (a0 : Nat → Nat) (c_latest : Int32) (c_typed : Int32) (c_sights : Int32) (c_drawn : Int32) (i1 : Int32) (c_tenants : Int32) (c_room : Int32) (c_events : Int32) (c_tenant : Nat → Int32) (c_event : Nat → Int32) (o_r : Int32) (o_gone : Int32) (o_sim : jT11)   : ∀ (n : Nat) (c_gone : Int32) (c_sim : jT11) (i2 : Int32), fX8_spareBy_66 i1 c_tenants c_room c_events c_tenant c_event  n c_gone c_sim i2 = some (o_r, o_gone, o_sim) → jw p l e rmX8_spareBy s m args below meth c (jQ below args s A D vwCl (tyz cyI cyJ cyS) 0 0 (some (.int o_r)) (uX8_spareBy cyI cyJ cyS a0 c_latest c_typed c_tenants c_room c_events o_gone o_sim.1 c_sights c_drawn c_tenant c_event o_sim.2.1 o_sim.2.2.1 o_sim.2.2.2.1 o_sim.2.2.2.2.1 o_sim.2.2.2.2.2.1 o_sim.2.2.2.2.2.2.1 o_sim.2.2.2.2.2.2.2.1 o_sim.2.2.2.2.2.2.2.2.1 o_sim.2.2.2.2.2.2.2.2.2.1 o_sim.2.2.2.2.2.2.2.2.2.2.1 o_sim.2.2.2.2.2.2.2.2.2.2.2)) A D vwCl 4 0 0 66 [(0, .ref (a0 0)), (1, .int i1), (2, .int i2)] [] (uX8_spareBy cyI cyJ cyS a0 c_latest c_typed c_tenants c_room c_events c_gone c_sim.1 c_sights c_drawn c_tenant c_event c_sim.2.1 c_sim.2.2.1 c_sim.2.2.2.1 c_sim.2.2.2.2.1 c_sim.2.2.2.2.2.1 c_sim.2.2.2.2.2.2.1 c_sim.2.2.2.2.2.2.2.1 c_sim.2.2.2.2.2.2.2.2.1 c_sim.2.2.2.2.2.2.2.2.2.1 c_sim.2.2.2.2.2.2.2.2.2.2.1 c_sim.2.2.2.2.2.2.2.2.2.2.2) := by
  intro n
  induction n with
  | zero => intro c_gone c_sim i2 h; cases h
  | succ n ih =>
    intro c_gone c_sim i2 h
    have h : bX8_spareBy_66 i1 c_tenants c_room c_events c_tenant c_event  (fX8_spareBy_66 i1 c_tenants c_room c_events c_tenant c_event  n) c_gone c_sim i2 = some (o_r, o_gone, o_sim) := h
    unfold bX8_spareBy_66 at h
    refine j_iload_n K 2 rfl dX8_spareBy_66 rfl ?_
    refine j_aload_n K 0 rfl dX8_spareBy_67 rfl ?_
    refine j_getf (C := RX8) (T := TX8) (N := 29) (ci := 8) K icX8 0 10 (List.mem_cons_of_mem _ mw_11_13) rfl rfl rfl (by decide) rfl dX8_spareBy_68 rfl ?_
    refine j_icmp_ge (tgt := 131) K dX8_spareBy_71 (by decide) rfl h (fun h => ?_) (fun h => ?_)
    · refine j_iconst (v := (-1 : Int32)) K (by decide) dX8_spareBy_131 rfl ?_
      obtain ⟨e1, g1⟩ := Prod.mk.inj (Option.some.inj h)
      subst e1
      obtain ⟨e2, g2⟩ := Prod.mk.inj g1
      subst e2
      subst g2
      exact j_iret K dX8_spareBy_132
    · refine j_iload_n K 2 rfl dX8_spareBy_74 rfl ?_
      refine j_iconst (v := (1 : Int32)) K (by decide) dX8_spareBy_75 rfl ?_
      refine j_iadd K dX8_spareBy_76 rfl ?_
      refine j_nmI h (fun i3_4 h => ?_)
      refine j_istore_n (lv' := [(3, .int i3_4), (0, .ref (a0 0)), (1, .int i1), (2, .int i2)]) K (by decide) rfl dX8_spareBy_77 rfl ?_
      refine j_sub [1, 2, 3, 0] (lv' := [(0, .ref (a0 0)), (1, .int i1), (2, .int i2), (3, .int i3_4)]) rfl ?_
      exact wX8_spareBy_78 K a0 c_latest c_typed c_sights c_drawn i1 c_tenants c_room c_events c_tenant c_event o_r o_gone o_sim (fX8_spareBy_66 i1 c_tenants c_room c_events c_tenant c_event n) (fun z0 z1 z2 hq => ih z0 z1 z2 hq) jF c_gone c_sim i2 i3_4 h
set_option maxRecDepth 100000 in
set_option maxHeartbeats 4000000 in
theorem wX8_spareBy_21 (K : jK p s m args meth c A D vwCl (tyz cyI cyJ cyS) cX8_spareBy 4 RX8 wdX8_spareBy (some .int)) (a0 : Nat → Nat) (c_latest : Int32) (c_typed : Int32) (c_sights : Int32) (c_drawn : Int32) (i1 : Int32) (c_tenants : Int32) (c_room : Int32) (c_events : Int32) (c_tenant : Nat → Int32) (c_event : Nat → Int32) (o_r : Int32) (o_gone : Int32) (o_sim : jT11)   : ∀ (n : Nat) (c_gone : Int32) (c_sim : jT11) (i2 : Int32), fX8_spareBy_21 i1 c_tenants c_room c_events c_tenant c_event  n c_gone c_sim i2 = some (o_r, o_gone, o_sim) → jw p l e rmX8_spareBy s m args below meth c (jQ below args s A D vwCl (tyz cyI cyJ cyS) 0 0 (some (.int o_r)) (uX8_spareBy cyI cyJ cyS a0 c_latest c_typed c_tenants c_room c_events o_gone o_sim.1 c_sights c_drawn c_tenant c_event o_sim.2.1 o_sim.2.2.1 o_sim.2.2.2.1 o_sim.2.2.2.2.1 o_sim.2.2.2.2.2.1 o_sim.2.2.2.2.2.2.1 o_sim.2.2.2.2.2.2.2.1 o_sim.2.2.2.2.2.2.2.2.1 o_sim.2.2.2.2.2.2.2.2.2.1 o_sim.2.2.2.2.2.2.2.2.2.2.1 o_sim.2.2.2.2.2.2.2.2.2.2.2)) A D vwCl 4 0 0 21 [(0, .ref (a0 0)), (1, .int i1), (2, .int i2)] [] (uX8_spareBy cyI cyJ cyS a0 c_latest c_typed c_tenants c_room c_events c_gone c_sim.1 c_sights c_drawn c_tenant c_event c_sim.2.1 c_sim.2.2.1 c_sim.2.2.2.1 c_sim.2.2.2.2.1 c_sim.2.2.2.2.2.1 c_sim.2.2.2.2.2.2.1 c_sim.2.2.2.2.2.2.2.1 c_sim.2.2.2.2.2.2.2.2.1 c_sim.2.2.2.2.2.2.2.2.2.1 c_sim.2.2.2.2.2.2.2.2.2.2.1 c_sim.2.2.2.2.2.2.2.2.2.2.2) := by
  intro n
  induction n with
  | zero => intro c_gone c_sim i2 h; cases h
  | succ n ih =>
    intro c_gone c_sim i2 h
    have h : bX8_spareBy_21 i1 c_tenants c_room c_events c_tenant c_event  (fX8_spareBy_21 i1 c_tenants c_room c_events c_tenant c_event  n) c_gone c_sim i2 = some (o_r, o_gone, o_sim) := h
    unfold bX8_spareBy_21 at h
    refine j_iload_n K 2 rfl dX8_spareBy_21 rfl ?_
    refine j_aload_n K 0 rfl dX8_spareBy_22 rfl ?_
    refine j_getf (C := RX8) (T := TX8) (N := 29) (ci := 8) K icX8 0 10 (List.mem_cons_of_mem _ mw_11_13) rfl rfl rfl (by decide) rfl dX8_spareBy_23 rfl ?_
    refine j_icmp_ge (tgt := 64) K dX8_spareBy_26 (by decide) rfl h (fun h => ?_) (fun h => ?_)
    · refine j_iconst (v := (0 : Int32)) K (by decide) dX8_spareBy_64 rfl ?_
      refine j_istore_n (lv' := [(2, .int (0 : Int32)), (0, .ref (a0 0)), (1, .int i1)]) K (by decide) rfl dX8_spareBy_65 rfl ?_
      refine j_sub [1, 2, 0] (lv' := [(0, .ref (a0 0)), (1, .int i1), (2, .int (0 : Int32))]) rfl ?_
      exact wX8_spareBy_66 K a0 c_latest c_typed c_sights c_drawn i1 c_tenants c_room c_events c_tenant c_event o_r o_gone o_sim jF c_gone c_sim (0 : Int32) h
    · refine j_aload_n K 0 rfl dX8_spareBy_29 rfl ?_
      refine j_iconst (v := (1 : Int32)) K (by decide) dX8_spareBy_30 rfl ?_
      refine j_iload_n K 2 rfl dX8_spareBy_31 rfl ?_
      refine j_ishl K dX8_spareBy_32 rfl ?_
      obtain ⟨r_10, c_gone_11, c_sim_12, hc, h⟩ := bd3_some h
      refine j_callV (rest := []) (st1 := [.int r_10]) (ws' := (uX8_spareBy cyI cyJ cyS a0 c_latest c_typed c_tenants c_room c_events c_gone_11 c_sim_12.1 c_sights c_drawn c_tenant c_event c_sim_12.2.1 c_sim_12.2.2.1 c_sim_12.2.2.2.1 c_sim_12.2.2.2.2.1 c_sim_12.2.2.2.2.2.1 c_sim_12.2.2.2.2.2.2.1 c_sim_12.2.2.2.2.2.2.2.1 c_sim_12.2.2.2.2.2.2.2.2.1 c_sim_12.2.2.2.2.2.2.2.2.2.1 c_sim_12.2.2.2.2.2.2.2.2.2.2.1 c_sim_12.2.2.2.2.2.2.2.2.2.2.2)) (T := TX8) (N := 29) (ci := 8) K (ctX8_isSpared l D cyI cyJ cyS a0 ((1 : Int32) <<< (i2 &&& (31 : Int32))) c_latest c_typed c_sights c_drawn c_tenants c_room c_events c_tenant c_event c_gone c_sim r_10 c_gone_11 c_sim_12 hc) (gdV mcL mw_29_13 mw_29_14 mw_29_15 mw_1_5 mw_29_16) rfl ⟨rfl, rfl⟩ hyX8_isSpared ⟨Nat.le_of_ble_eq_true rfl, Nat.le_of_ble_eq_true rfl, Nat.le_of_ble_eq_true rfl, Nat.le_of_ble_eq_true rfl⟩ [0, 1, 2, 3, 4, 5, 6, 7, 8, 9, 10, 11, 12, 13] (by decide) rfl [some 0, some 1, some 2, some 3, some 4, some 5, some 6, some 7, some 8, some 9, some 10, some 11, some 12, some 13] (by decide) rfl rfl 0 rfl rfl rfl rfl (Nat.le_of_ble_eq_true rfl) dX8_spareBy_33 rfl rfl ?_
      refine j_if_eq (tgt := 58) K dX8_spareBy_36 (by decide) rfl h (fun h => ?_) (fun h => ?_)
      · refine j_iincN (lf := fun z => [(2, .int z), (0, .ref (a0 0)), (1, .int i1)]) K (v := i2 + (1 : Int32)) (k := 2) rfl rfl (by decide) (fun _ => rfl) dX8_spareBy_58 rfl h (fun i2_13 h => ?_)
        refine j_goto (pc' := 21) K dX8_spareBy_61 (by decide) ?_
        refine j_sub [1, 2, 0] (lv' := [(0, .ref (a0 0)), (1, .int i1), (2, .int i2_13)]) rfl ?_
        exact ih c_gone_11 c_sim_12 i2_13 h
      · refine j_iload_n K 1 rfl dX8_spareBy_39 rfl ?_
        refine j_iconst (v := (-1 : Int32)) K (by decide) dX8_spareBy_40 rfl ?_
        refine j_icmp_ne (tgt := 48) K dX8_spareBy_41 (by decide) rfl h (fun h => ?_) (fun h => ?_)
        · refine j_iload_n K 1 rfl dX8_spareBy_48 rfl ?_
          refine j_if_ne (tgt := 56) K dX8_spareBy_49 (by decide) rfl h (fun h => ?_) (fun h => ?_)
          · refine j_iconst (v := (-1 : Int32)) K (by decide) dX8_spareBy_56 rfl ?_
            obtain ⟨e1, g1⟩ := Prod.mk.inj (Option.some.inj h)
            subst e1
            obtain ⟨e2, g2⟩ := Prod.mk.inj g1
            subst e2
            subst g2
            exact j_iret K dX8_spareBy_57
          · refine j_iload_n K 2 rfl dX8_spareBy_52 rfl ?_
            refine j_goto (pc' := 57) K dX8_spareBy_53 (by decide) ?_
            obtain ⟨e1, g1⟩ := Prod.mk.inj (Option.some.inj h)
            subst e1
            obtain ⟨e2, g2⟩ := Prod.mk.inj g1
            subst e2
            subst g2
            exact j_iret K dX8_spareBy_57
        · refine j_iconst (v := (1 : Int32)) K (by decide) dX8_spareBy_44 rfl ?_
          refine j_goto (pc' := 57) K dX8_spareBy_45 (by decide) ?_
          obtain ⟨e1, g1⟩ := Prod.mk.inj (Option.some.inj h)
          subst e1
          obtain ⟨e2, g2⟩ := Prod.mk.inj g1
          subst e2
          subst g2
          exact j_iret K dX8_spareBy_57
set_option maxRecDepth 100000 in
set_option maxHeartbeats 4000000 in
theorem ctX8_spareBy (l : Launch) (D : va_G) (cyI cyJ cyS : ClassId) (a0 : Nat → Nat) (i1 : Int32) (c_latest : Int32) (c_typed : Int32) (c_sights : Int32) (c_drawn : Int32) (c_tenants : Int32) (c_room : Int32) (c_events : Int32) (c_tenant : Nat → Int32) (c_event : Nat → Int32) (c_gone : Int32) (c_sim : jT11) (o_r : Int32) (o_gone : Int32) (o_sim : jT11) (h : fX8_spareBy i1 c_tenants c_room c_events c_tenant c_event c_gone c_sim = some (o_r, o_gone, o_sim)) : jC l yX8_spareBy wdX8_spareBy rmX8_spareBy D vwCl (tyz cyI cyJ cyS) [.ref (a0 0), .int i1] (uX8_spareBy cyI cyJ cyS a0 c_latest c_typed c_tenants c_room c_events c_gone c_sim.1 c_sights c_drawn c_tenant c_event c_sim.2.1 c_sim.2.2.1 c_sim.2.2.2.1 c_sim.2.2.2.2.1 c_sim.2.2.2.2.2.1 c_sim.2.2.2.2.2.2.1 c_sim.2.2.2.2.2.2.2.1 c_sim.2.2.2.2.2.2.2.2.1 c_sim.2.2.2.2.2.2.2.2.2.1 c_sim.2.2.2.2.2.2.2.2.2.2.1 c_sim.2.2.2.2.2.2.2.2.2.2.2) (some (.int o_r)) (uX8_spareBy cyI cyJ cyS a0 c_latest c_typed c_tenants c_room c_events o_gone o_sim.1 c_sights c_drawn c_tenant c_event o_sim.2.1 o_sim.2.2.1 o_sim.2.2.2.1 o_sim.2.2.2.2.1 o_sim.2.2.2.2.2.1 o_sim.2.2.2.2.2.2.1 o_sim.2.2.2.2.2.2.2.1 o_sim.2.2.2.2.2.2.2.2.1 o_sim.2.2.2.2.2.2.2.2.2.1 o_sim.2.2.2.2.2.2.2.2.2.2.1 o_sim.2.2.2.2.2.2.2.2.2.2.2) := by
  refine jC_of (cc := cX8_spareBy) (nL := 4) (ret := (some .int)) (own := RX8) (lv := [(0, .ref (a0 0)), (1, .int i1)]) (by decide) rfl rfl (Nat.le_of_ble_eq_true rfl) rfl ?_
  intro p e s m args below meth c A K
  unfold fX8_spareBy at h
  refine j_aload_n K 0 rfl dX8_spareBy_0 rfl ?_
  refine j_iconst (v := (0 : Int32)) K (by decide) dX8_spareBy_1 rfl ?_
  obtain ⟨r_1, c_gone_2, c_sim_3, hc, h⟩ := bd3_some h
  refine j_callV (rest := []) (st1 := [.int r_1]) (ws' := (uX8_spareBy cyI cyJ cyS a0 c_latest c_typed c_tenants c_room c_events c_gone_2 c_sim_3.1 c_sights c_drawn c_tenant c_event c_sim_3.2.1 c_sim_3.2.2.1 c_sim_3.2.2.2.1 c_sim_3.2.2.2.2.1 c_sim_3.2.2.2.2.2.1 c_sim_3.2.2.2.2.2.2.1 c_sim_3.2.2.2.2.2.2.2.1 c_sim_3.2.2.2.2.2.2.2.2.1 c_sim_3.2.2.2.2.2.2.2.2.2.1 c_sim_3.2.2.2.2.2.2.2.2.2.2.1 c_sim_3.2.2.2.2.2.2.2.2.2.2.2)) (T := TX8) (N := 29) (ci := 8) K (ctX8_isSpared l D cyI cyJ cyS a0 (0 : Int32) c_latest c_typed c_sights c_drawn c_tenants c_room c_events c_tenant c_event c_gone c_sim r_1 c_gone_2 c_sim_3 hc) (gdV mcL mw_29_13 mw_29_14 mw_29_15 mw_1_5 mw_29_16) rfl ⟨rfl, rfl⟩ hyX8_isSpared ⟨Nat.le_of_ble_eq_true rfl, Nat.le_of_ble_eq_true rfl, Nat.le_of_ble_eq_true rfl, Nat.le_of_ble_eq_true rfl⟩ [0, 1, 2, 3, 4, 5, 6, 7, 8, 9, 10, 11, 12, 13] (by decide) rfl [some 0, some 1, some 2, some 3, some 4, some 5, some 6, some 7, some 8, some 9, some 10, some 11, some 12, some 13] (by decide) rfl rfl 0 rfl rfl rfl rfl (Nat.le_of_ble_eq_true rfl) dX8_spareBy_2 rfl rfl ?_
  refine j_if_eq (tgt := 19) K dX8_spareBy_5 (by decide) rfl h (fun h => ?_) (fun h => ?_)
  · refine j_iconst (v := (0 : Int32)) K (by decide) dX8_spareBy_19 rfl ?_
    refine j_istore_n (lv' := [(2, .int (0 : Int32)), (0, .ref (a0 0)), (1, .int i1)]) K (by decide) rfl dX8_spareBy_20 rfl ?_
    refine j_sub [1, 2, 0] (lv' := [(0, .ref (a0 0)), (1, .int i1), (2, .int (0 : Int32))]) rfl ?_
    exact wX8_spareBy_21 K a0 c_latest c_typed c_sights c_drawn i1 c_tenants c_room c_events c_tenant c_event o_r o_gone o_sim jF c_gone_2 c_sim_3 (0 : Int32) h
  · refine j_iload_n K 1 rfl dX8_spareBy_8 rfl ?_
    refine j_iconst (v := (-1 : Int32)) K (by decide) dX8_spareBy_9 rfl ?_
    refine j_icmp_ne (tgt := 17) K dX8_spareBy_10 (by decide) rfl h (fun h => ?_) (fun h => ?_)
    · refine j_iconst (v := (-1 : Int32)) K (by decide) dX8_spareBy_17 rfl ?_
      obtain ⟨e1, g1⟩ := Prod.mk.inj (Option.some.inj h)
      subst e1
      obtain ⟨e2, g2⟩ := Prod.mk.inj g1
      subst e2
      subst g2
      exact j_iret K dX8_spareBy_18
    · refine j_iconst (v := (0 : Int32)) K (by decide) dX8_spareBy_13 rfl ?_
      refine j_goto (pc' := 18) K dX8_spareBy_14 (by decide) ?_
      obtain ⟨e1, g1⟩ := Prod.mk.inj (Option.some.inj h)
      subst e1
      obtain ⟨e2, g2⟩ := Prod.mk.inj g1
      subst e2
      subst g2
      exact j_iret K dX8_spareBy_18
end GEN
