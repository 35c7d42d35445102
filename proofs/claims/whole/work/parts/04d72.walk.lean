section GEN
variable {p : Program} {l : Launch} {e : Env} {s : State} {m : MethodId} {args : Array Value} {below : List Frame} {meth : Method} {c : Code} {A : Nat → Prop} {D : va_G} {cyI cyJ cyS : ClassId}
abbrev uX8_wagesOf (cyI cyJ cyS : ClassId) (a0 : Nat → Nat) (c_latest : Int32) (c_typed : Int32) (c_tenants : Int32) (c_room : Int32) (c_events : Int32) (c_gone : Int32) (c_audit : Int32) (c_sights : Int32) (c_drawn : Int32) (c_tenant : Nat → Int32) (c_event : Nat → Int32) (c_floor : Nat → Int32) (c_before : Nat → Int32) (c_left : Nat → Int32) (c_settled : Nat → Int32) (c_fell : Nat → Int32) (c_past : Nat → Int32) (c_highest : Nat → Int32) (c_many : Nat → Int32) (c_floorBy : Nat → Int32) (c_leftBy : Nat → Int32) (c_fellBy : Nat → Int32) (c_sight : Nat → Int32) (c_rows : Nat → Int64) : va_W := [((a0 0), .inr (8, [.ref (a0 1), .ref (a0 2), .ref (a0 3), .ref (a0 4), .int c_latest, .ref (a0 5), .int c_typed, .int c_tenants, .ref (a0 6), .int c_room, .int c_events, .ref (a0 7), .int c_gone, .ref (a0 8), .ref (a0 9), .ref (a0 10), .ref (a0 11), .ref (a0 12), .ref (a0 13), .ref (a0 14), .ref (a0 15), .ref (a0 16), .ref (a0 17), .ref (a0 18), .int c_audit, .int c_sights, .ref (a0 19), .ref (a0 20), .int c_drawn])), ((a0 6), .inl (cyI, 24, .inl c_tenant)), ((a0 7), .inl (cyI, 24, .inl c_event)), ((a0 8), .inl (cyI, 8, .inl c_floor)), ((a0 9), .inl (cyI, 8, .inl c_before)), ((a0 10), .inl (cyI, 8, .inl c_left)), ((a0 11), .inl (cyI, 8, .inl c_settled)), ((a0 12), .inl (cyI, 8, .inl c_fell)), ((a0 13), .inl (cyI, 8, .inl c_past)), ((a0 14), .inl (cyI, 8, .inl c_highest)), ((a0 15), .inl (cyI, 13, .inl c_many)), ((a0 16), .inl (cyI, 192, .inl c_floorBy)), ((a0 17), .inl (cyI, 192, .inl c_leftBy)), ((a0 18), .inl (cyI, 192, .inl c_fellBy)), ((a0 19), .inl (cyI, 24, .inl c_sight)), ((a0 20), .inl (cyJ, 240, .inr (.inl c_rows)))]
abbrev rmX8_wagesOf : Room := { frames := 6, cells := 0, slots := 0, locals := 137 }
abbrev wdX8_wagesOf : List Cond := .code yX8_wagesOf cX8_wagesOf 7 (some .int) :: wsL_law
theorem hyX8_wagesOf : yX8_wagesOf.cls = RX8 ∧ yX8_wagesOf.cls ≠ "java/lang/invoke/MethodHandle" ∧ yX8_wagesOf.cls ≠ "java/lang/invoke/VarHandle" ∧ (parseMethodDescriptor yX8_wagesOf.desc).map (fun d => d.parameters.length) = some 1 := by decide +kernel
set_option maxRecDepth 100000 in
set_option maxHeartbeats 4000000 in
theorem wX8_wagesOf_57 (K : jK p s m args meth c A D vwCl (tyz cyI cyJ cyS) cX8_wagesOf 7 RX8 wdX8_wagesOf (some .int)) (a0 : Nat → Nat) (c_latest : Int32) (c_typed : Int32) (c_drawn : Int32) (i1 : Int32) (c_tenants : Int32) (c_room : Int32) (c_events : Int32) (c_gone : Int32) (c_sights : Int32) (c_event : Nat → Int32) (c_sight : Nat → Int32) (o_r : Int32) (o_sim : jT11) (o_tenant : Nat → Int32) (o_rows : Nat → Int64)  (q_19 : jT11 → (Nat → Int32) → (Nat → Int64) → Int32 → Int32 → Int32 → Int32 → (Option (Int32 × jT11 × (Nat → Int32) × (Nat → Int64)))) (hq_19 : ∀ (c_sim : jT11) (c_tenant : Nat → Int32) (c_rows : Nat → Int64) (i2 : Int32) (i3 : Int32) (i4 : Int32) (i5 : Int32), q_19 c_sim c_tenant c_rows i2 i3 i4 i5 = some (o_r, o_sim, o_tenant, o_rows) → jw p l e rmX8_wagesOf s m args below meth c (jQ below args s A D vwCl (tyz cyI cyJ cyS) 0 0 (some (.int o_r)) (uX8_wagesOf cyI cyJ cyS a0 c_latest c_typed c_tenants c_room c_events c_gone o_sim.1 c_sights c_drawn o_tenant c_event o_sim.2.1 o_sim.2.2.1 o_sim.2.2.2.1 o_sim.2.2.2.2.1 o_sim.2.2.2.2.2.1 o_sim.2.2.2.2.2.2.1 o_sim.2.2.2.2.2.2.2.1 o_sim.2.2.2.2.2.2.2.2.1 o_sim.2.2.2.2.2.2.2.2.2.1 o_sim.2.2.2.2.2.2.2.2.2.2.1 o_sim.2.2.2.2.2.2.2.2.2.2.2 c_sight o_rows)) A D vwCl 7 0 0 19 [(0, .ref (a0 0)), (2, .int i2), (3, .int i3), (4, .int i4), (5, .int i5)] [] (uX8_wagesOf cyI cyJ cyS a0 c_latest c_typed c_tenants c_room c_events c_gone c_sim.1 c_sights c_drawn c_tenant c_event c_sim.2.1 c_sim.2.2.1 c_sim.2.2.2.1 c_sim.2.2.2.2.1 c_sim.2.2.2.2.2.1 c_sim.2.2.2.2.2.2.1 c_sim.2.2.2.2.2.2.2.1 c_sim.2.2.2.2.2.2.2.2.1 c_sim.2.2.2.2.2.2.2.2.2.1 c_sim.2.2.2.2.2.2.2.2.2.2.1 c_sim.2.2.2.2.2.2.2.2.2.2.2 c_sight c_rows)) : ∀ (n : Nat) (c_sim : jT11) (c_tenant : Nat → Int32) (c_rows : Nat → Int64) (i2 : Int32) (i3 : Int32) (i4 : Int32) (i5 : Int32) (i6 : Int32), fX8_wagesOf_57 i1 c_tenants c_room c_events c_gone c_sights c_event c_sight q_19 n c_sim c_tenant c_rows i2 i3 i4 i5 i6 = some (o_r, o_sim, o_tenant, o_rows) → jw p l e rmX8_wagesOf s m args below meth c (jQ below args s A D vwCl (tyz cyI cyJ cyS) 0 0 (some (.int o_r)) (uX8_wagesOf cyI cyJ cyS a0 c_latest c_typed c_tenants c_room c_events c_gone o_sim.1 c_sights c_drawn o_tenant c_event o_sim.2.1 o_sim.2.2.1 o_sim.2.2.2.1 o_sim.2.2.2.2.1 o_sim.2.2.2.2.2.1 o_sim.2.2.2.2.2.2.1 o_sim.2.2.2.2.2.2.2.1 o_sim.2.2.2.2.2.2.2.2.1 o_sim.2.2.2.2.2.2.2.2.2.1 o_sim.2.2.2.2.2.2.2.2.2.2.1 o_sim.2.2.2.2.2.2.2.2.2.2.2 c_sight o_rows)) A D vwCl 7 0 0 57 [(0, .ref (a0 0)), (2, .int i2), (3, .int i3), (4, .int i4), (5, .int i5), (6, .int i6)] [] (uX8_wagesOf cyI cyJ cyS a0 c_latest c_typed c_tenants c_room c_events c_gone c_sim.1 c_sights c_drawn c_tenant c_event c_sim.2.1 c_sim.2.2.1 c_sim.2.2.2.1 c_sim.2.2.2.2.1 c_sim.2.2.2.2.2.1 c_sim.2.2.2.2.2.2.1 c_sim.2.2.2.2.2.2.2.1 c_sim.2.2.2.2.2.2.2.2.1 c_sim.2.2.2.2.2.2.2.2.2.1 c_sim.2.2.2.2.2.2.2.2.2.2.1 c_sim.2.2.2.2.2.2.2.2.2.2.2 c_sight c_rows) := by
  intro n
  induction n with
  | zero => intro c_sim c_tenant c_rows i2 i3 i4 i5 i6 h; cases h
  | succ n ih =>
    intro c_sim c_tenant c_rows i2 i3 i4 i5 i6 h
    have h : bX8_wagesOf_57 i1 c_tenants c_room c_events c_gone c_sights c_event c_sight q_19 (fX8_wagesOf_57 i1 c_tenants c_room c_events c_gone c_sights c_event c_sight q_19 n) c_sim c_tenant c_rows i2 i3 i4 i5 i6 = some (o_r, o_sim, o_tenant, o_rows) := h
    unfold bX8_wagesOf_57 at h
    refine j_iload K 5 rfl dX8_wagesOf_57 rfl ?_
    refine j_bipush (v := (24 : Int32)) K (by decide) dX8_wagesOf_59 rfl ?_
    refine j_icmp_ge (tgt := 89) K dX8_wagesOf_61 (by decide) rfl h (fun h => ?_) (fun h => ?_)
    · refine j_iincN (lf := fun z => [(5, .int z), (0, .ref (a0 0)), (2, .int i2), (3, .int i3), (4, .int i4), (6, .int i6)]) K (v := i5 + (1 : Int32)) (k := 4) rfl rfl (by decide) (fun _ => rfl) dX8_wagesOf_89 rfl h (fun i5_8 h => ?_)
      refine j_goto (pc' := 19) K dX8_wagesOf_92 (by decide) ?_
      refine j_sub [1, 2, 3, 4, 0] (lv' := [(0, .ref (a0 0)), (2, .int i2), (3, .int i3), (4, .int i4), (5, .int i5_8)]) rfl ?_
      exact hq_19 c_sim c_tenant c_rows i2 i3 i4 i5_8 h
    · refine j_aload_n K 0 rfl dX8_wagesOf_64 rfl ?_
      refine j_getf (C := RX8) (T := TX8) (N := 29) (ci := 8) K icX8 0 27 (List.mem_cons_of_mem _ mw_6_4) rfl rfl rfl (by decide) rfl dX8_wagesOf_65 rfl ?_
      refine j_bipush (v := (24 : Int32)) K (by decide) dX8_wagesOf_68 rfl ?_
      refine j_iload K 4 rfl dX8_wagesOf_70 rfl ?_
      refine j_imul K dX8_wagesOf_72 rfl ?_
      refine j_iload K 5 rfl dX8_wagesOf_73 rfl ?_
      refine j_iadd K dX8_wagesOf_75 rfl ?_
      refine j_aload_n K 0 rfl dX8_wagesOf_76 rfl ?_
      refine j_iload K 5 rfl dX8_wagesOf_77 rfl ?_
      obtain ⟨r_9, hc, h⟩ := bd1_some h
      refine j_callV (rest := [.int (((24 : Int32) * i5) + i6), .ref (a0 20)]) (st1 := [.long r_9, .int (((24 : Int32) * i5) + i6), .ref (a0 20)]) (ws' := (uX8_wagesOf cyI cyJ cyS a0 c_latest c_typed c_tenants c_room c_events c_gone c_sim.1 c_sights c_drawn c_tenant c_event c_sim.2.1 c_sim.2.2.1 c_sim.2.2.2.1 c_sim.2.2.2.2.1 c_sim.2.2.2.2.2.1 c_sim.2.2.2.2.2.2.1 c_sim.2.2.2.2.2.2.2.1 c_sim.2.2.2.2.2.2.2.2.1 c_sim.2.2.2.2.2.2.2.2.2.1 c_sim.2.2.2.2.2.2.2.2.2.2.1 c_sim.2.2.2.2.2.2.2.2.2.2.2 c_sight c_rows)) (T := TX8) (N := 29) (ci := 8) K (ctX8_rowOf l D cyI cyJ cyS a0 i6 c_latest c_typed c_room c_events c_gone c_sim.1 c_sights c_drawn c_tenants c_sim.2.2.2.2.2.2.2.2.2.1 r_9 hc) (gdV mcL mw_32_20 mw_32_21 mw_32_22 mw_1_5 mw_32_23) rfl ⟨rfl, rfl⟩ hyX8_rowOf ⟨Nat.le_of_ble_eq_true rfl, Nat.le_of_ble_eq_true rfl, Nat.le_of_ble_eq_true rfl, Nat.le_of_ble_eq_true rfl⟩ [0, 11] (by decide) rfl [some 0, none, none, none, none, none, none, none, none, none, none, some 1, none, none, none, none] (by decide) rfl rfl 0 rfl rfl rfl rfl (Nat.le_of_ble_eq_true rfl) dX8_wagesOf_79 rfl rfl ?_
      refine j_last K 15 1 (fun z => (uX8_wagesOf cyI cyJ cyS a0 c_latest c_typed c_tenants c_room c_events c_gone c_sim.1 c_sights c_drawn c_tenant c_event c_sim.2.1 c_sim.2.2.1 c_sim.2.2.2.1 c_sim.2.2.2.2.1 c_sim.2.2.2.2.2.1 c_sim.2.2.2.2.2.2.1 c_sim.2.2.2.2.2.2.2.1 c_sim.2.2.2.2.2.2.2.2.1 c_sim.2.2.2.2.2.2.2.2.2.1 c_sim.2.2.2.2.2.2.2.2.2.2.1 c_sim.2.2.2.2.2.2.2.2.2.2.2 c_sight z)) rfl rfl (fun _ => rfl) dX8_wagesOf_82 rfl h (fun c_rows_10 h => ?_)
      refine j_iincN (lf := fun z => [(6, .int z), (0, .ref (a0 0)), (2, .int i2), (3, .int i3), (4, .int i4), (5, .int i5)]) K (v := i6 + (1 : Int32)) (k := 5) rfl rfl (by decide) (fun _ => rfl) dX8_wagesOf_83 rfl h (fun i6_11 h => ?_)
      refine j_goto (pc' := 57) K dX8_wagesOf_86 (by decide) ?_
      refine j_sub [1, 2, 3, 4, 5, 0] (lv' := [(0, .ref (a0 0)), (2, .int i2), (3, .int i3), (4, .int i4), (5, .int i5), (6, .int i6_11)]) rfl ?_
      exact ih c_sim c_tenant c_rows_10 i2 i3 i4 i5 i6_11 h
set_option maxRecDepth 100000 in
set_option maxHeartbeats 4000000 in
theorem wX8_wagesOf_51 (K : jK p s m args meth c A D vwCl (tyz cyI cyJ cyS) cX8_wagesOf 7 RX8 wdX8_wagesOf (some .int)) (a0 : Nat → Nat) (c_latest : Int32) (c_typed : Int32) (c_drawn : Int32) (i1 : Int32) (c_tenants : Int32) (c_room : Int32) (c_events : Int32) (c_gone : Int32) (c_sights : Int32) (c_event : Nat → Int32) (c_sight : Nat → Int32) (o_r : Int32) (o_sim : jT11) (o_tenant : Nat → Int32) (o_rows : Nat → Int64)  (q_19 : jT11 → (Nat → Int32) → (Nat → Int64) → Int32 → Int32 → Int32 → Int32 → (Option (Int32 × jT11 × (Nat → Int32) × (Nat → Int64)))) (hq_19 : ∀ (c_sim : jT11) (c_tenant : Nat → Int32) (c_rows : Nat → Int64) (i2 : Int32) (i3 : Int32) (i4 : Int32) (i5 : Int32), q_19 c_sim c_tenant c_rows i2 i3 i4 i5 = some (o_r, o_sim, o_tenant, o_rows) → jw p l e rmX8_wagesOf s m args below meth c (jQ below args s A D vwCl (tyz cyI cyJ cyS) 0 0 (some (.int o_r)) (uX8_wagesOf cyI cyJ cyS a0 c_latest c_typed c_tenants c_room c_events c_gone o_sim.1 c_sights c_drawn o_tenant c_event o_sim.2.1 o_sim.2.2.1 o_sim.2.2.2.1 o_sim.2.2.2.2.1 o_sim.2.2.2.2.2.1 o_sim.2.2.2.2.2.2.1 o_sim.2.2.2.2.2.2.2.1 o_sim.2.2.2.2.2.2.2.2.1 o_sim.2.2.2.2.2.2.2.2.2.1 o_sim.2.2.2.2.2.2.2.2.2.2.1 o_sim.2.2.2.2.2.2.2.2.2.2.2 c_sight o_rows)) A D vwCl 7 0 0 19 [(0, .ref (a0 0)), (2, .int i2), (3, .int i3), (4, .int i4), (5, .int i5)] [] (uX8_wagesOf cyI cyJ cyS a0 c_latest c_typed c_tenants c_room c_events c_gone c_sim.1 c_sights c_drawn c_tenant c_event c_sim.2.1 c_sim.2.2.1 c_sim.2.2.2.1 c_sim.2.2.2.2.1 c_sim.2.2.2.2.2.1 c_sim.2.2.2.2.2.2.1 c_sim.2.2.2.2.2.2.2.1 c_sim.2.2.2.2.2.2.2.2.1 c_sim.2.2.2.2.2.2.2.2.2.1 c_sim.2.2.2.2.2.2.2.2.2.2.1 c_sim.2.2.2.2.2.2.2.2.2.2.2 c_sight c_rows)) : ∀ (c_sim : jT11) (c_tenant : Nat → Int32) (c_rows : Nat → Int64) (i2 : Int32) (i3 : Int32) (i5 : Int32) (t0 : Int32) (t1 : Int32), fX8_wagesOf_51 i1 c_tenants c_room c_events c_gone c_sights c_event c_sight q_19 c_sim c_tenant c_rows i2 i3 i5 t0 t1 = some (o_r, o_sim, o_tenant, o_rows) → jw p l e rmX8_wagesOf s m args below meth c (jQ below args s A D vwCl (tyz cyI cyJ cyS) 0 0 (some (.int o_r)) (uX8_wagesOf cyI cyJ cyS a0 c_latest c_typed c_tenants c_room c_events c_gone o_sim.1 c_sights c_drawn o_tenant c_event o_sim.2.1 o_sim.2.2.1 o_sim.2.2.2.1 o_sim.2.2.2.2.1 o_sim.2.2.2.2.2.1 o_sim.2.2.2.2.2.2.1 o_sim.2.2.2.2.2.2.2.1 o_sim.2.2.2.2.2.2.2.2.1 o_sim.2.2.2.2.2.2.2.2.2.1 o_sim.2.2.2.2.2.2.2.2.2.2.1 o_sim.2.2.2.2.2.2.2.2.2.2.2 c_sight o_rows)) A D vwCl 7 0 0 51 [(0, .ref (a0 0)), (2, .int i2), (3, .int i3), (5, .int i5)] [.int t0, .int t1] (uX8_wagesOf cyI cyJ cyS a0 c_latest c_typed c_tenants c_room c_events c_gone c_sim.1 c_sights c_drawn c_tenant c_event c_sim.2.1 c_sim.2.2.1 c_sim.2.2.2.1 c_sim.2.2.2.2.1 c_sim.2.2.2.2.2.1 c_sim.2.2.2.2.2.2.1 c_sim.2.2.2.2.2.2.2.1 c_sim.2.2.2.2.2.2.2.2.1 c_sim.2.2.2.2.2.2.2.2.2.1 c_sim.2.2.2.2.2.2.2.2.2.2.1 c_sim.2.2.2.2.2.2.2.2.2.2.2 c_sight c_rows) := by
  intro c_sim c_tenant c_rows i2 i3 i5 t0 t1 h
  unfold fX8_wagesOf_51 at h
  refine j_ior K dX8_wagesOf_51 rfl ?_
  refine j_nmI h (fun i4_7 h => ?_)
  refine j_istore (lv' := [(4, .int i4_7), (0, .ref (a0 0)), (2, .int i2), (3, .int i3), (5, .int i5)]) K (by decide) rfl dX8_wagesOf_52 rfl ?_
  refine j_iconst (v := (0 : Int32)) K (by decide) dX8_wagesOf_54 rfl ?_
  refine j_istore (lv' := [(6, .int (0 : Int32)), (4, .int i4_7), (0, .ref (a0 0)), (2, .int i2), (3, .int i3), (5, .int i5)]) K (by decide) rfl dX8_wagesOf_55 rfl ?_
  refine j_sub [2, 3, 4, 1, 5, 0] (lv' := [(0, .ref (a0 0)), (2, .int i2), (3, .int i3), (4, .int i4_7), (5, .int i5), (6, .int (0 : Int32))]) rfl ?_
  exact wX8_wagesOf_57 K a0 c_latest c_typed c_drawn i1 c_tenants c_room c_events c_gone c_sights c_event c_sight o_r o_sim o_tenant o_rows q_19 hq_19 jF c_sim c_tenant c_rows i2 i3 i4_7 i5 (0 : Int32) h
set_option maxRecDepth 100000 in
set_option maxHeartbeats 4000000 in
theorem wX8_wagesOf_19 (K : jK p s m args meth c A D vwCl (tyz cyI cyJ cyS) cX8_wagesOf 7 RX8 wdX8_wagesOf (some .int)) (a0 : Nat → Nat) (c_latest : Int32) (c_typed : Int32) (c_drawn : Int32) (i1 : Int32) (c_tenants : Int32) (c_room : Int32) (c_events : Int32) (c_gone : Int32) (c_sights : Int32) (c_event : Nat → Int32) (c_sight : Nat → Int32) (o_r : Int32) (o_sim : jT11) (o_tenant : Nat → Int32) (o_rows : Nat → Int64)   : ∀ (n : Nat) (c_sim : jT11) (c_tenant : Nat → Int32) (c_rows : Nat → Int64) (i2 : Int32) (i3 : Int32) (i4 : Int32) (i5 : Int32), fX8_wagesOf_19 i1 c_tenants c_room c_events c_gone c_sights c_event c_sight  n c_sim c_tenant c_rows i2 i3 i4 i5 = some (o_r, o_sim, o_tenant, o_rows) → jw p l e rmX8_wagesOf s m args below meth c (jQ below args s A D vwCl (tyz cyI cyJ cyS) 0 0 (some (.int o_r)) (uX8_wagesOf cyI cyJ cyS a0 c_latest c_typed c_tenants c_room c_events c_gone o_sim.1 c_sights c_drawn o_tenant c_event o_sim.2.1 o_sim.2.2.1 o_sim.2.2.2.1 o_sim.2.2.2.2.1 o_sim.2.2.2.2.2.1 o_sim.2.2.2.2.2.2.1 o_sim.2.2.2.2.2.2.2.1 o_sim.2.2.2.2.2.2.2.2.1 o_sim.2.2.2.2.2.2.2.2.2.1 o_sim.2.2.2.2.2.2.2.2.2.2.1 o_sim.2.2.2.2.2.2.2.2.2.2.2 c_sight o_rows)) A D vwCl 7 0 0 19 [(0, .ref (a0 0)), (2, .int i2), (3, .int i3), (4, .int i4), (5, .int i5)] [] (uX8_wagesOf cyI cyJ cyS a0 c_latest c_typed c_tenants c_room c_events c_gone c_sim.1 c_sights c_drawn c_tenant c_event c_sim.2.1 c_sim.2.2.1 c_sim.2.2.2.1 c_sim.2.2.2.2.1 c_sim.2.2.2.2.2.1 c_sim.2.2.2.2.2.2.1 c_sim.2.2.2.2.2.2.2.1 c_sim.2.2.2.2.2.2.2.2.1 c_sim.2.2.2.2.2.2.2.2.2.1 c_sim.2.2.2.2.2.2.2.2.2.2.1 c_sim.2.2.2.2.2.2.2.2.2.2.2 c_sight c_rows) := by
  intro n
  induction n with
  | zero => intro c_sim c_tenant c_rows i2 i3 i4 i5 h; cases h
  | succ n ih =>
    intro c_sim c_tenant c_rows i2 i3 i4 i5 h
    have h : bX8_wagesOf_19 i1 c_tenants c_room c_events c_gone c_sights c_event c_sight  (fX8_wagesOf_19 i1 c_tenants c_room c_events c_gone c_sights c_event c_sight  n) c_sim c_tenant c_rows i2 i3 i4 i5 = some (o_r, o_sim, o_tenant, o_rows) := h
    unfold bX8_wagesOf_19 at h
    refine j_iload K 4 rfl dX8_wagesOf_19 rfl ?_
    refine j_bipush (v := (10 : Int32)) K (by decide) dX8_wagesOf_21 rfl ?_
    refine j_icmp_ge (tgt := 95) K dX8_wagesOf_23 (by decide) rfl h (fun h => ?_) (fun h => ?_)
    · refine j_aload_n K 0 rfl dX8_wagesOf_95 rfl ?_
      refine j_getf (C := RX8) (T := TX8) (N := 29) (ci := 8) K icX8 0 8 (List.mem_cons_of_mem _ mw_5_13) rfl rfl rfl (by decide) rfl dX8_wagesOf_96 rfl ?_
      refine j_iload_n K 1 rfl dX8_wagesOf_99 rfl ?_
      refine j_iload_n K 2 rfl dX8_wagesOf_100 rfl ?_
      refine j_iast K 1 0 (fun z => (uX8_wagesOf cyI cyJ cyS a0 c_latest c_typed c_tenants c_room c_events c_gone c_sim.1 c_sights c_drawn z c_event c_sim.2.1 c_sim.2.2.1 c_sim.2.2.2.1 c_sim.2.2.2.2.1 c_sim.2.2.2.2.2.1 c_sim.2.2.2.2.2.2.1 c_sim.2.2.2.2.2.2.2.1 c_sim.2.2.2.2.2.2.2.2.1 c_sim.2.2.2.2.2.2.2.2.2.1 c_sim.2.2.2.2.2.2.2.2.2.2.1 c_sim.2.2.2.2.2.2.2.2.2.2.2 c_sight c_rows)) rfl rfl (fun _ => rfl) dX8_wagesOf_101 rfl h (fun c_tenant_3 h => ?_)
      refine j_iload K 3 rfl dX8_wagesOf_102 rfl ?_
      obtain ⟨e1, g1⟩ := Prod.mk.inj (Option.some.inj h)
      subst e1
      obtain ⟨e2, g2⟩ := Prod.mk.inj g1
      subst e2
      obtain ⟨e3, g3⟩ := Prod.mk.inj g2
      subst e3
      subst g3
      exact j_iret K dX8_wagesOf_104
    · refine j_aload_n K 0 rfl dX8_wagesOf_26 rfl ?_
      refine j_getf (C := RX8) (T := TX8) (N := 29) (ci := 8) K icX8 0 8 (List.mem_cons_of_mem _ mw_5_13) rfl rfl rfl (by decide) rfl dX8_wagesOf_27 rfl ?_
      refine j_iload_n K 1 rfl dX8_wagesOf_30 rfl ?_
      refine j_iload K 4 rfl dX8_wagesOf_31 rfl ?_
      refine j_iast K 1 0 (fun z => (uX8_wagesOf cyI cyJ cyS a0 c_latest c_typed c_tenants c_room c_events c_gone c_sim.1 c_sights c_drawn z c_event c_sim.2.1 c_sim.2.2.1 c_sim.2.2.2.1 c_sim.2.2.2.2.1 c_sim.2.2.2.2.2.1 c_sim.2.2.2.2.2.2.1 c_sim.2.2.2.2.2.2.2.1 c_sim.2.2.2.2.2.2.2.2.1 c_sim.2.2.2.2.2.2.2.2.2.1 c_sim.2.2.2.2.2.2.2.2.2.2.1 c_sim.2.2.2.2.2.2.2.2.2.2.2 c_sight c_rows)) rfl rfl (fun _ => rfl) dX8_wagesOf_33 rfl h (fun c_tenant_4 h => ?_)
      refine j_iload K 3 rfl dX8_wagesOf_34 rfl ?_
      refine j_aload_n K 0 rfl dX8_wagesOf_36 rfl ?_
      obtain ⟨r_5, c_sim_6, hc, h⟩ := bd2_some h
      refine j_callV (rest := [.int i4]) (st1 := [.int r_5, .int i4]) (ws' := (uX8_wagesOf cyI cyJ cyS a0 c_latest c_typed c_tenants c_room c_events c_gone c_sim_6.1 c_sights c_drawn c_tenant_4 c_event c_sim_6.2.1 c_sim_6.2.2.1 c_sim_6.2.2.2.1 c_sim_6.2.2.2.2.1 c_sim_6.2.2.2.2.2.1 c_sim_6.2.2.2.2.2.2.1 c_sim_6.2.2.2.2.2.2.2.1 c_sim_6.2.2.2.2.2.2.2.2.1 c_sim_6.2.2.2.2.2.2.2.2.2.1 c_sim_6.2.2.2.2.2.2.2.2.2.2.1 c_sim_6.2.2.2.2.2.2.2.2.2.2.2 c_sight c_rows)) (T := TX8) (N := 29) (ci := 8) K (ctX8_isSeen l D cyI cyJ cyS a0 c_latest c_typed c_drawn c_tenants c_room c_events c_gone c_sights c_tenant_4 c_event c_sight c_sim r_5 c_sim_6 hc) (gdV mcL mw_31_9 mw_31_10 mw_31_11 mw_1_5 mw_31_12) rfl ⟨rfl, rfl⟩ hyX8_isSeen ⟨Nat.le_of_ble_eq_true rfl, Nat.le_of_ble_eq_true rfl, Nat.le_of_ble_eq_true rfl, Nat.le_of_ble_eq_true rfl⟩ [0, 1, 2, 3, 4, 5, 6, 7, 8, 9, 10, 11, 12, 13, 14] (by decide) rfl [some 0, some 1, some 2, some 3, some 4, some 5, some 6, some 7, some 8, some 9, some 10, some 11, some 12, some 13, some 14, none] (by decide) rfl rfl 0 rfl rfl rfl rfl (Nat.le_of_ble_eq_true rfl) dX8_wagesOf_37 rfl rfl ?_
      refine j_if_eq (tgt := 50) K dX8_wagesOf_40 (by decide) rfl h (fun h => ?_) (fun h => ?_)
      · refine j_iconst (v := (0 : Int32)) K (by decide) dX8_wagesOf_50 rfl ?_
        refine j_sub [0, 1, 2, 4] (lv' := [(0, .ref (a0 0)), (2, .int i2), (3, .int i3), (5, .int i5)]) rfl ?_
        exact wX8_wagesOf_51 K a0 c_latest c_typed c_drawn i1 c_tenants c_room c_events c_gone c_sights c_event c_sight o_r o_sim o_tenant o_rows (fX8_wagesOf_19 i1 c_tenants c_room c_events c_gone c_sights c_event c_sight n) (fun z0 z1 z2 z3 z4 z5 z6 hq => ih z0 z1 z2 z3 z4 z5 z6 hq) c_sim_6 c_tenant_4 c_rows i2 i3 i5 (0 : Int32) i4 h
      · refine j_iconst (v := (1 : Int32)) K (by decide) dX8_wagesOf_43 rfl ?_
        refine j_iload K 4 rfl dX8_wagesOf_44 rfl ?_
        refine j_ishl K dX8_wagesOf_46 rfl ?_
        refine j_goto (pc' := 51) K dX8_wagesOf_47 (by decide) ?_
        refine j_sub [0, 1, 2, 4] (lv' := [(0, .ref (a0 0)), (2, .int i2), (3, .int i3), (5, .int i5)]) rfl ?_
        exact wX8_wagesOf_51 K a0 c_latest c_typed c_drawn i1 c_tenants c_room c_events c_gone c_sights c_event c_sight o_r o_sim o_tenant o_rows (fX8_wagesOf_19 i1 c_tenants c_room c_events c_gone c_sights c_event c_sight n) (fun z0 z1 z2 z3 z4 z5 z6 hq => ih z0 z1 z2 z3 z4 z5 z6 hq) c_sim_6 c_tenant_4 c_rows i2 i3 i5 ((1 : Int32) <<< (i5 &&& (31 : Int32))) i4 h
set_option maxRecDepth 100000 in
set_option maxHeartbeats 4000000 in
theorem ctX8_wagesOf (l : Launch) (D : va_G) (cyI cyJ cyS : ClassId) (a0 : Nat → Nat) (i1 : Int32) (c_latest : Int32) (c_typed : Int32) (c_drawn : Int32) (c_tenants : Int32) (c_room : Int32) (c_events : Int32) (c_gone : Int32) (c_sights : Int32) (c_event : Nat → Int32) (c_sight : Nat → Int32) (c_sim : jT11) (c_tenant : Nat → Int32) (c_rows : Nat → Int64) (o_r : Int32) (o_sim : jT11) (o_tenant : Nat → Int32) (o_rows : Nat → Int64) (h : fX8_wagesOf i1 c_tenants c_room c_events c_gone c_sights c_event c_sight c_sim c_tenant c_rows = some (o_r, o_sim, o_tenant, o_rows)) : jC l yX8_wagesOf wdX8_wagesOf rmX8_wagesOf D vwCl (tyz cyI cyJ cyS) [.ref (a0 0), .int i1] (uX8_wagesOf cyI cyJ cyS a0 c_latest c_typed c_tenants c_room c_events c_gone c_sim.1 c_sights c_drawn c_tenant c_event c_sim.2.1 c_sim.2.2.1 c_sim.2.2.2.1 c_sim.2.2.2.2.1 c_sim.2.2.2.2.2.1 c_sim.2.2.2.2.2.2.1 c_sim.2.2.2.2.2.2.2.1 c_sim.2.2.2.2.2.2.2.2.1 c_sim.2.2.2.2.2.2.2.2.2.1 c_sim.2.2.2.2.2.2.2.2.2.2.1 c_sim.2.2.2.2.2.2.2.2.2.2.2 c_sight c_rows) (some (.int o_r)) (uX8_wagesOf cyI cyJ cyS a0 c_latest c_typed c_tenants c_room c_events c_gone o_sim.1 c_sights c_drawn o_tenant c_event o_sim.2.1 o_sim.2.2.1 o_sim.2.2.2.1 o_sim.2.2.2.2.1 o_sim.2.2.2.2.2.1 o_sim.2.2.2.2.2.2.1 o_sim.2.2.2.2.2.2.2.1 o_sim.2.2.2.2.2.2.2.2.1 o_sim.2.2.2.2.2.2.2.2.2.1 o_sim.2.2.2.2.2.2.2.2.2.2.1 o_sim.2.2.2.2.2.2.2.2.2.2.2 c_sight o_rows) := by
  refine jC_of (cc := cX8_wagesOf) (nL := 7) (ret := (some .int)) (own := RX8) (lv := [(0, .ref (a0 0)), (1, .int i1)]) (by decide) rfl rfl (Nat.le_of_ble_eq_true rfl) rfl ?_
  intro p e s m args below meth c A K
  unfold fX8_wagesOf at h
  refine j_iconst (v := (3 : Int32)) K (by decide) dX8_wagesOf_0 rfl ?_
  refine j_iload_n K 1 rfl dX8_wagesOf_1 rfl ?_
  refine j_imul K dX8_wagesOf_2 rfl ?_
  refine j_iconst (v := (2 : Int32)) K (by decide) dX8_wagesOf_3 rfl ?_
  refine j_iadd K dX8_wagesOf_4 rfl ?_
  refine j_nmI h (fun i2_1 h => ?_)
  refine j_istore_n (lv' := [(2, .int i2_1), (0, .ref (a0 0)), (1, .int i1)]) K (by decide) rfl dX8_wagesOf_5 rfl ?_
  refine j_aload_n K 1 rfl dX8_wagesOf_6 rfl ?_
  refine j_getf (C := RX8) (T := TX8) (N := 29) (ci := 8) K icX8 0 8 (List.mem_cons_of_mem _ mw_5_13) rfl rfl rfl (by decide) rfl dX8_wagesOf_7 rfl ?_
  refine j_iload_n K 0 rfl dX8_wagesOf_10 rfl ?_
  refine j_iald K 1 0 rfl rfl dX8_wagesOf_11 rfl h (fun v_2 h => ?_)
  refine j_istore_n (lv' := [(3, .int v_2), (2, .int i2_1), (0, .ref (a0 0)), (1, .int i1)]) K (by decide) rfl dX8_wagesOf_12 rfl ?_
  refine j_iconst (v := (0 : Int32)) K (by decide) dX8_wagesOf_13 rfl ?_
  refine j_istore (lv' := [(4, .int (0 : Int32)), (3, .int v_2), (2, .int i2_1), (0, .ref (a0 0)), (1, .int i1)]) K (by decide) rfl dX8_wagesOf_14 rfl ?_
  refine j_iconst (v := (0 : Int32)) K (by decide) dX8_wagesOf_16 rfl ?_
  refine j_istore (lv' := [(5, .int (0 : Int32)), (4, .int (0 : Int32)), (3, .int v_2), (2, .int i2_1), (0, .ref (a0 0)), (1, .int i1)]) K (by decide) rfl dX8_wagesOf_17 rfl ?_
  refine j_sub [4, 3, 2, 1, 0] (lv' := [(0, .ref (a0 0)), (2, .int i2_1), (3, .int v_2), (4, .int (0 : Int32)), (5, .int (0 : Int32))]) rfl ?_
  exact wX8_wagesOf_19 K a0 c_latest c_typed c_drawn i1 c_tenants c_room c_events c_gone c_sights c_event c_sight o_r o_sim o_tenant o_rows jF c_sim c_tenant c_rows i2_1 v_2 (0 : Int32) (0 : Int32) h
end GEN
