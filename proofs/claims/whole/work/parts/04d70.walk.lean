section GEN
variable {p : Program} {l : Launch} {e : Env} {s : State} {m : MethodId} {args : Array Value} {below : List Frame} {meth : Method} {c : Code} {A : Nat → Prop} {D : va_G} {cyI cyJ cyS : ClassId}
abbrev uX8_forget (cyI cyJ cyS : ClassId) (a0 : Nat → Nat) (c_latest : Int32) (c_typed : Int32) (c_tenants : Int32) (c_room : Int32) (c_events : Int32) (c_gone : Int32) (c_audit : Int32) (c_sights : Int32) (c_drawn : Int32) : va_W := [((a0 0), .inr (8, [.ref (a0 1), .ref (a0 2), .ref (a0 3), .ref (a0 4), .int c_latest, .ref (a0 5), .int c_typed, .int c_tenants, .ref (a0 6), .int c_room, .int c_events, .ref (a0 7), .int c_gone, .ref (a0 8), .ref (a0 9), .ref (a0 10), .ref (a0 11), .ref (a0 12), .ref (a0 13), .ref (a0 14), .ref (a0 15), .ref (a0 16), .ref (a0 17), .ref (a0 18), .int c_audit, .int c_sights, .ref (a0 19), .ref (a0 20), .int c_drawn]))]
abbrev rmX8_forget : Room := { frames := 0, cells := 0, slots := 0, locals := 0 }
abbrev wdX8_forget : List Cond := .code yX8_forget cX8_forget 2 (some .int) :: wsL_law
theorem hyX8_forget : yX8_forget.cls = RX8 ∧ yX8_forget.cls ≠ "java/lang/invoke/MethodHandle" ∧ yX8_forget.cls ≠ "java/lang/invoke/VarHandle" ∧ (parseMethodDescriptor yX8_forget.desc).map (fun d => d.parameters.length) = some 0 := by decide +kernel
set_option maxRecDepth 100000 in
set_option maxHeartbeats 4000000 in
theorem ctX8_forget (l : Launch) (D : va_G) (cyI cyJ cyS : ClassId) (a0 : Nat → Nat) (c_latest : Int32) (c_typed : Int32) (c_tenants : Int32) (c_room : Int32) (c_events : Int32) (c_gone : Int32) (c_audit : Int32) (c_drawn : Int32) (c_sights : Int32) (o_r : Int32) (o_sights : Int32) (h : fX8_forget c_sights = some (o_r, o_sights)) : jC l yX8_forget wdX8_forget rmX8_forget D vwCl (tyz cyI cyJ cyS) [.ref (a0 0)] (uX8_forget cyI cyJ cyS a0 c_latest c_typed c_tenants c_room c_events c_gone c_audit c_sights c_drawn) (some (.int o_r)) (uX8_forget cyI cyJ cyS a0 c_latest c_typed c_tenants c_room c_events c_gone c_audit o_sights c_drawn) := by
  refine jC_of (cc := cX8_forget) (nL := 2) (ret := (some .int)) (own := RX8) (lv := [(0, .ref (a0 0))]) (by decide) rfl rfl (Nat.le_of_ble_eq_true rfl) rfl ?_
  intro p e s m args below meth c A K
  unfold fX8_forget at h
  refine j_aload_n K 0 rfl dX8_forget_0 rfl ?_
  refine j_getf (C := RX8) (T := TX8) (N := 29) (ci := 8) K icX8 0 25 (List.mem_cons_of_mem _ mw_30_6) rfl rfl rfl (by decide) rfl dX8_forget_1 rfl ?_
  refine j_istore_n (lv' := [(1, .int c_sights), (0, .ref (a0 0))]) K (by decide) rfl dX8_forget_4 rfl ?_
  refine j_aload_n K 1 rfl dX8_forget_5 rfl ?_
  refine j_iconst (v := (0 : Int32)) K (by decide) dX8_forget_6 rfl ?_
  refine j_putf (C := RX8) (T := TX8) (N := 29) (ci := 8) (ty := .int) (ws' := (uX8_forget cyI cyJ cyS a0 c_latest c_typed c_tenants c_room c_events c_gone c_audit (0 : Int32) c_drawn)) K icX8 tyX8 tyX8_ok nmX8 0 25 (List.mem_cons_of_mem _ mw_30_6) rfl rfl rfl (by decide) rfl (by decide +kernel) rfl rfl (Nat.le_of_ble_eq_true rfl) rfl dX8_forget_7 rfl ?_
  refine j_iload_n K 0 rfl dX8_forget_10 rfl ?_
  obtain ⟨e1, g1⟩ := Prod.mk.inj (Option.some.inj h)
  subst e1
  subst g1
  exact j_iret K dX8_forget_11
abbrev uX8_isSeen (cyI cyJ cyS : ClassId) (a0 : Nat → Nat) (c_latest : Int32) (c_typed : Int32) (c_tenants : Int32) (c_room : Int32) (c_events : Int32) (c_gone : Int32) (c_audit : Int32) (c_sights : Int32) (c_drawn : Int32) (c_tenant : Nat → Int32) (c_event : Nat → Int32) (c_floor : Nat → Int32) (c_before : Nat → Int32) (c_left : Nat → Int32) (c_settled : Nat → Int32) (c_fell : Nat → Int32) (c_past : Nat → Int32) (c_highest : Nat → Int32) (c_many : Nat → Int32) (c_floorBy : Nat → Int32) (c_leftBy : Nat → Int32) (c_fellBy : Nat → Int32) (c_sight : Nat → Int32) : va_W := [((a0 0), .inr (8, [.ref (a0 1), .ref (a0 2), .ref (a0 3), .ref (a0 4), .int c_latest, .ref (a0 5), .int c_typed, .int c_tenants, .ref (a0 6), .int c_room, .int c_events, .ref (a0 7), .int c_gone, .ref (a0 8), .ref (a0 9), .ref (a0 10), .ref (a0 11), .ref (a0 12), .ref (a0 13), .ref (a0 14), .ref (a0 15), .ref (a0 16), .ref (a0 17), .ref (a0 18), .int c_audit, .int c_sights, .ref (a0 19), .ref (a0 20), .int c_drawn])), ((a0 6), .inl (cyI, 24, .inl c_tenant)), ((a0 7), .inl (cyI, 24, .inl c_event)), ((a0 8), .inl (cyI, 8, .inl c_floor)), ((a0 9), .inl (cyI, 8, .inl c_before)), ((a0 10), .inl (cyI, 8, .inl c_left)), ((a0 11), .inl (cyI, 8, .inl c_settled)), ((a0 12), .inl (cyI, 8, .inl c_fell)), ((a0 13), .inl (cyI, 8, .inl c_past)), ((a0 14), .inl (cyI, 8, .inl c_highest)), ((a0 15), .inl (cyI, 13, .inl c_many)), ((a0 16), .inl (cyI, 192, .inl c_floorBy)), ((a0 17), .inl (cyI, 192, .inl c_leftBy)), ((a0 18), .inl (cyI, 192, .inl c_fellBy)), ((a0 19), .inl (cyI, 24, .inl c_sight))]
abbrev rmX8_isSeen : Room := { frames := 5, cells := 0, slots := 0, locals := 114 }
abbrev wdX8_isSeen : List Cond := .code yX8_isSeen cX8_isSeen 4 (some .boolean) :: wsL_law
theorem hyX8_isSeen : yX8_isSeen.cls = RX8 ∧ yX8_isSeen.cls ≠ "java/lang/invoke/MethodHandle" ∧ yX8_isSeen.cls ≠ "java/lang/invoke/VarHandle" ∧ (parseMethodDescriptor yX8_isSeen.desc).map (fun d => d.parameters.length) = some 0 := by decide +kernel
set_option maxRecDepth 100000 in
set_option maxHeartbeats 4000000 in
theorem wX8_isSeen_75 (K : jK p s m args meth c A D vwCl (tyz cyI cyJ cyS) cX8_isSeen 4 RX8 wdX8_isSeen (some .boolean)) (a0 : Nat → Nat) (c_latest : Int32) (c_typed : Int32) (c_drawn : Int32) (c_tenants : Int32) (c_room : Int32) (c_events : Int32) (c_gone : Int32) (c_sights : Int32) (c_tenant : Nat → Int32) (c_event : Nat → Int32) (c_sight : Nat → Int32) (o_r : Int32) (o_sim : jT11)  (q_8 : jT11 → Int32 → Int32 → (Option (Int32 × jT11))) (hq_8 : ∀ (c_sim : jT11) (i1 : Int32) (i2 : Int32), q_8 c_sim i1 i2 = some (o_r, o_sim) → jw p l e rmX8_isSeen s m args below meth c (jQ below args s A D vwCl (tyz cyI cyJ cyS) 0 0 (some (.int o_r)) (uX8_isSeen cyI cyJ cyS a0 c_latest c_typed c_tenants c_room c_events c_gone o_sim.1 c_sights c_drawn c_tenant c_event o_sim.2.1 o_sim.2.2.1 o_sim.2.2.2.1 o_sim.2.2.2.2.1 o_sim.2.2.2.2.2.1 o_sim.2.2.2.2.2.2.1 o_sim.2.2.2.2.2.2.2.1 o_sim.2.2.2.2.2.2.2.2.1 o_sim.2.2.2.2.2.2.2.2.2.1 o_sim.2.2.2.2.2.2.2.2.2.2.1 o_sim.2.2.2.2.2.2.2.2.2.2.2 c_sight)) A D vwCl 4 0 0 8 [(0, .ref (a0 0)), (1, .int i1), (2, .int i2)] [] (uX8_isSeen cyI cyJ cyS a0 c_latest c_typed c_tenants c_room c_events c_gone c_sim.1 c_sights c_drawn c_tenant c_event c_sim.2.1 c_sim.2.2.1 c_sim.2.2.2.1 c_sim.2.2.2.2.1 c_sim.2.2.2.2.2.1 c_sim.2.2.2.2.2.2.1 c_sim.2.2.2.2.2.2.2.1 c_sim.2.2.2.2.2.2.2.2.1 c_sim.2.2.2.2.2.2.2.2.2.1 c_sim.2.2.2.2.2.2.2.2.2.2.1 c_sim.2.2.2.2.2.2.2.2.2.2.2 c_sight)) : ∀ (c_sim : jT11) (i2 : Int32) (t0 : Int32), fX8_isSeen_75 c_tenants c_room c_events c_gone c_sights c_tenant c_event c_sight q_8 c_sim i2 t0 = some (o_r, o_sim) → jw p l e rmX8_isSeen s m args below meth c (jQ below args s A D vwCl (tyz cyI cyJ cyS) 0 0 (some (.int o_r)) (uX8_isSeen cyI cyJ cyS a0 c_latest c_typed c_tenants c_room c_events c_gone o_sim.1 c_sights c_drawn c_tenant c_event o_sim.2.1 o_sim.2.2.1 o_sim.2.2.2.1 o_sim.2.2.2.2.1 o_sim.2.2.2.2.2.1 o_sim.2.2.2.2.2.2.1 o_sim.2.2.2.2.2.2.2.1 o_sim.2.2.2.2.2.2.2.2.1 o_sim.2.2.2.2.2.2.2.2.2.1 o_sim.2.2.2.2.2.2.2.2.2.2.1 o_sim.2.2.2.2.2.2.2.2.2.2.2 c_sight)) A D vwCl 4 0 0 75 [(0, .ref (a0 0)), (2, .int i2)] [.int t0] (uX8_isSeen cyI cyJ cyS a0 c_latest c_typed c_tenants c_room c_events c_gone c_sim.1 c_sights c_drawn c_tenant c_event c_sim.2.1 c_sim.2.2.1 c_sim.2.2.2.1 c_sim.2.2.2.2.1 c_sim.2.2.2.2.2.1 c_sim.2.2.2.2.2.2.1 c_sim.2.2.2.2.2.2.2.1 c_sim.2.2.2.2.2.2.2.2.1 c_sim.2.2.2.2.2.2.2.2.2.1 c_sim.2.2.2.2.2.2.2.2.2.2.1 c_sim.2.2.2.2.2.2.2.2.2.2.2 c_sight) := by
  intro c_sim i2 t0 h
  unfold fX8_isSeen_75 at h
  refine j_istore_n (lv' := [(1, .int t0), (0, .ref (a0 0)), (2, .int i2)]) K (by decide) rfl dX8_isSeen_75 rfl ?_
  refine j_iincN (lf := fun z => [(2, .int z), (1, .int t0), (0, .ref (a0 0))]) K (v := i2 + (1 : Int32)) (k := 2) rfl rfl (by decide) (fun _ => rfl) dX8_isSeen_76 rfl h (fun i2_3 h => ?_)
  refine j_goto (pc' := 8) K dX8_isSeen_79 (by decide) ?_
  refine j_sub [2, 1, 0] (lv' := [(0, .ref (a0 0)), (1, .int t0), (2, .int i2_3)]) rfl ?_
  exact hq_8 c_sim t0 i2_3 h
set_option maxRecDepth 100000 in
set_option maxHeartbeats 4000000 in
theorem wX8_isSeen_74 (K : jK p s m args meth c A D vwCl (tyz cyI cyJ cyS) cX8_isSeen 4 RX8 wdX8_isSeen (some .boolean)) (a0 : Nat → Nat) (c_latest : Int32) (c_typed : Int32) (c_drawn : Int32) (c_tenants : Int32) (c_room : Int32) (c_events : Int32) (c_gone : Int32) (c_sights : Int32) (c_tenant : Nat → Int32) (c_event : Nat → Int32) (c_sight : Nat → Int32) (o_r : Int32) (o_sim : jT11)  (q_8 : jT11 → Int32 → Int32 → (Option (Int32 × jT11))) (hq_8 : ∀ (c_sim : jT11) (i1 : Int32) (i2 : Int32), q_8 c_sim i1 i2 = some (o_r, o_sim) → jw p l e rmX8_isSeen s m args below meth c (jQ below args s A D vwCl (tyz cyI cyJ cyS) 0 0 (some (.int o_r)) (uX8_isSeen cyI cyJ cyS a0 c_latest c_typed c_tenants c_room c_events c_gone o_sim.1 c_sights c_drawn c_tenant c_event o_sim.2.1 o_sim.2.2.1 o_sim.2.2.2.1 o_sim.2.2.2.2.1 o_sim.2.2.2.2.2.1 o_sim.2.2.2.2.2.2.1 o_sim.2.2.2.2.2.2.2.1 o_sim.2.2.2.2.2.2.2.2.1 o_sim.2.2.2.2.2.2.2.2.2.1 o_sim.2.2.2.2.2.2.2.2.2.2.1 o_sim.2.2.2.2.2.2.2.2.2.2.2 c_sight)) A D vwCl 4 0 0 8 [(0, .ref (a0 0)), (1, .int i1), (2, .int i2)] [] (uX8_isSeen cyI cyJ cyS a0 c_latest c_typed c_tenants c_room c_events c_gone c_sim.1 c_sights c_drawn c_tenant c_event c_sim.2.1 c_sim.2.2.1 c_sim.2.2.2.1 c_sim.2.2.2.2.1 c_sim.2.2.2.2.2.1 c_sim.2.2.2.2.2.2.1 c_sim.2.2.2.2.2.2.2.1 c_sim.2.2.2.2.2.2.2.2.1 c_sim.2.2.2.2.2.2.2.2.2.1 c_sim.2.2.2.2.2.2.2.2.2.2.1 c_sim.2.2.2.2.2.2.2.2.2.2.2 c_sight)) : ∀ (c_sim : jT11) (i2 : Int32), fX8_isSeen_74 c_tenants c_room c_events c_gone c_sights c_tenant c_event c_sight q_8 c_sim i2 = some (o_r, o_sim) → jw p l e rmX8_isSeen s m args below meth c (jQ below args s A D vwCl (tyz cyI cyJ cyS) 0 0 (some (.int o_r)) (uX8_isSeen cyI cyJ cyS a0 c_latest c_typed c_tenants c_room c_events c_gone o_sim.1 c_sights c_drawn c_tenant c_event o_sim.2.1 o_sim.2.2.1 o_sim.2.2.2.1 o_sim.2.2.2.2.1 o_sim.2.2.2.2.2.1 o_sim.2.2.2.2.2.2.1 o_sim.2.2.2.2.2.2.2.1 o_sim.2.2.2.2.2.2.2.2.1 o_sim.2.2.2.2.2.2.2.2.2.1 o_sim.2.2.2.2.2.2.2.2.2.2.1 o_sim.2.2.2.2.2.2.2.2.2.2.2 c_sight)) A D vwCl 4 0 0 74 [(0, .ref (a0 0)), (2, .int i2)] [] (uX8_isSeen cyI cyJ cyS a0 c_latest c_typed c_tenants c_room c_events c_gone c_sim.1 c_sights c_drawn c_tenant c_event c_sim.2.1 c_sim.2.2.1 c_sim.2.2.2.1 c_sim.2.2.2.2.1 c_sim.2.2.2.2.2.1 c_sim.2.2.2.2.2.2.1 c_sim.2.2.2.2.2.2.2.1 c_sim.2.2.2.2.2.2.2.2.1 c_sim.2.2.2.2.2.2.2.2.2.1 c_sim.2.2.2.2.2.2.2.2.2.2.1 c_sim.2.2.2.2.2.2.2.2.2.2.2 c_sight) := by
  intro c_sim i2 h
  unfold fX8_isSeen_74 at h
  refine j_iconst (v := (0 : Int32)) K (by decide) dX8_isSeen_74 rfl ?_
  refine j_sub [0, 1] (lv' := [(0, .ref (a0 0)), (2, .int i2)]) rfl ?_
  exact wX8_isSeen_75 K a0 c_latest c_typed c_drawn c_tenants c_room c_events c_gone c_sights c_tenant c_event c_sight o_r o_sim q_8 hq_8 c_sim i2 (0 : Int32) h
set_option maxRecDepth 100000 in
set_option maxHeartbeats 4000000 in
theorem wX8_isSeen_8 (K : jK p s m args meth c A D vwCl (tyz cyI cyJ cyS) cX8_isSeen 4 RX8 wdX8_isSeen (some .boolean)) (a0 : Nat → Nat) (c_latest : Int32) (c_typed : Int32) (c_drawn : Int32) (c_tenants : Int32) (c_room : Int32) (c_events : Int32) (c_gone : Int32) (c_sights : Int32) (c_tenant : Nat → Int32) (c_event : Nat → Int32) (c_sight : Nat → Int32) (o_r : Int32) (o_sim : jT11)   : ∀ (n : Nat) (c_sim : jT11) (i1 : Int32) (i2 : Int32), fX8_isSeen_8 c_tenants c_room c_events c_gone c_sights c_tenant c_event c_sight  n c_sim i1 i2 = some (o_r, o_sim) → jw p l e rmX8_isSeen s m args below meth c (jQ below args s A D vwCl (tyz cyI cyJ cyS) 0 0 (some (.int o_r)) (uX8_isSeen cyI cyJ cyS a0 c_latest c_typed c_tenants c_room c_events c_gone o_sim.1 c_sights c_drawn c_tenant c_event o_sim.2.1 o_sim.2.2.1 o_sim.2.2.2.1 o_sim.2.2.2.2.1 o_sim.2.2.2.2.2.1 o_sim.2.2.2.2.2.2.1 o_sim.2.2.2.2.2.2.2.1 o_sim.2.2.2.2.2.2.2.2.1 o_sim.2.2.2.2.2.2.2.2.2.1 o_sim.2.2.2.2.2.2.2.2.2.2.1 o_sim.2.2.2.2.2.2.2.2.2.2.2 c_sight)) A D vwCl 4 0 0 8 [(0, .ref (a0 0)), (1, .int i1), (2, .int i2)] [] (uX8_isSeen cyI cyJ cyS a0 c_latest c_typed c_tenants c_room c_events c_gone c_sim.1 c_sights c_drawn c_tenant c_event c_sim.2.1 c_sim.2.2.1 c_sim.2.2.2.1 c_sim.2.2.2.2.1 c_sim.2.2.2.2.2.1 c_sim.2.2.2.2.2.2.1 c_sim.2.2.2.2.2.2.2.1 c_sim.2.2.2.2.2.2.2.2.1 c_sim.2.2.2.2.2.2.2.2.2.1 c_sim.2.2.2.2.2.2.2.2.2.2.1 c_sim.2.2.2.2.2.2.2.2.2.2.2 c_sight) := by
  intro n
  induction n with
  | zero => intro c_sim i1 i2 h; cases h
  | succ n ih =>
    intro c_sim i1 i2 h
    have h : bX8_isSeen_8 c_tenants c_room c_events c_gone c_sights c_tenant c_event c_sight  (fX8_isSeen_8 c_tenants c_room c_events c_gone c_sights c_tenant c_event c_sight  n) c_sim i1 i2 = some (o_r, o_sim) := h
    unfold bX8_isSeen_8 at h
    refine j_iload_n K 2 rfl dX8_isSeen_8 rfl ?_
    refine j_aload_n K 0 rfl dX8_isSeen_9 rfl ?_
    refine j_getf (C := RX8) (T := TX8) (N := 29) (ci := 8) K icX8 0 25 (List.mem_cons_of_mem _ mw_30_6) rfl rfl rfl (by decide) rfl dX8_isSeen_10 rfl ?_
    refine j_icmp_ge (tgt := 82) K dX8_isSeen_13 (by decide) rfl h (fun h => ?_) (fun h => ?_)
    · refine j_iload_n K 1 rfl dX8_isSeen_82 rfl ?_
      obtain ⟨hz, h⟩ := ckB_some h
      obtain ⟨e1, g1⟩ := Prod.mk.inj (Option.some.inj h)
      subst e1
      subst g1
      exact j_zret K (nar_b hz) dX8_isSeen_83
    · refine j_aload_n K 0 rfl dX8_isSeen_16 rfl ?_
      refine j_getf (C := RX8) (T := TX8) (N := 29) (ci := 8) K icX8 0 26 (List.mem_cons_of_mem _ mw_6_2) rfl rfl rfl (by decide) rfl dX8_isSeen_17 rfl ?_
      refine j_iconst (v := (3 : Int32)) K (by decide) dX8_isSeen_20 rfl ?_
      refine j_iload_n K 2 rfl dX8_isSeen_21 rfl ?_
      refine j_imul K dX8_isSeen_22 rfl ?_
      refine j_iconst (v := (1 : Int32)) K (by decide) dX8_isSeen_23 rfl ?_
      refine j_iadd K dX8_isSeen_24 rfl ?_
      refine j_iald K 14 0 rfl rfl dX8_isSeen_25 rfl h (fun v_2 h => ?_)
      refine j_istore_n (lv' := [(3, .int v_2), (0, .ref (a0 0)), (1, .int i1), (2, .int i2)]) K (by decide) rfl dX8_isSeen_26 rfl ?_
      refine j_iload_n K 2 rfl dX8_isSeen_27 rfl ?_
      refine j_if_eq (tgt := 74) K dX8_isSeen_28 (by decide) rfl h (fun h => ?_) (fun h => ?_)
      · refine j_sub [1, 3] (lv' := [(0, .ref (a0 0)), (2, .int i2)]) rfl ?_
        exact wX8_isSeen_74 K a0 c_latest c_typed c_drawn c_tenants c_room c_events c_gone c_sights c_tenant c_event c_sight o_r o_sim (fX8_isSeen_8 c_tenants c_room c_events c_gone c_sights c_tenant c_event c_sight n) (fun z0 z1 z2 hq => ih z0 z1 z2 hq) c_sim i2 h
      · refine j_aload_n K 1 rfl dX8_isSeen_31 rfl ?_
        refine j_iload_n K 0 rfl dX8_isSeen_32 rfl ?_
        obtain ⟨r_4, hc, h⟩ := bd1_some h
        refine j_callV (rest := []) (st1 := [.int r_4]) (ws' := (uX8_isSeen cyI cyJ cyS a0 c_latest c_typed c_tenants c_room c_events c_gone c_sim.1 c_sights c_drawn c_tenant c_event c_sim.2.1 c_sim.2.2.1 c_sim.2.2.2.1 c_sim.2.2.2.2.1 c_sim.2.2.2.2.2.1 c_sim.2.2.2.2.2.2.1 c_sim.2.2.2.2.2.2.2.1 c_sim.2.2.2.2.2.2.2.2.1 c_sim.2.2.2.2.2.2.2.2.2.1 c_sim.2.2.2.2.2.2.2.2.2.2.1 c_sim.2.2.2.2.2.2.2.2.2.2.2 c_sight)) (T := TX8) (N := 29) (ci := 8) K (ctX8_isTenant l D cyI cyJ cyS a0 v_2 c_latest c_typed c_room c_events c_gone c_sim.1 c_sights c_drawn c_tenants r_4 hc) (gdV mcL mw_10_5 mw_10_6 mw_10_7 mw_1_5 mw_10_8) rfl ⟨rfl, rfl⟩ hyX8_isTenant ⟨Nat.le_of_ble_eq_true rfl, Nat.le_of_ble_eq_true rfl, Nat.le_of_ble_eq_true rfl, Nat.le_of_ble_eq_true rfl⟩ [0] (by decide) rfl [some 0, none, none, none, none, none, none, none, none, none, none, none, none, none, none] (by decide) rfl rfl 0 rfl rfl rfl rfl (Nat.le_of_ble_eq_true rfl) dX8_isSeen_33 rfl rfl ?_
        refine j_if_eq (tgt := 74) K dX8_isSeen_36 (by decide) rfl h (fun h => ?_) (fun h => ?_)
        · refine j_sub [1, 3] (lv' := [(0, .ref (a0 0)), (2, .int i2)]) rfl ?_
          exact wX8_isSeen_74 K a0 c_latest c_typed c_drawn c_tenants c_room c_events c_gone c_sights c_tenant c_event c_sight o_r o_sim (fX8_isSeen_8 c_tenants c_room c_events c_gone c_sights c_tenant c_event c_sight n) (fun z0 z1 z2 hq => ih z0 z1 z2 hq) c_sim i2 h
        · refine j_aload_n K 1 rfl dX8_isSeen_39 rfl ?_
          refine j_getf (C := RX8) (T := TX8) (N := 29) (ci := 8) K icX8 0 21 (List.mem_cons_of_mem _ mw_5_23) rfl rfl rfl (by decide) rfl dX8_isSeen_40 rfl ?_
          refine j_bipush (v := (8 : Int32)) K (by decide) dX8_isSeen_43 rfl ?_
          refine j_aload_n K 1 rfl dX8_isSeen_45 rfl ?_
          refine j_getf (C := RX8) (T := TX8) (N := 29) (ci := 8) K icX8 0 26 (List.mem_cons_of_mem _ mw_6_2) rfl rfl rfl (by decide) rfl dX8_isSeen_46 rfl ?_
          refine j_iconst (v := (3 : Int32)) K (by decide) dX8_isSeen_49 rfl ?_
          refine j_iload_n K 3 rfl dX8_isSeen_50 rfl ?_
          refine j_imul K dX8_isSeen_51 rfl ?_
          refine j_iald K 14 0 rfl rfl dX8_isSeen_52 rfl h (fun v_5 h => ?_)
          refine j_imul K dX8_isSeen_53 rfl ?_
          refine j_iload_n K 0 rfl dX8_isSeen_54 rfl ?_
          refine j_iadd K dX8_isSeen_55 rfl ?_
          refine j_iald K 11 0 rfl rfl dX8_isSeen_56 rfl h (fun v_6 h => ?_)
          refine j_aload_n K 1 rfl dX8_isSeen_57 rfl ?_
          refine j_getf (C := RX8) (T := TX8) (N := 29) (ci := 8) K icX8 0 26 (List.mem_cons_of_mem _ mw_6_2) rfl rfl rfl (by decide) rfl dX8_isSeen_58 rfl ?_
          refine j_iconst (v := (3 : Int32)) K (by decide) dX8_isSeen_61 rfl ?_
          refine j_iload_n K 3 rfl dX8_isSeen_62 rfl ?_
          refine j_imul K dX8_isSeen_63 rfl ?_
          refine j_iconst (v := (2 : Int32)) K (by decide) dX8_isSeen_64 rfl ?_
          refine j_iadd K dX8_isSeen_65 rfl ?_
          refine j_iald K 14 0 rfl rfl dX8_isSeen_66 rfl h (fun v_7 h => ?_)
          refine j_icmp_ne (tgt := 74) K dX8_isSeen_67 (by decide) rfl h (fun h => ?_) (fun h => ?_)
          · refine j_sub [1, 3] (lv' := [(0, .ref (a0 0)), (2, .int i2)]) rfl ?_
            exact wX8_isSeen_74 K a0 c_latest c_typed c_drawn c_tenants c_room c_events c_gone c_sights c_tenant c_event c_sight o_r o_sim (fX8_isSeen_8 c_tenants c_room c_events c_gone c_sights c_tenant c_event c_sight n) (fun z0 z1 z2 hq => ih z0 z1 z2 hq) c_sim i2 h
          · refine j_iconst (v := (1 : Int32)) K (by decide) dX8_isSeen_70 rfl ?_
            refine j_goto (pc' := 75) K dX8_isSeen_71 (by decide) ?_
            refine j_sub [1, 3] (lv' := [(0, .ref (a0 0)), (2, .int i2)]) rfl ?_
            exact wX8_isSeen_75 K a0 c_latest c_typed c_drawn c_tenants c_room c_events c_gone c_sights c_tenant c_event c_sight o_r o_sim (fX8_isSeen_8 c_tenants c_room c_events c_gone c_sights c_tenant c_event c_sight n) (fun z0 z1 z2 hq => ih z0 z1 z2 hq) c_sim i2 (1 : Int32) h
set_option maxRecDepth 100000 in
set_option maxHeartbeats 4000000 in
theorem ctX8_isSeen (l : Launch) (D : va_G) (cyI cyJ cyS : ClassId) (a0 : Nat → Nat) (c_latest : Int32) (c_typed : Int32) (c_drawn : Int32) (c_tenants : Int32) (c_room : Int32) (c_events : Int32) (c_gone : Int32) (c_sights : Int32) (c_tenant : Nat → Int32) (c_event : Nat → Int32) (c_sight : Nat → Int32) (c_sim : jT11) (o_r : Int32) (o_sim : jT11) (h : fX8_isSeen c_tenants c_room c_events c_gone c_sights c_tenant c_event c_sight c_sim = some (o_r, o_sim)) : jC l yX8_isSeen wdX8_isSeen rmX8_isSeen D vwCl (tyz cyI cyJ cyS) [.ref (a0 0)] (uX8_isSeen cyI cyJ cyS a0 c_latest c_typed c_tenants c_room c_events c_gone c_sim.1 c_sights c_drawn c_tenant c_event c_sim.2.1 c_sim.2.2.1 c_sim.2.2.2.1 c_sim.2.2.2.2.1 c_sim.2.2.2.2.2.1 c_sim.2.2.2.2.2.2.1 c_sim.2.2.2.2.2.2.2.1 c_sim.2.2.2.2.2.2.2.2.1 c_sim.2.2.2.2.2.2.2.2.2.1 c_sim.2.2.2.2.2.2.2.2.2.2.1 c_sim.2.2.2.2.2.2.2.2.2.2.2 c_sight) (some (.int o_r)) (uX8_isSeen cyI cyJ cyS a0 c_latest c_typed c_tenants c_room c_events c_gone o_sim.1 c_sights c_drawn c_tenant c_event o_sim.2.1 o_sim.2.2.1 o_sim.2.2.2.1 o_sim.2.2.2.2.1 o_sim.2.2.2.2.2.1 o_sim.2.2.2.2.2.2.1 o_sim.2.2.2.2.2.2.2.1 o_sim.2.2.2.2.2.2.2.2.1 o_sim.2.2.2.2.2.2.2.2.2.1 o_sim.2.2.2.2.2.2.2.2.2.2.1 o_sim.2.2.2.2.2.2.2.2.2.2.2 c_sight) := by
  refine jC_of (cc := cX8_isSeen) (nL := 4) (ret := (some .boolean)) (own := RX8) (lv := [(0, .ref (a0 0))]) (by decide) rfl rfl (Nat.le_of_ble_eq_true rfl) rfl ?_
  intro p e s m args below meth c A K
  unfold fX8_isSeen at h
  refine j_aload_n K 0 rfl dX8_isSeen_0 rfl ?_
  obtain ⟨c_sim_1, hc, h⟩ := bd1_some h
  refine j_callV (rest := []) (st1 := []) (ws' := (uX8_isSeen cyI cyJ cyS a0 c_latest c_typed c_tenants c_room c_events c_gone c_sim_1.1 c_sights c_drawn c_tenant c_event c_sim_1.2.1 c_sim_1.2.2.1 c_sim_1.2.2.2.1 c_sim_1.2.2.2.2.1 c_sim_1.2.2.2.2.2.1 c_sim_1.2.2.2.2.2.2.1 c_sim_1.2.2.2.2.2.2.2.1 c_sim_1.2.2.2.2.2.2.2.2.1 c_sim_1.2.2.2.2.2.2.2.2.2.1 c_sim_1.2.2.2.2.2.2.2.2.2.2.1 c_sim_1.2.2.2.2.2.2.2.2.2.2.2 c_sight)) (T := TX8) (N := 29) (ci := 8) K (ctX8_lives l D cyI cyJ cyS a0 c_latest c_typed c_sights c_drawn c_tenants c_room c_events c_gone c_tenant c_event c_sim c_sim_1 hc) (gdV mcL mw_17_16 mw_17_17 mw_17_18 mw_1_5 mw_17_19) rfl ⟨rfl, rfl⟩ hyX8_lives ⟨Nat.le_of_ble_eq_true rfl, Nat.le_of_ble_eq_true rfl, Nat.le_of_ble_eq_true rfl, Nat.le_of_ble_eq_true rfl⟩ [0, 1, 2, 3, 4, 5, 6, 7, 8, 9, 10, 11, 12, 13] (by decide) rfl [some 0, some 1, some 2, some 3, some 4, some 5, some 6, some 7, some 8, some 9, some 10, some 11, some 12, some 13, none] (by decide) rfl rfl 0 rfl rfl rfl rfl (Nat.le_of_ble_eq_true rfl) dX8_isSeen_1 rfl rfl ?_
  refine j_iconst (v := (1 : Int32)) K (by decide) dX8_isSeen_4 rfl ?_
  refine j_istore_n (lv' := [(1, .int (1 : Int32)), (0, .ref (a0 0))]) K (by decide) rfl dX8_isSeen_5 rfl ?_
  refine j_iconst (v := (0 : Int32)) K (by decide) dX8_isSeen_6 rfl ?_
  refine j_istore_n (lv' := [(2, .int (0 : Int32)), (1, .int (1 : Int32)), (0, .ref (a0 0))]) K (by decide) rfl dX8_isSeen_7 rfl ?_
  refine j_sub [2, 1, 0] (lv' := [(0, .ref (a0 0)), (1, .int (1 : Int32)), (2, .int (0 : Int32))]) rfl ?_
  exact wX8_isSeen_8 K a0 c_latest c_typed c_drawn c_tenants c_room c_events c_gone c_sights c_tenant c_event c_sight o_r o_sim jF c_sim_1 (1 : Int32) (0 : Int32) h
end GEN
