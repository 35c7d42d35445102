section GEN
variable {p : Program} {l : Launch} {e : Env} {s : State} {m : MethodId} {args : Array Value} {below : List Frame} {meth : Method} {c : Code} {A : Nat → Prop} {D : va_G} {cyI cyJ cyS : ClassId}
abbrev uX8_between (cyI cyJ cyS : ClassId) (a0 : Nat → Nat) (c_latest : Int32) (c_typed : Int32) (c_tenants : Int32) (c_room : Int32) (c_events : Int32) (c_gone : Int32) (c_audit : Int32) (c_sights : Int32) (c_drawn : Int32) (c_floor : Nat → Int32) : va_W := [((a0 0), .inr (8, [.ref (a0 1), .ref (a0 2), .ref (a0 3), .ref (a0 4), .int c_latest, .ref (a0 5), .int c_typed, .int c_tenants, .ref (a0 6), .int c_room, .int c_events, .ref (a0 7), .int c_gone, .ref (a0 8), .ref (a0 9), .ref (a0 10), .ref (a0 11), .ref (a0 12), .ref (a0 13), .ref (a0 14), .ref (a0 15), .ref (a0 16), .ref (a0 17), .ref (a0 18), .int c_audit, .int c_sights, .ref (a0 19), .ref (a0 20), .int c_drawn])), ((a0 8), .inl (cyI, 8, .inl c_floor))]
abbrev rmX8_between : Room := { frames := 0, cells := 0, slots := 0, locals := 0 }
abbrev wdX8_between : List Cond := .code yX8_between cX8_between 5 (some .int) :: wsL_law
theorem hyX8_between : yX8_between.cls = RX8 ∧ yX8_between.cls ≠ "java/lang/invoke/MethodHandle" ∧ yX8_between.cls ≠ "java/lang/invoke/VarHandle" ∧ (parseMethodDescriptor yX8_between.desc).map (fun d => d.parameters.length) = some 2 := by decide +kernel
set_option maxRecDepth 100000 in
set_option maxHeartbeats 4000000 in
theorem wX8_between_42 (K : jK p s m args meth c A D vwCl (tyz cyI cyJ cyS) cX8_between 5 RX8 wdX8_between (some .int)) (a0 : Nat → Nat) (c_latest : Int32) (c_typed : Int32) (c_room : Int32) (c_events : Int32) (c_gone : Int32) (c_audit : Int32) (c_sights : Int32) (c_drawn : Int32) (i1 : Int32) (i2 : Int32) (c_tenants : Int32) (c_floor : Nat → Int32) (o_r : Int32)  (q_5 : Int32 → Int32 → Option (Int32)) (hq_5 : ∀ (i3 : Int32) (i4 : Int32), q_5 i3 i4 = some (o_r) → jw p l e rmX8_between s m args below meth c (jQ below args s A D vwCl (tyz cyI cyJ cyS) 0 0 (some (.int o_r)) (uX8_between cyI cyJ cyS a0 c_latest c_typed c_tenants c_room c_events c_gone c_audit c_sights c_drawn c_floor)) A D vwCl 5 0 0 5 [(0, .ref (a0 0)), (1, .int i1), (2, .int i2), (3, .int i3), (4, .int i4)] [] (uX8_between cyI cyJ cyS a0 c_latest c_typed c_tenants c_room c_events c_gone c_audit c_sights c_drawn c_floor)) : ∀ (i4 : Int32) (t0 : Int32) (t1 : Int32), fX8_between_42 i1 i2 c_tenants c_floor q_5 i4 t0 t1 = some (o_r) → jw p l e rmX8_between s m args below meth c (jQ below args s A D vwCl (tyz cyI cyJ cyS) 0 0 (some (.int o_r)) (uX8_between cyI cyJ cyS a0 c_latest c_typed c_tenants c_room c_events c_gone c_audit c_sights c_drawn c_floor)) A D vwCl 5 0 0 42 [(0, .ref (a0 0)), (1, .int i1), (2, .int i2), (4, .int i4)] [.int t0, .int t1] (uX8_between cyI cyJ cyS a0 c_latest c_typed c_tenants c_room c_events c_gone c_audit c_sights c_drawn c_floor) := by
  intro i4 t0 t1 h
  unfold fX8_between_42 at h
  refine j_iadd K dX8_between_42 rfl ?_
  refine j_nmI h (fun i3_2 h => ?_)
  refine j_istore_n (lv' := [(3, .int i3_2), (0, .ref (a0 0)), (1, .int i1), (2, .int i2), (4, .int i4)]) K (by decide) rfl dX8_between_43 rfl ?_
  refine j_iincN (lf := fun z => [(4, .int z), (3, .int i3_2), (0, .ref (a0 0)), (1, .int i1), (2, .int i2)]) K (v := i4 + (1 : Int32)) (k := 4) rfl rfl (by decide) (fun _ => rfl) dX8_between_44 rfl h (fun i4_3 h => ?_)
  refine j_goto (pc' := 5) K dX8_between_47 (by decide) ?_
  refine j_sub [2, 3, 4, 1, 0] (lv' := [(0, .ref (a0 0)), (1, .int i1), (2, .int i2), (3, .int i3_2), (4, .int i4_3)]) rfl ?_
  exact hq_5 i3_2 i4_3 h
set_option maxRecDepth 100000 in
set_option maxHeartbeats 4000000 in
theorem wX8_between_41 (K : jK p s m args meth c A D vwCl (tyz cyI cyJ cyS) cX8_between 5 RX8 wdX8_between (some .int)) (a0 : Nat → Nat) (c_latest : Int32) (c_typed : Int32) (c_room : Int32) (c_events : Int32) (c_gone : Int32) (c_audit : Int32) (c_sights : Int32) (c_drawn : Int32) (i1 : Int32) (i2 : Int32) (c_tenants : Int32) (c_floor : Nat → Int32) (o_r : Int32)  (q_5 : Int32 → Int32 → Option (Int32)) (hq_5 : ∀ (i3 : Int32) (i4 : Int32), q_5 i3 i4 = some (o_r) → jw p l e rmX8_between s m args below meth c (jQ below args s A D vwCl (tyz cyI cyJ cyS) 0 0 (some (.int o_r)) (uX8_between cyI cyJ cyS a0 c_latest c_typed c_tenants c_room c_events c_gone c_audit c_sights c_drawn c_floor)) A D vwCl 5 0 0 5 [(0, .ref (a0 0)), (1, .int i1), (2, .int i2), (3, .int i3), (4, .int i4)] [] (uX8_between cyI cyJ cyS a0 c_latest c_typed c_tenants c_room c_events c_gone c_audit c_sights c_drawn c_floor)) : ∀ (i4 : Int32) (t0 : Int32), fX8_between_41 i1 i2 c_tenants c_floor q_5 i4 t0 = some (o_r) → jw p l e rmX8_between s m args below meth c (jQ below args s A D vwCl (tyz cyI cyJ cyS) 0 0 (some (.int o_r)) (uX8_between cyI cyJ cyS a0 c_latest c_typed c_tenants c_room c_events c_gone c_audit c_sights c_drawn c_floor)) A D vwCl 5 0 0 41 [(0, .ref (a0 0)), (1, .int i1), (2, .int i2), (4, .int i4)] [.int t0] (uX8_between cyI cyJ cyS a0 c_latest c_typed c_tenants c_room c_events c_gone c_audit c_sights c_drawn c_floor) := by
  intro i4 t0 h
  unfold fX8_between_41 at h
  refine j_iconst (v := (0 : Int32)) K (by decide) dX8_between_41 rfl ?_
  refine j_sub [0, 1, 2, 3] (lv' := [(0, .ref (a0 0)), (1, .int i1), (2, .int i2), (4, .int i4)]) rfl ?_
  exact wX8_between_42 K a0 c_latest c_typed c_room c_events c_gone c_audit c_sights c_drawn i1 i2 c_tenants c_floor o_r q_5 hq_5 i4 (0 : Int32) t0 h
set_option maxRecDepth 100000 in
set_option maxHeartbeats 4000000 in
theorem wX8_between_5 (K : jK p s m args meth c A D vwCl (tyz cyI cyJ cyS) cX8_between 5 RX8 wdX8_between (some .int)) (a0 : Nat → Nat) (c_latest : Int32) (c_typed : Int32) (c_room : Int32) (c_events : Int32) (c_gone : Int32) (c_audit : Int32) (c_sights : Int32) (c_drawn : Int32) (i1 : Int32) (i2 : Int32) (c_tenants : Int32) (c_floor : Nat → Int32) (o_r : Int32)   : ∀ (n : Nat) (i3 : Int32) (i4 : Int32), fX8_between_5 i1 i2 c_tenants c_floor  n i3 i4 = some (o_r) → jw p l e rmX8_between s m args below meth c (jQ below args s A D vwCl (tyz cyI cyJ cyS) 0 0 (some (.int o_r)) (uX8_between cyI cyJ cyS a0 c_latest c_typed c_tenants c_room c_events c_gone c_audit c_sights c_drawn c_floor)) A D vwCl 5 0 0 5 [(0, .ref (a0 0)), (1, .int i1), (2, .int i2), (3, .int i3), (4, .int i4)] [] (uX8_between cyI cyJ cyS a0 c_latest c_typed c_tenants c_room c_events c_gone c_audit c_sights c_drawn c_floor) := by
  intro n
  induction n with
  | zero => intro i3 i4 h; cases h
  | succ n ih =>
    intro i3 i4 h
    have h : bX8_between_5 i1 i2 c_tenants c_floor  (fX8_between_5 i1 i2 c_tenants c_floor  n) i3 i4 = some (o_r) := h
    unfold bX8_between_5 at h
    refine j_iload K 4 rfl dX8_between_5 rfl ?_
    refine j_aload_n K 0 rfl dX8_between_7 rfl ?_
    refine j_getf (C := RX8) (T := TX8) (N := 29) (ci := 8) K icX8 0 7 (List.mem_cons_of_mem _ mw_9_6) rfl rfl rfl (by decide) rfl dX8_between_8 rfl ?_
    refine j_icmp_ge (tgt := 50) K dX8_between_11 (by decide) rfl h (fun h => ?_) (fun h => ?_)
    · refine j_iload_n K 3 rfl dX8_between_50 rfl ?_
      have h := Option.some.inj h
      subst h
      exact j_iret K dX8_between_51
    · refine j_iload_n K 3 rfl dX8_between_14 rfl ?_
      refine j_aload_n K 0 rfl dX8_between_15 rfl ?_
      refine j_getf (C := RX8) (T := TX8) (N := 29) (ci := 8) K icX8 0 13 (List.mem_cons_of_mem _ mw_5_15) rfl rfl rfl (by decide) rfl dX8_between_16 rfl ?_
      refine j_iload K 4 rfl dX8_between_19 rfl ?_
      refine j_iald K 1 0 rfl rfl dX8_between_21 rfl h (fun v_1 h => ?_)
      refine j_iload_n K 1 rfl dX8_between_22 rfl ?_
      refine j_icmp_le (tgt := 41) K dX8_between_23 (by decide) rfl h (fun h => ?_) (fun h => ?_)
      · refine j_sub [0, 1, 2, 4] (lv' := [(0, .ref (a0 0)), (1, .int i1), (2, .int i2), (4, .int i4)]) rfl ?_
        exact wX8_between_41 K a0 c_latest c_typed c_room c_events c_gone c_audit c_sights c_drawn i1 i2 c_tenants c_floor o_r (fX8_between_5 i1 i2 c_tenants c_floor n) (fun z0 z1 hq => ih z0 z1 hq) i4 i3 h
      · refine j_aload_n K 0 rfl dX8_between_26 rfl ?_
        refine j_getf (C := RX8) (T := TX8) (N := 29) (ci := 8) K icX8 0 13 (List.mem_cons_of_mem _ mw_5_15) rfl rfl rfl (by decide) rfl dX8_between_27 rfl ?_
        refine j_iload K 4 rfl dX8_between_30 rfl ?_
        refine j_iald K 1 0 rfl rfl dX8_between_32 rfl h (fun v_4 h => ?_)
        refine j_iload_n K 2 rfl dX8_between_33 rfl ?_
        refine j_icmp_ge (tgt := 41) K dX8_between_34 (by decide) rfl h (fun h => ?_) (fun h => ?_)
        · refine j_sub [0, 1, 2, 4] (lv' := [(0, .ref (a0 0)), (1, .int i1), (2, .int i2), (4, .int i4)]) rfl ?_
          exact wX8_between_41 K a0 c_latest c_typed c_room c_events c_gone c_audit c_sights c_drawn i1 i2 c_tenants c_floor o_r (fX8_between_5 i1 i2 c_tenants c_floor n) (fun z0 z1 hq => ih z0 z1 hq) i4 i3 h
        · refine j_iconst (v := (1 : Int32)) K (by decide) dX8_between_37 rfl ?_
          refine j_goto (pc' := 42) K dX8_between_38 (by decide) ?_
          refine j_sub [0, 1, 2, 4] (lv' := [(0, .ref (a0 0)), (1, .int i1), (2, .int i2), (4, .int i4)]) rfl ?_
          exact wX8_between_42 K a0 c_latest c_typed c_room c_events c_gone c_audit c_sights c_drawn i1 i2 c_tenants c_floor o_r (fX8_between_5 i1 i2 c_tenants c_floor n) (fun z0 z1 hq => ih z0 z1 hq) i4 (1 : Int32) i3 h
set_option maxRecDepth 100000 in
set_option maxHeartbeats 4000000 in
theorem ctX8_between (l : Launch) (D : va_G) (cyI cyJ cyS : ClassId) (a0 : Nat → Nat) (i1 : Int32) (i2 : Int32) (c_latest : Int32) (c_typed : Int32) (c_room : Int32) (c_events : Int32) (c_gone : Int32) (c_audit : Int32) (c_sights : Int32) (c_drawn : Int32) (c_tenants : Int32) (c_floor : Nat → Int32) (o_r : Int32) (h : fX8_between i1 i2 c_tenants c_floor = some (o_r)) : jC l yX8_between wdX8_between rmX8_between D vwCl (tyz cyI cyJ cyS) [.ref (a0 0), .int i1, .int i2] (uX8_between cyI cyJ cyS a0 c_latest c_typed c_tenants c_room c_events c_gone c_audit c_sights c_drawn c_floor) (some (.int o_r)) (uX8_between cyI cyJ cyS a0 c_latest c_typed c_tenants c_room c_events c_gone c_audit c_sights c_drawn c_floor) := by
  refine jC_of (cc := cX8_between) (nL := 5) (ret := (some .int)) (own := RX8) (lv := [(0, .ref (a0 0)), (1, .int i1), (2, .int i2)]) (by decide) rfl rfl (Nat.le_of_ble_eq_true rfl) rfl ?_
  intro p e s m args below meth c A K
  unfold fX8_between at h
  refine j_iconst (v := (0 : Int32)) K (by decide) dX8_between_0 rfl ?_
  refine j_istore_n (lv' := [(3, .int (0 : Int32)), (0, .ref (a0 0)), (1, .int i1), (2, .int i2)]) K (by decide) rfl dX8_between_1 rfl ?_
  refine j_iconst (v := (0 : Int32)) K (by decide) dX8_between_2 rfl ?_
  refine j_istore (lv' := [(4, .int (0 : Int32)), (3, .int (0 : Int32)), (0, .ref (a0 0)), (1, .int i1), (2, .int i2)]) K (by decide) rfl dX8_between_3 rfl ?_
  refine j_sub [2, 3, 4, 1, 0] (lv' := [(0, .ref (a0 0)), (1, .int i1), (2, .int i2), (3, .int (0 : Int32)), (4, .int (0 : Int32))]) rfl ?_
  exact wX8_between_5 K a0 c_latest c_typed c_room c_events c_gone c_audit c_sights c_drawn i1 i2 c_tenants c_floor o_r jF (0 : Int32) (0 : Int32) h
end GEN
