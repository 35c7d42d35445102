section GEN
variable {p : Program} {l : Launch} {e : Env} {s : State} {m : MethodId} {args : Array Value} {below : List Frame} {meth : Method} {c : Code} {A : Nat → Prop} {D : va_G} {cyI cyJ cyS : ClassId}
abbrev uX8_manyHoused (cyI cyJ cyS : ClassId) (a0 : Nat → Nat) (c_latest : Int32) (c_typed : Int32) (c_tenants : Int32) (c_room : Int32) (c_events : Int32) (c_gone : Int32) (c_audit : Int32) (c_sights : Int32) (c_drawn : Int32) (c_floor : Nat → Int32) : va_W := [((a0 0), .inr (8, [.ref (a0 1), .ref (a0 2), .ref (a0 3), .ref (a0 4), .int c_latest, .ref (a0 5), .int c_typed, .int c_tenants, .ref (a0 6), .int c_room, .int c_events, .ref (a0 7), .int c_gone, .ref (a0 8), .ref (a0 9), .ref (a0 10), .ref (a0 11), .ref (a0 12), .ref (a0 13), .ref (a0 14), .ref (a0 15), .ref (a0 16), .ref (a0 17), .ref (a0 18), .int c_audit, .int c_sights, .ref (a0 19), .ref (a0 20), .int c_drawn])), ((a0 8), .inl (cyI, 8, .inl c_floor))]
abbrev rmX8_manyHoused : Room := { frames := 0, cells := 0, slots := 0, locals := 0 }
abbrev wdX8_manyHoused : List Cond := .code yX8_manyHoused cX8_manyHoused 3 (some .int) :: wsL_law
theorem hyX8_manyHoused : yX8_manyHoused.cls = RX8 ∧ yX8_manyHoused.cls ≠ "java/lang/invoke/MethodHandle" ∧ yX8_manyHoused.cls ≠ "java/lang/invoke/VarHandle" ∧ (parseMethodDescriptor yX8_manyHoused.desc).map (fun d => d.parameters.length) = some 0 := by decide +kernel
set_option maxRecDepth 100000 in
set_option maxHeartbeats 4000000 in
theorem wX8_manyHoused_27 (K : jK p s m args meth c A D vwCl (tyz cyI cyJ cyS) cX8_manyHoused 3 RX8 wdX8_manyHoused (some .int)) (a0 : Nat → Nat) (c_latest : Int32) (c_typed : Int32) (c_room : Int32) (c_events : Int32) (c_gone : Int32) (c_audit : Int32) (c_sights : Int32) (c_drawn : Int32) (c_tenants : Int32) (c_floor : Nat → Int32) (o_r : Int32)  (q_4 : Int32 → Int32 → Option (Int32)) (hq_4 : ∀ (i1 : Int32) (i2 : Int32), q_4 i1 i2 = some (o_r) → jw p l e rmX8_manyHoused s m args below meth c (jQ below args s A D vwCl (tyz cyI cyJ cyS) 0 0 (some (.int o_r)) (uX8_manyHoused cyI cyJ cyS a0 c_latest c_typed c_tenants c_room c_events c_gone c_audit c_sights c_drawn c_floor)) A D vwCl 3 0 0 4 [(0, .ref (a0 0)), (1, .int i1), (2, .int i2)] [] (uX8_manyHoused cyI cyJ cyS a0 c_latest c_typed c_tenants c_room c_events c_gone c_audit c_sights c_drawn c_floor)) : ∀ (i2 : Int32) (t0 : Int32) (t1 : Int32), fX8_manyHoused_27 c_tenants c_floor q_4 i2 t0 t1 = some (o_r) → jw p l e rmX8_manyHoused s m args below meth c (jQ below args s A D vwCl (tyz cyI cyJ cyS) 0 0 (some (.int o_r)) (uX8_manyHoused cyI cyJ cyS a0 c_latest c_typed c_tenants c_room c_events c_gone c_audit c_sights c_drawn c_floor)) A D vwCl 3 0 0 27 [(0, .ref (a0 0)), (2, .int i2)] [.int t0, .int t1] (uX8_manyHoused cyI cyJ cyS a0 c_latest c_typed c_tenants c_room c_events c_gone c_audit c_sights c_drawn c_floor) := by
  intro i2 t0 t1 h
  unfold fX8_manyHoused_27 at h
  refine j_iadd K dX8_manyHoused_27 rfl ?_
  refine j_nmI h (fun i1_2 h => ?_)
  refine j_istore_n (lv' := [(1, .int i1_2), (0, .ref (a0 0)), (2, .int i2)]) K (by decide) rfl dX8_manyHoused_28 rfl ?_
  refine j_iincN (lf := fun z => [(2, .int z), (1, .int i1_2), (0, .ref (a0 0))]) K (v := i2 + (1 : Int32)) (k := 2) rfl rfl (by decide) (fun _ => rfl) dX8_manyHoused_29 rfl h (fun i2_3 h => ?_)
  refine j_goto (pc' := 4) K dX8_manyHoused_32 (by decide) ?_
  refine j_sub [2, 1, 0] (lv' := [(0, .ref (a0 0)), (1, .int i1_2), (2, .int i2_3)]) rfl ?_
  exact hq_4 i1_2 i2_3 h
set_option maxRecDepth 100000 in
set_option maxHeartbeats 4000000 in
theorem wX8_manyHoused_4 (K : jK p s m args meth c A D vwCl (tyz cyI cyJ cyS) cX8_manyHoused 3 RX8 wdX8_manyHoused (some .int)) (a0 : Nat → Nat) (c_latest : Int32) (c_typed : Int32) (c_room : Int32) (c_events : Int32) (c_gone : Int32) (c_audit : Int32) (c_sights : Int32) (c_drawn : Int32) (c_tenants : Int32) (c_floor : Nat → Int32) (o_r : Int32)   : ∀ (n : Nat) (i1 : Int32) (i2 : Int32), fX8_manyHoused_4 c_tenants c_floor  n i1 i2 = some (o_r) → jw p l e rmX8_manyHoused s m args below meth c (jQ below args s A D vwCl (tyz cyI cyJ cyS) 0 0 (some (.int o_r)) (uX8_manyHoused cyI cyJ cyS a0 c_latest c_typed c_tenants c_room c_events c_gone c_audit c_sights c_drawn c_floor)) A D vwCl 3 0 0 4 [(0, .ref (a0 0)), (1, .int i1), (2, .int i2)] [] (uX8_manyHoused cyI cyJ cyS a0 c_latest c_typed c_tenants c_room c_events c_gone c_audit c_sights c_drawn c_floor) := by
  intro n
  induction n with
  | zero => intro i1 i2 h; cases h
  | succ n ih =>
    intro i1 i2 h
    have h : bX8_manyHoused_4 c_tenants c_floor  (fX8_manyHoused_4 c_tenants c_floor  n) i1 i2 = some (o_r) := h
    unfold bX8_manyHoused_4 at h
    refine j_iload_n K 2 rfl dX8_manyHoused_4 rfl ?_
    refine j_aload_n K 0 rfl dX8_manyHoused_5 rfl ?_
    refine j_getf (C := RX8) (T := TX8) (N := 29) (ci := 8) K icX8 0 7 (List.mem_cons_of_mem _ mw_9_6) rfl rfl rfl (by decide) rfl dX8_manyHoused_6 rfl ?_
    refine j_icmp_ge (tgt := 35) K dX8_manyHoused_9 (by decide) rfl h (fun h => ?_) (fun h => ?_)
    · refine j_iload_n K 1 rfl dX8_manyHoused_35 rfl ?_
      have h := Option.some.inj h
      subst h
      exact j_iret K dX8_manyHoused_36
    · refine j_iload_n K 1 rfl dX8_manyHoused_12 rfl ?_
      refine j_aload_n K 0 rfl dX8_manyHoused_13 rfl ?_
      refine j_getf (C := RX8) (T := TX8) (N := 29) (ci := 8) K icX8 0 13 (List.mem_cons_of_mem _ mw_5_15) rfl rfl rfl (by decide) rfl dX8_manyHoused_14 rfl ?_
      refine j_iload_n K 2 rfl dX8_manyHoused_17 rfl ?_
      refine j_iald K 1 0 rfl rfl dX8_manyHoused_18 rfl h (fun v_1 h => ?_)
      refine j_if_le (tgt := 26) K dX8_manyHoused_19 (by decide) rfl h (fun h => ?_) (fun h => ?_)
      · refine j_iconst (v := (0 : Int32)) K (by decide) dX8_manyHoused_26 rfl ?_
        refine j_sub [0, 2] (lv' := [(0, .ref (a0 0)), (2, .int i2)]) rfl ?_
        exact wX8_manyHoused_27 K a0 c_latest c_typed c_room c_events c_gone c_audit c_sights c_drawn c_tenants c_floor o_r (fX8_manyHoused_4 c_tenants c_floor n) (fun z0 z1 hq => ih z0 z1 hq) i2 (0 : Int32) i1 h
      · refine j_iconst (v := (1 : Int32)) K (by decide) dX8_manyHoused_22 rfl ?_
        refine j_goto (pc' := 27) K dX8_manyHoused_23 (by decide) ?_
        refine j_sub [0, 2] (lv' := [(0, .ref (a0 0)), (2, .int i2)]) rfl ?_
        exact wX8_manyHoused_27 K a0 c_latest c_typed c_room c_events c_gone c_audit c_sights c_drawn c_tenants c_floor o_r (fX8_manyHoused_4 c_tenants c_floor n) (fun z0 z1 hq => ih z0 z1 hq) i2 (1 : Int32) i1 h
set_option maxRecDepth 100000 in
set_option maxHeartbeats 4000000 in
theorem ctX8_manyHoused (l : Launch) (D : va_G) (cyI cyJ cyS : ClassId) (a0 : Nat → Nat) (c_latest : Int32) (c_typed : Int32) (c_room : Int32) (c_events : Int32) (c_gone : Int32) (c_audit : Int32) (c_sights : Int32) (c_drawn : Int32) (c_tenants : Int32) (c_floor : Nat → Int32) (o_r : Int32) (h : fX8_manyHoused c_tenants c_floor = some (o_r)) : jC l yX8_manyHoused wdX8_manyHoused rmX8_manyHoused D vwCl (tyz cyI cyJ cyS) [.ref (a0 0)] (uX8_manyHoused cyI cyJ cyS a0 c_latest c_typed c_tenants c_room c_events c_gone c_audit c_sights c_drawn c_floor) (some (.int o_r)) (uX8_manyHoused cyI cyJ cyS a0 c_latest c_typed c_tenants c_room c_events c_gone c_audit c_sights c_drawn c_floor) := by
  refine jC_of (cc := cX8_manyHoused) (nL := 3) (ret := (some .int)) (own := RX8) (lv := [(0, .ref (a0 0))]) (by decide) rfl rfl (Nat.le_of_ble_eq_true rfl) rfl ?_
  intro p e s m args below meth c A K
  unfold fX8_manyHoused at h
  refine j_iconst (v := (0 : Int32)) K (by decide) dX8_manyHoused_0 rfl ?_
  refine j_istore_n (lv' := [(1, .int (0 : Int32)), (0, .ref (a0 0))]) K (by decide) rfl dX8_manyHoused_1 rfl ?_
  refine j_iconst (v := (0 : Int32)) K (by decide) dX8_manyHoused_2 rfl ?_
  refine j_istore_n (lv' := [(2, .int (0 : Int32)), (1, .int (0 : Int32)), (0, .ref (a0 0))]) K (by decide) rfl dX8_manyHoused_3 rfl ?_
  refine j_sub [2, 1, 0] (lv' := [(0, .ref (a0 0)), (1, .int (0 : Int32)), (2, .int (0 : Int32))]) rfl ?_
  exact wX8_manyHoused_4 K a0 c_latest c_typed c_room c_events c_gone c_audit c_sights c_drawn c_tenants c_floor o_r jF (0 : Int32) (0 : Int32) h
end GEN
