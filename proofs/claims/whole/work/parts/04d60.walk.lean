section GEN
variable {p : Program} {l : Launch} {e : Env} {s : State} {m : MethodId} {args : Array Value} {below : List Frame} {meth : Method} {c : Code} {A : Nat → Prop} {D : va_G} {cyI cyJ cyS : ClassId}
abbrev uX8_manySettled (cyI cyJ cyS : ClassId) (a0 : Nat → Nat) (c_latest : Int32) (c_typed : Int32) (c_tenants : Int32) (c_room : Int32) (c_events : Int32) (c_gone : Int32) (c_audit : Int32) (c_sights : Int32) (c_drawn : Int32) (c_settled : Nat → Int32) : va_W := [((a0 0), .inr (8, [.ref (a0 1), .ref (a0 2), .ref (a0 3), .ref (a0 4), .int c_latest, .ref (a0 5), .int c_typed, .int c_tenants, .ref (a0 6), .int c_room, .int c_events, .ref (a0 7), .int c_gone, .ref (a0 8), .ref (a0 9), .ref (a0 10), .ref (a0 11), .ref (a0 12), .ref (a0 13), .ref (a0 14), .ref (a0 15), .ref (a0 16), .ref (a0 17), .ref (a0 18), .int c_audit, .int c_sights, .ref (a0 19), .ref (a0 20), .int c_drawn])), ((a0 11), .inl (cyI, 8, .inl c_settled))]
abbrev rmX8_manySettled : Room := { frames := 0, cells := 0, slots := 0, locals := 0 }
abbrev wdX8_manySettled : List Cond := .code yX8_manySettled cX8_manySettled 3 (some .int) :: wsL_law
theorem hyX8_manySettled : yX8_manySettled.cls = RX8 ∧ yX8_manySettled.cls ≠ "java/lang/invoke/MethodHandle" ∧ yX8_manySettled.cls ≠ "java/lang/invoke/VarHandle" ∧ (parseMethodDescriptor yX8_manySettled.desc).map (fun d => d.parameters.length) = some 0 := by decide +kernel
set_option maxRecDepth 100000 in
set_option maxHeartbeats 4000000 in
theorem wX8_manySettled_28 (K : jK p s m args meth c A D vwCl (tyz cyI cyJ cyS) cX8_manySettled 3 RX8 wdX8_manySettled (some .int)) (a0 : Nat → Nat) (c_latest : Int32) (c_typed : Int32) (c_room : Int32) (c_events : Int32) (c_gone : Int32) (c_audit : Int32) (c_sights : Int32) (c_drawn : Int32) (c_tenants : Int32) (c_settled : Nat → Int32) (o_r : Int32)  (q_4 : Int32 → Int32 → Option (Int32)) (hq_4 : ∀ (i1 : Int32) (i2 : Int32), q_4 i1 i2 = some (o_r) → jw p l e rmX8_manySettled s m args below meth c (jQ below args s A D vwCl (tyz cyI cyJ cyS) 0 0 (some (.int o_r)) (uX8_manySettled cyI cyJ cyS a0 c_latest c_typed c_tenants c_room c_events c_gone c_audit c_sights c_drawn c_settled)) A D vwCl 3 0 0 4 [(0, .ref (a0 0)), (1, .int i1), (2, .int i2)] [] (uX8_manySettled cyI cyJ cyS a0 c_latest c_typed c_tenants c_room c_events c_gone c_audit c_sights c_drawn c_settled)) : ∀ (i2 : Int32) (t0 : Int32) (t1 : Int32), fX8_manySettled_28 c_tenants c_settled q_4 i2 t0 t1 = some (o_r) → jw p l e rmX8_manySettled s m args below meth c (jQ below args s A D vwCl (tyz cyI cyJ cyS) 0 0 (some (.int o_r)) (uX8_manySettled cyI cyJ cyS a0 c_latest c_typed c_tenants c_room c_events c_gone c_audit c_sights c_drawn c_settled)) A D vwCl 3 0 0 28 [(0, .ref (a0 0)), (2, .int i2)] [.int t0, .int t1] (uX8_manySettled cyI cyJ cyS a0 c_latest c_typed c_tenants c_room c_events c_gone c_audit c_sights c_drawn c_settled) := by
  intro i2 t0 t1 h
  unfold fX8_manySettled_28 at h
  refine j_iadd K dX8_manySettled_28 rfl ?_
  refine j_nmI h (fun i1_2 h => ?_)
  refine j_istore_n (lv' := [(1, .int i1_2), (0, .ref (a0 0)), (2, .int i2)]) K (by decide) rfl dX8_manySettled_29 rfl ?_
  refine j_iincN (lf := fun z => [(2, .int z), (1, .int i1_2), (0, .ref (a0 0))]) K (v := i2 + (1 : Int32)) (k := 2) rfl rfl (by decide) (fun _ => rfl) dX8_manySettled_30 rfl h (fun i2_3 h => ?_)
  refine j_goto (pc' := 4) K dX8_manySettled_33 (by decide) ?_
  refine j_sub [2, 1, 0] (lv' := [(0, .ref (a0 0)), (1, .int i1_2), (2, .int i2_3)]) rfl ?_
  exact hq_4 i1_2 i2_3 h
set_option maxRecDepth 100000 in
set_option maxHeartbeats 4000000 in
theorem wX8_manySettled_4 (K : jK p s m args meth c A D vwCl (tyz cyI cyJ cyS) cX8_manySettled 3 RX8 wdX8_manySettled (some .int)) (a0 : Nat → Nat) (c_latest : Int32) (c_typed : Int32) (c_room : Int32) (c_events : Int32) (c_gone : Int32) (c_audit : Int32) (c_sights : Int32) (c_drawn : Int32) (c_tenants : Int32) (c_settled : Nat → Int32) (o_r : Int32)   : ∀ (n : Nat) (i1 : Int32) (i2 : Int32), fX8_manySettled_4 c_tenants c_settled  n i1 i2 = some (o_r) → jw p l e rmX8_manySettled s m args below meth c (jQ below args s A D vwCl (tyz cyI cyJ cyS) 0 0 (some (.int o_r)) (uX8_manySettled cyI cyJ cyS a0 c_latest c_typed c_tenants c_room c_events c_gone c_audit c_sights c_drawn c_settled)) A D vwCl 3 0 0 4 [(0, .ref (a0 0)), (1, .int i1), (2, .int i2)] [] (uX8_manySettled cyI cyJ cyS a0 c_latest c_typed c_tenants c_room c_events c_gone c_audit c_sights c_drawn c_settled) := by
  intro n
  induction n with
  | zero => intro i1 i2 h; cases h
  | succ n ih =>
    intro i1 i2 h
    have h : bX8_manySettled_4 c_tenants c_settled  (fX8_manySettled_4 c_tenants c_settled  n) i1 i2 = some (o_r) := h
    unfold bX8_manySettled_4 at h
    refine j_iload_n K 2 rfl dX8_manySettled_4 rfl ?_
    refine j_aload_n K 0 rfl dX8_manySettled_5 rfl ?_
    refine j_getf (C := RX8) (T := TX8) (N := 29) (ci := 8) K icX8 0 7 (List.mem_cons_of_mem _ mw_9_6) rfl rfl rfl (by decide) rfl dX8_manySettled_6 rfl ?_
    refine j_icmp_ge (tgt := 36) K dX8_manySettled_9 (by decide) rfl h (fun h => ?_) (fun h => ?_)
    · refine j_iload_n K 1 rfl dX8_manySettled_36 rfl ?_
      have h := Option.some.inj h
      subst h
      exact j_iret K dX8_manySettled_37
    · refine j_iload_n K 1 rfl dX8_manySettled_12 rfl ?_
      refine j_aload_n K 0 rfl dX8_manySettled_13 rfl ?_
      refine j_getf (C := RX8) (T := TX8) (N := 29) (ci := 8) K icX8 0 16 (List.mem_cons_of_mem _ mw_5_18) rfl rfl rfl (by decide) rfl dX8_manySettled_14 rfl ?_
      refine j_iload_n K 2 rfl dX8_manySettled_17 rfl ?_
      refine j_iald K 1 0 rfl rfl dX8_manySettled_18 rfl h (fun v_1 h => ?_)
      refine j_iconst (v := (-1 : Int32)) K (by decide) dX8_manySettled_19 rfl ?_
      refine j_icmp_eq (tgt := 27) K dX8_manySettled_20 (by decide) rfl h (fun h => ?_) (fun h => ?_)
      · refine j_iconst (v := (0 : Int32)) K (by decide) dX8_manySettled_27 rfl ?_
        refine j_sub [0, 2] (lv' := [(0, .ref (a0 0)), (2, .int i2)]) rfl ?_
        exact wX8_manySettled_28 K a0 c_latest c_typed c_room c_events c_gone c_audit c_sights c_drawn c_tenants c_settled o_r (fX8_manySettled_4 c_tenants c_settled n) (fun z0 z1 hq => ih z0 z1 hq) i2 (0 : Int32) i1 h
      · refine j_iconst (v := (1 : Int32)) K (by decide) dX8_manySettled_23 rfl ?_
        refine j_goto (pc' := 28) K dX8_manySettled_24 (by decide) ?_
        refine j_sub [0, 2] (lv' := [(0, .ref (a0 0)), (2, .int i2)]) rfl ?_
        exact wX8_manySettled_28 K a0 c_latest c_typed c_room c_events c_gone c_audit c_sights c_drawn c_tenants c_settled o_r (fX8_manySettled_4 c_tenants c_settled n) (fun z0 z1 hq => ih z0 z1 hq) i2 (1 : Int32) i1 h
set_option maxRecDepth 100000 in
set_option maxHeartbeats 4000000 in
theorem ctX8_manySettled (l : Launch) (D : va_G) (cyI cyJ cyS : ClassId) (a0 : Nat → Nat) (c_latest : Int32) (c_typed : Int32) (c_room : Int32) (c_events : Int32) (c_gone : Int32) (c_audit : Int32) (c_sights : Int32) (c_drawn : Int32) (c_tenants : Int32) (c_settled : Nat → Int32) (o_r : Int32) (h : fX8_manySettled c_tenants c_settled = some (o_r)) : jC l yX8_manySettled wdX8_manySettled rmX8_manySettled D vwCl (tyz cyI cyJ cyS) [.ref (a0 0)] (uX8_manySettled cyI cyJ cyS a0 c_latest c_typed c_tenants c_room c_events c_gone c_audit c_sights c_drawn c_settled) (some (.int o_r)) (uX8_manySettled cyI cyJ cyS a0 c_latest c_typed c_tenants c_room c_events c_gone c_audit c_sights c_drawn c_settled) := by
  refine jC_of (cc := cX8_manySettled) (nL := 3) (ret := (some .int)) (own := RX8) (lv := [(0, .ref (a0 0))]) (by decide) rfl rfl (Nat.le_of_ble_eq_true rfl) rfl ?_
  intro p e s m args below meth c A K
  unfold fX8_manySettled at h
  refine j_iconst (v := (0 : Int32)) K (by decide) dX8_manySettled_0 rfl ?_
  refine j_istore_n (lv' := [(1, .int (0 : Int32)), (0, .ref (a0 0))]) K (by decide) rfl dX8_manySettled_1 rfl ?_
  refine j_iconst (v := (0 : Int32)) K (by decide) dX8_manySettled_2 rfl ?_
  refine j_istore_n (lv' := [(2, .int (0 : Int32)), (1, .int (0 : Int32)), (0, .ref (a0 0))]) K (by decide) rfl dX8_manySettled_3 rfl ?_
  refine j_sub [2, 1, 0] (lv' := [(0, .ref (a0 0)), (1, .int (0 : Int32)), (2, .int (0 : Int32))]) rfl ?_
  exact wX8_manySettled_4 K a0 c_latest c_typed c_room c_events c_gone c_audit c_sights c_drawn c_tenants c_settled o_r jF (0 : Int32) (0 : Int32) h
abbrev uX8_allFell (cyI cyJ cyS : ClassId) (a0 : Nat → Nat) (c_latest : Int32) (c_typed : Int32) (c_tenants : Int32) (c_room : Int32) (c_events : Int32) (c_gone : Int32) (c_audit : Int32) (c_sights : Int32) (c_drawn : Int32) (c_fell : Nat → Int32) : va_W := [((a0 0), .inr (8, [.ref (a0 1), .ref (a0 2), .ref (a0 3), .ref (a0 4), .int c_latest, .ref (a0 5), .int c_typed, .int c_tenants, .ref (a0 6), .int c_room, .int c_events, .ref (a0 7), .int c_gone, .ref (a0 8), .ref (a0 9), .ref (a0 10), .ref (a0 11), .ref (a0 12), .ref (a0 13), .ref (a0 14), .ref (a0 15), .ref (a0 16), .ref (a0 17), .ref (a0 18), .int c_audit, .int c_sights, .ref (a0 19), .ref (a0 20), .int c_drawn])), ((a0 12), .inl (cyI, 8, .inl c_fell))]
abbrev rmX8_allFell : Room := { frames := 0, cells := 0, slots := 0, locals := 0 }
abbrev wdX8_allFell : List Cond := .code yX8_allFell cX8_allFell 3 (some .int) :: wsL_law
theorem hyX8_allFell : yX8_allFell.cls = RX8 ∧ yX8_allFell.cls ≠ "java/lang/invoke/MethodHandle" ∧ yX8_allFell.cls ≠ "java/lang/invoke/VarHandle" ∧ (parseMethodDescriptor yX8_allFell.desc).map (fun d => d.parameters.length) = some 0 := by decide +kernel
set_option maxRecDepth 100000 in
set_option maxHeartbeats 4000000 in
theorem wX8_allFell_4 (K : jK p s m args meth c A D vwCl (tyz cyI cyJ cyS) cX8_allFell 3 RX8 wdX8_allFell (some .int)) (a0 : Nat → Nat) (c_latest : Int32) (c_typed : Int32) (c_room : Int32) (c_events : Int32) (c_gone : Int32) (c_audit : Int32) (c_sights : Int32) (c_drawn : Int32) (c_tenants : Int32) (c_fell : Nat → Int32) (o_r : Int32)   : ∀ (n : Nat) (i1 : Int32) (i2 : Int32), fX8_allFell_4 c_tenants c_fell  n i1 i2 = some (o_r) → jw p l e rmX8_allFell s m args below meth c (jQ below args s A D vwCl (tyz cyI cyJ cyS) 0 0 (some (.int o_r)) (uX8_allFell cyI cyJ cyS a0 c_latest c_typed c_tenants c_room c_events c_gone c_audit c_sights c_drawn c_fell)) A D vwCl 3 0 0 4 [(0, .ref (a0 0)), (1, .int i1), (2, .int i2)] [] (uX8_allFell cyI cyJ cyS a0 c_latest c_typed c_tenants c_room c_events c_gone c_audit c_sights c_drawn c_fell) := by
  intro n
  induction n with
  | zero => intro i1 i2 h; cases h
  | succ n ih =>
    intro i1 i2 h
    have h : bX8_allFell_4 c_tenants c_fell  (fX8_allFell_4 c_tenants c_fell  n) i1 i2 = some (o_r) := h
    unfold bX8_allFell_4 at h
    refine j_iload_n K 2 rfl dX8_allFell_4 rfl ?_
    refine j_aload_n K 0 rfl dX8_allFell_5 rfl ?_
    refine j_getf (C := RX8) (T := TX8) (N := 29) (ci := 8) K icX8 0 7 (List.mem_cons_of_mem _ mw_9_6) rfl rfl rfl (by decide) rfl dX8_allFell_6 rfl ?_
    refine j_icmp_ge (tgt := 27) K dX8_allFell_9 (by decide) rfl h (fun h => ?_) (fun h => ?_)
    · refine j_iload_n K 1 rfl dX8_allFell_27 rfl ?_
      have h := Option.some.inj h
      subst h
      exact j_iret K dX8_allFell_28
    · refine j_iload_n K 1 rfl dX8_allFell_12 rfl ?_
      refine j_aload_n K 0 rfl dX8_allFell_13 rfl ?_
      refine j_getf (C := RX8) (T := TX8) (N := 29) (ci := 8) K icX8 0 17 (List.mem_cons_of_mem _ mw_5_19) rfl rfl rfl (by decide) rfl dX8_allFell_14 rfl ?_
      refine j_iload_n K 2 rfl dX8_allFell_17 rfl ?_
      refine j_iald K 1 0 rfl rfl dX8_allFell_18 rfl h (fun v_1 h => ?_)
      refine j_iadd K dX8_allFell_19 rfl ?_
      refine j_nmI h (fun i1_2 h => ?_)
      refine j_istore_n (lv' := [(1, .int i1_2), (0, .ref (a0 0)), (2, .int i2)]) K (by decide) rfl dX8_allFell_20 rfl ?_
      refine j_iincN (lf := fun z => [(2, .int z), (1, .int i1_2), (0, .ref (a0 0))]) K (v := i2 + (1 : Int32)) (k := 2) rfl rfl (by decide) (fun _ => rfl) dX8_allFell_21 rfl h (fun i2_3 h => ?_)
      refine j_goto (pc' := 4) K dX8_allFell_24 (by decide) ?_
      refine j_sub [2, 1, 0] (lv' := [(0, .ref (a0 0)), (1, .int i1_2), (2, .int i2_3)]) rfl ?_
      exact ih i1_2 i2_3 h
set_option maxRecDepth 100000 in
set_option maxHeartbeats 4000000 in
theorem ctX8_allFell (l : Launch) (D : va_G) (cyI cyJ cyS : ClassId) (a0 : Nat → Nat) (c_latest : Int32) (c_typed : Int32) (c_room : Int32) (c_events : Int32) (c_gone : Int32) (c_audit : Int32) (c_sights : Int32) (c_drawn : Int32) (c_tenants : Int32) (c_fell : Nat → Int32) (o_r : Int32) (h : fX8_allFell c_tenants c_fell = some (o_r)) : jC l yX8_allFell wdX8_allFell rmX8_allFell D vwCl (tyz cyI cyJ cyS) [.ref (a0 0)] (uX8_allFell cyI cyJ cyS a0 c_latest c_typed c_tenants c_room c_events c_gone c_audit c_sights c_drawn c_fell) (some (.int o_r)) (uX8_allFell cyI cyJ cyS a0 c_latest c_typed c_tenants c_room c_events c_gone c_audit c_sights c_drawn c_fell) := by
  refine jC_of (cc := cX8_allFell) (nL := 3) (ret := (some .int)) (own := RX8) (lv := [(0, .ref (a0 0))]) (by decide) rfl rfl (Nat.le_of_ble_eq_true rfl) rfl ?_
  intro p e s m args below meth c A K
  unfold fX8_allFell at h
  refine j_iconst (v := (0 : Int32)) K (by decide) dX8_allFell_0 rfl ?_
  refine j_istore_n (lv' := [(1, .int (0 : Int32)), (0, .ref (a0 0))]) K (by decide) rfl dX8_allFell_1 rfl ?_
  refine j_iconst (v := (0 : Int32)) K (by decide) dX8_allFell_2 rfl ?_
  refine j_istore_n (lv' := [(2, .int (0 : Int32)), (1, .int (0 : Int32)), (0, .ref (a0 0))]) K (by decide) rfl dX8_allFell_3 rfl ?_
  refine j_sub [2, 1, 0] (lv' := [(0, .ref (a0 0)), (1, .int (0 : Int32)), (2, .int (0 : Int32))]) rfl ?_
  exact wX8_allFell_4 K a0 c_latest c_typed c_room c_events c_gone c_audit c_sights c_drawn c_tenants c_fell o_r jF (0 : Int32) (0 : Int32) h
abbrev uX8_allPast (cyI cyJ cyS : ClassId) (a0 : Nat → Nat) (c_latest : Int32) (c_typed : Int32) (c_tenants : Int32) (c_room : Int32) (c_events : Int32) (c_gone : Int32) (c_audit : Int32) (c_sights : Int32) (c_drawn : Int32) (c_past : Nat → Int32) : va_W := [((a0 0), .inr (8, [.ref (a0 1), .ref (a0 2), .ref (a0 3), .ref (a0 4), .int c_latest, .ref (a0 5), .int c_typed, .int c_tenants, .ref (a0 6), .int c_room, .int c_events, .ref (a0 7), .int c_gone, .ref (a0 8), .ref (a0 9), .ref (a0 10), .ref (a0 11), .ref (a0 12), .ref (a0 13), .ref (a0 14), .ref (a0 15), .ref (a0 16), .ref (a0 17), .ref (a0 18), .int c_audit, .int c_sights, .ref (a0 19), .ref (a0 20), .int c_drawn])), ((a0 13), .inl (cyI, 8, .inl c_past))]
abbrev rmX8_allPast : Room := { frames := 0, cells := 0, slots := 0, locals := 0 }
abbrev wdX8_allPast : List Cond := .code yX8_allPast cX8_allPast 3 (some .int) :: wsL_law
theorem hyX8_allPast : yX8_allPast.cls = RX8 ∧ yX8_allPast.cls ≠ "java/lang/invoke/MethodHandle" ∧ yX8_allPast.cls ≠ "java/lang/invoke/VarHandle" ∧ (parseMethodDescriptor yX8_allPast.desc).map (fun d => d.parameters.length) = some 0 := by decide +kernel
set_option maxRecDepth 100000 in
set_option maxHeartbeats 4000000 in
theorem wX8_allPast_4 (K : jK p s m args meth c A D vwCl (tyz cyI cyJ cyS) cX8_allPast 3 RX8 wdX8_allPast (some .int)) (a0 : Nat → Nat) (c_latest : Int32) (c_typed : Int32) (c_room : Int32) (c_events : Int32) (c_gone : Int32) (c_audit : Int32) (c_sights : Int32) (c_drawn : Int32) (c_tenants : Int32) (c_past : Nat → Int32) (o_r : Int32)   : ∀ (n : Nat) (i1 : Int32) (i2 : Int32), fX8_allPast_4 c_tenants c_past  n i1 i2 = some (o_r) → jw p l e rmX8_allPast s m args below meth c (jQ below args s A D vwCl (tyz cyI cyJ cyS) 0 0 (some (.int o_r)) (uX8_allPast cyI cyJ cyS a0 c_latest c_typed c_tenants c_room c_events c_gone c_audit c_sights c_drawn c_past)) A D vwCl 3 0 0 4 [(0, .ref (a0 0)), (1, .int i1), (2, .int i2)] [] (uX8_allPast cyI cyJ cyS a0 c_latest c_typed c_tenants c_room c_events c_gone c_audit c_sights c_drawn c_past) := by
  intro n
  induction n with
  | zero => intro i1 i2 h; cases h
  | succ n ih =>
    intro i1 i2 h
    have h : bX8_allPast_4 c_tenants c_past  (fX8_allPast_4 c_tenants c_past  n) i1 i2 = some (o_r) := h
    unfold bX8_allPast_4 at h
    refine j_iload_n K 2 rfl dX8_allPast_4 rfl ?_
    refine j_aload_n K 0 rfl dX8_allPast_5 rfl ?_
    refine j_getf (C := RX8) (T := TX8) (N := 29) (ci := 8) K icX8 0 7 (List.mem_cons_of_mem _ mw_9_6) rfl rfl rfl (by decide) rfl dX8_allPast_6 rfl ?_
    refine j_icmp_ge (tgt := 27) K dX8_allPast_9 (by decide) rfl h (fun h => ?_) (fun h => ?_)
    · refine j_iload_n K 1 rfl dX8_allPast_27 rfl ?_
      have h := Option.some.inj h
      subst h
      exact j_iret K dX8_allPast_28
    · refine j_iload_n K 1 rfl dX8_allPast_12 rfl ?_
      refine j_aload_n K 0 rfl dX8_allPast_13 rfl ?_
      refine j_getf (C := RX8) (T := TX8) (N := 29) (ci := 8) K icX8 0 18 (List.mem_cons_of_mem _ mw_5_20) rfl rfl rfl (by decide) rfl dX8_allPast_14 rfl ?_
      refine j_iload_n K 2 rfl dX8_allPast_17 rfl ?_
      refine j_iald K 1 0 rfl rfl dX8_allPast_18 rfl h (fun v_1 h => ?_)
      refine j_iadd K dX8_allPast_19 rfl ?_
      refine j_nmI h (fun i1_2 h => ?_)
      refine j_istore_n (lv' := [(1, .int i1_2), (0, .ref (a0 0)), (2, .int i2)]) K (by decide) rfl dX8_allPast_20 rfl ?_
      refine j_iincN (lf := fun z => [(2, .int z), (1, .int i1_2), (0, .ref (a0 0))]) K (v := i2 + (1 : Int32)) (k := 2) rfl rfl (by decide) (fun _ => rfl) dX8_allPast_21 rfl h (fun i2_3 h => ?_)
      refine j_goto (pc' := 4) K dX8_allPast_24 (by decide) ?_
      refine j_sub [2, 1, 0] (lv' := [(0, .ref (a0 0)), (1, .int i1_2), (2, .int i2_3)]) rfl ?_
      exact ih i1_2 i2_3 h
set_option maxRecDepth 100000 in
set_option maxHeartbeats 4000000 in
theorem ctX8_allPast (l : Launch) (D : va_G) (cyI cyJ cyS : ClassId) (a0 : Nat → Nat) (c_latest : Int32) (c_typed : Int32) (c_room : Int32) (c_events : Int32) (c_gone : Int32) (c_audit : Int32) (c_sights : Int32) (c_drawn : Int32) (c_tenants : Int32) (c_past : Nat → Int32) (o_r : Int32) (h : fX8_allPast c_tenants c_past = some (o_r)) : jC l yX8_allPast wdX8_allPast rmX8_allPast D vwCl (tyz cyI cyJ cyS) [.ref (a0 0)] (uX8_allPast cyI cyJ cyS a0 c_latest c_typed c_tenants c_room c_events c_gone c_audit c_sights c_drawn c_past) (some (.int o_r)) (uX8_allPast cyI cyJ cyS a0 c_latest c_typed c_tenants c_room c_events c_gone c_audit c_sights c_drawn c_past) := by
  refine jC_of (cc := cX8_allPast) (nL := 3) (ret := (some .int)) (own := RX8) (lv := [(0, .ref (a0 0))]) (by decide) rfl rfl (Nat.le_of_ble_eq_true rfl) rfl ?_
  intro p e s m args below meth c A K
  unfold fX8_allPast at h
  refine j_iconst (v := (0 : Int32)) K (by decide) dX8_allPast_0 rfl ?_
  refine j_istore_n (lv' := [(1, .int (0 : Int32)), (0, .ref (a0 0))]) K (by decide) rfl dX8_allPast_1 rfl ?_
  refine j_iconst (v := (0 : Int32)) K (by decide) dX8_allPast_2 rfl ?_
  refine j_istore_n (lv' := [(2, .int (0 : Int32)), (1, .int (0 : Int32)), (0, .ref (a0 0))]) K (by decide) rfl dX8_allPast_3 rfl ?_
  refine j_sub [2, 1, 0] (lv' := [(0, .ref (a0 0)), (1, .int (0 : Int32)), (2, .int (0 : Int32))]) rfl ?_
  exact wX8_allPast_4 K a0 c_latest c_typed c_room c_events c_gone c_audit c_sights c_drawn c_tenants c_past o_r jF (0 : Int32) (0 : Int32) h
end GEN
