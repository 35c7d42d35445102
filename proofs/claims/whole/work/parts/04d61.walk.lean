section GEN
variable {p : Program} {l : Launch} {e : Env} {s : State} {m : MethodId} {args : Array Value} {below : List Frame} {meth : Method} {c : Code} {A : Nat → Prop} {D : va_G} {cyI cyJ cyS : ClassId}
abbrev uX8_allOwed (cyI cyJ cyS : ClassId) (a0 : Nat → Nat) (c_latest : Int32) (c_typed : Int32) (c_tenants : Int32) (c_room : Int32) (c_events : Int32) (c_gone : Int32) (c_audit : Int32) (c_sights : Int32) (c_drawn : Int32) (c_floorBy : Nat → Int32) (c_leftBy : Nat → Int32) : va_W := [((a0 0), .inr (8, [.ref (a0 1), .ref (a0 2), .ref (a0 3), .ref (a0 4), .int c_latest, .ref (a0 5), .int c_typed, .int c_tenants, .ref (a0 6), .int c_room, .int c_events, .ref (a0 7), .int c_gone, .ref (a0 8), .ref (a0 9), .ref (a0 10), .ref (a0 11), .ref (a0 12), .ref (a0 13), .ref (a0 14), .ref (a0 15), .ref (a0 16), .ref (a0 17), .ref (a0 18), .int c_audit, .int c_sights, .ref (a0 19), .ref (a0 20), .int c_drawn])), ((a0 16), .inl (cyI, 192, .inl c_floorBy)), ((a0 17), .inl (cyI, 192, .inl c_leftBy))]
abbrev rmX8_allOwed : Room := { frames := 2, cells := 0, slots := 0, locals := 41 }
abbrev wdX8_allOwed : List Cond := .code yX8_allOwed cX8_allOwed 4 (some .int) :: wsL_law
theorem hyX8_allOwed : yX8_allOwed.cls = RX8 ∧ yX8_allOwed.cls ≠ "java/lang/invoke/MethodHandle" ∧ yX8_allOwed.cls ≠ "java/lang/invoke/VarHandle" ∧ (parseMethodDescriptor yX8_allOwed.desc).map (fun d => d.parameters.length) = some 0 := by decide +kernel
set_option maxRecDepth 100000 in
set_option maxHeartbeats 4000000 in
theorem wX8_allOwed_12 (K : jK p s m args meth c A D vwCl (tyz cyI cyJ cyS) cX8_allOwed 4 RX8 wdX8_allOwed (some .int)) (a0 : Nat → Nat) (c_latest : Int32) (c_typed : Int32) (c_room : Int32) (c_events : Int32) (c_gone : Int32) (c_audit : Int32) (c_sights : Int32) (c_drawn : Int32) (c_tenants : Int32) (c_floorBy : Nat → Int32) (c_leftBy : Nat → Int32) (o_r : Int32)  (q_4 : Int32 → Int32 → Option (Int32)) (hq_4 : ∀ (i1 : Int32) (i2 : Int32), q_4 i1 i2 = some (o_r) → jw p l e rmX8_allOwed s m args below meth c (jQ below args s A D vwCl (tyz cyI cyJ cyS) 0 0 (some (.int o_r)) (uX8_allOwed cyI cyJ cyS a0 c_latest c_typed c_tenants c_room c_events c_gone c_audit c_sights c_drawn c_floorBy c_leftBy)) A D vwCl 4 0 0 4 [(0, .ref (a0 0)), (1, .int i1), (2, .int i2)] [] (uX8_allOwed cyI cyJ cyS a0 c_latest c_typed c_tenants c_room c_events c_gone c_audit c_sights c_drawn c_floorBy c_leftBy)) : ∀ (n : Nat) (i1 : Int32) (i2 : Int32) (i3 : Int32), fX8_allOwed_12 c_tenants c_floorBy c_leftBy q_4 n i1 i2 i3 = some (o_r) → jw p l e rmX8_allOwed s m args below meth c (jQ below args s A D vwCl (tyz cyI cyJ cyS) 0 0 (some (.int o_r)) (uX8_allOwed cyI cyJ cyS a0 c_latest c_typed c_tenants c_room c_events c_gone c_audit c_sights c_drawn c_floorBy c_leftBy)) A D vwCl 4 0 0 12 [(0, .ref (a0 0)), (1, .int i1), (2, .int i2), (3, .int i3)] [] (uX8_allOwed cyI cyJ cyS a0 c_latest c_typed c_tenants c_room c_events c_gone c_audit c_sights c_drawn c_floorBy c_leftBy) := by
  intro n
  induction n with
  | zero => intro i1 i2 i3 h; cases h
  | succ n ih =>
    intro i1 i2 i3 h
    have h : bX8_allOwed_12 c_tenants c_floorBy c_leftBy q_4 (fX8_allOwed_12 c_tenants c_floorBy c_leftBy q_4 n) i1 i2 i3 = some (o_r) := h
    unfold bX8_allOwed_12 at h
    refine j_iload_n K 3 rfl dX8_allOwed_12 rfl ?_
    refine j_aload_n K 0 rfl dX8_allOwed_13 rfl ?_
    refine j_getf (C := RX8) (T := TX8) (N := 29) (ci := 8) K icX8 0 7 (List.mem_cons_of_mem _ mw_9_6) rfl rfl rfl (by decide) rfl dX8_allOwed_14 rfl ?_
    refine j_icmp_ge (tgt := 39) K dX8_allOwed_17 (by decide) rfl h (fun h => ?_) (fun h => ?_)
    · refine j_iincN (lf := fun z => [(2, .int z), (0, .ref (a0 0)), (1, .int i1), (3, .int i3)]) K (v := i2 + (1 : Int32)) (k := 2) rfl rfl (by decide) (fun _ => rfl) dX8_allOwed_39 rfl h (fun i2_1 h => ?_)
      refine j_goto (pc' := 4) K dX8_allOwed_42 (by decide) ?_
      refine j_sub [1, 2, 0] (lv' := [(0, .ref (a0 0)), (1, .int i1), (2, .int i2_1)]) rfl ?_
      exact hq_4 i1 i2_1 h
    · refine j_iload_n K 1 rfl dX8_allOwed_20 rfl ?_
      refine j_aload_n K 0 rfl dX8_allOwed_21 rfl ?_
      refine j_bipush (v := (8 : Int32)) K (by decide) dX8_allOwed_22 rfl ?_
      refine j_iload_n K 2 rfl dX8_allOwed_24 rfl ?_
      refine j_imul K dX8_allOwed_25 rfl ?_
      refine j_iload_n K 3 rfl dX8_allOwed_26 rfl ?_
      refine j_iadd K dX8_allOwed_27 rfl ?_
      obtain ⟨r_2, hc, h⟩ := bd1_some h
      refine j_callV (rest := [.int i1]) (st1 := [.int r_2, .int i1]) (ws' := (uX8_allOwed cyI cyJ cyS a0 c_latest c_typed c_tenants c_room c_events c_gone c_audit c_sights c_drawn c_floorBy c_leftBy)) (T := TX8) (N := 29) (ci := 8) K (ctX8_owes l D cyI cyJ cyS a0 (((8 : Int32) * i2) + i3) c_latest c_typed c_tenants c_room c_events c_gone c_audit c_sights c_drawn c_floorBy c_leftBy r_2 hc) (gdV mcL mw_19_11 mw_19_12 mw_19_13 mw_1_5 mw_19_14) rfl ⟨rfl, rfl⟩ hyX8_owes ⟨Nat.le_of_ble_eq_true rfl, Nat.le_of_ble_eq_true rfl, Nat.le_of_ble_eq_true rfl, Nat.le_of_ble_eq_true rfl⟩ [0, 1, 2] (by decide) rfl [some 0, some 1, some 2] (by decide) rfl rfl 0 rfl rfl rfl rfl (Nat.le_of_ble_eq_true rfl) dX8_allOwed_28 rfl rfl ?_
      refine j_iadd K dX8_allOwed_31 rfl ?_
      refine j_nmI h (fun i1_3 h => ?_)
      refine j_istore_n (lv' := [(1, .int i1_3), (0, .ref (a0 0)), (2, .int i2), (3, .int i3)]) K (by decide) rfl dX8_allOwed_32 rfl ?_
      refine j_iincN (lf := fun z => [(3, .int z), (1, .int i1_3), (0, .ref (a0 0)), (2, .int i2)]) K (v := i3 + (1 : Int32)) (k := 3) rfl rfl (by decide) (fun _ => rfl) dX8_allOwed_33 rfl h (fun i3_4 h => ?_)
      refine j_goto (pc' := 12) K dX8_allOwed_36 (by decide) ?_
      refine j_sub [2, 1, 3, 0] (lv' := [(0, .ref (a0 0)), (1, .int i1_3), (2, .int i2), (3, .int i3_4)]) rfl ?_
      exact ih i1_3 i2 i3_4 h
set_option maxRecDepth 100000 in
set_option maxHeartbeats 4000000 in
theorem wX8_allOwed_4 (K : jK p s m args meth c A D vwCl (tyz cyI cyJ cyS) cX8_allOwed 4 RX8 wdX8_allOwed (some .int)) (a0 : Nat → Nat) (c_latest : Int32) (c_typed : Int32) (c_room : Int32) (c_events : Int32) (c_gone : Int32) (c_audit : Int32) (c_sights : Int32) (c_drawn : Int32) (c_tenants : Int32) (c_floorBy : Nat → Int32) (c_leftBy : Nat → Int32) (o_r : Int32)   : ∀ (n : Nat) (i1 : Int32) (i2 : Int32), fX8_allOwed_4 c_tenants c_floorBy c_leftBy  n i1 i2 = some (o_r) → jw p l e rmX8_allOwed s m args below meth c (jQ below args s A D vwCl (tyz cyI cyJ cyS) 0 0 (some (.int o_r)) (uX8_allOwed cyI cyJ cyS a0 c_latest c_typed c_tenants c_room c_events c_gone c_audit c_sights c_drawn c_floorBy c_leftBy)) A D vwCl 4 0 0 4 [(0, .ref (a0 0)), (1, .int i1), (2, .int i2)] [] (uX8_allOwed cyI cyJ cyS a0 c_latest c_typed c_tenants c_room c_events c_gone c_audit c_sights c_drawn c_floorBy c_leftBy) := by
  intro n
  induction n with
  | zero => intro i1 i2 h; cases h
  | succ n ih =>
    intro i1 i2 h
    have h : bX8_allOwed_4 c_tenants c_floorBy c_leftBy  (fX8_allOwed_4 c_tenants c_floorBy c_leftBy  n) i1 i2 = some (o_r) := h
    unfold bX8_allOwed_4 at h
    refine j_iload_n K 2 rfl dX8_allOwed_4 rfl ?_
    refine j_bipush (v := (24 : Int32)) K (by decide) dX8_allOwed_5 rfl ?_
    refine j_icmp_ge (tgt := 45) K dX8_allOwed_7 (by decide) rfl h (fun h => ?_) (fun h => ?_)
    · refine j_iload_n K 1 rfl dX8_allOwed_45 rfl ?_
      have h := Option.some.inj h
      subst h
      exact j_iret K dX8_allOwed_46
    · refine j_iconst (v := (0 : Int32)) K (by decide) dX8_allOwed_10 rfl ?_
      refine j_istore_n (lv' := [(3, .int (0 : Int32)), (0, .ref (a0 0)), (1, .int i1), (2, .int i2)]) K (by decide) rfl dX8_allOwed_11 rfl ?_
      refine j_sub [1, 2, 3, 0] (lv' := [(0, .ref (a0 0)), (1, .int i1), (2, .int i2), (3, .int (0 : Int32))]) rfl ?_
      exact wX8_allOwed_12 K a0 c_latest c_typed c_room c_events c_gone c_audit c_sights c_drawn c_tenants c_floorBy c_leftBy o_r (fX8_allOwed_4 c_tenants c_floorBy c_leftBy n) (fun z0 z1 hq => ih z0 z1 hq) jF i1 i2 (0 : Int32) h
set_option maxRecDepth 100000 in
set_option maxHeartbeats 4000000 in
theorem ctX8_allOwed (l : Launch) (D : va_G) (cyI cyJ cyS : ClassId) (a0 : Nat → Nat) (c_latest : Int32) (c_typed : Int32) (c_room : Int32) (c_events : Int32) (c_gone : Int32) (c_audit : Int32) (c_sights : Int32) (c_drawn : Int32) (c_tenants : Int32) (c_floorBy : Nat → Int32) (c_leftBy : Nat → Int32) (o_r : Int32) (h : fX8_allOwed c_tenants c_floorBy c_leftBy = some (o_r)) : jC l yX8_allOwed wdX8_allOwed rmX8_allOwed D vwCl (tyz cyI cyJ cyS) [.ref (a0 0)] (uX8_allOwed cyI cyJ cyS a0 c_latest c_typed c_tenants c_room c_events c_gone c_audit c_sights c_drawn c_floorBy c_leftBy) (some (.int o_r)) (uX8_allOwed cyI cyJ cyS a0 c_latest c_typed c_tenants c_room c_events c_gone c_audit c_sights c_drawn c_floorBy c_leftBy) := by
  refine jC_of (cc := cX8_allOwed) (nL := 4) (ret := (some .int)) (own := RX8) (lv := [(0, .ref (a0 0))]) (by decide) rfl rfl (Nat.le_of_ble_eq_true rfl) rfl ?_
  intro p e s m args below meth c A K
  unfold fX8_allOwed at h
  refine j_iconst (v := (0 : Int32)) K (by decide) dX8_allOwed_0 rfl ?_
  refine j_istore_n (lv' := [(1, .int (0 : Int32)), (0, .ref (a0 0))]) K (by decide) rfl dX8_allOwed_1 rfl ?_
  refine j_iconst (v := (0 : Int32)) K (by decide) dX8_allOwed_2 rfl ?_
  refine j_istore_n (lv' := [(2, .int (0 : Int32)), (1, .int (0 : Int32)), (0, .ref (a0 0))]) K (by decide) rfl dX8_allOwed_3 rfl ?_
  refine j_sub [2, 1, 0] (lv' := [(0, .ref (a0 0)), (1, .int (0 : Int32)), (2, .int (0 : Int32))]) rfl ?_
  exact wX8_allOwed_4 K a0 c_latest c_typed c_room c_events c_gone c_audit c_sights c_drawn c_tenants c_floorBy c_leftBy o_r jF (0 : Int32) (0 : Int32) h
abbrev uX8_sumBy (cyI cyJ cyS : ClassId) (a0 : Nat → Nat) (c_latest : Int32) (c_typed : Int32) (c_tenants : Int32) (c_room : Int32) (c_events : Int32) (c_gone : Int32) (c_audit : Int32) (c_sights : Int32) (c_drawn : Int32) (c_settled : Nat → Int32) (c_fell : Nat → Int32) (c_past : Nat → Int32) (c_floorBy : Nat → Int32) (c_leftBy : Nat → Int32) : va_W := [((a0 0), .inr (8, [.ref (a0 1), .ref (a0 2), .ref (a0 3), .ref (a0 4), .int c_latest, .ref (a0 5), .int c_typed, .int c_tenants, .ref (a0 6), .int c_room, .int c_events, .ref (a0 7), .int c_gone, .ref (a0 8), .ref (a0 9), .ref (a0 10), .ref (a0 11), .ref (a0 12), .ref (a0 13), .ref (a0 14), .ref (a0 15), .ref (a0 16), .ref (a0 17), .ref (a0 18), .int c_audit, .int c_sights, .ref (a0 19), .ref (a0 20), .int c_drawn])), ((a0 11), .inl (cyI, 8, .inl c_settled)), ((a0 12), .inl (cyI, 8, .inl c_fell)), ((a0 13), .inl (cyI, 8, .inl c_past)), ((a0 16), .inl (cyI, 192, .inl c_floorBy)), ((a0 17), .inl (cyI, 192, .inl c_leftBy))]
abbrev rmX8_sumBy : Room := { frames := 3, cells := 0, slots := 0, locals := 64 }
abbrev wdX8_sumBy : List Cond := .code yX8_sumBy cX8_sumBy 2 (some .int) :: wsL_law
theorem hyX8_sumBy : yX8_sumBy.cls = RX8 ∧ yX8_sumBy.cls ≠ "java/lang/invoke/MethodHandle" ∧ yX8_sumBy.cls ≠ "java/lang/invoke/VarHandle" ∧ (parseMethodDescriptor yX8_sumBy.desc).map (fun d => d.parameters.length) = some 1 := by decide +kernel
set_option maxRecDepth 100000 in
set_option maxHeartbeats 4000000 in
theorem ctX8_sumBy (l : Launch) (D : va_G) (cyI cyJ cyS : ClassId) (a0 : Nat → Nat) (i1 : Int32) (c_latest : Int32) (c_typed : Int32) (c_room : Int32) (c_events : Int32) (c_gone : Int32) (c_audit : Int32) (c_sights : Int32) (c_drawn : Int32) (c_tenants : Int32) (c_settled : Nat → Int32) (c_fell : Nat → Int32) (c_past : Nat → Int32) (c_floorBy : Nat → Int32) (c_leftBy : Nat → Int32) (o_r : Int32) (h : fX8_sumBy i1 c_tenants c_settled c_fell c_past c_floorBy c_leftBy = some (o_r)) : jC l yX8_sumBy wdX8_sumBy rmX8_sumBy D vwCl (tyz cyI cyJ cyS) [.ref (a0 0), .int i1] (uX8_sumBy cyI cyJ cyS a0 c_latest c_typed c_tenants c_room c_events c_gone c_audit c_sights c_drawn c_settled c_fell c_past c_floorBy c_leftBy) (some (.int o_r)) (uX8_sumBy cyI cyJ cyS a0 c_latest c_typed c_tenants c_room c_events c_gone c_audit c_sights c_drawn c_settled c_fell c_past c_floorBy c_leftBy) := by
  refine jC_of (cc := cX8_sumBy) (nL := 2) (ret := (some .int)) (own := RX8) (lv := [(0, .ref (a0 0)), (1, .int i1)]) (by decide) rfl rfl (Nat.le_of_ble_eq_true rfl) rfl ?_
  intro p e s m args below meth c A K
  unfold fX8_sumBy at h
  refine j_iload_n K 1 rfl dX8_sumBy_0 rfl ?_
  refine j_if_ne (tgt := 11) K dX8_sumBy_1 (by decide) rfl h (fun h => ?_) (fun h => ?_)
  · refine j_iload_n K 1 rfl dX8_sumBy_11 rfl ?_
    refine j_iconst (v := (1 : Int32)) K (by decide) dX8_sumBy_12 rfl ?_
    refine j_icmp_ne (tgt := 23) K dX8_sumBy_13 (by decide) rfl h (fun h => ?_) (fun h => ?_)
    · refine j_iload_n K 1 rfl dX8_sumBy_23 rfl ?_
      refine j_iconst (v := (2 : Int32)) K (by decide) dX8_sumBy_24 rfl ?_
      refine j_icmp_ne (tgt := 35) K dX8_sumBy_25 (by decide) rfl h (fun h => ?_) (fun h => ?_)
      · refine j_aload_n K 0 rfl dX8_sumBy_35 rfl ?_
        obtain ⟨r_1, hc, h⟩ := bd1_some h
        refine j_callV (rest := []) (st1 := [.int r_1]) (ws' := (uX8_sumBy cyI cyJ cyS a0 c_latest c_typed c_tenants c_room c_events c_gone c_audit c_sights c_drawn c_settled c_fell c_past c_floorBy c_leftBy)) (T := TX8) (N := 29) (ci := 8) K (ctX8_allOwed l D cyI cyJ cyS a0 c_latest c_typed c_room c_events c_gone c_audit c_sights c_drawn c_tenants c_floorBy c_leftBy r_1 hc) (gdV mcL mw_24_2 mw_24_3 mw_24_4 mw_1_5 mw_24_5) rfl ⟨rfl, rfl⟩ hyX8_allOwed ⟨Nat.le_of_ble_eq_true rfl, Nat.le_of_ble_eq_true rfl, Nat.le_of_ble_eq_true rfl, Nat.le_of_ble_eq_true rfl⟩ [0, 4, 5] (by decide) rfl [some 0, none, none, none, some 1, some 2] (by decide) rfl rfl 0 rfl rfl rfl rfl (Nat.le_of_ble_eq_true rfl) dX8_sumBy_36 rfl rfl ?_
        have h := Option.some.inj h
        subst h
        exact j_iret K dX8_sumBy_39
      · refine j_aload_n K 0 rfl dX8_sumBy_28 rfl ?_
        obtain ⟨r_2, hc, h⟩ := bd1_some h
        refine j_callV (rest := []) (st1 := [.int r_2]) (ws' := (uX8_sumBy cyI cyJ cyS a0 c_latest c_typed c_tenants c_room c_events c_gone c_audit c_sights c_drawn c_settled c_fell c_past c_floorBy c_leftBy)) (T := TX8) (N := 29) (ci := 8) K (ctX8_allPast l D cyI cyJ cyS a0 c_latest c_typed c_room c_events c_gone c_audit c_sights c_drawn c_tenants c_past r_2 hc) (gdV mcL mw_23_22 mw_23_23 mw_24_0 mw_1_5 mw_24_1) rfl ⟨rfl, rfl⟩ hyX8_allPast ⟨Nat.le_of_ble_eq_true rfl, Nat.le_of_ble_eq_true rfl, Nat.le_of_ble_eq_true rfl, Nat.le_of_ble_eq_true rfl⟩ [0, 3] (by decide) rfl [some 0, none, none, some 1, none, none] (by decide) rfl rfl 0 rfl rfl rfl rfl (Nat.le_of_ble_eq_true rfl) dX8_sumBy_29 rfl rfl ?_
        refine j_goto (pc' := 39) K dX8_sumBy_32 (by decide) ?_
        have h := Option.some.inj h
        subst h
        exact j_iret K dX8_sumBy_39
    · refine j_aload_n K 0 rfl dX8_sumBy_16 rfl ?_
      obtain ⟨r_3, hc, h⟩ := bd1_some h
      refine j_callV (rest := []) (st1 := [.int r_3]) (ws' := (uX8_sumBy cyI cyJ cyS a0 c_latest c_typed c_tenants c_room c_events c_gone c_audit c_sights c_drawn c_settled c_fell c_past c_floorBy c_leftBy)) (T := TX8) (N := 29) (ci := 8) K (ctX8_allFell l D cyI cyJ cyS a0 c_latest c_typed c_room c_events c_gone c_audit c_sights c_drawn c_tenants c_fell r_3 hc) (gdV mcL mw_23_18 mw_23_19 mw_23_20 mw_1_5 mw_23_21) rfl ⟨rfl, rfl⟩ hyX8_allFell ⟨Nat.le_of_ble_eq_true rfl, Nat.le_of_ble_eq_true rfl, Nat.le_of_ble_eq_true rfl, Nat.le_of_ble_eq_true rfl⟩ [0, 2] (by decide) rfl [some 0, none, some 1, none, none, none] (by decide) rfl rfl 0 rfl rfl rfl rfl (Nat.le_of_ble_eq_true rfl) dX8_sumBy_17 rfl rfl ?_
      refine j_goto (pc' := 39) K dX8_sumBy_20 (by decide) ?_
      have h := Option.some.inj h
      subst h
      exact j_iret K dX8_sumBy_39
  · refine j_aload_n K 0 rfl dX8_sumBy_4 rfl ?_
    obtain ⟨r_4, hc, h⟩ := bd1_some h
    refine j_callV (rest := []) (st1 := [.int r_4]) (ws' := (uX8_sumBy cyI cyJ cyS a0 c_latest c_typed c_tenants c_room c_events c_gone c_audit c_sights c_drawn c_settled c_fell c_past c_floorBy c_leftBy)) (T := TX8) (N := 29) (ci := 8) K (ctX8_manySettled l D cyI cyJ cyS a0 c_latest c_typed c_room c_events c_gone c_audit c_sights c_drawn c_tenants c_settled r_4 hc) (gdV mcL mw_23_14 mw_23_15 mw_23_16 mw_1_5 mw_23_17) rfl ⟨rfl, rfl⟩ hyX8_manySettled ⟨Nat.le_of_ble_eq_true rfl, Nat.le_of_ble_eq_true rfl, Nat.le_of_ble_eq_true rfl, Nat.le_of_ble_eq_true rfl⟩ [0, 1] (by decide) rfl [some 0, some 1, none, none, none, none] (by decide) rfl rfl 0 rfl rfl rfl rfl (Nat.le_of_ble_eq_true rfl) dX8_sumBy_5 rfl rfl ?_
    refine j_goto (pc' := 39) K dX8_sumBy_8 (by decide) ?_
    have h := Option.some.inj h
    subst h
    exact j_iret K dX8_sumBy_39
abbrev uX8_sum (cyI cyJ cyS : ClassId) (a0 : Nat → Nat) (c_latest : Int32) (c_typed : Int32) (c_tenants : Int32) (c_room : Int32) (c_events : Int32) (c_gone : Int32) (c_audit : Int32) (c_sights : Int32) (c_drawn : Int32) (c_bytes : Nat → Int32) (c_tenant : Nat → Int32) (c_event : Nat → Int32) (c_floor : Nat → Int32) (c_before : Nat → Int32) (c_left : Nat → Int32) (c_settled : Nat → Int32) (c_fell : Nat → Int32) (c_past : Nat → Int32) (c_highest : Nat → Int32) (c_many : Nat → Int32) (c_floorBy : Nat → Int32) (c_leftBy : Nat → Int32) (c_fellBy : Nat → Int32) : va_W := [((a0 0), .inr (8, [.ref (a0 1), .ref (a0 2), .ref (a0 3), .ref (a0 4), .int c_latest, .ref (a0 5), .int c_typed, .int c_tenants, .ref (a0 6), .int c_room, .int c_events, .ref (a0 7), .int c_gone, .ref (a0 8), .ref (a0 9), .ref (a0 10), .ref (a0 11), .ref (a0 12), .ref (a0 13), .ref (a0 14), .ref (a0 15), .ref (a0 16), .ref (a0 17), .ref (a0 18), .int c_audit, .int c_sights, .ref (a0 19), .ref (a0 20), .int c_drawn])), ((a0 5), .inl (cyI, 31, .inl c_bytes)), ((a0 6), .inl (cyI, 24, .inl c_tenant)), ((a0 7), .inl (cyI, 24, .inl c_event)), ((a0 8), .inl (cyI, 8, .inl c_floor)), ((a0 9), .inl (cyI, 8, .inl c_before)), ((a0 10), .inl (cyI, 8, .inl c_left)), ((a0 11), .inl (cyI, 8, .inl c_settled)), ((a0 12), .inl (cyI, 8, .inl c_fell)), ((a0 13), .inl (cyI, 8, .inl c_past)), ((a0 14), .inl (cyI, 8, .inl c_highest)), ((a0 15), .inl (cyI, 13, .inl c_many)), ((a0 16), .inl (cyI, 192, .inl c_floorBy)), ((a0 17), .inl (cyI, 192, .inl c_leftBy)), ((a0 18), .inl (cyI, 192, .inl c_fellBy))]
abbrev rmX8_sum : Room := { frames := 6, cells := 0, slots := 0, locals := 134 }
abbrev wdX8_sum : List Cond := .code yX8_sum cX8_sum 2 (some .int) :: wsL_law
theorem hyX8_sum : yX8_sum.cls = RX8 ∧ yX8_sum.cls ≠ "java/lang/invoke/MethodHandle" ∧ yX8_sum.cls ≠ "java/lang/invoke/VarHandle" ∧ (parseMethodDescriptor yX8_sum.desc).map (fun d => d.parameters.length) = some 1 := by decide +kernel
set_option maxRecDepth 100000 in
set_option maxHeartbeats 4000000 in
theorem ctX8_sum (l : Launch) (D : va_G) (cyI cyJ cyS : ClassId) (a0 : Nat → Nat) (i1 : Int32) (c_latest : Int32) (c_sights : Int32) (c_drawn : Int32) (c_typed : Int32) (c_room : Int32) (c_events : Int32) (c_gone : Int32) (c_bytes : Nat → Int32) (c_event : Nat → Int32) (c_tenants : Int32) (c_sim : jT11) (c_tenant : Nat → Int32) (o_r : Int32) (o_tenants : Int32) (o_sim : jT11) (o_tenant : Nat → Int32) (h : fX8_sum i1 c_typed c_room c_events c_gone c_bytes c_event c_tenants c_sim c_tenant = some (o_r, o_tenants, o_sim, o_tenant)) : jC l yX8_sum wdX8_sum rmX8_sum D vwCl (tyz cyI cyJ cyS) [.ref (a0 0), .int i1] (uX8_sum cyI cyJ cyS a0 c_latest c_typed c_tenants c_room c_events c_gone c_sim.1 c_sights c_drawn c_bytes c_tenant c_event c_sim.2.1 c_sim.2.2.1 c_sim.2.2.2.1 c_sim.2.2.2.2.1 c_sim.2.2.2.2.2.1 c_sim.2.2.2.2.2.2.1 c_sim.2.2.2.2.2.2.2.1 c_sim.2.2.2.2.2.2.2.2.1 c_sim.2.2.2.2.2.2.2.2.2.1 c_sim.2.2.2.2.2.2.2.2.2.2.1 c_sim.2.2.2.2.2.2.2.2.2.2.2) (some (.int o_r)) (uX8_sum cyI cyJ cyS a0 c_latest c_typed o_tenants c_room c_events c_gone o_sim.1 c_sights c_drawn c_bytes o_tenant c_event o_sim.2.1 o_sim.2.2.1 o_sim.2.2.2.1 o_sim.2.2.2.2.1 o_sim.2.2.2.2.2.1 o_sim.2.2.2.2.2.2.1 o_sim.2.2.2.2.2.2.2.1 o_sim.2.2.2.2.2.2.2.2.1 o_sim.2.2.2.2.2.2.2.2.2.1 o_sim.2.2.2.2.2.2.2.2.2.2.1 o_sim.2.2.2.2.2.2.2.2.2.2.2) := by
  refine jC_of (cc := cX8_sum) (nL := 2) (ret := (some .int)) (own := RX8) (lv := [(0, .ref (a0 0)), (1, .int i1)]) (by decide) rfl rfl (Nat.le_of_ble_eq_true rfl) rfl ?_
  intro p e s m args below meth c A K
  unfold fX8_sum at h
  refine j_aload_n K 0 rfl dX8_sum_0 rfl ?_
  obtain ⟨c_tenants_1, c_sim_2, c_tenant_3, hc, h⟩ := bd3_some h
  refine j_callV (rest := []) (st1 := []) (ws' := (uX8_sum cyI cyJ cyS a0 c_latest c_typed c_tenants_1 c_room c_events c_gone c_sim_2.1 c_sights c_drawn c_bytes c_tenant_3 c_event c_sim_2.2.1 c_sim_2.2.2.1 c_sim_2.2.2.2.1 c_sim_2.2.2.2.2.1 c_sim_2.2.2.2.2.2.1 c_sim_2.2.2.2.2.2.2.1 c_sim_2.2.2.2.2.2.2.2.1 c_sim_2.2.2.2.2.2.2.2.2.1 c_sim_2.2.2.2.2.2.2.2.2.2.1 c_sim_2.2.2.2.2.2.2.2.2.2.2.1 c_sim_2.2.2.2.2.2.2.2.2.2.2.2)) (T := TX8) (N := 29) (ci := 8) K (ctX8_find l D cyI cyJ cyS a0 c_latest c_sights c_drawn c_typed c_room c_events c_gone c_bytes c_event c_tenants c_sim c_tenant c_tenants_1 c_sim_2 c_tenant_3 hc) (gdV mcL mw_17_12 mw_17_13 mw_17_14 mw_1_5 mw_17_15) rfl ⟨rfl, rfl⟩ hyX8_find ⟨Nat.le_of_ble_eq_true rfl, Nat.le_of_ble_eq_true rfl, Nat.le_of_ble_eq_true rfl, Nat.le_of_ble_eq_true rfl⟩ [0, 1, 2, 3, 4, 5, 6, 7, 8, 9, 10, 11, 12, 13, 14] (by decide) rfl [some 0, some 1, some 2, some 3, some 4, some 5, some 6, some 7, some 8, some 9, some 10, some 11, some 12, some 13, some 14] (by decide) rfl rfl 0 rfl rfl rfl rfl (Nat.le_of_ble_eq_true rfl) dX8_sum_1 rfl rfl ?_
  refine j_iload_n K 1 rfl dX8_sum_4 rfl ?_
  refine j_i2l K dX8_sum_5 rfl ?_
  refine j_lconst (v := (0 : Int64)) K (by decide) dX8_sum_6 rfl ?_
  refine j_ldc2 (v := (3 : Int64)) K (List.mem_cons_of_mem _ mw_12_21) dX8_sum_7 rfl ?_
  obtain ⟨r_4, hc, h⟩ := bd1_some h
  refine j_callS (rest := []) (st1 := [.int r_4]) (ws' := (uX8_sum cyI cyJ cyS a0 c_latest c_typed c_tenants_1 c_room c_events c_gone c_sim_2.1 c_sights c_drawn c_bytes c_tenant_3 c_event c_sim_2.2.1 c_sim_2.2.2.1 c_sim_2.2.2.2.1 c_sim_2.2.2.2.2.1 c_sim_2.2.2.2.2.2.1 c_sim_2.2.2.2.2.2.2.1 c_sim_2.2.2.2.2.2.2.2.1 c_sim_2.2.2.2.2.2.2.2.2.1 c_sim_2.2.2.2.2.2.2.2.2.2.1 c_sim_2.2.2.2.2.2.2.2.2.2.2.1 c_sim_2.2.2.2.2.2.2.2.2.2.2.2)) K (ctX8_in l D cyI cyJ cyS (Int32.toInt64 i1) (0 : Int64) (3 : Int64) r_4 hc) (gdS mcL mw_7_22 mw_7_23 mw_1_5 mw_8_0) rfl ⟨rfl, rfl⟩ hzX8_in ⟨Nat.le_of_ble_eq_true rfl, Nat.le_of_ble_eq_true rfl, Nat.le_of_ble_eq_true rfl, Nat.le_of_ble_eq_true rfl⟩ [] (by decide) rfl [none, none, none, none, none, none, none, none, none, none, none, none, none, none, none] (by decide) rfl rfl rfl rfl (Nat.le_of_ble_eq_true rfl) dX8_sum_10 rfl rfl ?_
  refine j_if_eq (tgt := 24) K dX8_sum_13 (by decide) rfl h (fun h => ?_) (fun h => ?_)
  · refine j_bipush (v := (-2 : Int32)) K (by decide) dX8_sum_24 rfl ?_
    obtain ⟨e1, g1⟩ := Prod.mk.inj (Option.some.inj h)
    subst e1
    obtain ⟨e2, g2⟩ := Prod.mk.inj g1
    subst e2
    obtain ⟨e3, g3⟩ := Prod.mk.inj g2
    subst e3
    subst g3
    exact j_iret K dX8_sum_26
  · refine j_aload_n K 0 rfl dX8_sum_16 rfl ?_
    refine j_iload_n K 1 rfl dX8_sum_17 rfl ?_
    obtain ⟨r_5, hc, h⟩ := bd1_some h
    refine j_callV (rest := []) (st1 := [.int r_5]) (ws' := (uX8_sum cyI cyJ cyS a0 c_latest c_typed c_tenants_1 c_room c_events c_gone c_sim_2.1 c_sights c_drawn c_bytes c_tenant_3 c_event c_sim_2.2.1 c_sim_2.2.2.1 c_sim_2.2.2.2.1 c_sim_2.2.2.2.2.1 c_sim_2.2.2.2.2.2.1 c_sim_2.2.2.2.2.2.2.1 c_sim_2.2.2.2.2.2.2.2.1 c_sim_2.2.2.2.2.2.2.2.2.1 c_sim_2.2.2.2.2.2.2.2.2.2.1 c_sim_2.2.2.2.2.2.2.2.2.2.2.1 c_sim_2.2.2.2.2.2.2.2.2.2.2.2)) (T := TX8) (N := 29) (ci := 8) K (ctX8_sumBy l D cyI cyJ cyS a0 i1 c_latest c_typed c_room c_events c_gone c_sim_2.1 c_sights c_drawn c_tenants_1 c_sim_2.2.2.2.2.1 c_sim_2.2.2.2.2.2.1 c_sim_2.2.2.2.2.2.2.1 c_sim_2.2.2.2.2.2.2.2.2.2.1 c_sim_2.2.2.2.2.2.2.2.2.2.2.1 r_5 hc) (gdV mcL mw_23_10 mw_23_11 mw_23_12 mw_1_5 mw_23_13) rfl ⟨rfl, rfl⟩ hyX8_sumBy ⟨Nat.le_of_ble_eq_true rfl, Nat.le_of_ble_eq_true rfl, Nat.le_of_ble_eq_true rfl, Nat.le_of_ble_eq_true rfl⟩ [0, 7, 8, 9, 12, 13] (by decide) rfl [some 0, none, none, none, none, none, none, some 1, some 2, some 3, none, none, some 4, some 5, none] (by decide) rfl rfl 0 rfl rfl rfl rfl (Nat.le_of_ble_eq_true rfl) dX8_sum_18 rfl rfl ?_
    refine j_goto (pc' := 26) K dX8_sum_21 (by decide) ?_
    obtain ⟨e1, g1⟩ := Prod.mk.inj (Option.some.inj h)
    subst e1
    obtain ⟨e2, g2⟩ := Prod.mk.inj g1
    subst e2
    obtain ⟨e3, g3⟩ := Prod.mk.inj g2
    subst e3
    subst g3
    exact j_iret K dX8_sum_26
end GEN
