section GEN
variable {p : Program} {l : Launch} {e : Env} {s : State} {m : MethodId} {args : Array Value} {below : List Frame} {meth : Method} {c : Code} {A : Nat → Prop} {D : va_G} {cyI cyJ cyS : ClassId}
abbrev uX8_in (cyI cyJ cyS : ClassId) : va_W := []
abbrev rmX8_in : Room := { frames := 0, cells := 0, slots := 0, locals := 0 }
abbrev wdX8_in : List Cond := .code yX8_in cX8_in 6 (some .boolean) :: wsL_law
theorem hzX8_in : yX8_in.cls ≠ "java/lang/invoke/MethodHandle" ∧ yX8_in.cls ≠ "java/lang/invoke/VarHandle" ∧ (parseMethodDescriptor yX8_in.desc).map (fun d => d.parameters.length) = some 3 := by decide +kernel
set_option maxRecDepth 100000 in
set_option maxHeartbeats 4000000 in
theorem ctX8_in (l : Launch) (D : va_G) (cyI cyJ cyS : ClassId) (l0 : Int64) (l2 : Int64) (l4 : Int64) (o_r : Int32) (h : fX8_in l0 l2 l4 = some (o_r)) : jC l yX8_in wdX8_in rmX8_in D vwCl (tyz cyI cyJ cyS) [.long l0, .long l2, .long l4] (uX8_in cyI cyJ cyS ) (some (.int o_r)) (uX8_in cyI cyJ cyS ) := by
  refine jC_of (cc := cX8_in) (nL := 6) (ret := (some .boolean)) (own := RX8) (lv := [(0, .long l0), (2, .long l2), (4, .long l4)]) (by decide) rfl rfl (Nat.le_of_ble_eq_true rfl) rfl ?_
  intro p e s m args below meth c A K
  unfold fX8_in at h
  refine j_lload_n K 0 rfl dX8_in_0 rfl ?_
  refine j_lload_n K 1 rfl dX8_in_1 rfl ?_
  refine j_lcmp K dX8_in_2 rfl ?_
  refine j_if_lt (tgt := 17) K dX8_in_3 (by decide) rfl h (fun h => ?_) (fun h => ?_)
  · refine j_iconst (v := (0 : Int32)) K (by decide) dX8_in_17 rfl ?_
    have h := Option.some.inj h
    subst h
    exact j_zret K rfl dX8_in_18
  · refine j_lload_n K 0 rfl dX8_in_6 rfl ?_
    refine j_lload K 2 rfl dX8_in_7 rfl ?_
    refine j_lcmp K dX8_in_9 rfl ?_
    refine j_if_gt (tgt := 17) K dX8_in_10 (by decide) rfl h (fun h => ?_) (fun h => ?_)
    · refine j_iconst (v := (0 : Int32)) K (by decide) dX8_in_17 rfl ?_
      have h := Option.some.inj h
      subst h
      exact j_zret K rfl dX8_in_18
    · refine j_iconst (v := (1 : Int32)) K (by decide) dX8_in_13 rfl ?_
      refine j_goto (pc' := 18) K dX8_in_14 (by decide) ?_
      have h := Option.some.inj h
      subst h
      exact j_zret K rfl dX8_in_18
abbrev uX8_no (cyI cyJ cyS : ClassId) : va_W := []
abbrev rmX8_no : Room := { frames := 0, cells := 0, slots := 0, locals := 0 }
abbrev wdX8_no : List Cond := .code yX8_no cX8_no 1 (some .long) :: wsL_law
theorem hzX8_no : yX8_no.cls ≠ "java/lang/invoke/MethodHandle" ∧ yX8_no.cls ≠ "java/lang/invoke/VarHandle" ∧ (parseMethodDescriptor yX8_no.desc).map (fun d => d.parameters.length) = some 1 := by decide +kernel
set_option maxRecDepth 100000 in
set_option maxHeartbeats 4000000 in
theorem ctX8_no (l : Launch) (D : va_G) (cyI cyJ cyS : ClassId) (i0 : Int32) (o_r : Int64) (h : fX8_no i0 = some (o_r)) : jC l yX8_no wdX8_no rmX8_no D vwCl (tyz cyI cyJ cyS) [.int i0] (uX8_no cyI cyJ cyS ) (some (.long o_r)) (uX8_no cyI cyJ cyS ) := by
  refine jC_of (cc := cX8_no) (nL := 1) (ret := (some .long)) (own := RX8) (lv := [(0, .int i0)]) (by decide) rfl rfl (Nat.le_of_ble_eq_true rfl) rfl ?_
  intro p e s m args below meth c A K
  unfold fX8_no at h
  refine j_ldc2 (v := (-9223372036854775808 : Int64)) K (List.mem_cons_of_mem _ mw_35_8) dX8_no_0 rfl ?_
  refine j_iload_n K 0 rfl dX8_no_3 rfl ?_
  refine j_i2l K dX8_no_4 rfl ?_
  refine j_lsub K dX8_no_5 rfl ?_
  have h := Option.some.inj h
  subst h
  exact j_lret K dX8_no_6
abbrev uX8_isTwo (cyI cyJ cyS : ClassId) : va_W := []
abbrev rmX8_isTwo : Room := { frames := 1, cells := 0, slots := 0, locals := 25 }
abbrev wdX8_isTwo : List Cond := .code yX8_isTwo cX8_isTwo 1 (some .boolean) :: wsL_law
theorem hzX8_isTwo : yX8_isTwo.cls ≠ "java/lang/invoke/MethodHandle" ∧ yX8_isTwo.cls ≠ "java/lang/invoke/VarHandle" ∧ (parseMethodDescriptor yX8_isTwo.desc).map (fun d => d.parameters.length) = some 1 := by decide +kernel
set_option maxRecDepth 100000 in
set_option maxHeartbeats 4000000 in
theorem ctX8_isTwo (l : Launch) (D : va_G) (cyI cyJ cyS : ClassId) (i0 : Int32) (o_r : Int32) (h : fX8_isTwo i0 = some (o_r)) : jC l yX8_isTwo wdX8_isTwo rmX8_isTwo D vwCl (tyz cyI cyJ cyS) [.int i0] (uX8_isTwo cyI cyJ cyS ) (some (.int o_r)) (uX8_isTwo cyI cyJ cyS ) := by
  refine jC_of (cc := cX8_isTwo) (nL := 1) (ret := (some .boolean)) (own := RX8) (lv := [(0, .int i0)]) (by decide) rfl rfl (Nat.le_of_ble_eq_true rfl) rfl ?_
  intro p e s m args below meth c A K
  unfold fX8_isTwo at h
  refine j_iload_n K 0 rfl dX8_isTwo_0 rfl ?_
  refine j_i2l K dX8_isTwo_1 rfl ?_
  refine j_lconst (v := (0 : Int64)) K (by decide) dX8_isTwo_2 rfl ?_
  refine j_lconst (v := (1 : Int64)) K (by decide) dX8_isTwo_3 rfl ?_
  obtain ⟨r_1, hc, h⟩ := bd1_some h
  refine j_callS (rest := []) (st1 := [.int r_1]) (ws' := (uX8_isTwo cyI cyJ cyS )) K (ctX8_in l D cyI cyJ cyS (Int32.toInt64 i0) (0 : Int64) (1 : Int64) r_1 hc) (gdS mcL mw_7_22 mw_7_23 mw_1_5 mw_8_0) rfl ⟨rfl, rfl⟩ hzX8_in ⟨Nat.le_of_ble_eq_true rfl, Nat.le_of_ble_eq_true rfl, Nat.le_of_ble_eq_true rfl, Nat.le_of_ble_eq_true rfl⟩ [] (by decide) rfl [] (by decide) rfl rfl rfl rfl (Nat.le_of_ble_eq_true rfl) dX8_isTwo_4 rfl rfl ?_
  obtain ⟨hz, h⟩ := ckB_some h
  have h := Option.some.inj h
  subst h
  exact j_zret K (nar_b hz) dX8_isTwo_7
abbrev uX8_isIn (cyI cyJ cyS : ClassId) : va_W := []
abbrev rmX8_isIn : Room := { frames := 0, cells := 0, slots := 0, locals := 0 }
abbrev wdX8_isIn : List Cond := .code yX8_isIn cX8_isIn 2 (some .boolean) :: wsL_law
theorem hzX8_isIn : yX8_isIn.cls ≠ "java/lang/invoke/MethodHandle" ∧ yX8_isIn.cls ≠ "java/lang/invoke/VarHandle" ∧ (parseMethodDescriptor yX8_isIn.desc).map (fun d => d.parameters.length) = some 2 := by decide +kernel
set_option maxRecDepth 100000 in
set_option maxHeartbeats 4000000 in
theorem ctX8_isIn (l : Launch) (D : va_G) (cyI cyJ cyS : ClassId) (i0 : Int32) (i1 : Int32) (o_r : Int32) (h : fX8_isIn i0 i1 = some (o_r)) : jC l yX8_isIn wdX8_isIn rmX8_isIn D vwCl (tyz cyI cyJ cyS) [.int i0, .int i1] (uX8_isIn cyI cyJ cyS ) (some (.int o_r)) (uX8_isIn cyI cyJ cyS ) := by
  refine jC_of (cc := cX8_isIn) (nL := 2) (ret := (some .boolean)) (own := RX8) (lv := [(0, .int i0), (1, .int i1)]) (by decide) rfl rfl (Nat.le_of_ble_eq_true rfl) rfl ?_
  intro p e s m args below meth c A K
  unfold fX8_isIn at h
  refine j_iload_n K 0 rfl dX8_isIn_0 rfl ?_
  refine j_iload_n K 1 rfl dX8_isIn_1 rfl ?_
  refine j_ishr K dX8_isIn_2 rfl ?_
  refine j_iconst (v := (1 : Int32)) K (by decide) dX8_isIn_3 rfl ?_
  refine j_iand K dX8_isIn_4 rfl ?_
  refine j_iconst (v := (1 : Int32)) K (by decide) dX8_isIn_5 rfl ?_
  refine j_icmp_ne (tgt := 13) K dX8_isIn_6 (by decide) rfl h (fun h => ?_) (fun h => ?_)
  · refine j_iconst (v := (0 : Int32)) K (by decide) dX8_isIn_13 rfl ?_
    have h := Option.some.inj h
    subst h
    exact j_zret K rfl dX8_isIn_14
  · refine j_iconst (v := (1 : Int32)) K (by decide) dX8_isIn_9 rfl ?_
    refine j_goto (pc' := 14) K dX8_isIn_10 (by decide) ?_
    have h := Option.some.inj h
    subst h
    exact j_zret K rfl dX8_isIn_14
abbrev uX8_lesser (cyI cyJ cyS : ClassId) : va_W := []
abbrev rmX8_lesser : Room := { frames := 0, cells := 0, slots := 0, locals := 0 }
abbrev wdX8_lesser : List Cond := .code yX8_lesser cX8_lesser 2 (some .int) :: wsL_law
theorem hzX8_lesser : yX8_lesser.cls ≠ "java/lang/invoke/MethodHandle" ∧ yX8_lesser.cls ≠ "java/lang/invoke/VarHandle" ∧ (parseMethodDescriptor yX8_lesser.desc).map (fun d => d.parameters.length) = some 2 := by decide +kernel
set_option maxRecDepth 100000 in
set_option maxHeartbeats 4000000 in
theorem ctX8_lesser (l : Launch) (D : va_G) (cyI cyJ cyS : ClassId) (i0 : Int32) (i1 : Int32) (o_r : Int32) (h : fX8_lesser i0 i1 = some (o_r)) : jC l yX8_lesser wdX8_lesser rmX8_lesser D vwCl (tyz cyI cyJ cyS) [.int i0, .int i1] (uX8_lesser cyI cyJ cyS ) (some (.int o_r)) (uX8_lesser cyI cyJ cyS ) := by
  refine jC_of (cc := cX8_lesser) (nL := 2) (ret := (some .int)) (own := RX8) (lv := [(0, .int i0), (1, .int i1)]) (by decide) rfl rfl (Nat.le_of_ble_eq_true rfl) rfl ?_
  intro p e s m args below meth c A K
  unfold fX8_lesser at h
  refine j_iload_n K 0 rfl dX8_lesser_0 rfl ?_
  refine j_iload_n K 1 rfl dX8_lesser_1 rfl ?_
  refine j_icmp_ge (tgt := 9) K dX8_lesser_2 (by decide) rfl h (fun h => ?_) (fun h => ?_)
  · refine j_iload_n K 1 rfl dX8_lesser_9 rfl ?_
    have h := Option.some.inj h
    subst h
    exact j_iret K dX8_lesser_10
  · refine j_iload_n K 0 rfl dX8_lesser_5 rfl ?_
    refine j_goto (pc' := 10) K dX8_lesser_6 (by decide) ?_
    have h := Option.some.inj h
    subst h
    exact j_iret K dX8_lesser_10
abbrev uX8_greater (cyI cyJ cyS : ClassId) : va_W := []
abbrev rmX8_greater : Room := { frames := 0, cells := 0, slots := 0, locals := 0 }
abbrev wdX8_greater : List Cond := .code yX8_greater cX8_greater 2 (some .int) :: wsL_law
theorem hzX8_greater : yX8_greater.cls ≠ "java/lang/invoke/MethodHandle" ∧ yX8_greater.cls ≠ "java/lang/invoke/VarHandle" ∧ (parseMethodDescriptor yX8_greater.desc).map (fun d => d.parameters.length) = some 2 := by decide +kernel
set_option maxRecDepth 100000 in
set_option maxHeartbeats 4000000 in
theorem ctX8_greater (l : Launch) (D : va_G) (cyI cyJ cyS : ClassId) (i0 : Int32) (i1 : Int32) (o_r : Int32) (h : fX8_greater i0 i1 = some (o_r)) : jC l yX8_greater wdX8_greater rmX8_greater D vwCl (tyz cyI cyJ cyS) [.int i0, .int i1] (uX8_greater cyI cyJ cyS ) (some (.int o_r)) (uX8_greater cyI cyJ cyS ) := by
  refine jC_of (cc := cX8_greater) (nL := 2) (ret := (some .int)) (own := RX8) (lv := [(0, .int i0), (1, .int i1)]) (by decide) rfl rfl (Nat.le_of_ble_eq_true rfl) rfl ?_
  intro p e s m args below meth c A K
  unfold fX8_greater at h
  refine j_iload_n K 0 rfl dX8_greater_0 rfl ?_
  refine j_iload_n K 1 rfl dX8_greater_1 rfl ?_
  refine j_icmp_le (tgt := 9) K dX8_greater_2 (by decide) rfl h (fun h => ?_) (fun h => ?_)
  · refine j_iload_n K 1 rfl dX8_greater_9 rfl ?_
    have h := Option.some.inj h
    subst h
    exact j_iret K dX8_greater_10
  · refine j_iload_n K 0 rfl dX8_greater_5 rfl ?_
    refine j_goto (pc' := 10) K dX8_greater_6 (by decide) ?_
    have h := Option.some.inj h
    subst h
    exact j_iret K dX8_greater_10
end GEN
