section GEN
variable {p : Program} {l : Launch} {e : Env} {s : State} {m : MethodId} {args : Array Value} {below : List Frame} {meth : Method} {c : Code} {A : Nat → Prop} {D : va_G} {cyI cyJ cyS : ClassId}
abbrev uX8_part (cyI cyJ cyS : ClassId) : va_W := []
abbrev rmX8_part : Room := { frames := 0, cells := 0, slots := 0, locals := 0 }
abbrev wdX8_part : List Cond := .code yX8_part cX8_part 11 (some .long) :: wsL_law
theorem hzX8_part : yX8_part.cls ≠ "java/lang/invoke/MethodHandle" ∧ yX8_part.cls ≠ "java/lang/invoke/VarHandle" ∧ (parseMethodDescriptor yX8_part.desc).map (fun d => d.parameters.length) = some 3 := by decide +kernel
set_option maxRecDepth 100000 in
set_option maxHeartbeats 4000000 in
theorem wX8_part_6 (K : jK p s m args meth c A D vwCl (tyz cyI cyJ cyS) cX8_part 11 RX8 wdX8_part (some .long))   (l0 : Int64) (l2 : Int64) (i4 : Int32) (o_r : Int64)   : ∀ (n : Nat) (l5 : Int64) (l7 : Int64), fX8_part_6 l0 l2 i4  n l5 l7 = some (o_r) → jw p l e rmX8_part s m args below meth c (jQ below args s A D vwCl (tyz cyI cyJ cyS) 0 0 (some (.long o_r)) (uX8_part cyI cyJ cyS )) A D vwCl 11 0 0 6 [(0, .long l0), (2, .long l2), (4, .int i4), (5, .long l5), (7, .long l7)] [] (uX8_part cyI cyJ cyS ) := by
  intro n
  induction n with
  | zero => intro l5 l7 h; cases h
  | succ n ih =>
    intro l5 l7 h
    have h : bX8_part_6 l0 l2 i4  (fX8_part_6 l0 l2 i4  n) l5 l7 = some (o_r) := h
    unfold bX8_part_6 at h
    refine j_lload K 4 rfl dX8_part_6 rfl ?_
    refine j_lconst (v := (0 : Int64)) K (by decide) dX8_part_8 rfl ?_
    refine j_lcmp K dX8_part_9 rfl ?_
    refine j_if_eq (tgt := 31) K dX8_part_10 (by decide) rfl h (fun h => ?_) (fun h => ?_)
    · refine j_iload K 2 rfl dX8_part_31 rfl ?_
      refine j_if_ne (tgt := 40) K dX8_part_33 (by decide) rfl h (fun h => ?_) (fun h => ?_)
      · refine j_lload_n K 1 rfl dX8_part_40 rfl ?_
        refine j_lload K 3 rfl dX8_part_41 rfl ?_
        obtain ⟨hz, h⟩ := ckZL_some h
        refine j_ldiv K hz dX8_part_43 rfl ?_
        have h := Option.some.inj h
        subst h
        exact j_lret K dX8_part_44
      · refine j_lload_n K 0 rfl dX8_part_36 rfl ?_
        refine j_goto (pc' := 41) K dX8_part_37 (by decide) ?_
        refine j_lload K 3 rfl dX8_part_41 rfl ?_
        obtain ⟨hz, h⟩ := ckZL_some h
        refine j_ldiv K hz dX8_part_43 rfl ?_
        have h := Option.some.inj h
        subst h
        exact j_lret K dX8_part_44
    · refine j_lload K 3 rfl dX8_part_13 rfl ?_
      refine j_lload K 4 rfl dX8_part_15 rfl ?_
      obtain ⟨hz, h⟩ := ckZL_some h
      refine j_lrem K hz dX8_part_17 rfl ?_
      refine j_nmL h (fun l9_1 h => ?_)
      refine j_lstore (lv' := [(9, .long l9_1), (0, .long l0), (2, .long l2), (4, .int i4), (5, .long l5), (7, .long l7)]) K (by decide) rfl dX8_part_18 rfl ?_
      refine j_lload K 5 rfl dX8_part_20 rfl ?_
      refine j_lstore (lv' := [(5, .long l7), (9, .long l9_1), (0, .long l0), (2, .long l2), (4, .int i4), (7, .long l7)]) K (by decide) rfl dX8_part_22 rfl ?_
      refine j_lload K 1 rfl dX8_part_24 rfl ?_
      refine j_lstore (lv' := [(7, .long l9_1), (5, .long l7), (9, .long l9_1), (0, .long l0), (2, .long l2), (4, .int i4)]) K (by decide) rfl dX8_part_26 rfl ?_
      refine j_goto (pc' := 6) K dX8_part_28 (by decide) ?_
      refine j_sub [3, 4, 5, 1, 0] (lv' := [(0, .long l0), (2, .long l2), (4, .int i4), (5, .long l7), (7, .long l9_1)]) rfl ?_
      exact ih l7 l9_1 h
set_option maxRecDepth 100000 in
set_option maxHeartbeats 4000000 in
theorem ctX8_part (l : Launch) (D : va_G) (cyI cyJ cyS : ClassId) (l0 : Int64) (l2 : Int64) (i4 : Int32) (o_r : Int64) (h : fX8_part l0 l2 i4 = some (o_r)) : jC l yX8_part wdX8_part rmX8_part D vwCl (tyz cyI cyJ cyS) [.long l0, .long l2, .int i4] (uX8_part cyI cyJ cyS ) (some (.long o_r)) (uX8_part cyI cyJ cyS ) := by
  refine jC_of (cc := cX8_part) (nL := 11) (ret := (some .long)) (own := RX8) (lv := [(0, .long l0), (2, .long l2), (4, .int i4)]) (by decide) rfl rfl (Nat.le_of_ble_eq_true rfl) rfl ?_
  intro p e s m args below meth c A K
  unfold fX8_part at h
  refine j_lload_n K 0 rfl dX8_part_0 rfl ?_
  refine j_lstore (lv' := [(5, .long l0), (0, .long l0), (2, .long l2), (4, .int i4)]) K (by decide) rfl dX8_part_1 rfl ?_
  refine j_lload_n K 2 rfl dX8_part_3 rfl ?_
  refine j_lstore (lv' := [(7, .long l2), (5, .long l0), (0, .long l0), (2, .long l2), (4, .int i4)]) K (by decide) rfl dX8_part_4 rfl ?_
  refine j_sub [2, 3, 4, 1, 0] (lv' := [(0, .long l0), (2, .long l2), (4, .int i4), (5, .long l0), (7, .long l2)]) rfl ?_
  exact wX8_part_6 K l0 l2 i4 o_r jF l0 l2 h
abbrev uX8_finds (cyI cyJ cyS : ClassId) (a0 : Nat → Nat) (c_latest : Int32) (c_typed : Int32) (c_tenants : Int32) (c_room : Int32) (c_events : Int32) (c_gone : Int32) (c_audit : Int32) (c_sights : Int32) (c_drawn : Int32) : va_W := [((a0 0), .inr (8, [.ref (a0 1), .ref (a0 2), .ref (a0 3), .ref (a0 4), .int c_latest, .ref (a0 5), .int c_typed, .int c_tenants, .ref (a0 6), .int c_room, .int c_events, .ref (a0 7), .int c_gone, .ref (a0 8), .ref (a0 9), .ref (a0 10), .ref (a0 11), .ref (a0 12), .ref (a0 13), .ref (a0 14), .ref (a0 15), .ref (a0 16), .ref (a0 17), .ref (a0 18), .int c_audit, .int c_sights, .ref (a0 19), .ref (a0 20), .int c_drawn]))]
abbrev rmX8_finds : Room := { frames := 0, cells := 0, slots := 0, locals := 0 }
abbrev wdX8_finds : List Cond := .code yX8_finds cX8_finds 2 (some .int) :: wsL_law
theorem hyX8_finds : yX8_finds.cls = RX8 ∧ yX8_finds.cls ≠ "java/lang/invoke/MethodHandle" ∧ yX8_finds.cls ≠ "java/lang/invoke/VarHandle" ∧ (parseMethodDescriptor yX8_finds.desc).map (fun d => d.parameters.length) = some 1 := by decide +kernel
set_option maxRecDepth 100000 in
set_option maxHeartbeats 4000000 in
theorem ctX8_finds (l : Launch) (D : va_G) (cyI cyJ cyS : ClassId) (a0 : Nat → Nat) (i1 : Int32) (c_typed : Int32) (c_tenants : Int32) (c_room : Int32) (c_events : Int32) (c_gone : Int32) (c_audit : Int32) (c_sights : Int32) (c_drawn : Int32) (c_latest : Int32) (o_r : Int32) (o_latest : Int32) (h : fX8_finds i1 c_latest = some (o_r, o_latest)) : jC l yX8_finds wdX8_finds rmX8_finds D vwCl (tyz cyI cyJ cyS) [.ref (a0 0), .int i1] (uX8_finds cyI cyJ cyS a0 c_latest c_typed c_tenants c_room c_events c_gone c_audit c_sights c_drawn) (some (.int o_r)) (uX8_finds cyI cyJ cyS a0 o_latest c_typed c_tenants c_room c_events c_gone c_audit c_sights c_drawn) := by
  refine jC_of (cc := cX8_finds) (nL := 2) (ret := (some .int)) (own := RX8) (lv := [(0, .ref (a0 0)), (1, .int i1)]) (by decide) rfl rfl (Nat.le_of_ble_eq_true rfl) rfl ?_
  intro p e s m args below meth c A K
  unfold fX8_finds at h
  refine j_aload_n K 0 rfl dX8_finds_0 rfl ?_
  refine j_iload_n K 1 rfl dX8_finds_1 rfl ?_
  refine j_putf (C := RX8) (T := TX8) (N := 29) (ci := 8) (ty := .int) (ws' := (uX8_finds cyI cyJ cyS a0 i1 c_typed c_tenants c_room c_events c_gone c_audit c_sights c_drawn)) K icX8 tyX8 tyX8_ok nmX8 0 4 (List.mem_cons_of_mem _ mw_13_2) rfl rfl rfl (by decide) rfl (by decide +kernel) rfl rfl (Nat.le_of_ble_eq_true rfl) rfl dX8_finds_2 rfl ?_
  refine j_bipush (v := (-10 : Int32)) K (by decide) dX8_finds_5 rfl ?_
  refine j_iload_n K 1 rfl dX8_finds_7 rfl ?_
  refine j_isub K dX8_finds_8 rfl ?_
  obtain ⟨e1, g1⟩ := Prod.mk.inj (Option.some.inj h)
  subst e1
  subst g1
  exact j_iret K dX8_finds_9
abbrev uX8_isSheet (cyI cyJ cyS : ClassId) : va_W := []
abbrev rmX8_isSheet : Room := { frames := 1, cells := 0, slots := 0, locals := 25 }
abbrev wdX8_isSheet : List Cond := .code yX8_isSheet cX8_isSheet 1 (some .boolean) :: wsL_law
theorem hzX8_isSheet : yX8_isSheet.cls ≠ "java/lang/invoke/MethodHandle" ∧ yX8_isSheet.cls ≠ "java/lang/invoke/VarHandle" ∧ (parseMethodDescriptor yX8_isSheet.desc).map (fun d => d.parameters.length) = some 1 := by decide +kernel
set_option maxRecDepth 100000 in
set_option maxHeartbeats 4000000 in
theorem ctX8_isSheet (l : Launch) (D : va_G) (cyI cyJ cyS : ClassId) (i0 : Int32) (o_r : Int32) (h : fX8_isSheet i0 = some (o_r)) : jC l yX8_isSheet wdX8_isSheet rmX8_isSheet D vwCl (tyz cyI cyJ cyS) [.int i0] (uX8_isSheet cyI cyJ cyS ) (some (.int o_r)) (uX8_isSheet cyI cyJ cyS ) := by
  refine jC_of (cc := cX8_isSheet) (nL := 1) (ret := (some .boolean)) (own := RX8) (lv := [(0, .int i0)]) (by decide) rfl rfl (Nat.le_of_ble_eq_true rfl) rfl ?_
  intro p e s m args below meth c A K
  unfold fX8_isSheet at h
  refine j_iload_n K 0 rfl dX8_isSheet_0 rfl ?_
  refine j_i2l K dX8_isSheet_1 rfl ?_
  refine j_lconst (v := (0 : Int64)) K (by decide) dX8_isSheet_2 rfl ?_
  refine j_ldc2 (v := (3 : Int64)) K (List.mem_cons_of_mem _ mw_12_21) dX8_isSheet_3 rfl ?_
  obtain ⟨r_1, hc, h⟩ := bd1_some h
  refine j_callS (rest := []) (st1 := [.int r_1]) (ws' := (uX8_isSheet cyI cyJ cyS )) K (ctX8_in l D cyI cyJ cyS (Int32.toInt64 i0) (0 : Int64) (3 : Int64) r_1 hc) (gdS mcL mw_7_22 mw_7_23 mw_1_5 mw_8_0) rfl ⟨rfl, rfl⟩ hzX8_in ⟨Nat.le_of_ble_eq_true rfl, Nat.le_of_ble_eq_true rfl, Nat.le_of_ble_eq_true rfl, Nat.le_of_ble_eq_true rfl⟩ [] (by decide) rfl [] (by decide) rfl rfl rfl rfl (Nat.le_of_ble_eq_true rfl) dX8_isSheet_6 rfl rfl ?_
  obtain ⟨hz, h⟩ := ckB_some h
  have h := Option.some.inj h
  subst h
  exact j_zret K (nar_b hz) dX8_isSheet_9
end GEN
