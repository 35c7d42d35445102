section GEN
variable {p : Program} {l : Launch} {e : Env} {s : State} {m : MethodId} {args : Array Value} {below : List Frame} {meth : Method} {c : Code} {A : Nat → Prop} {D : va_G} {cyI cyJ cyS : ClassId}
abbrev uX7_digestBest (cyI cyJ cyS : ClassId) (a0 : Nat → Nat) (c_room : Int32) (c_finding : Int32) (c_courseKnown : Int32) (c_settledByKnown : Int32) (c_best_which : Int32) (c_best_settled : Int32) (c_best_falls : Int32) : va_W := [((a0 0), .inr (7, [.ref (a0 1), .ref (a0 3), .ref (a0 7), .ref (a0 11), .ref (a0 15), .ref (a0 19), .ref (a0 31), .ref (a0 43), .ref (a0 44), .ref (a0 53), .ref (a0 54), .int c_room, .int c_finding, .int c_courseKnown, .int c_settledByKnown])), ((a0 43), .inr (0, [.int c_best_which, .int c_best_settled, .int c_best_falls]))]
abbrev rmX7_digestBest : Room := { frames := 1, cells := 0, slots := 0, locals := 21 }
abbrev wdX7_digestBest : List Cond := .code yX7_digestBest cX7_digestBest 6 (some .long) :: wsL_law
theorem hyX7_digestBest : yX7_digestBest.cls = RX7 ∧ yX7_digestBest.cls ≠ "java/lang/invoke/MethodHandle" ∧ yX7_digestBest.cls ≠ "java/lang/invoke/VarHandle" ∧ (parseMethodDescriptor yX7_digestBest.desc).map (fun d => d.parameters.length) = some 1 := by decide +kernel
set_option maxRecDepth 100000 in
set_option maxHeartbeats 4000000 in
theorem wX7_digestBest_5 (K : jK p s m args meth c A D vwCl (tyz cyI cyJ cyS) cX7_digestBest 6 RX7 wdX7_digestBest (some .long)) (a0 : Nat → Nat) (c_room : Int32) (c_finding : Int32) (c_courseKnown : Int32) (c_settledByKnown : Int32) (l1 : Int64) (c_best : jB3) (o_r : Int64)   : ∀ (n : Nat) (l3 : Int64) (i5 : Int32), fX7_digestBest_5 l1 c_best  n l3 i5 = some (o_r) → jw p l e rmX7_digestBest s m args below meth c (jQ below args s A D vwCl (tyz cyI cyJ cyS) 0 0 (some (.long o_r)) (uX7_digestBest cyI cyJ cyS a0 c_room c_finding c_courseKnown c_settledByKnown c_best.1 c_best.2.1 c_best.2.2)) A D vwCl 6 0 0 5 [(0, .ref (a0 0)), (3, .long l3), (5, .int i5)] [] (uX7_digestBest cyI cyJ cyS a0 c_room c_finding c_courseKnown c_settledByKnown c_best.1 c_best.2.1 c_best.2.2) := by
  intro n
  induction n with
  | zero => intro l3 i5 h; cases h
  | succ n ih =>
    intro l3 i5 h
    have h : bX7_digestBest_5 l1 c_best  (fX7_digestBest_5 l1 c_best  n) l3 i5 = some (o_r) := h
    unfold bX7_digestBest_5 at h
    refine j_iload K 2 rfl dX7_digestBest_5 rfl ?_
    refine j_iconst (v := (2 : Int32)) K (by decide) dX7_digestBest_7 rfl ?_
    refine j_icmp_gt (tgt := 34) K dX7_digestBest_8 (by decide) rfl h (fun h => ?_) (fun h => ?_)
    · refine j_lload_n K 1 rfl dX7_digestBest_34 rfl ?_
      have h := Option.some.inj h
      subst h
      exact j_lret K dX7_digestBest_35
    · refine j_ldc2 (v := (31 : Int64)) K (List.mem_cons_of_mem _ mw_40_17) dX7_digestBest_11 rfl ?_
      refine j_lload_n K 1 rfl dX7_digestBest_14 rfl ?_
      refine j_lmul K dX7_digestBest_15 rfl ?_
      refine j_aload_n K 0 rfl dX7_digestBest_16 rfl ?_
      refine j_getf (C := RX7) (T := TX7) (N := 15) (ci := 7) K icX7 0 7 (List.mem_cons_of_mem _ mw_2_13) rfl rfl rfl (by decide) rfl dX7_digestBest_17 rfl ?_
      refine j_iload K 2 rfl dX7_digestBest_20 rfl ?_
      obtain ⟨r_1, hc, h⟩ := bd1_some h
      refine j_callV (rest := [.long ((31 : Int64) * l3)]) (st1 := [.int r_1, .long ((31 : Int64) * l3)]) (ws' := (uX7_digestBest cyI cyJ cyS a0 c_room c_finding c_courseKnown c_settledByKnown c_best.1 c_best.2.1 c_best.2.2)) (T := TX0) (N := 3) (ci := 0) K (ctX0_part l D cyI cyJ cyS (fun k => a0 (k + 43)) i5 c_best.1 c_best.2.1 c_best.2.2 r_1 hc) (gdV mcL mw_26_13 mw_26_14 mw_26_15 mw_2_12 mw_26_16) rfl ⟨rfl, rfl⟩ hyX0_part ⟨Nat.le_of_ble_eq_true rfl, Nat.le_of_ble_eq_true rfl, Nat.le_of_ble_eq_true rfl, Nat.le_of_ble_eq_true rfl⟩ [1] (by decide) rfl [none, some 0] (by decide) rfl rfl 1 rfl rfl rfl rfl (Nat.le_of_ble_eq_true rfl) dX7_digestBest_22 rfl rfl ?_
      refine j_i2l K dX7_digestBest_25 rfl ?_
      refine j_ladd K dX7_digestBest_26 rfl ?_
      refine j_nmL h (fun l3_2 h => ?_)
      refine j_lstore_n (lv' := [(3, .long l3_2), (0, .ref (a0 0)), (5, .int i5)]) K (by decide) rfl dX7_digestBest_27 rfl ?_
      refine j_iincN (lf := fun z => [(5, .int z), (3, .long l3_2), (0, .ref (a0 0))]) K (v := i5 + (1 : Int32)) (k := 2) rfl rfl (by decide) (fun _ => rfl) dX7_digestBest_28 rfl h (fun i5_3 h => ?_)
      refine j_goto (pc' := 5) K dX7_digestBest_31 (by decide) ?_
      refine j_sub [2, 1, 0] (lv' := [(0, .ref (a0 0)), (3, .long l3_2), (5, .int i5_3)]) rfl ?_
      exact ih l3_2 i5_3 h
set_option maxRecDepth 100000 in
set_option maxHeartbeats 4000000 in
theorem ctX7_digestBest (l : Launch) (D : va_G) (cyI cyJ cyS : ClassId) (a0 : Nat → Nat) (l1 : Int64) (c_room : Int32) (c_finding : Int32) (c_courseKnown : Int32) (c_settledByKnown : Int32) (c_best : jB3) (o_r : Int64) (h : fX7_digestBest l1 c_best = some (o_r)) : jC l yX7_digestBest wdX7_digestBest rmX7_digestBest D vwCl (tyz cyI cyJ cyS) [.ref (a0 0), .long l1] (uX7_digestBest cyI cyJ cyS a0 c_room c_finding c_courseKnown c_settledByKnown c_best.1 c_best.2.1 c_best.2.2) (some (.long o_r)) (uX7_digestBest cyI cyJ cyS a0 c_room c_finding c_courseKnown c_settledByKnown c_best.1 c_best.2.1 c_best.2.2) := by
  refine jC_of (cc := cX7_digestBest) (nL := 6) (ret := (some .long)) (own := RX7) (lv := [(0, .ref (a0 0)), (1, .long l1)]) (by decide) rfl rfl (Nat.le_of_ble_eq_true rfl) rfl ?_
  intro p e s m args below meth c A K
  unfold fX7_digestBest at h
  refine j_lload_n K 1 rfl dX7_digestBest_0 rfl ?_
  refine j_lstore_n (lv' := [(3, .long l1), (0, .ref (a0 0)), (1, .long l1)]) K (by decide) rfl dX7_digestBest_1 rfl ?_
  refine j_iconst (v := (0 : Int32)) K (by decide) dX7_digestBest_2 rfl ?_
  refine j_istore (lv' := [(5, .int (0 : Int32)), (3, .long l1), (0, .ref (a0 0)), (1, .long l1)]) K (by decide) rfl dX7_digestBest_3 rfl ?_
  refine j_sub [2, 1, 0] (lv' := [(0, .ref (a0 0)), (3, .long l1), (5, .int (0 : Int32))]) rfl ?_
  exact wX7_digestBest_5 K a0 c_room c_finding c_courseKnown c_settledByKnown l1 c_best o_r jF l1 (0 : Int32) h
end GEN
