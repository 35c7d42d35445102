section GEN
variable {p : Program} {l : Launch} {e : Env} {s : State} {m : MethodId} {args : Array Value} {below : List Frame} {meth : Method} {c : Code} {A : Nat → Prop} {D : va_G} {cyI cyJ cyS : ClassId}
abbrev uX7_weight (cyI cyJ cyS : ClassId) (a0 : Nat → Nat) (c_room : Int32) (c_finding : Int32) (c_courseKnown : Int32) (c_settledByKnown : Int32) (c_events_size : Int32) : va_W := [((a0 0), .inr (7, [.ref (a0 1), .ref (a0 3), .ref (a0 7), .ref (a0 11), .ref (a0 15), .ref (a0 19), .ref (a0 31), .ref (a0 43), .ref (a0 44), .ref (a0 53), .ref (a0 54), .int c_room, .int c_finding, .int c_courseKnown, .int c_settledByKnown])), ((a0 11), .inr (2, [.ref (a0 12), .ref (a0 13), .ref (a0 14), .int c_events_size]))]
abbrev rmX7_weight : Room := { frames := 0, cells := 0, slots := 0, locals := 0 }
abbrev wdX7_weight : List Cond := .code yX7_weight cX7_weight 6 (some .long) :: wsL_law
theorem hyX7_weight : yX7_weight.cls = RX7 ∧ yX7_weight.cls ≠ "java/lang/invoke/MethodHandle" ∧ yX7_weight.cls ≠ "java/lang/invoke/VarHandle" ∧ (parseMethodDescriptor yX7_weight.desc).map (fun d => d.parameters.length) = some 2 := by decide +kernel
set_option maxRecDepth 100000 in
set_option maxHeartbeats 4000000 in
theorem wX7_weight_37 (K : jK p s m args meth c A D vwCl (tyz cyI cyJ cyS) cX7_weight 6 RX7 wdX7_weight (some .long)) (a0 : Nat → Nat) (c_room : Int32) (c_finding : Int32) (c_courseKnown : Int32) (c_settledByKnown : Int32) (i1 : Int32) (i2 : Int32) (c_events_size : Int32) (o_r : Int64)  (q_5 : Int64 → Int32 → Option (Int64)) (hq_5 : ∀ (l3 : Int64) (i5 : Int32), q_5 l3 i5 = some (o_r) → jw p l e rmX7_weight s m args below meth c (jQ below args s A D vwCl (tyz cyI cyJ cyS) 0 0 (some (.long o_r)) (uX7_weight cyI cyJ cyS a0 c_room c_finding c_courseKnown c_settledByKnown c_events_size)) A D vwCl 6 0 0 5 [(0, .ref (a0 0)), (1, .int i1), (2, .int i2), (3, .long l3), (5, .int i5)] [] (uX7_weight cyI cyJ cyS a0 c_room c_finding c_courseKnown c_settledByKnown c_events_size)) : ∀ (i5 : Int32) (t0 : Int64) (t1 : Int64), fX7_weight_37 i1 i2 c_events_size q_5 i5 t0 t1 = some (o_r) → jw p l e rmX7_weight s m args below meth c (jQ below args s A D vwCl (tyz cyI cyJ cyS) 0 0 (some (.long o_r)) (uX7_weight cyI cyJ cyS a0 c_room c_finding c_courseKnown c_settledByKnown c_events_size)) A D vwCl 6 0 0 37 [(0, .ref (a0 0)), (1, .int i1), (2, .int i2), (5, .int i5)] [.long t0, .long t1] (uX7_weight cyI cyJ cyS a0 c_room c_finding c_courseKnown c_settledByKnown c_events_size) := by
  intro i5 t0 t1 h
  unfold fX7_weight_37 at h
  refine j_lmul K dX7_weight_37 rfl ?_
  refine j_nmL h (fun l3_1 h => ?_)
  refine j_lstore_n (lv' := [(3, .long l3_1), (0, .ref (a0 0)), (1, .int i1), (2, .int i2), (5, .int i5)]) K (by decide) rfl dX7_weight_38 rfl ?_
  refine j_iincN (lf := fun z => [(5, .int z), (3, .long l3_1), (0, .ref (a0 0)), (1, .int i1), (2, .int i2)]) K (v := i5 + (1 : Int32)) (k := 4) rfl rfl (by decide) (fun _ => rfl) dX7_weight_39 rfl h (fun i5_2 h => ?_)
  refine j_goto (pc' := 5) K dX7_weight_42 (by decide) ?_
  refine j_sub [2, 3, 4, 1, 0] (lv' := [(0, .ref (a0 0)), (1, .int i1), (2, .int i2), (3, .long l3_1), (5, .int i5_2)]) rfl ?_
  exact hq_5 l3_1 i5_2 h
set_option maxRecDepth 100000 in
set_option maxHeartbeats 4000000 in
theorem wX7_weight_5 (K : jK p s m args meth c A D vwCl (tyz cyI cyJ cyS) cX7_weight 6 RX7 wdX7_weight (some .long)) (a0 : Nat → Nat) (c_room : Int32) (c_finding : Int32) (c_courseKnown : Int32) (c_settledByKnown : Int32) (i1 : Int32) (i2 : Int32) (c_events_size : Int32) (o_r : Int64)   : ∀ (n : Nat) (l3 : Int64) (i5 : Int32), fX7_weight_5 i1 i2 c_events_size  n l3 i5 = some (o_r) → jw p l e rmX7_weight s m args below meth c (jQ below args s A D vwCl (tyz cyI cyJ cyS) 0 0 (some (.long o_r)) (uX7_weight cyI cyJ cyS a0 c_room c_finding c_courseKnown c_settledByKnown c_events_size)) A D vwCl 6 0 0 5 [(0, .ref (a0 0)), (1, .int i1), (2, .int i2), (3, .long l3), (5, .int i5)] [] (uX7_weight cyI cyJ cyS a0 c_room c_finding c_courseKnown c_settledByKnown c_events_size) := by
  intro n
  induction n with
  | zero => intro l3 i5 h; cases h
  | succ n ih =>
    intro l3 i5 h
    have h : bX7_weight_5 i1 i2 c_events_size  (fX7_weight_5 i1 i2 c_events_size  n) l3 i5 = some (o_r) := h
    unfold bX7_weight_5 at h
    refine j_iload K 4 rfl dX7_weight_5 rfl ?_
    refine j_aload_n K 0 rfl dX7_weight_7 rfl ?_
    refine j_getf (C := RX7) (T := TX7) (N := 15) (ci := 7) K icX7 0 3 (List.mem_cons_of_mem _ mw_2_0) rfl rfl rfl (by decide) rfl dX7_weight_8 rfl ?_
    refine j_getf (C := RX2) (T := TX2) (N := 4) (ci := 2) K icX2 1 3 (List.mem_cons_of_mem _ mw_10_22) rfl rfl rfl (by decide) rfl dX7_weight_11 rfl ?_
    refine j_icmp_ge (tgt := 45) K dX7_weight_14 (by decide) rfl h (fun h => ?_) (fun h => ?_)
    · refine j_lload_n K 3 rfl dX7_weight_45 rfl ?_
      have h := Option.some.inj h
      subst h
      exact j_lret K dX7_weight_46
    · refine j_lload_n K 3 rfl dX7_weight_17 rfl ?_
      refine j_iload_n K 2 rfl dX7_weight_18 rfl ?_
      refine j_iload K 4 rfl dX7_weight_19 rfl ?_
      refine j_ishr K dX7_weight_21 rfl ?_
      refine j_iconst (v := (1 : Int32)) K (by decide) dX7_weight_22 rfl ?_
      refine j_iand K dX7_weight_23 rfl ?_
      refine j_if_eq (tgt := 32) K dX7_weight_24 (by decide) rfl h (fun h => ?_) (fun h => ?_)
      · refine j_bipush (v := (16 : Int32)) K (by decide) dX7_weight_32 rfl ?_
        refine j_iload_n K 1 rfl dX7_weight_34 rfl ?_
        refine j_isub K dX7_weight_35 rfl ?_
        refine j_i2l K dX7_weight_36 rfl ?_
        refine j_sub [0, 1, 2, 4] (lv' := [(0, .ref (a0 0)), (1, .int i1), (2, .int i2), (5, .int i5)]) rfl ?_
        exact wX7_weight_37 K a0 c_room c_finding c_courseKnown c_settledByKnown i1 i2 c_events_size o_r (fX7_weight_5 i1 i2 c_events_size n) (fun z0 z1 hq => ih z0 z1 hq) i5 (Int32.toInt64 ((16 : Int32) - i1)) l3 h
      · refine j_iload_n K 1 rfl dX7_weight_27 rfl ?_
        refine j_i2l K dX7_weight_28 rfl ?_
        refine j_goto (pc' := 37) K dX7_weight_29 (by decide) ?_
        refine j_sub [0, 1, 2, 4] (lv' := [(0, .ref (a0 0)), (1, .int i1), (2, .int i2), (5, .int i5)]) rfl ?_
        exact wX7_weight_37 K a0 c_room c_finding c_courseKnown c_settledByKnown i1 i2 c_events_size o_r (fX7_weight_5 i1 i2 c_events_size n) (fun z0 z1 hq => ih z0 z1 hq) i5 (Int32.toInt64 i1) l3 h
set_option maxRecDepth 100000 in
set_option maxHeartbeats 4000000 in
theorem ctX7_weight (l : Launch) (D : va_G) (cyI cyJ cyS : ClassId) (a0 : Nat → Nat) (i1 : Int32) (i2 : Int32) (c_room : Int32) (c_finding : Int32) (c_courseKnown : Int32) (c_settledByKnown : Int32) (c_events_size : Int32) (o_r : Int64) (h : fX7_weight i1 i2 c_events_size = some (o_r)) : jC l yX7_weight wdX7_weight rmX7_weight D vwCl (tyz cyI cyJ cyS) [.ref (a0 0), .int i1, .int i2] (uX7_weight cyI cyJ cyS a0 c_room c_finding c_courseKnown c_settledByKnown c_events_size) (some (.long o_r)) (uX7_weight cyI cyJ cyS a0 c_room c_finding c_courseKnown c_settledByKnown c_events_size) := by
  refine jC_of (cc := cX7_weight) (nL := 6) (ret := (some .long)) (own := RX7) (lv := [(0, .ref (a0 0)), (1, .int i1), (2, .int i2)]) (by decide) rfl rfl (Nat.le_of_ble_eq_true rfl) rfl ?_
  intro p e s m args below meth c A K
  unfold fX7_weight at h
  refine j_lconst (v := (1 : Int64)) K (by decide) dX7_weight_0 rfl ?_
  refine j_lstore_n (lv' := [(3, .long (1 : Int64)), (0, .ref (a0 0)), (1, .int i1), (2, .int i2)]) K (by decide) rfl dX7_weight_1 rfl ?_
  refine j_iconst (v := (0 : Int32)) K (by decide) dX7_weight_2 rfl ?_
  refine j_istore (lv' := [(5, .int (0 : Int32)), (3, .long (1 : Int64)), (0, .ref (a0 0)), (1, .int i1), (2, .int i2)]) K (by decide) rfl dX7_weight_3 rfl ?_
  refine j_sub [2, 3, 4, 1, 0] (lv' := [(0, .ref (a0 0)), (1, .int i1), (2, .int i2), (3, .long (1 : Int64)), (5, .int (0 : Int32))]) rfl ?_
  exact wX7_weight_5 K a0 c_room c_finding c_courseKnown c_settledByKnown i1 i2 c_events_size o_r jF (1 : Int64) (0 : Int32) h
end GEN
