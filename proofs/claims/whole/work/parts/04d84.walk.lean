section GEN
variable {p : Program} {l : Launch} {e : Env} {s : State} {m : MethodId} {args : Array Value} {below : List Frame} {meth : Method} {c : Code} {A : Nat → Prop} {D : va_G} {cyI cyJ cyS : ClassId}
abbrev uX8_tellsMonth (cyI cyJ cyS : ClassId) (a0 : Nat → Nat) (c_latest : Int32) (c_typed : Int32) (c_tenants : Int32) (c_room : Int32) (c_events : Int32) (c_gone : Int32) (c_audit : Int32) (c_sights : Int32) (c_drawn : Int32) (c_floorBy : Nat → Int32) (c_leftBy : Nat → Int32) (c_fellBy : Nat → Int32) : va_W := [((a0 0), .inr (8, [.ref (a0 1), .ref (a0 2), .ref (a0 3), .ref (a0 4), .int c_latest, .ref (a0 5), .int c_typed, .int c_tenants, .ref (a0 6), .int c_room, .int c_events, .ref (a0 7), .int c_gone, .ref (a0 8), .ref (a0 9), .ref (a0 10), .ref (a0 11), .ref (a0 12), .ref (a0 13), .ref (a0 14), .ref (a0 15), .ref (a0 16), .ref (a0 17), .ref (a0 18), .int c_audit, .int c_sights, .ref (a0 19), .ref (a0 20), .int c_drawn])), ((a0 16), .inl (cyI, 192, .inl c_floorBy)), ((a0 17), .inl (cyI, 192, .inl c_leftBy)), ((a0 18), .inl (cyI, 192, .inl c_fellBy))]
abbrev rmX8_tellsMonth : Room := { frames := 3, cells := 0, slots := 0, locals := 65 }
abbrev wdX8_tellsMonth : List Cond := .code yX8_tellsMonth cX8_tellsMonth 8 (some .long) :: wsL_law
theorem hyX8_tellsMonth : yX8_tellsMonth.cls = RX8 ∧ yX8_tellsMonth.cls ≠ "java/lang/invoke/MethodHandle" ∧ yX8_tellsMonth.cls ≠ "java/lang/invoke/VarHandle" ∧ (parseMethodDescriptor yX8_tellsMonth.desc).map (fun d => d.parameters.length) = some 3 := by decide +kernel
set_option maxRecDepth 100000 in
set_option maxHeartbeats 4000000 in
theorem wX8_tellsMonth_6 (K : jK p s m args meth c A D vwCl (tyz cyI cyJ cyS) cX8_tellsMonth 8 RX8 wdX8_tellsMonth (some .long)) (a0 : Nat → Nat) (c_latest : Int32) (c_typed : Int32) (c_tenants : Int32) (c_room : Int32) (c_events : Int32) (c_gone : Int32) (c_audit : Int32) (c_sights : Int32) (c_drawn : Int32) (l1 : Int64) (i3 : Int32) (i4 : Int32) (c_floorBy : Nat → Int32) (c_leftBy : Nat → Int32) (c_fellBy : Nat → Int32) (o_r : Int64)   : ∀ (n : Nat) (l5 : Int64) (i7 : Int32), fX8_tellsMonth_6 l1 i3 i4 c_floorBy c_leftBy c_fellBy  n l5 i7 = some (o_r) → jw p l e rmX8_tellsMonth s m args below meth c (jQ below args s A D vwCl (tyz cyI cyJ cyS) 0 0 (some (.long o_r)) (uX8_tellsMonth cyI cyJ cyS a0 c_latest c_typed c_tenants c_room c_events c_gone c_audit c_sights c_drawn c_floorBy c_leftBy c_fellBy)) A D vwCl 8 0 0 6 [(0, .ref (a0 0)), (3, .int i3), (4, .int i4), (5, .long l5), (7, .int i7)] [] (uX8_tellsMonth cyI cyJ cyS a0 c_latest c_typed c_tenants c_room c_events c_gone c_audit c_sights c_drawn c_floorBy c_leftBy c_fellBy) := by
  intro n
  induction n with
  | zero => intro l5 i7 h; cases h
  | succ n ih =>
    intro l5 i7 h
    have h : bX8_tellsMonth_6 l1 i3 i4 c_floorBy c_leftBy c_fellBy  (fX8_tellsMonth_6 l1 i3 i4 c_floorBy c_leftBy c_fellBy  n) l5 i7 = some (o_r) := h
    unfold bX8_tellsMonth_6 at h
    refine j_iload K 4 rfl dX8_tellsMonth_6 rfl ?_
    refine j_iconst (v := (4 : Int32)) K (by decide) dX8_tellsMonth_8 rfl ?_
    refine j_icmp_ge (tgt := 37) K dX8_tellsMonth_9 (by decide) rfl h (fun h => ?_) (fun h => ?_)
    · refine j_lload K 3 rfl dX8_tellsMonth_37 rfl ?_
      have h := Option.some.inj h
      subst h
      exact j_lret K dX8_tellsMonth_39
    · refine j_ldc2 (v := (31 : Int64)) K (List.mem_cons_of_mem _ mw_42_4) dX8_tellsMonth_12 rfl ?_
      refine j_lload K 3 rfl dX8_tellsMonth_15 rfl ?_
      refine j_lmul K dX8_tellsMonth_17 rfl ?_
      refine j_aload_n K 0 rfl dX8_tellsMonth_18 rfl ?_
      refine j_iload_n K 1 rfl dX8_tellsMonth_19 rfl ?_
      refine j_iload K 2 rfl dX8_tellsMonth_20 rfl ?_
      refine j_iload K 4 rfl dX8_tellsMonth_22 rfl ?_
      obtain ⟨r_1, hc, h⟩ := bd1_some h
      refine j_callV (rest := [.long ((31 : Int64) * l5)]) (st1 := [.int r_1, .long ((31 : Int64) * l5)]) (ws' := (uX8_tellsMonth cyI cyJ cyS a0 c_latest c_typed c_tenants c_room c_events c_gone c_audit c_sights c_drawn c_floorBy c_leftBy c_fellBy)) (T := TX8) (N := 29) (ci := 8) K (ctX8_atBy l D cyI cyJ cyS a0 i3 i4 i7 c_latest c_typed c_tenants c_room c_events c_gone c_audit c_sights c_drawn c_floorBy c_leftBy c_fellBy r_1 hc) (gdV mcL mw_19_7 mw_19_8 mw_19_9 mw_1_5 mw_19_10) rfl ⟨rfl, rfl⟩ hyX8_atBy ⟨Nat.le_of_ble_eq_true rfl, Nat.le_of_ble_eq_true rfl, Nat.le_of_ble_eq_true rfl, Nat.le_of_ble_eq_true rfl⟩ [0, 1, 2, 3] (by decide) rfl [some 0, some 1, some 2, some 3] (by decide) rfl rfl 0 rfl rfl rfl rfl (Nat.le_of_ble_eq_true rfl) dX8_tellsMonth_24 rfl rfl ?_
      refine j_i2l K dX8_tellsMonth_27 rfl ?_
      refine j_ladd K dX8_tellsMonth_28 rfl ?_
      refine j_nmL h (fun l5_2 h => ?_)
      refine j_lstore (lv' := [(5, .long l5_2), (0, .ref (a0 0)), (3, .int i3), (4, .int i4), (7, .int i7)]) K (by decide) rfl dX8_tellsMonth_29 rfl ?_
      refine j_iincN (lf := fun z => [(7, .int z), (5, .long l5_2), (0, .ref (a0 0)), (3, .int i3), (4, .int i4)]) K (v := i7 + (1 : Int32)) (k := 4) rfl rfl (by decide) (fun _ => rfl) dX8_tellsMonth_31 rfl h (fun i7_3 h => ?_)
      refine j_goto (pc' := 6) K dX8_tellsMonth_34 (by decide) ?_
      refine j_sub [2, 3, 4, 1, 0] (lv' := [(0, .ref (a0 0)), (3, .int i3), (4, .int i4), (5, .long l5_2), (7, .int i7_3)]) rfl ?_
      exact ih l5_2 i7_3 h
set_option maxRecDepth 100000 in
set_option maxHeartbeats 4000000 in
theorem ctX8_tellsMonth (l : Launch) (D : va_G) (cyI cyJ cyS : ClassId) (a0 : Nat → Nat) (l1 : Int64) (i3 : Int32) (i4 : Int32) (c_latest : Int32) (c_typed : Int32) (c_tenants : Int32) (c_room : Int32) (c_events : Int32) (c_gone : Int32) (c_audit : Int32) (c_sights : Int32) (c_drawn : Int32) (c_floorBy : Nat → Int32) (c_leftBy : Nat → Int32) (c_fellBy : Nat → Int32) (o_r : Int64) (h : fX8_tellsMonth l1 i3 i4 c_floorBy c_leftBy c_fellBy = some (o_r)) : jC l yX8_tellsMonth wdX8_tellsMonth rmX8_tellsMonth D vwCl (tyz cyI cyJ cyS) [.ref (a0 0), .long l1, .int i3, .int i4] (uX8_tellsMonth cyI cyJ cyS a0 c_latest c_typed c_tenants c_room c_events c_gone c_audit c_sights c_drawn c_floorBy c_leftBy c_fellBy) (some (.long o_r)) (uX8_tellsMonth cyI cyJ cyS a0 c_latest c_typed c_tenants c_room c_events c_gone c_audit c_sights c_drawn c_floorBy c_leftBy c_fellBy) := by
  refine jC_of (cc := cX8_tellsMonth) (nL := 8) (ret := (some .long)) (own := RX8) (lv := [(0, .ref (a0 0)), (1, .long l1), (3, .int i3), (4, .int i4)]) (by decide) rfl rfl (Nat.le_of_ble_eq_true rfl) rfl ?_
  intro p e s m args below meth c A K
  unfold fX8_tellsMonth at h
  refine j_lload_n K 1 rfl dX8_tellsMonth_0 rfl ?_
  refine j_lstore (lv' := [(5, .long l1), (0, .ref (a0 0)), (1, .long l1), (3, .int i3), (4, .int i4)]) K (by decide) rfl dX8_tellsMonth_1 rfl ?_
  refine j_iconst (v := (0 : Int32)) K (by decide) dX8_tellsMonth_3 rfl ?_
  refine j_istore (lv' := [(7, .int (0 : Int32)), (5, .long l1), (0, .ref (a0 0)), (1, .long l1), (3, .int i3), (4, .int i4)]) K (by decide) rfl dX8_tellsMonth_4 rfl ?_
  refine j_sub [2, 4, 5, 1, 0] (lv' := [(0, .ref (a0 0)), (3, .int i3), (4, .int i4), (5, .long l1), (7, .int (0 : Int32))]) rfl ?_
  exact wX8_tellsMonth_6 K a0 c_latest c_typed c_tenants c_room c_events c_gone c_audit c_sights c_drawn l1 i3 i4 c_floorBy c_leftBy c_fellBy o_r jF l1 (0 : Int32) h
end GEN
