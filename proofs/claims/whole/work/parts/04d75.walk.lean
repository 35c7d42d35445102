section GEN
variable {p : Program} {l : Launch} {e : Env} {s : State} {m : MethodId} {args : Array Value} {below : List Frame} {meth : Method} {c : Code} {A : Nat → Prop} {D : va_G} {cyI cyJ cyS : ClassId}
abbrev uX8_alike (cyI cyJ cyS : ClassId) (a0 : Nat → Nat) (c_latest : Int32) (c_typed : Int32) (c_tenants : Int32) (c_room : Int32) (c_events : Int32) (c_gone : Int32) (c_audit : Int32) (c_sights : Int32) (c_drawn : Int32) (c_rows : Nat → Int64) : va_W := [((a0 0), .inr (8, [.ref (a0 1), .ref (a0 2), .ref (a0 3), .ref (a0 4), .int c_latest, .ref (a0 5), .int c_typed, .int c_tenants, .ref (a0 6), .int c_room, .int c_events, .ref (a0 7), .int c_gone, .ref (a0 8), .ref (a0 9), .ref (a0 10), .ref (a0 11), .ref (a0 12), .ref (a0 13), .ref (a0 14), .ref (a0 15), .ref (a0 16), .ref (a0 17), .ref (a0 18), .int c_audit, .int c_sights, .ref (a0 19), .ref (a0 20), .int c_drawn])), ((a0 20), .inl (cyJ, 240, .inr (.inl c_rows)))]
abbrev rmX8_alike : Room := { frames := 1, cells := 0, slots := 0, locals := 21 }
abbrev wdX8_alike : List Cond := .code yX8_alike cX8_alike 7 (some .int) :: wsL_law
theorem hyX8_alike : yX8_alike.cls = RX8 ∧ yX8_alike.cls ≠ "java/lang/invoke/MethodHandle" ∧ yX8_alike.cls ≠ "java/lang/invoke/VarHandle" ∧ (parseMethodDescriptor yX8_alike.desc).map (fun d => d.parameters.length) = some 2 := by decide +kernel
set_option maxRecDepth 100000 in
set_option maxHeartbeats 4000000 in
theorem wX8_alike_78 (K : jK p s m args meth c A D vwCl (tyz cyI cyJ cyS) cX8_alike 7 RX8 wdX8_alike (some .int)) (a0 : Nat → Nat) (c_latest : Int32) (c_typed : Int32) (c_tenants : Int32) (c_room : Int32) (c_events : Int32) (c_gone : Int32) (c_audit : Int32) (c_sights : Int32) (c_drawn : Int32) (i1 : Int32) (i2 : Int32) (c_rows : Nat → Int64) (o_r : Int32)  (q_5 : Int32 → Int32 → Option (Int32)) (q_18 : Int32 → Int32 → Int32 → Int32 → Option (Int32)) (hq_5 : ∀ (i3 : Int32) (i4 : Int32), q_5 i3 i4 = some (o_r) → jw p l e rmX8_alike s m args below meth c (jQ below args s A D vwCl (tyz cyI cyJ cyS) 0 0 (some (.int o_r)) (uX8_alike cyI cyJ cyS a0 c_latest c_typed c_tenants c_room c_events c_gone c_audit c_sights c_drawn c_rows)) A D vwCl 7 0 0 5 [(0, .ref (a0 0)), (1, .int i1), (2, .int i2), (3, .int i3), (4, .int i4)] [] (uX8_alike cyI cyJ cyS a0 c_latest c_typed c_tenants c_room c_events c_gone c_audit c_sights c_drawn c_rows)) (hq_18 : ∀ (i3 : Int32) (i4 : Int32) (i5 : Int32) (i6 : Int32), q_18 i3 i4 i5 i6 = some (o_r) → jw p l e rmX8_alike s m args below meth c (jQ below args s A D vwCl (tyz cyI cyJ cyS) 0 0 (some (.int o_r)) (uX8_alike cyI cyJ cyS a0 c_latest c_typed c_tenants c_room c_events c_gone c_audit c_sights c_drawn c_rows)) A D vwCl 7 0 0 18 [(0, .ref (a0 0)), (1, .int i1), (2, .int i2), (3, .int i3), (4, .int i4), (5, .int i5), (6, .int i6)] [] (uX8_alike cyI cyJ cyS a0 c_latest c_typed c_tenants c_room c_events c_gone c_audit c_sights c_drawn c_rows)) : ∀ (i3 : Int32) (i4 : Int32) (i6 : Int32) (t0 : Int32) (t1 : Int32), fX8_alike_78 i1 i2 c_rows q_5 q_18 i3 i4 i6 t0 t1 = some (o_r) → jw p l e rmX8_alike s m args below meth c (jQ below args s A D vwCl (tyz cyI cyJ cyS) 0 0 (some (.int o_r)) (uX8_alike cyI cyJ cyS a0 c_latest c_typed c_tenants c_room c_events c_gone c_audit c_sights c_drawn c_rows)) A D vwCl 7 0 0 78 [(0, .ref (a0 0)), (1, .int i1), (2, .int i2), (3, .int i3), (4, .int i4), (6, .int i6)] [.int t0, .int t1] (uX8_alike cyI cyJ cyS a0 c_latest c_typed c_tenants c_room c_events c_gone c_audit c_sights c_drawn c_rows) := by
  intro i3 i4 i6 t0 t1 h
  unfold fX8_alike_78 at h
  refine j_iadd K dX8_alike_78 rfl ?_
  refine j_nmI h (fun i5_4 h => ?_)
  refine j_istore (lv' := [(5, .int i5_4), (0, .ref (a0 0)), (1, .int i1), (2, .int i2), (3, .int i3), (4, .int i4), (6, .int i6)]) K (by decide) rfl dX8_alike_79 rfl ?_
  refine j_iincN (lf := fun z => [(6, .int z), (5, .int i5_4), (0, .ref (a0 0)), (1, .int i1), (2, .int i2), (3, .int i3), (4, .int i4)]) K (v := i6 + (1 : Int32)) (k := 6) rfl rfl (by decide) (fun _ => rfl) dX8_alike_81 rfl h (fun i6_5 h => ?_)
  refine j_goto (pc' := 18) K dX8_alike_84 (by decide) ?_
  refine j_sub [2, 3, 4, 5, 6, 1, 0] (lv' := [(0, .ref (a0 0)), (1, .int i1), (2, .int i2), (3, .int i3), (4, .int i4), (5, .int i5_4), (6, .int i6_5)]) rfl ?_
  exact hq_18 i3 i4 i5_4 i6_5 h
set_option maxRecDepth 100000 in
set_option maxHeartbeats 4000000 in
theorem wX8_alike_77 (K : jK p s m args meth c A D vwCl (tyz cyI cyJ cyS) cX8_alike 7 RX8 wdX8_alike (some .int)) (a0 : Nat → Nat) (c_latest : Int32) (c_typed : Int32) (c_tenants : Int32) (c_room : Int32) (c_events : Int32) (c_gone : Int32) (c_audit : Int32) (c_sights : Int32) (c_drawn : Int32) (i1 : Int32) (i2 : Int32) (c_rows : Nat → Int64) (o_r : Int32)  (q_5 : Int32 → Int32 → Option (Int32)) (q_18 : Int32 → Int32 → Int32 → Int32 → Option (Int32)) (hq_5 : ∀ (i3 : Int32) (i4 : Int32), q_5 i3 i4 = some (o_r) → jw p l e rmX8_alike s m args below meth c (jQ below args s A D vwCl (tyz cyI cyJ cyS) 0 0 (some (.int o_r)) (uX8_alike cyI cyJ cyS a0 c_latest c_typed c_tenants c_room c_events c_gone c_audit c_sights c_drawn c_rows)) A D vwCl 7 0 0 5 [(0, .ref (a0 0)), (1, .int i1), (2, .int i2), (3, .int i3), (4, .int i4)] [] (uX8_alike cyI cyJ cyS a0 c_latest c_typed c_tenants c_room c_events c_gone c_audit c_sights c_drawn c_rows)) (hq_18 : ∀ (i3 : Int32) (i4 : Int32) (i5 : Int32) (i6 : Int32), q_18 i3 i4 i5 i6 = some (o_r) → jw p l e rmX8_alike s m args below meth c (jQ below args s A D vwCl (tyz cyI cyJ cyS) 0 0 (some (.int o_r)) (uX8_alike cyI cyJ cyS a0 c_latest c_typed c_tenants c_room c_events c_gone c_audit c_sights c_drawn c_rows)) A D vwCl 7 0 0 18 [(0, .ref (a0 0)), (1, .int i1), (2, .int i2), (3, .int i3), (4, .int i4), (5, .int i5), (6, .int i6)] [] (uX8_alike cyI cyJ cyS a0 c_latest c_typed c_tenants c_room c_events c_gone c_audit c_sights c_drawn c_rows)) : ∀ (i3 : Int32) (i4 : Int32) (i6 : Int32) (t0 : Int32), fX8_alike_77 i1 i2 c_rows q_5 q_18 i3 i4 i6 t0 = some (o_r) → jw p l e rmX8_alike s m args below meth c (jQ below args s A D vwCl (tyz cyI cyJ cyS) 0 0 (some (.int o_r)) (uX8_alike cyI cyJ cyS a0 c_latest c_typed c_tenants c_room c_events c_gone c_audit c_sights c_drawn c_rows)) A D vwCl 7 0 0 77 [(0, .ref (a0 0)), (1, .int i1), (2, .int i2), (3, .int i3), (4, .int i4), (6, .int i6)] [.int t0] (uX8_alike cyI cyJ cyS a0 c_latest c_typed c_tenants c_room c_events c_gone c_audit c_sights c_drawn c_rows) := by
  intro i3 i4 i6 t0 h
  unfold fX8_alike_77 at h
  refine j_iconst (v := (0 : Int32)) K (by decide) dX8_alike_77 rfl ?_
  refine j_sub [0, 1, 2, 3, 4, 5] (lv' := [(0, .ref (a0 0)), (1, .int i1), (2, .int i2), (3, .int i3), (4, .int i4), (6, .int i6)]) rfl ?_
  exact wX8_alike_78 K a0 c_latest c_typed c_tenants c_room c_events c_gone c_audit c_sights c_drawn i1 i2 c_rows o_r q_5 q_18 hq_5 hq_18 i3 i4 i6 (0 : Int32) t0 h
set_option maxRecDepth 100000 in
set_option maxHeartbeats 4000000 in
theorem wX8_alike_18 (K : jK p s m args meth c A D vwCl (tyz cyI cyJ cyS) cX8_alike 7 RX8 wdX8_alike (some .int)) (a0 : Nat → Nat) (c_latest : Int32) (c_typed : Int32) (c_tenants : Int32) (c_room : Int32) (c_events : Int32) (c_gone : Int32) (c_audit : Int32) (c_sights : Int32) (c_drawn : Int32) (i1 : Int32) (i2 : Int32) (c_rows : Nat → Int64) (o_r : Int32)  (q_5 : Int32 → Int32 → Option (Int32)) (hq_5 : ∀ (i3 : Int32) (i4 : Int32), q_5 i3 i4 = some (o_r) → jw p l e rmX8_alike s m args below meth c (jQ below args s A D vwCl (tyz cyI cyJ cyS) 0 0 (some (.int o_r)) (uX8_alike cyI cyJ cyS a0 c_latest c_typed c_tenants c_room c_events c_gone c_audit c_sights c_drawn c_rows)) A D vwCl 7 0 0 5 [(0, .ref (a0 0)), (1, .int i1), (2, .int i2), (3, .int i3), (4, .int i4)] [] (uX8_alike cyI cyJ cyS a0 c_latest c_typed c_tenants c_room c_events c_gone c_audit c_sights c_drawn c_rows)) : ∀ (n : Nat) (i3 : Int32) (i4 : Int32) (i5 : Int32) (i6 : Int32), fX8_alike_18 i1 i2 c_rows q_5 n i3 i4 i5 i6 = some (o_r) → jw p l e rmX8_alike s m args below meth c (jQ below args s A D vwCl (tyz cyI cyJ cyS) 0 0 (some (.int o_r)) (uX8_alike cyI cyJ cyS a0 c_latest c_typed c_tenants c_room c_events c_gone c_audit c_sights c_drawn c_rows)) A D vwCl 7 0 0 18 [(0, .ref (a0 0)), (1, .int i1), (2, .int i2), (3, .int i3), (4, .int i4), (5, .int i5), (6, .int i6)] [] (uX8_alike cyI cyJ cyS a0 c_latest c_typed c_tenants c_room c_events c_gone c_audit c_sights c_drawn c_rows) := by
  intro n
  induction n with
  | zero => intro i3 i4 i5 i6 h; cases h
  | succ n ih =>
    intro i3 i4 i5 i6 h
    have h : bX8_alike_18 i1 i2 c_rows q_5 (fX8_alike_18 i1 i2 c_rows q_5 n) i3 i4 i5 i6 = some (o_r) := h
    unfold bX8_alike_18 at h
    refine j_iload K 6 rfl dX8_alike_18 rfl ?_
    refine j_bipush (v := (10 : Int32)) K (by decide) dX8_alike_20 rfl ?_
    refine j_icmp_ge (tgt := 87) K dX8_alike_22 (by decide) rfl h (fun h => ?_) (fun h => ?_)
    · refine j_iload K 5 rfl dX8_alike_87 rfl ?_
      refine j_iload_n K 3 rfl dX8_alike_89 rfl ?_
      obtain ⟨r_1, hc, h⟩ := bd1_some h
      refine j_callS (rest := []) (st1 := [.int r_1]) (ws' := (uX8_alike cyI cyJ cyS a0 c_latest c_typed c_tenants c_room c_events c_gone c_audit c_sights c_drawn c_rows)) K (ctX8_greater l D cyI cyJ cyS i5 i3 r_1 hc) (gdS mcL mw_19_4 mw_19_5 mw_1_5 mw_19_6) rfl ⟨rfl, rfl⟩ hzX8_greater ⟨Nat.le_of_ble_eq_true rfl, Nat.le_of_ble_eq_true rfl, Nat.le_of_ble_eq_true rfl, Nat.le_of_ble_eq_true rfl⟩ [] (by decide) rfl [none, none] (by decide) rfl rfl rfl rfl (Nat.le_of_ble_eq_true rfl) dX8_alike_90 rfl rfl ?_
      refine j_istore_n (lv' := [(3, .int r_1), (0, .ref (a0 0)), (1, .int i1), (2, .int i2), (4, .int i4), (5, .int i5), (6, .int i6)]) K (by decide) rfl dX8_alike_93 rfl ?_
      refine j_iincN (lf := fun z => [(4, .int z), (3, .int r_1), (0, .ref (a0 0)), (1, .int i1), (2, .int i2), (5, .int i5), (6, .int i6)]) K (v := i4 + (1 : Int32)) (k := 4) rfl rfl (by decide) (fun _ => rfl) dX8_alike_94 rfl h (fun i4_2 h => ?_)
      refine j_goto (pc' := 5) K dX8_alike_97 (by decide) ?_
      refine j_sub [2, 3, 4, 1, 0] (lv' := [(0, .ref (a0 0)), (1, .int i1), (2, .int i2), (3, .int r_1), (4, .int i4_2)]) rfl ?_
      exact hq_5 r_1 i4_2 h
    · refine j_iload K 5 rfl dX8_alike_25 rfl ?_
      refine j_iload_n K 1 rfl dX8_alike_27 rfl ?_
      refine j_iload K 4 rfl dX8_alike_28 rfl ?_
      obtain ⟨r_3, hc, h⟩ := bd1_some h
      refine j_callS (rest := [.int i5]) (st1 := [.int r_3, .int i5]) (ws' := (uX8_alike cyI cyJ cyS a0 c_latest c_typed c_tenants c_room c_events c_gone c_audit c_sights c_drawn c_rows)) K (ctX8_isIn l D cyI cyJ cyS i1 i4 r_3 hc) (gdS mcL mw_18_6 mw_18_7 mw_1_5 mw_18_8) rfl ⟨rfl, rfl⟩ hzX8_isIn ⟨Nat.le_of_ble_eq_true rfl, Nat.le_of_ble_eq_true rfl, Nat.le_of_ble_eq_true rfl, Nat.le_of_ble_eq_true rfl⟩ [] (by decide) rfl [none, none] (by decide) rfl rfl rfl rfl (Nat.le_of_ble_eq_true rfl) dX8_alike_30 rfl rfl ?_
      refine j_if_eq (tgt := 77) K dX8_alike_33 (by decide) rfl h (fun h => ?_) (fun h => ?_)
      · refine j_sub [0, 1, 2, 3, 4, 6] (lv' := [(0, .ref (a0 0)), (1, .int i1), (2, .int i2), (3, .int i3), (4, .int i4), (6, .int i6)]) rfl ?_
        exact wX8_alike_77 K a0 c_latest c_typed c_tenants c_room c_events c_gone c_audit c_sights c_drawn i1 i2 c_rows o_r q_5 (fX8_alike_18 i1 i2 c_rows q_5 n) hq_5 (fun z0 z1 z2 z3 hq => ih z0 z1 z2 z3 hq) i3 i4 i6 i5 h
      · refine j_iload_n K 1 rfl dX8_alike_36 rfl ?_
        refine j_iload K 6 rfl dX8_alike_37 rfl ?_
        obtain ⟨r_6, hc, h⟩ := bd1_some h
        refine j_callS (rest := [.int i5]) (st1 := [.int r_6, .int i5]) (ws' := (uX8_alike cyI cyJ cyS a0 c_latest c_typed c_tenants c_room c_events c_gone c_audit c_sights c_drawn c_rows)) K (ctX8_isIn l D cyI cyJ cyS i1 i6 r_6 hc) (gdS mcL mw_18_6 mw_18_7 mw_1_5 mw_18_8) rfl ⟨rfl, rfl⟩ hzX8_isIn ⟨Nat.le_of_ble_eq_true rfl, Nat.le_of_ble_eq_true rfl, Nat.le_of_ble_eq_true rfl, Nat.le_of_ble_eq_true rfl⟩ [] (by decide) rfl [none, none] (by decide) rfl rfl rfl rfl (Nat.le_of_ble_eq_true rfl) dX8_alike_39 rfl rfl ?_
        refine j_if_eq (tgt := 77) K dX8_alike_42 (by decide) rfl h (fun h => ?_) (fun h => ?_)
        · refine j_sub [0, 1, 2, 3, 4, 6] (lv' := [(0, .ref (a0 0)), (1, .int i1), (2, .int i2), (3, .int i3), (4, .int i4), (6, .int i6)]) rfl ?_
          exact wX8_alike_77 K a0 c_latest c_typed c_tenants c_room c_events c_gone c_audit c_sights c_drawn i1 i2 c_rows o_r q_5 (fX8_alike_18 i1 i2 c_rows q_5 n) hq_5 (fun z0 z1 z2 z3 hq => ih z0 z1 z2 z3 hq) i3 i4 i6 i5 h
        · refine j_aload_n K 0 rfl dX8_alike_45 rfl ?_
          refine j_getf (C := RX8) (T := TX8) (N := 29) (ci := 8) K icX8 0 27 (List.mem_cons_of_mem _ mw_6_4) rfl rfl rfl (by decide) rfl dX8_alike_46 rfl ?_
          refine j_bipush (v := (24 : Int32)) K (by decide) dX8_alike_49 rfl ?_
          refine j_iload K 4 rfl dX8_alike_51 rfl ?_
          refine j_imul K dX8_alike_53 rfl ?_
          refine j_iload_n K 2 rfl dX8_alike_54 rfl ?_
          refine j_iadd K dX8_alike_55 rfl ?_
          refine j_lald K 1 1 rfl rfl dX8_alike_56 rfl h (fun v_7 h => ?_)
          refine j_aload_n K 0 rfl dX8_alike_57 rfl ?_
          refine j_getf (C := RX8) (T := TX8) (N := 29) (ci := 8) K icX8 0 27 (List.mem_cons_of_mem _ mw_6_4) rfl rfl rfl (by decide) rfl dX8_alike_58 rfl ?_
          refine j_bipush (v := (24 : Int32)) K (by decide) dX8_alike_61 rfl ?_
          refine j_iload K 6 rfl dX8_alike_63 rfl ?_
          refine j_imul K dX8_alike_65 rfl ?_
          refine j_iload_n K 2 rfl dX8_alike_66 rfl ?_
          refine j_iadd K dX8_alike_67 rfl ?_
          refine j_lald K 1 1 rfl rfl dX8_alike_68 rfl h (fun v_8 h => ?_)
          refine j_lcmp K dX8_alike_69 rfl ?_
          refine j_if_ne (tgt := 77) K dX8_alike_70 (by decide) rfl h (fun h => ?_) (fun h => ?_)
          · refine j_sub [0, 1, 2, 3, 4, 6] (lv' := [(0, .ref (a0 0)), (1, .int i1), (2, .int i2), (3, .int i3), (4, .int i4), (6, .int i6)]) rfl ?_
            exact wX8_alike_77 K a0 c_latest c_typed c_tenants c_room c_events c_gone c_audit c_sights c_drawn i1 i2 c_rows o_r q_5 (fX8_alike_18 i1 i2 c_rows q_5 n) hq_5 (fun z0 z1 z2 z3 hq => ih z0 z1 z2 z3 hq) i3 i4 i6 i5 h
          · refine j_iconst (v := (1 : Int32)) K (by decide) dX8_alike_73 rfl ?_
            refine j_goto (pc' := 78) K dX8_alike_74 (by decide) ?_
            refine j_sub [0, 1, 2, 3, 4, 6] (lv' := [(0, .ref (a0 0)), (1, .int i1), (2, .int i2), (3, .int i3), (4, .int i4), (6, .int i6)]) rfl ?_
            exact wX8_alike_78 K a0 c_latest c_typed c_tenants c_room c_events c_gone c_audit c_sights c_drawn i1 i2 c_rows o_r q_5 (fX8_alike_18 i1 i2 c_rows q_5 n) hq_5 (fun z0 z1 z2 z3 hq => ih z0 z1 z2 z3 hq) i3 i4 i6 (1 : Int32) i5 h
set_option maxRecDepth 100000 in
set_option maxHeartbeats 4000000 in
theorem wX8_alike_5 (K : jK p s m args meth c A D vwCl (tyz cyI cyJ cyS) cX8_alike 7 RX8 wdX8_alike (some .int)) (a0 : Nat → Nat) (c_latest : Int32) (c_typed : Int32) (c_tenants : Int32) (c_room : Int32) (c_events : Int32) (c_gone : Int32) (c_audit : Int32) (c_sights : Int32) (c_drawn : Int32) (i1 : Int32) (i2 : Int32) (c_rows : Nat → Int64) (o_r : Int32)   : ∀ (n : Nat) (i3 : Int32) (i4 : Int32), fX8_alike_5 i1 i2 c_rows  n i3 i4 = some (o_r) → jw p l e rmX8_alike s m args below meth c (jQ below args s A D vwCl (tyz cyI cyJ cyS) 0 0 (some (.int o_r)) (uX8_alike cyI cyJ cyS a0 c_latest c_typed c_tenants c_room c_events c_gone c_audit c_sights c_drawn c_rows)) A D vwCl 7 0 0 5 [(0, .ref (a0 0)), (1, .int i1), (2, .int i2), (3, .int i3), (4, .int i4)] [] (uX8_alike cyI cyJ cyS a0 c_latest c_typed c_tenants c_room c_events c_gone c_audit c_sights c_drawn c_rows) := by
  intro n
  induction n with
  | zero => intro i3 i4 h; cases h
  | succ n ih =>
    intro i3 i4 h
    have h : bX8_alike_5 i1 i2 c_rows  (fX8_alike_5 i1 i2 c_rows  n) i3 i4 = some (o_r) := h
    unfold bX8_alike_5 at h
    refine j_iload K 4 rfl dX8_alike_5 rfl ?_
    refine j_bipush (v := (10 : Int32)) K (by decide) dX8_alike_7 rfl ?_
    refine j_icmp_ge (tgt := 100) K dX8_alike_9 (by decide) rfl h (fun h => ?_) (fun h => ?_)
    · refine j_iload_n K 3 rfl dX8_alike_100 rfl ?_
      have h := Option.some.inj h
      subst h
      exact j_iret K dX8_alike_101
    · refine j_iconst (v := (0 : Int32)) K (by decide) dX8_alike_12 rfl ?_
      refine j_istore (lv' := [(5, .int (0 : Int32)), (0, .ref (a0 0)), (1, .int i1), (2, .int i2), (3, .int i3), (4, .int i4)]) K (by decide) rfl dX8_alike_13 rfl ?_
      refine j_iconst (v := (0 : Int32)) K (by decide) dX8_alike_15 rfl ?_
      refine j_istore (lv' := [(6, .int (0 : Int32)), (5, .int (0 : Int32)), (0, .ref (a0 0)), (1, .int i1), (2, .int i2), (3, .int i3), (4, .int i4)]) K (by decide) rfl dX8_alike_16 rfl ?_
      refine j_sub [2, 3, 4, 5, 6, 1, 0] (lv' := [(0, .ref (a0 0)), (1, .int i1), (2, .int i2), (3, .int i3), (4, .int i4), (5, .int (0 : Int32)), (6, .int (0 : Int32))]) rfl ?_
      exact wX8_alike_18 K a0 c_latest c_typed c_tenants c_room c_events c_gone c_audit c_sights c_drawn i1 i2 c_rows o_r (fX8_alike_5 i1 i2 c_rows n) (fun z0 z1 hq => ih z0 z1 hq) jF i3 i4 (0 : Int32) (0 : Int32) h
set_option maxRecDepth 100000 in
set_option maxHeartbeats 4000000 in
theorem ctX8_alike (l : Launch) (D : va_G) (cyI cyJ cyS : ClassId) (a0 : Nat → Nat) (i1 : Int32) (i2 : Int32) (c_latest : Int32) (c_typed : Int32) (c_tenants : Int32) (c_room : Int32) (c_events : Int32) (c_gone : Int32) (c_audit : Int32) (c_sights : Int32) (c_drawn : Int32) (c_rows : Nat → Int64) (o_r : Int32) (h : fX8_alike i1 i2 c_rows = some (o_r)) : jC l yX8_alike wdX8_alike rmX8_alike D vwCl (tyz cyI cyJ cyS) [.ref (a0 0), .int i1, .int i2] (uX8_alike cyI cyJ cyS a0 c_latest c_typed c_tenants c_room c_events c_gone c_audit c_sights c_drawn c_rows) (some (.int o_r)) (uX8_alike cyI cyJ cyS a0 c_latest c_typed c_tenants c_room c_events c_gone c_audit c_sights c_drawn c_rows) := by
  refine jC_of (cc := cX8_alike) (nL := 7) (ret := (some .int)) (own := RX8) (lv := [(0, .ref (a0 0)), (1, .int i1), (2, .int i2)]) (by decide) rfl rfl (Nat.le_of_ble_eq_true rfl) rfl ?_
  intro p e s m args below meth c A K
  unfold fX8_alike at h
  refine j_iconst (v := (0 : Int32)) K (by decide) dX8_alike_0 rfl ?_
  refine j_istore_n (lv' := [(3, .int (0 : Int32)), (0, .ref (a0 0)), (1, .int i1), (2, .int i2)]) K (by decide) rfl dX8_alike_1 rfl ?_
  refine j_iconst (v := (0 : Int32)) K (by decide) dX8_alike_2 rfl ?_
  refine j_istore (lv' := [(4, .int (0 : Int32)), (3, .int (0 : Int32)), (0, .ref (a0 0)), (1, .int i1), (2, .int i2)]) K (by decide) rfl dX8_alike_3 rfl ?_
  refine j_sub [2, 3, 4, 1, 0] (lv' := [(0, .ref (a0 0)), (1, .int i1), (2, .int i2), (3, .int (0 : Int32)), (4, .int (0 : Int32))]) rfl ?_
  exact wX8_alike_5 K a0 c_latest c_typed c_tenants c_room c_events c_gone c_audit c_sights c_drawn i1 i2 c_rows o_r jF (0 : Int32) (0 : Int32) h
end GEN
