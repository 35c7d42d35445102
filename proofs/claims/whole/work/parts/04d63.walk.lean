section GEN
variable {p : Program} {l : Launch} {e : Env} {s : State} {m : MethodId} {args : Array Value} {below : List Frame} {meth : Method} {c : Code} {A : Nat → Prop} {D : va_G} {cyI cyJ cyS : ClassId}
abbrev uX8_heardNow (cyI cyJ cyS : ClassId) (a0 : Nat → Nat) (c_latest : Int32) (c_typed : Int32) (c_tenants : Int32) (c_room : Int32) (c_events : Int32) (c_gone : Int32) (c_audit : Int32) (c_sights : Int32) (c_drawn : Int32) (c_floorBy : Nat → Int32) : va_W := [((a0 0), .inr (8, [.ref (a0 1), .ref (a0 2), .ref (a0 3), .ref (a0 4), .int c_latest, .ref (a0 5), .int c_typed, .int c_tenants, .ref (a0 6), .int c_room, .int c_events, .ref (a0 7), .int c_gone, .ref (a0 8), .ref (a0 9), .ref (a0 10), .ref (a0 11), .ref (a0 12), .ref (a0 13), .ref (a0 14), .ref (a0 15), .ref (a0 16), .ref (a0 17), .ref (a0 18), .int c_audit, .int c_sights, .ref (a0 19), .ref (a0 20), .int c_drawn])), ((a0 16), .inl (cyI, 192, .inl c_floorBy))]
abbrev rmX8_heardNow : Room := { frames := 1, cells := 0, slots := 0, locals := 21 }
abbrev wdX8_heardNow : List Cond := .code yX8_heardNow cX8_heardNow 5 (some .int) :: wsL_law
theorem hyX8_heardNow : yX8_heardNow.cls = RX8 ∧ yX8_heardNow.cls ≠ "java/lang/invoke/MethodHandle" ∧ yX8_heardNow.cls ≠ "java/lang/invoke/VarHandle" ∧ (parseMethodDescriptor yX8_heardNow.desc).map (fun d => d.parameters.length) = some 0 := by decide +kernel
set_option maxRecDepth 100000 in
set_option maxHeartbeats 4000000 in
theorem wX8_heardNow_93 (K : jK p s m args meth c A D vwCl (tyz cyI cyJ cyS) cX8_heardNow 5 RX8 wdX8_heardNow (some .int)) (a0 : Nat → Nat) (c_latest : Int32) (c_typed : Int32) (c_room : Int32) (c_events : Int32) (c_gone : Int32) (c_audit : Int32) (c_sights : Int32) (c_drawn : Int32) (c_tenants : Int32) (c_floorBy : Nat → Int32) (o_r : Int32)  (q_65 : Int32 → Int32 → Int32 → Option (Int32)) (hq_65 : ∀ (i1 : Int32) (i2 : Int32) (i3 : Int32), q_65 i1 i2 i3 = some (o_r) → jw p l e rmX8_heardNow s m args below meth c (jQ below args s A D vwCl (tyz cyI cyJ cyS) 0 0 (some (.int o_r)) (uX8_heardNow cyI cyJ cyS a0 c_latest c_typed c_tenants c_room c_events c_gone c_audit c_sights c_drawn c_floorBy)) A D vwCl 5 0 0 65 [(1, .int i1), (2, .int i2), (3, .int i3)] [] (uX8_heardNow cyI cyJ cyS a0 c_latest c_typed c_tenants c_room c_events c_gone c_audit c_sights c_drawn c_floorBy)) : ∀ (i1 : Int32) (i3 : Int32) (t0 : Int32) (t1 : Int32), fX8_heardNow_93 c_tenants c_floorBy q_65 i1 i3 t0 t1 = some (o_r) → jw p l e rmX8_heardNow s m args below meth c (jQ below args s A D vwCl (tyz cyI cyJ cyS) 0 0 (some (.int o_r)) (uX8_heardNow cyI cyJ cyS a0 c_latest c_typed c_tenants c_room c_events c_gone c_audit c_sights c_drawn c_floorBy)) A D vwCl 5 0 0 93 [(1, .int i1), (3, .int i3)] [.int t0, .int t1] (uX8_heardNow cyI cyJ cyS a0 c_latest c_typed c_tenants c_room c_events c_gone c_audit c_sights c_drawn c_floorBy) := by
  intro i1 i3 t0 t1 h
  unfold fX8_heardNow_93 at h
  refine j_ior K dX8_heardNow_93 rfl ?_
  refine j_nmI h (fun i2_2 h => ?_)
  refine j_istore_n (lv' := [(2, .int i2_2), (1, .int i1), (3, .int i3)]) K (by decide) rfl dX8_heardNow_94 rfl ?_
  refine j_iincN (lf := fun z => [(3, .int z), (2, .int i2_2), (1, .int i1)]) K (v := i3 + (1 : Int32)) (k := 2) rfl rfl (by decide) (fun _ => rfl) dX8_heardNow_95 rfl h (fun i3_3 h => ?_)
  refine j_goto (pc' := 65) K dX8_heardNow_98 (by decide) ?_
  refine j_sub [2, 1, 0] (lv' := [(1, .int i1), (2, .int i2_2), (3, .int i3_3)]) rfl ?_
  exact hq_65 i1 i2_2 i3_3 h
set_option maxRecDepth 100000 in
set_option maxHeartbeats 4000000 in
theorem wX8_heardNow_92 (K : jK p s m args meth c A D vwCl (tyz cyI cyJ cyS) cX8_heardNow 5 RX8 wdX8_heardNow (some .int)) (a0 : Nat → Nat) (c_latest : Int32) (c_typed : Int32) (c_room : Int32) (c_events : Int32) (c_gone : Int32) (c_audit : Int32) (c_sights : Int32) (c_drawn : Int32) (c_tenants : Int32) (c_floorBy : Nat → Int32) (o_r : Int32)  (q_65 : Int32 → Int32 → Int32 → Option (Int32)) (hq_65 : ∀ (i1 : Int32) (i2 : Int32) (i3 : Int32), q_65 i1 i2 i3 = some (o_r) → jw p l e rmX8_heardNow s m args below meth c (jQ below args s A D vwCl (tyz cyI cyJ cyS) 0 0 (some (.int o_r)) (uX8_heardNow cyI cyJ cyS a0 c_latest c_typed c_tenants c_room c_events c_gone c_audit c_sights c_drawn c_floorBy)) A D vwCl 5 0 0 65 [(1, .int i1), (2, .int i2), (3, .int i3)] [] (uX8_heardNow cyI cyJ cyS a0 c_latest c_typed c_tenants c_room c_events c_gone c_audit c_sights c_drawn c_floorBy)) : ∀ (i1 : Int32) (i3 : Int32) (t0 : Int32), fX8_heardNow_92 c_tenants c_floorBy q_65 i1 i3 t0 = some (o_r) → jw p l e rmX8_heardNow s m args below meth c (jQ below args s A D vwCl (tyz cyI cyJ cyS) 0 0 (some (.int o_r)) (uX8_heardNow cyI cyJ cyS a0 c_latest c_typed c_tenants c_room c_events c_gone c_audit c_sights c_drawn c_floorBy)) A D vwCl 5 0 0 92 [(1, .int i1), (3, .int i3)] [.int t0] (uX8_heardNow cyI cyJ cyS a0 c_latest c_typed c_tenants c_room c_events c_gone c_audit c_sights c_drawn c_floorBy) := by
  intro i1 i3 t0 h
  unfold fX8_heardNow_92 at h
  refine j_iconst (v := (0 : Int32)) K (by decide) dX8_heardNow_92 rfl ?_
  refine j_sub [0, 1] (lv' := [(1, .int i1), (3, .int i3)]) rfl ?_
  exact wX8_heardNow_93 K a0 c_latest c_typed c_room c_events c_gone c_audit c_sights c_drawn c_tenants c_floorBy o_r q_65 hq_65 i1 i3 (0 : Int32) t0 h
set_option maxRecDepth 100000 in
set_option maxHeartbeats 4000000 in
theorem wX8_heardNow_65 (K : jK p s m args meth c A D vwCl (tyz cyI cyJ cyS) cX8_heardNow 5 RX8 wdX8_heardNow (some .int)) (a0 : Nat → Nat) (c_latest : Int32) (c_typed : Int32) (c_room : Int32) (c_events : Int32) (c_gone : Int32) (c_audit : Int32) (c_sights : Int32) (c_drawn : Int32) (c_tenants : Int32) (c_floorBy : Nat → Int32) (o_r : Int32)   : ∀ (n : Nat) (i1 : Int32) (i2 : Int32) (i3 : Int32), fX8_heardNow_65 c_tenants c_floorBy  n i1 i2 i3 = some (o_r) → jw p l e rmX8_heardNow s m args below meth c (jQ below args s A D vwCl (tyz cyI cyJ cyS) 0 0 (some (.int o_r)) (uX8_heardNow cyI cyJ cyS a0 c_latest c_typed c_tenants c_room c_events c_gone c_audit c_sights c_drawn c_floorBy)) A D vwCl 5 0 0 65 [(1, .int i1), (2, .int i2), (3, .int i3)] [] (uX8_heardNow cyI cyJ cyS a0 c_latest c_typed c_tenants c_room c_events c_gone c_audit c_sights c_drawn c_floorBy) := by
  intro n
  induction n with
  | zero => intro i1 i2 i3 h; cases h
  | succ n ih =>
    intro i1 i2 i3 h
    have h : bX8_heardNow_65 c_tenants c_floorBy  (fX8_heardNow_65 c_tenants c_floorBy  n) i1 i2 i3 = some (o_r) := h
    unfold bX8_heardNow_65 at h
    refine j_iload_n K 2 rfl dX8_heardNow_65 rfl ?_
    refine j_bipush (v := (13 : Int32)) K (by decide) dX8_heardNow_66 rfl ?_
    refine j_icmp_ge (tgt := 101) K dX8_heardNow_68 (by decide) rfl h (fun h => ?_) (fun h => ?_)
    · refine j_iload_n K 1 rfl dX8_heardNow_101 rfl ?_
      have h := Option.some.inj h
      subst h
      exact j_iret K dX8_heardNow_102
    · refine j_iload_n K 1 rfl dX8_heardNow_71 rfl ?_
      refine j_iload_n K 0 rfl dX8_heardNow_72 rfl ?_
      refine j_iload_n K 2 rfl dX8_heardNow_73 rfl ?_
      obtain ⟨r_1, hc, h⟩ := bd1_some h
      refine j_callS (rest := [.int i2]) (st1 := [.int r_1, .int i2]) (ws' := (uX8_heardNow cyI cyJ cyS a0 c_latest c_typed c_tenants c_room c_events c_gone c_audit c_sights c_drawn c_floorBy)) K (ctX8_isIn l D cyI cyJ cyS i1 i3 r_1 hc) (gdS mcL mw_18_6 mw_18_7 mw_1_5 mw_18_8) rfl ⟨rfl, rfl⟩ hzX8_isIn ⟨Nat.le_of_ble_eq_true rfl, Nat.le_of_ble_eq_true rfl, Nat.le_of_ble_eq_true rfl, Nat.le_of_ble_eq_true rfl⟩ [] (by decide) rfl [none, none] (by decide) rfl rfl rfl rfl (Nat.le_of_ble_eq_true rfl) dX8_heardNow_74 rfl rfl ?_
      refine j_if_ne (tgt := 92) K dX8_heardNow_77 (by decide) rfl h (fun h => ?_) (fun h => ?_)
      · refine j_sub [0, 2] (lv' := [(1, .int i1), (3, .int i3)]) rfl ?_
        exact wX8_heardNow_92 K a0 c_latest c_typed c_room c_events c_gone c_audit c_sights c_drawn c_tenants c_floorBy o_r (fX8_heardNow_65 c_tenants c_floorBy n) (fun z0 z1 z2 hq => ih z0 z1 z2 hq) i1 i3 i2 h
      · refine j_iload_n K 0 rfl dX8_heardNow_80 rfl ?_
        refine j_iload_n K 2 rfl dX8_heardNow_81 rfl ?_
        refine j_ishr K dX8_heardNow_82 rfl ?_
        refine j_if_eq (tgt := 92) K dX8_heardNow_83 (by decide) rfl h (fun h => ?_) (fun h => ?_)
        · refine j_sub [0, 2] (lv' := [(1, .int i1), (3, .int i3)]) rfl ?_
          exact wX8_heardNow_92 K a0 c_latest c_typed c_room c_events c_gone c_audit c_sights c_drawn c_tenants c_floorBy o_r (fX8_heardNow_65 c_tenants c_floorBy n) (fun z0 z1 z2 hq => ih z0 z1 z2 hq) i1 i3 i2 h
        · refine j_iconst (v := (1 : Int32)) K (by decide) dX8_heardNow_86 rfl ?_
          refine j_iload_n K 2 rfl dX8_heardNow_87 rfl ?_
          refine j_ishl K dX8_heardNow_88 rfl ?_
          refine j_goto (pc' := 93) K dX8_heardNow_89 (by decide) ?_
          refine j_sub [0, 2] (lv' := [(1, .int i1), (3, .int i3)]) rfl ?_
          exact wX8_heardNow_93 K a0 c_latest c_typed c_room c_events c_gone c_audit c_sights c_drawn c_tenants c_floorBy o_r (fX8_heardNow_65 c_tenants c_floorBy n) (fun z0 z1 z2 hq => ih z0 z1 z2 hq) i1 i3 ((1 : Int32) <<< (i3 &&& (31 : Int32))) i2 h
set_option maxRecDepth 100000 in
set_option maxHeartbeats 4000000 in
theorem wX8_heardNow_47 (K : jK p s m args meth c A D vwCl (tyz cyI cyJ cyS) cX8_heardNow 5 RX8 wdX8_heardNow (some .int)) (a0 : Nat → Nat) (c_latest : Int32) (c_typed : Int32) (c_room : Int32) (c_events : Int32) (c_gone : Int32) (c_audit : Int32) (c_sights : Int32) (c_drawn : Int32) (c_tenants : Int32) (c_floorBy : Nat → Int32) (o_r : Int32)  (q_4 : Int32 → Int32 → Option (Int32)) (q_12 : Int32 → Int32 → Int32 → Option (Int32)) (hq_4 : ∀ (i1 : Int32) (i2 : Int32), q_4 i1 i2 = some (o_r) → jw p l e rmX8_heardNow s m args below meth c (jQ below args s A D vwCl (tyz cyI cyJ cyS) 0 0 (some (.int o_r)) (uX8_heardNow cyI cyJ cyS a0 c_latest c_typed c_tenants c_room c_events c_gone c_audit c_sights c_drawn c_floorBy)) A D vwCl 5 0 0 4 [(0, .ref (a0 0)), (1, .int i1), (2, .int i2)] [] (uX8_heardNow cyI cyJ cyS a0 c_latest c_typed c_tenants c_room c_events c_gone c_audit c_sights c_drawn c_floorBy)) (hq_12 : ∀ (i1 : Int32) (i2 : Int32) (i3 : Int32), q_12 i1 i2 i3 = some (o_r) → jw p l e rmX8_heardNow s m args below meth c (jQ below args s A D vwCl (tyz cyI cyJ cyS) 0 0 (some (.int o_r)) (uX8_heardNow cyI cyJ cyS a0 c_latest c_typed c_tenants c_room c_events c_gone c_audit c_sights c_drawn c_floorBy)) A D vwCl 5 0 0 12 [(0, .ref (a0 0)), (1, .int i1), (2, .int i2), (3, .int i3)] [] (uX8_heardNow cyI cyJ cyS a0 c_latest c_typed c_tenants c_room c_events c_gone c_audit c_sights c_drawn c_floorBy)) : ∀ (i2 : Int32) (i3 : Int32) (t0 : Int32) (t1 : Int32), fX8_heardNow_47 c_tenants c_floorBy q_4 q_12 i2 i3 t0 t1 = some (o_r) → jw p l e rmX8_heardNow s m args below meth c (jQ below args s A D vwCl (tyz cyI cyJ cyS) 0 0 (some (.int o_r)) (uX8_heardNow cyI cyJ cyS a0 c_latest c_typed c_tenants c_room c_events c_gone c_audit c_sights c_drawn c_floorBy)) A D vwCl 5 0 0 47 [(0, .ref (a0 0)), (2, .int i2), (3, .int i3)] [.int t0, .int t1] (uX8_heardNow cyI cyJ cyS a0 c_latest c_typed c_tenants c_room c_events c_gone c_audit c_sights c_drawn c_floorBy) := by
  intro i2 i3 t0 t1 h
  unfold fX8_heardNow_47 at h
  refine j_ior K dX8_heardNow_47 rfl ?_
  refine j_nmI h (fun i1_6 h => ?_)
  refine j_istore_n (lv' := [(1, .int i1_6), (0, .ref (a0 0)), (2, .int i2), (3, .int i3)]) K (by decide) rfl dX8_heardNow_48 rfl ?_
  refine j_iincN (lf := fun z => [(3, .int z), (1, .int i1_6), (0, .ref (a0 0)), (2, .int i2)]) K (v := i3 + (1 : Int32)) (k := 3) rfl rfl (by decide) (fun _ => rfl) dX8_heardNow_49 rfl h (fun i3_7 h => ?_)
  refine j_goto (pc' := 12) K dX8_heardNow_52 (by decide) ?_
  refine j_sub [2, 1, 3, 0] (lv' := [(0, .ref (a0 0)), (1, .int i1_6), (2, .int i2), (3, .int i3_7)]) rfl ?_
  exact hq_12 i1_6 i2 i3_7 h
set_option maxRecDepth 100000 in
set_option maxHeartbeats 4000000 in
theorem wX8_heardNow_12 (K : jK p s m args meth c A D vwCl (tyz cyI cyJ cyS) cX8_heardNow 5 RX8 wdX8_heardNow (some .int)) (a0 : Nat → Nat) (c_latest : Int32) (c_typed : Int32) (c_room : Int32) (c_events : Int32) (c_gone : Int32) (c_audit : Int32) (c_sights : Int32) (c_drawn : Int32) (c_tenants : Int32) (c_floorBy : Nat → Int32) (o_r : Int32)  (q_4 : Int32 → Int32 → Option (Int32)) (hq_4 : ∀ (i1 : Int32) (i2 : Int32), q_4 i1 i2 = some (o_r) → jw p l e rmX8_heardNow s m args below meth c (jQ below args s A D vwCl (tyz cyI cyJ cyS) 0 0 (some (.int o_r)) (uX8_heardNow cyI cyJ cyS a0 c_latest c_typed c_tenants c_room c_events c_gone c_audit c_sights c_drawn c_floorBy)) A D vwCl 5 0 0 4 [(0, .ref (a0 0)), (1, .int i1), (2, .int i2)] [] (uX8_heardNow cyI cyJ cyS a0 c_latest c_typed c_tenants c_room c_events c_gone c_audit c_sights c_drawn c_floorBy)) : ∀ (n : Nat) (i1 : Int32) (i2 : Int32) (i3 : Int32), fX8_heardNow_12 c_tenants c_floorBy q_4 n i1 i2 i3 = some (o_r) → jw p l e rmX8_heardNow s m args below meth c (jQ below args s A D vwCl (tyz cyI cyJ cyS) 0 0 (some (.int o_r)) (uX8_heardNow cyI cyJ cyS a0 c_latest c_typed c_tenants c_room c_events c_gone c_audit c_sights c_drawn c_floorBy)) A D vwCl 5 0 0 12 [(0, .ref (a0 0)), (1, .int i1), (2, .int i2), (3, .int i3)] [] (uX8_heardNow cyI cyJ cyS a0 c_latest c_typed c_tenants c_room c_events c_gone c_audit c_sights c_drawn c_floorBy) := by
  intro n
  induction n with
  | zero => intro i1 i2 i3 h; cases h
  | succ n ih =>
    intro i1 i2 i3 h
    have h : bX8_heardNow_12 c_tenants c_floorBy q_4 (fX8_heardNow_12 c_tenants c_floorBy q_4 n) i1 i2 i3 = some (o_r) := h
    unfold bX8_heardNow_12 at h
    refine j_iload_n K 3 rfl dX8_heardNow_12 rfl ?_
    refine j_aload_n K 0 rfl dX8_heardNow_13 rfl ?_
    refine j_getf (C := RX8) (T := TX8) (N := 29) (ci := 8) K icX8 0 7 (List.mem_cons_of_mem _ mw_9_6) rfl rfl rfl (by decide) rfl dX8_heardNow_14 rfl ?_
    refine j_icmp_ge (tgt := 55) K dX8_heardNow_17 (by decide) rfl h (fun h => ?_) (fun h => ?_)
    · refine j_iincN (lf := fun z => [(2, .int z), (0, .ref (a0 0)), (1, .int i1), (3, .int i3)]) K (v := i2 + (1 : Int32)) (k := 2) rfl rfl (by decide) (fun _ => rfl) dX8_heardNow_55 rfl h (fun i2_4 h => ?_)
      refine j_goto (pc' := 4) K dX8_heardNow_58 (by decide) ?_
      refine j_sub [1, 2, 0] (lv' := [(0, .ref (a0 0)), (1, .int i1), (2, .int i2_4)]) rfl ?_
      exact hq_4 i1 i2_4 h
    · refine j_aload_n K 0 rfl dX8_heardNow_20 rfl ?_
      refine j_getf (C := RX8) (T := TX8) (N := 29) (ci := 8) K icX8 0 21 (List.mem_cons_of_mem _ mw_5_23) rfl rfl rfl (by decide) rfl dX8_heardNow_21 rfl ?_
      refine j_bipush (v := (8 : Int32)) K (by decide) dX8_heardNow_24 rfl ?_
      refine j_iload_n K 2 rfl dX8_heardNow_26 rfl ?_
      refine j_imul K dX8_heardNow_27 rfl ?_
      refine j_iload_n K 3 rfl dX8_heardNow_28 rfl ?_
      refine j_iadd K dX8_heardNow_29 rfl ?_
      refine j_iald K 1 0 rfl rfl dX8_heardNow_30 rfl h (fun v_5 h => ?_)
      refine j_istore (lv' := [(4, .int v_5), (0, .ref (a0 0)), (1, .int i1), (2, .int i2), (3, .int i3)]) K (by decide) rfl dX8_heardNow_31 rfl ?_
      refine j_iload_n K 2 rfl dX8_heardNow_33 rfl ?_
      refine j_iload K 0 rfl dX8_heardNow_34 rfl ?_
      refine j_if_le (tgt := 46) K dX8_heardNow_36 (by decide) rfl h (fun h => ?_) (fun h => ?_)
      · refine j_iconst (v := (0 : Int32)) K (by decide) dX8_heardNow_46 rfl ?_
        refine j_sub [1, 3, 4] (lv' := [(0, .ref (a0 0)), (2, .int i2), (3, .int i3)]) rfl ?_
        exact wX8_heardNow_47 K a0 c_latest c_typed c_room c_events c_gone c_audit c_sights c_drawn c_tenants c_floorBy o_r q_4 (fX8_heardNow_12 c_tenants c_floorBy q_4 n) hq_4 (fun z0 z1 z2 hq => ih z0 z1 z2 hq) i2 i3 (0 : Int32) i1 h
      · refine j_iconst (v := (1 : Int32)) K (by decide) dX8_heardNow_39 rfl ?_
        refine j_iload K 0 rfl dX8_heardNow_40 rfl ?_
        refine j_ishl K dX8_heardNow_42 rfl ?_
        refine j_goto (pc' := 47) K dX8_heardNow_43 (by decide) ?_
        refine j_sub [1, 3, 4] (lv' := [(0, .ref (a0 0)), (2, .int i2), (3, .int i3)]) rfl ?_
        exact wX8_heardNow_47 K a0 c_latest c_typed c_room c_events c_gone c_audit c_sights c_drawn c_tenants c_floorBy o_r q_4 (fX8_heardNow_12 c_tenants c_floorBy q_4 n) hq_4 (fun z0 z1 z2 hq => ih z0 z1 z2 hq) i2 i3 ((1 : Int32) <<< (v_5 &&& (31 : Int32))) i1 h
set_option maxRecDepth 100000 in
set_option maxHeartbeats 4000000 in
theorem wX8_heardNow_4 (K : jK p s m args meth c A D vwCl (tyz cyI cyJ cyS) cX8_heardNow 5 RX8 wdX8_heardNow (some .int)) (a0 : Nat → Nat) (c_latest : Int32) (c_typed : Int32) (c_room : Int32) (c_events : Int32) (c_gone : Int32) (c_audit : Int32) (c_sights : Int32) (c_drawn : Int32) (c_tenants : Int32) (c_floorBy : Nat → Int32) (o_r : Int32)   : ∀ (n : Nat) (i1 : Int32) (i2 : Int32), fX8_heardNow_4 c_tenants c_floorBy  n i1 i2 = some (o_r) → jw p l e rmX8_heardNow s m args below meth c (jQ below args s A D vwCl (tyz cyI cyJ cyS) 0 0 (some (.int o_r)) (uX8_heardNow cyI cyJ cyS a0 c_latest c_typed c_tenants c_room c_events c_gone c_audit c_sights c_drawn c_floorBy)) A D vwCl 5 0 0 4 [(0, .ref (a0 0)), (1, .int i1), (2, .int i2)] [] (uX8_heardNow cyI cyJ cyS a0 c_latest c_typed c_tenants c_room c_events c_gone c_audit c_sights c_drawn c_floorBy) := by
  intro n
  induction n with
  | zero => intro i1 i2 h; cases h
  | succ n ih =>
    intro i1 i2 h
    have h : bX8_heardNow_4 c_tenants c_floorBy  (fX8_heardNow_4 c_tenants c_floorBy  n) i1 i2 = some (o_r) := h
    unfold bX8_heardNow_4 at h
    refine j_iload_n K 2 rfl dX8_heardNow_4 rfl ?_
    refine j_bipush (v := (24 : Int32)) K (by decide) dX8_heardNow_5 rfl ?_
    refine j_icmp_ge (tgt := 61) K dX8_heardNow_7 (by decide) rfl h (fun h => ?_) (fun h => ?_)
    · refine j_iconst (v := (0 : Int32)) K (by decide) dX8_heardNow_61 rfl ?_
      refine j_istore_n (lv' := [(2, .int (0 : Int32)), (0, .ref (a0 0)), (1, .int i1)]) K (by decide) rfl dX8_heardNow_62 rfl ?_
      refine j_iconst (v := (1 : Int32)) K (by decide) dX8_heardNow_63 rfl ?_
      refine j_istore_n (lv' := [(3, .int (1 : Int32)), (2, .int (0 : Int32)), (0, .ref (a0 0)), (1, .int i1)]) K (by decide) rfl dX8_heardNow_64 rfl ?_
      refine j_sub [3, 1, 0] (lv' := [(1, .int i1), (2, .int (0 : Int32)), (3, .int (1 : Int32))]) rfl ?_
      exact wX8_heardNow_65 K a0 c_latest c_typed c_room c_events c_gone c_audit c_sights c_drawn c_tenants c_floorBy o_r jF i1 (0 : Int32) (1 : Int32) h
    · refine j_iconst (v := (0 : Int32)) K (by decide) dX8_heardNow_10 rfl ?_
      refine j_istore_n (lv' := [(3, .int (0 : Int32)), (0, .ref (a0 0)), (1, .int i1), (2, .int i2)]) K (by decide) rfl dX8_heardNow_11 rfl ?_
      refine j_sub [1, 2, 3, 0] (lv' := [(0, .ref (a0 0)), (1, .int i1), (2, .int i2), (3, .int (0 : Int32))]) rfl ?_
      exact wX8_heardNow_12 K a0 c_latest c_typed c_room c_events c_gone c_audit c_sights c_drawn c_tenants c_floorBy o_r (fX8_heardNow_4 c_tenants c_floorBy n) (fun z0 z1 hq => ih z0 z1 hq) jF i1 i2 (0 : Int32) h
set_option maxRecDepth 100000 in
set_option maxHeartbeats 4000000 in
theorem ctX8_heardNow (l : Launch) (D : va_G) (cyI cyJ cyS : ClassId) (a0 : Nat → Nat) (c_latest : Int32) (c_typed : Int32) (c_room : Int32) (c_events : Int32) (c_gone : Int32) (c_audit : Int32) (c_sights : Int32) (c_drawn : Int32) (c_tenants : Int32) (c_floorBy : Nat → Int32) (o_r : Int32) (h : fX8_heardNow c_tenants c_floorBy = some (o_r)) : jC l yX8_heardNow wdX8_heardNow rmX8_heardNow D vwCl (tyz cyI cyJ cyS) [.ref (a0 0)] (uX8_heardNow cyI cyJ cyS a0 c_latest c_typed c_tenants c_room c_events c_gone c_audit c_sights c_drawn c_floorBy) (some (.int o_r)) (uX8_heardNow cyI cyJ cyS a0 c_latest c_typed c_tenants c_room c_events c_gone c_audit c_sights c_drawn c_floorBy) := by
  refine jC_of (cc := cX8_heardNow) (nL := 5) (ret := (some .int)) (own := RX8) (lv := [(0, .ref (a0 0))]) (by decide) rfl rfl (Nat.le_of_ble_eq_true rfl) rfl ?_
  intro p e s m args below meth c A K
  unfold fX8_heardNow at h
  refine j_iconst (v := (0 : Int32)) K (by decide) dX8_heardNow_0 rfl ?_
  refine j_istore_n (lv' := [(1, .int (0 : Int32)), (0, .ref (a0 0))]) K (by decide) rfl dX8_heardNow_1 rfl ?_
  refine j_iconst (v := (0 : Int32)) K (by decide) dX8_heardNow_2 rfl ?_
  refine j_istore_n (lv' := [(2, .int (0 : Int32)), (1, .int (0 : Int32)), (0, .ref (a0 0))]) K (by decide) rfl dX8_heardNow_3 rfl ?_
  refine j_sub [2, 1, 0] (lv' := [(0, .ref (a0 0)), (1, .int (0 : Int32)), (2, .int (0 : Int32))]) rfl ?_
  exact wX8_heardNow_4 K a0 c_latest c_typed c_room c_events c_gone c_audit c_sights c_drawn c_tenants c_floorBy o_r jF (0 : Int32) (0 : Int32) h
end GEN
