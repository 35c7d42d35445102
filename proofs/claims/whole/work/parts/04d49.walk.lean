section GEN
variable {p : Program} {l : Launch} {e : Env} {s : State} {m : MethodId} {args : Array Value} {below : List Frame} {meth : Method} {c : Code} {A : Nat → Prop} {D : va_G} {cyI cyJ cyS : ClassId}
abbrev uX8_happens (cyI cyJ cyS : ClassId) (a0 : Nat → Nat) (c_latest : Int32) (c_typed : Int32) (c_tenants : Int32) (c_room : Int32) (c_events : Int32) (c_gone : Int32) (c_audit : Int32) (c_sights : Int32) (c_drawn : Int32) (c_event : Nat → Int32) (c_left : Nat → Int32) (c_settled : Nat → Int32) : va_W := [((a0 0), .inr (8, [.ref (a0 1), .ref (a0 2), .ref (a0 3), .ref (a0 4), .int c_latest, .ref (a0 5), .int c_typed, .int c_tenants, .ref (a0 6), .int c_room, .int c_events, .ref (a0 7), .int c_gone, .ref (a0 8), .ref (a0 9), .ref (a0 10), .ref (a0 11), .ref (a0 12), .ref (a0 13), .ref (a0 14), .ref (a0 15), .ref (a0 16), .ref (a0 17), .ref (a0 18), .int c_audit, .int c_sights, .ref (a0 19), .ref (a0 20), .int c_drawn])), ((a0 7), .inl (cyI, 24, .inl c_event)), ((a0 10), .inl (cyI, 8, .inl c_left)), ((a0 11), .inl (cyI, 8, .inl c_settled))]
abbrev rmX8_happens : Room := { frames := 2, cells := 0, slots := 0, locals := 46 }
abbrev wdX8_happens : List Cond := .code yX8_happens cX8_happens 5 none :: wsL_law
theorem hyX8_happens : yX8_happens.cls = RX8 ∧ yX8_happens.cls ≠ "java/lang/invoke/MethodHandle" ∧ yX8_happens.cls ≠ "java/lang/invoke/VarHandle" ∧ (parseMethodDescriptor yX8_happens.desc).map (fun d => d.parameters.length) = some 1 := by decide +kernel
set_option maxRecDepth 100000 in
set_option maxHeartbeats 4000000 in
theorem wX8_happens_127 (K : jK p s m args meth c A D vwCl (tyz cyI cyJ cyS) cX8_happens 5 RX8 wdX8_happens none) (a0 : Nat → Nat) (c_latest : Int32) (c_typed : Int32) (c_room : Int32) (c_sights : Int32) (c_drawn : Int32) (i1 : Int32) (c_tenants : Int32) (c_events : Int32) (c_gone : Int32) (c_event : Nat → Int32) (c_settled : Nat → Int32) (o_audit : Int32) (o_left : Nat → Int32)  (q_7 : Int32 → (Nat → Int32) → Int32 → (Option (Int32 × (Nat → Int32)))) (hq_7 : ∀ (c_audit : Int32) (c_left : Nat → Int32) (i2 : Int32), q_7 c_audit c_left i2 = some (o_audit, o_left) → jw p l e rmX8_happens s m args below meth c (jQ below args s A D vwCl (tyz cyI cyJ cyS) 0 0 none (uX8_happens cyI cyJ cyS a0 c_latest c_typed c_tenants c_room c_events c_gone o_audit c_sights c_drawn c_event o_left c_settled)) A D vwCl 5 0 0 7 [(0, .ref (a0 0)), (1, .int i1), (2, .int i2)] [] (uX8_happens cyI cyJ cyS a0 c_latest c_typed c_tenants c_room c_events c_gone c_audit c_sights c_drawn c_event c_left c_settled)) : ∀ (c_audit : Int32) (c_left : Nat → Int32) (i2 : Int32), fX8_happens_127 i1 c_tenants c_events c_gone c_event c_settled q_7 c_audit c_left i2 = some (o_audit, o_left) → jw p l e rmX8_happens s m args below meth c (jQ below args s A D vwCl (tyz cyI cyJ cyS) 0 0 none (uX8_happens cyI cyJ cyS a0 c_latest c_typed c_tenants c_room c_events c_gone o_audit c_sights c_drawn c_event o_left c_settled)) A D vwCl 5 0 0 127 [(0, .ref (a0 0)), (1, .int i1), (2, .int i2)] [] (uX8_happens cyI cyJ cyS a0 c_latest c_typed c_tenants c_room c_events c_gone c_audit c_sights c_drawn c_event c_left c_settled) := by
  intro c_audit c_left i2 h
  unfold fX8_happens_127 at h
  refine j_iincN (lf := fun z => [(2, .int z), (0, .ref (a0 0)), (1, .int i1)]) K (v := i2 + (1 : Int32)) (k := 2) rfl rfl (by decide) (fun _ => rfl) dX8_happens_127 rfl h (fun i2_2 h => ?_)
  refine j_goto (pc' := 7) K dX8_happens_130 (by decide) ?_
  refine j_sub [1, 2, 0] (lv' := [(0, .ref (a0 0)), (1, .int i1), (2, .int i2_2)]) rfl ?_
  exact hq_7 c_audit c_left i2_2 h
set_option maxRecDepth 100000 in
set_option maxHeartbeats 4000000 in
theorem wX8_happens_125 (K : jK p s m args meth c A D vwCl (tyz cyI cyJ cyS) cX8_happens 5 RX8 wdX8_happens none) (a0 : Nat → Nat) (c_latest : Int32) (c_typed : Int32) (c_room : Int32) (c_sights : Int32) (c_drawn : Int32) (i1 : Int32) (c_tenants : Int32) (c_events : Int32) (c_gone : Int32) (c_event : Nat → Int32) (c_settled : Nat → Int32) (o_audit : Int32) (o_left : Nat → Int32)  (q_7 : Int32 → (Nat → Int32) → Int32 → (Option (Int32 × (Nat → Int32)))) (hq_7 : ∀ (c_audit : Int32) (c_left : Nat → Int32) (i2 : Int32), q_7 c_audit c_left i2 = some (o_audit, o_left) → jw p l e rmX8_happens s m args below meth c (jQ below args s A D vwCl (tyz cyI cyJ cyS) 0 0 none (uX8_happens cyI cyJ cyS a0 c_latest c_typed c_tenants c_room c_events c_gone o_audit c_sights c_drawn c_event o_left c_settled)) A D vwCl 5 0 0 7 [(0, .ref (a0 0)), (1, .int i1), (2, .int i2)] [] (uX8_happens cyI cyJ cyS a0 c_latest c_typed c_tenants c_room c_events c_gone c_audit c_sights c_drawn c_event c_left c_settled)) : ∀ (c_audit : Int32) (c_left : Nat → Int32) (i2 : Int32) (t0 : Int32) (t1 : Int32) (t2 : Int32), fX8_happens_125 i1 c_tenants c_events c_gone c_event c_settled q_7 c_audit c_left i2 t0 t1 t2 = some (o_audit, o_left) → jw p l e rmX8_happens s m args below meth c (jQ below args s A D vwCl (tyz cyI cyJ cyS) 0 0 none (uX8_happens cyI cyJ cyS a0 c_latest c_typed c_tenants c_room c_events c_gone o_audit c_sights c_drawn c_event o_left c_settled)) A D vwCl 5 0 0 125 [(0, .ref (a0 0)), (1, .int i1), (2, .int i2)] [.int t0, .int t1, .int t2, .ref (a0 10)] (uX8_happens cyI cyJ cyS a0 c_latest c_typed c_tenants c_room c_events c_gone c_audit c_sights c_drawn c_event c_left c_settled) := by
  intro c_audit c_left i2 t0 t1 t2 h
  unfold fX8_happens_125 at h
  refine j_iadd K dX8_happens_125 rfl ?_
  refine j_iast K 2 0 (fun z => (uX8_happens cyI cyJ cyS a0 c_latest c_typed c_tenants c_room c_events c_gone c_audit c_sights c_drawn c_event z c_settled)) rfl rfl (fun _ => rfl) dX8_happens_126 rfl h (fun c_left_9 h => ?_)
  refine j_sub [0, 1, 2] (lv' := [(0, .ref (a0 0)), (1, .int i1), (2, .int i2)]) rfl ?_
  exact wX8_happens_127 K a0 c_latest c_typed c_room c_sights c_drawn i1 c_tenants c_events c_gone c_event c_settled o_audit o_left q_7 hq_7 c_audit c_left_9 i2 h
set_option maxRecDepth 100000 in
set_option maxHeartbeats 4000000 in
theorem wX8_happens_79 (K : jK p s m args meth c A D vwCl (tyz cyI cyJ cyS) cX8_happens 5 RX8 wdX8_happens none) (a0 : Nat → Nat) (c_latest : Int32) (c_typed : Int32) (c_room : Int32) (c_sights : Int32) (c_drawn : Int32) (i1 : Int32) (c_tenants : Int32) (c_events : Int32) (c_gone : Int32) (c_event : Nat → Int32) (c_settled : Nat → Int32) (o_audit : Int32) (o_left : Nat → Int32)  (q_7 : Int32 → (Nat → Int32) → Int32 → (Option (Int32 × (Nat → Int32)))) (hq_7 : ∀ (c_audit : Int32) (c_left : Nat → Int32) (i2 : Int32), q_7 c_audit c_left i2 = some (o_audit, o_left) → jw p l e rmX8_happens s m args below meth c (jQ below args s A D vwCl (tyz cyI cyJ cyS) 0 0 none (uX8_happens cyI cyJ cyS a0 c_latest c_typed c_tenants c_room c_events c_gone o_audit c_sights c_drawn c_event o_left c_settled)) A D vwCl 5 0 0 7 [(0, .ref (a0 0)), (1, .int i1), (2, .int i2)] [] (uX8_happens cyI cyJ cyS a0 c_latest c_typed c_tenants c_room c_events c_gone c_audit c_sights c_drawn c_event c_left c_settled)) : ∀ (c_audit : Int32) (c_left : Nat → Int32) (i2 : Int32) (i3 : Int32) (i4 : Int32) (t0 : Int32), fX8_happens_79 i1 c_tenants c_events c_gone c_event c_settled q_7 c_audit c_left i2 i3 i4 t0 = some (o_audit, o_left) → jw p l e rmX8_happens s m args below meth c (jQ below args s A D vwCl (tyz cyI cyJ cyS) 0 0 none (uX8_happens cyI cyJ cyS a0 c_latest c_typed c_tenants c_room c_events c_gone o_audit c_sights c_drawn c_event o_left c_settled)) A D vwCl 5 0 0 79 [(0, .ref (a0 0)), (1, .int i1), (2, .int i2), (3, .int i3), (4, .int i4)] [.int t0, .ref (a0 0)] (uX8_happens cyI cyJ cyS a0 c_latest c_typed c_tenants c_room c_events c_gone c_audit c_sights c_drawn c_event c_left c_settled) := by
  intro c_audit c_left i2 i3 i4 t0 h
  unfold fX8_happens_79 at h
  obtain ⟨hz, h⟩ := ckB_some h
  refine j_putf (C := RX8) (T := TX8) (N := 29) (ci := 8) (ty := .boolean) (ws' := (uX8_happens cyI cyJ cyS a0 c_latest c_typed c_tenants c_room c_events c_gone t0 c_sights c_drawn c_event c_left c_settled)) K icX8 tyX8 tyX8_ok nmX8 0 24 (List.mem_cons_of_mem _ mw_18_4) rfl rfl rfl (by decide) rfl (by decide +kernel) (nar_b hz) (by rcases hz with hz | hz <;> rw [hz] <;> rfl) (Nat.le_of_ble_eq_true rfl) rfl dX8_happens_79 rfl ?_
  refine j_iload_n K 3 rfl dX8_happens_82 rfl ?_
  refine j_iconst (v := (2 : Int32)) K (by decide) dX8_happens_83 rfl ?_
  refine j_icmp_ge (tgt := 127) K dX8_happens_84 (by decide) rfl h (fun h => ?_) (fun h => ?_)
  · refine j_sub [0, 1, 2] (lv' := [(0, .ref (a0 0)), (1, .int i1), (2, .int i2)]) rfl ?_
    exact wX8_happens_127 K a0 c_latest c_typed c_room c_sights c_drawn i1 c_tenants c_events c_gone c_event c_settled o_audit o_left q_7 hq_7 t0 c_left i2 h
  · refine j_aload_n K 0 rfl dX8_happens_87 rfl ?_
    refine j_iload K 4 rfl dX8_happens_88 rfl ?_
    obtain ⟨r_6, hc, h⟩ := bd1_some h
    refine j_callV (rest := []) (st1 := [.int r_6]) (ws' := (uX8_happens cyI cyJ cyS a0 c_latest c_typed c_tenants c_room c_events c_gone t0 c_sights c_drawn c_event c_left c_settled)) (T := TX8) (N := 29) (ci := 8) K (ctX8_isTenant l D cyI cyJ cyS a0 i4 c_latest c_typed c_room c_events c_gone t0 c_sights c_drawn c_tenants r_6 hc) (gdV mcL mw_10_5 mw_10_6 mw_10_7 mw_1_5 mw_10_8) rfl ⟨rfl, rfl⟩ hyX8_isTenant ⟨Nat.le_of_ble_eq_true rfl, Nat.le_of_ble_eq_true rfl, Nat.le_of_ble_eq_true rfl, Nat.le_of_ble_eq_true rfl⟩ [0] (by decide) rfl [some 0, none, none, none] (by decide) rfl rfl 0 rfl rfl rfl rfl (Nat.le_of_ble_eq_true rfl) dX8_happens_90 rfl rfl ?_
    refine j_if_eq (tgt := 127) K dX8_happens_93 (by decide) rfl h (fun h => ?_) (fun h => ?_)
    · refine j_sub [0, 1, 2] (lv' := [(0, .ref (a0 0)), (1, .int i1), (2, .int i2)]) rfl ?_
      exact wX8_happens_127 K a0 c_latest c_typed c_room c_sights c_drawn i1 c_tenants c_events c_gone c_event c_settled o_audit o_left q_7 hq_7 t0 c_left i2 h
    · refine j_aload_n K 0 rfl dX8_happens_96 rfl ?_
      refine j_getf (C := RX8) (T := TX8) (N := 29) (ci := 8) K icX8 0 16 (List.mem_cons_of_mem _ mw_5_18) rfl rfl rfl (by decide) rfl dX8_happens_97 rfl ?_
      refine j_iload K 4 rfl dX8_happens_100 rfl ?_
      refine j_iald K 3 0 rfl rfl dX8_happens_102 rfl h (fun v_7 h => ?_)
      refine j_iconst (v := (-1 : Int32)) K (by decide) dX8_happens_103 rfl ?_
      refine j_icmp_ne (tgt := 127) K dX8_happens_104 (by decide) rfl h (fun h => ?_) (fun h => ?_)
      · refine j_sub [0, 1, 2] (lv' := [(0, .ref (a0 0)), (1, .int i1), (2, .int i2)]) rfl ?_
        exact wX8_happens_127 K a0 c_latest c_typed c_room c_sights c_drawn i1 c_tenants c_events c_gone c_event c_settled o_audit o_left q_7 hq_7 t0 c_left i2 h
      · refine j_aload_n K 0 rfl dX8_happens_107 rfl ?_
        refine j_getf (C := RX8) (T := TX8) (N := 29) (ci := 8) K icX8 0 15 (List.mem_cons_of_mem _ mw_5_17) rfl rfl rfl (by decide) rfl dX8_happens_108 rfl ?_
        refine j_iload K 4 rfl dX8_happens_111 rfl ?_
        refine j_dup2 K rfl rfl dX8_happens_113 rfl ?_
        refine j_iald K 2 0 rfl rfl dX8_happens_114 rfl h (fun v_8 h => ?_)
        refine j_iload_n K 3 rfl dX8_happens_115 rfl ?_
        refine j_if_ne (tgt := 124) K dX8_happens_116 (by decide) rfl h (fun h => ?_) (fun h => ?_)
        · refine j_iconst (v := (3 : Int32)) K (by decide) dX8_happens_124 rfl ?_
          refine j_sub [0, 1, 2] (lv' := [(0, .ref (a0 0)), (1, .int i1), (2, .int i2)]) rfl ?_
          exact wX8_happens_125 K a0 c_latest c_typed c_room c_sights c_drawn i1 c_tenants c_events c_gone c_event c_settled o_audit o_left q_7 hq_7 t0 c_left i2 (3 : Int32) v_8 i4 h
        · refine j_bipush (v := (-4 : Int32)) K (by decide) dX8_happens_119 rfl ?_
          refine j_goto (pc' := 125) K dX8_happens_121 (by decide) ?_
          refine j_sub [0, 1, 2] (lv' := [(0, .ref (a0 0)), (1, .int i1), (2, .int i2)]) rfl ?_
          exact wX8_happens_125 K a0 c_latest c_typed c_room c_sights c_drawn i1 c_tenants c_events c_gone c_event c_settled o_audit o_left q_7 hq_7 t0 c_left i2 (-4 : Int32) v_8 i4 h
set_option maxRecDepth 100000 in
set_option maxHeartbeats 4000000 in
theorem wX8_happens_74 (K : jK p s m args meth c A D vwCl (tyz cyI cyJ cyS) cX8_happens 5 RX8 wdX8_happens none) (a0 : Nat → Nat) (c_latest : Int32) (c_typed : Int32) (c_room : Int32) (c_sights : Int32) (c_drawn : Int32) (i1 : Int32) (c_tenants : Int32) (c_events : Int32) (c_gone : Int32) (c_event : Nat → Int32) (c_settled : Nat → Int32) (o_audit : Int32) (o_left : Nat → Int32)  (q_7 : Int32 → (Nat → Int32) → Int32 → (Option (Int32 × (Nat → Int32)))) (hq_7 : ∀ (c_audit : Int32) (c_left : Nat → Int32) (i2 : Int32), q_7 c_audit c_left i2 = some (o_audit, o_left) → jw p l e rmX8_happens s m args below meth c (jQ below args s A D vwCl (tyz cyI cyJ cyS) 0 0 none (uX8_happens cyI cyJ cyS a0 c_latest c_typed c_tenants c_room c_events c_gone o_audit c_sights c_drawn c_event o_left c_settled)) A D vwCl 5 0 0 7 [(0, .ref (a0 0)), (1, .int i1), (2, .int i2)] [] (uX8_happens cyI cyJ cyS a0 c_latest c_typed c_tenants c_room c_events c_gone c_audit c_sights c_drawn c_event c_left c_settled)) : ∀ (c_audit : Int32) (c_left : Nat → Int32) (i2 : Int32) (i3 : Int32) (i4 : Int32), fX8_happens_74 i1 c_tenants c_events c_gone c_event c_settled q_7 c_audit c_left i2 i3 i4 = some (o_audit, o_left) → jw p l e rmX8_happens s m args below meth c (jQ below args s A D vwCl (tyz cyI cyJ cyS) 0 0 none (uX8_happens cyI cyJ cyS a0 c_latest c_typed c_tenants c_room c_events c_gone o_audit c_sights c_drawn c_event o_left c_settled)) A D vwCl 5 0 0 74 [(0, .ref (a0 0)), (1, .int i1), (2, .int i2), (3, .int i3), (4, .int i4)] [.ref (a0 0)] (uX8_happens cyI cyJ cyS a0 c_latest c_typed c_tenants c_room c_events c_gone c_audit c_sights c_drawn c_event c_left c_settled) := by
  intro c_audit c_left i2 i3 i4 h
  unfold fX8_happens_74 at h
  refine j_iconst (v := (1 : Int32)) K (by decide) dX8_happens_74 rfl ?_
  refine j_goto (pc' := 79) K dX8_happens_75 (by decide) ?_
  refine j_sub [0, 1, 2, 3, 4] (lv' := [(0, .ref (a0 0)), (1, .int i1), (2, .int i2), (3, .int i3), (4, .int i4)]) rfl ?_
  exact wX8_happens_79 K a0 c_latest c_typed c_room c_sights c_drawn i1 c_tenants c_events c_gone c_event c_settled o_audit o_left q_7 hq_7 c_audit c_left i2 i3 i4 (1 : Int32) h
set_option maxRecDepth 100000 in
set_option maxHeartbeats 4000000 in
theorem wX8_happens_7 (K : jK p s m args meth c A D vwCl (tyz cyI cyJ cyS) cX8_happens 5 RX8 wdX8_happens none) (a0 : Nat → Nat) (c_latest : Int32) (c_typed : Int32) (c_room : Int32) (c_sights : Int32) (c_drawn : Int32) (i1 : Int32) (c_tenants : Int32) (c_events : Int32) (c_gone : Int32) (c_event : Nat → Int32) (c_settled : Nat → Int32) (o_audit : Int32) (o_left : Nat → Int32)   : ∀ (n : Nat) (c_audit : Int32) (c_left : Nat → Int32) (i2 : Int32), fX8_happens_7 i1 c_tenants c_events c_gone c_event c_settled  n c_audit c_left i2 = some (o_audit, o_left) → jw p l e rmX8_happens s m args below meth c (jQ below args s A D vwCl (tyz cyI cyJ cyS) 0 0 none (uX8_happens cyI cyJ cyS a0 c_latest c_typed c_tenants c_room c_events c_gone o_audit c_sights c_drawn c_event o_left c_settled)) A D vwCl 5 0 0 7 [(0, .ref (a0 0)), (1, .int i1), (2, .int i2)] [] (uX8_happens cyI cyJ cyS a0 c_latest c_typed c_tenants c_room c_events c_gone c_audit c_sights c_drawn c_event c_left c_settled) := by
  intro n
  induction n with
  | zero => intro c_audit c_left i2 h; cases h
  | succ n ih =>
    intro c_audit c_left i2 h
    have h : bX8_happens_7 i1 c_tenants c_events c_gone c_event c_settled  (fX8_happens_7 i1 c_tenants c_events c_gone c_event c_settled  n) c_audit c_left i2 = some (o_audit, o_left) := h
    unfold bX8_happens_7 at h
    refine j_iload_n K 2 rfl dX8_happens_7 rfl ?_
    refine j_aload_n K 0 rfl dX8_happens_8 rfl ?_
    refine j_getf (C := RX8) (T := TX8) (N := 29) (ci := 8) K icX8 0 10 (List.mem_cons_of_mem _ mw_11_13) rfl rfl rfl (by decide) rfl dX8_happens_9 rfl ?_
    refine j_icmp_ge (tgt := 133) K dX8_happens_12 (by decide) rfl h (fun h => ?_) (fun h => ?_)
    · obtain ⟨e1, g1⟩ := Prod.mk.inj (Option.some.inj h)
      subst e1
      subst g1
      exact j_vret K dX8_happens_133
    · refine j_aload_n K 0 rfl dX8_happens_15 rfl ?_
      refine j_getf (C := RX8) (T := TX8) (N := 29) (ci := 8) K icX8 0 11 (List.mem_cons_of_mem _ mw_5_14) rfl rfl rfl (by decide) rfl dX8_happens_16 rfl ?_
      refine j_iconst (v := (3 : Int32)) K (by decide) dX8_happens_19 rfl ?_
      refine j_iload_n K 2 rfl dX8_happens_20 rfl ?_
      refine j_imul K dX8_happens_21 rfl ?_
      refine j_iconst (v := (1 : Int32)) K (by decide) dX8_happens_22 rfl ?_
      refine j_iadd K dX8_happens_23 rfl ?_
      refine j_iald K 1 0 rfl rfl dX8_happens_24 rfl h (fun v_1 h => ?_)
      refine j_iload_n K 1 rfl dX8_happens_25 rfl ?_
      refine j_icmp_ne (tgt := 127) K dX8_happens_26 (by decide) rfl h (fun h => ?_) (fun h => ?_)
      · refine j_sub [0, 1, 2] (lv' := [(0, .ref (a0 0)), (1, .int i1), (2, .int i2)]) rfl ?_
        exact wX8_happens_127 K a0 c_latest c_typed c_room c_sights c_drawn i1 c_tenants c_events c_gone c_event c_settled o_audit o_left (fX8_happens_7 i1 c_tenants c_events c_gone c_event c_settled n) (fun z0 z1 z2 hq => ih z0 z1 z2 hq) c_audit c_left i2 h
      · refine j_aload_n K 0 rfl dX8_happens_29 rfl ?_
        refine j_getf (C := RX8) (T := TX8) (N := 29) (ci := 8) K icX8 0 12 (List.mem_cons_of_mem _ mw_18_5) rfl rfl rfl (by decide) rfl dX8_happens_30 rfl ?_
        refine j_iload_n K 2 rfl dX8_happens_33 rfl ?_
        obtain ⟨r_3, hc, h⟩ := bd1_some h
        refine j_callS (rest := []) (st1 := [.int r_3]) (ws' := (uX8_happens cyI cyJ cyS a0 c_latest c_typed c_tenants c_room c_events c_gone c_audit c_sights c_drawn c_event c_left c_settled)) K (ctX8_isIn l D cyI cyJ cyS c_gone i2 r_3 hc) (gdS mcL mw_18_6 mw_18_7 mw_1_5 mw_18_8) rfl ⟨rfl, rfl⟩ hzX8_isIn ⟨Nat.le_of_ble_eq_true rfl, Nat.le_of_ble_eq_true rfl, Nat.le_of_ble_eq_true rfl, Nat.le_of_ble_eq_true rfl⟩ [] (by decide) rfl [none, none, none, none] (by decide) rfl rfl rfl rfl (Nat.le_of_ble_eq_true rfl) dX8_happens_34 rfl rfl ?_
        refine j_if_ne (tgt := 127) K dX8_happens_37 (by decide) rfl h (fun h => ?_) (fun h => ?_)
        · refine j_sub [0, 1, 2] (lv' := [(0, .ref (a0 0)), (1, .int i1), (2, .int i2)]) rfl ?_
          exact wX8_happens_127 K a0 c_latest c_typed c_room c_sights c_drawn i1 c_tenants c_events c_gone c_event c_settled o_audit o_left (fX8_happens_7 i1 c_tenants c_events c_gone c_event c_settled n) (fun z0 z1 z2 hq => ih z0 z1 z2 hq) c_audit c_left i2 h
        · refine j_aload_n K 0 rfl dX8_happens_40 rfl ?_
          refine j_getf (C := RX8) (T := TX8) (N := 29) (ci := 8) K icX8 0 11 (List.mem_cons_of_mem _ mw_5_14) rfl rfl rfl (by decide) rfl dX8_happens_41 rfl ?_
          refine j_iconst (v := (3 : Int32)) K (by decide) dX8_happens_44 rfl ?_
          refine j_iload_n K 2 rfl dX8_happens_45 rfl ?_
          refine j_imul K dX8_happens_46 rfl ?_
          refine j_iald K 1 0 rfl rfl dX8_happens_47 rfl h (fun v_4 h => ?_)
          refine j_istore_n (lv' := [(3, .int v_4), (0, .ref (a0 0)), (1, .int i1), (2, .int i2)]) K (by decide) rfl dX8_happens_48 rfl ?_
          refine j_aload_n K 1 rfl dX8_happens_49 rfl ?_
          refine j_getf (C := RX8) (T := TX8) (N := 29) (ci := 8) K icX8 0 11 (List.mem_cons_of_mem _ mw_5_14) rfl rfl rfl (by decide) rfl dX8_happens_50 rfl ?_
          refine j_iconst (v := (3 : Int32)) K (by decide) dX8_happens_53 rfl ?_
          refine j_iload_n K 3 rfl dX8_happens_54 rfl ?_
          refine j_imul K dX8_happens_55 rfl ?_
          refine j_iconst (v := (2 : Int32)) K (by decide) dX8_happens_56 rfl ?_
          refine j_iadd K dX8_happens_57 rfl ?_
          refine j_iald K 1 0 rfl rfl dX8_happens_58 rfl h (fun v_5 h => ?_)
          refine j_istore (lv' := [(4, .int v_5), (3, .int v_4), (0, .ref (a0 0)), (1, .int i1), (2, .int i2)]) K (by decide) rfl dX8_happens_59 rfl ?_
          refine j_aload_n K 2 rfl dX8_happens_61 rfl ?_
          refine j_aload_n K 2 rfl dX8_happens_62 rfl ?_
          refine j_getf (C := RX8) (T := TX8) (N := 29) (ci := 8) K icX8 0 24 (List.mem_cons_of_mem _ mw_18_4) rfl rfl rfl (by decide) rfl dX8_happens_63 rfl ?_
          refine j_if_ne (tgt := 74) K dX8_happens_66 (by decide) rfl h (fun h => ?_) (fun h => ?_)
          · refine j_sub [2, 3, 4, 1, 0] (lv' := [(0, .ref (a0 0)), (1, .int i1), (2, .int i2), (3, .int v_4), (4, .int v_5)]) rfl ?_
            exact wX8_happens_74 K a0 c_latest c_typed c_room c_sights c_drawn i1 c_tenants c_events c_gone c_event c_settled o_audit o_left (fX8_happens_7 i1 c_tenants c_events c_gone c_event c_settled n) (fun z0 z1 z2 hq => ih z0 z1 z2 hq) c_audit c_left i2 v_4 v_5 h
          · refine j_iload_n K 1 rfl dX8_happens_69 rfl ?_
            refine j_iconst (v := (2 : Int32)) K (by decide) dX8_happens_70 rfl ?_
            refine j_icmp_ne (tgt := 78) K dX8_happens_71 (by decide) rfl h (fun h => ?_) (fun h => ?_)
            · refine j_iconst (v := (0 : Int32)) K (by decide) dX8_happens_78 rfl ?_
              refine j_sub [2, 3, 4, 1, 0] (lv' := [(0, .ref (a0 0)), (1, .int i1), (2, .int i2), (3, .int v_4), (4, .int v_5)]) rfl ?_
              exact wX8_happens_79 K a0 c_latest c_typed c_room c_sights c_drawn i1 c_tenants c_events c_gone c_event c_settled o_audit o_left (fX8_happens_7 i1 c_tenants c_events c_gone c_event c_settled n) (fun z0 z1 z2 hq => ih z0 z1 z2 hq) c_audit c_left i2 v_4 v_5 (0 : Int32) h
            · refine j_sub [2, 3, 4, 1, 0] (lv' := [(0, .ref (a0 0)), (1, .int i1), (2, .int i2), (3, .int v_4), (4, .int v_5)]) rfl ?_
              exact wX8_happens_74 K a0 c_latest c_typed c_room c_sights c_drawn i1 c_tenants c_events c_gone c_event c_settled o_audit o_left (fX8_happens_7 i1 c_tenants c_events c_gone c_event c_settled n) (fun z0 z1 z2 hq => ih z0 z1 z2 hq) c_audit c_left i2 v_4 v_5 h
set_option maxRecDepth 100000 in
set_option maxHeartbeats 4000000 in
theorem ctX8_happens (l : Launch) (D : va_G) (cyI cyJ cyS : ClassId) (a0 : Nat → Nat) (i1 : Int32) (c_latest : Int32) (c_typed : Int32) (c_room : Int32) (c_sights : Int32) (c_drawn : Int32) (c_tenants : Int32) (c_events : Int32) (c_gone : Int32) (c_event : Nat → Int32) (c_settled : Nat → Int32) (c_audit : Int32) (c_left : Nat → Int32) (o_audit : Int32) (o_left : Nat → Int32) (h : fX8_happens i1 c_tenants c_events c_gone c_event c_settled c_audit c_left = some (o_audit, o_left)) : jC l yX8_happens wdX8_happens rmX8_happens D vwCl (tyz cyI cyJ cyS) [.ref (a0 0), .int i1] (uX8_happens cyI cyJ cyS a0 c_latest c_typed c_tenants c_room c_events c_gone c_audit c_sights c_drawn c_event c_left c_settled) none (uX8_happens cyI cyJ cyS a0 c_latest c_typed c_tenants c_room c_events c_gone o_audit c_sights c_drawn c_event o_left c_settled) := by
  refine jC_of (cc := cX8_happens) (nL := 5) (ret := none) (own := RX8) (lv := [(0, .ref (a0 0)), (1, .int i1)]) (by decide) rfl rfl (Nat.le_of_ble_eq_true rfl) rfl ?_
  intro p e s m args below meth c A K
  unfold fX8_happens at h
  refine j_aload_n K 0 rfl dX8_happens_0 rfl ?_
  refine j_iconst (v := (0 : Int32)) K (by decide) dX8_happens_1 rfl ?_
  refine j_putf (C := RX8) (T := TX8) (N := 29) (ci := 8) (ty := .boolean) (ws' := (uX8_happens cyI cyJ cyS a0 c_latest c_typed c_tenants c_room c_events c_gone (0 : Int32) c_sights c_drawn c_event c_left c_settled)) K icX8 tyX8 tyX8_ok nmX8 0 24 (List.mem_cons_of_mem _ mw_18_4) rfl rfl rfl (by decide) rfl (by decide +kernel) rfl rfl (Nat.le_of_ble_eq_true rfl) rfl dX8_happens_2 rfl ?_
  refine j_iconst (v := (0 : Int32)) K (by decide) dX8_happens_5 rfl ?_
  refine j_istore_n (lv' := [(2, .int (0 : Int32)), (0, .ref (a0 0)), (1, .int i1)]) K (by decide) rfl dX8_happens_6 rfl ?_
  refine j_sub [1, 2, 0] (lv' := [(0, .ref (a0 0)), (1, .int i1), (2, .int (0 : Int32))]) rfl ?_
  exact wX8_happens_7 K a0 c_latest c_typed c_room c_sights c_drawn i1 c_tenants c_events c_gone c_event c_settled o_audit o_left jF (0 : Int32) c_left (0 : Int32) h
end GEN
