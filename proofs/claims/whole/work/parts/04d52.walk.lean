section GEN
variable {p : Program} {l : Launch} {e : Env} {s : State} {m : MethodId} {args : Array Value} {below : List Frame} {meth : Method} {c : Code} {A : Nat → Prop} {D : va_G} {cyI cyJ cyS : ClassId}
abbrev uX8_gets (cyI cyJ cyS : ClassId) (a0 : Nat → Nat) (c_latest : Int32) (c_typed : Int32) (c_tenants : Int32) (c_room : Int32) (c_events : Int32) (c_gone : Int32) (c_audit : Int32) (c_sights : Int32) (c_drawn : Int32) (c_floor : Nat → Int32) (c_left : Nat → Int32) (c_settled : Nat → Int32) (c_many : Nat → Int32) : va_W := [((a0 0), .inr (8, [.ref (a0 1), .ref (a0 2), .ref (a0 3), .ref (a0 4), .int c_latest, .ref (a0 5), .int c_typed, .int c_tenants, .ref (a0 6), .int c_room, .int c_events, .ref (a0 7), .int c_gone, .ref (a0 8), .ref (a0 9), .ref (a0 10), .ref (a0 11), .ref (a0 12), .ref (a0 13), .ref (a0 14), .ref (a0 15), .ref (a0 16), .ref (a0 17), .ref (a0 18), .int c_audit, .int c_sights, .ref (a0 19), .ref (a0 20), .int c_drawn])), ((a0 8), .inl (cyI, 8, .inl c_floor)), ((a0 10), .inl (cyI, 8, .inl c_left)), ((a0 11), .inl (cyI, 8, .inl c_settled)), ((a0 15), .inl (cyI, 13, .inl c_many))]
abbrev rmX8_gets : Room := { frames := 2, cells := 0, slots := 0, locals := 42 }
abbrev wdX8_gets : List Cond := .code yX8_gets cX8_gets 6 none :: wsL_law
theorem hyX8_gets : yX8_gets.cls = RX8 ∧ yX8_gets.cls ≠ "java/lang/invoke/MethodHandle" ∧ yX8_gets.cls ≠ "java/lang/invoke/VarHandle" ∧ (parseMethodDescriptor yX8_gets.desc).map (fun d => d.parameters.length) = some 0 := by decide +kernel
set_option maxRecDepth 100000 in
set_option maxHeartbeats 4000000 in
theorem wX8_gets_175 (K : jK p s m args meth c A D vwCl (tyz cyI cyJ cyS) cX8_gets 6 RX8 wdX8_gets none) (a0 : Nat → Nat) (c_latest : Int32) (c_typed : Int32) (c_events : Int32) (c_gone : Int32) (c_sights : Int32) (c_drawn : Int32) (c_tenants : Int32) (c_room : Int32) (c_audit : Int32) (c_left : Nat → Int32) (c_settled : Nat → Int32) (o_floor : Nat → Int32) (o_many : Nat → Int32)  (q_25 : (Nat → Int32) → (Nat → Int32) → Int32 → Int32 → (Option ((Nat → Int32) × (Nat → Int32)))) (hq_25 : ∀ (c_floor : Nat → Int32) (c_many : Nat → Int32) (i1 : Int32) (i2 : Int32), q_25 c_floor c_many i1 i2 = some (o_floor, o_many) → jw p l e rmX8_gets s m args below meth c (jQ below args s A D vwCl (tyz cyI cyJ cyS) 0 0 none (uX8_gets cyI cyJ cyS a0 c_latest c_typed c_tenants c_room c_events c_gone c_audit c_sights c_drawn o_floor c_left c_settled o_many)) A D vwCl 6 0 0 25 [(0, .ref (a0 0)), (1, .int i1), (2, .int i2)] [] (uX8_gets cyI cyJ cyS a0 c_latest c_typed c_tenants c_room c_events c_gone c_audit c_sights c_drawn c_floor c_left c_settled c_many)) : ∀ (c_floor : Nat → Int32) (c_many : Nat → Int32) (i1 : Int32) (i2 : Int32), fX8_gets_175 c_tenants c_room c_audit c_left c_settled q_25 c_floor c_many i1 i2 = some (o_floor, o_many) → jw p l e rmX8_gets s m args below meth c (jQ below args s A D vwCl (tyz cyI cyJ cyS) 0 0 none (uX8_gets cyI cyJ cyS a0 c_latest c_typed c_tenants c_room c_events c_gone c_audit c_sights c_drawn o_floor c_left c_settled o_many)) A D vwCl 6 0 0 175 [(0, .ref (a0 0)), (1, .int i1), (2, .int i2)] [] (uX8_gets cyI cyJ cyS a0 c_latest c_typed c_tenants c_room c_events c_gone c_audit c_sights c_drawn c_floor c_left c_settled c_many) := by
  intro c_floor c_many i1 i2 h
  unfold fX8_gets_175 at h
  refine j_iincN (lf := fun z => [(2, .int z), (0, .ref (a0 0)), (1, .int i1)]) K (v := i2 + (1 : Int32)) (k := 2) rfl rfl (by decide) (fun _ => rfl) dX8_gets_175 rfl h (fun i2_1 h => ?_)
  refine j_goto (pc' := 25) K dX8_gets_178 (by decide) ?_
  refine j_sub [1, 2, 0] (lv' := [(0, .ref (a0 0)), (1, .int i1), (2, .int i2_1)]) rfl ?_
  exact hq_25 c_floor c_many i1 i2_1 h
set_option maxRecDepth 100000 in
set_option maxHeartbeats 4000000 in
theorem wX8_gets_156 (K : jK p s m args meth c A D vwCl (tyz cyI cyJ cyS) cX8_gets 6 RX8 wdX8_gets none) (a0 : Nat → Nat) (c_latest : Int32) (c_typed : Int32) (c_events : Int32) (c_gone : Int32) (c_sights : Int32) (c_drawn : Int32) (c_tenants : Int32) (c_room : Int32) (c_audit : Int32) (c_left : Nat → Int32) (c_settled : Nat → Int32) (o_floor : Nat → Int32) (o_many : Nat → Int32)  (q_25 : (Nat → Int32) → (Nat → Int32) → Int32 → Int32 → (Option ((Nat → Int32) × (Nat → Int32)))) (hq_25 : ∀ (c_floor : Nat → Int32) (c_many : Nat → Int32) (i1 : Int32) (i2 : Int32), q_25 c_floor c_many i1 i2 = some (o_floor, o_many) → jw p l e rmX8_gets s m args below meth c (jQ below args s A D vwCl (tyz cyI cyJ cyS) 0 0 none (uX8_gets cyI cyJ cyS a0 c_latest c_typed c_tenants c_room c_events c_gone c_audit c_sights c_drawn o_floor c_left c_settled o_many)) A D vwCl 6 0 0 25 [(0, .ref (a0 0)), (1, .int i1), (2, .int i2)] [] (uX8_gets cyI cyJ cyS a0 c_latest c_typed c_tenants c_room c_events c_gone c_audit c_sights c_drawn c_floor c_left c_settled c_many)) : ∀ (c_floor : Nat → Int32) (c_many : Nat → Int32) (i1 : Int32) (i2 : Int32) (i3 : Int32) (i4 : Int32), fX8_gets_156 c_tenants c_room c_audit c_left c_settled q_25 c_floor c_many i1 i2 i3 i4 = some (o_floor, o_many) → jw p l e rmX8_gets s m args below meth c (jQ below args s A D vwCl (tyz cyI cyJ cyS) 0 0 none (uX8_gets cyI cyJ cyS a0 c_latest c_typed c_tenants c_room c_events c_gone c_audit c_sights c_drawn o_floor c_left c_settled o_many)) A D vwCl 6 0 0 156 [(0, .ref (a0 0)), (1, .int i1), (2, .int i2), (3, .int i3), (4, .int i4)] [] (uX8_gets cyI cyJ cyS a0 c_latest c_typed c_tenants c_room c_events c_gone c_audit c_sights c_drawn c_floor c_left c_settled c_many) := by
  intro c_floor c_many i1 i2 i3 i4 h
  unfold fX8_gets_156 at h
  refine j_aload_n K 0 rfl dX8_gets_156 rfl ?_
  refine j_getf (C := RX8) (T := TX8) (N := 29) (ci := 8) K icX8 0 20 (List.mem_cons_of_mem _ mw_5_22) rfl rfl rfl (by decide) rfl dX8_gets_157 rfl ?_
  refine j_iload K 4 rfl dX8_gets_160 rfl ?_
  refine j_dup2 K rfl rfl dX8_gets_162 rfl ?_
  refine j_iald K 4 0 rfl rfl dX8_gets_163 rfl h (fun v_4 h => ?_)
  refine j_iconst (v := (1 : Int32)) K (by decide) dX8_gets_164 rfl ?_
  refine j_iadd K dX8_gets_165 rfl ?_
  refine j_iast K 4 0 (fun z => (uX8_gets cyI cyJ cyS a0 c_latest c_typed c_tenants c_room c_events c_gone c_audit c_sights c_drawn c_floor c_left c_settled z)) rfl rfl (fun _ => rfl) dX8_gets_166 rfl h (fun c_many_5 h => ?_)
  refine j_aload_n K 0 rfl dX8_gets_167 rfl ?_
  refine j_getf (C := RX8) (T := TX8) (N := 29) (ci := 8) K icX8 0 13 (List.mem_cons_of_mem _ mw_5_15) rfl rfl rfl (by decide) rfl dX8_gets_168 rfl ?_
  refine j_iload_n K 3 rfl dX8_gets_171 rfl ?_
  refine j_iload K 4 rfl dX8_gets_172 rfl ?_
  refine j_iast K 1 0 (fun z => (uX8_gets cyI cyJ cyS a0 c_latest c_typed c_tenants c_room c_events c_gone c_audit c_sights c_drawn z c_left c_settled c_many_5)) rfl rfl (fun _ => rfl) dX8_gets_174 rfl h (fun c_floor_6 h => ?_)
  refine j_sub [0, 1, 2] (lv' := [(0, .ref (a0 0)), (1, .int i1), (2, .int i2)]) rfl ?_
  exact wX8_gets_175 K a0 c_latest c_typed c_events c_gone c_sights c_drawn c_tenants c_room c_audit c_left c_settled o_floor o_many q_25 hq_25 c_floor_6 c_many_5 i1 i2 h
set_option maxRecDepth 100000 in
set_option maxHeartbeats 4000000 in
theorem wX8_gets_131 (K : jK p s m args meth c A D vwCl (tyz cyI cyJ cyS) cX8_gets 6 RX8 wdX8_gets none) (a0 : Nat → Nat) (c_latest : Int32) (c_typed : Int32) (c_events : Int32) (c_gone : Int32) (c_sights : Int32) (c_drawn : Int32) (c_tenants : Int32) (c_room : Int32) (c_audit : Int32) (c_left : Nat → Int32) (c_settled : Nat → Int32) (o_floor : Nat → Int32) (o_many : Nat → Int32)  (q_25 : (Nat → Int32) → (Nat → Int32) → Int32 → Int32 → (Option ((Nat → Int32) × (Nat → Int32)))) (hq_25 : ∀ (c_floor : Nat → Int32) (c_many : Nat → Int32) (i1 : Int32) (i2 : Int32), q_25 c_floor c_many i1 i2 = some (o_floor, o_many) → jw p l e rmX8_gets s m args below meth c (jQ below args s A D vwCl (tyz cyI cyJ cyS) 0 0 none (uX8_gets cyI cyJ cyS a0 c_latest c_typed c_tenants c_room c_events c_gone c_audit c_sights c_drawn o_floor c_left c_settled o_many)) A D vwCl 6 0 0 25 [(0, .ref (a0 0)), (1, .int i1), (2, .int i2)] [] (uX8_gets cyI cyJ cyS a0 c_latest c_typed c_tenants c_room c_events c_gone c_audit c_sights c_drawn c_floor c_left c_settled c_many)) : ∀ (n : Nat) (c_floor : Nat → Int32) (c_many : Nat → Int32) (i1 : Int32) (i2 : Int32) (i3 : Int32) (i4 : Int32), fX8_gets_131 c_tenants c_room c_audit c_left c_settled q_25 n c_floor c_many i1 i2 i3 i4 = some (o_floor, o_many) → jw p l e rmX8_gets s m args below meth c (jQ below args s A D vwCl (tyz cyI cyJ cyS) 0 0 none (uX8_gets cyI cyJ cyS a0 c_latest c_typed c_tenants c_room c_events c_gone c_audit c_sights c_drawn o_floor c_left c_settled o_many)) A D vwCl 6 0 0 131 [(0, .ref (a0 0)), (1, .int i1), (2, .int i2), (3, .int i3), (4, .int i4)] [] (uX8_gets cyI cyJ cyS a0 c_latest c_typed c_tenants c_room c_events c_gone c_audit c_sights c_drawn c_floor c_left c_settled c_many) := by
  intro n
  induction n with
  | zero => intro c_floor c_many i1 i2 i3 i4 h; cases h
  | succ n ih =>
    intro c_floor c_many i1 i2 i3 i4 h
    have h : bX8_gets_131 c_tenants c_room c_audit c_left c_settled q_25 (fX8_gets_131 c_tenants c_room c_audit c_left c_settled q_25 n) c_floor c_many i1 i2 i3 i4 = some (o_floor, o_many) := h
    unfold bX8_gets_131 at h
    refine j_iload K 4 rfl dX8_gets_131 rfl ?_
    refine j_if_le (tgt := 156) K dX8_gets_133 (by decide) rfl h (fun h => ?_) (fun h => ?_)
    · refine j_sub [0, 1, 2, 3, 4] (lv' := [(0, .ref (a0 0)), (1, .int i1), (2, .int i2), (3, .int i3), (4, .int i4)]) rfl ?_
      exact wX8_gets_156 K a0 c_latest c_typed c_events c_gone c_sights c_drawn c_tenants c_room c_audit c_left c_settled o_floor o_many q_25 hq_25 c_floor c_many i1 i2 i3 i4 h
    · refine j_aload_n K 0 rfl dX8_gets_136 rfl ?_
      refine j_getf (C := RX8) (T := TX8) (N := 29) (ci := 8) K icX8 0 20 (List.mem_cons_of_mem _ mw_5_22) rfl rfl rfl (by decide) rfl dX8_gets_137 rfl ?_
      refine j_iload K 4 rfl dX8_gets_140 rfl ?_
      refine j_iald K 4 0 rfl rfl dX8_gets_142 rfl h (fun v_7 h => ?_)
      refine j_aload_n K 0 rfl dX8_gets_143 rfl ?_
      refine j_getf (C := RX8) (T := TX8) (N := 29) (ci := 8) K icX8 0 9 (List.mem_cons_of_mem _ mw_6_5) rfl rfl rfl (by decide) rfl dX8_gets_144 rfl ?_
      refine j_icmp_ne (tgt := 156) K dX8_gets_147 (by decide) rfl h (fun h => ?_) (fun h => ?_)
      · refine j_sub [0, 1, 2, 3, 4] (lv' := [(0, .ref (a0 0)), (1, .int i1), (2, .int i2), (3, .int i3), (4, .int i4)]) rfl ?_
        exact wX8_gets_156 K a0 c_latest c_typed c_events c_gone c_sights c_drawn c_tenants c_room c_audit c_left c_settled o_floor o_many q_25 hq_25 c_floor c_many i1 i2 i3 i4 h
      · refine j_iincN (lf := fun z => [(4, .int z), (0, .ref (a0 0)), (1, .int i1), (2, .int i2), (3, .int i3)]) K (v := i4 + (-1 : Int32)) (k := 4) rfl (congrArg (fun z => i4 + z) (by decide)) (by decide) (fun _ => rfl) dX8_gets_150 rfl h (fun i4_8 h => ?_)
        refine j_goto (pc' := 131) K dX8_gets_153 (by decide) ?_
        refine j_sub [1, 2, 3, 4, 0] (lv' := [(0, .ref (a0 0)), (1, .int i1), (2, .int i2), (3, .int i3), (4, .int i4_8)]) rfl ?_
        exact ih c_floor c_many i1 i2 i3 i4_8 h
set_option maxRecDepth 100000 in
set_option maxHeartbeats 4000000 in
theorem wX8_gets_106 (K : jK p s m args meth c A D vwCl (tyz cyI cyJ cyS) cX8_gets 6 RX8 wdX8_gets none) (a0 : Nat → Nat) (c_latest : Int32) (c_typed : Int32) (c_events : Int32) (c_gone : Int32) (c_sights : Int32) (c_drawn : Int32) (c_tenants : Int32) (c_room : Int32) (c_audit : Int32) (c_left : Nat → Int32) (c_settled : Nat → Int32) (o_floor : Nat → Int32) (o_many : Nat → Int32)  (q_25 : (Nat → Int32) → (Nat → Int32) → Int32 → Int32 → (Option ((Nat → Int32) × (Nat → Int32)))) (q_38 : (Nat → Int32) → (Nat → Int32) → Int32 → Int32 → Int32 → Int32 → (Option ((Nat → Int32) × (Nat → Int32)))) (hq_25 : ∀ (c_floor : Nat → Int32) (c_many : Nat → Int32) (i1 : Int32) (i2 : Int32), q_25 c_floor c_many i1 i2 = some (o_floor, o_many) → jw p l e rmX8_gets s m args below meth c (jQ below args s A D vwCl (tyz cyI cyJ cyS) 0 0 none (uX8_gets cyI cyJ cyS a0 c_latest c_typed c_tenants c_room c_events c_gone c_audit c_sights c_drawn o_floor c_left c_settled o_many)) A D vwCl 6 0 0 25 [(0, .ref (a0 0)), (1, .int i1), (2, .int i2)] [] (uX8_gets cyI cyJ cyS a0 c_latest c_typed c_tenants c_room c_events c_gone c_audit c_sights c_drawn c_floor c_left c_settled c_many)) (hq_38 : ∀ (c_floor : Nat → Int32) (c_many : Nat → Int32) (i1 : Int32) (i2 : Int32) (i3 : Int32) (i4 : Int32), q_38 c_floor c_many i1 i2 i3 i4 = some (o_floor, o_many) → jw p l e rmX8_gets s m args below meth c (jQ below args s A D vwCl (tyz cyI cyJ cyS) 0 0 none (uX8_gets cyI cyJ cyS a0 c_latest c_typed c_tenants c_room c_events c_gone c_audit c_sights c_drawn o_floor c_left c_settled o_many)) A D vwCl 6 0 0 38 [(0, .ref (a0 0)), (1, .int i1), (2, .int i2), (3, .int i3), (4, .int i4)] [] (uX8_gets cyI cyJ cyS a0 c_latest c_typed c_tenants c_room c_events c_gone c_audit c_sights c_drawn c_floor c_left c_settled c_many)) : ∀ (c_floor : Nat → Int32) (c_many : Nat → Int32) (i1 : Int32) (i2 : Int32) (i4 : Int32) (t0 : Int32), fX8_gets_106 c_tenants c_room c_audit c_left c_settled q_25 q_38 c_floor c_many i1 i2 i4 t0 = some (o_floor, o_many) → jw p l e rmX8_gets s m args below meth c (jQ below args s A D vwCl (tyz cyI cyJ cyS) 0 0 none (uX8_gets cyI cyJ cyS a0 c_latest c_typed c_tenants c_room c_events c_gone c_audit c_sights c_drawn o_floor c_left c_settled o_many)) A D vwCl 6 0 0 106 [(0, .ref (a0 0)), (1, .int i1), (2, .int i2), (4, .int i4)] [.int t0] (uX8_gets cyI cyJ cyS a0 c_latest c_typed c_tenants c_room c_events c_gone c_audit c_sights c_drawn c_floor c_left c_settled c_many) := by
  intro c_floor c_many i1 i2 i4 t0 h
  unfold fX8_gets_106 at h
  refine j_istore_n (lv' := [(3, .int t0), (0, .ref (a0 0)), (1, .int i1), (2, .int i2), (4, .int i4)]) K (by decide) rfl dX8_gets_106 rfl ?_
  refine j_iincN (lf := fun z => [(4, .int z), (3, .int t0), (0, .ref (a0 0)), (1, .int i1), (2, .int i2)]) K (v := i4 + (1 : Int32)) (k := 4) rfl rfl (by decide) (fun _ => rfl) dX8_gets_107 rfl h (fun i4_10 h => ?_)
  refine j_goto (pc' := 38) K dX8_gets_110 (by decide) ?_
  refine j_sub [2, 3, 4, 1, 0] (lv' := [(0, .ref (a0 0)), (1, .int i1), (2, .int i2), (3, .int t0), (4, .int i4_10)]) rfl ?_
  exact hq_38 c_floor c_many i1 i2 t0 i4_10 h
set_option maxRecDepth 100000 in
set_option maxHeartbeats 4000000 in
theorem wX8_gets_105 (K : jK p s m args meth c A D vwCl (tyz cyI cyJ cyS) cX8_gets 6 RX8 wdX8_gets none) (a0 : Nat → Nat) (c_latest : Int32) (c_typed : Int32) (c_events : Int32) (c_gone : Int32) (c_sights : Int32) (c_drawn : Int32) (c_tenants : Int32) (c_room : Int32) (c_audit : Int32) (c_left : Nat → Int32) (c_settled : Nat → Int32) (o_floor : Nat → Int32) (o_many : Nat → Int32)  (q_25 : (Nat → Int32) → (Nat → Int32) → Int32 → Int32 → (Option ((Nat → Int32) × (Nat → Int32)))) (q_38 : (Nat → Int32) → (Nat → Int32) → Int32 → Int32 → Int32 → Int32 → (Option ((Nat → Int32) × (Nat → Int32)))) (hq_25 : ∀ (c_floor : Nat → Int32) (c_many : Nat → Int32) (i1 : Int32) (i2 : Int32), q_25 c_floor c_many i1 i2 = some (o_floor, o_many) → jw p l e rmX8_gets s m args below meth c (jQ below args s A D vwCl (tyz cyI cyJ cyS) 0 0 none (uX8_gets cyI cyJ cyS a0 c_latest c_typed c_tenants c_room c_events c_gone c_audit c_sights c_drawn o_floor c_left c_settled o_many)) A D vwCl 6 0 0 25 [(0, .ref (a0 0)), (1, .int i1), (2, .int i2)] [] (uX8_gets cyI cyJ cyS a0 c_latest c_typed c_tenants c_room c_events c_gone c_audit c_sights c_drawn c_floor c_left c_settled c_many)) (hq_38 : ∀ (c_floor : Nat → Int32) (c_many : Nat → Int32) (i1 : Int32) (i2 : Int32) (i3 : Int32) (i4 : Int32), q_38 c_floor c_many i1 i2 i3 i4 = some (o_floor, o_many) → jw p l e rmX8_gets s m args below meth c (jQ below args s A D vwCl (tyz cyI cyJ cyS) 0 0 none (uX8_gets cyI cyJ cyS a0 c_latest c_typed c_tenants c_room c_events c_gone c_audit c_sights c_drawn o_floor c_left c_settled o_many)) A D vwCl 6 0 0 38 [(0, .ref (a0 0)), (1, .int i1), (2, .int i2), (3, .int i3), (4, .int i4)] [] (uX8_gets cyI cyJ cyS a0 c_latest c_typed c_tenants c_room c_events c_gone c_audit c_sights c_drawn c_floor c_left c_settled c_many)) : ∀ (c_floor : Nat → Int32) (c_many : Nat → Int32) (i1 : Int32) (i2 : Int32) (i3 : Int32) (i4 : Int32), fX8_gets_105 c_tenants c_room c_audit c_left c_settled q_25 q_38 c_floor c_many i1 i2 i3 i4 = some (o_floor, o_many) → jw p l e rmX8_gets s m args below meth c (jQ below args s A D vwCl (tyz cyI cyJ cyS) 0 0 none (uX8_gets cyI cyJ cyS a0 c_latest c_typed c_tenants c_room c_events c_gone c_audit c_sights c_drawn o_floor c_left c_settled o_many)) A D vwCl 6 0 0 105 [(0, .ref (a0 0)), (1, .int i1), (2, .int i2), (3, .int i3), (4, .int i4)] [] (uX8_gets cyI cyJ cyS a0 c_latest c_typed c_tenants c_room c_events c_gone c_audit c_sights c_drawn c_floor c_left c_settled c_many) := by
  intro c_floor c_many i1 i2 i3 i4 h
  unfold fX8_gets_105 at h
  refine j_iload_n K 3 rfl dX8_gets_105 rfl ?_
  refine j_sub [0, 1, 2, 4] (lv' := [(0, .ref (a0 0)), (1, .int i1), (2, .int i2), (4, .int i4)]) rfl ?_
  exact wX8_gets_106 K a0 c_latest c_typed c_events c_gone c_sights c_drawn c_tenants c_room c_audit c_left c_settled o_floor o_many q_25 q_38 hq_25 hq_38 c_floor c_many i1 i2 i4 i3 h
set_option maxRecDepth 100000 in
set_option maxHeartbeats 4000000 in
theorem wX8_gets_100 (K : jK p s m args meth c A D vwCl (tyz cyI cyJ cyS) cX8_gets 6 RX8 wdX8_gets none) (a0 : Nat → Nat) (c_latest : Int32) (c_typed : Int32) (c_events : Int32) (c_gone : Int32) (c_sights : Int32) (c_drawn : Int32) (c_tenants : Int32) (c_room : Int32) (c_audit : Int32) (c_left : Nat → Int32) (c_settled : Nat → Int32) (o_floor : Nat → Int32) (o_many : Nat → Int32)  (q_25 : (Nat → Int32) → (Nat → Int32) → Int32 → Int32 → (Option ((Nat → Int32) × (Nat → Int32)))) (q_38 : (Nat → Int32) → (Nat → Int32) → Int32 → Int32 → Int32 → Int32 → (Option ((Nat → Int32) × (Nat → Int32)))) (hq_25 : ∀ (c_floor : Nat → Int32) (c_many : Nat → Int32) (i1 : Int32) (i2 : Int32), q_25 c_floor c_many i1 i2 = some (o_floor, o_many) → jw p l e rmX8_gets s m args below meth c (jQ below args s A D vwCl (tyz cyI cyJ cyS) 0 0 none (uX8_gets cyI cyJ cyS a0 c_latest c_typed c_tenants c_room c_events c_gone c_audit c_sights c_drawn o_floor c_left c_settled o_many)) A D vwCl 6 0 0 25 [(0, .ref (a0 0)), (1, .int i1), (2, .int i2)] [] (uX8_gets cyI cyJ cyS a0 c_latest c_typed c_tenants c_room c_events c_gone c_audit c_sights c_drawn c_floor c_left c_settled c_many)) (hq_38 : ∀ (c_floor : Nat → Int32) (c_many : Nat → Int32) (i1 : Int32) (i2 : Int32) (i3 : Int32) (i4 : Int32), q_38 c_floor c_many i1 i2 i3 i4 = some (o_floor, o_many) → jw p l e rmX8_gets s m args below meth c (jQ below args s A D vwCl (tyz cyI cyJ cyS) 0 0 none (uX8_gets cyI cyJ cyS a0 c_latest c_typed c_tenants c_room c_events c_gone c_audit c_sights c_drawn o_floor c_left c_settled o_many)) A D vwCl 6 0 0 38 [(0, .ref (a0 0)), (1, .int i1), (2, .int i2), (3, .int i3), (4, .int i4)] [] (uX8_gets cyI cyJ cyS a0 c_latest c_typed c_tenants c_room c_events c_gone c_audit c_sights c_drawn c_floor c_left c_settled c_many)) : ∀ (c_floor : Nat → Int32) (c_many : Nat → Int32) (i1 : Int32) (i2 : Int32) (i4 : Int32), fX8_gets_100 c_tenants c_room c_audit c_left c_settled q_25 q_38 c_floor c_many i1 i2 i4 = some (o_floor, o_many) → jw p l e rmX8_gets s m args below meth c (jQ below args s A D vwCl (tyz cyI cyJ cyS) 0 0 none (uX8_gets cyI cyJ cyS a0 c_latest c_typed c_tenants c_room c_events c_gone c_audit c_sights c_drawn o_floor c_left c_settled o_many)) A D vwCl 6 0 0 100 [(0, .ref (a0 0)), (1, .int i1), (2, .int i2), (4, .int i4)] [] (uX8_gets cyI cyJ cyS a0 c_latest c_typed c_tenants c_room c_events c_gone c_audit c_sights c_drawn c_floor c_left c_settled c_many) := by
  intro c_floor c_many i1 i2 i4 h
  unfold fX8_gets_100 at h
  refine j_iload K 3 rfl dX8_gets_100 rfl ?_
  refine j_goto (pc' := 106) K dX8_gets_102 (by decide) ?_
  refine j_sub [0, 1, 2, 3] (lv' := [(0, .ref (a0 0)), (1, .int i1), (2, .int i2), (4, .int i4)]) rfl ?_
  exact wX8_gets_106 K a0 c_latest c_typed c_events c_gone c_sights c_drawn c_tenants c_room c_audit c_left c_settled o_floor o_many q_25 q_38 hq_25 hq_38 c_floor c_many i1 i2 i4 i4 h
set_option maxRecDepth 100000 in
set_option maxHeartbeats 4000000 in
theorem wX8_gets_72 (K : jK p s m args meth c A D vwCl (tyz cyI cyJ cyS) cX8_gets 6 RX8 wdX8_gets none) (a0 : Nat → Nat) (c_latest : Int32) (c_typed : Int32) (c_events : Int32) (c_gone : Int32) (c_sights : Int32) (c_drawn : Int32) (c_tenants : Int32) (c_room : Int32) (c_audit : Int32) (c_left : Nat → Int32) (c_settled : Nat → Int32) (o_floor : Nat → Int32) (o_many : Nat → Int32)  (q_25 : (Nat → Int32) → (Nat → Int32) → Int32 → Int32 → (Option ((Nat → Int32) × (Nat → Int32)))) (q_38 : (Nat → Int32) → (Nat → Int32) → Int32 → Int32 → Int32 → Int32 → (Option ((Nat → Int32) × (Nat → Int32)))) (hq_25 : ∀ (c_floor : Nat → Int32) (c_many : Nat → Int32) (i1 : Int32) (i2 : Int32), q_25 c_floor c_many i1 i2 = some (o_floor, o_many) → jw p l e rmX8_gets s m args below meth c (jQ below args s A D vwCl (tyz cyI cyJ cyS) 0 0 none (uX8_gets cyI cyJ cyS a0 c_latest c_typed c_tenants c_room c_events c_gone c_audit c_sights c_drawn o_floor c_left c_settled o_many)) A D vwCl 6 0 0 25 [(0, .ref (a0 0)), (1, .int i1), (2, .int i2)] [] (uX8_gets cyI cyJ cyS a0 c_latest c_typed c_tenants c_room c_events c_gone c_audit c_sights c_drawn c_floor c_left c_settled c_many)) (hq_38 : ∀ (c_floor : Nat → Int32) (c_many : Nat → Int32) (i1 : Int32) (i2 : Int32) (i3 : Int32) (i4 : Int32), q_38 c_floor c_many i1 i2 i3 i4 = some (o_floor, o_many) → jw p l e rmX8_gets s m args below meth c (jQ below args s A D vwCl (tyz cyI cyJ cyS) 0 0 none (uX8_gets cyI cyJ cyS a0 c_latest c_typed c_tenants c_room c_events c_gone c_audit c_sights c_drawn o_floor c_left c_settled o_many)) A D vwCl 6 0 0 38 [(0, .ref (a0 0)), (1, .int i1), (2, .int i2), (3, .int i3), (4, .int i4)] [] (uX8_gets cyI cyJ cyS a0 c_latest c_typed c_tenants c_room c_events c_gone c_audit c_sights c_drawn c_floor c_left c_settled c_many)) : ∀ (c_floor : Nat → Int32) (c_many : Nat → Int32) (i1 : Int32) (i2 : Int32) (i3 : Int32) (i4 : Int32) (t0 : Int32), fX8_gets_72 c_tenants c_room c_audit c_left c_settled q_25 q_38 c_floor c_many i1 i2 i3 i4 t0 = some (o_floor, o_many) → jw p l e rmX8_gets s m args below meth c (jQ below args s A D vwCl (tyz cyI cyJ cyS) 0 0 none (uX8_gets cyI cyJ cyS a0 c_latest c_typed c_tenants c_room c_events c_gone c_audit c_sights c_drawn o_floor c_left c_settled o_many)) A D vwCl 6 0 0 72 [(0, .ref (a0 0)), (1, .int i1), (2, .int i2), (3, .int i3), (4, .int i4)] [.int t0] (uX8_gets cyI cyJ cyS a0 c_latest c_typed c_tenants c_room c_events c_gone c_audit c_sights c_drawn c_floor c_left c_settled c_many) := by
  intro c_floor c_many i1 i2 i3 i4 t0 h
  unfold fX8_gets_72 at h
  refine j_istore (lv' := [(5, .int t0), (0, .ref (a0 0)), (1, .int i1), (2, .int i2), (3, .int i3), (4, .int i4)]) K (by decide) rfl dX8_gets_72 rfl ?_
  refine j_iload K 0 rfl dX8_gets_74 rfl ?_
  refine j_if_eq (tgt := 105) K dX8_gets_76 (by decide) rfl h (fun h => ?_) (fun h => ?_)
  · refine j_sub [1, 2, 3, 4, 5] (lv' := [(0, .ref (a0 0)), (1, .int i1), (2, .int i2), (3, .int i3), (4, .int i4)]) rfl ?_
    exact wX8_gets_105 K a0 c_latest c_typed c_events c_gone c_sights c_drawn c_tenants c_room c_audit c_left c_settled o_floor o_many q_25 q_38 hq_25 hq_38 c_floor c_many i1 i2 i3 i4 h
  · refine j_iload_n K 4 rfl dX8_gets_79 rfl ?_
    refine j_iconst (v := (-1 : Int32)) K (by decide) dX8_gets_80 rfl ?_
    refine j_icmp_eq (tgt := 100) K dX8_gets_81 (by decide) rfl h (fun h => ?_) (fun h => ?_)
    · refine j_sub [1, 2, 3, 5] (lv' := [(0, .ref (a0 0)), (1, .int i1), (2, .int i2), (4, .int i4)]) rfl ?_
      exact wX8_gets_100 K a0 c_latest c_typed c_events c_gone c_sights c_drawn c_tenants c_room c_audit c_left c_settled o_floor o_many q_25 q_38 hq_25 hq_38 c_floor c_many i1 i2 i4 h
    · refine j_aload_n K 1 rfl dX8_gets_84 rfl ?_
      refine j_getf (C := RX8) (T := TX8) (N := 29) (ci := 8) K icX8 0 15 (List.mem_cons_of_mem _ mw_5_17) rfl rfl rfl (by decide) rfl dX8_gets_85 rfl ?_
      refine j_iload K 5 rfl dX8_gets_88 rfl ?_
      refine j_iald K 2 0 rfl rfl dX8_gets_90 rfl h (fun v_11 h => ?_)
      refine j_aload_n K 1 rfl dX8_gets_91 rfl ?_
      refine j_getf (C := RX8) (T := TX8) (N := 29) (ci := 8) K icX8 0 15 (List.mem_cons_of_mem _ mw_5_17) rfl rfl rfl (by decide) rfl dX8_gets_92 rfl ?_
      refine j_iload_n K 4 rfl dX8_gets_95 rfl ?_
      refine j_iald K 2 0 rfl rfl dX8_gets_96 rfl h (fun v_12 h => ?_)
      refine j_icmp_le (tgt := 105) K dX8_gets_97 (by decide) rfl h (fun h => ?_) (fun h => ?_)
      · refine j_sub [1, 2, 3, 4, 5] (lv' := [(0, .ref (a0 0)), (1, .int i1), (2, .int i2), (3, .int i3), (4, .int i4)]) rfl ?_
        exact wX8_gets_105 K a0 c_latest c_typed c_events c_gone c_sights c_drawn c_tenants c_room c_audit c_left c_settled o_floor o_many q_25 q_38 hq_25 hq_38 c_floor c_many i1 i2 i3 i4 h
      · refine j_sub [1, 2, 3, 5] (lv' := [(0, .ref (a0 0)), (1, .int i1), (2, .int i2), (4, .int i4)]) rfl ?_
        exact wX8_gets_100 K a0 c_latest c_typed c_events c_gone c_sights c_drawn c_tenants c_room c_audit c_left c_settled o_floor o_many q_25 q_38 hq_25 hq_38 c_floor c_many i1 i2 i4 h
set_option maxRecDepth 100000 in
set_option maxHeartbeats 4000000 in
theorem wX8_gets_71 (K : jK p s m args meth c A D vwCl (tyz cyI cyJ cyS) cX8_gets 6 RX8 wdX8_gets none) (a0 : Nat → Nat) (c_latest : Int32) (c_typed : Int32) (c_events : Int32) (c_gone : Int32) (c_sights : Int32) (c_drawn : Int32) (c_tenants : Int32) (c_room : Int32) (c_audit : Int32) (c_left : Nat → Int32) (c_settled : Nat → Int32) (o_floor : Nat → Int32) (o_many : Nat → Int32)  (q_25 : (Nat → Int32) → (Nat → Int32) → Int32 → Int32 → (Option ((Nat → Int32) × (Nat → Int32)))) (q_38 : (Nat → Int32) → (Nat → Int32) → Int32 → Int32 → Int32 → Int32 → (Option ((Nat → Int32) × (Nat → Int32)))) (hq_25 : ∀ (c_floor : Nat → Int32) (c_many : Nat → Int32) (i1 : Int32) (i2 : Int32), q_25 c_floor c_many i1 i2 = some (o_floor, o_many) → jw p l e rmX8_gets s m args below meth c (jQ below args s A D vwCl (tyz cyI cyJ cyS) 0 0 none (uX8_gets cyI cyJ cyS a0 c_latest c_typed c_tenants c_room c_events c_gone c_audit c_sights c_drawn o_floor c_left c_settled o_many)) A D vwCl 6 0 0 25 [(0, .ref (a0 0)), (1, .int i1), (2, .int i2)] [] (uX8_gets cyI cyJ cyS a0 c_latest c_typed c_tenants c_room c_events c_gone c_audit c_sights c_drawn c_floor c_left c_settled c_many)) (hq_38 : ∀ (c_floor : Nat → Int32) (c_many : Nat → Int32) (i1 : Int32) (i2 : Int32) (i3 : Int32) (i4 : Int32), q_38 c_floor c_many i1 i2 i3 i4 = some (o_floor, o_many) → jw p l e rmX8_gets s m args below meth c (jQ below args s A D vwCl (tyz cyI cyJ cyS) 0 0 none (uX8_gets cyI cyJ cyS a0 c_latest c_typed c_tenants c_room c_events c_gone c_audit c_sights c_drawn o_floor c_left c_settled o_many)) A D vwCl 6 0 0 38 [(0, .ref (a0 0)), (1, .int i1), (2, .int i2), (3, .int i3), (4, .int i4)] [] (uX8_gets cyI cyJ cyS a0 c_latest c_typed c_tenants c_room c_events c_gone c_audit c_sights c_drawn c_floor c_left c_settled c_many)) : ∀ (c_floor : Nat → Int32) (c_many : Nat → Int32) (i1 : Int32) (i2 : Int32) (i3 : Int32) (i4 : Int32), fX8_gets_71 c_tenants c_room c_audit c_left c_settled q_25 q_38 c_floor c_many i1 i2 i3 i4 = some (o_floor, o_many) → jw p l e rmX8_gets s m args below meth c (jQ below args s A D vwCl (tyz cyI cyJ cyS) 0 0 none (uX8_gets cyI cyJ cyS a0 c_latest c_typed c_tenants c_room c_events c_gone c_audit c_sights c_drawn o_floor c_left c_settled o_many)) A D vwCl 6 0 0 71 [(0, .ref (a0 0)), (1, .int i1), (2, .int i2), (3, .int i3), (4, .int i4)] [] (uX8_gets cyI cyJ cyS a0 c_latest c_typed c_tenants c_room c_events c_gone c_audit c_sights c_drawn c_floor c_left c_settled c_many) := by
  intro c_floor c_many i1 i2 i3 i4 h
  unfold fX8_gets_71 at h
  refine j_iconst (v := (0 : Int32)) K (by decide) dX8_gets_71 rfl ?_
  refine j_sub [0, 1, 2, 3, 4] (lv' := [(0, .ref (a0 0)), (1, .int i1), (2, .int i2), (3, .int i3), (4, .int i4)]) rfl ?_
  exact wX8_gets_72 K a0 c_latest c_typed c_events c_gone c_sights c_drawn c_tenants c_room c_audit c_left c_settled o_floor o_many q_25 q_38 hq_25 hq_38 c_floor c_many i1 i2 i3 i4 (0 : Int32) h
set_option maxRecDepth 100000 in
set_option maxHeartbeats 4000000 in
theorem wX8_gets_38 (K : jK p s m args meth c A D vwCl (tyz cyI cyJ cyS) cX8_gets 6 RX8 wdX8_gets none) (a0 : Nat → Nat) (c_latest : Int32) (c_typed : Int32) (c_events : Int32) (c_gone : Int32) (c_sights : Int32) (c_drawn : Int32) (c_tenants : Int32) (c_room : Int32) (c_audit : Int32) (c_left : Nat → Int32) (c_settled : Nat → Int32) (o_floor : Nat → Int32) (o_many : Nat → Int32)  (q_25 : (Nat → Int32) → (Nat → Int32) → Int32 → Int32 → (Option ((Nat → Int32) × (Nat → Int32)))) (hq_25 : ∀ (c_floor : Nat → Int32) (c_many : Nat → Int32) (i1 : Int32) (i2 : Int32), q_25 c_floor c_many i1 i2 = some (o_floor, o_many) → jw p l e rmX8_gets s m args below meth c (jQ below args s A D vwCl (tyz cyI cyJ cyS) 0 0 none (uX8_gets cyI cyJ cyS a0 c_latest c_typed c_tenants c_room c_events c_gone c_audit c_sights c_drawn o_floor c_left c_settled o_many)) A D vwCl 6 0 0 25 [(0, .ref (a0 0)), (1, .int i1), (2, .int i2)] [] (uX8_gets cyI cyJ cyS a0 c_latest c_typed c_tenants c_room c_events c_gone c_audit c_sights c_drawn c_floor c_left c_settled c_many)) : ∀ (n : Nat) (c_floor : Nat → Int32) (c_many : Nat → Int32) (i1 : Int32) (i2 : Int32) (i3 : Int32) (i4 : Int32), fX8_gets_38 c_tenants c_room c_audit c_left c_settled q_25 n c_floor c_many i1 i2 i3 i4 = some (o_floor, o_many) → jw p l e rmX8_gets s m args below meth c (jQ below args s A D vwCl (tyz cyI cyJ cyS) 0 0 none (uX8_gets cyI cyJ cyS a0 c_latest c_typed c_tenants c_room c_events c_gone c_audit c_sights c_drawn o_floor c_left c_settled o_many)) A D vwCl 6 0 0 38 [(0, .ref (a0 0)), (1, .int i1), (2, .int i2), (3, .int i3), (4, .int i4)] [] (uX8_gets cyI cyJ cyS a0 c_latest c_typed c_tenants c_room c_events c_gone c_audit c_sights c_drawn c_floor c_left c_settled c_many) := by
  intro n
  induction n with
  | zero => intro c_floor c_many i1 i2 i3 i4 h; cases h
  | succ n ih =>
    intro c_floor c_many i1 i2 i3 i4 h
    have h : bX8_gets_38 c_tenants c_room c_audit c_left c_settled q_25 (fX8_gets_38 c_tenants c_room c_audit c_left c_settled q_25 n) c_floor c_many i1 i2 i3 i4 = some (o_floor, o_many) := h
    unfold bX8_gets_38 at h
    refine j_iload K 4 rfl dX8_gets_38 rfl ?_
    refine j_aload_n K 0 rfl dX8_gets_40 rfl ?_
    refine j_getf (C := RX8) (T := TX8) (N := 29) (ci := 8) K icX8 0 7 (List.mem_cons_of_mem _ mw_9_6) rfl rfl rfl (by decide) rfl dX8_gets_41 rfl ?_
    refine j_icmp_ge (tgt := 113) K dX8_gets_44 (by decide) rfl h (fun h => ?_) (fun h => ?_)
    · refine j_iload_n K 3 rfl dX8_gets_113 rfl ?_
      refine j_iconst (v := (-1 : Int32)) K (by decide) dX8_gets_114 rfl ?_
      refine j_icmp_eq (tgt := 175) K dX8_gets_115 (by decide) rfl h (fun h => ?_) (fun h => ?_)
      · refine j_sub [0, 1, 2] (lv' := [(0, .ref (a0 0)), (1, .int i1), (2, .int i2)]) rfl ?_
        exact wX8_gets_175 K a0 c_latest c_typed c_events c_gone c_sights c_drawn c_tenants c_room c_audit c_left c_settled o_floor o_many q_25 hq_25 c_floor c_many i1 i2 h
      · refine j_iload_n K 1 rfl dX8_gets_118 rfl ?_
        refine j_iconst (v := (1 : Int32)) K (by decide) dX8_gets_119 rfl ?_
        refine j_iload_n K 3 rfl dX8_gets_120 rfl ?_
        refine j_ishl K dX8_gets_121 rfl ?_
        refine j_ior K dX8_gets_122 rfl ?_
        refine j_nmI h (fun i1_2 h => ?_)
        refine j_istore_n (lv' := [(1, .int i1_2), (0, .ref (a0 0)), (2, .int i2), (3, .int i3), (4, .int i4)]) K (by decide) rfl dX8_gets_123 rfl ?_
        refine j_aload_n K 1 rfl dX8_gets_124 rfl ?_
        refine j_iload_n K 3 rfl dX8_gets_125 rfl ?_
        obtain ⟨r_3, hc, h⟩ := bd1_some h
        refine j_callV (rest := []) (st1 := [.int r_3]) (ws' := (uX8_gets cyI cyJ cyS a0 c_latest c_typed c_tenants c_room c_events c_gone c_audit c_sights c_drawn c_floor c_left c_settled c_many)) (T := TX8) (N := 29) (ci := 8) K (ctX8_wanted l D cyI cyJ cyS a0 i3 c_latest c_typed c_tenants c_room c_events c_gone c_sights c_drawn c_audit c_left r_3 hc) (gdV mcL mw_18_20 mw_18_21 mw_18_22 mw_1_5 mw_18_23) rfl ⟨rfl, rfl⟩ hyX8_wanted ⟨Nat.le_of_ble_eq_true rfl, Nat.le_of_ble_eq_true rfl, Nat.le_of_ble_eq_true rfl, Nat.le_of_ble_eq_true rfl⟩ [0, 2] (by decide) rfl [some 0, none, some 1, none, none] (by decide) rfl rfl 0 rfl rfl rfl rfl (Nat.le_of_ble_eq_true rfl) dX8_gets_126 rfl rfl ?_
        refine j_istore (lv' := [(4, .int r_3), (1, .int i1_2), (0, .ref (a0 0)), (2, .int i2), (3, .int i3)]) K (by decide) rfl dX8_gets_129 rfl ?_
        refine j_sub [2, 1, 3, 4, 0] (lv' := [(0, .ref (a0 0)), (1, .int i1_2), (2, .int i2), (3, .int i3), (4, .int r_3)]) rfl ?_
        exact wX8_gets_131 K a0 c_latest c_typed c_events c_gone c_sights c_drawn c_tenants c_room c_audit c_left c_settled o_floor o_many q_25 hq_25 jF c_floor c_many i1_2 i2 i3 r_3 h
    · refine j_aload_n K 0 rfl dX8_gets_47 rfl ?_
      refine j_getf (C := RX8) (T := TX8) (N := 29) (ci := 8) K icX8 0 16 (List.mem_cons_of_mem _ mw_5_18) rfl rfl rfl (by decide) rfl dX8_gets_48 rfl ?_
      refine j_iload K 4 rfl dX8_gets_51 rfl ?_
      refine j_iald K 3 0 rfl rfl dX8_gets_53 rfl h (fun v_9 h => ?_)
      refine j_iconst (v := (-1 : Int32)) K (by decide) dX8_gets_54 rfl ?_
      refine j_icmp_ne (tgt := 71) K dX8_gets_55 (by decide) rfl h (fun h => ?_) (fun h => ?_)
      · refine j_sub [0, 1, 2, 3, 4] (lv' := [(0, .ref (a0 0)), (1, .int i1), (2, .int i2), (3, .int i3), (4, .int i4)]) rfl ?_
        exact wX8_gets_71 K a0 c_latest c_typed c_events c_gone c_sights c_drawn c_tenants c_room c_audit c_left c_settled o_floor o_many q_25 (fX8_gets_38 c_tenants c_room c_audit c_left c_settled q_25 n) hq_25 (fun z0 z1 z2 z3 z4 z5 hq => ih z0 z1 z2 z3 z4 z5 hq) c_floor c_many i1 i2 i3 i4 h
      · refine j_iload_n K 1 rfl dX8_gets_58 rfl ?_
        refine j_iload K 4 rfl dX8_gets_59 rfl ?_
        obtain ⟨r_13, hc, h⟩ := bd1_some h
        refine j_callS (rest := []) (st1 := [.int r_13]) (ws' := (uX8_gets cyI cyJ cyS a0 c_latest c_typed c_tenants c_room c_events c_gone c_audit c_sights c_drawn c_floor c_left c_settled c_many)) K (ctX8_isIn l D cyI cyJ cyS i1 i4 r_13 hc) (gdS mcL mw_18_6 mw_18_7 mw_1_5 mw_18_8) rfl ⟨rfl, rfl⟩ hzX8_isIn ⟨Nat.le_of_ble_eq_true rfl, Nat.le_of_ble_eq_true rfl, Nat.le_of_ble_eq_true rfl, Nat.le_of_ble_eq_true rfl⟩ [] (by decide) rfl [none, none, none, none, none] (by decide) rfl rfl rfl rfl (Nat.le_of_ble_eq_true rfl) dX8_gets_61 rfl rfl ?_
        refine j_if_ne (tgt := 71) K dX8_gets_64 (by decide) rfl h (fun h => ?_) (fun h => ?_)
        · refine j_sub [0, 1, 2, 3, 4] (lv' := [(0, .ref (a0 0)), (1, .int i1), (2, .int i2), (3, .int i3), (4, .int i4)]) rfl ?_
          exact wX8_gets_71 K a0 c_latest c_typed c_events c_gone c_sights c_drawn c_tenants c_room c_audit c_left c_settled o_floor o_many q_25 (fX8_gets_38 c_tenants c_room c_audit c_left c_settled q_25 n) hq_25 (fun z0 z1 z2 z3 z4 z5 hq => ih z0 z1 z2 z3 z4 z5 hq) c_floor c_many i1 i2 i3 i4 h
        · refine j_iconst (v := (1 : Int32)) K (by decide) dX8_gets_67 rfl ?_
          refine j_goto (pc' := 72) K dX8_gets_68 (by decide) ?_
          refine j_sub [0, 1, 2, 3, 4] (lv' := [(0, .ref (a0 0)), (1, .int i1), (2, .int i2), (3, .int i3), (4, .int i4)]) rfl ?_
          exact wX8_gets_72 K a0 c_latest c_typed c_events c_gone c_sights c_drawn c_tenants c_room c_audit c_left c_settled o_floor o_many q_25 (fX8_gets_38 c_tenants c_room c_audit c_left c_settled q_25 n) hq_25 (fun z0 z1 z2 z3 z4 z5 hq => ih z0 z1 z2 z3 z4 z5 hq) c_floor c_many i1 i2 i3 i4 (1 : Int32) h
set_option maxRecDepth 100000 in
set_option maxHeartbeats 4000000 in
theorem wX8_gets_25 (K : jK p s m args meth c A D vwCl (tyz cyI cyJ cyS) cX8_gets 6 RX8 wdX8_gets none) (a0 : Nat → Nat) (c_latest : Int32) (c_typed : Int32) (c_events : Int32) (c_gone : Int32) (c_sights : Int32) (c_drawn : Int32) (c_tenants : Int32) (c_room : Int32) (c_audit : Int32) (c_left : Nat → Int32) (c_settled : Nat → Int32) (o_floor : Nat → Int32) (o_many : Nat → Int32)   : ∀ (n : Nat) (c_floor : Nat → Int32) (c_many : Nat → Int32) (i1 : Int32) (i2 : Int32), fX8_gets_25 c_tenants c_room c_audit c_left c_settled  n c_floor c_many i1 i2 = some (o_floor, o_many) → jw p l e rmX8_gets s m args below meth c (jQ below args s A D vwCl (tyz cyI cyJ cyS) 0 0 none (uX8_gets cyI cyJ cyS a0 c_latest c_typed c_tenants c_room c_events c_gone c_audit c_sights c_drawn o_floor c_left c_settled o_many)) A D vwCl 6 0 0 25 [(0, .ref (a0 0)), (1, .int i1), (2, .int i2)] [] (uX8_gets cyI cyJ cyS a0 c_latest c_typed c_tenants c_room c_events c_gone c_audit c_sights c_drawn c_floor c_left c_settled c_many) := by
  intro n
  induction n with
  | zero => intro c_floor c_many i1 i2 h; cases h
  | succ n ih =>
    intro c_floor c_many i1 i2 h
    have h : bX8_gets_25 c_tenants c_room c_audit c_left c_settled  (fX8_gets_25 c_tenants c_room c_audit c_left c_settled  n) c_floor c_many i1 i2 = some (o_floor, o_many) := h
    unfold bX8_gets_25 at h
    refine j_iload_n K 2 rfl dX8_gets_25 rfl ?_
    refine j_aload_n K 0 rfl dX8_gets_26 rfl ?_
    refine j_getf (C := RX8) (T := TX8) (N := 29) (ci := 8) K icX8 0 7 (List.mem_cons_of_mem _ mw_9_6) rfl rfl rfl (by decide) rfl dX8_gets_27 rfl ?_
    refine j_icmp_ge (tgt := 181) K dX8_gets_30 (by decide) rfl h (fun h => ?_) (fun h => ?_)
    · obtain ⟨e1, g1⟩ := Prod.mk.inj (Option.some.inj h)
      subst e1
      subst g1
      exact j_vret K dX8_gets_181
    · refine j_iconst (v := (-1 : Int32)) K (by decide) dX8_gets_33 rfl ?_
      refine j_istore_n (lv' := [(3, .int (-1 : Int32)), (0, .ref (a0 0)), (1, .int i1), (2, .int i2)]) K (by decide) rfl dX8_gets_34 rfl ?_
      refine j_iconst (v := (0 : Int32)) K (by decide) dX8_gets_35 rfl ?_
      refine j_istore (lv' := [(4, .int (0 : Int32)), (3, .int (-1 : Int32)), (0, .ref (a0 0)), (1, .int i1), (2, .int i2)]) K (by decide) rfl dX8_gets_36 rfl ?_
      refine j_sub [2, 3, 4, 1, 0] (lv' := [(0, .ref (a0 0)), (1, .int i1), (2, .int i2), (3, .int (-1 : Int32)), (4, .int (0 : Int32))]) rfl ?_
      exact wX8_gets_38 K a0 c_latest c_typed c_events c_gone c_sights c_drawn c_tenants c_room c_audit c_left c_settled o_floor o_many (fX8_gets_25 c_tenants c_room c_audit c_left c_settled n) (fun z0 z1 z2 z3 hq => ih z0 z1 z2 z3 hq) jF c_floor c_many i1 i2 (-1 : Int32) (0 : Int32) h
set_option maxRecDepth 100000 in
set_option maxHeartbeats 4000000 in
theorem wX8_gets_2 (K : jK p s m args meth c A D vwCl (tyz cyI cyJ cyS) cX8_gets 6 RX8 wdX8_gets none) (a0 : Nat → Nat) (c_latest : Int32) (c_typed : Int32) (c_events : Int32) (c_gone : Int32) (c_sights : Int32) (c_drawn : Int32) (c_tenants : Int32) (c_room : Int32) (c_audit : Int32) (c_left : Nat → Int32) (c_settled : Nat → Int32) (o_floor : Nat → Int32) (o_many : Nat → Int32)   : ∀ (n : Nat) (c_floor : Nat → Int32) (c_many : Nat → Int32) (i1 : Int32), fX8_gets_2 c_tenants c_room c_audit c_left c_settled  n c_floor c_many i1 = some (o_floor, o_many) → jw p l e rmX8_gets s m args below meth c (jQ below args s A D vwCl (tyz cyI cyJ cyS) 0 0 none (uX8_gets cyI cyJ cyS a0 c_latest c_typed c_tenants c_room c_events c_gone c_audit c_sights c_drawn o_floor c_left c_settled o_many)) A D vwCl 6 0 0 2 [(0, .ref (a0 0)), (1, .int i1)] [] (uX8_gets cyI cyJ cyS a0 c_latest c_typed c_tenants c_room c_events c_gone c_audit c_sights c_drawn c_floor c_left c_settled c_many) := by
  intro n
  induction n with
  | zero => intro c_floor c_many i1 h; cases h
  | succ n ih =>
    intro c_floor c_many i1 h
    have h : bX8_gets_2 c_tenants c_room c_audit c_left c_settled  (fX8_gets_2 c_tenants c_room c_audit c_left c_settled  n) c_floor c_many i1 = some (o_floor, o_many) := h
    unfold bX8_gets_2 at h
    refine j_iload_n K 1 rfl dX8_gets_2 rfl ?_
    refine j_bipush (v := (13 : Int32)) K (by decide) dX8_gets_3 rfl ?_
    refine j_icmp_ge (tgt := 21) K dX8_gets_5 (by decide) rfl h (fun h => ?_) (fun h => ?_)
    · refine j_iconst (v := (0 : Int32)) K (by decide) dX8_gets_21 rfl ?_
      refine j_istore_n (lv' := [(1, .int (0 : Int32)), (0, .ref (a0 0))]) K (by decide) rfl dX8_gets_22 rfl ?_
      refine j_iconst (v := (0 : Int32)) K (by decide) dX8_gets_23 rfl ?_
      refine j_istore_n (lv' := [(2, .int (0 : Int32)), (1, .int (0 : Int32)), (0, .ref (a0 0))]) K (by decide) rfl dX8_gets_24 rfl ?_
      refine j_sub [2, 1, 0] (lv' := [(0, .ref (a0 0)), (1, .int (0 : Int32)), (2, .int (0 : Int32))]) rfl ?_
      exact wX8_gets_25 K a0 c_latest c_typed c_events c_gone c_sights c_drawn c_tenants c_room c_audit c_left c_settled o_floor o_many jF c_floor c_many (0 : Int32) (0 : Int32) h
    · refine j_aload_n K 0 rfl dX8_gets_8 rfl ?_
      refine j_getf (C := RX8) (T := TX8) (N := 29) (ci := 8) K icX8 0 20 (List.mem_cons_of_mem _ mw_5_22) rfl rfl rfl (by decide) rfl dX8_gets_9 rfl ?_
      refine j_iload_n K 1 rfl dX8_gets_12 rfl ?_
      refine j_iconst (v := (0 : Int32)) K (by decide) dX8_gets_13 rfl ?_
      refine j_iast K 4 0 (fun z => (uX8_gets cyI cyJ cyS a0 c_latest c_typed c_tenants c_room c_events c_gone c_audit c_sights c_drawn c_floor c_left c_settled z)) rfl rfl (fun _ => rfl) dX8_gets_14 rfl h (fun c_many_14 h => ?_)
      refine j_iincN (lf := fun z => [(1, .int z), (0, .ref (a0 0))]) K (v := i1 + (1 : Int32)) (k := 1) rfl rfl (by decide) (fun _ => rfl) dX8_gets_15 rfl h (fun i1_15 h => ?_)
      refine j_goto (pc' := 2) K dX8_gets_18 (by decide) ?_
      refine j_sub [1, 0] (lv' := [(0, .ref (a0 0)), (1, .int i1_15)]) rfl ?_
      exact ih c_floor c_many_14 i1_15 h
set_option maxRecDepth 100000 in
set_option maxHeartbeats 4000000 in
theorem ctX8_gets (l : Launch) (D : va_G) (cyI cyJ cyS : ClassId) (a0 : Nat → Nat) (c_latest : Int32) (c_typed : Int32) (c_events : Int32) (c_gone : Int32) (c_sights : Int32) (c_drawn : Int32) (c_tenants : Int32) (c_room : Int32) (c_audit : Int32) (c_left : Nat → Int32) (c_settled : Nat → Int32) (c_floor : Nat → Int32) (c_many : Nat → Int32) (o_floor : Nat → Int32) (o_many : Nat → Int32) (h : fX8_gets c_tenants c_room c_audit c_left c_settled c_floor c_many = some (o_floor, o_many)) : jC l yX8_gets wdX8_gets rmX8_gets D vwCl (tyz cyI cyJ cyS) [.ref (a0 0)] (uX8_gets cyI cyJ cyS a0 c_latest c_typed c_tenants c_room c_events c_gone c_audit c_sights c_drawn c_floor c_left c_settled c_many) none (uX8_gets cyI cyJ cyS a0 c_latest c_typed c_tenants c_room c_events c_gone c_audit c_sights c_drawn o_floor c_left c_settled o_many) := by
  refine jC_of (cc := cX8_gets) (nL := 6) (ret := none) (own := RX8) (lv := [(0, .ref (a0 0))]) (by decide) rfl rfl (Nat.le_of_ble_eq_true rfl) rfl ?_
  intro p e s m args below meth c A K
  unfold fX8_gets at h
  refine j_iconst (v := (0 : Int32)) K (by decide) dX8_gets_0 rfl ?_
  refine j_istore_n (lv' := [(1, .int (0 : Int32)), (0, .ref (a0 0))]) K (by decide) rfl dX8_gets_1 rfl ?_
  refine j_sub [1, 0] (lv' := [(0, .ref (a0 0)), (1, .int (0 : Int32))]) rfl ?_
  exact wX8_gets_2 K a0 c_latest c_typed c_events c_gone c_sights c_drawn c_tenants c_room c_audit c_left c_settled o_floor o_many jF c_floor c_many (0 : Int32) h
end GEN
