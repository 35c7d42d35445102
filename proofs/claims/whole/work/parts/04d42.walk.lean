section GEN
variable {p : Program} {l : Launch} {e : Env} {s : State} {m : MethodId} {args : Array Value} {below : List Frame} {meth : Method} {c : Code} {A : Nat → Prop} {D : va_G} {cyI cyJ cyS : ClassId}
abbrev uX8_copy (cyI cyJ cyS : ClassId) (a0 : Nat → Nat) (c_latest : Int32) (c_typed : Int32) (c_tenants : Int32) (c_room : Int32) (c_events : Int32) (c_gone : Int32) (c_audit : Int32) (c_sights : Int32) (c_drawn : Int32) (c_forms : Nat → Int32) (c_sizes : Nat → Int32) (c_items : Nat → Int32) (c_moved : Nat → Int32) : va_W := [((a0 0), .inr (8, [.ref (a0 1), .ref (a0 2), .ref (a0 3), .ref (a0 4), .int c_latest, .ref (a0 5), .int c_typed, .int c_tenants, .ref (a0 6), .int c_room, .int c_events, .ref (a0 7), .int c_gone, .ref (a0 8), .ref (a0 9), .ref (a0 10), .ref (a0 11), .ref (a0 12), .ref (a0 13), .ref (a0 14), .ref (a0 15), .ref (a0 16), .ref (a0 17), .ref (a0 18), .int c_audit, .int c_sights, .ref (a0 19), .ref (a0 20), .int c_drawn])), ((a0 1), .inl (cyI, 4, .inl c_forms)), ((a0 2), .inl (cyI, 4, .inl c_sizes)), ((a0 3), .inl (cyI, 240, .inl c_items)), ((a0 4), .inl (cyI, 60, .inl c_moved))]
abbrev rmX8_copy : Room := { frames := 2, cells := 0, slots := 0, locals := 45 }
abbrev wdX8_copy : List Cond := .code yX8_copy cX8_copy 7 (some .int) :: wsL_law
theorem hyX8_copy : yX8_copy.cls = RX8 ∧ yX8_copy.cls ≠ "java/lang/invoke/MethodHandle" ∧ yX8_copy.cls ≠ "java/lang/invoke/VarHandle" ∧ (parseMethodDescriptor yX8_copy.desc).map (fun d => d.parameters.length) = some 5 := by decide +kernel
set_option maxRecDepth 100000 in
set_option maxHeartbeats 4000000 in
theorem wX8_copy_35 (K : jK p s m args meth c A D vwCl (tyz cyI cyJ cyS) cX8_copy 7 RX8 wdX8_copy (some .int)) (a0 : Nat → Nat) (c_typed : Int32) (c_tenants : Int32) (c_room : Int32) (c_events : Int32) (c_gone : Int32) (c_audit : Int32) (c_sights : Int32) (c_drawn : Int32) (i1 : Int32) (i2 : Int32) (i3 : Int32) (i4 : Int32) (i5 : Int32) (c_forms : Nat → Int32) (c_sizes : Nat → Int32) (o_r : Int32) (o_latest : Int32) (o_items : Nat → Int32) (o_moved : Nat → Int32)   : ∀ (c_latest : Int32) (c_items : Nat → Int32) (c_moved : Nat → Int32), fX8_copy_35 i1 i2 i3 i4 i5 c_forms c_sizes  c_latest c_items c_moved = some (o_r, o_latest, o_items, o_moved) → jw p l e rmX8_copy s m args below meth c (jQ below args s A D vwCl (tyz cyI cyJ cyS) 0 0 (some (.int o_r)) (uX8_copy cyI cyJ cyS a0 o_latest c_typed c_tenants c_room c_events c_gone c_audit c_sights c_drawn c_forms c_sizes o_items o_moved)) A D vwCl 7 0 0 35 [(0, .ref (a0 0))] [] (uX8_copy cyI cyJ cyS a0 c_latest c_typed c_tenants c_room c_events c_gone c_audit c_sights c_drawn c_forms c_sizes c_items c_moved) := by
  intro c_latest c_items c_moved h
  unfold fX8_copy_35 at h
  refine j_aload_n K 0 rfl dX8_copy_35 rfl ?_
  refine j_iconst (v := (1 : Int32)) K (by decide) dX8_copy_36 rfl ?_
  obtain ⟨r_4, c_latest_5, hc, h⟩ := bd2_some h
  refine j_callV (rest := []) (st1 := [.int r_4]) (ws' := (uX8_copy cyI cyJ cyS a0 c_latest_5 c_typed c_tenants c_room c_events c_gone c_audit c_sights c_drawn c_forms c_sizes c_items c_moved)) (T := TX8) (N := 29) (ci := 8) K (ctX8_finds l D cyI cyJ cyS a0 (1 : Int32) c_typed c_tenants c_room c_events c_gone c_audit c_sights c_drawn c_latest r_4 c_latest_5 hc) (gdV mcL mw_12_22 mw_12_23 mw_13_0 mw_1_5 mw_13_1) rfl ⟨rfl, rfl⟩ hyX8_finds ⟨Nat.le_of_ble_eq_true rfl, Nat.le_of_ble_eq_true rfl, Nat.le_of_ble_eq_true rfl, Nat.le_of_ble_eq_true rfl⟩ [0] (by decide) rfl [some 0, none, none, none, none] (by decide) rfl rfl 0 rfl rfl rfl rfl (Nat.le_of_ble_eq_true rfl) dX8_copy_37 rfl rfl ?_
  obtain ⟨e1, g1⟩ := Prod.mk.inj (Option.some.inj h)
  subst e1
  obtain ⟨e2, g2⟩ := Prod.mk.inj g1
  subst e2
  obtain ⟨e3, g3⟩ := Prod.mk.inj g2
  subst e3
  subst g3
  exact j_iret K dX8_copy_40
set_option maxRecDepth 100000 in
set_option maxHeartbeats 4000000 in
theorem wX8_copy_111 (K : jK p s m args meth c A D vwCl (tyz cyI cyJ cyS) cX8_copy 7 RX8 wdX8_copy (some .int)) (a0 : Nat → Nat) (c_typed : Int32) (c_tenants : Int32) (c_room : Int32) (c_events : Int32) (c_gone : Int32) (c_audit : Int32) (c_sights : Int32) (c_drawn : Int32) (i1 : Int32) (i2 : Int32) (i3 : Int32) (i4 : Int32) (i5 : Int32) (c_forms : Nat → Int32) (c_sizes : Nat → Int32) (o_r : Int32) (o_latest : Int32) (o_items : Nat → Int32) (o_moved : Nat → Int32)   : ∀ (c_latest : Int32) (c_items : Nat → Int32) (c_moved : Nat → Int32), fX8_copy_111 i1 i2 i3 i4 i5 c_forms c_sizes  c_latest c_items c_moved = some (o_r, o_latest, o_items, o_moved) → jw p l e rmX8_copy s m args below meth c (jQ below args s A D vwCl (tyz cyI cyJ cyS) 0 0 (some (.int o_r)) (uX8_copy cyI cyJ cyS a0 o_latest c_typed c_tenants c_room c_events c_gone c_audit c_sights c_drawn c_forms c_sizes o_items o_moved)) A D vwCl 7 0 0 111 [(0, .ref (a0 0))] [] (uX8_copy cyI cyJ cyS a0 c_latest c_typed c_tenants c_room c_events c_gone c_audit c_sights c_drawn c_forms c_sizes c_items c_moved) := by
  intro c_latest c_items c_moved h
  unfold fX8_copy_111 at h
  refine j_aload_n K 0 rfl dX8_copy_111 rfl ?_
  refine j_iconst (v := (2 : Int32)) K (by decide) dX8_copy_112 rfl ?_
  obtain ⟨r_9, c_latest_10, hc, h⟩ := bd2_some h
  refine j_callV (rest := []) (st1 := [.int r_9]) (ws' := (uX8_copy cyI cyJ cyS a0 c_latest_10 c_typed c_tenants c_room c_events c_gone c_audit c_sights c_drawn c_forms c_sizes c_items c_moved)) (T := TX8) (N := 29) (ci := 8) K (ctX8_finds l D cyI cyJ cyS a0 (2 : Int32) c_typed c_tenants c_room c_events c_gone c_audit c_sights c_drawn c_latest r_9 c_latest_10 hc) (gdV mcL mw_12_22 mw_12_23 mw_13_0 mw_1_5 mw_13_1) rfl ⟨rfl, rfl⟩ hyX8_finds ⟨Nat.le_of_ble_eq_true rfl, Nat.le_of_ble_eq_true rfl, Nat.le_of_ble_eq_true rfl, Nat.le_of_ble_eq_true rfl⟩ [0] (by decide) rfl [some 0, none, none, none, none] (by decide) rfl rfl 0 rfl rfl rfl rfl (Nat.le_of_ble_eq_true rfl) dX8_copy_113 rfl rfl ?_
  obtain ⟨e1, g1⟩ := Prod.mk.inj (Option.some.inj h)
  subst e1
  obtain ⟨e2, g2⟩ := Prod.mk.inj g1
  subst e2
  obtain ⟨e3, g3⟩ := Prod.mk.inj g2
  subst e3
  subst g3
  exact j_iret K dX8_copy_116
set_option maxRecDepth 100000 in
set_option maxHeartbeats 4000000 in
theorem wX8_copy_157 (K : jK p s m args meth c A D vwCl (tyz cyI cyJ cyS) cX8_copy 7 RX8 wdX8_copy (some .int)) (a0 : Nat → Nat) (c_typed : Int32) (c_tenants : Int32) (c_room : Int32) (c_events : Int32) (c_gone : Int32) (c_audit : Int32) (c_sights : Int32) (c_drawn : Int32) (i1 : Int32) (i2 : Int32) (i3 : Int32) (i4 : Int32) (i5 : Int32) (c_forms : Nat → Int32) (c_sizes : Nat → Int32) (o_r : Int32) (o_latest : Int32) (o_items : Nat → Int32) (o_moved : Nat → Int32)   : ∀ (n : Nat) (c_latest : Int32) (c_items : Nat → Int32) (c_moved : Nat → Int32) (i6 : Int32), fX8_copy_157 i1 i2 i3 i4 i5 c_forms c_sizes  n c_latest c_items c_moved i6 = some (o_r, o_latest, o_items, o_moved) → jw p l e rmX8_copy s m args below meth c (jQ below args s A D vwCl (tyz cyI cyJ cyS) 0 0 (some (.int o_r)) (uX8_copy cyI cyJ cyS a0 o_latest c_typed c_tenants c_room c_events c_gone c_audit c_sights c_drawn c_forms c_sizes o_items o_moved)) A D vwCl 7 0 0 157 [(0, .ref (a0 0)), (3, .int i3), (4, .int i4), (5, .int i5), (6, .int i6)] [] (uX8_copy cyI cyJ cyS a0 c_latest c_typed c_tenants c_room c_events c_gone c_audit c_sights c_drawn c_forms c_sizes c_items c_moved) := by
  intro n
  induction n with
  | zero => intro c_latest c_items c_moved i6 h; cases h
  | succ n ih =>
    intro c_latest c_items c_moved i6 h
    have h : bX8_copy_157 i1 i2 i3 i4 i5 c_forms c_sizes  (fX8_copy_157 i1 i2 i3 i4 i5 c_forms c_sizes  n) c_latest c_items c_moved i6 = some (o_r, o_latest, o_items, o_moved) := h
    unfold bX8_copy_157 at h
    refine j_iload K 4 rfl dX8_copy_157 rfl ?_
    refine j_iload K 3 rfl dX8_copy_159 rfl ?_
    refine j_icmp_ge (tgt := 192) K dX8_copy_161 (by decide) rfl h (fun h => ?_) (fun h => ?_)
    · refine j_iconst (v := (1 : Int32)) K (by decide) dX8_copy_192 rfl ?_
      obtain ⟨e1, g1⟩ := Prod.mk.inj (Option.some.inj h)
      subst e1
      obtain ⟨e2, g2⟩ := Prod.mk.inj g1
      subst e2
      obtain ⟨e3, g3⟩ := Prod.mk.inj g2
      subst e3
      subst g3
      exact j_iret K dX8_copy_193
    · refine j_aload_n K 0 rfl dX8_copy_164 rfl ?_
      refine j_getf (C := RX8) (T := TX8) (N := 29) (ci := 8) K icX8 0 2 (List.mem_cons_of_mem _ mw_5_10) rfl rfl rfl (by decide) rfl dX8_copy_165 rfl ?_
      refine j_bipush (v := (60 : Int32)) K (by decide) dX8_copy_168 rfl ?_
      refine j_iload_n K 1 rfl dX8_copy_170 rfl ?_
      refine j_imul K dX8_copy_171 rfl ?_
      refine j_iload K 2 rfl dX8_copy_172 rfl ?_
      refine j_iadd K dX8_copy_174 rfl ?_
      refine j_iload K 4 rfl dX8_copy_175 rfl ?_
      refine j_iadd K dX8_copy_177 rfl ?_
      refine j_aload_n K 0 rfl dX8_copy_178 rfl ?_
      refine j_getf (C := RX8) (T := TX8) (N := 29) (ci := 8) K icX8 0 3 (List.mem_cons_of_mem _ mw_5_11) rfl rfl rfl (by decide) rfl dX8_copy_179 rfl ?_
      refine j_iload K 4 rfl dX8_copy_182 rfl ?_
      refine j_iald K 4 0 rfl rfl dX8_copy_184 rfl h (fun v_13 h => ?_)
      refine j_iast K 3 0 (fun z => (uX8_copy cyI cyJ cyS a0 c_latest c_typed c_tenants c_room c_events c_gone c_audit c_sights c_drawn c_forms c_sizes z c_moved)) rfl rfl (fun _ => rfl) dX8_copy_185 rfl h (fun c_items_14 h => ?_)
      refine j_iincN (lf := fun z => [(6, .int z), (0, .ref (a0 0)), (3, .int i3), (4, .int i4), (5, .int i5)]) K (v := i6 + (1 : Int32)) (k := 4) rfl rfl (by decide) (fun _ => rfl) dX8_copy_186 rfl h (fun i6_15 h => ?_)
      refine j_goto (pc' := 157) K dX8_copy_189 (by decide) ?_
      refine j_sub [1, 2, 3, 4, 0] (lv' := [(0, .ref (a0 0)), (3, .int i3), (4, .int i4), (5, .int i5), (6, .int i6_15)]) rfl ?_
      exact ih c_latest c_items_14 c_moved i6_15 h
set_option maxRecDepth 100000 in
set_option maxHeartbeats 4000000 in
theorem wX8_copy_120 (K : jK p s m args meth c A D vwCl (tyz cyI cyJ cyS) cX8_copy 7 RX8 wdX8_copy (some .int)) (a0 : Nat → Nat) (c_typed : Int32) (c_tenants : Int32) (c_room : Int32) (c_events : Int32) (c_gone : Int32) (c_audit : Int32) (c_sights : Int32) (c_drawn : Int32) (i1 : Int32) (i2 : Int32) (i3 : Int32) (i4 : Int32) (i5 : Int32) (c_forms : Nat → Int32) (c_sizes : Nat → Int32) (o_r : Int32) (o_latest : Int32) (o_items : Nat → Int32) (o_moved : Nat → Int32)   : ∀ (n : Nat) (c_latest : Int32) (c_items : Nat → Int32) (c_moved : Nat → Int32) (i6 : Int32), fX8_copy_120 i1 i2 i3 i4 i5 c_forms c_sizes  n c_latest c_items c_moved i6 = some (o_r, o_latest, o_items, o_moved) → jw p l e rmX8_copy s m args below meth c (jQ below args s A D vwCl (tyz cyI cyJ cyS) 0 0 (some (.int o_r)) (uX8_copy cyI cyJ cyS a0 o_latest c_typed c_tenants c_room c_events c_gone c_audit c_sights c_drawn c_forms c_sizes o_items o_moved)) A D vwCl 7 0 0 120 [(0, .ref (a0 0)), (1, .int i1), (2, .int i2), (3, .int i3), (4, .int i4), (5, .int i5), (6, .int i6)] [] (uX8_copy cyI cyJ cyS a0 c_latest c_typed c_tenants c_room c_events c_gone c_audit c_sights c_drawn c_forms c_sizes c_items c_moved) := by
  intro n
  induction n with
  | zero => intro c_latest c_items c_moved i6 h; cases h
  | succ n ih =>
    intro c_latest c_items c_moved i6 h
    have h : bX8_copy_120 i1 i2 i3 i4 i5 c_forms c_sizes  (fX8_copy_120 i1 i2 i3 i4 i5 c_forms c_sizes  n) c_latest c_items c_moved i6 = some (o_r, o_latest, o_items, o_moved) := h
    unfold bX8_copy_120 at h
    refine j_iload K 6 rfl dX8_copy_120 rfl ?_
    refine j_iload K 5 rfl dX8_copy_122 rfl ?_
    refine j_icmp_ge (tgt := 154) K dX8_copy_124 (by decide) rfl h (fun h => ?_) (fun h => ?_)
    · refine j_iconst (v := (0 : Int32)) K (by decide) dX8_copy_154 rfl ?_
      refine j_istore (lv' := [(6, .int (0 : Int32)), (0, .ref (a0 0)), (1, .int i1), (2, .int i2), (3, .int i3), (4, .int i4), (5, .int i5)]) K (by decide) rfl dX8_copy_155 rfl ?_
      refine j_sub [1, 4, 5, 6, 0] (lv' := [(0, .ref (a0 0)), (3, .int i3), (4, .int i4), (5, .int i5), (6, .int (0 : Int32))]) rfl ?_
      exact wX8_copy_157 K a0 c_typed c_tenants c_room c_events c_gone c_audit c_sights c_drawn i1 i2 i3 i4 i5 c_forms c_sizes o_r o_latest o_items o_moved jF c_latest c_items c_moved (0 : Int32) h
    · refine j_aload_n K 0 rfl dX8_copy_127 rfl ?_
      refine j_getf (C := RX8) (T := TX8) (N := 29) (ci := 8) K icX8 0 3 (List.mem_cons_of_mem _ mw_5_11) rfl rfl rfl (by decide) rfl dX8_copy_128 rfl ?_
      refine j_iload K 6 rfl dX8_copy_131 rfl ?_
      refine j_aload_n K 0 rfl dX8_copy_133 rfl ?_
      refine j_getf (C := RX8) (T := TX8) (N := 29) (ci := 8) K icX8 0 2 (List.mem_cons_of_mem _ mw_5_10) rfl rfl rfl (by decide) rfl dX8_copy_134 rfl ?_
      refine j_bipush (v := (60 : Int32)) K (by decide) dX8_copy_137 rfl ?_
      refine j_iload_n K 1 rfl dX8_copy_139 rfl ?_
      refine j_imul K dX8_copy_140 rfl ?_
      refine j_iload_n K 2 rfl dX8_copy_141 rfl ?_
      refine j_iadd K dX8_copy_142 rfl ?_
      refine j_iload K 6 rfl dX8_copy_143 rfl ?_
      refine j_iadd K dX8_copy_145 rfl ?_
      refine j_iald K 3 0 rfl rfl dX8_copy_146 rfl h (fun v_16 h => ?_)
      refine j_iast K 4 0 (fun z => (uX8_copy cyI cyJ cyS a0 c_latest c_typed c_tenants c_room c_events c_gone c_audit c_sights c_drawn c_forms c_sizes c_items z)) rfl rfl (fun _ => rfl) dX8_copy_147 rfl h (fun c_moved_17 h => ?_)
      refine j_iincN (lf := fun z => [(6, .int z), (0, .ref (a0 0)), (1, .int i1), (2, .int i2), (3, .int i3), (4, .int i4), (5, .int i5)]) K (v := i6 + (1 : Int32)) (k := 6) rfl rfl (by decide) (fun _ => rfl) dX8_copy_148 rfl h (fun i6_18 h => ?_)
      refine j_goto (pc' := 120) K dX8_copy_151 (by decide) ?_
      refine j_sub [1, 2, 3, 4, 5, 6, 0] (lv' := [(0, .ref (a0 0)), (1, .int i1), (2, .int i2), (3, .int i3), (4, .int i4), (5, .int i5), (6, .int i6_18)]) rfl ?_
      exact ih c_latest c_items c_moved_17 i6_18 h
set_option maxRecDepth 100000 in
set_option maxHeartbeats 4000000 in
theorem ctX8_copy (l : Launch) (D : va_G) (cyI cyJ cyS : ClassId) (a0 : Nat → Nat) (i1 : Int32) (i2 : Int32) (i3 : Int32) (i4 : Int32) (i5 : Int32) (c_typed : Int32) (c_tenants : Int32) (c_room : Int32) (c_events : Int32) (c_gone : Int32) (c_audit : Int32) (c_sights : Int32) (c_drawn : Int32) (c_forms : Nat → Int32) (c_sizes : Nat → Int32) (c_latest : Int32) (c_items : Nat → Int32) (c_moved : Nat → Int32) (o_r : Int32) (o_latest : Int32) (o_items : Nat → Int32) (o_moved : Nat → Int32) (h : fX8_copy i1 i2 i3 i4 i5 c_forms c_sizes c_latest c_items c_moved = some (o_r, o_latest, o_items, o_moved)) : jC l yX8_copy wdX8_copy rmX8_copy D vwCl (tyz cyI cyJ cyS) [.ref (a0 0), .int i1, .int i2, .int i3, .int i4, .int i5] (uX8_copy cyI cyJ cyS a0 c_latest c_typed c_tenants c_room c_events c_gone c_audit c_sights c_drawn c_forms c_sizes c_items c_moved) (some (.int o_r)) (uX8_copy cyI cyJ cyS a0 o_latest c_typed c_tenants c_room c_events c_gone c_audit c_sights c_drawn c_forms c_sizes o_items o_moved) := by
  refine jC_of (cc := cX8_copy) (nL := 7) (ret := (some .int)) (own := RX8) (lv := [(0, .ref (a0 0)), (1, .int i1), (2, .int i2), (3, .int i3), (4, .int i4), (5, .int i5)]) (by decide) rfl rfl (Nat.le_of_ble_eq_true rfl) rfl ?_
  intro p e s m args below meth c A K
  unfold fX8_copy at h
  refine j_iload_n K 1 rfl dX8_copy_0 rfl ?_
  obtain ⟨r_1, hc, h⟩ := bd1_some h
  refine j_callS (rest := []) (st1 := [.int r_1]) (ws' := (uX8_copy cyI cyJ cyS a0 c_latest c_typed c_tenants c_room c_events c_gone c_audit c_sights c_drawn c_forms c_sizes c_items c_moved)) K (ctX8_isSheet l D cyI cyJ cyS i1 r_1 hc) (gdS mcL mw_12_18 mw_12_19 mw_1_5 mw_12_20) rfl ⟨rfl, rfl⟩ hzX8_isSheet ⟨Nat.le_of_ble_eq_true rfl, Nat.le_of_ble_eq_true rfl, Nat.le_of_ble_eq_true rfl, Nat.le_of_ble_eq_true rfl⟩ [] (by decide) rfl [none, none, none, none, none] (by decide) rfl rfl rfl rfl (Nat.le_of_ble_eq_true rfl) dX8_copy_1 rfl rfl ?_
  refine j_if_eq (tgt := 14) K dX8_copy_4 (by decide) rfl h (fun h => ?_) (fun h => ?_)
  · refine j_bipush (v := (-2 : Int32)) K (by decide) dX8_copy_14 rfl ?_
    obtain ⟨e1, g1⟩ := Prod.mk.inj (Option.some.inj h)
    subst e1
    obtain ⟨e2, g2⟩ := Prod.mk.inj g1
    subst e2
    obtain ⟨e3, g3⟩ := Prod.mk.inj g2
    subst e3
    subst g3
    exact j_iret K dX8_copy_16
  · refine j_iload_n K 3 rfl dX8_copy_7 rfl ?_
    obtain ⟨r_2, hc, h⟩ := bd1_some h
    refine j_callS (rest := []) (st1 := [.int r_2]) (ws' := (uX8_copy cyI cyJ cyS a0 c_latest c_typed c_tenants c_room c_events c_gone c_audit c_sights c_drawn c_forms c_sizes c_items c_moved)) K (ctX8_isSheet l D cyI cyJ cyS i3 r_2 hc) (gdS mcL mw_12_18 mw_12_19 mw_1_5 mw_12_20) rfl ⟨rfl, rfl⟩ hzX8_isSheet ⟨Nat.le_of_ble_eq_true rfl, Nat.le_of_ble_eq_true rfl, Nat.le_of_ble_eq_true rfl, Nat.le_of_ble_eq_true rfl⟩ [] (by decide) rfl [none, none, none, none, none] (by decide) rfl rfl rfl rfl (Nat.le_of_ble_eq_true rfl) dX8_copy_8 rfl rfl ?_
    refine j_if_ne (tgt := 17) K dX8_copy_11 (by decide) rfl h (fun h => ?_) (fun h => ?_)
    · refine j_aload_n K 0 rfl dX8_copy_17 rfl ?_
      refine j_getf (C := RX8) (T := TX8) (N := 29) (ci := 8) K icX8 0 0 (List.mem_cons_of_mem _ mw_5_8) rfl rfl rfl (by decide) rfl dX8_copy_18 rfl ?_
      refine j_iload_n K 1 rfl dX8_copy_21 rfl ?_
      refine j_iald K 1 0 rfl rfl dX8_copy_22 rfl h (fun v_3 h => ?_)
      refine j_if_lt (tgt := 35) K dX8_copy_23 (by decide) rfl h (fun h => ?_) (fun h => ?_)
      · refine j_sub [0] (lv' := [(0, .ref (a0 0))]) rfl ?_
        exact wX8_copy_35 K a0 c_typed c_tenants c_room c_events c_gone c_audit c_sights c_drawn i1 i2 i3 i4 i5 c_forms c_sizes o_r o_latest o_items o_moved c_latest c_items c_moved h
      · refine j_aload_n K 0 rfl dX8_copy_26 rfl ?_
        refine j_getf (C := RX8) (T := TX8) (N := 29) (ci := 8) K icX8 0 0 (List.mem_cons_of_mem _ mw_5_8) rfl rfl rfl (by decide) rfl dX8_copy_27 rfl ?_
        refine j_iload_n K 3 rfl dX8_copy_30 rfl ?_
        refine j_iald K 1 0 rfl rfl dX8_copy_31 rfl h (fun v_6 h => ?_)
        refine j_if_ge (tgt := 41) K dX8_copy_32 (by decide) rfl h (fun h => ?_) (fun h => ?_)
        · refine j_aload_n K 0 rfl dX8_copy_41 rfl ?_
          refine j_getf (C := RX8) (T := TX8) (N := 29) (ci := 8) K icX8 0 0 (List.mem_cons_of_mem _ mw_5_8) rfl rfl rfl (by decide) rfl dX8_copy_42 rfl ?_
          refine j_iload_n K 1 rfl dX8_copy_45 rfl ?_
          refine j_iald K 1 0 rfl rfl dX8_copy_46 rfl h (fun v_7 h => ?_)
          refine j_aload_n K 0 rfl dX8_copy_47 rfl ?_
          refine j_getf (C := RX8) (T := TX8) (N := 29) (ci := 8) K icX8 0 0 (List.mem_cons_of_mem _ mw_5_8) rfl rfl rfl (by decide) rfl dX8_copy_48 rfl ?_
          refine j_iload_n K 3 rfl dX8_copy_51 rfl ?_
          refine j_iald K 1 0 rfl rfl dX8_copy_52 rfl h (fun v_8 h => ?_)
          refine j_icmp_eq (tgt := 62) K dX8_copy_53 (by decide) rfl h (fun h => ?_) (fun h => ?_)
          · refine j_iload_n K 2 rfl dX8_copy_62 rfl ?_
            refine j_if_lt (tgt := 111) K dX8_copy_63 (by decide) rfl h (fun h => ?_) (fun h => ?_)
            · refine j_sub [0] (lv' := [(0, .ref (a0 0))]) rfl ?_
              exact wX8_copy_111 K a0 c_typed c_tenants c_room c_events c_gone c_audit c_sights c_drawn i1 i2 i3 i4 i5 c_forms c_sizes o_r o_latest o_items o_moved c_latest c_items c_moved h
            · refine j_iload K 4 rfl dX8_copy_66 rfl ?_
              refine j_if_lt (tgt := 111) K dX8_copy_68 (by decide) rfl h (fun h => ?_) (fun h => ?_)
              · refine j_sub [0] (lv' := [(0, .ref (a0 0))]) rfl ?_
                exact wX8_copy_111 K a0 c_typed c_tenants c_room c_events c_gone c_audit c_sights c_drawn i1 i2 i3 i4 i5 c_forms c_sizes o_r o_latest o_items o_moved c_latest c_items c_moved h
              · refine j_iload K 5 rfl dX8_copy_71 rfl ?_
                refine j_if_lt (tgt := 111) K dX8_copy_73 (by decide) rfl h (fun h => ?_) (fun h => ?_)
                · refine j_sub [0] (lv' := [(0, .ref (a0 0))]) rfl ?_
                  exact wX8_copy_111 K a0 c_typed c_tenants c_room c_events c_gone c_audit c_sights c_drawn i1 i2 i3 i4 i5 c_forms c_sizes o_r o_latest o_items o_moved c_latest c_items c_moved h
                · refine j_iload_n K 2 rfl dX8_copy_76 rfl ?_
                  refine j_i2l K dX8_copy_77 rfl ?_
                  refine j_iload K 5 rfl dX8_copy_78 rfl ?_
                  refine j_i2l K dX8_copy_80 rfl ?_
                  refine j_ladd K dX8_copy_81 rfl ?_
                  refine j_aload_n K 0 rfl dX8_copy_82 rfl ?_
                  refine j_getf (C := RX8) (T := TX8) (N := 29) (ci := 8) K icX8 0 1 (List.mem_cons_of_mem _ mw_5_9) rfl rfl rfl (by decide) rfl dX8_copy_83 rfl ?_
                  refine j_iload_n K 1 rfl dX8_copy_86 rfl ?_
                  refine j_iald K 2 0 rfl rfl dX8_copy_87 rfl h (fun v_11 h => ?_)
                  refine j_i2l K dX8_copy_88 rfl ?_
                  refine j_lcmp K dX8_copy_89 rfl ?_
                  refine j_if_gt (tgt := 111) K dX8_copy_90 (by decide) rfl h (fun h => ?_) (fun h => ?_)
                  · refine j_sub [0] (lv' := [(0, .ref (a0 0))]) rfl ?_
                    exact wX8_copy_111 K a0 c_typed c_tenants c_room c_events c_gone c_audit c_sights c_drawn i1 i2 i3 i4 i5 c_forms c_sizes o_r o_latest o_items o_moved c_latest c_items c_moved h
                  · refine j_iload K 4 rfl dX8_copy_93 rfl ?_
                    refine j_i2l K dX8_copy_95 rfl ?_
                    refine j_iload K 5 rfl dX8_copy_96 rfl ?_
                    refine j_i2l K dX8_copy_98 rfl ?_
                    refine j_ladd K dX8_copy_99 rfl ?_
                    refine j_aload_n K 0 rfl dX8_copy_100 rfl ?_
                    refine j_getf (C := RX8) (T := TX8) (N := 29) (ci := 8) K icX8 0 1 (List.mem_cons_of_mem _ mw_5_9) rfl rfl rfl (by decide) rfl dX8_copy_101 rfl ?_
                    refine j_iload_n K 3 rfl dX8_copy_104 rfl ?_
                    refine j_iald K 2 0 rfl rfl dX8_copy_105 rfl h (fun v_12 h => ?_)
                    refine j_i2l K dX8_copy_106 rfl ?_
                    refine j_lcmp K dX8_copy_107 rfl ?_
                    refine j_if_le (tgt := 117) K dX8_copy_108 (by decide) rfl h (fun h => ?_) (fun h => ?_)
                    · refine j_iconst (v := (0 : Int32)) K (by decide) dX8_copy_117 rfl ?_
                      refine j_istore (lv' := [(6, .int (0 : Int32)), (0, .ref (a0 0)), (1, .int i1), (2, .int i2), (3, .int i3), (4, .int i4), (5, .int i5)]) K (by decide) rfl dX8_copy_118 rfl ?_
                      refine j_sub [1, 2, 3, 4, 5, 6, 0] (lv' := [(0, .ref (a0 0)), (1, .int i1), (2, .int i2), (3, .int i3), (4, .int i4), (5, .int i5), (6, .int (0 : Int32))]) rfl ?_
                      exact wX8_copy_120 K a0 c_typed c_tenants c_room c_events c_gone c_audit c_sights c_drawn i1 i2 i3 i4 i5 c_forms c_sizes o_r o_latest o_items o_moved jF c_latest c_items c_moved (0 : Int32) h
                    · refine j_sub [0] (lv' := [(0, .ref (a0 0))]) rfl ?_
                      exact wX8_copy_111 K a0 c_typed c_tenants c_room c_events c_gone c_audit c_sights c_drawn i1 i2 i3 i4 i5 c_forms c_sizes o_r o_latest o_items o_moved c_latest c_items c_moved h
          · refine j_aload_n K 0 rfl dX8_copy_56 rfl ?_
            refine j_iconst (v := (4 : Int32)) K (by decide) dX8_copy_57 rfl ?_
            obtain ⟨r_19, c_latest_20, hc, h⟩ := bd2_some h
            refine j_callV (rest := []) (st1 := [.int r_19]) (ws' := (uX8_copy cyI cyJ cyS a0 c_latest_20 c_typed c_tenants c_room c_events c_gone c_audit c_sights c_drawn c_forms c_sizes c_items c_moved)) (T := TX8) (N := 29) (ci := 8) K (ctX8_finds l D cyI cyJ cyS a0 (4 : Int32) c_typed c_tenants c_room c_events c_gone c_audit c_sights c_drawn c_latest r_19 c_latest_20 hc) (gdV mcL mw_12_22 mw_12_23 mw_13_0 mw_1_5 mw_13_1) rfl ⟨rfl, rfl⟩ hyX8_finds ⟨Nat.le_of_ble_eq_true rfl, Nat.le_of_ble_eq_true rfl, Nat.le_of_ble_eq_true rfl, Nat.le_of_ble_eq_true rfl⟩ [0] (by decide) rfl [some 0, none, none, none, none] (by decide) rfl rfl 0 rfl rfl rfl rfl (Nat.le_of_ble_eq_true rfl) dX8_copy_58 rfl rfl ?_
            obtain ⟨e1, g1⟩ := Prod.mk.inj (Option.some.inj h)
            subst e1
            obtain ⟨e2, g2⟩ := Prod.mk.inj g1
            subst e2
            obtain ⟨e3, g3⟩ := Prod.mk.inj g2
            subst e3
            subst g3
            exact j_iret K dX8_copy_61
        · refine j_sub [0] (lv' := [(0, .ref (a0 0))]) rfl ?_
          exact wX8_copy_35 K a0 c_typed c_tenants c_room c_events c_gone c_audit c_sights c_drawn i1 i2 i3 i4 i5 c_forms c_sizes o_r o_latest o_items o_moved c_latest c_items c_moved h
    · refine j_bipush (v := (-2 : Int32)) K (by decide) dX8_copy_14 rfl ?_
      obtain ⟨e1, g1⟩ := Prod.mk.inj (Option.some.inj h)
      subst e1
      obtain ⟨e2, g2⟩ := Prod.mk.inj g1
      subst e2
      obtain ⟨e3, g3⟩ := Prod.mk.inj g2
      subst e3
      subst g3
      exact j_iret K dX8_copy_16
end GEN
