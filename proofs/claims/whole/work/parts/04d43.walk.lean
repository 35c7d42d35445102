section GEN
variable {p : Program} {l : Launch} {e : Env} {s : State} {m : MethodId} {args : Array Value} {below : List Frame} {meth : Method} {c : Code} {A : Nat → Prop} {D : va_G} {cyI cyJ cyS : ClassId}
abbrev uX8_type (cyI cyJ cyS : ClassId) (a0 : Nat → Nat) (c_latest : Int32) (c_typed : Int32) (c_tenants : Int32) (c_room : Int32) (c_events : Int32) (c_gone : Int32) (c_audit : Int32) (c_sights : Int32) (c_drawn : Int32) (c_bytes : Nat → Int32) : va_W := [((a0 0), .inr (8, [.ref (a0 1), .ref (a0 2), .ref (a0 3), .ref (a0 4), .int c_latest, .ref (a0 5), .int c_typed, .int c_tenants, .ref (a0 6), .int c_room, .int c_events, .ref (a0 7), .int c_gone, .ref (a0 8), .ref (a0 9), .ref (a0 10), .ref (a0 11), .ref (a0 12), .ref (a0 13), .ref (a0 14), .ref (a0 15), .ref (a0 16), .ref (a0 17), .ref (a0 18), .int c_audit, .int c_sights, .ref (a0 19), .ref (a0 20), .int c_drawn])), ((a0 5), .inl (cyI, 31, .inl c_bytes))]
abbrev rmX8_type : Room := { frames := 1, cells := 0, slots := 0, locals := 25 }
abbrev wdX8_type : List Cond := .code yX8_type cX8_type 2 (some .int) :: wsL_law
theorem hyX8_type : yX8_type.cls = RX8 ∧ yX8_type.cls ≠ "java/lang/invoke/MethodHandle" ∧ yX8_type.cls ≠ "java/lang/invoke/VarHandle" ∧ (parseMethodDescriptor yX8_type.desc).map (fun d => d.parameters.length) = some 1 := by decide +kernel
set_option maxRecDepth 100000 in
set_option maxHeartbeats 4000000 in
theorem ctX8_type (l : Launch) (D : va_G) (cyI cyJ cyS : ClassId) (a0 : Nat → Nat) (i1 : Int32) (c_latest : Int32) (c_tenants : Int32) (c_room : Int32) (c_events : Int32) (c_gone : Int32) (c_audit : Int32) (c_sights : Int32) (c_drawn : Int32) (c_typed : Int32) (c_bytes : Nat → Int32) (o_r : Int32) (o_typed : Int32) (o_bytes : Nat → Int32) (h : fX8_type i1 c_typed c_bytes = some (o_r, o_typed, o_bytes)) : jC l yX8_type wdX8_type rmX8_type D vwCl (tyz cyI cyJ cyS) [.ref (a0 0), .int i1] (uX8_type cyI cyJ cyS a0 c_latest c_typed c_tenants c_room c_events c_gone c_audit c_sights c_drawn c_bytes) (some (.int o_r)) (uX8_type cyI cyJ cyS a0 c_latest o_typed c_tenants c_room c_events c_gone c_audit c_sights c_drawn o_bytes) := by
  refine jC_of (cc := cX8_type) (nL := 2) (ret := (some .int)) (own := RX8) (lv := [(0, .ref (a0 0)), (1, .int i1)]) (by decide) rfl rfl (Nat.le_of_ble_eq_true rfl) rfl ?_
  intro p e s m args below meth c A K
  unfold fX8_type at h
  refine j_iload_n K 1 rfl dX8_type_0 rfl ?_
  refine j_i2l K dX8_type_1 rfl ?_
  refine j_lconst (v := (0 : Int64)) K (by decide) dX8_type_2 rfl ?_
  refine j_ldc2 (v := (255 : Int64)) K (List.mem_cons_of_mem _ mw_7_20) dX8_type_3 rfl ?_
  obtain ⟨r_1, hc, h⟩ := bd1_some h
  refine j_callS (rest := []) (st1 := [.int r_1]) (ws' := (uX8_type cyI cyJ cyS a0 c_latest c_typed c_tenants c_room c_events c_gone c_audit c_sights c_drawn c_bytes)) K (ctX8_in l D cyI cyJ cyS (Int32.toInt64 i1) (0 : Int64) (255 : Int64) r_1 hc) (gdS mcL mw_7_22 mw_7_23 mw_1_5 mw_8_0) rfl ⟨rfl, rfl⟩ hzX8_in ⟨Nat.le_of_ble_eq_true rfl, Nat.le_of_ble_eq_true rfl, Nat.le_of_ble_eq_true rfl, Nat.le_of_ble_eq_true rfl⟩ [] (by decide) rfl [none, none] (by decide) rfl rfl rfl rfl (Nat.le_of_ble_eq_true rfl) dX8_type_6 rfl rfl ?_
  refine j_if_ne (tgt := 15) K dX8_type_9 (by decide) rfl h (fun h => ?_) (fun h => ?_)
  · refine j_aload_n K 0 rfl dX8_type_15 rfl ?_
    refine j_getf (C := RX8) (T := TX8) (N := 29) (ci := 8) K icX8 0 6 (List.mem_cons_of_mem _ mw_7_21) rfl rfl rfl (by decide) rfl dX8_type_16 rfl ?_
    refine j_bipush (v := (31 : Int32)) K (by decide) dX8_type_19 rfl ?_
    refine j_icmp_ne (tgt := 27) K dX8_type_21 (by decide) rfl h (fun h => ?_) (fun h => ?_)
    · refine j_aload_n K 0 rfl dX8_type_27 rfl ?_
      refine j_getf (C := RX8) (T := TX8) (N := 29) (ci := 8) K icX8 0 5 (List.mem_cons_of_mem _ mw_5_12) rfl rfl rfl (by decide) rfl dX8_type_28 rfl ?_
      refine j_aload_n K 0 rfl dX8_type_31 rfl ?_
      refine j_getf (C := RX8) (T := TX8) (N := 29) (ci := 8) K icX8 0 6 (List.mem_cons_of_mem _ mw_7_21) rfl rfl rfl (by decide) rfl dX8_type_32 rfl ?_
      refine j_iload_n K 1 rfl dX8_type_35 rfl ?_
      refine j_iast K 1 0 (fun z => (uX8_type cyI cyJ cyS a0 c_latest c_typed c_tenants c_room c_events c_gone c_audit c_sights c_drawn z)) rfl rfl (fun _ => rfl) dX8_type_36 rfl h (fun c_bytes_2 h => ?_)
      refine j_aload_n K 0 rfl dX8_type_37 rfl ?_
      refine j_dup K rfl dX8_type_38 rfl ?_
      refine j_getf (C := RX8) (T := TX8) (N := 29) (ci := 8) K icX8 0 6 (List.mem_cons_of_mem _ mw_7_21) rfl rfl rfl (by decide) rfl dX8_type_39 rfl ?_
      refine j_iconst (v := (1 : Int32)) K (by decide) dX8_type_42 rfl ?_
      refine j_iadd K dX8_type_43 rfl ?_
      refine j_nmI h (fun c_typed_3 h => ?_)
      refine j_putf (C := RX8) (T := TX8) (N := 29) (ci := 8) (ty := .int) (ws' := (uX8_type cyI cyJ cyS a0 c_latest c_typed_3 c_tenants c_room c_events c_gone c_audit c_sights c_drawn c_bytes_2)) K icX8 tyX8 tyX8_ok nmX8 0 6 (List.mem_cons_of_mem _ mw_7_21) rfl rfl rfl (by decide) rfl (by decide +kernel) rfl rfl (Nat.le_of_ble_eq_true rfl) rfl dX8_type_44 rfl ?_
      refine j_aload_n K 0 rfl dX8_type_47 rfl ?_
      refine j_getf (C := RX8) (T := TX8) (N := 29) (ci := 8) K icX8 0 6 (List.mem_cons_of_mem _ mw_7_21) rfl rfl rfl (by decide) rfl dX8_type_48 rfl ?_
      obtain ⟨e1, g1⟩ := Prod.mk.inj (Option.some.inj h)
      subst e1
      obtain ⟨e2, g2⟩ := Prod.mk.inj g1
      subst e2
      subst g2
      exact j_iret K dX8_type_51
    · refine j_bipush (v := (-4 : Int32)) K (by decide) dX8_type_24 rfl ?_
      obtain ⟨e1, g1⟩ := Prod.mk.inj (Option.some.inj h)
      subst e1
      obtain ⟨e2, g2⟩ := Prod.mk.inj g1
      subst e2
      subst g2
      exact j_iret K dX8_type_26
  · refine j_bipush (v := (-2 : Int32)) K (by decide) dX8_type_12 rfl ?_
    obtain ⟨e1, g1⟩ := Prod.mk.inj (Option.some.inj h)
    subst e1
    obtain ⟨e2, g2⟩ := Prod.mk.inj g1
    subst e2
    subst g2
    exact j_iret K dX8_type_14
abbrev uX8_wipe (cyI cyJ cyS : ClassId) (a0 : Nat → Nat) (c_latest : Int32) (c_typed : Int32) (c_tenants : Int32) (c_room : Int32) (c_events : Int32) (c_gone : Int32) (c_audit : Int32) (c_sights : Int32) (c_drawn : Int32) : va_W := [((a0 0), .inr (8, [.ref (a0 1), .ref (a0 2), .ref (a0 3), .ref (a0 4), .int c_latest, .ref (a0 5), .int c_typed, .int c_tenants, .ref (a0 6), .int c_room, .int c_events, .ref (a0 7), .int c_gone, .ref (a0 8), .ref (a0 9), .ref (a0 10), .ref (a0 11), .ref (a0 12), .ref (a0 13), .ref (a0 14), .ref (a0 15), .ref (a0 16), .ref (a0 17), .ref (a0 18), .int c_audit, .int c_sights, .ref (a0 19), .ref (a0 20), .int c_drawn]))]
abbrev rmX8_wipe : Room := { frames := 0, cells := 0, slots := 0, locals := 0 }
abbrev wdX8_wipe : List Cond := .code yX8_wipe cX8_wipe 2 (some .int) :: wsL_law
theorem hyX8_wipe : yX8_wipe.cls = RX8 ∧ yX8_wipe.cls ≠ "java/lang/invoke/MethodHandle" ∧ yX8_wipe.cls ≠ "java/lang/invoke/VarHandle" ∧ (parseMethodDescriptor yX8_wipe.desc).map (fun d => d.parameters.length) = some 0 := by decide +kernel
set_option maxRecDepth 100000 in
set_option maxHeartbeats 4000000 in
theorem ctX8_wipe (l : Launch) (D : va_G) (cyI cyJ cyS : ClassId) (a0 : Nat → Nat) (c_latest : Int32) (c_tenants : Int32) (c_room : Int32) (c_events : Int32) (c_gone : Int32) (c_audit : Int32) (c_sights : Int32) (c_drawn : Int32) (c_typed : Int32) (o_r : Int32) (o_typed : Int32) (h : fX8_wipe c_typed = some (o_r, o_typed)) : jC l yX8_wipe wdX8_wipe rmX8_wipe D vwCl (tyz cyI cyJ cyS) [.ref (a0 0)] (uX8_wipe cyI cyJ cyS a0 c_latest c_typed c_tenants c_room c_events c_gone c_audit c_sights c_drawn) (some (.int o_r)) (uX8_wipe cyI cyJ cyS a0 c_latest o_typed c_tenants c_room c_events c_gone c_audit c_sights c_drawn) := by
  refine jC_of (cc := cX8_wipe) (nL := 2) (ret := (some .int)) (own := RX8) (lv := [(0, .ref (a0 0))]) (by decide) rfl rfl (Nat.le_of_ble_eq_true rfl) rfl ?_
  intro p e s m args below meth c A K
  unfold fX8_wipe at h
  refine j_aload_n K 0 rfl dX8_wipe_0 rfl ?_
  refine j_getf (C := RX8) (T := TX8) (N := 29) (ci := 8) K icX8 0 6 (List.mem_cons_of_mem _ mw_7_21) rfl rfl rfl (by decide) rfl dX8_wipe_1 rfl ?_
  refine j_istore_n (lv' := [(1, .int c_typed), (0, .ref (a0 0))]) K (by decide) rfl dX8_wipe_4 rfl ?_
  refine j_aload_n K 1 rfl dX8_wipe_5 rfl ?_
  refine j_iconst (v := (0 : Int32)) K (by decide) dX8_wipe_6 rfl ?_
  refine j_putf (C := RX8) (T := TX8) (N := 29) (ci := 8) (ty := .int) (ws' := (uX8_wipe cyI cyJ cyS a0 c_latest (0 : Int32) c_tenants c_room c_events c_gone c_audit c_sights c_drawn)) K icX8 tyX8 tyX8_ok nmX8 0 6 (List.mem_cons_of_mem _ mw_7_21) rfl rfl rfl (by decide) rfl (by decide +kernel) rfl rfl (Nat.le_of_ble_eq_true rfl) rfl dX8_wipe_7 rfl ?_
  refine j_iload_n K 0 rfl dX8_wipe_10 rfl ?_
  obtain ⟨e1, g1⟩ := Prod.mk.inj (Option.some.inj h)
  subst e1
  subst g1
  exact j_iret K dX8_wipe_11
abbrev uX8_undo (cyI cyJ cyS : ClassId) (a0 : Nat → Nat) (c_latest : Int32) (c_typed : Int32) (c_tenants : Int32) (c_room : Int32) (c_events : Int32) (c_gone : Int32) (c_audit : Int32) (c_sights : Int32) (c_drawn : Int32) : va_W := [((a0 0), .inr (8, [.ref (a0 1), .ref (a0 2), .ref (a0 3), .ref (a0 4), .int c_latest, .ref (a0 5), .int c_typed, .int c_tenants, .ref (a0 6), .int c_room, .int c_events, .ref (a0 7), .int c_gone, .ref (a0 8), .ref (a0 9), .ref (a0 10), .ref (a0 11), .ref (a0 12), .ref (a0 13), .ref (a0 14), .ref (a0 15), .ref (a0 16), .ref (a0 17), .ref (a0 18), .int c_audit, .int c_sights, .ref (a0 19), .ref (a0 20), .int c_drawn]))]
abbrev rmX8_undo : Room := { frames := 0, cells := 0, slots := 0, locals := 0 }
abbrev wdX8_undo : List Cond := .code yX8_undo cX8_undo 1 (some .int) :: wsL_law
theorem hyX8_undo : yX8_undo.cls = RX8 ∧ yX8_undo.cls ≠ "java/lang/invoke/MethodHandle" ∧ yX8_undo.cls ≠ "java/lang/invoke/VarHandle" ∧ (parseMethodDescriptor yX8_undo.desc).map (fun d => d.parameters.length) = some 0 := by decide +kernel
set_option maxRecDepth 100000 in
set_option maxHeartbeats 4000000 in
theorem ctX8_undo (l : Launch) (D : va_G) (cyI cyJ cyS : ClassId) (a0 : Nat → Nat) (c_latest : Int32) (c_tenants : Int32) (c_room : Int32) (c_events : Int32) (c_gone : Int32) (c_audit : Int32) (c_sights : Int32) (c_drawn : Int32) (c_typed : Int32) (o_r : Int32) (o_typed : Int32) (h : fX8_undo c_typed = some (o_r, o_typed)) : jC l yX8_undo wdX8_undo rmX8_undo D vwCl (tyz cyI cyJ cyS) [.ref (a0 0)] (uX8_undo cyI cyJ cyS a0 c_latest c_typed c_tenants c_room c_events c_gone c_audit c_sights c_drawn) (some (.int o_r)) (uX8_undo cyI cyJ cyS a0 c_latest o_typed c_tenants c_room c_events c_gone c_audit c_sights c_drawn) := by
  refine jC_of (cc := cX8_undo) (nL := 1) (ret := (some .int)) (own := RX8) (lv := [(0, .ref (a0 0))]) (by decide) rfl rfl (Nat.le_of_ble_eq_true rfl) rfl ?_
  intro p e s m args below meth c A K
  unfold fX8_undo at h
  refine j_aload_n K 0 rfl dX8_undo_0 rfl ?_
  refine j_getf (C := RX8) (T := TX8) (N := 29) (ci := 8) K icX8 0 6 (List.mem_cons_of_mem _ mw_7_21) rfl rfl rfl (by decide) rfl dX8_undo_1 rfl ?_
  refine j_if_ne (tgt := 10) K dX8_undo_4 (by decide) rfl h (fun h => ?_) (fun h => ?_)
  · refine j_aload_n K 0 rfl dX8_undo_10 rfl ?_
    refine j_dup K rfl dX8_undo_11 rfl ?_
    refine j_getf (C := RX8) (T := TX8) (N := 29) (ci := 8) K icX8 0 6 (List.mem_cons_of_mem _ mw_7_21) rfl rfl rfl (by decide) rfl dX8_undo_12 rfl ?_
    refine j_iconst (v := (1 : Int32)) K (by decide) dX8_undo_15 rfl ?_
    refine j_isub K dX8_undo_16 rfl ?_
    refine j_nmI h (fun c_typed_1 h => ?_)
    refine j_putf (C := RX8) (T := TX8) (N := 29) (ci := 8) (ty := .int) (ws' := (uX8_undo cyI cyJ cyS a0 c_latest c_typed_1 c_tenants c_room c_events c_gone c_audit c_sights c_drawn)) K icX8 tyX8 tyX8_ok nmX8 0 6 (List.mem_cons_of_mem _ mw_7_21) rfl rfl rfl (by decide) rfl (by decide +kernel) rfl rfl (Nat.le_of_ble_eq_true rfl) rfl dX8_undo_17 rfl ?_
    refine j_aload_n K 0 rfl dX8_undo_20 rfl ?_
    refine j_getf (C := RX8) (T := TX8) (N := 29) (ci := 8) K icX8 0 6 (List.mem_cons_of_mem _ mw_7_21) rfl rfl rfl (by decide) rfl dX8_undo_21 rfl ?_
    obtain ⟨e1, g1⟩ := Prod.mk.inj (Option.some.inj h)
    subst e1
    subst g1
    exact j_iret K dX8_undo_24
  · refine j_bipush (v := (-3 : Int32)) K (by decide) dX8_undo_7 rfl ?_
    obtain ⟨e1, g1⟩ := Prod.mk.inj (Option.some.inj h)
    subst e1
    subst g1
    exact j_iret K dX8_undo_9
end GEN
