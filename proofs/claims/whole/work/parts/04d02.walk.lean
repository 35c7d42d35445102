section GEN
variable {p : Program} {l : Launch} {e : Env} {s : State} {m : MethodId} {args : Array Value} {below : List Frame} {meth : Method} {c : Code} {A : Nat → Prop} {D : va_G} {cyI cyJ cyS : ClassId}
abbrev uX7_undo (cyI cyJ cyS : ClassId) (a0 : Nat → Nat) (c_room : Int32) (c_finding : Int32) (c_courseKnown : Int32) (c_settledByKnown : Int32) (c_text_size : Int32) (c_text_bytes : Nat → Int32) (c_told_size : Int32) (c_told_sort : Nat → Int32) (c_told_paid : Nat → Int32) (c_told_wage : Nat → Int32) : va_W := [((a0 0), .inr (7, [.ref (a0 1), .ref (a0 3), .ref (a0 7), .ref (a0 11), .ref (a0 15), .ref (a0 19), .ref (a0 31), .ref (a0 43), .ref (a0 44), .ref (a0 53), .ref (a0 54), .int c_room, .int c_finding, .int c_courseKnown, .int c_settledByKnown])), ((a0 1), .inr (6, [.ref (a0 2), .int c_text_size])), ((a0 2), .inl (cyI, 31, .inl c_text_bytes)), ((a0 3), .inr (5, [.ref (a0 4), .ref (a0 5), .ref (a0 6), .int c_told_size])), ((a0 4), .inl (cyI, 8, .inl c_told_sort)), ((a0 5), .inl (cyI, 8, .inl c_told_paid)), ((a0 6), .inl (cyI, 8, .inl c_told_wage))]
abbrev rmX7_undo : Room := { frames := 5, cells := 0, slots := 0, locals := 104 }
abbrev wdX7_undo : List Cond := .code yX7_undo cX7_undo 1 (some .int) :: wsL_law
theorem hyX7_undo : yX7_undo.cls = RX7 ∧ yX7_undo.cls ≠ "java/lang/invoke/MethodHandle" ∧ yX7_undo.cls ≠ "java/lang/invoke/VarHandle" ∧ (parseMethodDescriptor yX7_undo.desc).map (fun d => d.parameters.length) = some 0 := by decide +kernel
set_option maxRecDepth 100000 in
set_option maxHeartbeats 4000000 in
theorem ctX7_undo (l : Launch) (D : va_G) (cyI cyJ cyS : ClassId) (a0 : Nat → Nat) (c_room : Int32) (c_finding : Int32) (c_courseKnown : Int32) (c_settledByKnown : Int32) (c_text : jT1) (c_told : jT3) (o_r : Int32) (o_courseKnown : Int32) (o_settledByKnown : Int32) (o_text : jT1) (o_told : jT3) (h : fX7_undo c_courseKnown c_settledByKnown c_text c_told = some (o_r, o_courseKnown, o_settledByKnown, o_text, o_told)) : jC l yX7_undo wdX7_undo rmX7_undo D vwCl (tyz cyI cyJ cyS) [.ref (a0 0)] (uX7_undo cyI cyJ cyS a0 c_room c_finding c_courseKnown c_settledByKnown c_text.1 c_text.2 c_told.1 c_told.2.1 c_told.2.2.1 c_told.2.2.2) (some (.int o_r)) (uX7_undo cyI cyJ cyS a0 c_room c_finding o_courseKnown o_settledByKnown o_text.1 o_text.2 o_told.1 o_told.2.1 o_told.2.2.1 o_told.2.2.2) := by
  refine jC_of (cc := cX7_undo) (nL := 1) (ret := (some .int)) (own := RX7) (lv := [(0, .ref (a0 0))]) (by decide) rfl rfl (Nat.le_of_ble_eq_true rfl) rfl ?_
  intro p e s m args below meth c A K
  unfold fX7_undo at h
  refine j_aload_n K 0 rfl dX7_undo_0 rfl ?_
  refine j_getf (C := RX7) (T := TX7) (N := 15) (ci := 7) K icX7 0 0 (List.mem_cons_of_mem _ mw_1_15) rfl rfl rfl (by decide) rfl dX7_undo_1 rfl ?_
  refine j_getf (C := RX6) (T := TX6) (N := 2) (ci := 6) K icX6 1 1 (List.mem_cons_of_mem _ mw_6_10) rfl rfl rfl (by decide) rfl dX7_undo_4 rfl ?_
  refine j_if_ne (tgt := 13) K dX7_undo_7 (by decide) rfl h (fun h => ?_) (fun h => ?_)
  · refine j_aload_n K 0 rfl dX7_undo_13 rfl ?_
    refine j_getf (C := RX7) (T := TX7) (N := 15) (ci := 7) K icX7 0 0 (List.mem_cons_of_mem _ mw_1_15) rfl rfl rfl (by decide) rfl dX7_undo_14 rfl ?_
    refine j_dup K rfl dX7_undo_17 rfl ?_
    refine j_getf (C := RX6) (T := TX6) (N := 2) (ci := 6) K icX6 1 1 (List.mem_cons_of_mem _ mw_6_10) rfl rfl rfl (by decide) rfl dX7_undo_18 rfl ?_
    refine j_iconst (v := (1 : Int32)) K (by decide) dX7_undo_21 rfl ?_
    refine j_isub K dX7_undo_22 rfl ?_
    refine j_nmI h (fun c_text_size_1 h => ?_)
    refine j_putf (C := RX6) (T := TX6) (N := 2) (ci := 6) (ty := .int) (ws' := (uX7_undo cyI cyJ cyS a0 c_room c_finding c_courseKnown c_settledByKnown c_text_size_1 c_text.2 c_told.1 c_told.2.1 c_told.2.2.1 c_told.2.2.2)) K icX6 tyX6 tyX6_ok nmX6 1 1 (List.mem_cons_of_mem _ mw_6_10) rfl rfl rfl (by decide) rfl (by decide +kernel) rfl rfl (Nat.le_of_ble_eq_true rfl) rfl dX7_undo_23 rfl ?_
    refine j_aload_n K 0 rfl dX7_undo_26 rfl ?_
    obtain ⟨c_courseKnown_2, c_settledByKnown_3, c_told_4, hc, h⟩ := bd3_some h
    refine j_callV (rest := []) (st1 := []) (ws' := (uX7_undo cyI cyJ cyS a0 c_room c_finding c_courseKnown_2 c_settledByKnown_3 c_text_size_1 c_text.2 c_told_4.1 c_told_4.2.1 c_told_4.2.2.1 c_told_4.2.2.2)) (T := TX7) (N := 15) (ci := 7) K (ctX7_textChanged l D cyI cyJ cyS a0 c_room c_finding (c_text_size_1, c_text.2) c_courseKnown c_settledByKnown c_told c_courseKnown_2 c_settledByKnown_3 c_told_4 hc) (gdV mcL mw_6_15 mw_6_16 mw_6_17 mw_1_2 mw_6_18) rfl ⟨rfl, rfl⟩ hyX7_textChanged ⟨Nat.le_of_ble_eq_true rfl, Nat.le_of_ble_eq_true rfl, Nat.le_of_ble_eq_true rfl, Nat.le_of_ble_eq_true rfl⟩ [0, 1, 2, 3, 4, 5, 6] (by decide) rfl [some 0, some 1, some 2, some 3, some 4, some 5, some 6] (by decide) rfl rfl 0 rfl rfl rfl rfl (Nat.le_of_ble_eq_true rfl) dX7_undo_27 rfl rfl ?_
    refine j_aload_n K 0 rfl dX7_undo_30 rfl ?_
    refine j_getf (C := RX7) (T := TX7) (N := 15) (ci := 7) K icX7 0 0 (List.mem_cons_of_mem _ mw_1_15) rfl rfl rfl (by decide) rfl dX7_undo_31 rfl ?_
    refine j_getf (C := RX6) (T := TX6) (N := 2) (ci := 6) K icX6 1 1 (List.mem_cons_of_mem _ mw_6_10) rfl rfl rfl (by decide) rfl dX7_undo_34 rfl ?_
    obtain ⟨e1, g1⟩ := Prod.mk.inj (Option.some.inj h)
    subst e1
    obtain ⟨e2, g2⟩ := Prod.mk.inj g1
    subst e2
    obtain ⟨e3, g3⟩ := Prod.mk.inj g2
    subst e3
    obtain ⟨e4, g4⟩ := Prod.mk.inj g3
    subst e4
    subst g4
    exact j_iret K dX7_undo_37
  · refine j_bipush (v := (-3 : Int32)) K (by decide) dX7_undo_10 rfl ?_
    obtain ⟨e1, g1⟩ := Prod.mk.inj (Option.some.inj h)
    subst e1
    obtain ⟨e2, g2⟩ := Prod.mk.inj g1
    subst e2
    obtain ⟨e3, g3⟩ := Prod.mk.inj g2
    subst e3
    obtain ⟨e4, g4⟩ := Prod.mk.inj g3
    subst e4
    subst g4
    exact j_iret K dX7_undo_12
abbrev uX7_fault (cyI cyJ cyS : ClassId) (a0 : Nat → Nat) (c_room : Int32) (c_finding : Int32) (c_courseKnown : Int32) (c_settledByKnown : Int32) (c_text_size : Int32) (c_text_bytes : Nat → Int32) : va_W := [((a0 0), .inr (7, [.ref (a0 1), .ref (a0 3), .ref (a0 7), .ref (a0 11), .ref (a0 15), .ref (a0 19), .ref (a0 31), .ref (a0 43), .ref (a0 44), .ref (a0 53), .ref (a0 54), .int c_room, .int c_finding, .int c_courseKnown, .int c_settledByKnown])), ((a0 1), .inr (6, [.ref (a0 2), .int c_text_size])), ((a0 2), .inl (cyI, 31, .inl c_text_bytes))]
abbrev rmX7_fault : Room := { frames := 3, cells := 0, slots := 0, locals := 62 }
abbrev wdX7_fault : List Cond := .code yX7_fault cX7_fault 1 (some .int) :: wsL_law
theorem hyX7_fault : yX7_fault.cls = RX7 ∧ yX7_fault.cls ≠ "java/lang/invoke/MethodHandle" ∧ yX7_fault.cls ≠ "java/lang/invoke/VarHandle" ∧ (parseMethodDescriptor yX7_fault.desc).map (fun d => d.parameters.length) = some 0 := by decide +kernel
set_option maxRecDepth 100000 in
set_option maxHeartbeats 4000000 in
theorem ctX7_fault (l : Launch) (D : va_G) (cyI cyJ cyS : ClassId) (a0 : Nat → Nat) (c_room : Int32) (c_finding : Int32) (c_courseKnown : Int32) (c_settledByKnown : Int32) (c_text : jT1) (o_r : Int32) (h : fX7_fault c_text = some (o_r)) : jC l yX7_fault wdX7_fault rmX7_fault D vwCl (tyz cyI cyJ cyS) [.ref (a0 0)] (uX7_fault cyI cyJ cyS a0 c_room c_finding c_courseKnown c_settledByKnown c_text.1 c_text.2) (some (.int o_r)) (uX7_fault cyI cyJ cyS a0 c_room c_finding c_courseKnown c_settledByKnown c_text.1 c_text.2) := by
  refine jC_of (cc := cX7_fault) (nL := 1) (ret := (some .int)) (own := RX7) (lv := [(0, .ref (a0 0))]) (by decide) rfl rfl (Nat.le_of_ble_eq_true rfl) rfl ?_
  intro p e s m args below meth c A K
  unfold fX7_fault at h
  refine j_aload_n K 0 rfl dX7_fault_0 rfl ?_
  refine j_getf (C := RX7) (T := TX7) (N := 15) (ci := 7) K icX7 0 0 (List.mem_cons_of_mem _ mw_1_15) rfl rfl rfl (by decide) rfl dX7_fault_1 rfl ?_
  obtain ⟨r_1, hc, h⟩ := bd1_some h
  refine j_callV (rest := []) (st1 := [.int r_1]) (ws' := (uX7_fault cyI cyJ cyS a0 c_room c_finding c_courseKnown c_settledByKnown c_text.1 c_text.2)) (T := TX6) (N := 2) (ci := 6) K (ctX6_faultPlace l D cyI cyJ cyS (fun k => a0 (k + 1)) c_text.1 c_text.2 r_1 hc) (gdV mcL mw_8_21 mw_7_2 mw_7_3 mw_1_14 mw_7_4) rfl ⟨rfl, rfl⟩ hyX6_faultPlace ⟨Nat.le_of_ble_eq_true rfl, Nat.le_of_ble_eq_true rfl, Nat.le_of_ble_eq_true rfl, Nat.le_of_ble_eq_true rfl⟩ [1, 2] (by decide) rfl [none, some 0, some 1] (by decide) rfl rfl 1 rfl rfl rfl rfl (Nat.le_of_ble_eq_true rfl) dX7_fault_4 rfl rfl ?_
  have h := Option.some.inj h
  subst h
  exact j_iret K dX7_fault_7
abbrev uX7_isTenant (cyI cyJ cyS : ClassId) (a0 : Nat → Nat) (c_room : Int32) (c_finding : Int32) (c_courseKnown : Int32) (c_settledByKnown : Int32) (c_told_size : Int32) : va_W := [((a0 0), .inr (7, [.ref (a0 1), .ref (a0 3), .ref (a0 7), .ref (a0 11), .ref (a0 15), .ref (a0 19), .ref (a0 31), .ref (a0 43), .ref (a0 44), .ref (a0 53), .ref (a0 54), .int c_room, .int c_finding, .int c_courseKnown, .int c_settledByKnown])), ((a0 3), .inr (5, [.ref (a0 4), .ref (a0 5), .ref (a0 6), .int c_told_size]))]
abbrev rmX7_isTenant : Room := { frames := 0, cells := 0, slots := 0, locals := 0 }
abbrev wdX7_isTenant : List Cond := .code yX7_isTenant cX7_isTenant 2 (some .boolean) :: wsL_law
theorem hyX7_isTenant : yX7_isTenant.cls = RX7 ∧ yX7_isTenant.cls ≠ "java/lang/invoke/MethodHandle" ∧ yX7_isTenant.cls ≠ "java/lang/invoke/VarHandle" ∧ (parseMethodDescriptor yX7_isTenant.desc).map (fun d => d.parameters.length) = some 1 := by decide +kernel
set_option maxRecDepth 100000 in
set_option maxHeartbeats 4000000 in
theorem ctX7_isTenant (l : Launch) (D : va_G) (cyI cyJ cyS : ClassId) (a0 : Nat → Nat) (i1 : Int32) (c_room : Int32) (c_finding : Int32) (c_courseKnown : Int32) (c_settledByKnown : Int32) (c_told_size : Int32) (o_r : Int32) (h : fX7_isTenant i1 c_told_size = some (o_r)) : jC l yX7_isTenant wdX7_isTenant rmX7_isTenant D vwCl (tyz cyI cyJ cyS) [.ref (a0 0), .int i1] (uX7_isTenant cyI cyJ cyS a0 c_room c_finding c_courseKnown c_settledByKnown c_told_size) (some (.int o_r)) (uX7_isTenant cyI cyJ cyS a0 c_room c_finding c_courseKnown c_settledByKnown c_told_size) := by
  refine jC_of (cc := cX7_isTenant) (nL := 2) (ret := (some .boolean)) (own := RX7) (lv := [(0, .ref (a0 0)), (1, .int i1)]) (by decide) rfl rfl (Nat.le_of_ble_eq_true rfl) rfl ?_
  intro p e s m args below meth c A K
  unfold fX7_isTenant at h
  refine j_iload_n K 1 rfl dX7_isTenant_0 rfl ?_
  refine j_if_lt (tgt := 19) K dX7_isTenant_1 (by decide) rfl h (fun h => ?_) (fun h => ?_)
  · refine j_iconst (v := (0 : Int32)) K (by decide) dX7_isTenant_19 rfl ?_
    have h := Option.some.inj h
    subst h
    exact j_zret K rfl dX7_isTenant_20
  · refine j_iload_n K 1 rfl dX7_isTenant_4 rfl ?_
    refine j_aload_n K 0 rfl dX7_isTenant_5 rfl ?_
    refine j_getf (C := RX7) (T := TX7) (N := 15) (ci := 7) K icX7 0 1 (List.mem_cons_of_mem _ mw_1_19) rfl rfl rfl (by decide) rfl dX7_isTenant_6 rfl ?_
    refine j_getf (C := RX5) (T := TX5) (N := 4) (ci := 5) K icX5 1 3 (List.mem_cons_of_mem _ mw_9_23) rfl rfl rfl (by decide) rfl dX7_isTenant_9 rfl ?_
    refine j_icmp_ge (tgt := 19) K dX7_isTenant_12 (by decide) rfl h (fun h => ?_) (fun h => ?_)
    · refine j_iconst (v := (0 : Int32)) K (by decide) dX7_isTenant_19 rfl ?_
      have h := Option.some.inj h
      subst h
      exact j_zret K rfl dX7_isTenant_20
    · refine j_iconst (v := (1 : Int32)) K (by decide) dX7_isTenant_15 rfl ?_
      refine j_goto (pc' := 20) K dX7_isTenant_16 (by decide) ?_
      have h := Option.some.inj h
      subst h
      exact j_zret K rfl dX7_isTenant_20
abbrev uX7_tenant (cyI cyJ cyS : ClassId) (a0 : Nat → Nat) (c_room : Int32) (c_finding : Int32) (c_courseKnown : Int32) (c_settledByKnown : Int32) (c_told_size : Int32) (c_told_sort : Nat → Int32) (c_told_paid : Nat → Int32) (c_told_wage : Nat → Int32) : va_W := [((a0 0), .inr (7, [.ref (a0 1), .ref (a0 3), .ref (a0 7), .ref (a0 11), .ref (a0 15), .ref (a0 19), .ref (a0 31), .ref (a0 43), .ref (a0 44), .ref (a0 53), .ref (a0 54), .int c_room, .int c_finding, .int c_courseKnown, .int c_settledByKnown])), ((a0 3), .inr (5, [.ref (a0 4), .ref (a0 5), .ref (a0 6), .int c_told_size])), ((a0 4), .inl (cyI, 8, .inl c_told_sort)), ((a0 5), .inl (cyI, 8, .inl c_told_paid)), ((a0 6), .inl (cyI, 8, .inl c_told_wage))]
abbrev rmX7_tenant : Room := { frames := 1, cells := 0, slots := 0, locals := 22 }
abbrev wdX7_tenant : List Cond := .code yX7_tenant cX7_tenant 3 (some .int) :: wsL_law
theorem hyX7_tenant : yX7_tenant.cls = RX7 ∧ yX7_tenant.cls ≠ "java/lang/invoke/MethodHandle" ∧ yX7_tenant.cls ≠ "java/lang/invoke/VarHandle" ∧ (parseMethodDescriptor yX7_tenant.desc).map (fun d => d.parameters.length) = some 2 := by decide +kernel
set_option maxRecDepth 100000 in
set_option maxHeartbeats 4000000 in
theorem ctX7_tenant (l : Launch) (D : va_G) (cyI cyJ cyS : ClassId) (a0 : Nat → Nat) (i1 : Int32) (i2 : Int32) (c_room : Int32) (c_finding : Int32) (c_courseKnown : Int32) (c_settledByKnown : Int32) (c_told : jT3) (o_r : Int32) (h : fX7_tenant i1 i2 c_told = some (o_r)) : jC l yX7_tenant wdX7_tenant rmX7_tenant D vwCl (tyz cyI cyJ cyS) [.ref (a0 0), .int i1, .int i2] (uX7_tenant cyI cyJ cyS a0 c_room c_finding c_courseKnown c_settledByKnown c_told.1 c_told.2.1 c_told.2.2.1 c_told.2.2.2) (some (.int o_r)) (uX7_tenant cyI cyJ cyS a0 c_room c_finding c_courseKnown c_settledByKnown c_told.1 c_told.2.1 c_told.2.2.1 c_told.2.2.2) := by
  refine jC_of (cc := cX7_tenant) (nL := 3) (ret := (some .int)) (own := RX7) (lv := [(0, .ref (a0 0)), (1, .int i1), (2, .int i2)]) (by decide) rfl rfl (Nat.le_of_ble_eq_true rfl) rfl ?_
  intro p e s m args below meth c A K
  unfold fX7_tenant at h
  refine j_aload_n K 0 rfl dX7_tenant_0 rfl ?_
  refine j_iload_n K 1 rfl dX7_tenant_1 rfl ?_
  obtain ⟨r_1, hc, h⟩ := bd1_some h
  refine j_callV (rest := []) (st1 := [.int r_1]) (ws' := (uX7_tenant cyI cyJ cyS a0 c_room c_finding c_courseKnown c_settledByKnown c_told.1 c_told.2.1 c_told.2.2.1 c_told.2.2.2)) (T := TX7) (N := 15) (ci := 7) K (ctX7_isTenant l D cyI cyJ cyS a0 i1 c_room c_finding c_courseKnown c_settledByKnown c_told.1 r_1 hc) (gdV mcL mw_9_19 mw_9_20 mw_9_21 mw_1_2 mw_9_22) rfl ⟨rfl, rfl⟩ hyX7_isTenant ⟨Nat.le_of_ble_eq_true rfl, Nat.le_of_ble_eq_true rfl, Nat.le_of_ble_eq_true rfl, Nat.le_of_ble_eq_true rfl⟩ [0, 1] (by decide) rfl [some 0, some 1, none, none, none] (by decide) rfl rfl 0 rfl rfl rfl rfl (Nat.le_of_ble_eq_true rfl) dX7_tenant_2 rfl rfl ?_
  refine j_if_eq (tgt := 17) K dX7_tenant_5 (by decide) rfl h (fun h => ?_) (fun h => ?_)
  · refine j_bipush (v := (-2 : Int32)) K (by decide) dX7_tenant_17 rfl ?_
    have h := Option.some.inj h
    subst h
    exact j_iret K dX7_tenant_19
  · refine j_iload_n K 2 rfl dX7_tenant_8 rfl ?_
    refine j_iconst (v := (0 : Int32)) K (by decide) dX7_tenant_9 rfl ?_
    refine j_iconst (v := (2 : Int32)) K (by decide) dX7_tenant_10 rfl ?_
    obtain ⟨r_2, hc, h⟩ := bd1_some h
    refine j_callS (rest := []) (st1 := [.int r_2]) (ws' := (uX7_tenant cyI cyJ cyS a0 c_room c_finding c_courseKnown c_settledByKnown c_told.1 c_told.2.1 c_told.2.2.1 c_told.2.2.2)) K (ctX7_within l D cyI cyJ cyS i2 (0 : Int32) (2 : Int32) r_2 hc) (gdS mcL mw_6_12 mw_6_13 mw_1_2 mw_6_14) rfl ⟨rfl, rfl⟩ hzX7_within ⟨Nat.le_of_ble_eq_true rfl, Nat.le_of_ble_eq_true rfl, Nat.le_of_ble_eq_true rfl, Nat.le_of_ble_eq_true rfl⟩ [] (by decide) rfl [none, none, none, none, none] (by decide) rfl rfl rfl rfl (Nat.le_of_ble_eq_true rfl) dX7_tenant_11 rfl rfl ?_
    refine j_if_ne (tgt := 20) K dX7_tenant_14 (by decide) rfl h (fun h => ?_) (fun h => ?_)
    · refine j_iload_n K 2 rfl dX7_tenant_20 rfl ?_
      refine j_if_ne (tgt := 34) K dX7_tenant_21 (by decide) rfl h (fun h => ?_) (fun h => ?_)
      · refine j_iload_n K 2 rfl dX7_tenant_34 rfl ?_
        refine j_iconst (v := (1 : Int32)) K (by decide) dX7_tenant_35 rfl ?_
        refine j_icmp_ne (tgt := 51) K dX7_tenant_36 (by decide) rfl h (fun h => ?_) (fun h => ?_)
        · refine j_aload_n K 0 rfl dX7_tenant_51 rfl ?_
          refine j_getf (C := RX7) (T := TX7) (N := 15) (ci := 7) K icX7 0 1 (List.mem_cons_of_mem _ mw_1_19) rfl rfl rfl (by decide) rfl dX7_tenant_52 rfl ?_
          refine j_getf (C := RX5) (T := TX5) (N := 4) (ci := 5) K icX5 1 2 (List.mem_cons_of_mem _ mw_9_18) rfl rfl rfl (by decide) rfl dX7_tenant_55 rfl ?_
          refine j_iload_n K 1 rfl dX7_tenant_58 rfl ?_
          refine j_iald K 4 0 rfl rfl dX7_tenant_59 rfl h (fun v_3 h => ?_)
          have h := Option.some.inj h
          subst h
          exact j_iret K dX7_tenant_60
        · refine j_aload_n K 0 rfl dX7_tenant_39 rfl ?_
          refine j_getf (C := RX7) (T := TX7) (N := 15) (ci := 7) K icX7 0 1 (List.mem_cons_of_mem _ mw_1_19) rfl rfl rfl (by decide) rfl dX7_tenant_40 rfl ?_
          refine j_getf (C := RX5) (T := TX5) (N := 4) (ci := 5) K icX5 1 1 (List.mem_cons_of_mem _ mw_9_17) rfl rfl rfl (by decide) rfl dX7_tenant_43 rfl ?_
          refine j_iload_n K 1 rfl dX7_tenant_46 rfl ?_
          refine j_iald K 3 0 rfl rfl dX7_tenant_47 rfl h (fun v_4 h => ?_)
          refine j_goto (pc' := 60) K dX7_tenant_48 (by decide) ?_
          have h := Option.some.inj h
          subst h
          exact j_iret K dX7_tenant_60
      · refine j_aload_n K 0 rfl dX7_tenant_24 rfl ?_
        refine j_getf (C := RX7) (T := TX7) (N := 15) (ci := 7) K icX7 0 1 (List.mem_cons_of_mem _ mw_1_19) rfl rfl rfl (by decide) rfl dX7_tenant_25 rfl ?_
        refine j_getf (C := RX5) (T := TX5) (N := 4) (ci := 5) K icX5 1 0 (List.mem_cons_of_mem _ mw_9_16) rfl rfl rfl (by decide) rfl dX7_tenant_28 rfl ?_
        refine j_iload_n K 1 rfl dX7_tenant_31 rfl ?_
        refine j_iald K 2 0 rfl rfl dX7_tenant_32 rfl h (fun v_5 h => ?_)
        have h := Option.some.inj h
        subst h
        exact j_iret K dX7_tenant_33
    · refine j_bipush (v := (-2 : Int32)) K (by decide) dX7_tenant_17 rfl ?_
      have h := Option.some.inj h
      subst h
      exact j_iret K dX7_tenant_19
end GEN
