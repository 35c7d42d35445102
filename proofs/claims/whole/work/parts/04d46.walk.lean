section GEN
variable {p : Program} {l : Launch} {e : Env} {s : State} {m : MethodId} {args : Array Value} {below : List Frame} {meth : Method} {c : Code} {A : Nat → Prop} {D : va_G} {cyI cyJ cyS : ClassId}
abbrev uX8_isMonth (cyI cyJ cyS : ClassId) : va_W := []
abbrev rmX8_isMonth : Room := { frames := 1, cells := 0, slots := 0, locals := 25 }
abbrev wdX8_isMonth : List Cond := .code yX8_isMonth cX8_isMonth 1 (some .boolean) :: wsL_law
theorem hzX8_isMonth : yX8_isMonth.cls ≠ "java/lang/invoke/MethodHandle" ∧ yX8_isMonth.cls ≠ "java/lang/invoke/VarHandle" ∧ (parseMethodDescriptor yX8_isMonth.desc).map (fun d => d.parameters.length) = some 1 := by decide +kernel
set_option maxRecDepth 100000 in
set_option maxHeartbeats 4000000 in
theorem ctX8_isMonth (l : Launch) (D : va_G) (cyI cyJ cyS : ClassId) (i0 : Int32) (o_r : Int32) (h : fX8_isMonth i0 = some (o_r)) : jC l yX8_isMonth wdX8_isMonth rmX8_isMonth D vwCl (tyz cyI cyJ cyS) [.int i0] (uX8_isMonth cyI cyJ cyS ) (some (.int o_r)) (uX8_isMonth cyI cyJ cyS ) := by
  refine jC_of (cc := cX8_isMonth) (nL := 1) (ret := (some .boolean)) (own := RX8) (lv := [(0, .int i0)]) (by decide) rfl rfl (Nat.le_of_ble_eq_true rfl) rfl ?_
  intro p e s m args below meth c A K
  unfold fX8_isMonth at h
  refine j_iload_n K 0 rfl dX8_isMonth_0 rfl ?_
  refine j_i2l K dX8_isMonth_1 rfl ?_
  refine j_lconst (v := (0 : Int64)) K (by decide) dX8_isMonth_2 rfl ?_
  refine j_ldc2 (v := (23 : Int64)) K (List.mem_cons_of_mem _ mw_11_17) dX8_isMonth_3 rfl ?_
  obtain ⟨r_1, hc, h⟩ := bd1_some h
  refine j_callS (rest := []) (st1 := [.int r_1]) (ws' := (uX8_isMonth cyI cyJ cyS )) K (ctX8_in l D cyI cyJ cyS (Int32.toInt64 i0) (0 : Int64) (23 : Int64) r_1 hc) (gdS mcL mw_7_22 mw_7_23 mw_1_5 mw_8_0) rfl ⟨rfl, rfl⟩ hzX8_in ⟨Nat.le_of_ble_eq_true rfl, Nat.le_of_ble_eq_true rfl, Nat.le_of_ble_eq_true rfl, Nat.le_of_ble_eq_true rfl⟩ [] (by decide) rfl [] (by decide) rfl rfl rfl rfl (Nat.le_of_ble_eq_true rfl) dX8_isMonth_6 rfl rfl ?_
  obtain ⟨hz, h⟩ := ckB_some h
  have h := Option.some.inj h
  subst h
  exact j_zret K (nar_b hz) dX8_isMonth_9
abbrev uX8_isTenant (cyI cyJ cyS : ClassId) (a0 : Nat → Nat) (c_latest : Int32) (c_typed : Int32) (c_tenants : Int32) (c_room : Int32) (c_events : Int32) (c_gone : Int32) (c_audit : Int32) (c_sights : Int32) (c_drawn : Int32) : va_W := [((a0 0), .inr (8, [.ref (a0 1), .ref (a0 2), .ref (a0 3), .ref (a0 4), .int c_latest, .ref (a0 5), .int c_typed, .int c_tenants, .ref (a0 6), .int c_room, .int c_events, .ref (a0 7), .int c_gone, .ref (a0 8), .ref (a0 9), .ref (a0 10), .ref (a0 11), .ref (a0 12), .ref (a0 13), .ref (a0 14), .ref (a0 15), .ref (a0 16), .ref (a0 17), .ref (a0 18), .int c_audit, .int c_sights, .ref (a0 19), .ref (a0 20), .int c_drawn]))]
abbrev rmX8_isTenant : Room := { frames := 1, cells := 0, slots := 0, locals := 25 }
abbrev wdX8_isTenant : List Cond := .code yX8_isTenant cX8_isTenant 2 (some .boolean) :: wsL_law
theorem hyX8_isTenant : yX8_isTenant.cls = RX8 ∧ yX8_isTenant.cls ≠ "java/lang/invoke/MethodHandle" ∧ yX8_isTenant.cls ≠ "java/lang/invoke/VarHandle" ∧ (parseMethodDescriptor yX8_isTenant.desc).map (fun d => d.parameters.length) = some 1 := by decide +kernel
set_option maxRecDepth 100000 in
set_option maxHeartbeats 4000000 in
theorem ctX8_isTenant (l : Launch) (D : va_G) (cyI cyJ cyS : ClassId) (a0 : Nat → Nat) (i1 : Int32) (c_latest : Int32) (c_typed : Int32) (c_room : Int32) (c_events : Int32) (c_gone : Int32) (c_audit : Int32) (c_sights : Int32) (c_drawn : Int32) (c_tenants : Int32) (o_r : Int32) (h : fX8_isTenant i1 c_tenants = some (o_r)) : jC l yX8_isTenant wdX8_isTenant rmX8_isTenant D vwCl (tyz cyI cyJ cyS) [.ref (a0 0), .int i1] (uX8_isTenant cyI cyJ cyS a0 c_latest c_typed c_tenants c_room c_events c_gone c_audit c_sights c_drawn) (some (.int o_r)) (uX8_isTenant cyI cyJ cyS a0 c_latest c_typed c_tenants c_room c_events c_gone c_audit c_sights c_drawn) := by
  refine jC_of (cc := cX8_isTenant) (nL := 2) (ret := (some .boolean)) (own := RX8) (lv := [(0, .ref (a0 0)), (1, .int i1)]) (by decide) rfl rfl (Nat.le_of_ble_eq_true rfl) rfl ?_
  intro p e s m args below meth c A K
  unfold fX8_isTenant at h
  refine j_iload_n K 1 rfl dX8_isTenant_0 rfl ?_
  refine j_i2l K dX8_isTenant_1 rfl ?_
  refine j_lconst (v := (0 : Int64)) K (by decide) dX8_isTenant_2 rfl ?_
  refine j_aload_n K 0 rfl dX8_isTenant_3 rfl ?_
  refine j_getf (C := RX8) (T := TX8) (N := 29) (ci := 8) K icX8 0 7 (List.mem_cons_of_mem _ mw_9_6) rfl rfl rfl (by decide) rfl dX8_isTenant_4 rfl ?_
  refine j_iconst (v := (1 : Int32)) K (by decide) dX8_isTenant_7 rfl ?_
  refine j_isub K dX8_isTenant_8 rfl ?_
  refine j_i2l K dX8_isTenant_9 rfl ?_
  obtain ⟨r_1, hc, h⟩ := bd1_some h
  refine j_callS (rest := []) (st1 := [.int r_1]) (ws' := (uX8_isTenant cyI cyJ cyS a0 c_latest c_typed c_tenants c_room c_events c_gone c_audit c_sights c_drawn)) K (ctX8_in l D cyI cyJ cyS (Int32.toInt64 i1) (0 : Int64) (Int32.toInt64 (c_tenants - (1 : Int32))) r_1 hc) (gdS mcL mw_7_22 mw_7_23 mw_1_5 mw_8_0) rfl ⟨rfl, rfl⟩ hzX8_in ⟨Nat.le_of_ble_eq_true rfl, Nat.le_of_ble_eq_true rfl, Nat.le_of_ble_eq_true rfl, Nat.le_of_ble_eq_true rfl⟩ [] (by decide) rfl [none] (by decide) rfl rfl rfl rfl (Nat.le_of_ble_eq_true rfl) dX8_isTenant_10 rfl rfl ?_
  obtain ⟨hz, h⟩ := ckB_some h
  have h := Option.some.inj h
  subst h
  exact j_zret K (nar_b hz) dX8_isTenant_13
abbrev uX8_tenant (cyI cyJ cyS : ClassId) (a0 : Nat → Nat) (c_latest : Int32) (c_typed : Int32) (c_tenants : Int32) (c_room : Int32) (c_events : Int32) (c_gone : Int32) (c_audit : Int32) (c_sights : Int32) (c_drawn : Int32) (c_bytes : Nat → Int32) (c_tenant : Nat → Int32) : va_W := [((a0 0), .inr (8, [.ref (a0 1), .ref (a0 2), .ref (a0 3), .ref (a0 4), .int c_latest, .ref (a0 5), .int c_typed, .int c_tenants, .ref (a0 6), .int c_room, .int c_events, .ref (a0 7), .int c_gone, .ref (a0 8), .ref (a0 9), .ref (a0 10), .ref (a0 11), .ref (a0 12), .ref (a0 13), .ref (a0 14), .ref (a0 15), .ref (a0 16), .ref (a0 17), .ref (a0 18), .int c_audit, .int c_sights, .ref (a0 19), .ref (a0 20), .int c_drawn])), ((a0 5), .inl (cyI, 31, .inl c_bytes)), ((a0 6), .inl (cyI, 24, .inl c_tenant))]
abbrev rmX8_tenant : Room := { frames := 3, cells := 0, slots := 0, locals := 69 }
abbrev wdX8_tenant : List Cond := .code yX8_tenant cX8_tenant 3 (some .int) :: wsL_law
theorem hyX8_tenant : yX8_tenant.cls = RX8 ∧ yX8_tenant.cls ≠ "java/lang/invoke/MethodHandle" ∧ yX8_tenant.cls ≠ "java/lang/invoke/VarHandle" ∧ (parseMethodDescriptor yX8_tenant.desc).map (fun d => d.parameters.length) = some 2 := by decide +kernel
set_option maxRecDepth 100000 in
set_option maxHeartbeats 4000000 in
theorem ctX8_tenant (l : Launch) (D : va_G) (cyI cyJ cyS : ClassId) (a0 : Nat → Nat) (i1 : Int32) (i2 : Int32) (c_latest : Int32) (c_room : Int32) (c_events : Int32) (c_gone : Int32) (c_audit : Int32) (c_sights : Int32) (c_drawn : Int32) (c_typed : Int32) (c_bytes : Nat → Int32) (c_tenants : Int32) (c_tenant : Nat → Int32) (o_r : Int32) (o_tenants : Int32) (o_tenant : Nat → Int32) (h : fX8_tenant i1 i2 c_typed c_bytes c_tenants c_tenant = some (o_r, o_tenants, o_tenant)) : jC l yX8_tenant wdX8_tenant rmX8_tenant D vwCl (tyz cyI cyJ cyS) [.ref (a0 0), .int i1, .int i2] (uX8_tenant cyI cyJ cyS a0 c_latest c_typed c_tenants c_room c_events c_gone c_audit c_sights c_drawn c_bytes c_tenant) (some (.int o_r)) (uX8_tenant cyI cyJ cyS a0 c_latest c_typed o_tenants c_room c_events c_gone c_audit c_sights c_drawn c_bytes o_tenant) := by
  refine jC_of (cc := cX8_tenant) (nL := 3) (ret := (some .int)) (own := RX8) (lv := [(0, .ref (a0 0)), (1, .int i1), (2, .int i2)]) (by decide) rfl rfl (Nat.le_of_ble_eq_true rfl) rfl ?_
  intro p e s m args below meth c A K
  unfold fX8_tenant at h
  refine j_aload_n K 0 rfl dX8_tenant_0 rfl ?_
  obtain ⟨r_1, c_tenants_2, c_tenant_3, hc, h⟩ := bd3_some h
  refine j_callV (rest := []) (st1 := [.int r_1]) (ws' := (uX8_tenant cyI cyJ cyS a0 c_latest c_typed c_tenants_2 c_room c_events c_gone c_audit c_sights c_drawn c_bytes c_tenant_3)) (T := TX8) (N := 29) (ci := 8) K (ctX8_reads l D cyI cyJ cyS a0 c_latest c_room c_events c_gone c_audit c_sights c_drawn c_typed c_bytes c_tenants c_tenant r_1 c_tenants_2 c_tenant_3 hc) (gdV mcL mw_9_2 mw_9_3 mw_9_4 mw_1_5 mw_9_5) rfl ⟨rfl, rfl⟩ hyX8_reads ⟨Nat.le_of_ble_eq_true rfl, Nat.le_of_ble_eq_true rfl, Nat.le_of_ble_eq_true rfl, Nat.le_of_ble_eq_true rfl⟩ [0, 1, 2] (by decide) rfl [some 0, some 1, some 2] (by decide) rfl rfl 0 rfl rfl rfl rfl (Nat.le_of_ble_eq_true rfl) dX8_tenant_1 rfl rfl ?_
  refine j_pop K rfl dX8_tenant_4 rfl ?_
  refine j_aload_n K 0 rfl dX8_tenant_5 rfl ?_
  refine j_iload_n K 1 rfl dX8_tenant_6 rfl ?_
  obtain ⟨r_4, hc, h⟩ := bd1_some h
  refine j_callV (rest := []) (st1 := [.int r_4]) (ws' := (uX8_tenant cyI cyJ cyS a0 c_latest c_typed c_tenants_2 c_room c_events c_gone c_audit c_sights c_drawn c_bytes c_tenant_3)) (T := TX8) (N := 29) (ci := 8) K (ctX8_isTenant l D cyI cyJ cyS a0 i1 c_latest c_typed c_room c_events c_gone c_audit c_sights c_drawn c_tenants_2 r_4 hc) (gdV mcL mw_10_5 mw_10_6 mw_10_7 mw_1_5 mw_10_8) rfl ⟨rfl, rfl⟩ hyX8_isTenant ⟨Nat.le_of_ble_eq_true rfl, Nat.le_of_ble_eq_true rfl, Nat.le_of_ble_eq_true rfl, Nat.le_of_ble_eq_true rfl⟩ [0] (by decide) rfl [some 0, none, none] (by decide) rfl rfl 0 rfl rfl rfl rfl (Nat.le_of_ble_eq_true rfl) dX8_tenant_7 rfl rfl ?_
  refine j_if_eq (tgt := 38) K dX8_tenant_10 (by decide) rfl h (fun h => ?_) (fun h => ?_)
  · refine j_bipush (v := (-2 : Int32)) K (by decide) dX8_tenant_38 rfl ?_
    obtain ⟨e1, g1⟩ := Prod.mk.inj (Option.some.inj h)
    subst e1
    obtain ⟨e2, g2⟩ := Prod.mk.inj g1
    subst e2
    subst g2
    exact j_iret K dX8_tenant_40
  · refine j_iload_n K 2 rfl dX8_tenant_13 rfl ?_
    refine j_i2l K dX8_tenant_14 rfl ?_
    refine j_lconst (v := (0 : Int64)) K (by decide) dX8_tenant_15 rfl ?_
    refine j_ldc2 (v := (2 : Int64)) K (List.mem_cons_of_mem _ mw_10_4) dX8_tenant_16 rfl ?_
    obtain ⟨r_5, hc, h⟩ := bd1_some h
    refine j_callS (rest := []) (st1 := [.int r_5]) (ws' := (uX8_tenant cyI cyJ cyS a0 c_latest c_typed c_tenants_2 c_room c_events c_gone c_audit c_sights c_drawn c_bytes c_tenant_3)) K (ctX8_in l D cyI cyJ cyS (Int32.toInt64 i2) (0 : Int64) (2 : Int64) r_5 hc) (gdS mcL mw_7_22 mw_7_23 mw_1_5 mw_8_0) rfl ⟨rfl, rfl⟩ hzX8_in ⟨Nat.le_of_ble_eq_true rfl, Nat.le_of_ble_eq_true rfl, Nat.le_of_ble_eq_true rfl, Nat.le_of_ble_eq_true rfl⟩ [] (by decide) rfl [none, none, none] (by decide) rfl rfl rfl rfl (Nat.le_of_ble_eq_true rfl) dX8_tenant_19 rfl rfl ?_
    refine j_if_eq (tgt := 38) K dX8_tenant_22 (by decide) rfl h (fun h => ?_) (fun h => ?_)
    · refine j_bipush (v := (-2 : Int32)) K (by decide) dX8_tenant_38 rfl ?_
      obtain ⟨e1, g1⟩ := Prod.mk.inj (Option.some.inj h)
      subst e1
      obtain ⟨e2, g2⟩ := Prod.mk.inj g1
      subst e2
      subst g2
      exact j_iret K dX8_tenant_40
    · refine j_aload_n K 0 rfl dX8_tenant_25 rfl ?_
      refine j_getf (C := RX8) (T := TX8) (N := 29) (ci := 8) K icX8 0 8 (List.mem_cons_of_mem _ mw_5_13) rfl rfl rfl (by decide) rfl dX8_tenant_26 rfl ?_
      refine j_iconst (v := (3 : Int32)) K (by decide) dX8_tenant_29 rfl ?_
      refine j_iload_n K 1 rfl dX8_tenant_30 rfl ?_
      refine j_imul K dX8_tenant_31 rfl ?_
      refine j_iload_n K 2 rfl dX8_tenant_32 rfl ?_
      refine j_iadd K dX8_tenant_33 rfl ?_
      refine j_iald K 2 0 rfl rfl dX8_tenant_34 rfl h (fun v_6 h => ?_)
      refine j_goto (pc' := 40) K dX8_tenant_35 (by decide) ?_
      obtain ⟨e1, g1⟩ := Prod.mk.inj (Option.some.inj h)
      subst e1
      obtain ⟨e2, g2⟩ := Prod.mk.inj g1
      subst e2
      subst g2
      exact j_iret K dX8_tenant_40
abbrev uX8_room (cyI cyJ cyS : ClassId) (a0 : Nat → Nat) (c_latest : Int32) (c_typed : Int32) (c_tenants : Int32) (c_room : Int32) (c_events : Int32) (c_gone : Int32) (c_audit : Int32) (c_sights : Int32) (c_drawn : Int32) : va_W := [((a0 0), .inr (8, [.ref (a0 1), .ref (a0 2), .ref (a0 3), .ref (a0 4), .int c_latest, .ref (a0 5), .int c_typed, .int c_tenants, .ref (a0 6), .int c_room, .int c_events, .ref (a0 7), .int c_gone, .ref (a0 8), .ref (a0 9), .ref (a0 10), .ref (a0 11), .ref (a0 12), .ref (a0 13), .ref (a0 14), .ref (a0 15), .ref (a0 16), .ref (a0 17), .ref (a0 18), .int c_audit, .int c_sights, .ref (a0 19), .ref (a0 20), .int c_drawn]))]
abbrev rmX8_room : Room := { frames := 1, cells := 0, slots := 0, locals := 25 }
abbrev wdX8_room : List Cond := .code yX8_room cX8_room 3 (some .int) :: wsL_law
theorem hyX8_room : yX8_room.cls = RX8 ∧ yX8_room.cls ≠ "java/lang/invoke/MethodHandle" ∧ yX8_room.cls ≠ "java/lang/invoke/VarHandle" ∧ (parseMethodDescriptor yX8_room.desc).map (fun d => d.parameters.length) = some 1 := by decide +kernel
set_option maxRecDepth 100000 in
set_option maxHeartbeats 4000000 in
theorem ctX8_room (l : Launch) (D : va_G) (cyI cyJ cyS : ClassId) (a0 : Nat → Nat) (i1 : Int32) (c_latest : Int32) (c_typed : Int32) (c_tenants : Int32) (c_events : Int32) (c_gone : Int32) (c_audit : Int32) (c_sights : Int32) (c_drawn : Int32) (c_room : Int32) (o_r : Int32) (o_room : Int32) (h : fX8_room i1 c_room = some (o_r, o_room)) : jC l yX8_room wdX8_room rmX8_room D vwCl (tyz cyI cyJ cyS) [.ref (a0 0), .int i1] (uX8_room cyI cyJ cyS a0 c_latest c_typed c_tenants c_room c_events c_gone c_audit c_sights c_drawn) (some (.int o_r)) (uX8_room cyI cyJ cyS a0 c_latest c_typed c_tenants o_room c_events c_gone c_audit c_sights c_drawn) := by
  refine jC_of (cc := cX8_room) (nL := 3) (ret := (some .int)) (own := RX8) (lv := [(0, .ref (a0 0)), (1, .int i1)]) (by decide) rfl rfl (Nat.le_of_ble_eq_true rfl) rfl ?_
  intro p e s m args below meth c A K
  unfold fX8_room at h
  refine j_iload_n K 1 rfl dX8_room_0 rfl ?_
  refine j_i2l K dX8_room_1 rfl ?_
  refine j_lconst (v := (1 : Int64)) K (by decide) dX8_room_2 rfl ?_
  refine j_ldc2 (v := (8 : Int64)) K (List.mem_cons_of_mem _ mw_10_17) dX8_room_3 rfl ?_
  obtain ⟨r_1, hc, h⟩ := bd1_some h
  refine j_callS (rest := []) (st1 := [.int r_1]) (ws' := (uX8_room cyI cyJ cyS a0 c_latest c_typed c_tenants c_room c_events c_gone c_audit c_sights c_drawn)) K (ctX8_in l D cyI cyJ cyS (Int32.toInt64 i1) (1 : Int64) (8 : Int64) r_1 hc) (gdS mcL mw_7_22 mw_7_23 mw_1_5 mw_8_0) rfl ⟨rfl, rfl⟩ hzX8_in ⟨Nat.le_of_ble_eq_true rfl, Nat.le_of_ble_eq_true rfl, Nat.le_of_ble_eq_true rfl, Nat.le_of_ble_eq_true rfl⟩ [] (by decide) rfl [none] (by decide) rfl rfl rfl rfl (Nat.le_of_ble_eq_true rfl) dX8_room_6 rfl rfl ?_
  refine j_if_ne (tgt := 15) K dX8_room_9 (by decide) rfl h (fun h => ?_) (fun h => ?_)
  · refine j_aload_n K 0 rfl dX8_room_15 rfl ?_
    refine j_getf (C := RX8) (T := TX8) (N := 29) (ci := 8) K icX8 0 9 (List.mem_cons_of_mem _ mw_6_5) rfl rfl rfl (by decide) rfl dX8_room_16 rfl ?_
    refine j_istore_n (lv' := [(2, .int c_room), (0, .ref (a0 0)), (1, .int i1)]) K (by decide) rfl dX8_room_19 rfl ?_
    refine j_aload_n K 1 rfl dX8_room_20 rfl ?_
    refine j_iload_n K 2 rfl dX8_room_21 rfl ?_
    refine j_putf (C := RX8) (T := TX8) (N := 29) (ci := 8) (ty := .int) (ws' := (uX8_room cyI cyJ cyS a0 c_latest c_typed c_tenants i1 c_events c_gone c_audit c_sights c_drawn)) K icX8 tyX8 tyX8_ok nmX8 0 9 (List.mem_cons_of_mem _ mw_6_5) rfl rfl rfl (by decide) rfl (by decide +kernel) rfl rfl (Nat.le_of_ble_eq_true rfl) rfl dX8_room_22 rfl ?_
    refine j_iload_n K 0 rfl dX8_room_25 rfl ?_
    obtain ⟨e1, g1⟩ := Prod.mk.inj (Option.some.inj h)
    subst e1
    subst g1
    exact j_iret K dX8_room_26
  · refine j_bipush (v := (-2 : Int32)) K (by decide) dX8_room_12 rfl ?_
    obtain ⟨e1, g1⟩ := Prod.mk.inj (Option.some.inj h)
    subst e1
    subst g1
    exact j_iret K dX8_room_14
end GEN
