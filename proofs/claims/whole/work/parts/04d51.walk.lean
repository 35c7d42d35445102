section GEN
variable {p : Program} {l : Launch} {e : Env} {s : State} {m : MethodId} {args : Array Value} {below : List Frame} {meth : Method} {c : Code} {A : Nat → Prop} {D : va_G} {cyI cyJ cyS : ClassId}
abbrev uX8_wanted (cyI cyJ cyS : ClassId) (a0 : Nat → Nat) (c_latest : Int32) (c_typed : Int32) (c_tenants : Int32) (c_room : Int32) (c_events : Int32) (c_gone : Int32) (c_audit : Int32) (c_sights : Int32) (c_drawn : Int32) (c_left : Nat → Int32) : va_W := [((a0 0), .inr (8, [.ref (a0 1), .ref (a0 2), .ref (a0 3), .ref (a0 4), .int c_latest, .ref (a0 5), .int c_typed, .int c_tenants, .ref (a0 6), .int c_room, .int c_events, .ref (a0 7), .int c_gone, .ref (a0 8), .ref (a0 9), .ref (a0 10), .ref (a0 11), .ref (a0 12), .ref (a0 13), .ref (a0 14), .ref (a0 15), .ref (a0 16), .ref (a0 17), .ref (a0 18), .int c_audit, .int c_sights, .ref (a0 19), .ref (a0 20), .int c_drawn])), ((a0 10), .inl (cyI, 8, .inl c_left))]
abbrev rmX8_wanted : Room := { frames := 1, cells := 0, slots := 0, locals := 21 }
abbrev wdX8_wanted : List Cond := .code yX8_wanted cX8_wanted 2 (some .int) :: wsL_law
theorem hyX8_wanted : yX8_wanted.cls = RX8 ∧ yX8_wanted.cls ≠ "java/lang/invoke/MethodHandle" ∧ yX8_wanted.cls ≠ "java/lang/invoke/VarHandle" ∧ (parseMethodDescriptor yX8_wanted.desc).map (fun d => d.parameters.length) = some 1 := by decide +kernel
set_option maxRecDepth 100000 in
set_option maxHeartbeats 4000000 in
theorem wX8_wanted_33 (K : jK p s m args meth c A D vwCl (tyz cyI cyJ cyS) cX8_wanted 2 RX8 wdX8_wanted (some .int)) (a0 : Nat → Nat) (c_latest : Int32) (c_typed : Int32) (c_tenants : Int32) (c_room : Int32) (c_events : Int32) (c_gone : Int32) (c_sights : Int32) (c_drawn : Int32) (i1 : Int32) (c_audit : Int32) (c_left : Nat → Int32) (o_r : Int32)   : ∀ (t0 : Int32) (t1 : Int32), fX8_wanted_33 i1 c_audit c_left  t0 t1 = some (o_r) → jw p l e rmX8_wanted s m args below meth c (jQ below args s A D vwCl (tyz cyI cyJ cyS) 0 0 (some (.int o_r)) (uX8_wanted cyI cyJ cyS a0 c_latest c_typed c_tenants c_room c_events c_gone c_audit c_sights c_drawn c_left)) A D vwCl 2 0 0 33 [] [.int t0, .int t1] (uX8_wanted cyI cyJ cyS a0 c_latest c_typed c_tenants c_room c_events c_gone c_audit c_sights c_drawn c_left) := by
  intro t0 t1 h
  unfold fX8_wanted_33 at h
  refine j_iadd K dX8_wanted_33 rfl ?_
  refine j_bipush (v := (12 : Int32)) K (by decide) dX8_wanted_34 rfl ?_
  obtain ⟨r_3, hc, h⟩ := bd1_some h
  refine j_callS (rest := []) (st1 := [.int r_3]) (ws' := (uX8_wanted cyI cyJ cyS a0 c_latest c_typed c_tenants c_room c_events c_gone c_audit c_sights c_drawn c_left)) K (ctX8_lesser l D cyI cyJ cyS (t1 + t0) (12 : Int32) r_3 hc) (gdS mcL mw_18_13 mw_18_14 mw_1_5 mw_18_15) rfl ⟨rfl, rfl⟩ hzX8_lesser ⟨Nat.le_of_ble_eq_true rfl, Nat.le_of_ble_eq_true rfl, Nat.le_of_ble_eq_true rfl, Nat.le_of_ble_eq_true rfl⟩ [] (by decide) rfl [none, none] (by decide) rfl rfl rfl rfl (Nat.le_of_ble_eq_true rfl) dX8_wanted_36 rfl rfl ?_
  have h := Option.some.inj h
  subst h
  exact j_iret K dX8_wanted_39
set_option maxRecDepth 100000 in
set_option maxHeartbeats 4000000 in
theorem ctX8_wanted (l : Launch) (D : va_G) (cyI cyJ cyS : ClassId) (a0 : Nat → Nat) (i1 : Int32) (c_latest : Int32) (c_typed : Int32) (c_tenants : Int32) (c_room : Int32) (c_events : Int32) (c_gone : Int32) (c_sights : Int32) (c_drawn : Int32) (c_audit : Int32) (c_left : Nat → Int32) (o_r : Int32) (h : fX8_wanted i1 c_audit c_left = some (o_r)) : jC l yX8_wanted wdX8_wanted rmX8_wanted D vwCl (tyz cyI cyJ cyS) [.ref (a0 0), .int i1] (uX8_wanted cyI cyJ cyS a0 c_latest c_typed c_tenants c_room c_events c_gone c_audit c_sights c_drawn c_left) (some (.int o_r)) (uX8_wanted cyI cyJ cyS a0 c_latest c_typed c_tenants c_room c_events c_gone c_audit c_sights c_drawn c_left) := by
  refine jC_of (cc := cX8_wanted) (nL := 2) (ret := (some .int)) (own := RX8) (lv := [(0, .ref (a0 0)), (1, .int i1)]) (by decide) rfl rfl (Nat.le_of_ble_eq_true rfl) rfl ?_
  intro p e s m args below meth c A K
  unfold fX8_wanted at h
  refine j_aload_n K 0 rfl dX8_wanted_0 rfl ?_
  refine j_getf (C := RX8) (T := TX8) (N := 29) (ci := 8) K icX8 0 15 (List.mem_cons_of_mem _ mw_5_17) rfl rfl rfl (by decide) rfl dX8_wanted_1 rfl ?_
  refine j_iload_n K 1 rfl dX8_wanted_4 rfl ?_
  refine j_iald K 1 0 rfl rfl dX8_wanted_5 rfl h (fun v_1 h => ?_)
  refine j_if_ge (tgt := 13) K dX8_wanted_6 (by decide) rfl h (fun h => ?_) (fun h => ?_)
  · refine j_aload_n K 0 rfl dX8_wanted_13 rfl ?_
    refine j_getf (C := RX8) (T := TX8) (N := 29) (ci := 8) K icX8 0 15 (List.mem_cons_of_mem _ mw_5_17) rfl rfl rfl (by decide) rfl dX8_wanted_14 rfl ?_
    refine j_iload_n K 1 rfl dX8_wanted_17 rfl ?_
    refine j_iald K 1 0 rfl rfl dX8_wanted_18 rfl h (fun v_2 h => ?_)
    refine j_iconst (v := (3 : Int32)) K (by decide) dX8_wanted_19 rfl ?_
    refine j_idiv K (by decide) dX8_wanted_20 rfl ?_
    refine j_aload_n K 0 rfl dX8_wanted_21 rfl ?_
    refine j_getf (C := RX8) (T := TX8) (N := 29) (ci := 8) K icX8 0 24 (List.mem_cons_of_mem _ mw_18_4) rfl rfl rfl (by decide) rfl dX8_wanted_22 rfl ?_
    refine j_if_eq (tgt := 32) K dX8_wanted_25 (by decide) rfl h (fun h => ?_) (fun h => ?_)
    · refine j_iconst (v := (1 : Int32)) K (by decide) dX8_wanted_32 rfl ?_
      refine j_sub [] (lv' := []) rfl ?_
      exact wX8_wanted_33 K a0 c_latest c_typed c_tenants c_room c_events c_gone c_sights c_drawn i1 c_audit c_left o_r (1 : Int32) (v_2 / (3 : Int32)) h
    · refine j_iconst (v := (0 : Int32)) K (by decide) dX8_wanted_28 rfl ?_
      refine j_goto (pc' := 33) K dX8_wanted_29 (by decide) ?_
      refine j_sub [] (lv' := []) rfl ?_
      exact wX8_wanted_33 K a0 c_latest c_typed c_tenants c_room c_events c_gone c_sights c_drawn i1 c_audit c_left o_r (0 : Int32) (v_2 / (3 : Int32)) h
  · refine j_iconst (v := (0 : Int32)) K (by decide) dX8_wanted_9 rfl ?_
    refine j_goto (pc' := 39) K dX8_wanted_10 (by decide) ?_
    have h := Option.some.inj h
    subst h
    exact j_iret K dX8_wanted_39
end GEN
