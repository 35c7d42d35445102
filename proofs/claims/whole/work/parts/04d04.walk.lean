section GEN
variable {p : Program} {l : Launch} {e : Env} {s : State} {m : MethodId} {args : Array Value} {below : List Frame} {meth : Method} {c : Code} {A : Nat → Prop} {D : va_G} {cyI cyJ cyS : ClassId}
abbrev uX7_found (cyI cyJ cyS : ClassId) (a0 : Nat → Nat) (c_room : Int32) (c_finding : Int32) (c_courseKnown : Int32) (c_settledByKnown : Int32) : va_W := [((a0 0), .inr (7, [.ref (a0 1), .ref (a0 3), .ref (a0 7), .ref (a0 11), .ref (a0 15), .ref (a0 19), .ref (a0 31), .ref (a0 43), .ref (a0 44), .ref (a0 53), .ref (a0 54), .int c_room, .int c_finding, .int c_courseKnown, .int c_settledByKnown]))]
abbrev rmX7_found : Room := { frames := 0, cells := 0, slots := 0, locals := 0 }
abbrev wdX7_found : List Cond := .code yX7_found cX7_found 2 (some .int) :: wsL_law
theorem hyX7_found : yX7_found.cls = RX7 ∧ yX7_found.cls ≠ "java/lang/invoke/MethodHandle" ∧ yX7_found.cls ≠ "java/lang/invoke/VarHandle" ∧ (parseMethodDescriptor yX7_found.desc).map (fun d => d.parameters.length) = some 1 := by decide +kernel
set_option maxRecDepth 100000 in
set_option maxHeartbeats 4000000 in
theorem ctX7_found (l : Launch) (D : va_G) (cyI cyJ cyS : ClassId) (a0 : Nat → Nat) (i1 : Int32) (c_room : Int32) (c_courseKnown : Int32) (c_settledByKnown : Int32) (c_finding : Int32) (o_r : Int32) (o_finding : Int32) (h : fX7_found i1 c_finding = some (o_r, o_finding)) : jC l yX7_found wdX7_found rmX7_found D vwCl (tyz cyI cyJ cyS) [.ref (a0 0), .int i1] (uX7_found cyI cyJ cyS a0 c_room c_finding c_courseKnown c_settledByKnown) (some (.int o_r)) (uX7_found cyI cyJ cyS a0 c_room o_finding c_courseKnown c_settledByKnown) := by
  refine jC_of (cc := cX7_found) (nL := 2) (ret := (some .int)) (own := RX7) (lv := [(0, .ref (a0 0)), (1, .int i1)]) (by decide) rfl rfl (Nat.le_of_ble_eq_true rfl) rfl ?_
  intro p e s m args below meth c A K
  unfold fX7_found at h
  refine j_aload_n K 0 rfl dX7_found_0 rfl ?_
  refine j_iload_n K 1 rfl dX7_found_1 rfl ?_
  refine j_putf (C := RX7) (T := TX7) (N := 15) (ci := 7) (ty := .int) (ws' := (uX7_found cyI cyJ cyS a0 c_room i1 c_courseKnown c_settledByKnown)) K icX7 tyX7 tyX7_ok nmX7 0 12 (List.mem_cons_of_mem _ mw_2_20) rfl rfl rfl (by decide) rfl (by decide +kernel) rfl rfl (Nat.le_of_ble_eq_true rfl) rfl dX7_found_2 rfl ?_
  refine j_bipush (v := (-10 : Int32)) K (by decide) dX7_found_5 rfl ?_
  refine j_iload_n K 1 rfl dX7_found_7 rfl ?_
  refine j_isub K dX7_found_8 rfl ?_
  obtain ⟨e1, g1⟩ := Prod.mk.inj (Option.some.inj h)
  subst e1
  subst g1
  exact j_iret K dX7_found_9
end GEN
