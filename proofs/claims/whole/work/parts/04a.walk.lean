section GEN
variable {p : Program} {l : Launch} {e : Env} {s : State} {m : MethodId} {args : Array Value} {below : List Frame} {meth : Method} {c : Code} {A : Nat → Prop} {D : va_G} {cyI cyJ cyS : ClassId}
abbrev uX0_clear (cyI cyJ cyS : ClassId) (a0 : Nat → Nat) (c_which : Int32) (c_settled : Int32) (c_falls : Int32) : va_W := [((a0 0), .inr (0, [.int c_which, .int c_settled, .int c_falls]))]
abbrev rmX0_clear : Room := { frames := 0, cells := 0, slots := 0, locals := 0 }
abbrev wdX0_clear : List Cond := .code yX0_clear cX0_clear 1 none :: wsL_law
theorem hyX0_clear : yX0_clear.cls = RX0 ∧ yX0_clear.cls ≠ "java/lang/invoke/MethodHandle" ∧ yX0_clear.cls ≠ "java/lang/invoke/VarHandle" ∧ (parseMethodDescriptor yX0_clear.desc).map (fun d => d.parameters.length) = some 0 := by decide +kernel
set_option maxRecDepth 100000 in
set_option maxHeartbeats 4000000 in
theorem ctX0_clear (l : Launch) (D : va_G) (cyI cyJ cyS : ClassId) (a0 : Nat → Nat) (c_settled : Int32) (c_falls : Int32) (c_which : Int32) (o_which : Int32) (h : fX0_clear c_which = some (o_which)) : jC l yX0_clear wdX0_clear rmX0_clear D vwCl (tyz cyI cyJ cyS) [.ref (a0 0)] (uX0_clear cyI cyJ cyS a0 c_which c_settled c_falls) none (uX0_clear cyI cyJ cyS a0 o_which c_settled c_falls) := by
  refine jC_of (cc := cX0_clear) (nL := 1) (ret := none) (own := RX0) (lv := [(0, .ref (a0 0))]) (by decide) rfl rfl (Nat.le_of_ble_eq_true rfl) rfl ?_
  intro p e s m args below meth c A K
  unfold fX0_clear at h
  refine j_aload_n K 0 rfl dX0_clear_0 rfl ?_
  refine j_iconst (v := (-1 : Int32)) K (by decide) dX0_clear_1 rfl ?_
  refine j_putf (C := RX0) (T := TX0) (N := 3) (ci := 0) (ty := .int) (ws' := (uX0_clear cyI cyJ cyS a0 (-1 : Int32) c_settled c_falls)) K icX0 tyX0 tyX0_ok nmX0 0 0 (List.mem_cons_of_mem _ mw_26_2) rfl rfl rfl (by decide) rfl (by decide +kernel) rfl rfl (Nat.le_of_ble_eq_true rfl) rfl dX0_clear_2 rfl ?_
  have h := Option.some.inj h
  subst h
  exact j_vret K dX0_clear_5
abbrev uX0_offer (cyI cyJ cyS : ClassId) (a0 : Nat → Nat) (c_which : Int32) (c_settled : Int32) (c_falls : Int32) : va_W := [((a0 0), .inr (0, [.int c_which, .int c_settled, .int c_falls]))]
abbrev rmX0_offer : Room := { frames := 0, cells := 0, slots := 0, locals := 0 }
abbrev wdX0_offer : List Cond := .code yX0_offer cX0_offer 4 none :: wsL_law
theorem hyX0_offer : yX0_offer.cls = RX0 ∧ yX0_offer.cls ≠ "java/lang/invoke/MethodHandle" ∧ yX0_offer.cls ≠ "java/lang/invoke/VarHandle" ∧ (parseMethodDescriptor yX0_offer.desc).map (fun d => d.parameters.length) = some 3 := by decide +kernel
set_option maxRecDepth 100000 in
set_option maxHeartbeats 4000000 in
theorem wX0_offer_32 (K : jK p s m args meth c A D vwCl (tyz cyI cyJ cyS) cX0_offer 4 RX0 wdX0_offer none) (a0 : Nat → Nat)  (i1 : Int32) (i2 : Int32) (i3 : Int32) (o_which : Int32) (o_settled : Int32) (o_falls : Int32)   : ∀ (c_which : Int32) (c_settled : Int32) (c_falls : Int32), fX0_offer_32 i1 i2 i3  c_which c_settled c_falls = some (o_which, o_settled, o_falls) → jw p l e rmX0_offer s m args below meth c (jQ below args s A D vwCl (tyz cyI cyJ cyS) 0 0 none (uX0_offer cyI cyJ cyS a0 o_which o_settled o_falls)) A D vwCl 4 0 0 32 [(0, .ref (a0 0)), (1, .int i1), (2, .int i2), (3, .int i3)] [] (uX0_offer cyI cyJ cyS a0 c_which c_settled c_falls) := by
  intro c_which c_settled c_falls h
  unfold fX0_offer_32 at h
  refine j_aload_n K 0 rfl dX0_offer_32 rfl ?_
  refine j_iload_n K 1 rfl dX0_offer_33 rfl ?_
  refine j_putf (C := RX0) (T := TX0) (N := 3) (ci := 0) (ty := .int) (ws' := (uX0_offer cyI cyJ cyS a0 i1 c_settled c_falls)) K icX0 tyX0 tyX0_ok nmX0 0 0 (List.mem_cons_of_mem _ mw_26_2) rfl rfl rfl (by decide) rfl (by decide +kernel) rfl rfl (Nat.le_of_ble_eq_true rfl) rfl dX0_offer_34 rfl ?_
  refine j_aload_n K 0 rfl dX0_offer_37 rfl ?_
  refine j_iload_n K 2 rfl dX0_offer_38 rfl ?_
  refine j_putf (C := RX0) (T := TX0) (N := 3) (ci := 0) (ty := .int) (ws' := (uX0_offer cyI cyJ cyS a0 i1 i2 c_falls)) K icX0 tyX0 tyX0_ok nmX0 0 1 (List.mem_cons_of_mem _ mw_26_11) rfl rfl rfl (by decide) rfl (by decide +kernel) rfl rfl (Nat.le_of_ble_eq_true rfl) rfl dX0_offer_39 rfl ?_
  refine j_aload_n K 0 rfl dX0_offer_42 rfl ?_
  refine j_iload_n K 3 rfl dX0_offer_43 rfl ?_
  refine j_putf (C := RX0) (T := TX0) (N := 3) (ci := 0) (ty := .int) (ws' := (uX0_offer cyI cyJ cyS a0 i1 i2 i3)) K icX0 tyX0 tyX0_ok nmX0 0 2 (List.mem_cons_of_mem _ mw_26_12) rfl rfl rfl (by decide) rfl (by decide +kernel) rfl rfl (Nat.le_of_ble_eq_true rfl) rfl dX0_offer_44 rfl ?_
  obtain ⟨e1, g1⟩ := Prod.mk.inj (Option.some.inj h)
  subst e1
  obtain ⟨e2, g2⟩ := Prod.mk.inj g1
  subst e2
  subst g2
  exact j_vret K dX0_offer_47
set_option maxRecDepth 100000 in
set_option maxHeartbeats 4000000 in
theorem ctX0_offer (l : Launch) (D : va_G) (cyI cyJ cyS : ClassId) (a0 : Nat → Nat) (i1 : Int32) (i2 : Int32) (i3 : Int32) (c_which : Int32) (c_settled : Int32) (c_falls : Int32) (o_which : Int32) (o_settled : Int32) (o_falls : Int32) (h : fX0_offer i1 i2 i3 c_which c_settled c_falls = some (o_which, o_settled, o_falls)) : jC l yX0_offer wdX0_offer rmX0_offer D vwCl (tyz cyI cyJ cyS) [.ref (a0 0), .int i1, .int i2, .int i3] (uX0_offer cyI cyJ cyS a0 c_which c_settled c_falls) none (uX0_offer cyI cyJ cyS a0 o_which o_settled o_falls) := by
  refine jC_of (cc := cX0_offer) (nL := 4) (ret := none) (own := RX0) (lv := [(0, .ref (a0 0)), (1, .int i1), (2, .int i2), (3, .int i3)]) (by decide) rfl rfl (Nat.le_of_ble_eq_true rfl) rfl ?_
  intro p e s m args below meth c A K
  unfold fX0_offer at h
  refine j_aload_n K 0 rfl dX0_offer_0 rfl ?_
  refine j_getf (C := RX0) (T := TX0) (N := 3) (ci := 0) K icX0 0 0 (List.mem_cons_of_mem _ mw_26_2) rfl rfl rfl (by decide) rfl dX0_offer_1 rfl ?_
  refine j_iconst (v := (-1 : Int32)) K (by decide) dX0_offer_4 rfl ?_
  refine j_icmp_eq (tgt := 32) K dX0_offer_5 (by decide) rfl h (fun h => ?_) (fun h => ?_)
  · refine j_sub [0, 1, 2, 3] (lv' := [(0, .ref (a0 0)), (1, .int i1), (2, .int i2), (3, .int i3)]) rfl ?_
    exact wX0_offer_32 K a0 i1 i2 i3 o_which o_settled o_falls c_which c_settled c_falls h
  · refine j_iload_n K 2 rfl dX0_offer_8 rfl ?_
    refine j_aload_n K 0 rfl dX0_offer_9 rfl ?_
    refine j_getf (C := RX0) (T := TX0) (N := 3) (ci := 0) K icX0 0 1 (List.mem_cons_of_mem _ mw_26_11) rfl rfl rfl (by decide) rfl dX0_offer_10 rfl ?_
    refine j_icmp_lt (tgt := 32) K dX0_offer_13 (by decide) rfl h (fun h => ?_) (fun h => ?_)
    · refine j_sub [0, 1, 2, 3] (lv' := [(0, .ref (a0 0)), (1, .int i1), (2, .int i2), (3, .int i3)]) rfl ?_
      exact wX0_offer_32 K a0 i1 i2 i3 o_which o_settled o_falls c_which c_settled c_falls h
    · refine j_iload_n K 2 rfl dX0_offer_16 rfl ?_
      refine j_aload_n K 0 rfl dX0_offer_17 rfl ?_
      refine j_getf (C := RX0) (T := TX0) (N := 3) (ci := 0) K icX0 0 1 (List.mem_cons_of_mem _ mw_26_11) rfl rfl rfl (by decide) rfl dX0_offer_18 rfl ?_
      refine j_icmp_ne (tgt := 47) K dX0_offer_21 (by decide) rfl h (fun h => ?_) (fun h => ?_)
      · obtain ⟨e1, g1⟩ := Prod.mk.inj (Option.some.inj h)
        subst e1
        obtain ⟨e2, g2⟩ := Prod.mk.inj g1
        subst e2
        subst g2
        exact j_vret K dX0_offer_47
      · refine j_iload_n K 3 rfl dX0_offer_24 rfl ?_
        refine j_aload_n K 0 rfl dX0_offer_25 rfl ?_
        refine j_getf (C := RX0) (T := TX0) (N := 3) (ci := 0) K icX0 0 2 (List.mem_cons_of_mem _ mw_26_12) rfl rfl rfl (by decide) rfl dX0_offer_26 rfl ?_
        refine j_icmp_ge (tgt := 47) K dX0_offer_29 (by decide) rfl h (fun h => ?_) (fun h => ?_)
        · obtain ⟨e1, g1⟩ := Prod.mk.inj (Option.some.inj h)
          subst e1
          obtain ⟨e2, g2⟩ := Prod.mk.inj g1
          subst e2
          subst g2
          exact j_vret K dX0_offer_47
        · refine j_sub [0, 1, 2, 3] (lv' := [(0, .ref (a0 0)), (1, .int i1), (2, .int i2), (3, .int i3)]) rfl ?_
          exact wX0_offer_32 K a0 i1 i2 i3 o_which o_settled o_falls c_which c_settled c_falls h
abbrev uX0_part (cyI cyJ cyS : ClassId) (a0 : Nat → Nat) (c_which : Int32) (c_settled : Int32) (c_falls : Int32) : va_W := [((a0 0), .inr (0, [.int c_which, .int c_settled, .int c_falls]))]
abbrev rmX0_part : Room := { frames := 0, cells := 0, slots := 0, locals := 0 }
abbrev wdX0_part : List Cond := .code yX0_part cX0_part 2 (some .int) :: wsL_law
theorem hyX0_part : yX0_part.cls = RX0 ∧ yX0_part.cls ≠ "java/lang/invoke/MethodHandle" ∧ yX0_part.cls ≠ "java/lang/invoke/VarHandle" ∧ (parseMethodDescriptor yX0_part.desc).map (fun d => d.parameters.length) = some 1 := by decide +kernel
set_option maxRecDepth 100000 in
set_option maxHeartbeats 4000000 in
theorem ctX0_part (l : Launch) (D : va_G) (cyI cyJ cyS : ClassId) (a0 : Nat → Nat) (i1 : Int32) (c_which : Int32) (c_settled : Int32) (c_falls : Int32) (o_r : Int32) (h : fX0_part i1 c_which c_settled c_falls = some (o_r)) : jC l yX0_part wdX0_part rmX0_part D vwCl (tyz cyI cyJ cyS) [.ref (a0 0), .int i1] (uX0_part cyI cyJ cyS a0 c_which c_settled c_falls) (some (.int o_r)) (uX0_part cyI cyJ cyS a0 c_which c_settled c_falls) := by
  refine jC_of (cc := cX0_part) (nL := 2) (ret := (some .int)) (own := RX0) (lv := [(0, .ref (a0 0)), (1, .int i1)]) (by decide) rfl rfl (Nat.le_of_ble_eq_true rfl) rfl ?_
  intro p e s m args below meth c A K
  unfold fX0_part at h
  refine j_iload_n K 1 rfl dX0_part_0 rfl ?_
  refine j_if_ne (tgt := 9) K dX0_part_1 (by decide) rfl h (fun h => ?_) (fun h => ?_)
  · refine j_iload_n K 1 rfl dX0_part_9 rfl ?_
    refine j_iconst (v := (1 : Int32)) K (by decide) dX0_part_10 rfl ?_
    refine j_icmp_ne (tgt := 21) K dX0_part_11 (by decide) rfl h (fun h => ?_) (fun h => ?_)
    · refine j_aload_n K 0 rfl dX0_part_21 rfl ?_
      refine j_getf (C := RX0) (T := TX0) (N := 3) (ci := 0) K icX0 0 2 (List.mem_cons_of_mem _ mw_26_12) rfl rfl rfl (by decide) rfl dX0_part_22 rfl ?_
      have h := Option.some.inj h
      subst h
      exact j_iret K dX0_part_25
    · refine j_aload_n K 0 rfl dX0_part_14 rfl ?_
      refine j_getf (C := RX0) (T := TX0) (N := 3) (ci := 0) K icX0 0 1 (List.mem_cons_of_mem _ mw_26_11) rfl rfl rfl (by decide) rfl dX0_part_15 rfl ?_
      refine j_goto (pc' := 25) K dX0_part_18 (by decide) ?_
      have h := Option.some.inj h
      subst h
      exact j_iret K dX0_part_25
  · refine j_aload_n K 0 rfl dX0_part_4 rfl ?_
    refine j_getf (C := RX0) (T := TX0) (N := 3) (ci := 0) K icX0 0 0 (List.mem_cons_of_mem _ mw_26_2) rfl rfl rfl (by decide) rfl dX0_part_5 rfl ?_
    have h := Option.some.inj h
    subst h
    exact j_iret K dX0_part_8
abbrev uX1_begin (cyI cyJ cyS : ClassId) (a0 : Nat → Nat) (a1 : Nat → Nat) (c_size : Int32) (c_settled : Nat → Int32) (c_falls : Nat → Int32) (c_passed : Nat → Int32) (c_floor : Nat → Int32) (c_left : Nat → Int32) (c_order : Nat → Int32) (c1_size : Int32) (c1_paid : Nat → Int32) : va_W := [((a0 0), .inr (1, [.int c_size, .ref (a0 1), .ref (a0 2), .ref (a0 3), .ref (a0 4), .ref (a0 5), .ref (a0 6), .ref (a0 7), .ref (a0 8), .ref (a0 9), .ref (a0 10), .ref (a0 11)])), ((a0 1), .inl (cyI, 8, .inl c_settled)), ((a0 2), .inl (cyI, 8, .inl c_falls)), ((a0 3), .inl (cyI, 8, .inl c_passed)), ((a0 7), .inl (cyI, 8, .inl c_floor)), ((a0 9), .inl (cyI, 8, .inl c_left)), ((a0 10), .inl (cyI, 8, .inl c_order)), ((a1 0), .inr (5, [.ref (a1 1), .ref (a1 2), .ref (a1 3), .int c1_size])), ((a1 2), .inl (cyI, 8, .inl c1_paid))]
abbrev rmX1_begin : Room := { frames := 0, cells := 0, slots := 0, locals := 0 }
abbrev wdX1_begin : List Cond := .code yX1_begin cX1_begin 3 none :: wsL_law
theorem hyX1_begin : yX1_begin.cls = RX1 ∧ yX1_begin.cls ≠ "java/lang/invoke/MethodHandle" ∧ yX1_begin.cls ≠ "java/lang/invoke/VarHandle" ∧ (parseMethodDescriptor yX1_begin.desc).map (fun d => d.parameters.length) = some 1 := by decide +kernel
set_option maxRecDepth 100000 in
set_option maxHeartbeats 4000000 in
theorem wX1_begin_10 (K : jK p s m args meth c A D vwCl (tyz cyI cyJ cyS) cX1_begin 3 RX1 wdX1_begin none) (a0 : Nat → Nat) (a1 : Nat → Nat)  (c1_size : Int32) (c1_paid : Nat → Int32) (o_size : Int32) (o_settled : Nat → Int32) (o_falls : Nat → Int32) (o_passed : Nat → Int32) (o_floor : Nat → Int32) (o_left : Nat → Int32) (o_order : Nat → Int32)   : ∀ (n : Nat) (c_size : Int32) (c_settled : Nat → Int32) (c_falls : Nat → Int32) (c_passed : Nat → Int32) (c_floor : Nat → Int32) (c_left : Nat → Int32) (c_order : Nat → Int32) (i2 : Int32), fX1_begin_10 c1_size c1_paid  n c_size c_settled c_falls c_passed c_floor c_left c_order i2 = some (o_size, o_settled, o_falls, o_passed, o_floor, o_left, o_order) → jw p l e rmX1_begin s m args below meth c (jQ below args s A D vwCl (tyz cyI cyJ cyS) 0 0 none (uX1_begin cyI cyJ cyS a0 a1 o_size o_settled o_falls o_passed o_floor o_left o_order c1_size c1_paid)) A D vwCl 3 0 0 10 [(0, .ref (a0 0)), (1, .ref (a1 0)), (2, .int i2)] [] (uX1_begin cyI cyJ cyS a0 a1 c_size c_settled c_falls c_passed c_floor c_left c_order c1_size c1_paid) := by
  intro n
  induction n with
  | zero => intro c_size c_settled c_falls c_passed c_floor c_left c_order i2 h; cases h
  | succ n ih =>
    intro c_size c_settled c_falls c_passed c_floor c_left c_order i2 h
    have h : bX1_begin_10 c1_size c1_paid  (fX1_begin_10 c1_size c1_paid  n) c_size c_settled c_falls c_passed c_floor c_left c_order i2 = some (o_size, o_settled, o_falls, o_passed, o_floor, o_left, o_order) := h
    unfold bX1_begin_10 at h
    refine j_iload_n K 2 rfl dX1_begin_10 rfl ?_
    refine j_aload_n K 0 rfl dX1_begin_11 rfl ?_
    refine j_getf (C := RX1) (T := TX1) (N := 12) (ci := 1) K icX1 0 0 (List.mem_cons_of_mem _ mw_4_6) rfl rfl rfl (by decide) rfl dX1_begin_12 rfl ?_
    refine j_icmp_ge (tgt := 73) K dX1_begin_15 (by decide) rfl h (fun h => ?_) (fun h => ?_)
    · obtain ⟨e1, g1⟩ := Prod.mk.inj (Option.some.inj h)
      subst e1
      obtain ⟨e2, g2⟩ := Prod.mk.inj g1
      subst e2
      obtain ⟨e3, g3⟩ := Prod.mk.inj g2
      subst e3
      obtain ⟨e4, g4⟩ := Prod.mk.inj g3
      subst e4
      obtain ⟨e5, g5⟩ := Prod.mk.inj g4
      subst e5
      obtain ⟨e6, g6⟩ := Prod.mk.inj g5
      subst e6
      subst g6
      exact j_vret K dX1_begin_73
    · refine j_aload_n K 0 rfl dX1_begin_18 rfl ?_
      refine j_getf (C := RX1) (T := TX1) (N := 12) (ci := 1) K icX1 0 1 (List.mem_cons_of_mem _ mw_4_7) rfl rfl rfl (by decide) rfl dX1_begin_19 rfl ?_
      refine j_iload_n K 2 rfl dX1_begin_22 rfl ?_
      refine j_iconst (v := (-1 : Int32)) K (by decide) dX1_begin_23 rfl ?_
      refine j_iast K 1 0 (fun z => (uX1_begin cyI cyJ cyS a0 a1 c_size z c_falls c_passed c_floor c_left c_order c1_size c1_paid)) rfl rfl (fun _ => rfl) dX1_begin_24 rfl h (fun c_settled_1 h => ?_)
      refine j_aload_n K 0 rfl dX1_begin_25 rfl ?_
      refine j_getf (C := RX1) (T := TX1) (N := 12) (ci := 1) K icX1 0 2 (List.mem_cons_of_mem _ mw_4_8) rfl rfl rfl (by decide) rfl dX1_begin_26 rfl ?_
      refine j_iload_n K 2 rfl dX1_begin_29 rfl ?_
      refine j_iconst (v := (0 : Int32)) K (by decide) dX1_begin_30 rfl ?_
      refine j_iast K 2 0 (fun z => (uX1_begin cyI cyJ cyS a0 a1 c_size c_settled_1 z c_passed c_floor c_left c_order c1_size c1_paid)) rfl rfl (fun _ => rfl) dX1_begin_31 rfl h (fun c_falls_2 h => ?_)
      refine j_aload_n K 0 rfl dX1_begin_32 rfl ?_
      refine j_getf (C := RX1) (T := TX1) (N := 12) (ci := 1) K icX1 0 3 (List.mem_cons_of_mem _ mw_4_9) rfl rfl rfl (by decide) rfl dX1_begin_33 rfl ?_
      refine j_iload_n K 2 rfl dX1_begin_36 rfl ?_
      refine j_iconst (v := (0 : Int32)) K (by decide) dX1_begin_37 rfl ?_
      refine j_iast K 3 0 (fun z => (uX1_begin cyI cyJ cyS a0 a1 c_size c_settled_1 c_falls_2 z c_floor c_left c_order c1_size c1_paid)) rfl rfl (fun _ => rfl) dX1_begin_38 rfl h (fun c_passed_3 h => ?_)
      refine j_aload_n K 0 rfl dX1_begin_39 rfl ?_
      refine j_getf (C := RX1) (T := TX1) (N := 12) (ci := 1) K icX1 0 7 (List.mem_cons_of_mem _ mw_4_13) rfl rfl rfl (by decide) rfl dX1_begin_40 rfl ?_
      refine j_iload_n K 2 rfl dX1_begin_43 rfl ?_
      refine j_iconst (v := (0 : Int32)) K (by decide) dX1_begin_44 rfl ?_
      refine j_iast K 4 0 (fun z => (uX1_begin cyI cyJ cyS a0 a1 c_size c_settled_1 c_falls_2 c_passed_3 z c_left c_order c1_size c1_paid)) rfl rfl (fun _ => rfl) dX1_begin_45 rfl h (fun c_floor_4 h => ?_)
      refine j_aload_n K 0 rfl dX1_begin_46 rfl ?_
      refine j_getf (C := RX1) (T := TX1) (N := 12) (ci := 1) K icX1 0 9 (List.mem_cons_of_mem _ mw_4_15) rfl rfl rfl (by decide) rfl dX1_begin_47 rfl ?_
      refine j_iload_n K 2 rfl dX1_begin_50 rfl ?_
      refine j_iconst (v := (3 : Int32)) K (by decide) dX1_begin_51 rfl ?_
      refine j_aload_n K 1 rfl dX1_begin_52 rfl ?_
      refine j_getf (C := RX5) (T := TX5) (N := 4) (ci := 5) K icX5 7 1 (List.mem_cons_of_mem _ mw_14_1) rfl rfl rfl (by decide) rfl dX1_begin_53 rfl ?_
      refine j_iload_n K 2 rfl dX1_begin_56 rfl ?_
      refine j_iald K 8 0 rfl rfl dX1_begin_57 rfl h (fun v_5 h => ?_)
      refine j_imul K dX1_begin_58 rfl ?_
      refine j_iast K 5 0 (fun z => (uX1_begin cyI cyJ cyS a0 a1 c_size c_settled_1 c_falls_2 c_passed_3 c_floor_4 z c_order c1_size c1_paid)) rfl rfl (fun _ => rfl) dX1_begin_59 rfl h (fun c_left_6 h => ?_)
      refine j_aload_n K 0 rfl dX1_begin_60 rfl ?_
      refine j_getf (C := RX1) (T := TX1) (N := 12) (ci := 1) K icX1 0 10 (List.mem_cons_of_mem _ mw_4_16) rfl rfl rfl (by decide) rfl dX1_begin_61 rfl ?_
      refine j_iload_n K 2 rfl dX1_begin_64 rfl ?_
      refine j_iload_n K 2 rfl dX1_begin_65 rfl ?_
      refine j_iast K 6 0 (fun z => (uX1_begin cyI cyJ cyS a0 a1 c_size c_settled_1 c_falls_2 c_passed_3 c_floor_4 c_left_6 z c1_size c1_paid)) rfl rfl (fun _ => rfl) dX1_begin_66 rfl h (fun c_order_7 h => ?_)
      refine j_iincN (lf := fun z => [(2, .int z), (0, .ref (a0 0)), (1, .ref (a1 0))]) K (v := i2 + (1 : Int32)) (k := 2) rfl rfl (by decide) (fun _ => rfl) dX1_begin_67 rfl h (fun i2_8 h => ?_)
      refine j_goto (pc' := 10) K dX1_begin_70 (by decide) ?_
      refine j_sub [1, 2, 0] (lv' := [(0, .ref (a0 0)), (1, .ref (a1 0)), (2, .int i2_8)]) rfl ?_
      exact ih c_size c_settled_1 c_falls_2 c_passed_3 c_floor_4 c_left_6 c_order_7 i2_8 h
set_option maxRecDepth 100000 in
set_option maxHeartbeats 4000000 in
theorem ctX1_begin (l : Launch) (D : va_G) (cyI cyJ cyS : ClassId) (a0 : Nat → Nat) (a1 : Nat → Nat) (c1_size : Int32) (c1_paid : Nat → Int32) (c_size : Int32) (c_settled : Nat → Int32) (c_falls : Nat → Int32) (c_passed : Nat → Int32) (c_floor : Nat → Int32) (c_left : Nat → Int32) (c_order : Nat → Int32) (o_size : Int32) (o_settled : Nat → Int32) (o_falls : Nat → Int32) (o_passed : Nat → Int32) (o_floor : Nat → Int32) (o_left : Nat → Int32) (o_order : Nat → Int32) (h : fX1_begin c1_size c1_paid c_size c_settled c_falls c_passed c_floor c_left c_order = some (o_size, o_settled, o_falls, o_passed, o_floor, o_left, o_order)) : jC l yX1_begin wdX1_begin rmX1_begin D vwCl (tyz cyI cyJ cyS) [.ref (a0 0), .ref (a1 0)] (uX1_begin cyI cyJ cyS a0 a1 c_size c_settled c_falls c_passed c_floor c_left c_order c1_size c1_paid) none (uX1_begin cyI cyJ cyS a0 a1 o_size o_settled o_falls o_passed o_floor o_left o_order c1_size c1_paid) := by
  refine jC_of (cc := cX1_begin) (nL := 3) (ret := none) (own := RX1) (lv := [(0, .ref (a0 0)), (1, .ref (a1 0))]) (by decide) rfl rfl (Nat.le_of_ble_eq_true rfl) rfl ?_
  intro p e s m args below meth c A K
  unfold fX1_begin at h
  refine j_aload_n K 0 rfl dX1_begin_0 rfl ?_
  refine j_aload_n K 1 rfl dX1_begin_1 rfl ?_
  refine j_getf (C := RX5) (T := TX5) (N := 4) (ci := 5) K icX5 7 3 (List.mem_cons_of_mem _ mw_14_0) rfl rfl rfl (by decide) rfl dX1_begin_2 rfl ?_
  refine j_putf (C := RX1) (T := TX1) (N := 12) (ci := 1) (ty := .int) (ws' := (uX1_begin cyI cyJ cyS a0 a1 c1_size c_settled c_falls c_passed c_floor c_left c_order c1_size c1_paid)) K icX1 tyX1 tyX1_ok nmX1 0 0 (List.mem_cons_of_mem _ mw_4_6) rfl rfl rfl (by decide) rfl (by decide +kernel) rfl rfl (Nat.le_of_ble_eq_true rfl) rfl dX1_begin_5 rfl ?_
  refine j_iconst (v := (0 : Int32)) K (by decide) dX1_begin_8 rfl ?_
  refine j_istore_n (lv' := [(2, .int (0 : Int32)), (0, .ref (a0 0)), (1, .ref (a1 0))]) K (by decide) rfl dX1_begin_9 rfl ?_
  refine j_sub [1, 2, 0] (lv' := [(0, .ref (a0 0)), (1, .ref (a1 0)), (2, .int (0 : Int32))]) rfl ?_
  exact wX1_begin_10 K a0 a1 c1_size c1_paid o_size o_settled o_falls o_passed o_floor o_left o_order jF c1_size c_settled c_falls c_passed c_floor c_left c_order (0 : Int32) h
abbrev uX1_livingBetween (cyI cyJ cyS : ClassId) (a0 : Nat → Nat) (c_size : Int32) (c_floor : Nat → Int32) : va_W := [((a0 0), .inr (1, [.int c_size, .ref (a0 1), .ref (a0 2), .ref (a0 3), .ref (a0 4), .ref (a0 5), .ref (a0 6), .ref (a0 7), .ref (a0 8), .ref (a0 9), .ref (a0 10), .ref (a0 11)])), ((a0 7), .inl (cyI, 8, .inl c_floor))]
abbrev rmX1_livingBetween : Room := { frames := 0, cells := 0, slots := 0, locals := 0 }
abbrev wdX1_livingBetween : List Cond := .code yX1_livingBetween cX1_livingBetween 5 (some .int) :: wsL_law
theorem hyX1_livingBetween : yX1_livingBetween.cls = RX1 ∧ yX1_livingBetween.cls ≠ "java/lang/invoke/MethodHandle" ∧ yX1_livingBetween.cls ≠ "java/lang/invoke/VarHandle" ∧ (parseMethodDescriptor yX1_livingBetween.desc).map (fun d => d.parameters.length) = some 2 := by decide +kernel
set_option maxRecDepth 100000 in
set_option maxHeartbeats 4000000 in
theorem wX1_livingBetween_39 (K : jK p s m args meth c A D vwCl (tyz cyI cyJ cyS) cX1_livingBetween 5 RX1 wdX1_livingBetween (some .int)) (a0 : Nat → Nat)  (i1 : Int32) (i2 : Int32) (c_size : Int32) (c_floor : Nat → Int32) (o_r : Int32)  (q_5 : Int32 → Int32 → Option (Int32)) (hq_5 : ∀ (i3 : Int32) (i4 : Int32), q_5 i3 i4 = some (o_r) → jw p l e rmX1_livingBetween s m args below meth c (jQ below args s A D vwCl (tyz cyI cyJ cyS) 0 0 (some (.int o_r)) (uX1_livingBetween cyI cyJ cyS a0 c_size c_floor)) A D vwCl 5 0 0 5 [(0, .ref (a0 0)), (1, .int i1), (2, .int i2), (3, .int i3), (4, .int i4)] [] (uX1_livingBetween cyI cyJ cyS a0 c_size c_floor)) : ∀ (i3 : Int32) (i4 : Int32), fX1_livingBetween_39 i1 i2 c_size c_floor q_5 i3 i4 = some (o_r) → jw p l e rmX1_livingBetween s m args below meth c (jQ below args s A D vwCl (tyz cyI cyJ cyS) 0 0 (some (.int o_r)) (uX1_livingBetween cyI cyJ cyS a0 c_size c_floor)) A D vwCl 5 0 0 39 [(0, .ref (a0 0)), (1, .int i1), (2, .int i2), (3, .int i3), (4, .int i4)] [] (uX1_livingBetween cyI cyJ cyS a0 c_size c_floor) := by
  intro i3 i4 h
  unfold fX1_livingBetween_39 at h
  refine j_iincN (lf := fun z => [(4, .int z), (0, .ref (a0 0)), (1, .int i1), (2, .int i2), (3, .int i3)]) K (v := i4 + (1 : Int32)) (k := 4) rfl rfl (by decide) (fun _ => rfl) dX1_livingBetween_39 rfl h (fun i4_2 h => ?_)
  refine j_goto (pc' := 5) K dX1_livingBetween_42 (by decide) ?_
  refine j_sub [1, 2, 3, 4, 0] (lv' := [(0, .ref (a0 0)), (1, .int i1), (2, .int i2), (3, .int i3), (4, .int i4_2)]) rfl ?_
  exact hq_5 i3 i4_2 h
set_option maxRecDepth 100000 in
set_option maxHeartbeats 4000000 in
theorem wX1_livingBetween_5 (K : jK p s m args meth c A D vwCl (tyz cyI cyJ cyS) cX1_livingBetween 5 RX1 wdX1_livingBetween (some .int)) (a0 : Nat → Nat)  (i1 : Int32) (i2 : Int32) (c_size : Int32) (c_floor : Nat → Int32) (o_r : Int32)   : ∀ (n : Nat) (i3 : Int32) (i4 : Int32), fX1_livingBetween_5 i1 i2 c_size c_floor  n i3 i4 = some (o_r) → jw p l e rmX1_livingBetween s m args below meth c (jQ below args s A D vwCl (tyz cyI cyJ cyS) 0 0 (some (.int o_r)) (uX1_livingBetween cyI cyJ cyS a0 c_size c_floor)) A D vwCl 5 0 0 5 [(0, .ref (a0 0)), (1, .int i1), (2, .int i2), (3, .int i3), (4, .int i4)] [] (uX1_livingBetween cyI cyJ cyS a0 c_size c_floor) := by
  intro n
  induction n with
  | zero => intro i3 i4 h; cases h
  | succ n ih =>
    intro i3 i4 h
    have h : bX1_livingBetween_5 i1 i2 c_size c_floor  (fX1_livingBetween_5 i1 i2 c_size c_floor  n) i3 i4 = some (o_r) := h
    unfold bX1_livingBetween_5 at h
    refine j_iload K 4 rfl dX1_livingBetween_5 rfl ?_
    refine j_aload_n K 0 rfl dX1_livingBetween_7 rfl ?_
    refine j_getf (C := RX1) (T := TX1) (N := 12) (ci := 1) K icX1 0 0 (List.mem_cons_of_mem _ mw_4_6) rfl rfl rfl (by decide) rfl dX1_livingBetween_8 rfl ?_
    refine j_icmp_ge (tgt := 45) K dX1_livingBetween_11 (by decide) rfl h (fun h => ?_) (fun h => ?_)
    · refine j_iload_n K 3 rfl dX1_livingBetween_45 rfl ?_
      have h := Option.some.inj h
      subst h
      exact j_iret K dX1_livingBetween_46
    · refine j_aload_n K 0 rfl dX1_livingBetween_14 rfl ?_
      refine j_getf (C := RX1) (T := TX1) (N := 12) (ci := 1) K icX1 0 7 (List.mem_cons_of_mem _ mw_4_13) rfl rfl rfl (by decide) rfl dX1_livingBetween_15 rfl ?_
      refine j_iload K 4 rfl dX1_livingBetween_18 rfl ?_
      refine j_iald K 1 0 rfl rfl dX1_livingBetween_20 rfl h (fun v_1 h => ?_)
      refine j_iload_n K 1 rfl dX1_livingBetween_21 rfl ?_
      refine j_icmp_le (tgt := 39) K dX1_livingBetween_22 (by decide) rfl h (fun h => ?_) (fun h => ?_)
      · refine j_sub [0, 1, 2, 3, 4] (lv' := [(0, .ref (a0 0)), (1, .int i1), (2, .int i2), (3, .int i3), (4, .int i4)]) rfl ?_
        exact wX1_livingBetween_39 K a0 i1 i2 c_size c_floor o_r (fX1_livingBetween_5 i1 i2 c_size c_floor n) (fun z0 z1 hq => ih z0 z1 hq) i3 i4 h
      · refine j_aload_n K 0 rfl dX1_livingBetween_25 rfl ?_
        refine j_getf (C := RX1) (T := TX1) (N := 12) (ci := 1) K icX1 0 7 (List.mem_cons_of_mem _ mw_4_13) rfl rfl rfl (by decide) rfl dX1_livingBetween_26 rfl ?_
        refine j_iload K 4 rfl dX1_livingBetween_29 rfl ?_
        refine j_iald K 1 0 rfl rfl dX1_livingBetween_31 rfl h (fun v_3 h => ?_)
        refine j_iload_n K 2 rfl dX1_livingBetween_32 rfl ?_
        refine j_icmp_ge (tgt := 39) K dX1_livingBetween_33 (by decide) rfl h (fun h => ?_) (fun h => ?_)
        · refine j_sub [0, 1, 2, 3, 4] (lv' := [(0, .ref (a0 0)), (1, .int i1), (2, .int i2), (3, .int i3), (4, .int i4)]) rfl ?_
          exact wX1_livingBetween_39 K a0 i1 i2 c_size c_floor o_r (fX1_livingBetween_5 i1 i2 c_size c_floor n) (fun z0 z1 hq => ih z0 z1 hq) i3 i4 h
        · refine j_iincN (lf := fun z => [(3, .int z), (0, .ref (a0 0)), (1, .int i1), (2, .int i2), (4, .int i4)]) K (v := i3 + (1 : Int32)) (k := 3) rfl rfl (by decide) (fun _ => rfl) dX1_livingBetween_36 rfl h (fun i3_4 h => ?_)
          refine j_sub [1, 2, 3, 0, 4] (lv' := [(0, .ref (a0 0)), (1, .int i1), (2, .int i2), (3, .int i3_4), (4, .int i4)]) rfl ?_
          exact wX1_livingBetween_39 K a0 i1 i2 c_size c_floor o_r (fX1_livingBetween_5 i1 i2 c_size c_floor n) (fun z0 z1 hq => ih z0 z1 hq) i3_4 i4 h
set_option maxRecDepth 100000 in
set_option maxHeartbeats 4000000 in
theorem ctX1_livingBetween (l : Launch) (D : va_G) (cyI cyJ cyS : ClassId) (a0 : Nat → Nat) (i1 : Int32) (i2 : Int32) (c_size : Int32) (c_floor : Nat → Int32) (o_r : Int32) (h : fX1_livingBetween i1 i2 c_size c_floor = some (o_r)) : jC l yX1_livingBetween wdX1_livingBetween rmX1_livingBetween D vwCl (tyz cyI cyJ cyS) [.ref (a0 0), .int i1, .int i2] (uX1_livingBetween cyI cyJ cyS a0 c_size c_floor) (some (.int o_r)) (uX1_livingBetween cyI cyJ cyS a0 c_size c_floor) := by
  refine jC_of (cc := cX1_livingBetween) (nL := 5) (ret := (some .int)) (own := RX1) (lv := [(0, .ref (a0 0)), (1, .int i1), (2, .int i2)]) (by decide) rfl rfl (Nat.le_of_ble_eq_true rfl) rfl ?_
  intro p e s m args below meth c A K
  unfold fX1_livingBetween at h
  refine j_iconst (v := (0 : Int32)) K (by decide) dX1_livingBetween_0 rfl ?_
  refine j_istore_n (lv' := [(3, .int (0 : Int32)), (0, .ref (a0 0)), (1, .int i1), (2, .int i2)]) K (by decide) rfl dX1_livingBetween_1 rfl ?_
  refine j_iconst (v := (0 : Int32)) K (by decide) dX1_livingBetween_2 rfl ?_
  refine j_istore (lv' := [(4, .int (0 : Int32)), (3, .int (0 : Int32)), (0, .ref (a0 0)), (1, .int i1), (2, .int i2)]) K (by decide) rfl dX1_livingBetween_3 rfl ?_
  refine j_sub [2, 3, 4, 1, 0] (lv' := [(0, .ref (a0 0)), (1, .int i1), (2, .int i2), (3, .int (0 : Int32)), (4, .int (0 : Int32))]) rfl ?_
  exact wX1_livingBetween_5 K a0 i1 i2 c_size c_floor o_r jF (0 : Int32) (0 : Int32) h
abbrev uX1_countFalls (cyI cyJ cyS : ClassId) (a0 : Nat → Nat) (c_size : Int32) (c_falls : Nat → Int32) (c_passed : Nat → Int32) (c_fallers : Nat → Int32) (c_floor : Nat → Int32) (c_before : Nat → Int32) : va_W := [((a0 0), .inr (1, [.int c_size, .ref (a0 1), .ref (a0 2), .ref (a0 3), .ref (a0 4), .ref (a0 5), .ref (a0 6), .ref (a0 7), .ref (a0 8), .ref (a0 9), .ref (a0 10), .ref (a0 11)])), ((a0 2), .inl (cyI, 8, .inl c_falls)), ((a0 3), .inl (cyI, 8, .inl c_passed)), ((a0 6), .inl (cyI, 24, .inl c_fallers)), ((a0 7), .inl (cyI, 8, .inl c_floor)), ((a0 8), .inl (cyI, 8, .inl c_before))]
abbrev rmX1_countFalls : Room := { frames := 1, cells := 0, slots := 0, locals := 24 }
abbrev wdX1_countFalls : List Cond := .code yX1_countFalls cX1_countFalls 3 none :: wsL_law
theorem hyX1_countFalls : yX1_countFalls.cls = RX1 ∧ yX1_countFalls.cls ≠ "java/lang/invoke/MethodHandle" ∧ yX1_countFalls.cls ≠ "java/lang/invoke/VarHandle" ∧ (parseMethodDescriptor yX1_countFalls.desc).map (fun d => d.parameters.length) = some 1 := by decide +kernel
set_option maxRecDepth 100000 in
set_option maxHeartbeats 4000000 in
theorem wX1_countFalls_81 (K : jK p s m args meth c A D vwCl (tyz cyI cyJ cyS) cX1_countFalls 3 RX1 wdX1_countFalls none) (a0 : Nat → Nat)  (i1 : Int32) (c_size : Int32) (c_floor : Nat → Int32) (c_before : Nat → Int32) (o_falls : Nat → Int32) (o_passed : Nat → Int32) (o_fallers : Nat → Int32)  (q_9 : (Nat → Int32) → (Nat → Int32) → (Nat → Int32) → Int32 → (Option ((Nat → Int32) × (Nat → Int32) × (Nat → Int32)))) (hq_9 : ∀ (c_falls : Nat → Int32) (c_passed : Nat → Int32) (c_fallers : Nat → Int32) (i2 : Int32), q_9 c_falls c_passed c_fallers i2 = some (o_falls, o_passed, o_fallers) → jw p l e rmX1_countFalls s m args below meth c (jQ below args s A D vwCl (tyz cyI cyJ cyS) 0 0 none (uX1_countFalls cyI cyJ cyS a0 c_size o_falls o_passed o_fallers c_floor c_before)) A D vwCl 3 0 0 9 [(0, .ref (a0 0)), (1, .int i1), (2, .int i2)] [] (uX1_countFalls cyI cyJ cyS a0 c_size c_falls c_passed c_fallers c_floor c_before)) : ∀ (c_falls : Nat → Int32) (c_passed : Nat → Int32) (c_fallers : Nat → Int32) (i2 : Int32), fX1_countFalls_81 i1 c_size c_floor c_before q_9 c_falls c_passed c_fallers i2 = some (o_falls, o_passed, o_fallers) → jw p l e rmX1_countFalls s m args below meth c (jQ below args s A D vwCl (tyz cyI cyJ cyS) 0 0 none (uX1_countFalls cyI cyJ cyS a0 c_size o_falls o_passed o_fallers c_floor c_before)) A D vwCl 3 0 0 81 [(0, .ref (a0 0)), (1, .int i1), (2, .int i2)] [] (uX1_countFalls cyI cyJ cyS a0 c_size c_falls c_passed c_fallers c_floor c_before) := by
  intro c_falls c_passed c_fallers i2 h
  unfold fX1_countFalls_81 at h
  refine j_iincN (lf := fun z => [(2, .int z), (0, .ref (a0 0)), (1, .int i1)]) K (v := i2 + (1 : Int32)) (k := 2) rfl rfl (by decide) (fun _ => rfl) dX1_countFalls_81 rfl h (fun i2_4 h => ?_)
  refine j_goto (pc' := 9) K dX1_countFalls_84 (by decide) ?_
  refine j_sub [1, 2, 0] (lv' := [(0, .ref (a0 0)), (1, .int i1), (2, .int i2_4)]) rfl ?_
  exact hq_9 c_falls c_passed c_fallers i2_4 h
set_option maxRecDepth 100000 in
set_option maxHeartbeats 4000000 in
theorem wX1_countFalls_9 (K : jK p s m args meth c A D vwCl (tyz cyI cyJ cyS) cX1_countFalls 3 RX1 wdX1_countFalls none) (a0 : Nat → Nat)  (i1 : Int32) (c_size : Int32) (c_floor : Nat → Int32) (c_before : Nat → Int32) (o_falls : Nat → Int32) (o_passed : Nat → Int32) (o_fallers : Nat → Int32)   : ∀ (n : Nat) (c_falls : Nat → Int32) (c_passed : Nat → Int32) (c_fallers : Nat → Int32) (i2 : Int32), fX1_countFalls_9 i1 c_size c_floor c_before  n c_falls c_passed c_fallers i2 = some (o_falls, o_passed, o_fallers) → jw p l e rmX1_countFalls s m args below meth c (jQ below args s A D vwCl (tyz cyI cyJ cyS) 0 0 none (uX1_countFalls cyI cyJ cyS a0 c_size o_falls o_passed o_fallers c_floor c_before)) A D vwCl 3 0 0 9 [(0, .ref (a0 0)), (1, .int i1), (2, .int i2)] [] (uX1_countFalls cyI cyJ cyS a0 c_size c_falls c_passed c_fallers c_floor c_before) := by
  intro n
  induction n with
  | zero => intro c_falls c_passed c_fallers i2 h; cases h
  | succ n ih =>
    intro c_falls c_passed c_fallers i2 h
    have h : bX1_countFalls_9 i1 c_size c_floor c_before  (fX1_countFalls_9 i1 c_size c_floor c_before  n) c_falls c_passed c_fallers i2 = some (o_falls, o_passed, o_fallers) := h
    unfold bX1_countFalls_9 at h
    refine j_iload_n K 2 rfl dX1_countFalls_9 rfl ?_
    refine j_aload_n K 0 rfl dX1_countFalls_10 rfl ?_
    refine j_getf (C := RX1) (T := TX1) (N := 12) (ci := 1) K icX1 0 0 (List.mem_cons_of_mem _ mw_4_6) rfl rfl rfl (by decide) rfl dX1_countFalls_11 rfl ?_
    refine j_icmp_ge (tgt := 87) K dX1_countFalls_14 (by decide) rfl h (fun h => ?_) (fun h => ?_)
    · obtain ⟨e1, g1⟩ := Prod.mk.inj (Option.some.inj h)
      subst e1
      obtain ⟨e2, g2⟩ := Prod.mk.inj g1
      subst e2
      subst g2
      exact j_vret K dX1_countFalls_87
    · refine j_aload_n K 0 rfl dX1_countFalls_17 rfl ?_
      refine j_getf (C := RX1) (T := TX1) (N := 12) (ci := 1) K icX1 0 7 (List.mem_cons_of_mem _ mw_4_13) rfl rfl rfl (by decide) rfl dX1_countFalls_18 rfl ?_
      refine j_iload_n K 2 rfl dX1_countFalls_21 rfl ?_
      refine j_iald K 4 0 rfl rfl dX1_countFalls_22 rfl h (fun v_2 h => ?_)
      refine j_aload_n K 0 rfl dX1_countFalls_23 rfl ?_
      refine j_getf (C := RX1) (T := TX1) (N := 12) (ci := 1) K icX1 0 8 (List.mem_cons_of_mem _ mw_4_14) rfl rfl rfl (by decide) rfl dX1_countFalls_24 rfl ?_
      refine j_iload_n K 2 rfl dX1_countFalls_27 rfl ?_
      refine j_iald K 5 0 rfl rfl dX1_countFalls_28 rfl h (fun v_3 h => ?_)
      refine j_iconst (v := (2 : Int32)) K (by decide) dX1_countFalls_29 rfl ?_
      refine j_isub K dX1_countFalls_30 rfl ?_
      refine j_icmp_gt (tgt := 81) K dX1_countFalls_31 (by decide) rfl h (fun h => ?_) (fun h => ?_)
      · refine j_sub [0, 1, 2] (lv' := [(0, .ref (a0 0)), (1, .int i1), (2, .int i2)]) rfl ?_
        exact wX1_countFalls_81 K a0 i1 c_size c_floor c_before o_falls o_passed o_fallers (fX1_countFalls_9 i1 c_size c_floor c_before n) (fun z0 z1 z2 z3 hq => ih z0 z1 z2 z3 hq) c_falls c_passed c_fallers i2 h
      · refine j_aload_n K 0 rfl dX1_countFalls_34 rfl ?_
        refine j_getf (C := RX1) (T := TX1) (N := 12) (ci := 1) K icX1 0 6 (List.mem_cons_of_mem _ mw_4_12) rfl rfl rfl (by decide) rfl dX1_countFalls_35 rfl ?_
        refine j_iload_n K 1 rfl dX1_countFalls_38 rfl ?_
        refine j_dup2 K rfl rfl dX1_countFalls_39 rfl ?_
        refine j_iald K 3 0 rfl rfl dX1_countFalls_40 rfl h (fun v_5 h => ?_)
        refine j_iconst (v := (1 : Int32)) K (by decide) dX1_countFalls_41 rfl ?_
        refine j_iload_n K 2 rfl dX1_countFalls_42 rfl ?_
        refine j_ishl K dX1_countFalls_43 rfl ?_
        refine j_ior K dX1_countFalls_44 rfl ?_
        refine j_iast K 3 0 (fun z => (uX1_countFalls cyI cyJ cyS a0 c_size c_falls c_passed z c_floor c_before)) rfl rfl (fun _ => rfl) dX1_countFalls_45 rfl h (fun c_fallers_6 h => ?_)
        refine j_aload_n K 0 rfl dX1_countFalls_46 rfl ?_
        refine j_getf (C := RX1) (T := TX1) (N := 12) (ci := 1) K icX1 0 2 (List.mem_cons_of_mem _ mw_4_8) rfl rfl rfl (by decide) rfl dX1_countFalls_47 rfl ?_
        refine j_iload_n K 2 rfl dX1_countFalls_50 rfl ?_
        refine j_dup2 K rfl rfl dX1_countFalls_51 rfl ?_
        refine j_iald K 1 0 rfl rfl dX1_countFalls_52 rfl h (fun v_7 h => ?_)
        refine j_iconst (v := (1 : Int32)) K (by decide) dX1_countFalls_53 rfl ?_
        refine j_iadd K dX1_countFalls_54 rfl ?_
        refine j_iast K 1 0 (fun z => (uX1_countFalls cyI cyJ cyS a0 c_size z c_passed c_fallers_6 c_floor c_before)) rfl rfl (fun _ => rfl) dX1_countFalls_55 rfl h (fun c_falls_8 h => ?_)
        refine j_aload_n K 0 rfl dX1_countFalls_56 rfl ?_
        refine j_getf (C := RX1) (T := TX1) (N := 12) (ci := 1) K icX1 0 3 (List.mem_cons_of_mem _ mw_4_9) rfl rfl rfl (by decide) rfl dX1_countFalls_57 rfl ?_
        refine j_iload_n K 2 rfl dX1_countFalls_60 rfl ?_
        refine j_dup2 K rfl rfl dX1_countFalls_61 rfl ?_
        refine j_iald K 2 0 rfl rfl dX1_countFalls_62 rfl h (fun v_9 h => ?_)
        refine j_aload_n K 0 rfl dX1_countFalls_63 rfl ?_
        refine j_aload_n K 0 rfl dX1_countFalls_64 rfl ?_
        refine j_getf (C := RX1) (T := TX1) (N := 12) (ci := 1) K icX1 0 7 (List.mem_cons_of_mem _ mw_4_13) rfl rfl rfl (by decide) rfl dX1_countFalls_65 rfl ?_
        refine j_iload_n K 2 rfl dX1_countFalls_68 rfl ?_
        refine j_iald K 4 0 rfl rfl dX1_countFalls_69 rfl h (fun v_10 h => ?_)
        refine j_aload_n K 0 rfl dX1_countFalls_70 rfl ?_
        refine j_getf (C := RX1) (T := TX1) (N := 12) (ci := 1) K icX1 0 8 (List.mem_cons_of_mem _ mw_4_14) rfl rfl rfl (by decide) rfl dX1_countFalls_71 rfl ?_
        refine j_iload_n K 2 rfl dX1_countFalls_74 rfl ?_
        refine j_iald K 5 0 rfl rfl dX1_countFalls_75 rfl h (fun v_11 h => ?_)
        obtain ⟨r_12, hc, h⟩ := bd1_some h
        refine j_callV (rest := [.int v_9, .int i2, .ref (a0 3)]) (st1 := [.int r_12, .int v_9, .int i2, .ref (a0 3)]) (ws' := (uX1_countFalls cyI cyJ cyS a0 c_size c_falls_8 c_passed c_fallers_6 c_floor c_before)) (T := TX1) (N := 12) (ci := 1) K (ctX1_livingBetween l D cyI cyJ cyS a0 v_10 v_11 c_size c_floor r_12 hc) (gdV mcL mw_16_2 mw_16_3 mw_16_4 mw_2_7 mw_16_5) rfl ⟨rfl, rfl⟩ hyX1_livingBetween ⟨Nat.le_of_ble_eq_true rfl, Nat.le_of_ble_eq_true rfl, Nat.le_of_ble_eq_true rfl, Nat.le_of_ble_eq_true rfl⟩ [0, 4] (by decide) rfl [some 0, none, none, none, some 1, none] (by decide) rfl rfl 0 rfl rfl rfl rfl (Nat.le_of_ble_eq_true rfl) dX1_countFalls_76 rfl rfl ?_
        refine j_iadd K dX1_countFalls_79 rfl ?_
        refine j_iast K 2 0 (fun z => (uX1_countFalls cyI cyJ cyS a0 c_size c_falls_8 z c_fallers_6 c_floor c_before)) rfl rfl (fun _ => rfl) dX1_countFalls_80 rfl h (fun c_passed_13 h => ?_)
        refine j_sub [0, 1, 2] (lv' := [(0, .ref (a0 0)), (1, .int i1), (2, .int i2)]) rfl ?_
        exact wX1_countFalls_81 K a0 i1 c_size c_floor c_before o_falls o_passed o_fallers (fX1_countFalls_9 i1 c_size c_floor c_before n) (fun z0 z1 z2 z3 hq => ih z0 z1 z2 z3 hq) c_falls_8 c_passed_13 c_fallers_6 i2 h
set_option maxRecDepth 100000 in
set_option maxHeartbeats 4000000 in
theorem ctX1_countFalls (l : Launch) (D : va_G) (cyI cyJ cyS : ClassId) (a0 : Nat → Nat) (i1 : Int32) (c_size : Int32) (c_floor : Nat → Int32) (c_before : Nat → Int32) (c_falls : Nat → Int32) (c_passed : Nat → Int32) (c_fallers : Nat → Int32) (o_falls : Nat → Int32) (o_passed : Nat → Int32) (o_fallers : Nat → Int32) (h : fX1_countFalls i1 c_size c_floor c_before c_falls c_passed c_fallers = some (o_falls, o_passed, o_fallers)) : jC l yX1_countFalls wdX1_countFalls rmX1_countFalls D vwCl (tyz cyI cyJ cyS) [.ref (a0 0), .int i1] (uX1_countFalls cyI cyJ cyS a0 c_size c_falls c_passed c_fallers c_floor c_before) none (uX1_countFalls cyI cyJ cyS a0 c_size o_falls o_passed o_fallers c_floor c_before) := by
  refine jC_of (cc := cX1_countFalls) (nL := 3) (ret := none) (own := RX1) (lv := [(0, .ref (a0 0)), (1, .int i1)]) (by decide) rfl rfl (Nat.le_of_ble_eq_true rfl) rfl ?_
  intro p e s m args below meth c A K
  unfold fX1_countFalls at h
  refine j_aload_n K 0 rfl dX1_countFalls_0 rfl ?_
  refine j_getf (C := RX1) (T := TX1) (N := 12) (ci := 1) K icX1 0 6 (List.mem_cons_of_mem _ mw_4_12) rfl rfl rfl (by decide) rfl dX1_countFalls_1 rfl ?_
  refine j_iload_n K 1 rfl dX1_countFalls_4 rfl ?_
  refine j_iconst (v := (0 : Int32)) K (by decide) dX1_countFalls_5 rfl ?_
  refine j_iast K 3 0 (fun z => (uX1_countFalls cyI cyJ cyS a0 c_size c_falls c_passed z c_floor c_before)) rfl rfl (fun _ => rfl) dX1_countFalls_6 rfl h (fun c_fallers_1 h => ?_)
  refine j_iconst (v := (0 : Int32)) K (by decide) dX1_countFalls_7 rfl ?_
  refine j_istore_n (lv' := [(2, .int (0 : Int32)), (0, .ref (a0 0)), (1, .int i1)]) K (by decide) rfl dX1_countFalls_8 rfl ?_
  refine j_sub [1, 2, 0] (lv' := [(0, .ref (a0 0)), (1, .int i1), (2, .int (0 : Int32))]) rfl ?_
  exact wX1_countFalls_9 K a0 i1 c_size c_floor c_before o_falls o_passed o_fallers jF c_falls c_passed c_fallers_1 (0 : Int32) h
abbrev uJ7_fill_53178 (cyI cyJ cyS : ClassId) (a0 : Nat → Nat) (n0 : Nat) (c_a : Nat → Int32) : va_W := [((a0 0), .inl (cyI, n0, .inl c_a))]
abbrev rmJ7_fill_53178 : Room := { frames := 0, cells := 0, slots := 0, locals := 0 }
abbrev wdJ7_fill_53178 : List Cond := .code yJ7_fill_53178 cJ7_fill_53178 4 none :: wsL_law
theorem hzJ7_fill_53178 : yJ7_fill_53178.cls ≠ "java/lang/invoke/MethodHandle" ∧ yJ7_fill_53178.cls ≠ "java/lang/invoke/VarHandle" ∧ (parseMethodDescriptor yJ7_fill_53178.desc).map (fun d => d.parameters.length) = some 2 := by decide +kernel
set_option maxRecDepth 100000 in
set_option maxHeartbeats 4000000 in
theorem wJ7_fill_53178_5 (K : jK p s m args meth c A D vwCl (tyz cyI cyJ cyS) cJ7_fill_53178 4 RJ7 wdJ7_fill_53178 none) (a0 : Nat → Nat)  (i1 : Int32) (n0 : Nat) (o_a : Nat → Int32)   : ∀ (n : Nat) (c_a : Nat → Int32) (i2 : Int32) (i3 : Int32), fJ7_fill_53178_5 i1 n0  n c_a i2 i3 = some (o_a) → jw p l e rmJ7_fill_53178 s m args below meth c (jQ below args s A D vwCl (tyz cyI cyJ cyS) 0 0 none (uJ7_fill_53178 cyI cyJ cyS a0 n0 o_a)) A D vwCl 4 0 0 5 [(0, .ref (a0 0)), (1, .int i1), (2, .int i2), (3, .int i3)] [] (uJ7_fill_53178 cyI cyJ cyS a0 n0 c_a) := by
  intro n
  induction n with
  | zero => intro c_a i2 i3 h; cases h
  | succ n ih =>
    intro c_a i2 i3 h
    have h : bJ7_fill_53178_5 i1 n0  (fJ7_fill_53178_5 i1 n0  n) c_a i2 i3 = some (o_a) := h
    unfold bJ7_fill_53178_5 at h
    refine j_iload_n K 2 rfl dJ7_fill_53178_5 rfl ?_
    refine j_iload_n K 3 rfl dJ7_fill_53178_6 rfl ?_
    refine j_icmp_ge (tgt := 20) K dJ7_fill_53178_7 (by decide) rfl h (fun h => ?_) (fun h => ?_)
    · have h := Option.some.inj h
      subst h
      exact j_vret K dJ7_fill_53178_20
    · refine j_aload_n K 0 rfl dJ7_fill_53178_10 rfl ?_
      refine j_iload_n K 2 rfl dJ7_fill_53178_11 rfl ?_
      refine j_iload_n K 1 rfl dJ7_fill_53178_12 rfl ?_
      refine j_iast K 0 0 (fun z => (uJ7_fill_53178 cyI cyJ cyS a0 n0 z)) rfl rfl (fun _ => rfl) dJ7_fill_53178_13 rfl h (fun c_a_2 h => ?_)
      refine j_iincN (lf := fun z => [(2, .int z), (0, .ref (a0 0)), (1, .int i1), (3, .int i3)]) K (v := i2 + (1 : Int32)) (k := 2) rfl rfl (by decide) (fun _ => rfl) dJ7_fill_53178_14 rfl h (fun i2_3 h => ?_)
      refine j_goto (pc' := 5) K dJ7_fill_53178_17 (by decide) ?_
      refine j_sub [1, 2, 0, 3] (lv' := [(0, .ref (a0 0)), (1, .int i1), (2, .int i2_3), (3, .int i3)]) rfl ?_
      exact ih c_a_2 i2_3 i3 h
set_option maxRecDepth 100000 in
set_option maxHeartbeats 4000000 in
theorem ctJ7_fill_53178 (l : Launch) (D : va_G) (cyI cyJ cyS : ClassId) (a0 : Nat → Nat) (n0 : Nat) (i1 : Int32) (c_a : Nat → Int32) (o_a : Nat → Int32) (h : fJ7_fill_53178 i1 n0 c_a = some (o_a)) : jC l yJ7_fill_53178 wdJ7_fill_53178 rmJ7_fill_53178 D vwCl (tyz cyI cyJ cyS) [.ref (a0 0), .int i1] (uJ7_fill_53178 cyI cyJ cyS a0 n0 c_a) none (uJ7_fill_53178 cyI cyJ cyS a0 n0 o_a) := by
  refine jC_of (cc := cJ7_fill_53178) (nL := 4) (ret := none) (own := RJ7) (lv := [(0, .ref (a0 0)), (1, .int i1)]) (by decide) rfl rfl (Nat.le_of_ble_eq_true rfl) rfl ?_
  intro p e s m args below meth c A K
  unfold fJ7_fill_53178 at h
  refine j_iconst (v := (0 : Int32)) K (by decide) dJ7_fill_53178_0 rfl ?_
  refine j_istore_n (lv' := [(2, .int (0 : Int32)), (0, .ref (a0 0)), (1, .int i1)]) K (by decide) rfl dJ7_fill_53178_1 rfl ?_
  refine j_aload_n K 1 rfl dJ7_fill_53178_2 rfl ?_
  refine j_alen K 0 0 rfl rfl dJ7_fill_53178_3 rfl ?_
  refine j_nmI h (fun i3_1 h => ?_)
  refine j_istore_n (lv' := [(3, .int i3_1), (2, .int (0 : Int32)), (0, .ref (a0 0)), (1, .int i1)]) K (by decide) rfl dJ7_fill_53178_4 rfl ?_
  refine j_sub [2, 3, 1, 0] (lv' := [(0, .ref (a0 0)), (1, .int i1), (2, .int (0 : Int32)), (3, .int i3_1)]) rfl ?_
  exact wJ7_fill_53178_5 K a0 i1 n0 o_a jF c_a (0 : Int32) i3_1 h
abbrev uX1_roomBelow (cyI cyJ cyS : ClassId) (a0 : Nat → Nat) (c_size : Int32) (c_taken : Nat → Int32) : va_W := [((a0 0), .inr (1, [.int c_size, .ref (a0 1), .ref (a0 2), .ref (a0 3), .ref (a0 4), .ref (a0 5), .ref (a0 6), .ref (a0 7), .ref (a0 8), .ref (a0 9), .ref (a0 10), .ref (a0 11)])), ((a0 11), .inl (cyI, 13, .inl c_taken))]
abbrev rmX1_roomBelow : Room := { frames := 0, cells := 0, slots := 0, locals := 0 }
abbrev wdX1_roomBelow : List Cond := .code yX1_roomBelow cX1_roomBelow 4 (some .int) :: wsL_law
theorem hyX1_roomBelow : yX1_roomBelow.cls = RX1 ∧ yX1_roomBelow.cls ≠ "java/lang/invoke/MethodHandle" ∧ yX1_roomBelow.cls ≠ "java/lang/invoke/VarHandle" ∧ (parseMethodDescriptor yX1_roomBelow.desc).map (fun d => d.parameters.length) = some 2 := by decide +kernel
set_option maxRecDepth 100000 in
set_option maxHeartbeats 4000000 in
theorem wX1_roomBelow_2 (K : jK p s m args meth c A D vwCl (tyz cyI cyJ cyS) cX1_roomBelow 4 RX1 wdX1_roomBelow (some .int)) (a0 : Nat → Nat) (c_size : Int32) (i1 : Int32) (i2 : Int32) (o_r : Int32) (o_taken : Nat → Int32)   : ∀ (n : Nat) (c_taken : Nat → Int32) (i3 : Int32), fX1_roomBelow_2 i1 i2  n c_taken i3 = some (o_r, o_taken) → jw p l e rmX1_roomBelow s m args below meth c (jQ below args s A D vwCl (tyz cyI cyJ cyS) 0 0 (some (.int o_r)) (uX1_roomBelow cyI cyJ cyS a0 c_size o_taken)) A D vwCl 4 0 0 2 [(0, .ref (a0 0)), (2, .int i2), (3, .int i3)] [] (uX1_roomBelow cyI cyJ cyS a0 c_size c_taken) := by
  intro n
  induction n with
  | zero => intro c_taken i3 h; cases h
  | succ n ih =>
    intro c_taken i3 h
    have h : bX1_roomBelow_2 i1 i2  (fX1_roomBelow_2 i1 i2  n) c_taken i3 = some (o_r, o_taken) := h
    unfold bX1_roomBelow_2 at h
    refine j_iload_n K 2 rfl dX1_roomBelow_2 rfl ?_
    refine j_if_le (tgt := 34) K dX1_roomBelow_3 (by decide) rfl h (fun h => ?_) (fun h => ?_)
    · refine j_iconst (v := (0 : Int32)) K (by decide) dX1_roomBelow_34 rfl ?_
      obtain ⟨e1, g1⟩ := Prod.mk.inj (Option.some.inj h)
      subst e1
      subst g1
      exact j_iret K dX1_roomBelow_35
    · refine j_aload_n K 0 rfl dX1_roomBelow_6 rfl ?_
      refine j_getf (C := RX1) (T := TX1) (N := 12) (ci := 1) K icX1 0 11 (List.mem_cons_of_mem _ mw_4_17) rfl rfl rfl (by decide) rfl dX1_roomBelow_7 rfl ?_
      refine j_iload_n K 2 rfl dX1_roomBelow_10 rfl ?_
      refine j_iald K 1 0 rfl rfl dX1_roomBelow_11 rfl h (fun v_1 h => ?_)
      refine j_iload_n K 1 rfl dX1_roomBelow_12 rfl ?_
      refine j_icmp_ge (tgt := 28) K dX1_roomBelow_13 (by decide) rfl h (fun h => ?_) (fun h => ?_)
      · refine j_iincN (lf := fun z => [(3, .int z), (0, .ref (a0 0)), (2, .int i2)]) K (v := i3 + (-1 : Int32)) (k := 2) rfl (congrArg (fun z => i3 + z) (by decide)) (by decide) (fun _ => rfl) dX1_roomBelow_28 rfl h (fun i3_2 h => ?_)
        refine j_goto (pc' := 2) K dX1_roomBelow_31 (by decide) ?_
        refine j_sub [1, 2, 0] (lv' := [(0, .ref (a0 0)), (2, .int i2), (3, .int i3_2)]) rfl ?_
        exact ih c_taken i3_2 h
      · refine j_aload_n K 0 rfl dX1_roomBelow_16 rfl ?_
        refine j_getf (C := RX1) (T := TX1) (N := 12) (ci := 1) K icX1 0 11 (List.mem_cons_of_mem _ mw_4_17) rfl rfl rfl (by decide) rfl dX1_roomBelow_17 rfl ?_
        refine j_iload_n K 2 rfl dX1_roomBelow_20 rfl ?_
        refine j_dup2 K rfl rfl dX1_roomBelow_21 rfl ?_
        refine j_iald K 1 0 rfl rfl dX1_roomBelow_22 rfl h (fun v_3 h => ?_)
        refine j_iconst (v := (1 : Int32)) K (by decide) dX1_roomBelow_23 rfl ?_
        refine j_iadd K dX1_roomBelow_24 rfl ?_
        refine j_iast K 1 0 (fun z => (uX1_roomBelow cyI cyJ cyS a0 c_size z)) rfl rfl (fun _ => rfl) dX1_roomBelow_25 rfl h (fun c_taken_4 h => ?_)
        refine j_iload_n K 2 rfl dX1_roomBelow_26 rfl ?_
        obtain ⟨e1, g1⟩ := Prod.mk.inj (Option.some.inj h)
        subst e1
        subst g1
        exact j_iret K dX1_roomBelow_27
set_option maxRecDepth 100000 in
set_option maxHeartbeats 4000000 in
theorem ctX1_roomBelow (l : Launch) (D : va_G) (cyI cyJ cyS : ClassId) (a0 : Nat → Nat) (i1 : Int32) (i2 : Int32) (c_size : Int32) (c_taken : Nat → Int32) (o_r : Int32) (o_taken : Nat → Int32) (h : fX1_roomBelow i1 i2 c_taken = some (o_r, o_taken)) : jC l yX1_roomBelow wdX1_roomBelow rmX1_roomBelow D vwCl (tyz cyI cyJ cyS) [.ref (a0 0), .int i1, .int i2] (uX1_roomBelow cyI cyJ cyS a0 c_size c_taken) (some (.int o_r)) (uX1_roomBelow cyI cyJ cyS a0 c_size o_taken) := by
  refine jC_of (cc := cX1_roomBelow) (nL := 4) (ret := (some .int)) (own := RX1) (lv := [(0, .ref (a0 0)), (1, .int i1), (2, .int i2)]) (by decide) rfl rfl (Nat.le_of_ble_eq_true rfl) rfl ?_
  intro p e s m args below meth c A K
  unfold fX1_roomBelow at h
  refine j_iload_n K 1 rfl dX1_roomBelow_0 rfl ?_
  refine j_istore_n (lv' := [(3, .int i1), (0, .ref (a0 0)), (1, .int i1), (2, .int i2)]) K (by decide) rfl dX1_roomBelow_1 rfl ?_
  refine j_sub [1, 3, 0] (lv' := [(0, .ref (a0 0)), (2, .int i2), (3, .int i1)]) rfl ?_
  exact wX1_roomBelow_2 K a0 c_size i1 i2 o_r o_taken jF c_taken i1 h
abbrev uX1_wanted (cyI cyJ cyS : ClassId) (a0 : Nat → Nat) (c_size : Int32) (c_left : Nat → Int32) : va_W := [((a0 0), .inr (1, [.int c_size, .ref (a0 1), .ref (a0 2), .ref (a0 3), .ref (a0 4), .ref (a0 5), .ref (a0 6), .ref (a0 7), .ref (a0 8), .ref (a0 9), .ref (a0 10), .ref (a0 11)])), ((a0 9), .inl (cyI, 8, .inl c_left))]
abbrev rmX1_wanted : Room := { frames := 1, cells := 0, slots := 0, locals := 23 }
abbrev wdX1_wanted : List Cond := .code yX1_wanted cX1_wanted 3 (some .int) :: wsL_law
theorem hyX1_wanted : yX1_wanted.cls = RX1 ∧ yX1_wanted.cls ≠ "java/lang/invoke/MethodHandle" ∧ yX1_wanted.cls ≠ "java/lang/invoke/VarHandle" ∧ (parseMethodDescriptor yX1_wanted.desc).map (fun d => d.parameters.length) = some 2 := by decide +kernel
set_option maxRecDepth 100000 in
set_option maxHeartbeats 4000000 in
theorem wX1_wanted_30 (K : jK p s m args meth c A D vwCl (tyz cyI cyJ cyS) cX1_wanted 3 RX1 wdX1_wanted (some .int)) (a0 : Nat → Nat) (c_size : Int32) (i1 : Int32) (i2 : Int32) (c_left : Nat → Int32) (o_r : Int32)   : ∀ (t0 : Int32) (t1 : Int32) (t2 : Int32), fX1_wanted_30 i1 i2 c_left  t0 t1 t2 = some (o_r) → jw p l e rmX1_wanted s m args below meth c (jQ below args s A D vwCl (tyz cyI cyJ cyS) 0 0 (some (.int o_r)) (uX1_wanted cyI cyJ cyS a0 c_size c_left)) A D vwCl 3 0 0 30 [] [.int t0, .int t1, .int t2] (uX1_wanted cyI cyJ cyS a0 c_size c_left) := by
  intro t0 t1 t2 h
  unfold fX1_wanted_30 at h
  refine j_iadd K dX1_wanted_30 rfl ?_
  refine j_mmin K (List.mem_cons_of_mem _ mw_14_14) (List.mem_cons_of_mem _ mw_14_15) (List.mem_cons_of_mem _ mw_14_16) (List.mem_cons_of_mem _ mw_14_17) ⟨Nat.le_of_ble_eq_true rfl, Nat.le_of_ble_eq_true rfl, Nat.le_of_ble_eq_true rfl, Nat.le_of_ble_eq_true rfl⟩ dX1_wanted_31 rfl ?_
  have h := Option.some.inj h
  subst h
  exact j_iret K dX1_wanted_34
set_option maxRecDepth 100000 in
set_option maxHeartbeats 4000000 in
theorem ctX1_wanted (l : Launch) (D : va_G) (cyI cyJ cyS : ClassId) (a0 : Nat → Nat) (i1 : Int32) (i2 : Int32) (c_size : Int32) (c_left : Nat → Int32) (o_r : Int32) (h : fX1_wanted i1 i2 c_left = some (o_r)) : jC l yX1_wanted wdX1_wanted rmX1_wanted D vwCl (tyz cyI cyJ cyS) [.ref (a0 0), .int i1, .int i2] (uX1_wanted cyI cyJ cyS a0 c_size c_left) (some (.int o_r)) (uX1_wanted cyI cyJ cyS a0 c_size c_left) := by
  refine jC_of (cc := cX1_wanted) (nL := 3) (ret := (some .int)) (own := RX1) (lv := [(0, .ref (a0 0)), (1, .int i1), (2, .int i2)]) (by decide) rfl rfl (Nat.le_of_ble_eq_true rfl) rfl ?_
  intro p e s m args below meth c A K
  unfold fX1_wanted at h
  refine j_aload_n K 0 rfl dX1_wanted_0 rfl ?_
  refine j_getf (C := RX1) (T := TX1) (N := 12) (ci := 1) K icX1 0 9 (List.mem_cons_of_mem _ mw_4_15) rfl rfl rfl (by decide) rfl dX1_wanted_1 rfl ?_
  refine j_iload_n K 1 rfl dX1_wanted_4 rfl ?_
  refine j_iald K 1 0 rfl rfl dX1_wanted_5 rfl h (fun v_1 h => ?_)
  refine j_if_ge (tgt := 11) K dX1_wanted_6 (by decide) rfl h (fun h => ?_) (fun h => ?_)
  · refine j_bipush (v := (12 : Int32)) K (by decide) dX1_wanted_11 rfl ?_
    refine j_aload_n K 0 rfl dX1_wanted_13 rfl ?_
    refine j_getf (C := RX1) (T := TX1) (N := 12) (ci := 1) K icX1 0 9 (List.mem_cons_of_mem _ mw_4_15) rfl rfl rfl (by decide) rfl dX1_wanted_14 rfl ?_
    refine j_iload_n K 1 rfl dX1_wanted_17 rfl ?_
    refine j_iald K 1 0 rfl rfl dX1_wanted_18 rfl h (fun v_2 h => ?_)
    refine j_iconst (v := (3 : Int32)) K (by decide) dX1_wanted_19 rfl ?_
    refine j_idiv K (by decide) dX1_wanted_20 rfl ?_
    refine j_iload_n K 2 rfl dX1_wanted_21 rfl ?_
    refine j_if_eq (tgt := 29) K dX1_wanted_22 (by decide) rfl h (fun h => ?_) (fun h => ?_)
    · refine j_iconst (v := (1 : Int32)) K (by decide) dX1_wanted_29 rfl ?_
      refine j_sub [] (lv' := []) rfl ?_
      exact wX1_wanted_30 K a0 c_size i1 i2 c_left o_r (1 : Int32) (v_2 / (3 : Int32)) (12 : Int32) h
    · refine j_iconst (v := (0 : Int32)) K (by decide) dX1_wanted_25 rfl ?_
      refine j_goto (pc' := 30) K dX1_wanted_26 (by decide) ?_
      refine j_sub [] (lv' := []) rfl ?_
      exact wX1_wanted_30 K a0 c_size i1 i2 c_left o_r (0 : Int32) (v_2 / (3 : Int32)) (12 : Int32) h
  · refine j_iconst (v := (0 : Int32)) K (by decide) dX1_wanted_9 rfl ?_
    have h := Option.some.inj h
    subst h
    exact j_iret K dX1_wanted_10
abbrev uX1_giveFloors (cyI cyJ cyS : ClassId) (a0 : Nat → Nat) (c_size : Int32) (c_floor : Nat → Int32) (c_left : Nat → Int32) (c_order : Nat → Int32) (c_taken : Nat → Int32) : va_W := [((a0 0), .inr (1, [.int c_size, .ref (a0 1), .ref (a0 2), .ref (a0 3), .ref (a0 4), .ref (a0 5), .ref (a0 6), .ref (a0 7), .ref (a0 8), .ref (a0 9), .ref (a0 10), .ref (a0 11)])), ((a0 7), .inl (cyI, 8, .inl c_floor)), ((a0 9), .inl (cyI, 8, .inl c_left)), ((a0 10), .inl (cyI, 8, .inl c_order)), ((a0 11), .inl (cyI, 13, .inl c_taken))]
abbrev rmX1_giveFloors : Room := { frames := 2, cells := 0, slots := 0, locals := 45 }
abbrev wdX1_giveFloors : List Cond := .code yX1_giveFloors cX1_giveFloors 5 none :: wsL_law
theorem hyX1_giveFloors : yX1_giveFloors.cls = RX1 ∧ yX1_giveFloors.cls ≠ "java/lang/invoke/MethodHandle" ∧ yX1_giveFloors.cls ≠ "java/lang/invoke/VarHandle" ∧ (parseMethodDescriptor yX1_giveFloors.desc).map (fun d => d.parameters.length) = some 2 := by decide +kernel
set_option maxRecDepth 100000 in
set_option maxHeartbeats 4000000 in
theorem wX1_giveFloors_56 (K : jK p s m args meth c A D vwCl (tyz cyI cyJ cyS) cX1_giveFloors 5 RX1 wdX1_giveFloors none) (a0 : Nat → Nat)  (i1 : Int32) (i2 : Int32) (c_size : Int32) (c_left : Nat → Int32) (c_order : Nat → Int32) (o_floor : Nat → Int32) (o_taken : Nat → Int32)  (q_10 : (Nat → Int32) → (Nat → Int32) → Int32 → (Option ((Nat → Int32) × (Nat → Int32)))) (hq_10 : ∀ (c_floor : Nat → Int32) (c_taken : Nat → Int32) (i3 : Int32), q_10 c_floor c_taken i3 = some (o_floor, o_taken) → jw p l e rmX1_giveFloors s m args below meth c (jQ below args s A D vwCl (tyz cyI cyJ cyS) 0 0 none (uX1_giveFloors cyI cyJ cyS a0 c_size o_floor c_left c_order o_taken)) A D vwCl 5 0 0 10 [(0, .ref (a0 0)), (1, .int i1), (2, .int i2), (3, .int i3)] [] (uX1_giveFloors cyI cyJ cyS a0 c_size c_floor c_left c_order c_taken)) : ∀ (c_floor : Nat → Int32) (c_taken : Nat → Int32) (i3 : Int32), fX1_giveFloors_56 i1 i2 c_size c_left c_order q_10 c_floor c_taken i3 = some (o_floor, o_taken) → jw p l e rmX1_giveFloors s m args below meth c (jQ below args s A D vwCl (tyz cyI cyJ cyS) 0 0 none (uX1_giveFloors cyI cyJ cyS a0 c_size o_floor c_left c_order o_taken)) A D vwCl 5 0 0 56 [(0, .ref (a0 0)), (1, .int i1), (2, .int i2), (3, .int i3)] [] (uX1_giveFloors cyI cyJ cyS a0 c_size c_floor c_left c_order c_taken) := by
  intro c_floor c_taken i3 h
  unfold fX1_giveFloors_56 at h
  refine j_iincN (lf := fun z => [(3, .int z), (0, .ref (a0 0)), (1, .int i1), (2, .int i2)]) K (v := i3 + (1 : Int32)) (k := 3) rfl rfl (by decide) (fun _ => rfl) dX1_giveFloors_56 rfl h (fun i3_4 h => ?_)
  refine j_goto (pc' := 10) K dX1_giveFloors_59 (by decide) ?_
  refine j_sub [1, 2, 3, 0] (lv' := [(0, .ref (a0 0)), (1, .int i1), (2, .int i2), (3, .int i3_4)]) rfl ?_
  exact hq_10 c_floor c_taken i3_4 h
set_option maxRecDepth 100000 in
set_option maxHeartbeats 4000000 in
theorem wX1_giveFloors_10 (K : jK p s m args meth c A D vwCl (tyz cyI cyJ cyS) cX1_giveFloors 5 RX1 wdX1_giveFloors none) (a0 : Nat → Nat)  (i1 : Int32) (i2 : Int32) (c_size : Int32) (c_left : Nat → Int32) (c_order : Nat → Int32) (o_floor : Nat → Int32) (o_taken : Nat → Int32)   : ∀ (n : Nat) (c_floor : Nat → Int32) (c_taken : Nat → Int32) (i3 : Int32), fX1_giveFloors_10 i1 i2 c_size c_left c_order  n c_floor c_taken i3 = some (o_floor, o_taken) → jw p l e rmX1_giveFloors s m args below meth c (jQ below args s A D vwCl (tyz cyI cyJ cyS) 0 0 none (uX1_giveFloors cyI cyJ cyS a0 c_size o_floor c_left c_order o_taken)) A D vwCl 5 0 0 10 [(0, .ref (a0 0)), (1, .int i1), (2, .int i2), (3, .int i3)] [] (uX1_giveFloors cyI cyJ cyS a0 c_size c_floor c_left c_order c_taken) := by
  intro n
  induction n with
  | zero => intro c_floor c_taken i3 h; cases h
  | succ n ih =>
    intro c_floor c_taken i3 h
    have h : bX1_giveFloors_10 i1 i2 c_size c_left c_order  (fX1_giveFloors_10 i1 i2 c_size c_left c_order  n) c_floor c_taken i3 = some (o_floor, o_taken) := h
    unfold bX1_giveFloors_10 at h
    refine j_iload_n K 3 rfl dX1_giveFloors_10 rfl ?_
    refine j_aload_n K 0 rfl dX1_giveFloors_11 rfl ?_
    refine j_getf (C := RX1) (T := TX1) (N := 12) (ci := 1) K icX1 0 0 (List.mem_cons_of_mem _ mw_4_6) rfl rfl rfl (by decide) rfl dX1_giveFloors_12 rfl ?_
    refine j_icmp_ge (tgt := 62) K dX1_giveFloors_15 (by decide) rfl h (fun h => ?_) (fun h => ?_)
    · obtain ⟨e1, g1⟩ := Prod.mk.inj (Option.some.inj h)
      subst e1
      subst g1
      exact j_vret K dX1_giveFloors_62
    · refine j_aload_n K 0 rfl dX1_giveFloors_18 rfl ?_
      refine j_getf (C := RX1) (T := TX1) (N := 12) (ci := 1) K icX1 0 10 (List.mem_cons_of_mem _ mw_4_16) rfl rfl rfl (by decide) rfl dX1_giveFloors_19 rfl ?_
      refine j_iload_n K 3 rfl dX1_giveFloors_22 rfl ?_
      refine j_iald K 3 0 rfl rfl dX1_giveFloors_23 rfl h (fun v_2 h => ?_)
      refine j_istore (lv' := [(4, .int v_2), (0, .ref (a0 0)), (1, .int i1), (2, .int i2), (3, .int i3)]) K (by decide) rfl dX1_giveFloors_24 rfl ?_
      refine j_aload_n K 1 rfl dX1_giveFloors_26 rfl ?_
      refine j_getf (C := RX1) (T := TX1) (N := 12) (ci := 1) K icX1 0 7 (List.mem_cons_of_mem _ mw_4_13) rfl rfl rfl (by decide) rfl dX1_giveFloors_27 rfl ?_
      refine j_iload K 0 rfl dX1_giveFloors_30 rfl ?_
      refine j_iald K 1 0 rfl rfl dX1_giveFloors_32 rfl h (fun v_3 h => ?_)
      refine j_iconst (v := (-1 : Int32)) K (by decide) dX1_giveFloors_33 rfl ?_
      refine j_icmp_eq (tgt := 56) K dX1_giveFloors_34 (by decide) rfl h (fun h => ?_) (fun h => ?_)
      · refine j_sub [1, 2, 3, 4] (lv' := [(0, .ref (a0 0)), (1, .int i1), (2, .int i2), (3, .int i3)]) rfl ?_
        exact wX1_giveFloors_56 K a0 i1 i2 c_size c_left c_order o_floor o_taken (fX1_giveFloors_10 i1 i2 c_size c_left c_order n) (fun z0 z1 z2 hq => ih z0 z1 z2 hq) c_floor c_taken i3 h
      · refine j_aload_n K 1 rfl dX1_giveFloors_37 rfl ?_
        refine j_getf (C := RX1) (T := TX1) (N := 12) (ci := 1) K icX1 0 7 (List.mem_cons_of_mem _ mw_4_13) rfl rfl rfl (by decide) rfl dX1_giveFloors_38 rfl ?_
        refine j_iload K 0 rfl dX1_giveFloors_41 rfl ?_
        refine j_aload_n K 1 rfl dX1_giveFloors_43 rfl ?_
        refine j_aload_n K 1 rfl dX1_giveFloors_44 rfl ?_
        refine j_iload K 0 rfl dX1_giveFloors_45 rfl ?_
        refine j_iload_n K 3 rfl dX1_giveFloors_47 rfl ?_
        obtain ⟨r_5, hc, h⟩ := bd1_some h
        refine j_callV (rest := [.ref (a0 0), .int v_2, .ref (a0 7)]) (st1 := [.int r_5, .ref (a0 0), .int v_2, .ref (a0 7)]) (ws' := (uX1_giveFloors cyI cyJ cyS a0 c_size c_floor c_left c_order c_taken)) (T := TX1) (N := 12) (ci := 1) K (ctX1_wanted l D cyI cyJ cyS a0 v_2 i2 c_size c_left r_5 hc) (gdV mcL mw_15_14 mw_15_15 mw_15_16 mw_2_7 mw_15_17) rfl ⟨rfl, rfl⟩ hyX1_wanted ⟨Nat.le_of_ble_eq_true rfl, Nat.le_of_ble_eq_true rfl, Nat.le_of_ble_eq_true rfl, Nat.le_of_ble_eq_true rfl⟩ [0, 2] (by decide) rfl [some 0, none, some 1, none, none] (by decide) rfl rfl 0 rfl rfl rfl rfl (Nat.le_of_ble_eq_true rfl) dX1_giveFloors_48 rfl rfl ?_
        refine j_iload_n K 2 rfl dX1_giveFloors_51 rfl ?_
        obtain ⟨r_6, c_taken_7, hc, h⟩ := bd2_some h
        refine j_callV (rest := [.int v_2, .ref (a0 7)]) (st1 := [.int r_6, .int v_2, .ref (a0 7)]) (ws' := (uX1_giveFloors cyI cyJ cyS a0 c_size c_floor c_left c_order c_taken_7)) (T := TX1) (N := 12) (ci := 1) K (ctX1_roomBelow l D cyI cyJ cyS a0 r_5 i1 c_size c_taken r_6 c_taken_7 hc) (gdV mcL mw_15_18 mw_15_19 mw_15_20 mw_2_7 mw_15_21) rfl ⟨rfl, rfl⟩ hyX1_roomBelow ⟨Nat.le_of_ble_eq_true rfl, Nat.le_of_ble_eq_true rfl, Nat.le_of_ble_eq_true rfl, Nat.le_of_ble_eq_true rfl⟩ [0, 4] (by decide) rfl [some 0, none, none, none, some 1] (by decide) rfl rfl 0 rfl rfl rfl rfl (Nat.le_of_ble_eq_true rfl) dX1_giveFloors_52 rfl rfl ?_
        refine j_iast K 1 0 (fun z => (uX1_giveFloors cyI cyJ cyS a0 c_size z c_left c_order c_taken_7)) rfl rfl (fun _ => rfl) dX1_giveFloors_55 rfl h (fun c_floor_8 h => ?_)
        refine j_sub [1, 2, 3, 4] (lv' := [(0, .ref (a0 0)), (1, .int i1), (2, .int i2), (3, .int i3)]) rfl ?_
        exact wX1_giveFloors_56 K a0 i1 i2 c_size c_left c_order o_floor o_taken (fX1_giveFloors_10 i1 i2 c_size c_left c_order n) (fun z0 z1 z2 hq => ih z0 z1 z2 hq) c_floor_8 c_taken_7 i3 h
set_option maxRecDepth 100000 in
set_option maxHeartbeats 4000000 in
theorem ctX1_giveFloors (l : Launch) (D : va_G) (cyI cyJ cyS : ClassId) (a0 : Nat → Nat) (i1 : Int32) (i2 : Int32) (c_size : Int32) (c_left : Nat → Int32) (c_order : Nat → Int32) (c_floor : Nat → Int32) (c_taken : Nat → Int32) (o_floor : Nat → Int32) (o_taken : Nat → Int32) (h : fX1_giveFloors i1 i2 c_size c_left c_order c_floor c_taken = some (o_floor, o_taken)) : jC l yX1_giveFloors wdX1_giveFloors rmX1_giveFloors D vwCl (tyz cyI cyJ cyS) [.ref (a0 0), .int i1, .int i2] (uX1_giveFloors cyI cyJ cyS a0 c_size c_floor c_left c_order c_taken) none (uX1_giveFloors cyI cyJ cyS a0 c_size o_floor c_left c_order o_taken) := by
  refine jC_of (cc := cX1_giveFloors) (nL := 5) (ret := none) (own := RX1) (lv := [(0, .ref (a0 0)), (1, .int i1), (2, .int i2)]) (by decide) rfl rfl (Nat.le_of_ble_eq_true rfl) rfl ?_
  intro p e s m args below meth c A K
  unfold fX1_giveFloors at h
  refine j_aload_n K 0 rfl dX1_giveFloors_0 rfl ?_
  refine j_getf (C := RX1) (T := TX1) (N := 12) (ci := 1) K icX1 0 11 (List.mem_cons_of_mem _ mw_4_17) rfl rfl rfl (by decide) rfl dX1_giveFloors_1 rfl ?_
  refine j_iconst (v := (0 : Int32)) K (by decide) dX1_giveFloors_4 rfl ?_
  obtain ⟨c_taken_1, hc, h⟩ := bd1_some h
  refine j_callS (rest := []) (st1 := []) (ws' := (uX1_giveFloors cyI cyJ cyS a0 c_size c_floor c_left c_order c_taken_1)) K (ctJ7_fill_53178 l D cyI cyJ cyS (fun k => a0 (k + 11)) 13 (0 : Int32) c_taken c_taken_1 hc) (gdS mcL mw_15_10 mw_15_11 mw_15_12 mw_15_13) rfl ⟨rfl, rfl⟩ hzJ7_fill_53178 ⟨Nat.le_of_ble_eq_true rfl, Nat.le_of_ble_eq_true rfl, Nat.le_of_ble_eq_true rfl, Nat.le_of_ble_eq_true rfl⟩ [4] (by decide) rfl [none, none, none, none, some 0] (by decide) rfl rfl rfl rfl (Nat.le_of_ble_eq_true rfl) dX1_giveFloors_5 rfl rfl ?_
  refine j_iconst (v := (0 : Int32)) K (by decide) dX1_giveFloors_8 rfl ?_
  refine j_istore_n (lv' := [(3, .int (0 : Int32)), (0, .ref (a0 0)), (1, .int i1), (2, .int i2)]) K (by decide) rfl dX1_giveFloors_9 rfl ?_
  refine j_sub [1, 2, 3, 0] (lv' := [(0, .ref (a0 0)), (1, .int i1), (2, .int i2), (3, .int (0 : Int32))]) rfl ?_
  exact wX1_giveFloors_10 K a0 i1 i2 c_size c_left c_order o_floor o_taken jF c_floor c_taken_1 (0 : Int32) h
abbrev uX1_keep (cyI cyJ cyS : ClassId) (a0 : Nat → Nat) (c_size : Int32) (c_floors : Nat → Int32) (c_lefts : Nat → Int32) (c_floor : Nat → Int32) (c_left : Nat → Int32) : va_W := [((a0 0), .inr (1, [.int c_size, .ref (a0 1), .ref (a0 2), .ref (a0 3), .ref (a0 4), .ref (a0 5), .ref (a0 6), .ref (a0 7), .ref (a0 8), .ref (a0 9), .ref (a0 10), .ref (a0 11)])), ((a0 4), .inl (cyI, 192, .inl c_floors)), ((a0 5), .inl (cyI, 192, .inl c_lefts)), ((a0 7), .inl (cyI, 8, .inl c_floor)), ((a0 9), .inl (cyI, 8, .inl c_left))]
abbrev rmX1_keep : Room := { frames := 0, cells := 0, slots := 0, locals := 0 }
abbrev wdX1_keep : List Cond := .code yX1_keep cX1_keep 3 none :: wsL_law
theorem hyX1_keep : yX1_keep.cls = RX1 ∧ yX1_keep.cls ≠ "java/lang/invoke/MethodHandle" ∧ yX1_keep.cls ≠ "java/lang/invoke/VarHandle" ∧ (parseMethodDescriptor yX1_keep.desc).map (fun d => d.parameters.length) = some 1 := by decide +kernel
set_option maxRecDepth 100000 in
set_option maxHeartbeats 4000000 in
theorem wX1_keep_2 (K : jK p s m args meth c A D vwCl (tyz cyI cyJ cyS) cX1_keep 3 RX1 wdX1_keep none) (a0 : Nat → Nat)  (i1 : Int32) (c_size : Int32) (c_floor : Nat → Int32) (c_left : Nat → Int32) (o_floors : Nat → Int32) (o_lefts : Nat → Int32)   : ∀ (n : Nat) (c_floors : Nat → Int32) (c_lefts : Nat → Int32) (i2 : Int32), fX1_keep_2 i1 c_size c_floor c_left  n c_floors c_lefts i2 = some (o_floors, o_lefts) → jw p l e rmX1_keep s m args below meth c (jQ below args s A D vwCl (tyz cyI cyJ cyS) 0 0 none (uX1_keep cyI cyJ cyS a0 c_size o_floors o_lefts c_floor c_left)) A D vwCl 3 0 0 2 [(0, .ref (a0 0)), (1, .int i1), (2, .int i2)] [] (uX1_keep cyI cyJ cyS a0 c_size c_floors c_lefts c_floor c_left) := by
  intro n
  induction n with
  | zero => intro c_floors c_lefts i2 h; cases h
  | succ n ih =>
    intro c_floors c_lefts i2 h
    have h : bX1_keep_2 i1 c_size c_floor c_left  (fX1_keep_2 i1 c_size c_floor c_left  n) c_floors c_lefts i2 = some (o_floors, o_lefts) := h
    unfold bX1_keep_2 at h
    refine j_iload_n K 2 rfl dX1_keep_2 rfl ?_
    refine j_aload_n K 0 rfl dX1_keep_3 rfl ?_
    refine j_getf (C := RX1) (T := TX1) (N := 12) (ci := 1) K icX1 0 0 (List.mem_cons_of_mem _ mw_4_6) rfl rfl rfl (by decide) rfl dX1_keep_4 rfl ?_
    refine j_icmp_ge (tgt := 50) K dX1_keep_7 (by decide) rfl h (fun h => ?_) (fun h => ?_)
    · obtain ⟨e1, g1⟩ := Prod.mk.inj (Option.some.inj h)
      subst e1
      subst g1
      exact j_vret K dX1_keep_50
    · refine j_aload_n K 0 rfl dX1_keep_10 rfl ?_
      refine j_getf (C := RX1) (T := TX1) (N := 12) (ci := 1) K icX1 0 4 (List.mem_cons_of_mem _ mw_4_10) rfl rfl rfl (by decide) rfl dX1_keep_11 rfl ?_
      refine j_iload_n K 1 rfl dX1_keep_14 rfl ?_
      refine j_bipush (v := (8 : Int32)) K (by decide) dX1_keep_15 rfl ?_
      refine j_imul K dX1_keep_17 rfl ?_
      refine j_iload_n K 2 rfl dX1_keep_18 rfl ?_
      refine j_iadd K dX1_keep_19 rfl ?_
      refine j_aload_n K 0 rfl dX1_keep_20 rfl ?_
      refine j_getf (C := RX1) (T := TX1) (N := 12) (ci := 1) K icX1 0 7 (List.mem_cons_of_mem _ mw_4_13) rfl rfl rfl (by decide) rfl dX1_keep_21 rfl ?_
      refine j_iload_n K 2 rfl dX1_keep_24 rfl ?_
      refine j_iald K 3 0 rfl rfl dX1_keep_25 rfl h (fun v_1 h => ?_)
      refine j_iast K 1 0 (fun z => (uX1_keep cyI cyJ cyS a0 c_size z c_lefts c_floor c_left)) rfl rfl (fun _ => rfl) dX1_keep_26 rfl h (fun c_floors_2 h => ?_)
      refine j_aload_n K 0 rfl dX1_keep_27 rfl ?_
      refine j_getf (C := RX1) (T := TX1) (N := 12) (ci := 1) K icX1 0 5 (List.mem_cons_of_mem _ mw_4_11) rfl rfl rfl (by decide) rfl dX1_keep_28 rfl ?_
      refine j_iload_n K 1 rfl dX1_keep_31 rfl ?_
      refine j_bipush (v := (8 : Int32)) K (by decide) dX1_keep_32 rfl ?_
      refine j_imul K dX1_keep_34 rfl ?_
      refine j_iload_n K 2 rfl dX1_keep_35 rfl ?_
      refine j_iadd K dX1_keep_36 rfl ?_
      refine j_aload_n K 0 rfl dX1_keep_37 rfl ?_
      refine j_getf (C := RX1) (T := TX1) (N := 12) (ci := 1) K icX1 0 9 (List.mem_cons_of_mem _ mw_4_15) rfl rfl rfl (by decide) rfl dX1_keep_38 rfl ?_
      refine j_iload_n K 2 rfl dX1_keep_41 rfl ?_
      refine j_iald K 4 0 rfl rfl dX1_keep_42 rfl h (fun v_3 h => ?_)
      refine j_iast K 2 0 (fun z => (uX1_keep cyI cyJ cyS a0 c_size c_floors_2 z c_floor c_left)) rfl rfl (fun _ => rfl) dX1_keep_43 rfl h (fun c_lefts_4 h => ?_)
      refine j_iincN (lf := fun z => [(2, .int z), (0, .ref (a0 0)), (1, .int i1)]) K (v := i2 + (1 : Int32)) (k := 2) rfl rfl (by decide) (fun _ => rfl) dX1_keep_44 rfl h (fun i2_5 h => ?_)
      refine j_goto (pc' := 2) K dX1_keep_47 (by decide) ?_
      refine j_sub [1, 2, 0] (lv' := [(0, .ref (a0 0)), (1, .int i1), (2, .int i2_5)]) rfl ?_
      exact ih c_floors_2 c_lefts_4 i2_5 h
set_option maxRecDepth 100000 in
set_option maxHeartbeats 4000000 in
theorem ctX1_keep (l : Launch) (D : va_G) (cyI cyJ cyS : ClassId) (a0 : Nat → Nat) (i1 : Int32) (c_size : Int32) (c_floor : Nat → Int32) (c_left : Nat → Int32) (c_floors : Nat → Int32) (c_lefts : Nat → Int32) (o_floors : Nat → Int32) (o_lefts : Nat → Int32) (h : fX1_keep i1 c_size c_floor c_left c_floors c_lefts = some (o_floors, o_lefts)) : jC l yX1_keep wdX1_keep rmX1_keep D vwCl (tyz cyI cyJ cyS) [.ref (a0 0), .int i1] (uX1_keep cyI cyJ cyS a0 c_size c_floors c_lefts c_floor c_left) none (uX1_keep cyI cyJ cyS a0 c_size o_floors o_lefts c_floor c_left) := by
  refine jC_of (cc := cX1_keep) (nL := 3) (ret := none) (own := RX1) (lv := [(0, .ref (a0 0)), (1, .int i1)]) (by decide) rfl rfl (Nat.le_of_ble_eq_true rfl) rfl ?_
  intro p e s m args below meth c A K
  unfold fX1_keep at h
  refine j_iconst (v := (0 : Int32)) K (by decide) dX1_keep_0 rfl ?_
  refine j_istore_n (lv' := [(2, .int (0 : Int32)), (0, .ref (a0 0)), (1, .int i1)]) K (by decide) rfl dX1_keep_1 rfl ?_
  refine j_sub [1, 2, 0] (lv' := [(0, .ref (a0 0)), (1, .int i1), (2, .int (0 : Int32))]) rfl ?_
  exact wX1_keep_2 K a0 i1 c_size c_floor c_left o_floors o_lefts jF c_floors c_lefts (0 : Int32) h
abbrev uX1_meetEvents (cyI cyJ cyS : ClassId) (a0 : Nat → Nat) (a1 : Nat → Nat) (c_size : Int32) (c_floor : Nat → Int32) (c_left : Nat → Int32) (c1_size : Int32) (c1_kind : Nat → Int32) (c1_month : Nat → Int32) (c1_number : Nat → Int32) : va_W := [((a0 0), .inr (1, [.int c_size, .ref (a0 1), .ref (a0 2), .ref (a0 3), .ref (a0 4), .ref (a0 5), .ref (a0 6), .ref (a0 7), .ref (a0 8), .ref (a0 9), .ref (a0 10), .ref (a0 11)])), ((a0 7), .inl (cyI, 8, .inl c_floor)), ((a0 9), .inl (cyI, 8, .inl c_left)), ((a1 0), .inr (2, [.ref (a1 1), .ref (a1 2), .ref (a1 3), .int c1_size])), ((a1 1), .inl (cyI, 8, .inl c1_kind)), ((a1 2), .inl (cyI, 8, .inl c1_month)), ((a1 3), .inl (cyI, 8, .inl c1_number))]
abbrev rmX1_meetEvents : Room := { frames := 0, cells := 0, slots := 0, locals := 0 }
abbrev wdX1_meetEvents : List Cond := .code yX1_meetEvents cX1_meetEvents 7 (some .boolean) :: wsL_law
theorem hyX1_meetEvents : yX1_meetEvents.cls = RX1 ∧ yX1_meetEvents.cls ≠ "java/lang/invoke/MethodHandle" ∧ yX1_meetEvents.cls ≠ "java/lang/invoke/VarHandle" ∧ (parseMethodDescriptor yX1_meetEvents.desc).map (fun d => d.parameters.length) = some 3 := by decide +kernel
set_option maxRecDepth 100000 in
set_option maxHeartbeats 4000000 in
theorem wX1_meetEvents_108 (K : jK p s m args meth c A D vwCl (tyz cyI cyJ cyS) cX1_meetEvents 7 RX1 wdX1_meetEvents (some .boolean)) (a0 : Nat → Nat) (a1 : Nat → Nat)  (i2 : Int32) (i3 : Int32) (c_size : Int32) (c_floor : Nat → Int32) (c1_size : Int32) (c1_kind : Nat → Int32) (c1_month : Nat → Int32) (c1_number : Nat → Int32) (o_r : Int32) (o_left : Nat → Int32)  (q_6 : (Nat → Int32) → Int32 → Int32 → (Option (Int32 × (Nat → Int32)))) (hq_6 : ∀ (c_left : Nat → Int32) (i4 : Int32) (i5 : Int32), q_6 c_left i4 i5 = some (o_r, o_left) → jw p l e rmX1_meetEvents s m args below meth c (jQ below args s A D vwCl (tyz cyI cyJ cyS) 0 0 (some (.int o_r)) (uX1_meetEvents cyI cyJ cyS a0 a1 c_size c_floor o_left c1_size c1_kind c1_month c1_number)) A D vwCl 7 0 0 6 [(0, .ref (a0 0)), (1, .ref (a1 0)), (2, .int i2), (3, .int i3), (4, .int i4), (5, .int i5)] [] (uX1_meetEvents cyI cyJ cyS a0 a1 c_size c_floor c_left c1_size c1_kind c1_month c1_number)) : ∀ (c_left : Nat → Int32) (i4 : Int32) (i5 : Int32), fX1_meetEvents_108 i2 i3 c_size c_floor c1_size c1_kind c1_month c1_number q_6 c_left i4 i5 = some (o_r, o_left) → jw p l e rmX1_meetEvents s m args below meth c (jQ below args s A D vwCl (tyz cyI cyJ cyS) 0 0 (some (.int o_r)) (uX1_meetEvents cyI cyJ cyS a0 a1 c_size c_floor o_left c1_size c1_kind c1_month c1_number)) A D vwCl 7 0 0 108 [(0, .ref (a0 0)), (1, .ref (a1 0)), (2, .int i2), (3, .int i3), (4, .int i4), (5, .int i5)] [] (uX1_meetEvents cyI cyJ cyS a0 a1 c_size c_floor c_left c1_size c1_kind c1_month c1_number) := by
  intro c_left i4 i5 h
  unfold fX1_meetEvents_108 at h
  refine j_iincN (lf := fun z => [(5, .int z), (0, .ref (a0 0)), (1, .ref (a1 0)), (2, .int i2), (3, .int i3), (4, .int i4)]) K (v := i5 + (1 : Int32)) (k := 5) rfl rfl (by decide) (fun _ => rfl) dX1_meetEvents_108 rfl h (fun i5_2 h => ?_)
  refine j_goto (pc' := 6) K dX1_meetEvents_111 (by decide) ?_
  refine j_sub [1, 2, 3, 4, 5, 0] (lv' := [(0, .ref (a0 0)), (1, .ref (a1 0)), (2, .int i2), (3, .int i3), (4, .int i4), (5, .int i5_2)]) rfl ?_
  exact hq_6 c_left i4 i5_2 h
set_option maxRecDepth 100000 in
set_option maxHeartbeats 4000000 in
theorem wX1_meetEvents_106 (K : jK p s m args meth c A D vwCl (tyz cyI cyJ cyS) cX1_meetEvents 7 RX1 wdX1_meetEvents (some .boolean)) (a0 : Nat → Nat) (a1 : Nat → Nat)  (i2 : Int32) (i3 : Int32) (c_size : Int32) (c_floor : Nat → Int32) (c1_size : Int32) (c1_kind : Nat → Int32) (c1_month : Nat → Int32) (c1_number : Nat → Int32) (o_r : Int32) (o_left : Nat → Int32)  (q_6 : (Nat → Int32) → Int32 → Int32 → (Option (Int32 × (Nat → Int32)))) (hq_6 : ∀ (c_left : Nat → Int32) (i4 : Int32) (i5 : Int32), q_6 c_left i4 i5 = some (o_r, o_left) → jw p l e rmX1_meetEvents s m args below meth c (jQ below args s A D vwCl (tyz cyI cyJ cyS) 0 0 (some (.int o_r)) (uX1_meetEvents cyI cyJ cyS a0 a1 c_size c_floor o_left c1_size c1_kind c1_month c1_number)) A D vwCl 7 0 0 6 [(0, .ref (a0 0)), (1, .ref (a1 0)), (2, .int i2), (3, .int i3), (4, .int i4), (5, .int i5)] [] (uX1_meetEvents cyI cyJ cyS a0 a1 c_size c_floor c_left c1_size c1_kind c1_month c1_number)) : ∀ (c_left : Nat → Int32) (i4 : Int32) (i5 : Int32) (t0 : Int32) (t1 : Int32) (t2 : Int32), fX1_meetEvents_106 i2 i3 c_size c_floor c1_size c1_kind c1_month c1_number q_6 c_left i4 i5 t0 t1 t2 = some (o_r, o_left) → jw p l e rmX1_meetEvents s m args below meth c (jQ below args s A D vwCl (tyz cyI cyJ cyS) 0 0 (some (.int o_r)) (uX1_meetEvents cyI cyJ cyS a0 a1 c_size c_floor o_left c1_size c1_kind c1_month c1_number)) A D vwCl 7 0 0 106 [(0, .ref (a0 0)), (1, .ref (a1 0)), (2, .int i2), (3, .int i3), (4, .int i4), (5, .int i5)] [.int t0, .int t1, .int t2, .ref (a0 9)] (uX1_meetEvents cyI cyJ cyS a0 a1 c_size c_floor c_left c1_size c1_kind c1_month c1_number) := by
  intro c_left i4 i5 t0 t1 t2 h
  unfold fX1_meetEvents_106 at h
  refine j_iadd K dX1_meetEvents_106 rfl ?_
  refine j_iast K 2 0 (fun z => (uX1_meetEvents cyI cyJ cyS a0 a1 c_size c_floor z c1_size c1_kind c1_month c1_number)) rfl rfl (fun _ => rfl) dX1_meetEvents_107 rfl h (fun c_left_8 h => ?_)
  refine j_sub [0, 1, 2, 3, 4, 5] (lv' := [(0, .ref (a0 0)), (1, .ref (a1 0)), (2, .int i2), (3, .int i3), (4, .int i4), (5, .int i5)]) rfl ?_
  exact wX1_meetEvents_108 K a0 a1 i2 i3 c_size c_floor c1_size c1_kind c1_month c1_number o_r o_left q_6 hq_6 c_left_8 i4 i5 h
set_option maxRecDepth 100000 in
set_option maxHeartbeats 4000000 in
theorem wX1_meetEvents_6 (K : jK p s m args meth c A D vwCl (tyz cyI cyJ cyS) cX1_meetEvents 7 RX1 wdX1_meetEvents (some .boolean)) (a0 : Nat → Nat) (a1 : Nat → Nat)  (i2 : Int32) (i3 : Int32) (c_size : Int32) (c_floor : Nat → Int32) (c1_size : Int32) (c1_kind : Nat → Int32) (c1_month : Nat → Int32) (c1_number : Nat → Int32) (o_r : Int32) (o_left : Nat → Int32)   : ∀ (n : Nat) (c_left : Nat → Int32) (i4 : Int32) (i5 : Int32), fX1_meetEvents_6 i2 i3 c_size c_floor c1_size c1_kind c1_month c1_number  n c_left i4 i5 = some (o_r, o_left) → jw p l e rmX1_meetEvents s m args below meth c (jQ below args s A D vwCl (tyz cyI cyJ cyS) 0 0 (some (.int o_r)) (uX1_meetEvents cyI cyJ cyS a0 a1 c_size c_floor o_left c1_size c1_kind c1_month c1_number)) A D vwCl 7 0 0 6 [(0, .ref (a0 0)), (1, .ref (a1 0)), (2, .int i2), (3, .int i3), (4, .int i4), (5, .int i5)] [] (uX1_meetEvents cyI cyJ cyS a0 a1 c_size c_floor c_left c1_size c1_kind c1_month c1_number) := by
  intro n
  induction n with
  | zero => intro c_left i4 i5 h; cases h
  | succ n ih =>
    intro c_left i4 i5 h
    have h : bX1_meetEvents_6 i2 i3 c_size c_floor c1_size c1_kind c1_month c1_number  (fX1_meetEvents_6 i2 i3 c_size c_floor c1_size c1_kind c1_month c1_number  n) c_left i4 i5 = some (o_r, o_left) := h
    unfold bX1_meetEvents_6 at h
    refine j_iload K 5 rfl dX1_meetEvents_6 rfl ?_
    refine j_aload_n K 1 rfl dX1_meetEvents_8 rfl ?_
    refine j_getf (C := RX2) (T := TX2) (N := 4) (ci := 2) K icX2 3 3 (List.mem_cons_of_mem _ mw_14_6) rfl rfl rfl (by decide) rfl dX1_meetEvents_9 rfl ?_
    refine j_icmp_ge (tgt := 114) K dX1_meetEvents_12 (by decide) rfl h (fun h => ?_) (fun h => ?_)
    · refine j_iload K 4 rfl dX1_meetEvents_114 rfl ?_
      obtain ⟨hz, h⟩ := ckB_some h
      obtain ⟨e1, g1⟩ := Prod.mk.inj (Option.some.inj h)
      subst e1
      subst g1
      exact j_zret K (nar_b hz) dX1_meetEvents_116
    · refine j_aload_n K 1 rfl dX1_meetEvents_15 rfl ?_
      refine j_getf (C := RX2) (T := TX2) (N := 4) (ci := 2) K icX2 3 1 (List.mem_cons_of_mem _ mw_14_7) rfl rfl rfl (by decide) rfl dX1_meetEvents_16 rfl ?_
      refine j_iload K 5 rfl dX1_meetEvents_19 rfl ?_
      refine j_iald K 5 0 rfl rfl dX1_meetEvents_21 rfl h (fun v_1 h => ?_)
      refine j_iload_n K 3 rfl dX1_meetEvents_22 rfl ?_
      refine j_icmp_ne (tgt := 108) K dX1_meetEvents_23 (by decide) rfl h (fun h => ?_) (fun h => ?_)
      · refine j_sub [0, 1, 2, 3, 4, 5] (lv' := [(0, .ref (a0 0)), (1, .ref (a1 0)), (2, .int i2), (3, .int i3), (4, .int i4), (5, .int i5)]) rfl ?_
        exact wX1_meetEvents_108 K a0 a1 i2 i3 c_size c_floor c1_size c1_kind c1_month c1_number o_r o_left (fX1_meetEvents_6 i2 i3 c_size c_floor c1_size c1_kind c1_month c1_number n) (fun z0 z1 z2 hq => ih z0 z1 z2 hq) c_left i4 i5 h
      · refine j_iload_n K 2 rfl dX1_meetEvents_26 rfl ?_
        refine j_iload K 5 rfl dX1_meetEvents_27 rfl ?_
        refine j_ishr K dX1_meetEvents_29 rfl ?_
        refine j_iconst (v := (1 : Int32)) K (by decide) dX1_meetEvents_30 rfl ?_
        refine j_iand K dX1_meetEvents_31 rfl ?_
        refine j_if_eq (tgt := 108) K dX1_meetEvents_32 (by decide) rfl h (fun h => ?_) (fun h => ?_)
        · refine j_sub [0, 1, 2, 3, 4, 5] (lv' := [(0, .ref (a0 0)), (1, .ref (a1 0)), (2, .int i2), (3, .int i3), (4, .int i4), (5, .int i5)]) rfl ?_
          exact wX1_meetEvents_108 K a0 a1 i2 i3 c_size c_floor c1_size c1_kind c1_month c1_number o_r o_left (fX1_meetEvents_6 i2 i3 c_size c_floor c1_size c1_kind c1_month c1_number n) (fun z0 z1 z2 hq => ih z0 z1 z2 hq) c_left i4 i5 h
        · refine j_aload_n K 1 rfl dX1_meetEvents_35 rfl ?_
          refine j_getf (C := RX2) (T := TX2) (N := 4) (ci := 2) K icX2 3 2 (List.mem_cons_of_mem _ mw_14_8) rfl rfl rfl (by decide) rfl dX1_meetEvents_36 rfl ?_
          refine j_iload K 5 rfl dX1_meetEvents_39 rfl ?_
          refine j_iald K 6 0 rfl rfl dX1_meetEvents_41 rfl h (fun v_3 h => ?_)
          refine j_istore (lv' := [(6, .int v_3), (0, .ref (a0 0)), (1, .ref (a1 0)), (2, .int i2), (3, .int i3), (4, .int i4), (5, .int i5)]) K (by decide) rfl dX1_meetEvents_42 rfl ?_
          refine j_aload_n K 2 rfl dX1_meetEvents_44 rfl ?_
          refine j_getf (C := RX2) (T := TX2) (N := 4) (ci := 2) K icX2 3 0 (List.mem_cons_of_mem _ mw_14_9) rfl rfl rfl (by decide) rfl dX1_meetEvents_45 rfl ?_
          refine j_iload K 6 rfl dX1_meetEvents_48 rfl ?_
          refine j_iald K 4 0 rfl rfl dX1_meetEvents_50 rfl h (fun v_4 h => ?_)
          refine j_iconst (v := (2 : Int32)) K (by decide) dX1_meetEvents_51 rfl ?_
          refine j_icmp_ne (tgt := 61) K dX1_meetEvents_52 (by decide) rfl h (fun h => ?_) (fun h => ?_)
          · refine j_iload K 0 rfl dX1_meetEvents_61 rfl ?_
            refine j_aload_n K 1 rfl dX1_meetEvents_63 rfl ?_
            refine j_getf (C := RX1) (T := TX1) (N := 12) (ci := 1) K icX1 0 0 (List.mem_cons_of_mem _ mw_4_6) rfl rfl rfl (by decide) rfl dX1_meetEvents_64 rfl ?_
            refine j_icmp_ge (tgt := 108) K dX1_meetEvents_67 (by decide) rfl h (fun h => ?_) (fun h => ?_)
            · refine j_sub [1, 2, 3, 4, 5, 6] (lv' := [(0, .ref (a0 0)), (1, .ref (a1 0)), (2, .int i2), (3, .int i3), (4, .int i4), (5, .int i5)]) rfl ?_
              exact wX1_meetEvents_108 K a0 a1 i2 i3 c_size c_floor c1_size c1_kind c1_month c1_number o_r o_left (fX1_meetEvents_6 i2 i3 c_size c_floor c1_size c1_kind c1_month c1_number n) (fun z0 z1 z2 hq => ih z0 z1 z2 hq) c_left i4 i5 h
            · refine j_aload_n K 1 rfl dX1_meetEvents_70 rfl ?_
              refine j_getf (C := RX1) (T := TX1) (N := 12) (ci := 1) K icX1 0 7 (List.mem_cons_of_mem _ mw_4_13) rfl rfl rfl (by decide) rfl dX1_meetEvents_71 rfl ?_
              refine j_iload K 0 rfl dX1_meetEvents_74 rfl ?_
              refine j_iald K 1 0 rfl rfl dX1_meetEvents_76 rfl h (fun v_5 h => ?_)
              refine j_iconst (v := (-1 : Int32)) K (by decide) dX1_meetEvents_77 rfl ?_
              refine j_icmp_eq (tgt := 108) K dX1_meetEvents_78 (by decide) rfl h (fun h => ?_) (fun h => ?_)
              · refine j_sub [1, 2, 3, 4, 5, 6] (lv' := [(0, .ref (a0 0)), (1, .ref (a1 0)), (2, .int i2), (3, .int i3), (4, .int i4), (5, .int i5)]) rfl ?_
                exact wX1_meetEvents_108 K a0 a1 i2 i3 c_size c_floor c1_size c1_kind c1_month c1_number o_r o_left (fX1_meetEvents_6 i2 i3 c_size c_floor c1_size c1_kind c1_month c1_number n) (fun z0 z1 z2 hq => ih z0 z1 z2 hq) c_left i4 i5 h
              · refine j_aload_n K 1 rfl dX1_meetEvents_81 rfl ?_
                refine j_getf (C := RX1) (T := TX1) (N := 12) (ci := 1) K icX1 0 9 (List.mem_cons_of_mem _ mw_4_15) rfl rfl rfl (by decide) rfl dX1_meetEvents_82 rfl ?_
                refine j_iload K 0 rfl dX1_meetEvents_85 rfl ?_
                refine j_dup2 K rfl rfl dX1_meetEvents_87 rfl ?_
                refine j_iald K 2 0 rfl rfl dX1_meetEvents_88 rfl h (fun v_6 h => ?_)
                refine j_aload_n K 2 rfl dX1_meetEvents_89 rfl ?_
                refine j_getf (C := RX2) (T := TX2) (N := 4) (ci := 2) K icX2 3 0 (List.mem_cons_of_mem _ mw_14_9) rfl rfl rfl (by decide) rfl dX1_meetEvents_90 rfl ?_
                refine j_iload K 6 rfl dX1_meetEvents_93 rfl ?_
                refine j_iald K 4 0 rfl rfl dX1_meetEvents_95 rfl h (fun v_7 h => ?_)
                refine j_iconst (v := (1 : Int32)) K (by decide) dX1_meetEvents_96 rfl ?_
                refine j_icmp_ne (tgt := 104) K dX1_meetEvents_97 (by decide) rfl h (fun h => ?_) (fun h => ?_)
                · refine j_bipush (v := (-4 : Int32)) K (by decide) dX1_meetEvents_104 rfl ?_
                  refine j_sub [1, 2, 3, 4, 5, 6] (lv' := [(0, .ref (a0 0)), (1, .ref (a1 0)), (2, .int i2), (3, .int i3), (4, .int i4), (5, .int i5)]) rfl ?_
                  exact wX1_meetEvents_106 K a0 a1 i2 i3 c_size c_floor c1_size c1_kind c1_month c1_number o_r o_left (fX1_meetEvents_6 i2 i3 c_size c_floor c1_size c1_kind c1_month c1_number n) (fun z0 z1 z2 hq => ih z0 z1 z2 hq) c_left i4 i5 (-4 : Int32) v_6 v_3 h
                · refine j_iconst (v := (3 : Int32)) K (by decide) dX1_meetEvents_100 rfl ?_
                  refine j_goto (pc' := 106) K dX1_meetEvents_101 (by decide) ?_
                  refine j_sub [1, 2, 3, 4, 5, 6] (lv' := [(0, .ref (a0 0)), (1, .ref (a1 0)), (2, .int i2), (3, .int i3), (4, .int i4), (5, .int i5)]) rfl ?_
                  exact wX1_meetEvents_106 K a0 a1 i2 i3 c_size c_floor c1_size c1_kind c1_month c1_number o_r o_left (fX1_meetEvents_6 i2 i3 c_size c_floor c1_size c1_kind c1_month c1_number n) (fun z0 z1 z2 hq => ih z0 z1 z2 hq) c_left i4 i5 (3 : Int32) v_6 v_3 h
          · refine j_iconst (v := (1 : Int32)) K (by decide) dX1_meetEvents_55 rfl ?_
            refine j_istore (lv' := [(4, .int (1 : Int32)), (6, .int v_3), (0, .ref (a0 0)), (1, .ref (a1 0)), (2, .int i2), (3, .int i3), (5, .int i5)]) K (by decide) rfl dX1_meetEvents_56 rfl ?_
            refine j_goto (pc' := 108) K dX1_meetEvents_58 (by decide) ?_
            refine j_sub [2, 3, 4, 5, 0, 6] (lv' := [(0, .ref (a0 0)), (1, .ref (a1 0)), (2, .int i2), (3, .int i3), (4, .int (1 : Int32)), (5, .int i5)]) rfl ?_
            exact wX1_meetEvents_108 K a0 a1 i2 i3 c_size c_floor c1_size c1_kind c1_month c1_number o_r o_left (fX1_meetEvents_6 i2 i3 c_size c_floor c1_size c1_kind c1_month c1_number n) (fun z0 z1 z2 hq => ih z0 z1 z2 hq) c_left (1 : Int32) i5 h
set_option maxRecDepth 100000 in
set_option maxHeartbeats 4000000 in
theorem ctX1_meetEvents (l : Launch) (D : va_G) (cyI cyJ cyS : ClassId) (a0 : Nat → Nat) (a1 : Nat → Nat) (i2 : Int32) (i3 : Int32) (c_size : Int32) (c_floor : Nat → Int32) (c1_size : Int32) (c1_kind : Nat → Int32) (c1_month : Nat → Int32) (c1_number : Nat → Int32) (c_left : Nat → Int32) (o_r : Int32) (o_left : Nat → Int32) (h : fX1_meetEvents i2 i3 c_size c_floor c1_size c1_kind c1_month c1_number c_left = some (o_r, o_left)) : jC l yX1_meetEvents wdX1_meetEvents rmX1_meetEvents D vwCl (tyz cyI cyJ cyS) [.ref (a0 0), .ref (a1 0), .int i2, .int i3] (uX1_meetEvents cyI cyJ cyS a0 a1 c_size c_floor c_left c1_size c1_kind c1_month c1_number) (some (.int o_r)) (uX1_meetEvents cyI cyJ cyS a0 a1 c_size c_floor o_left c1_size c1_kind c1_month c1_number) := by
  refine jC_of (cc := cX1_meetEvents) (nL := 7) (ret := (some .boolean)) (own := RX1) (lv := [(0, .ref (a0 0)), (1, .ref (a1 0)), (2, .int i2), (3, .int i3)]) (by decide) rfl rfl (Nat.le_of_ble_eq_true rfl) rfl ?_
  intro p e s m args below meth c A K
  unfold fX1_meetEvents at h
  refine j_iconst (v := (0 : Int32)) K (by decide) dX1_meetEvents_0 rfl ?_
  refine j_istore (lv' := [(4, .int (0 : Int32)), (0, .ref (a0 0)), (1, .ref (a1 0)), (2, .int i2), (3, .int i3)]) K (by decide) rfl dX1_meetEvents_1 rfl ?_
  refine j_iconst (v := (0 : Int32)) K (by decide) dX1_meetEvents_3 rfl ?_
  refine j_istore (lv' := [(5, .int (0 : Int32)), (4, .int (0 : Int32)), (0, .ref (a0 0)), (1, .ref (a1 0)), (2, .int i2), (3, .int i3)]) K (by decide) rfl dX1_meetEvents_4 rfl ?_
  refine j_sub [2, 3, 4, 5, 1, 0] (lv' := [(0, .ref (a0 0)), (1, .ref (a1 0)), (2, .int i2), (3, .int i3), (4, .int (0 : Int32)), (5, .int (0 : Int32))]) rfl ?_
  exact wX1_meetEvents_6 K a0 a1 i2 i3 c_size c_floor c1_size c1_kind c1_month c1_number o_r o_left jF c_left (0 : Int32) (0 : Int32) h
abbrev uX1_pay (cyI cyJ cyS : ClassId) (a0 : Nat → Nat) (c_size : Int32) (c_floor : Nat → Int32) (c_left : Nat → Int32) : va_W := [((a0 0), .inr (1, [.int c_size, .ref (a0 1), .ref (a0 2), .ref (a0 3), .ref (a0 4), .ref (a0 5), .ref (a0 6), .ref (a0 7), .ref (a0 8), .ref (a0 9), .ref (a0 10), .ref (a0 11)])), ((a0 7), .inl (cyI, 8, .inl c_floor)), ((a0 9), .inl (cyI, 8, .inl c_left))]
abbrev rmX1_pay : Room := { frames := 1, cells := 0, slots := 0, locals := 23 }
abbrev wdX1_pay : List Cond := .code yX1_pay cX1_pay 5 none :: wsL_law
theorem hyX1_pay : yX1_pay.cls = RX1 ∧ yX1_pay.cls ≠ "java/lang/invoke/MethodHandle" ∧ yX1_pay.cls ≠ "java/lang/invoke/VarHandle" ∧ (parseMethodDescriptor yX1_pay.desc).map (fun d => d.parameters.length) = some 3 := by decide +kernel
set_option maxRecDepth 100000 in
set_option maxHeartbeats 4000000 in
theorem wX1_pay_56 (K : jK p s m args meth c A D vwCl (tyz cyI cyJ cyS) cX1_pay 5 RX1 wdX1_pay none) (a0 : Nat → Nat) (c_size : Int32) (i1 : Int32) (i2 : Int32) (i3 : Int32) (c_floor : Nat → Int32) (o_left : Nat → Int32)   : ∀ (c_left : Nat → Int32) (i4 : Int32) (t0 : Int32) (t1 : Int32) (t2 : Int32) (t3 : Int32), fX1_pay_56 i1 i2 i3 c_floor  c_left i4 t0 t1 t2 t3 = some (o_left) → jw p l e rmX1_pay s m args below meth c (jQ below args s A D vwCl (tyz cyI cyJ cyS) 0 0 none (uX1_pay cyI cyJ cyS a0 c_size c_floor o_left)) A D vwCl 5 0 0 56 [(4, .int i4)] [.int t0, .int t1, .int t2, .int t3, .ref (a0 9)] (uX1_pay cyI cyJ cyS a0 c_size c_floor c_left) := by
  intro c_left i4 t0 t1 t2 t3 h
  unfold fX1_pay_56 at h
  refine j_iadd K dX1_pay_56 rfl ?_
  refine j_iload K 0 rfl dX1_pay_57 rfl ?_
  refine j_isub K dX1_pay_59 rfl ?_
  refine j_mmin K (List.mem_cons_of_mem _ mw_14_14) (List.mem_cons_of_mem _ mw_14_15) (List.mem_cons_of_mem _ mw_14_16) (List.mem_cons_of_mem _ mw_14_17) ⟨Nat.le_of_ble_eq_true rfl, Nat.le_of_ble_eq_true rfl, Nat.le_of_ble_eq_true rfl, Nat.le_of_ble_eq_true rfl⟩ dX1_pay_60 rfl ?_
  refine j_iast K 2 0 (fun z => (uX1_pay cyI cyJ cyS a0 c_size c_floor z)) rfl rfl (fun _ => rfl) dX1_pay_63 rfl h (fun c_left_4 h => ?_)
  have h := Option.some.inj h
  subst h
  exact j_vret K dX1_pay_64
set_option maxRecDepth 100000 in
set_option maxHeartbeats 4000000 in
theorem wX1_pay_31 (K : jK p s m args meth c A D vwCl (tyz cyI cyJ cyS) cX1_pay 5 RX1 wdX1_pay none) (a0 : Nat → Nat) (c_size : Int32) (i1 : Int32) (i2 : Int32) (i3 : Int32) (c_floor : Nat → Int32) (o_left : Nat → Int32)   : ∀ (c_left : Nat → Int32) (i4 : Int32), fX1_pay_31 i1 i2 i3 c_floor  c_left i4 = some (o_left) → jw p l e rmX1_pay s m args below meth c (jQ below args s A D vwCl (tyz cyI cyJ cyS) 0 0 none (uX1_pay cyI cyJ cyS a0 c_size c_floor o_left)) A D vwCl 5 0 0 31 [(0, .ref (a0 0)), (1, .int i1), (2, .int i2), (3, .int i3), (4, .int i4)] [] (uX1_pay cyI cyJ cyS a0 c_size c_floor c_left) := by
  intro c_left i4 h
  unfold fX1_pay_31 at h
  refine j_aload_n K 0 rfl dX1_pay_31 rfl ?_
  refine j_getf (C := RX1) (T := TX1) (N := 12) (ci := 1) K icX1 0 9 (List.mem_cons_of_mem _ mw_4_15) rfl rfl rfl (by decide) rfl dX1_pay_32 rfl ?_
  refine j_iload_n K 1 rfl dX1_pay_35 rfl ?_
  refine j_bipush (v := (60 : Int32)) K (by decide) dX1_pay_36 rfl ?_
  refine j_aload_n K 0 rfl dX1_pay_38 rfl ?_
  refine j_getf (C := RX1) (T := TX1) (N := 12) (ci := 1) K icX1 0 9 (List.mem_cons_of_mem _ mw_4_15) rfl rfl rfl (by decide) rfl dX1_pay_39 rfl ?_
  refine j_iload_n K 1 rfl dX1_pay_42 rfl ?_
  refine j_iald K 2 0 rfl rfl dX1_pay_43 rfl h (fun v_3 h => ?_)
  refine j_iload_n K 2 rfl dX1_pay_44 rfl ?_
  refine j_iconst (v := (2 : Int32)) K (by decide) dX1_pay_45 rfl ?_
  refine j_icmp_ne (tgt := 55) K dX1_pay_46 (by decide) rfl h (fun h => ?_) (fun h => ?_)
  · refine j_iload_n K 3 rfl dX1_pay_55 rfl ?_
    refine j_sub [4] (lv' := [(4, .int i4)]) rfl ?_
    exact wX1_pay_56 K a0 c_size i1 i2 i3 c_floor o_left c_left i4 i3 v_3 (60 : Int32) i1 h
  · refine j_iload_n K 3 rfl dX1_pay_49 rfl ?_
    refine j_iconst (v := (2 : Int32)) K (by decide) dX1_pay_50 rfl ?_
    refine j_idiv K (by decide) dX1_pay_51 rfl ?_
    refine j_goto (pc' := 56) K dX1_pay_52 (by decide) ?_
    refine j_sub [4] (lv' := [(4, .int i4)]) rfl ?_
    exact wX1_pay_56 K a0 c_size i1 i2 i3 c_floor o_left c_left i4 (i3 / (2 : Int32)) v_3 (60 : Int32) i1 h
set_option maxRecDepth 100000 in
set_option maxHeartbeats 4000000 in
theorem ctX1_pay (l : Launch) (D : va_G) (cyI cyJ cyS : ClassId) (a0 : Nat → Nat) (i1 : Int32) (i2 : Int32) (i3 : Int32) (c_size : Int32) (c_floor : Nat → Int32) (c_left : Nat → Int32) (o_left : Nat → Int32) (h : fX1_pay i1 i2 i3 c_floor c_left = some (o_left)) : jC l yX1_pay wdX1_pay rmX1_pay D vwCl (tyz cyI cyJ cyS) [.ref (a0 0), .int i1, .int i2, .int i3] (uX1_pay cyI cyJ cyS a0 c_size c_floor c_left) none (uX1_pay cyI cyJ cyS a0 c_size c_floor o_left) := by
  refine jC_of (cc := cX1_pay) (nL := 5) (ret := none) (own := RX1) (lv := [(0, .ref (a0 0)), (1, .int i1), (2, .int i2), (3, .int i3)]) (by decide) rfl rfl (Nat.le_of_ble_eq_true rfl) rfl ?_
  intro p e s m args below meth c A K
  unfold fX1_pay at h
  refine j_aload_n K 0 rfl dX1_pay_0 rfl ?_
  refine j_getf (C := RX1) (T := TX1) (N := 12) (ci := 1) K icX1 0 7 (List.mem_cons_of_mem _ mw_4_13) rfl rfl rfl (by decide) rfl dX1_pay_1 rfl ?_
  refine j_iload_n K 1 rfl dX1_pay_4 rfl ?_
  refine j_iald K 1 0 rfl rfl dX1_pay_5 rfl h (fun v_1 h => ?_)
  refine j_iconst (v := (2 : Int32)) K (by decide) dX1_pay_6 rfl ?_
  refine j_idiv K (by decide) dX1_pay_7 rfl ?_
  refine j_iconst (v := (1 : Int32)) K (by decide) dX1_pay_8 rfl ?_
  refine j_iadd K dX1_pay_9 rfl ?_
  refine j_nmI h (fun i4_2 h => ?_)
  refine j_istore (lv' := [(4, .int i4_2), (0, .ref (a0 0)), (1, .int i1), (2, .int i2), (3, .int i3)]) K (by decide) rfl dX1_pay_10 rfl ?_
  refine j_iload_n K 3 rfl dX1_pay_12 rfl ?_
  refine j_iconst (v := (1 : Int32)) K (by decide) dX1_pay_13 rfl ?_
  refine j_icmp_ne (tgt := 23) K dX1_pay_14 (by decide) rfl h (fun h => ?_) (fun h => ?_)
  · refine j_iload_n K 3 rfl dX1_pay_23 rfl ?_
    refine j_iconst (v := (2 : Int32)) K (by decide) dX1_pay_24 rfl ?_
    refine j_icmp_ne (tgt := 31) K dX1_pay_25 (by decide) rfl h (fun h => ?_) (fun h => ?_)
    · refine j_sub [1, 2, 3, 4, 0] (lv' := [(0, .ref (a0 0)), (1, .int i1), (2, .int i2), (3, .int i3), (4, .int i4_2)]) rfl ?_
      exact wX1_pay_31 K a0 c_size i1 i2 i3 c_floor o_left c_left i4_2 h
    · refine j_iconst (v := (0 : Int32)) K (by decide) dX1_pay_28 rfl ?_
      refine j_istore (lv' := [(4, .int (0 : Int32)), (0, .ref (a0 0)), (1, .int i1), (2, .int i2), (3, .int i3)]) K (by decide) rfl dX1_pay_29 rfl ?_
      refine j_sub [1, 2, 3, 4, 0] (lv' := [(0, .ref (a0 0)), (1, .int i1), (2, .int i2), (3, .int i3), (4, .int (0 : Int32))]) rfl ?_
      exact wX1_pay_31 K a0 c_size i1 i2 i3 c_floor o_left c_left (0 : Int32) h
  · refine j_iincN (lf := fun z => [(4, .int z), (0, .ref (a0 0)), (1, .int i1), (2, .int i2), (3, .int i3)]) K (v := i4_2 + (-1 : Int32)) (k := 0) rfl (congrArg (fun z => i4_2 + z) (by decide)) (by decide) (fun _ => rfl) dX1_pay_17 rfl h (fun i4_5 h => ?_)
    refine j_goto (pc' := 31) K dX1_pay_20 (by decide) ?_
    refine j_sub [1, 2, 3, 4, 0] (lv' := [(0, .ref (a0 0)), (1, .int i1), (2, .int i2), (3, .int i3), (4, .int i4_5)]) rfl ?_
    exact wX1_pay_31 K a0 c_size i1 i2 i3 c_floor o_left c_left i4_5 h
abbrev uX1_settle (cyI cyJ cyS : ClassId) (a0 : Nat → Nat) (c_size : Int32) (c_settled : Nat → Int32) (c_floor : Nat → Int32) (c_left : Nat → Int32) : va_W := [((a0 0), .inr (1, [.int c_size, .ref (a0 1), .ref (a0 2), .ref (a0 3), .ref (a0 4), .ref (a0 5), .ref (a0 6), .ref (a0 7), .ref (a0 8), .ref (a0 9), .ref (a0 10), .ref (a0 11)])), ((a0 1), .inl (cyI, 8, .inl c_settled)), ((a0 7), .inl (cyI, 8, .inl c_floor)), ((a0 9), .inl (cyI, 8, .inl c_left))]
abbrev rmX1_settle : Room := { frames := 0, cells := 0, slots := 0, locals := 0 }
abbrev wdX1_settle : List Cond := .code yX1_settle cX1_settle 4 none :: wsL_law
theorem hyX1_settle : yX1_settle.cls = RX1 ∧ yX1_settle.cls ≠ "java/lang/invoke/MethodHandle" ∧ yX1_settle.cls ≠ "java/lang/invoke/VarHandle" ∧ (parseMethodDescriptor yX1_settle.desc).map (fun d => d.parameters.length) = some 3 := by decide +kernel
set_option maxRecDepth 100000 in
set_option maxHeartbeats 4000000 in
theorem wX1_settle_17 (K : jK p s m args meth c A D vwCl (tyz cyI cyJ cyS) cX1_settle 4 RX1 wdX1_settle none) (a0 : Nat → Nat) (c_size : Int32) (i1 : Int32) (i2 : Int32) (i3 : Int32) (c_left : Nat → Int32) (o_settled : Nat → Int32) (o_floor : Nat → Int32)   : ∀ (c_settled : Nat → Int32) (c_floor : Nat → Int32) (t0 : Int32) (t1 : Int32), fX1_settle_17 i1 i2 i3 c_left  c_settled c_floor t0 t1 = some (o_settled, o_floor) → jw p l e rmX1_settle s m args below meth c (jQ below args s A D vwCl (tyz cyI cyJ cyS) 0 0 none (uX1_settle cyI cyJ cyS a0 c_size o_settled o_floor c_left)) A D vwCl 4 0 0 17 [(0, .ref (a0 0)), (1, .int i1), (3, .int i3)] [.int t0, .int t1] (uX1_settle cyI cyJ cyS a0 c_size c_settled c_floor c_left) := by
  intro c_settled c_floor t0 t1 h
  unfold fX1_settle_17 at h
  refine j_icmp_ge (tgt := 34) K dX1_settle_17 (by decide) rfl h (fun h => ?_) (fun h => ?_)
  · obtain ⟨e1, g1⟩ := Prod.mk.inj (Option.some.inj h)
    subst e1
    subst g1
    exact j_vret K dX1_settle_34
  · refine j_aload_n K 0 rfl dX1_settle_20 rfl ?_
    refine j_getf (C := RX1) (T := TX1) (N := 12) (ci := 1) K icX1 0 1 (List.mem_cons_of_mem _ mw_4_7) rfl rfl rfl (by decide) rfl dX1_settle_21 rfl ?_
    refine j_iload_n K 1 rfl dX1_settle_24 rfl ?_
    refine j_iload_n K 2 rfl dX1_settle_25 rfl ?_
    refine j_iast K 1 0 (fun z => (uX1_settle cyI cyJ cyS a0 c_size z c_floor c_left)) rfl rfl (fun _ => rfl) dX1_settle_26 rfl h (fun c_settled_2 h => ?_)
    refine j_aload_n K 0 rfl dX1_settle_27 rfl ?_
    refine j_getf (C := RX1) (T := TX1) (N := 12) (ci := 1) K icX1 0 7 (List.mem_cons_of_mem _ mw_4_13) rfl rfl rfl (by decide) rfl dX1_settle_28 rfl ?_
    refine j_iload_n K 1 rfl dX1_settle_31 rfl ?_
    refine j_iconst (v := (-1 : Int32)) K (by decide) dX1_settle_32 rfl ?_
    refine j_iast K 2 0 (fun z => (uX1_settle cyI cyJ cyS a0 c_size c_settled_2 z c_left)) rfl rfl (fun _ => rfl) dX1_settle_33 rfl h (fun c_floor_3 h => ?_)
    obtain ⟨e1, g1⟩ := Prod.mk.inj (Option.some.inj h)
    subst e1
    subst g1
    exact j_vret K dX1_settle_34
set_option maxRecDepth 100000 in
set_option maxHeartbeats 4000000 in
theorem ctX1_settle (l : Launch) (D : va_G) (cyI cyJ cyS : ClassId) (a0 : Nat → Nat) (i1 : Int32) (i2 : Int32) (i3 : Int32) (c_size : Int32) (c_left : Nat → Int32) (c_settled : Nat → Int32) (c_floor : Nat → Int32) (o_settled : Nat → Int32) (o_floor : Nat → Int32) (h : fX1_settle i1 i2 i3 c_left c_settled c_floor = some (o_settled, o_floor)) : jC l yX1_settle wdX1_settle rmX1_settle D vwCl (tyz cyI cyJ cyS) [.ref (a0 0), .int i1, .int i2, .int i3] (uX1_settle cyI cyJ cyS a0 c_size c_settled c_floor c_left) none (uX1_settle cyI cyJ cyS a0 c_size o_settled o_floor c_left) := by
  refine jC_of (cc := cX1_settle) (nL := 4) (ret := none) (own := RX1) (lv := [(0, .ref (a0 0)), (1, .int i1), (2, .int i2), (3, .int i3)]) (by decide) rfl rfl (Nat.le_of_ble_eq_true rfl) rfl ?_
  intro p e s m args below meth c A K
  unfold fX1_settle at h
  refine j_aload_n K 0 rfl dX1_settle_0 rfl ?_
  refine j_getf (C := RX1) (T := TX1) (N := 12) (ci := 1) K icX1 0 9 (List.mem_cons_of_mem _ mw_4_15) rfl rfl rfl (by decide) rfl dX1_settle_1 rfl ?_
  refine j_iload_n K 1 rfl dX1_settle_4 rfl ?_
  refine j_iald K 3 0 rfl rfl dX1_settle_5 rfl h (fun v_1 h => ?_)
  refine j_iload_n K 2 rfl dX1_settle_6 rfl ?_
  refine j_iconst (v := (3 : Int32)) K (by decide) dX1_settle_7 rfl ?_
  refine j_icmp_ne (tgt := 16) K dX1_settle_8 (by decide) rfl h (fun h => ?_) (fun h => ?_)
  · refine j_iconst (v := (0 : Int32)) K (by decide) dX1_settle_16 rfl ?_
    refine j_sub [0, 1, 3] (lv' := [(0, .ref (a0 0)), (1, .int i1), (3, .int i3)]) rfl ?_
    exact wX1_settle_17 K a0 c_size i1 i2 i3 c_left o_settled o_floor c_settled c_floor (0 : Int32) v_1 h
  · refine j_bipush (v := (-6 : Int32)) K (by decide) dX1_settle_11 rfl ?_
    refine j_goto (pc' := 17) K dX1_settle_13 (by decide) ?_
    refine j_sub [0, 1, 3] (lv' := [(0, .ref (a0 0)), (1, .int i1), (3, .int i3)]) rfl ?_
    exact wX1_settle_17 K a0 c_size i1 i2 i3 c_left o_settled o_floor c_settled c_floor (-6 : Int32) v_1 h
abbrev uX1_isAhead (cyI cyJ cyS : ClassId) (a0 : Nat → Nat) (c_size : Int32) (c_left : Nat → Int32) : va_W := [((a0 0), .inr (1, [.int c_size, .ref (a0 1), .ref (a0 2), .ref (a0 3), .ref (a0 4), .ref (a0 5), .ref (a0 6), .ref (a0 7), .ref (a0 8), .ref (a0 9), .ref (a0 10), .ref (a0 11)])), ((a0 9), .inl (cyI, 8, .inl c_left))]
abbrev rmX1_isAhead : Room := { frames := 0, cells := 0, slots := 0, locals := 0 }
abbrev wdX1_isAhead : List Cond := .code yX1_isAhead cX1_isAhead 3 (some .boolean) :: wsL_law
theorem hyX1_isAhead : yX1_isAhead.cls = RX1 ∧ yX1_isAhead.cls ≠ "java/lang/invoke/MethodHandle" ∧ yX1_isAhead.cls ≠ "java/lang/invoke/VarHandle" ∧ (parseMethodDescriptor yX1_isAhead.desc).map (fun d => d.parameters.length) = some 2 := by decide +kernel
set_option maxRecDepth 100000 in
set_option maxHeartbeats 4000000 in
theorem ctX1_isAhead (l : Launch) (D : va_G) (cyI cyJ cyS : ClassId) (a0 : Nat → Nat) (i1 : Int32) (i2 : Int32) (c_size : Int32) (c_left : Nat → Int32) (o_r : Int32) (h : fX1_isAhead i1 i2 c_left = some (o_r)) : jC l yX1_isAhead wdX1_isAhead rmX1_isAhead D vwCl (tyz cyI cyJ cyS) [.ref (a0 0), .int i1, .int i2] (uX1_isAhead cyI cyJ cyS a0 c_size c_left) (some (.int o_r)) (uX1_isAhead cyI cyJ cyS a0 c_size c_left) := by
  refine jC_of (cc := cX1_isAhead) (nL := 3) (ret := (some .boolean)) (own := RX1) (lv := [(0, .ref (a0 0)), (1, .int i1), (2, .int i2)]) (by decide) rfl rfl (Nat.le_of_ble_eq_true rfl) rfl ?_
  intro p e s m args below meth c A K
  unfold fX1_isAhead at h
  refine j_aload_n K 0 rfl dX1_isAhead_0 rfl ?_
  refine j_getf (C := RX1) (T := TX1) (N := 12) (ci := 1) K icX1 0 9 (List.mem_cons_of_mem _ mw_4_15) rfl rfl rfl (by decide) rfl dX1_isAhead_1 rfl ?_
  refine j_iload_n K 1 rfl dX1_isAhead_4 rfl ?_
  refine j_iald K 1 0 rfl rfl dX1_isAhead_5 rfl h (fun v_1 h => ?_)
  refine j_aload_n K 0 rfl dX1_isAhead_6 rfl ?_
  refine j_getf (C := RX1) (T := TX1) (N := 12) (ci := 1) K icX1 0 9 (List.mem_cons_of_mem _ mw_4_15) rfl rfl rfl (by decide) rfl dX1_isAhead_7 rfl ?_
  refine j_iload_n K 2 rfl dX1_isAhead_10 rfl ?_
  refine j_iald K 1 0 rfl rfl dX1_isAhead_11 rfl h (fun v_2 h => ?_)
  refine j_icmp_gt (tgt := 35) K dX1_isAhead_12 (by decide) rfl h (fun h => ?_) (fun h => ?_)
  · refine j_iconst (v := (1 : Int32)) K (by decide) dX1_isAhead_35 rfl ?_
    refine j_goto (pc' := 40) K dX1_isAhead_36 (by decide) ?_
    have h := Option.some.inj h
    subst h
    exact j_zret K rfl dX1_isAhead_40
  · refine j_aload_n K 0 rfl dX1_isAhead_15 rfl ?_
    refine j_getf (C := RX1) (T := TX1) (N := 12) (ci := 1) K icX1 0 9 (List.mem_cons_of_mem _ mw_4_15) rfl rfl rfl (by decide) rfl dX1_isAhead_16 rfl ?_
    refine j_iload_n K 1 rfl dX1_isAhead_19 rfl ?_
    refine j_iald K 1 0 rfl rfl dX1_isAhead_20 rfl h (fun v_3 h => ?_)
    refine j_aload_n K 0 rfl dX1_isAhead_21 rfl ?_
    refine j_getf (C := RX1) (T := TX1) (N := 12) (ci := 1) K icX1 0 9 (List.mem_cons_of_mem _ mw_4_15) rfl rfl rfl (by decide) rfl dX1_isAhead_22 rfl ?_
    refine j_iload_n K 2 rfl dX1_isAhead_25 rfl ?_
    refine j_iald K 1 0 rfl rfl dX1_isAhead_26 rfl h (fun v_4 h => ?_)
    refine j_icmp_ne (tgt := 39) K dX1_isAhead_27 (by decide) rfl h (fun h => ?_) (fun h => ?_)
    · refine j_iconst (v := (0 : Int32)) K (by decide) dX1_isAhead_39 rfl ?_
      have h := Option.some.inj h
      subst h
      exact j_zret K rfl dX1_isAhead_40
    · refine j_iload_n K 1 rfl dX1_isAhead_30 rfl ?_
      refine j_iload_n K 2 rfl dX1_isAhead_31 rfl ?_
      refine j_icmp_ge (tgt := 39) K dX1_isAhead_32 (by decide) rfl h (fun h => ?_) (fun h => ?_)
      · refine j_iconst (v := (0 : Int32)) K (by decide) dX1_isAhead_39 rfl ?_
        have h := Option.some.inj h
        subst h
        exact j_zret K rfl dX1_isAhead_40
      · refine j_iconst (v := (1 : Int32)) K (by decide) dX1_isAhead_35 rfl ?_
        refine j_goto (pc' := 40) K dX1_isAhead_36 (by decide) ?_
        have h := Option.some.inj h
        subst h
        exact j_zret K rfl dX1_isAhead_40
end GEN
