section GEN
variable {p : Program} {l : Launch} {e : Env} {s : State} {m : MethodId} {args : Array Value} {below : List Frame} {meth : Method} {c : Code} {A : Nat → Prop} {D : va_G} {cyI cyJ cyS : ClassId}
abbrev uX7_chance (cyI cyJ cyS : ClassId) (a0 : Nat → Nat) (c_room : Int32) (c_finding : Int32) (c_courseKnown : Int32) (c_settledByKnown : Int32) (c_told_size : Int32) (c_told_sort : Nat → Int32) (c_told_paid : Nat → Int32) (c_told_wage : Nat → Int32) (c_events_size : Int32) (c_events_kind : Nat → Int32) (c_events_month : Nat → Int32) (c_events_number : Nat → Int32) (c_trial_size : Int32) (c_trial_settled : Nat → Int32) (c_trial_falls : Nat → Int32) (c_trial_passed : Nat → Int32) (c_trial_floors : Nat → Int32) (c_trial_lefts : Nat → Int32) (c_trial_fallers : Nat → Int32) (c_trial_floor : Nat → Int32) (c_trial_before : Nat → Int32) (c_trial_left : Nat → Int32) (c_trial_order : Nat → Int32) (c_trial_taken : Nat → Int32) (c_settledBy : Nat → Int32) : va_W := [((a0 0), .inr (7, [.ref (a0 1), .ref (a0 3), .ref (a0 7), .ref (a0 11), .ref (a0 15), .ref (a0 19), .ref (a0 31), .ref (a0 43), .ref (a0 44), .ref (a0 53), .ref (a0 54), .int c_room, .int c_finding, .int c_courseKnown, .int c_settledByKnown])), ((a0 3), .inr (5, [.ref (a0 4), .ref (a0 5), .ref (a0 6), .int c_told_size])), ((a0 4), .inl (cyI, 8, .inl c_told_sort)), ((a0 5), .inl (cyI, 8, .inl c_told_paid)), ((a0 6), .inl (cyI, 8, .inl c_told_wage)), ((a0 11), .inr (2, [.ref (a0 12), .ref (a0 13), .ref (a0 14), .int c_events_size])), ((a0 12), .inl (cyI, 8, .inl c_events_kind)), ((a0 13), .inl (cyI, 8, .inl c_events_month)), ((a0 14), .inl (cyI, 8, .inl c_events_number)), ((a0 31), .inr (1, [.int c_trial_size, .ref (a0 32), .ref (a0 33), .ref (a0 34), .ref (a0 35), .ref (a0 36), .ref (a0 37), .ref (a0 38), .ref (a0 39), .ref (a0 40), .ref (a0 41), .ref (a0 42)])), ((a0 32), .inl (cyI, 8, .inl c_trial_settled)), ((a0 33), .inl (cyI, 8, .inl c_trial_falls)), ((a0 34), .inl (cyI, 8, .inl c_trial_passed)), ((a0 35), .inl (cyI, 192, .inl c_trial_floors)), ((a0 36), .inl (cyI, 192, .inl c_trial_lefts)), ((a0 37), .inl (cyI, 24, .inl c_trial_fallers)), ((a0 38), .inl (cyI, 8, .inl c_trial_floor)), ((a0 39), .inl (cyI, 8, .inl c_trial_before)), ((a0 40), .inl (cyI, 8, .inl c_trial_left)), ((a0 41), .inl (cyI, 8, .inl c_trial_order)), ((a0 42), .inl (cyI, 13, .inl c_trial_taken)), ((a0 53), .inl (cyI, 256, .inl c_settledBy))]
abbrev rmX7_chance : Room := { frames := 5, cells := 0, slots := 0, locals := 117 }
abbrev wdX7_chance : List Cond := .code yX7_chance cX7_chance 10 (some .long) :: wsL_law
theorem hyX7_chance : yX7_chance.cls = RX7 ∧ yX7_chance.cls ≠ "java/lang/invoke/MethodHandle" ∧ yX7_chance.cls ≠ "java/lang/invoke/VarHandle" ∧ (parseMethodDescriptor yX7_chance.desc).map (fun d => d.parameters.length) = some 3 := by decide +kernel
set_option maxRecDepth 100000 in
set_option maxHeartbeats 4000000 in
theorem wX7_chance_89 (K : jK p s m args meth c A D vwCl (tyz cyI cyJ cyS) cX7_chance 10 RX7 wdX7_chance (some .long)) (a0 : Nat → Nat) (c_finding : Int32) (c_courseKnown : Int32) (i1 : Int32) (i2 : Int32) (i3 : Int32) (c_room : Int32) (c_told : jT3) (c_events : jT3) (o_r : Int64) (o_settledByKnown : Int32) (o_trial : jT11) (o_settledBy : Nat → Int32)  (q_50 : Int32 → jT11 → (Nat → Int32) → Int64 → Int64 → Int32 → (Option (Int64 × Int32 × jT11 × (Nat → Int32)))) (hq_50 : ∀ (c_settledByKnown : Int32) (c_trial : jT11) (c_settledBy : Nat → Int32) (l4 : Int64) (l6 : Int64) (i8 : Int32), q_50 c_settledByKnown c_trial c_settledBy l4 l6 i8 = some (o_r, o_settledByKnown, o_trial, o_settledBy) → jw p l e rmX7_chance s m args below meth c (jQ below args s A D vwCl (tyz cyI cyJ cyS) 0 0 (some (.long o_r)) (uX7_chance cyI cyJ cyS a0 c_room c_finding c_courseKnown o_settledByKnown c_told.1 c_told.2.1 c_told.2.2.1 c_told.2.2.2 c_events.1 c_events.2.1 c_events.2.2.1 c_events.2.2.2 o_trial.1 o_trial.2.1 o_trial.2.2.1 o_trial.2.2.2.1 o_trial.2.2.2.2.1 o_trial.2.2.2.2.2.1 o_trial.2.2.2.2.2.2.1 o_trial.2.2.2.2.2.2.2.1 o_trial.2.2.2.2.2.2.2.2.1 o_trial.2.2.2.2.2.2.2.2.2.1 o_trial.2.2.2.2.2.2.2.2.2.2.1 o_trial.2.2.2.2.2.2.2.2.2.2.2 o_settledBy)) A D vwCl 10 0 0 50 [(0, .ref (a0 0)), (1, .int i1), (2, .int i2), (3, .int i3), (4, .long l4), (6, .long l6), (8, .int i8)] [] (uX7_chance cyI cyJ cyS a0 c_room c_finding c_courseKnown c_settledByKnown c_told.1 c_told.2.1 c_told.2.2.1 c_told.2.2.2 c_events.1 c_events.2.1 c_events.2.2.1 c_events.2.2.2 c_trial.1 c_trial.2.1 c_trial.2.2.1 c_trial.2.2.2.1 c_trial.2.2.2.2.1 c_trial.2.2.2.2.2.1 c_trial.2.2.2.2.2.2.1 c_trial.2.2.2.2.2.2.2.1 c_trial.2.2.2.2.2.2.2.2.1 c_trial.2.2.2.2.2.2.2.2.2.1 c_trial.2.2.2.2.2.2.2.2.2.2.1 c_trial.2.2.2.2.2.2.2.2.2.2.2 c_settledBy)) : ∀ (c_settledByKnown : Int32) (c_trial : jT11) (c_settledBy : Nat → Int32) (l4 : Int64) (l6 : Int64) (i8 : Int32), fX7_chance_89 i1 i2 i3 c_room c_told c_events q_50 c_settledByKnown c_trial c_settledBy l4 l6 i8 = some (o_r, o_settledByKnown, o_trial, o_settledBy) → jw p l e rmX7_chance s m args below meth c (jQ below args s A D vwCl (tyz cyI cyJ cyS) 0 0 (some (.long o_r)) (uX7_chance cyI cyJ cyS a0 c_room c_finding c_courseKnown o_settledByKnown c_told.1 c_told.2.1 c_told.2.2.1 c_told.2.2.2 c_events.1 c_events.2.1 c_events.2.2.1 c_events.2.2.2 o_trial.1 o_trial.2.1 o_trial.2.2.1 o_trial.2.2.2.1 o_trial.2.2.2.2.1 o_trial.2.2.2.2.2.1 o_trial.2.2.2.2.2.2.1 o_trial.2.2.2.2.2.2.2.1 o_trial.2.2.2.2.2.2.2.2.1 o_trial.2.2.2.2.2.2.2.2.2.1 o_trial.2.2.2.2.2.2.2.2.2.2.1 o_trial.2.2.2.2.2.2.2.2.2.2.2 o_settledBy)) A D vwCl 10 0 0 89 [(0, .ref (a0 0)), (1, .int i1), (2, .int i2), (3, .int i3), (4, .long l4), (6, .long l6), (8, .int i8)] [] (uX7_chance cyI cyJ cyS a0 c_room c_finding c_courseKnown c_settledByKnown c_told.1 c_told.2.1 c_told.2.2.1 c_told.2.2.2 c_events.1 c_events.2.1 c_events.2.2.1 c_events.2.2.2 c_trial.1 c_trial.2.1 c_trial.2.2.1 c_trial.2.2.2.1 c_trial.2.2.2.2.1 c_trial.2.2.2.2.2.1 c_trial.2.2.2.2.2.2.1 c_trial.2.2.2.2.2.2.2.1 c_trial.2.2.2.2.2.2.2.2.1 c_trial.2.2.2.2.2.2.2.2.2.1 c_trial.2.2.2.2.2.2.2.2.2.2.1 c_trial.2.2.2.2.2.2.2.2.2.2.2 c_settledBy) := by
  intro c_settledByKnown c_trial c_settledBy l4 l6 i8 h
  unfold fX7_chance_89 at h
  refine j_iincN (lf := fun z => [(8, .int z), (0, .ref (a0 0)), (1, .int i1), (2, .int i2), (3, .int i3), (4, .long l4), (6, .long l6)]) K (v := i8 + (1 : Int32)) (k := 6) rfl rfl (by decide) (fun _ => rfl) dX7_chance_89 rfl h (fun i8_10 h => ?_)
  refine j_goto (pc' := 50) K dX7_chance_92 (by decide) ?_
  refine j_sub [1, 2, 3, 4, 5, 6, 0] (lv' := [(0, .ref (a0 0)), (1, .int i1), (2, .int i2), (3, .int i3), (4, .long l4), (6, .long l6), (8, .int i8_10)]) rfl ?_
  exact hq_50 c_settledByKnown c_trial c_settledBy l4 l6 i8_10 h
set_option maxRecDepth 100000 in
set_option maxHeartbeats 4000000 in
theorem wX7_chance_50 (K : jK p s m args meth c A D vwCl (tyz cyI cyJ cyS) cX7_chance 10 RX7 wdX7_chance (some .long)) (a0 : Nat → Nat) (c_finding : Int32) (c_courseKnown : Int32) (i1 : Int32) (i2 : Int32) (i3 : Int32) (c_room : Int32) (c_told : jT3) (c_events : jT3) (o_r : Int64) (o_settledByKnown : Int32) (o_trial : jT11) (o_settledBy : Nat → Int32)   : ∀ (n : Nat) (c_settledByKnown : Int32) (c_trial : jT11) (c_settledBy : Nat → Int32) (l4 : Int64) (l6 : Int64) (i8 : Int32), fX7_chance_50 i1 i2 i3 c_room c_told c_events  n c_settledByKnown c_trial c_settledBy l4 l6 i8 = some (o_r, o_settledByKnown, o_trial, o_settledBy) → jw p l e rmX7_chance s m args below meth c (jQ below args s A D vwCl (tyz cyI cyJ cyS) 0 0 (some (.long o_r)) (uX7_chance cyI cyJ cyS a0 c_room c_finding c_courseKnown o_settledByKnown c_told.1 c_told.2.1 c_told.2.2.1 c_told.2.2.2 c_events.1 c_events.2.1 c_events.2.2.1 c_events.2.2.2 o_trial.1 o_trial.2.1 o_trial.2.2.1 o_trial.2.2.2.1 o_trial.2.2.2.2.1 o_trial.2.2.2.2.2.1 o_trial.2.2.2.2.2.2.1 o_trial.2.2.2.2.2.2.2.1 o_trial.2.2.2.2.2.2.2.2.1 o_trial.2.2.2.2.2.2.2.2.2.1 o_trial.2.2.2.2.2.2.2.2.2.2.1 o_trial.2.2.2.2.2.2.2.2.2.2.2 o_settledBy)) A D vwCl 10 0 0 50 [(0, .ref (a0 0)), (1, .int i1), (2, .int i2), (3, .int i3), (4, .long l4), (6, .long l6), (8, .int i8)] [] (uX7_chance cyI cyJ cyS a0 c_room c_finding c_courseKnown c_settledByKnown c_told.1 c_told.2.1 c_told.2.2.1 c_told.2.2.2 c_events.1 c_events.2.1 c_events.2.2.1 c_events.2.2.2 c_trial.1 c_trial.2.1 c_trial.2.2.1 c_trial.2.2.2.1 c_trial.2.2.2.2.1 c_trial.2.2.2.2.2.1 c_trial.2.2.2.2.2.2.1 c_trial.2.2.2.2.2.2.2.1 c_trial.2.2.2.2.2.2.2.2.1 c_trial.2.2.2.2.2.2.2.2.2.1 c_trial.2.2.2.2.2.2.2.2.2.2.1 c_trial.2.2.2.2.2.2.2.2.2.2.2 c_settledBy) := by
  intro n
  induction n with
  | zero => intro c_settledByKnown c_trial c_settledBy l4 l6 i8 h; cases h
  | succ n ih =>
    intro c_settledByKnown c_trial c_settledBy l4 l6 i8 h
    have h : bX7_chance_50 i1 i2 i3 c_room c_told c_events  (fX7_chance_50 i1 i2 i3 c_room c_told c_events  n) c_settledByKnown c_trial c_settledBy l4 l6 i8 = some (o_r, o_settledByKnown, o_trial, o_settledBy) := h
    unfold bX7_chance_50 at h
    refine j_iload K 6 rfl dX7_chance_50 rfl ?_
    refine j_iconst (v := (1 : Int32)) K (by decide) dX7_chance_52 rfl ?_
    refine j_aload_n K 0 rfl dX7_chance_53 rfl ?_
    refine j_getf (C := RX7) (T := TX7) (N := 15) (ci := 7) K icX7 0 3 (List.mem_cons_of_mem _ mw_2_0) rfl rfl rfl (by decide) rfl dX7_chance_54 rfl ?_
    refine j_getf (C := RX2) (T := TX2) (N := 4) (ci := 2) K icX2 5 3 (List.mem_cons_of_mem _ mw_10_22) rfl rfl rfl (by decide) rfl dX7_chance_57 rfl ?_
    refine j_ishl K dX7_chance_60 rfl ?_
    refine j_icmp_ge (tgt := 95) K dX7_chance_61 (by decide) rfl h (fun h => ?_) (fun h => ?_)
    · refine j_lload K 4 rfl dX7_chance_95 rfl ?_
      refine j_lload K 5 rfl dX7_chance_97 rfl ?_
      obtain ⟨r_5, hc, h⟩ := bd1_some h
      refine j_callS (rest := []) (st1 := [.long r_5]) (ws' := (uX7_chance cyI cyJ cyS a0 c_room c_finding c_courseKnown c_settledByKnown c_told.1 c_told.2.1 c_told.2.2.1 c_told.2.2.2 c_events.1 c_events.2.1 c_events.2.2.1 c_events.2.2.2 c_trial.1 c_trial.2.1 c_trial.2.2.1 c_trial.2.2.2.1 c_trial.2.2.2.2.1 c_trial.2.2.2.2.2.1 c_trial.2.2.2.2.2.2.1 c_trial.2.2.2.2.2.2.2.1 c_trial.2.2.2.2.2.2.2.2.1 c_trial.2.2.2.2.2.2.2.2.2.1 c_trial.2.2.2.2.2.2.2.2.2.2.1 c_trial.2.2.2.2.2.2.2.2.2.2.2 c_settledBy)) K (ctX7_commonDivisor l D cyI cyJ cyS l4 l6 r_5 hc) (gdS mcL mw_34_11 mw_34_12 mw_1_2 mw_34_13) rfl ⟨rfl, rfl⟩ hzX7_commonDivisor ⟨Nat.le_of_ble_eq_true rfl, Nat.le_of_ble_eq_true rfl, Nat.le_of_ble_eq_true rfl, Nat.le_of_ble_eq_true rfl⟩ [] (by decide) rfl [none, none, none, none, none, none, none, none, none, none, none, none, none, none, none, none, none, none, none, none, none, none] (by decide) rfl rfl rfl rfl (Nat.le_of_ble_eq_true rfl) dX7_chance_99 rfl rfl ?_
      refine j_lstore (lv' := [(8, .long r_5), (0, .ref (a0 0)), (1, .int i1), (2, .int i2), (3, .int i3), (4, .long l4), (6, .long l6)]) K (by decide) rfl dX7_chance_102 rfl ?_
      refine j_iload_n K 4 rfl dX7_chance_104 rfl ?_
      refine j_if_ne (tgt := 116) K dX7_chance_105 (by decide) rfl h (fun h => ?_) (fun h => ?_)
      · refine j_lload K 6 rfl dX7_chance_116 rfl ?_
        refine j_lload K 0 rfl dX7_chance_118 rfl ?_
        obtain ⟨hz, h⟩ := ckZL_some h
        refine j_ldiv K hz dX7_chance_120 rfl ?_
        obtain ⟨e1, g1⟩ := Prod.mk.inj (Option.some.inj h)
        subst e1
        obtain ⟨e2, g2⟩ := Prod.mk.inj g1
        subst e2
        obtain ⟨e3, g3⟩ := Prod.mk.inj g2
        subst e3
        subst g3
        exact j_lret K dX7_chance_121
      · refine j_lload K 5 rfl dX7_chance_108 rfl ?_
        refine j_lload K 0 rfl dX7_chance_110 rfl ?_
        obtain ⟨hz, h⟩ := ckZL_some h
        refine j_ldiv K hz dX7_chance_112 rfl ?_
        refine j_goto (pc' := 121) K dX7_chance_113 (by decide) ?_
        obtain ⟨e1, g1⟩ := Prod.mk.inj (Option.some.inj h)
        subst e1
        obtain ⟨e2, g2⟩ := Prod.mk.inj g1
        subst e2
        obtain ⟨e3, g3⟩ := Prod.mk.inj g2
        subst e3
        subst g3
        exact j_lret K dX7_chance_121
    · refine j_aload_n K 0 rfl dX7_chance_64 rfl ?_
      refine j_iload K 6 rfl dX7_chance_65 rfl ?_
      obtain ⟨r_6, c_settledByKnown_7, c_trial_8, c_settledBy_9, hc, h⟩ := bd4_some h
      refine j_callV (rest := []) (st1 := [.int r_6]) (ws' := (uX7_chance cyI cyJ cyS a0 c_room c_finding c_courseKnown c_settledByKnown_7 c_told.1 c_told.2.1 c_told.2.2.1 c_told.2.2.2 c_events.1 c_events.2.1 c_events.2.2.1 c_events.2.2.2 c_trial_8.1 c_trial_8.2.1 c_trial_8.2.2.1 c_trial_8.2.2.2.1 c_trial_8.2.2.2.2.1 c_trial_8.2.2.2.2.2.1 c_trial_8.2.2.2.2.2.2.1 c_trial_8.2.2.2.2.2.2.2.1 c_trial_8.2.2.2.2.2.2.2.2.1 c_trial_8.2.2.2.2.2.2.2.2.2.1 c_trial_8.2.2.2.2.2.2.2.2.2.2.1 c_trial_8.2.2.2.2.2.2.2.2.2.2.2 c_settledBy_9)) (T := TX7) (N := 15) (ci := 7) K (ctX7_settledWith l D cyI cyJ cyS a0 i8 c_finding c_courseKnown c_room c_told c_events c_settledByKnown c_trial c_settledBy r_6 c_settledByKnown_7 c_trial_8 c_settledBy_9 hc) (gdV mcL mw_28_18 mw_28_19 mw_28_20 mw_1_2 mw_28_21) rfl ⟨rfl, rfl⟩ hyX7_settledWith ⟨Nat.le_of_ble_eq_true rfl, Nat.le_of_ble_eq_true rfl, Nat.le_of_ble_eq_true rfl, Nat.le_of_ble_eq_true rfl⟩ [0, 1, 2, 3, 4, 5, 6, 7, 8, 9, 10, 11, 12, 13, 14, 15, 16, 17, 18, 19, 20, 21] (by decide) rfl [some 0, some 1, some 2, some 3, some 4, some 5, some 6, some 7, some 8, some 9, some 10, some 11, some 12, some 13, some 14, some 15, some 16, some 17, some 18, some 19, some 20, some 21] (by decide) rfl rfl 0 rfl rfl rfl rfl (Nat.le_of_ble_eq_true rfl) dX7_chance_67 rfl rfl ?_
      refine j_iload_n K 2 rfl dX7_chance_70 rfl ?_
      refine j_ishr K dX7_chance_71 rfl ?_
      refine j_iconst (v := (1 : Int32)) K (by decide) dX7_chance_72 rfl ?_
      refine j_iand K dX7_chance_73 rfl ?_
      refine j_if_eq (tgt := 89) K dX7_chance_74 (by decide) rfl h (fun h => ?_) (fun h => ?_)
      · refine j_sub [0, 1, 2, 3, 4, 5, 6] (lv' := [(0, .ref (a0 0)), (1, .int i1), (2, .int i2), (3, .int i3), (4, .long l4), (6, .long l6), (8, .int i8)]) rfl ?_
        exact wX7_chance_89 K a0 c_finding c_courseKnown i1 i2 i3 c_room c_told c_events o_r o_settledByKnown o_trial o_settledBy (fX7_chance_50 i1 i2 i3 c_room c_told c_events n) (fun z0 z1 z2 z3 z4 z5 hq => ih z0 z1 z2 z3 z4 z5 hq) c_settledByKnown_7 c_trial_8 c_settledBy_9 l4 l6 i8 h
      · refine j_lload K 4 rfl dX7_chance_77 rfl ?_
        refine j_aload_n K 0 rfl dX7_chance_79 rfl ?_
        refine j_iload_n K 1 rfl dX7_chance_80 rfl ?_
        refine j_iload K 6 rfl dX7_chance_81 rfl ?_
        obtain ⟨r_11, hc, h⟩ := bd1_some h
        refine j_callV (rest := [.long l4]) (st1 := [.long r_11, .long l4]) (ws' := (uX7_chance cyI cyJ cyS a0 c_room c_finding c_courseKnown c_settledByKnown_7 c_told.1 c_told.2.1 c_told.2.2.1 c_told.2.2.2 c_events.1 c_events.2.1 c_events.2.2.1 c_events.2.2.2 c_trial_8.1 c_trial_8.2.1 c_trial_8.2.2.1 c_trial_8.2.2.2.1 c_trial_8.2.2.2.2.1 c_trial_8.2.2.2.2.2.1 c_trial_8.2.2.2.2.2.2.1 c_trial_8.2.2.2.2.2.2.2.1 c_trial_8.2.2.2.2.2.2.2.2.1 c_trial_8.2.2.2.2.2.2.2.2.2.1 c_trial_8.2.2.2.2.2.2.2.2.2.2.1 c_trial_8.2.2.2.2.2.2.2.2.2.2.2 c_settledBy_9)) (T := TX7) (N := 15) (ci := 7) K (ctX7_weight l D cyI cyJ cyS a0 i1 i8 c_room c_finding c_courseKnown c_settledByKnown_7 c_events.1 r_11 hc) (gdV mcL mw_34_7 mw_34_8 mw_34_9 mw_1_2 mw_34_10) rfl ⟨rfl, rfl⟩ hyX7_weight ⟨Nat.le_of_ble_eq_true rfl, Nat.le_of_ble_eq_true rfl, Nat.le_of_ble_eq_true rfl, Nat.le_of_ble_eq_true rfl⟩ [0, 5] (by decide) rfl [some 0, none, none, none, none, some 1, none, none, none, none, none, none, none, none, none, none, none, none, none, none, none, none] (by decide) rfl rfl 0 rfl rfl rfl rfl (Nat.le_of_ble_eq_true rfl) dX7_chance_83 rfl rfl ?_
        refine j_ladd K dX7_chance_86 rfl ?_
        refine j_nmL h (fun l4_12 h => ?_)
        refine j_lstore (lv' := [(4, .long l4_12), (0, .ref (a0 0)), (1, .int i1), (2, .int i2), (3, .int i3), (6, .long l6), (8, .int i8)]) K (by decide) rfl dX7_chance_87 rfl ?_
        refine j_sub [1, 2, 3, 4, 0, 5, 6] (lv' := [(0, .ref (a0 0)), (1, .int i1), (2, .int i2), (3, .int i3), (4, .long l4_12), (6, .long l6), (8, .int i8)]) rfl ?_
        exact wX7_chance_89 K a0 c_finding c_courseKnown i1 i2 i3 c_room c_told c_events o_r o_settledByKnown o_trial o_settledBy (fX7_chance_50 i1 i2 i3 c_room c_told c_events n) (fun z0 z1 z2 z3 z4 z5 hq => ih z0 z1 z2 z3 z4 z5 hq) c_settledByKnown_7 c_trial_8 c_settledBy_9 l4_12 l6 i8 h
set_option maxRecDepth 100000 in
set_option maxHeartbeats 4000000 in
theorem ctX7_chance (l : Launch) (D : va_G) (cyI cyJ cyS : ClassId) (a0 : Nat → Nat) (i1 : Int32) (i2 : Int32) (i3 : Int32) (c_finding : Int32) (c_courseKnown : Int32) (c_room : Int32) (c_told : jT3) (c_events : jT3) (c_settledByKnown : Int32) (c_trial : jT11) (c_settledBy : Nat → Int32) (o_r : Int64) (o_settledByKnown : Int32) (o_trial : jT11) (o_settledBy : Nat → Int32) (h : fX7_chance i1 i2 i3 c_room c_told c_events c_settledByKnown c_trial c_settledBy = some (o_r, o_settledByKnown, o_trial, o_settledBy)) : jC l yX7_chance wdX7_chance rmX7_chance D vwCl (tyz cyI cyJ cyS) [.ref (a0 0), .int i1, .int i2, .int i3] (uX7_chance cyI cyJ cyS a0 c_room c_finding c_courseKnown c_settledByKnown c_told.1 c_told.2.1 c_told.2.2.1 c_told.2.2.2 c_events.1 c_events.2.1 c_events.2.2.1 c_events.2.2.2 c_trial.1 c_trial.2.1 c_trial.2.2.1 c_trial.2.2.2.1 c_trial.2.2.2.2.1 c_trial.2.2.2.2.2.1 c_trial.2.2.2.2.2.2.1 c_trial.2.2.2.2.2.2.2.1 c_trial.2.2.2.2.2.2.2.2.1 c_trial.2.2.2.2.2.2.2.2.2.1 c_trial.2.2.2.2.2.2.2.2.2.2.1 c_trial.2.2.2.2.2.2.2.2.2.2.2 c_settledBy) (some (.long o_r)) (uX7_chance cyI cyJ cyS a0 c_room c_finding c_courseKnown o_settledByKnown c_told.1 c_told.2.1 c_told.2.2.1 c_told.2.2.2 c_events.1 c_events.2.1 c_events.2.2.1 c_events.2.2.2 o_trial.1 o_trial.2.1 o_trial.2.2.1 o_trial.2.2.2.1 o_trial.2.2.2.2.1 o_trial.2.2.2.2.2.1 o_trial.2.2.2.2.2.2.1 o_trial.2.2.2.2.2.2.2.1 o_trial.2.2.2.2.2.2.2.2.1 o_trial.2.2.2.2.2.2.2.2.2.1 o_trial.2.2.2.2.2.2.2.2.2.2.1 o_trial.2.2.2.2.2.2.2.2.2.2.2 o_settledBy) := by
  refine jC_of (cc := cX7_chance) (nL := 10) (ret := (some .long)) (own := RX7) (lv := [(0, .ref (a0 0)), (1, .int i1), (2, .int i2), (3, .int i3)]) (by decide) rfl rfl (Nat.le_of_ble_eq_true rfl) rfl ?_
  intro p e s m args below meth c A K
  unfold fX7_chance at h
  refine j_iload_n K 1 rfl dX7_chance_0 rfl ?_
  refine j_iconst (v := (0 : Int32)) K (by decide) dX7_chance_1 rfl ?_
  refine j_bipush (v := (16 : Int32)) K (by decide) dX7_chance_2 rfl ?_
  obtain ⟨r_1, hc, h⟩ := bd1_some h
  refine j_callS (rest := []) (st1 := [.int r_1]) (ws' := (uX7_chance cyI cyJ cyS a0 c_room c_finding c_courseKnown c_settledByKnown c_told.1 c_told.2.1 c_told.2.2.1 c_told.2.2.2 c_events.1 c_events.2.1 c_events.2.2.1 c_events.2.2.2 c_trial.1 c_trial.2.1 c_trial.2.2.1 c_trial.2.2.2.1 c_trial.2.2.2.2.1 c_trial.2.2.2.2.2.1 c_trial.2.2.2.2.2.2.1 c_trial.2.2.2.2.2.2.2.1 c_trial.2.2.2.2.2.2.2.2.1 c_trial.2.2.2.2.2.2.2.2.2.1 c_trial.2.2.2.2.2.2.2.2.2.2.1 c_trial.2.2.2.2.2.2.2.2.2.2.2 c_settledBy)) K (ctX7_within l D cyI cyJ cyS i1 (0 : Int32) (16 : Int32) r_1 hc) (gdS mcL mw_6_12 mw_6_13 mw_1_2 mw_6_14) rfl ⟨rfl, rfl⟩ hzX7_within ⟨Nat.le_of_ble_eq_true rfl, Nat.le_of_ble_eq_true rfl, Nat.le_of_ble_eq_true rfl, Nat.le_of_ble_eq_true rfl⟩ [] (by decide) rfl [none, none, none, none, none, none, none, none, none, none, none, none, none, none, none, none, none, none, none, none, none, none] (by decide) rfl rfl rfl rfl (Nat.le_of_ble_eq_true rfl) dX7_chance_4 rfl rfl ?_
  refine j_if_eq (tgt := 27) K dX7_chance_7 (by decide) rfl h (fun h => ?_) (fun h => ?_)
  · refine j_ldc2 (v := (-9223372036854775806 : Int64)) K (List.mem_cons_of_mem _ mw_34_6) dX7_chance_27 rfl ?_
    obtain ⟨e1, g1⟩ := Prod.mk.inj (Option.some.inj h)
    subst e1
    obtain ⟨e2, g2⟩ := Prod.mk.inj g1
    subst e2
    obtain ⟨e3, g3⟩ := Prod.mk.inj g2
    subst e3
    subst g3
    exact j_lret K dX7_chance_30
  · refine j_aload_n K 0 rfl dX7_chance_10 rfl ?_
    refine j_iload_n K 2 rfl dX7_chance_11 rfl ?_
    obtain ⟨r_2, hc, h⟩ := bd1_some h
    refine j_callV (rest := []) (st1 := [.int r_2]) (ws' := (uX7_chance cyI cyJ cyS a0 c_room c_finding c_courseKnown c_settledByKnown c_told.1 c_told.2.1 c_told.2.2.1 c_told.2.2.2 c_events.1 c_events.2.1 c_events.2.2.1 c_events.2.2.2 c_trial.1 c_trial.2.1 c_trial.2.2.1 c_trial.2.2.2.1 c_trial.2.2.2.2.1 c_trial.2.2.2.2.2.1 c_trial.2.2.2.2.2.2.1 c_trial.2.2.2.2.2.2.2.1 c_trial.2.2.2.2.2.2.2.2.1 c_trial.2.2.2.2.2.2.2.2.2.1 c_trial.2.2.2.2.2.2.2.2.2.2.1 c_trial.2.2.2.2.2.2.2.2.2.2.2 c_settledBy)) (T := TX7) (N := 15) (ci := 7) K (ctX7_isTenant l D cyI cyJ cyS a0 i2 c_room c_finding c_courseKnown c_settledByKnown c_told.1 r_2 hc) (gdV mcL mw_9_19 mw_9_20 mw_9_21 mw_1_2 mw_9_22) rfl ⟨rfl, rfl⟩ hyX7_isTenant ⟨Nat.le_of_ble_eq_true rfl, Nat.le_of_ble_eq_true rfl, Nat.le_of_ble_eq_true rfl, Nat.le_of_ble_eq_true rfl⟩ [0, 1] (by decide) rfl [some 0, some 1, none, none, none, none, none, none, none, none, none, none, none, none, none, none, none, none, none, none, none, none] (by decide) rfl rfl 0 rfl rfl rfl rfl (Nat.le_of_ble_eq_true rfl) dX7_chance_12 rfl rfl ?_
    refine j_if_eq (tgt := 27) K dX7_chance_15 (by decide) rfl h (fun h => ?_) (fun h => ?_)
    · refine j_ldc2 (v := (-9223372036854775806 : Int64)) K (List.mem_cons_of_mem _ mw_34_6) dX7_chance_27 rfl ?_
      obtain ⟨e1, g1⟩ := Prod.mk.inj (Option.some.inj h)
      subst e1
      obtain ⟨e2, g2⟩ := Prod.mk.inj g1
      subst e2
      obtain ⟨e3, g3⟩ := Prod.mk.inj g2
      subst e3
      subst g3
      exact j_lret K dX7_chance_30
    · refine j_iload_n K 3 rfl dX7_chance_18 rfl ?_
      refine j_iconst (v := (0 : Int32)) K (by decide) dX7_chance_19 rfl ?_
      refine j_iconst (v := (1 : Int32)) K (by decide) dX7_chance_20 rfl ?_
      obtain ⟨r_3, hc, h⟩ := bd1_some h
      refine j_callS (rest := []) (st1 := [.int r_3]) (ws' := (uX7_chance cyI cyJ cyS a0 c_room c_finding c_courseKnown c_settledByKnown c_told.1 c_told.2.1 c_told.2.2.1 c_told.2.2.2 c_events.1 c_events.2.1 c_events.2.2.1 c_events.2.2.2 c_trial.1 c_trial.2.1 c_trial.2.2.1 c_trial.2.2.2.1 c_trial.2.2.2.2.1 c_trial.2.2.2.2.2.1 c_trial.2.2.2.2.2.2.1 c_trial.2.2.2.2.2.2.2.1 c_trial.2.2.2.2.2.2.2.2.1 c_trial.2.2.2.2.2.2.2.2.2.1 c_trial.2.2.2.2.2.2.2.2.2.2.1 c_trial.2.2.2.2.2.2.2.2.2.2.2 c_settledBy)) K (ctX7_within l D cyI cyJ cyS i3 (0 : Int32) (1 : Int32) r_3 hc) (gdS mcL mw_6_12 mw_6_13 mw_1_2 mw_6_14) rfl ⟨rfl, rfl⟩ hzX7_within ⟨Nat.le_of_ble_eq_true rfl, Nat.le_of_ble_eq_true rfl, Nat.le_of_ble_eq_true rfl, Nat.le_of_ble_eq_true rfl⟩ [] (by decide) rfl [none, none, none, none, none, none, none, none, none, none, none, none, none, none, none, none, none, none, none, none, none, none] (by decide) rfl rfl rfl rfl (Nat.le_of_ble_eq_true rfl) dX7_chance_21 rfl rfl ?_
      refine j_if_ne (tgt := 31) K dX7_chance_24 (by decide) rfl h (fun h => ?_) (fun h => ?_)
      · refine j_lconst (v := (0 : Int64)) K (by decide) dX7_chance_31 rfl ?_
        refine j_lstore (lv' := [(4, .long (0 : Int64)), (0, .ref (a0 0)), (1, .int i1), (2, .int i2), (3, .int i3)]) K (by decide) rfl dX7_chance_32 rfl ?_
        refine j_lconst (v := (1 : Int64)) K (by decide) dX7_chance_34 rfl ?_
        refine j_iconst (v := (4 : Int32)) K (by decide) dX7_chance_35 rfl ?_
        refine j_aload_n K 1 rfl dX7_chance_36 rfl ?_
        refine j_getf (C := RX7) (T := TX7) (N := 15) (ci := 7) K icX7 0 3 (List.mem_cons_of_mem _ mw_2_0) rfl rfl rfl (by decide) rfl dX7_chance_37 rfl ?_
        refine j_getf (C := RX2) (T := TX2) (N := 4) (ci := 2) K icX2 5 3 (List.mem_cons_of_mem _ mw_10_22) rfl rfl rfl (by decide) rfl dX7_chance_40 rfl ?_
        refine j_imul K dX7_chance_43 rfl ?_
        refine j_lshl K dX7_chance_44 rfl ?_
        refine j_nmL h (fun l6_4 h => ?_)
        refine j_lstore (lv' := [(6, .long l6_4), (4, .long (0 : Int64)), (0, .ref (a0 0)), (1, .int i1), (2, .int i2), (3, .int i3)]) K (by decide) rfl dX7_chance_45 rfl ?_
        refine j_iconst (v := (0 : Int32)) K (by decide) dX7_chance_47 rfl ?_
        refine j_istore (lv' := [(8, .int (0 : Int32)), (6, .long l6_4), (4, .long (0 : Int64)), (0, .ref (a0 0)), (1, .int i1), (2, .int i2), (3, .int i3)]) K (by decide) rfl dX7_chance_48 rfl ?_
        refine j_sub [3, 4, 5, 6, 2, 1, 0] (lv' := [(0, .ref (a0 0)), (1, .int i1), (2, .int i2), (3, .int i3), (4, .long (0 : Int64)), (6, .long l6_4), (8, .int (0 : Int32))]) rfl ?_
        exact wX7_chance_50 K a0 c_finding c_courseKnown i1 i2 i3 c_room c_told c_events o_r o_settledByKnown o_trial o_settledBy jF c_settledByKnown c_trial c_settledBy (0 : Int64) l6_4 (0 : Int32) h
      · refine j_ldc2 (v := (-9223372036854775806 : Int64)) K (List.mem_cons_of_mem _ mw_34_6) dX7_chance_27 rfl ?_
        obtain ⟨e1, g1⟩ := Prod.mk.inj (Option.some.inj h)
        subst e1
        obtain ⟨e2, g2⟩ := Prod.mk.inj g1
        subst e2
        obtain ⟨e3, g3⟩ := Prod.mk.inj g2
        subst e3
        subst g3
        exact j_lret K dX7_chance_30
end GEN
