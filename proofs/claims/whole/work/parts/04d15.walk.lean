section GEN
variable {p : Program} {l : Launch} {e : Env} {s : State} {m : MethodId} {args : Array Value} {below : List Frame} {meth : Method} {c : Code} {A : Nat → Prop} {D : va_G} {cyI cyJ cyS : ClassId}
abbrev uX7_sparedEvents (cyI cyJ cyS : ClassId) (a0 : Nat → Nat) (c_room : Int32) (c_finding : Int32) (c_courseKnown : Int32) (c_settledByKnown : Int32) (c_told_size : Int32) (c_told_sort : Nat → Int32) (c_told_paid : Nat → Int32) (c_told_wage : Nat → Int32) (c_events_size : Int32) (c_events_kind : Nat → Int32) (c_events_month : Nat → Int32) (c_events_number : Nat → Int32) (c_trial_size : Int32) (c_trial_settled : Nat → Int32) (c_trial_falls : Nat → Int32) (c_trial_passed : Nat → Int32) (c_trial_floors : Nat → Int32) (c_trial_lefts : Nat → Int32) (c_trial_fallers : Nat → Int32) (c_trial_floor : Nat → Int32) (c_trial_before : Nat → Int32) (c_trial_left : Nat → Int32) (c_trial_order : Nat → Int32) (c_trial_taken : Nat → Int32) (c_settledBy : Nat → Int32) : va_W := [((a0 0), .inr (7, [.ref (a0 1), .ref (a0 3), .ref (a0 7), .ref (a0 11), .ref (a0 15), .ref (a0 19), .ref (a0 31), .ref (a0 43), .ref (a0 44), .ref (a0 53), .ref (a0 54), .int c_room, .int c_finding, .int c_courseKnown, .int c_settledByKnown])), ((a0 3), .inr (5, [.ref (a0 4), .ref (a0 5), .ref (a0 6), .int c_told_size])), ((a0 4), .inl (cyI, 8, .inl c_told_sort)), ((a0 5), .inl (cyI, 8, .inl c_told_paid)), ((a0 6), .inl (cyI, 8, .inl c_told_wage)), ((a0 11), .inr (2, [.ref (a0 12), .ref (a0 13), .ref (a0 14), .int c_events_size])), ((a0 12), .inl (cyI, 8, .inl c_events_kind)), ((a0 13), .inl (cyI, 8, .inl c_events_month)), ((a0 14), .inl (cyI, 8, .inl c_events_number)), ((a0 31), .inr (1, [.int c_trial_size, .ref (a0 32), .ref (a0 33), .ref (a0 34), .ref (a0 35), .ref (a0 36), .ref (a0 37), .ref (a0 38), .ref (a0 39), .ref (a0 40), .ref (a0 41), .ref (a0 42)])), ((a0 32), .inl (cyI, 8, .inl c_trial_settled)), ((a0 33), .inl (cyI, 8, .inl c_trial_falls)), ((a0 34), .inl (cyI, 8, .inl c_trial_passed)), ((a0 35), .inl (cyI, 192, .inl c_trial_floors)), ((a0 36), .inl (cyI, 192, .inl c_trial_lefts)), ((a0 37), .inl (cyI, 24, .inl c_trial_fallers)), ((a0 38), .inl (cyI, 8, .inl c_trial_floor)), ((a0 39), .inl (cyI, 8, .inl c_trial_before)), ((a0 40), .inl (cyI, 8, .inl c_trial_left)), ((a0 41), .inl (cyI, 8, .inl c_trial_order)), ((a0 42), .inl (cyI, 13, .inl c_trial_taken)), ((a0 53), .inl (cyI, 256, .inl c_settledBy))]
abbrev rmX7_sparedEvents : Room := { frames := 5, cells := 0, slots := 0, locals := 117 }
abbrev wdX7_sparedEvents : List Cond := .code yX7_sparedEvents cX7_sparedEvents 5 (some .int) :: wsL_law
theorem hyX7_sparedEvents : yX7_sparedEvents.cls = RX7 ∧ yX7_sparedEvents.cls ≠ "java/lang/invoke/MethodHandle" ∧ yX7_sparedEvents.cls ≠ "java/lang/invoke/VarHandle" ∧ (parseMethodDescriptor yX7_sparedEvents.desc).map (fun d => d.parameters.length) = some 0 := by decide +kernel
set_option maxRecDepth 100000 in
set_option maxHeartbeats 4000000 in
theorem wX7_sparedEvents_76 (K : jK p s m args meth c A D vwCl (tyz cyI cyJ cyS) cX7_sparedEvents 5 RX7 wdX7_sparedEvents (some .int)) (a0 : Nat → Nat) (c_finding : Int32) (c_courseKnown : Int32) (c_room : Int32) (c_told : jT3) (c_events : jT3) (o_r : Int32) (o_settledByKnown : Int32) (o_trial : jT11) (o_settledBy : Nat → Int32)  (q_61 : Int32 → jT11 → (Nat → Int32) → Int32 → Int32 → (Option (Int32 × Int32 × jT11 × (Nat → Int32)))) (hq_61 : ∀ (c_settledByKnown : Int32) (c_trial : jT11) (c_settledBy : Nat → Int32) (i1 : Int32) (i2 : Int32), q_61 c_settledByKnown c_trial c_settledBy i1 i2 = some (o_r, o_settledByKnown, o_trial, o_settledBy) → jw p l e rmX7_sparedEvents s m args below meth c (jQ below args s A D vwCl (tyz cyI cyJ cyS) 0 0 (some (.int o_r)) (uX7_sparedEvents cyI cyJ cyS a0 c_room c_finding c_courseKnown o_settledByKnown c_told.1 c_told.2.1 c_told.2.2.1 c_told.2.2.2 c_events.1 c_events.2.1 c_events.2.2.1 c_events.2.2.2 o_trial.1 o_trial.2.1 o_trial.2.2.1 o_trial.2.2.2.1 o_trial.2.2.2.2.1 o_trial.2.2.2.2.2.1 o_trial.2.2.2.2.2.2.1 o_trial.2.2.2.2.2.2.2.1 o_trial.2.2.2.2.2.2.2.2.1 o_trial.2.2.2.2.2.2.2.2.2.1 o_trial.2.2.2.2.2.2.2.2.2.2.1 o_trial.2.2.2.2.2.2.2.2.2.2.2 o_settledBy)) A D vwCl 5 0 0 61 [(0, .ref (a0 0)), (1, .int i1), (2, .int i2)] [] (uX7_sparedEvents cyI cyJ cyS a0 c_room c_finding c_courseKnown c_settledByKnown c_told.1 c_told.2.1 c_told.2.2.1 c_told.2.2.2 c_events.1 c_events.2.1 c_events.2.2.1 c_events.2.2.2 c_trial.1 c_trial.2.1 c_trial.2.2.1 c_trial.2.2.2.1 c_trial.2.2.2.2.1 c_trial.2.2.2.2.2.1 c_trial.2.2.2.2.2.2.1 c_trial.2.2.2.2.2.2.2.1 c_trial.2.2.2.2.2.2.2.2.1 c_trial.2.2.2.2.2.2.2.2.2.1 c_trial.2.2.2.2.2.2.2.2.2.2.1 c_trial.2.2.2.2.2.2.2.2.2.2.2 c_settledBy)) : ∀ (n : Nat) (c_settledByKnown : Int32) (c_trial : jT11) (c_settledBy : Nat → Int32) (i1 : Int32) (i2 : Int32) (i3 : Int32), fX7_sparedEvents_76 c_room c_told c_events q_61 n c_settledByKnown c_trial c_settledBy i1 i2 i3 = some (o_r, o_settledByKnown, o_trial, o_settledBy) → jw p l e rmX7_sparedEvents s m args below meth c (jQ below args s A D vwCl (tyz cyI cyJ cyS) 0 0 (some (.int o_r)) (uX7_sparedEvents cyI cyJ cyS a0 c_room c_finding c_courseKnown o_settledByKnown c_told.1 c_told.2.1 c_told.2.2.1 c_told.2.2.2 c_events.1 c_events.2.1 c_events.2.2.1 c_events.2.2.2 o_trial.1 o_trial.2.1 o_trial.2.2.1 o_trial.2.2.2.1 o_trial.2.2.2.2.1 o_trial.2.2.2.2.2.1 o_trial.2.2.2.2.2.2.1 o_trial.2.2.2.2.2.2.2.1 o_trial.2.2.2.2.2.2.2.2.1 o_trial.2.2.2.2.2.2.2.2.2.1 o_trial.2.2.2.2.2.2.2.2.2.2.1 o_trial.2.2.2.2.2.2.2.2.2.2.2 o_settledBy)) A D vwCl 5 0 0 76 [(0, .ref (a0 0)), (1, .int i1), (2, .int i2), (3, .int i3)] [] (uX7_sparedEvents cyI cyJ cyS a0 c_room c_finding c_courseKnown c_settledByKnown c_told.1 c_told.2.1 c_told.2.2.1 c_told.2.2.2 c_events.1 c_events.2.1 c_events.2.2.1 c_events.2.2.2 c_trial.1 c_trial.2.1 c_trial.2.2.1 c_trial.2.2.2.1 c_trial.2.2.2.2.1 c_trial.2.2.2.2.2.1 c_trial.2.2.2.2.2.2.1 c_trial.2.2.2.2.2.2.2.1 c_trial.2.2.2.2.2.2.2.2.1 c_trial.2.2.2.2.2.2.2.2.2.1 c_trial.2.2.2.2.2.2.2.2.2.2.1 c_trial.2.2.2.2.2.2.2.2.2.2.2 c_settledBy) := by
  intro n
  induction n with
  | zero => intro c_settledByKnown c_trial c_settledBy i1 i2 i3 h; cases h
  | succ n ih =>
    intro c_settledByKnown c_trial c_settledBy i1 i2 i3 h
    have h : bX7_sparedEvents_76 c_room c_told c_events q_61 (fX7_sparedEvents_76 c_room c_told c_events q_61 n) c_settledByKnown c_trial c_settledBy i1 i2 i3 = some (o_r, o_settledByKnown, o_trial, o_settledBy) := h
    unfold bX7_sparedEvents_76 at h
    refine j_iload_n K 3 rfl dX7_sparedEvents_76 rfl ?_
    refine j_aload_n K 0 rfl dX7_sparedEvents_77 rfl ?_
    refine j_getf (C := RX7) (T := TX7) (N := 15) (ci := 7) K icX7 0 3 (List.mem_cons_of_mem _ mw_2_0) rfl rfl rfl (by decide) rfl dX7_sparedEvents_78 rfl ?_
    refine j_getf (C := RX2) (T := TX2) (N := 4) (ci := 2) K icX2 5 3 (List.mem_cons_of_mem _ mw_10_22) rfl rfl rfl (by decide) rfl dX7_sparedEvents_81 rfl ?_
    refine j_icmp_ge (tgt := 118) K dX7_sparedEvents_84 (by decide) rfl h (fun h => ?_) (fun h => ?_)
    · refine j_iincN (lf := fun z => [(2, .int z), (0, .ref (a0 0)), (1, .int i1), (3, .int i3)]) K (v := i2 + (1 : Int32)) (k := 2) rfl rfl (by decide) (fun _ => rfl) dX7_sparedEvents_118 rfl h (fun i2_7 h => ?_)
      refine j_goto (pc' := 61) K dX7_sparedEvents_121 (by decide) ?_
      refine j_sub [1, 2, 0] (lv' := [(0, .ref (a0 0)), (1, .int i1), (2, .int i2_7)]) rfl ?_
      exact hq_61 c_settledByKnown c_trial c_settledBy i1 i2_7 h
    · refine j_iconst (v := (1 : Int32)) K (by decide) dX7_sparedEvents_87 rfl ?_
      refine j_iload_n K 2 rfl dX7_sparedEvents_88 rfl ?_
      refine j_ishl K dX7_sparedEvents_89 rfl ?_
      refine j_iconst (v := (1 : Int32)) K (by decide) dX7_sparedEvents_90 rfl ?_
      refine j_iload_n K 3 rfl dX7_sparedEvents_91 rfl ?_
      refine j_ishl K dX7_sparedEvents_92 rfl ?_
      refine j_ior K dX7_sparedEvents_93 rfl ?_
      refine j_nmI h (fun i4_8 h => ?_)
      refine j_istore (lv' := [(4, .int i4_8), (0, .ref (a0 0)), (1, .int i1), (2, .int i2), (3, .int i3)]) K (by decide) rfl dX7_sparedEvents_94 rfl ?_
      refine j_aload_n K 1 rfl dX7_sparedEvents_96 rfl ?_
      refine j_iload_n K 2 rfl dX7_sparedEvents_97 rfl ?_
      refine j_iload K 0 rfl dX7_sparedEvents_98 rfl ?_
      refine j_iconst (v := (-1 : Int32)) K (by decide) dX7_sparedEvents_100 rfl ?_
      refine j_ixor K dX7_sparedEvents_101 rfl ?_
      refine j_iand K dX7_sparedEvents_102 rfl ?_
      obtain ⟨r_9, c_settledByKnown_10, c_trial_11, c_settledBy_12, hc, h⟩ := bd4_some h
      refine j_callV (rest := []) (st1 := [.int r_9]) (ws' := (uX7_sparedEvents cyI cyJ cyS a0 c_room c_finding c_courseKnown c_settledByKnown_10 c_told.1 c_told.2.1 c_told.2.2.1 c_told.2.2.2 c_events.1 c_events.2.1 c_events.2.2.1 c_events.2.2.2 c_trial_11.1 c_trial_11.2.1 c_trial_11.2.2.1 c_trial_11.2.2.2.1 c_trial_11.2.2.2.2.1 c_trial_11.2.2.2.2.2.1 c_trial_11.2.2.2.2.2.2.1 c_trial_11.2.2.2.2.2.2.2.1 c_trial_11.2.2.2.2.2.2.2.2.1 c_trial_11.2.2.2.2.2.2.2.2.2.1 c_trial_11.2.2.2.2.2.2.2.2.2.2.1 c_trial_11.2.2.2.2.2.2.2.2.2.2.2 c_settledBy_12)) (T := TX7) (N := 15) (ci := 7) K (ctX7_settledWith l D cyI cyJ cyS a0 (i1 &&& (i4_8 ^^^ (-1 : Int32))) c_finding c_courseKnown c_room c_told c_events c_settledByKnown c_trial c_settledBy r_9 c_settledByKnown_10 c_trial_11 c_settledBy_12 hc) (gdV mcL mw_28_18 mw_28_19 mw_28_20 mw_1_2 mw_28_21) rfl ⟨rfl, rfl⟩ hyX7_settledWith ⟨Nat.le_of_ble_eq_true rfl, Nat.le_of_ble_eq_true rfl, Nat.le_of_ble_eq_true rfl, Nat.le_of_ble_eq_true rfl⟩ [0, 1, 2, 3, 4, 5, 6, 7, 8, 9, 10, 11, 12, 13, 14, 15, 16, 17, 18, 19, 20, 21] (by decide) rfl [some 0, some 1, some 2, some 3, some 4, some 5, some 6, some 7, some 8, some 9, some 10, some 11, some 12, some 13, some 14, some 15, some 16, some 17, some 18, some 19, some 20, some 21] (by decide) rfl rfl 0 rfl rfl rfl rfl (Nat.le_of_ble_eq_true rfl) dX7_sparedEvents_103 rfl rfl ?_
      refine j_if_ne (tgt := 112) K dX7_sparedEvents_106 (by decide) rfl h (fun h => ?_) (fun h => ?_)
      · refine j_iincN (lf := fun z => [(3, .int z), (4, .int i4_8), (0, .ref (a0 0)), (1, .int i1), (2, .int i2)]) K (v := i3 + (1 : Int32)) (k := 4) rfl rfl (by decide) (fun _ => rfl) dX7_sparedEvents_112 rfl h (fun i3_13 h => ?_)
        refine j_goto (pc' := 76) K dX7_sparedEvents_115 (by decide) ?_
        refine j_sub [2, 3, 4, 0] (lv' := [(0, .ref (a0 0)), (1, .int i1), (2, .int i2), (3, .int i3_13)]) rfl ?_
        exact ih c_settledByKnown_10 c_trial_11 c_settledBy_12 i1 i2 i3_13 h
      · refine j_iload K 0 rfl dX7_sparedEvents_109 rfl ?_
        obtain ⟨e1, g1⟩ := Prod.mk.inj (Option.some.inj h)
        subst e1
        obtain ⟨e2, g2⟩ := Prod.mk.inj g1
        subst e2
        obtain ⟨e3, g3⟩ := Prod.mk.inj g2
        subst e3
        subst g3
        exact j_iret K dX7_sparedEvents_111
set_option maxRecDepth 100000 in
set_option maxHeartbeats 4000000 in
theorem wX7_sparedEvents_61 (K : jK p s m args meth c A D vwCl (tyz cyI cyJ cyS) cX7_sparedEvents 5 RX7 wdX7_sparedEvents (some .int)) (a0 : Nat → Nat) (c_finding : Int32) (c_courseKnown : Int32) (c_room : Int32) (c_told : jT3) (c_events : jT3) (o_r : Int32) (o_settledByKnown : Int32) (o_trial : jT11) (o_settledBy : Nat → Int32)   : ∀ (n : Nat) (c_settledByKnown : Int32) (c_trial : jT11) (c_settledBy : Nat → Int32) (i1 : Int32) (i2 : Int32), fX7_sparedEvents_61 c_room c_told c_events  n c_settledByKnown c_trial c_settledBy i1 i2 = some (o_r, o_settledByKnown, o_trial, o_settledBy) → jw p l e rmX7_sparedEvents s m args below meth c (jQ below args s A D vwCl (tyz cyI cyJ cyS) 0 0 (some (.int o_r)) (uX7_sparedEvents cyI cyJ cyS a0 c_room c_finding c_courseKnown o_settledByKnown c_told.1 c_told.2.1 c_told.2.2.1 c_told.2.2.2 c_events.1 c_events.2.1 c_events.2.2.1 c_events.2.2.2 o_trial.1 o_trial.2.1 o_trial.2.2.1 o_trial.2.2.2.1 o_trial.2.2.2.2.1 o_trial.2.2.2.2.2.1 o_trial.2.2.2.2.2.2.1 o_trial.2.2.2.2.2.2.2.1 o_trial.2.2.2.2.2.2.2.2.1 o_trial.2.2.2.2.2.2.2.2.2.1 o_trial.2.2.2.2.2.2.2.2.2.2.1 o_trial.2.2.2.2.2.2.2.2.2.2.2 o_settledBy)) A D vwCl 5 0 0 61 [(0, .ref (a0 0)), (1, .int i1), (2, .int i2)] [] (uX7_sparedEvents cyI cyJ cyS a0 c_room c_finding c_courseKnown c_settledByKnown c_told.1 c_told.2.1 c_told.2.2.1 c_told.2.2.2 c_events.1 c_events.2.1 c_events.2.2.1 c_events.2.2.2 c_trial.1 c_trial.2.1 c_trial.2.2.1 c_trial.2.2.2.1 c_trial.2.2.2.2.1 c_trial.2.2.2.2.2.1 c_trial.2.2.2.2.2.2.1 c_trial.2.2.2.2.2.2.2.1 c_trial.2.2.2.2.2.2.2.2.1 c_trial.2.2.2.2.2.2.2.2.2.1 c_trial.2.2.2.2.2.2.2.2.2.2.1 c_trial.2.2.2.2.2.2.2.2.2.2.2 c_settledBy) := by
  intro n
  induction n with
  | zero => intro c_settledByKnown c_trial c_settledBy i1 i2 h; cases h
  | succ n ih =>
    intro c_settledByKnown c_trial c_settledBy i1 i2 h
    have h : bX7_sparedEvents_61 c_room c_told c_events  (fX7_sparedEvents_61 c_room c_told c_events  n) c_settledByKnown c_trial c_settledBy i1 i2 = some (o_r, o_settledByKnown, o_trial, o_settledBy) := h
    unfold bX7_sparedEvents_61 at h
    refine j_iload_n K 2 rfl dX7_sparedEvents_61 rfl ?_
    refine j_aload_n K 0 rfl dX7_sparedEvents_62 rfl ?_
    refine j_getf (C := RX7) (T := TX7) (N := 15) (ci := 7) K icX7 0 3 (List.mem_cons_of_mem _ mw_2_0) rfl rfl rfl (by decide) rfl dX7_sparedEvents_63 rfl ?_
    refine j_getf (C := RX2) (T := TX2) (N := 4) (ci := 2) K icX2 5 3 (List.mem_cons_of_mem _ mw_10_22) rfl rfl rfl (by decide) rfl dX7_sparedEvents_66 rfl ?_
    refine j_icmp_ge (tgt := 124) K dX7_sparedEvents_69 (by decide) rfl h (fun h => ?_) (fun h => ?_)
    · refine j_iconst (v := (-1 : Int32)) K (by decide) dX7_sparedEvents_124 rfl ?_
      obtain ⟨e1, g1⟩ := Prod.mk.inj (Option.some.inj h)
      subst e1
      obtain ⟨e2, g2⟩ := Prod.mk.inj g1
      subst e2
      obtain ⟨e3, g3⟩ := Prod.mk.inj g2
      subst e3
      subst g3
      exact j_iret K dX7_sparedEvents_125
    · refine j_iload_n K 2 rfl dX7_sparedEvents_72 rfl ?_
      refine j_iconst (v := (1 : Int32)) K (by decide) dX7_sparedEvents_73 rfl ?_
      refine j_iadd K dX7_sparedEvents_74 rfl ?_
      refine j_nmI h (fun i3_6 h => ?_)
      refine j_istore_n (lv' := [(3, .int i3_6), (0, .ref (a0 0)), (1, .int i1), (2, .int i2)]) K (by decide) rfl dX7_sparedEvents_75 rfl ?_
      refine j_sub [1, 2, 3, 0] (lv' := [(0, .ref (a0 0)), (1, .int i1), (2, .int i2), (3, .int i3_6)]) rfl ?_
      exact wX7_sparedEvents_76 K a0 c_finding c_courseKnown c_room c_told c_events o_r o_settledByKnown o_trial o_settledBy (fX7_sparedEvents_61 c_room c_told c_events n) (fun z0 z1 z2 z3 z4 hq => ih z0 z1 z2 z3 z4 hq) jF c_settledByKnown c_trial c_settledBy i1 i2 i3_6 h
set_option maxRecDepth 100000 in
set_option maxHeartbeats 4000000 in
theorem wX7_sparedEvents_24 (K : jK p s m args meth c A D vwCl (tyz cyI cyJ cyS) cX7_sparedEvents 5 RX7 wdX7_sparedEvents (some .int)) (a0 : Nat → Nat) (c_finding : Int32) (c_courseKnown : Int32) (c_room : Int32) (c_told : jT3) (c_events : jT3) (o_r : Int32) (o_settledByKnown : Int32) (o_trial : jT11) (o_settledBy : Nat → Int32)   : ∀ (n : Nat) (c_settledByKnown : Int32) (c_trial : jT11) (c_settledBy : Nat → Int32) (i1 : Int32) (i2 : Int32), fX7_sparedEvents_24 c_room c_told c_events  n c_settledByKnown c_trial c_settledBy i1 i2 = some (o_r, o_settledByKnown, o_trial, o_settledBy) → jw p l e rmX7_sparedEvents s m args below meth c (jQ below args s A D vwCl (tyz cyI cyJ cyS) 0 0 (some (.int o_r)) (uX7_sparedEvents cyI cyJ cyS a0 c_room c_finding c_courseKnown o_settledByKnown c_told.1 c_told.2.1 c_told.2.2.1 c_told.2.2.2 c_events.1 c_events.2.1 c_events.2.2.1 c_events.2.2.2 o_trial.1 o_trial.2.1 o_trial.2.2.1 o_trial.2.2.2.1 o_trial.2.2.2.2.1 o_trial.2.2.2.2.2.1 o_trial.2.2.2.2.2.2.1 o_trial.2.2.2.2.2.2.2.1 o_trial.2.2.2.2.2.2.2.2.1 o_trial.2.2.2.2.2.2.2.2.2.1 o_trial.2.2.2.2.2.2.2.2.2.2.1 o_trial.2.2.2.2.2.2.2.2.2.2.2 o_settledBy)) A D vwCl 5 0 0 24 [(0, .ref (a0 0)), (1, .int i1), (2, .int i2)] [] (uX7_sparedEvents cyI cyJ cyS a0 c_room c_finding c_courseKnown c_settledByKnown c_told.1 c_told.2.1 c_told.2.2.1 c_told.2.2.2 c_events.1 c_events.2.1 c_events.2.2.1 c_events.2.2.2 c_trial.1 c_trial.2.1 c_trial.2.2.1 c_trial.2.2.2.1 c_trial.2.2.2.2.1 c_trial.2.2.2.2.2.1 c_trial.2.2.2.2.2.2.1 c_trial.2.2.2.2.2.2.2.1 c_trial.2.2.2.2.2.2.2.2.1 c_trial.2.2.2.2.2.2.2.2.2.1 c_trial.2.2.2.2.2.2.2.2.2.2.1 c_trial.2.2.2.2.2.2.2.2.2.2.2 c_settledBy) := by
  intro n
  induction n with
  | zero => intro c_settledByKnown c_trial c_settledBy i1 i2 h; cases h
  | succ n ih =>
    intro c_settledByKnown c_trial c_settledBy i1 i2 h
    have h : bX7_sparedEvents_24 c_room c_told c_events  (fX7_sparedEvents_24 c_room c_told c_events  n) c_settledByKnown c_trial c_settledBy i1 i2 = some (o_r, o_settledByKnown, o_trial, o_settledBy) := h
    unfold bX7_sparedEvents_24 at h
    refine j_iload_n K 2 rfl dX7_sparedEvents_24 rfl ?_
    refine j_aload_n K 0 rfl dX7_sparedEvents_25 rfl ?_
    refine j_getf (C := RX7) (T := TX7) (N := 15) (ci := 7) K icX7 0 3 (List.mem_cons_of_mem _ mw_2_0) rfl rfl rfl (by decide) rfl dX7_sparedEvents_26 rfl ?_
    refine j_getf (C := RX2) (T := TX2) (N := 4) (ci := 2) K icX2 5 3 (List.mem_cons_of_mem _ mw_10_22) rfl rfl rfl (by decide) rfl dX7_sparedEvents_29 rfl ?_
    refine j_icmp_ge (tgt := 59) K dX7_sparedEvents_32 (by decide) rfl h (fun h => ?_) (fun h => ?_)
    · refine j_iconst (v := (0 : Int32)) K (by decide) dX7_sparedEvents_59 rfl ?_
      refine j_istore_n (lv' := [(2, .int (0 : Int32)), (0, .ref (a0 0)), (1, .int i1)]) K (by decide) rfl dX7_sparedEvents_60 rfl ?_
      refine j_sub [1, 2, 0] (lv' := [(0, .ref (a0 0)), (1, .int i1), (2, .int (0 : Int32))]) rfl ?_
      exact wX7_sparedEvents_61 K a0 c_finding c_courseKnown c_room c_told c_events o_r o_settledByKnown o_trial o_settledBy jF c_settledByKnown c_trial c_settledBy i1 (0 : Int32) h
    · refine j_aload_n K 0 rfl dX7_sparedEvents_35 rfl ?_
      refine j_iload_n K 1 rfl dX7_sparedEvents_36 rfl ?_
      refine j_iconst (v := (1 : Int32)) K (by decide) dX7_sparedEvents_37 rfl ?_
      refine j_iload_n K 2 rfl dX7_sparedEvents_38 rfl ?_
      refine j_ishl K dX7_sparedEvents_39 rfl ?_
      refine j_iconst (v := (-1 : Int32)) K (by decide) dX7_sparedEvents_40 rfl ?_
      refine j_ixor K dX7_sparedEvents_41 rfl ?_
      refine j_iand K dX7_sparedEvents_42 rfl ?_
      obtain ⟨r_14, c_settledByKnown_15, c_trial_16, c_settledBy_17, hc, h⟩ := bd4_some h
      refine j_callV (rest := []) (st1 := [.int r_14]) (ws' := (uX7_sparedEvents cyI cyJ cyS a0 c_room c_finding c_courseKnown c_settledByKnown_15 c_told.1 c_told.2.1 c_told.2.2.1 c_told.2.2.2 c_events.1 c_events.2.1 c_events.2.2.1 c_events.2.2.2 c_trial_16.1 c_trial_16.2.1 c_trial_16.2.2.1 c_trial_16.2.2.2.1 c_trial_16.2.2.2.2.1 c_trial_16.2.2.2.2.2.1 c_trial_16.2.2.2.2.2.2.1 c_trial_16.2.2.2.2.2.2.2.1 c_trial_16.2.2.2.2.2.2.2.2.1 c_trial_16.2.2.2.2.2.2.2.2.2.1 c_trial_16.2.2.2.2.2.2.2.2.2.2.1 c_trial_16.2.2.2.2.2.2.2.2.2.2.2 c_settledBy_17)) (T := TX7) (N := 15) (ci := 7) K (ctX7_settledWith l D cyI cyJ cyS a0 (i1 &&& (((1 : Int32) <<< (i2 &&& (31 : Int32))) ^^^ (-1 : Int32))) c_finding c_courseKnown c_room c_told c_events c_settledByKnown c_trial c_settledBy r_14 c_settledByKnown_15 c_trial_16 c_settledBy_17 hc) (gdV mcL mw_28_18 mw_28_19 mw_28_20 mw_1_2 mw_28_21) rfl ⟨rfl, rfl⟩ hyX7_settledWith ⟨Nat.le_of_ble_eq_true rfl, Nat.le_of_ble_eq_true rfl, Nat.le_of_ble_eq_true rfl, Nat.le_of_ble_eq_true rfl⟩ [0, 1, 2, 3, 4, 5, 6, 7, 8, 9, 10, 11, 12, 13, 14, 15, 16, 17, 18, 19, 20, 21] (by decide) rfl [some 0, some 1, some 2, some 3, some 4, some 5, some 6, some 7, some 8, some 9, some 10, some 11, some 12, some 13, some 14, some 15, some 16, some 17, some 18, some 19, some 20, some 21] (by decide) rfl rfl 0 rfl rfl rfl rfl (Nat.le_of_ble_eq_true rfl) dX7_sparedEvents_43 rfl rfl ?_
      refine j_if_ne (tgt := 53) K dX7_sparedEvents_46 (by decide) rfl h (fun h => ?_) (fun h => ?_)
      · refine j_iincN (lf := fun z => [(2, .int z), (0, .ref (a0 0)), (1, .int i1)]) K (v := i2 + (1 : Int32)) (k := 2) rfl rfl (by decide) (fun _ => rfl) dX7_sparedEvents_53 rfl h (fun i2_18 h => ?_)
        refine j_goto (pc' := 24) K dX7_sparedEvents_56 (by decide) ?_
        refine j_sub [1, 2, 0] (lv' := [(0, .ref (a0 0)), (1, .int i1), (2, .int i2_18)]) rfl ?_
        exact ih c_settledByKnown_15 c_trial_16 c_settledBy_17 i1 i2_18 h
      · refine j_iconst (v := (1 : Int32)) K (by decide) dX7_sparedEvents_49 rfl ?_
        refine j_iload_n K 2 rfl dX7_sparedEvents_50 rfl ?_
        refine j_ishl K dX7_sparedEvents_51 rfl ?_
        obtain ⟨e1, g1⟩ := Prod.mk.inj (Option.some.inj h)
        subst e1
        obtain ⟨e2, g2⟩ := Prod.mk.inj g1
        subst e2
        obtain ⟨e3, g3⟩ := Prod.mk.inj g2
        subst e3
        subst g3
        exact j_iret K dX7_sparedEvents_52
set_option maxRecDepth 100000 in
set_option maxHeartbeats 4000000 in
theorem ctX7_sparedEvents (l : Launch) (D : va_G) (cyI cyJ cyS : ClassId) (a0 : Nat → Nat) (c_finding : Int32) (c_courseKnown : Int32) (c_room : Int32) (c_told : jT3) (c_events : jT3) (c_settledByKnown : Int32) (c_trial : jT11) (c_settledBy : Nat → Int32) (o_r : Int32) (o_settledByKnown : Int32) (o_trial : jT11) (o_settledBy : Nat → Int32) (h : fX7_sparedEvents c_room c_told c_events c_settledByKnown c_trial c_settledBy = some (o_r, o_settledByKnown, o_trial, o_settledBy)) : jC l yX7_sparedEvents wdX7_sparedEvents rmX7_sparedEvents D vwCl (tyz cyI cyJ cyS) [.ref (a0 0)] (uX7_sparedEvents cyI cyJ cyS a0 c_room c_finding c_courseKnown c_settledByKnown c_told.1 c_told.2.1 c_told.2.2.1 c_told.2.2.2 c_events.1 c_events.2.1 c_events.2.2.1 c_events.2.2.2 c_trial.1 c_trial.2.1 c_trial.2.2.1 c_trial.2.2.2.1 c_trial.2.2.2.2.1 c_trial.2.2.2.2.2.1 c_trial.2.2.2.2.2.2.1 c_trial.2.2.2.2.2.2.2.1 c_trial.2.2.2.2.2.2.2.2.1 c_trial.2.2.2.2.2.2.2.2.2.1 c_trial.2.2.2.2.2.2.2.2.2.2.1 c_trial.2.2.2.2.2.2.2.2.2.2.2 c_settledBy) (some (.int o_r)) (uX7_sparedEvents cyI cyJ cyS a0 c_room c_finding c_courseKnown o_settledByKnown c_told.1 c_told.2.1 c_told.2.2.1 c_told.2.2.2 c_events.1 c_events.2.1 c_events.2.2.1 c_events.2.2.2 o_trial.1 o_trial.2.1 o_trial.2.2.1 o_trial.2.2.2.1 o_trial.2.2.2.2.1 o_trial.2.2.2.2.2.1 o_trial.2.2.2.2.2.2.1 o_trial.2.2.2.2.2.2.2.1 o_trial.2.2.2.2.2.2.2.2.1 o_trial.2.2.2.2.2.2.2.2.2.1 o_trial.2.2.2.2.2.2.2.2.2.2.1 o_trial.2.2.2.2.2.2.2.2.2.2.2 o_settledBy) := by
  refine jC_of (cc := cX7_sparedEvents) (nL := 5) (ret := (some .int)) (own := RX7) (lv := [(0, .ref (a0 0))]) (by decide) rfl rfl (Nat.le_of_ble_eq_true rfl) rfl ?_
  intro p e s m args below meth c A K
  unfold fX7_sparedEvents at h
  refine j_iconst (v := (1 : Int32)) K (by decide) dX7_sparedEvents_0 rfl ?_
  refine j_aload_n K 0 rfl dX7_sparedEvents_1 rfl ?_
  refine j_getf (C := RX7) (T := TX7) (N := 15) (ci := 7) K icX7 0 3 (List.mem_cons_of_mem _ mw_2_0) rfl rfl rfl (by decide) rfl dX7_sparedEvents_2 rfl ?_
  refine j_getf (C := RX2) (T := TX2) (N := 4) (ci := 2) K icX2 5 3 (List.mem_cons_of_mem _ mw_10_22) rfl rfl rfl (by decide) rfl dX7_sparedEvents_5 rfl ?_
  refine j_ishl K dX7_sparedEvents_8 rfl ?_
  refine j_iconst (v := (1 : Int32)) K (by decide) dX7_sparedEvents_9 rfl ?_
  refine j_isub K dX7_sparedEvents_10 rfl ?_
  refine j_nmI h (fun i1_1 h => ?_)
  refine j_istore_n (lv' := [(1, .int i1_1), (0, .ref (a0 0))]) K (by decide) rfl dX7_sparedEvents_11 rfl ?_
  refine j_aload_n K 1 rfl dX7_sparedEvents_12 rfl ?_
  refine j_iload_n K 0 rfl dX7_sparedEvents_13 rfl ?_
  obtain ⟨r_2, c_settledByKnown_3, c_trial_4, c_settledBy_5, hc, h⟩ := bd4_some h
  refine j_callV (rest := []) (st1 := [.int r_2]) (ws' := (uX7_sparedEvents cyI cyJ cyS a0 c_room c_finding c_courseKnown c_settledByKnown_3 c_told.1 c_told.2.1 c_told.2.2.1 c_told.2.2.2 c_events.1 c_events.2.1 c_events.2.2.1 c_events.2.2.2 c_trial_4.1 c_trial_4.2.1 c_trial_4.2.2.1 c_trial_4.2.2.2.1 c_trial_4.2.2.2.2.1 c_trial_4.2.2.2.2.2.1 c_trial_4.2.2.2.2.2.2.1 c_trial_4.2.2.2.2.2.2.2.1 c_trial_4.2.2.2.2.2.2.2.2.1 c_trial_4.2.2.2.2.2.2.2.2.2.1 c_trial_4.2.2.2.2.2.2.2.2.2.2.1 c_trial_4.2.2.2.2.2.2.2.2.2.2.2 c_settledBy_5)) (T := TX7) (N := 15) (ci := 7) K (ctX7_settledWith l D cyI cyJ cyS a0 i1_1 c_finding c_courseKnown c_room c_told c_events c_settledByKnown c_trial c_settledBy r_2 c_settledByKnown_3 c_trial_4 c_settledBy_5 hc) (gdV mcL mw_28_18 mw_28_19 mw_28_20 mw_1_2 mw_28_21) rfl ⟨rfl, rfl⟩ hyX7_settledWith ⟨Nat.le_of_ble_eq_true rfl, Nat.le_of_ble_eq_true rfl, Nat.le_of_ble_eq_true rfl, Nat.le_of_ble_eq_true rfl⟩ [0, 1, 2, 3, 4, 5, 6, 7, 8, 9, 10, 11, 12, 13, 14, 15, 16, 17, 18, 19, 20, 21] (by decide) rfl [some 0, some 1, some 2, some 3, some 4, some 5, some 6, some 7, some 8, some 9, some 10, some 11, some 12, some 13, some 14, some 15, some 16, some 17, some 18, some 19, some 20, some 21] (by decide) rfl rfl 0 rfl rfl rfl rfl (Nat.le_of_ble_eq_true rfl) dX7_sparedEvents_14 rfl rfl ?_
  refine j_if_ne (tgt := 22) K dX7_sparedEvents_17 (by decide) rfl h (fun h => ?_) (fun h => ?_)
  · refine j_iconst (v := (0 : Int32)) K (by decide) dX7_sparedEvents_22 rfl ?_
    refine j_istore_n (lv' := [(2, .int (0 : Int32)), (1, .int i1_1), (0, .ref (a0 0))]) K (by decide) rfl dX7_sparedEvents_23 rfl ?_
    refine j_sub [2, 1, 0] (lv' := [(0, .ref (a0 0)), (1, .int i1_1), (2, .int (0 : Int32))]) rfl ?_
    exact wX7_sparedEvents_24 K a0 c_finding c_courseKnown c_room c_told c_events o_r o_settledByKnown o_trial o_settledBy jF c_settledByKnown_3 c_trial_4 c_settledBy_5 i1_1 (0 : Int32) h
  · refine j_iconst (v := (0 : Int32)) K (by decide) dX7_sparedEvents_20 rfl ?_
    obtain ⟨e1, g1⟩ := Prod.mk.inj (Option.some.inj h)
    subst e1
    obtain ⟨e2, g2⟩ := Prod.mk.inj g1
    subst e2
    obtain ⟨e3, g3⟩ := Prod.mk.inj g2
    subst e3
    subst g3
    exact j_iret K dX7_sparedEvents_21
end GEN
