section GEN
variable {p : Program} {l : Launch} {e : Env} {s : State} {m : MethodId} {args : Array Value} {below : List Frame} {meth : Method} {c : Code} {A : Nat → Prop} {D : va_G} {cyI cyJ cyS : ClassId}
abbrev uX7_ask (cyI cyJ cyS : ClassId) (a0 : Nat → Nat) (c_room : Int32) (c_finding : Int32) (c_courseKnown : Int32) (c_settledByKnown : Int32) (c_told_size : Int32) (c_told_sort : Nat → Int32) (c_told_paid : Nat → Int32) (c_told_wage : Nat → Int32) (c_others_size : Int32) (c_others_sort : Nat → Int32) (c_others_paid : Nat → Int32) (c_others_wage : Nat → Int32) (c_events_size : Int32) (c_events_kind : Nat → Int32) (c_events_month : Nat → Int32) (c_events_number : Nat → Int32) (c_seen_size : Int32) (c_seen_month : Nat → Int32) (c_seen_tenant : Nat → Int32) (c_seen_floor : Nat → Int32) (c_trial_size : Int32) (c_trial_settled : Nat → Int32) (c_trial_falls : Nat → Int32) (c_trial_passed : Nat → Int32) (c_trial_floors : Nat → Int32) (c_trial_lefts : Nat → Int32) (c_trial_fallers : Nat → Int32) (c_trial_floor : Nat → Int32) (c_trial_before : Nat → Int32) (c_trial_left : Nat → Int32) (c_trial_order : Nat → Int32) (c_trial_taken : Nat → Int32) (c_views : Nat → Int32) : va_W := [((a0 0), .inr (7, [.ref (a0 1), .ref (a0 3), .ref (a0 7), .ref (a0 11), .ref (a0 15), .ref (a0 19), .ref (a0 31), .ref (a0 43), .ref (a0 44), .ref (a0 53), .ref (a0 54), .int c_room, .int c_finding, .int c_courseKnown, .int c_settledByKnown])), ((a0 3), .inr (5, [.ref (a0 4), .ref (a0 5), .ref (a0 6), .int c_told_size])), ((a0 4), .inl (cyI, 8, .inl c_told_sort)), ((a0 5), .inl (cyI, 8, .inl c_told_paid)), ((a0 6), .inl (cyI, 8, .inl c_told_wage)), ((a0 7), .inr (5, [.ref (a0 8), .ref (a0 9), .ref (a0 10), .int c_others_size])), ((a0 8), .inl (cyI, 8, .inl c_others_sort)), ((a0 9), .inl (cyI, 8, .inl c_others_paid)), ((a0 10), .inl (cyI, 8, .inl c_others_wage)), ((a0 11), .inr (2, [.ref (a0 12), .ref (a0 13), .ref (a0 14), .int c_events_size])), ((a0 12), .inl (cyI, 8, .inl c_events_kind)), ((a0 13), .inl (cyI, 8, .inl c_events_month)), ((a0 14), .inl (cyI, 8, .inl c_events_number)), ((a0 15), .inr (3, [.ref (a0 16), .ref (a0 17), .ref (a0 18), .int c_seen_size])), ((a0 16), .inl (cyI, 8, .inl c_seen_month)), ((a0 17), .inl (cyI, 8, .inl c_seen_tenant)), ((a0 18), .inl (cyI, 8, .inl c_seen_floor)), ((a0 31), .inr (1, [.int c_trial_size, .ref (a0 32), .ref (a0 33), .ref (a0 34), .ref (a0 35), .ref (a0 36), .ref (a0 37), .ref (a0 38), .ref (a0 39), .ref (a0 40), .ref (a0 41), .ref (a0 42)])), ((a0 32), .inl (cyI, 8, .inl c_trial_settled)), ((a0 33), .inl (cyI, 8, .inl c_trial_falls)), ((a0 34), .inl (cyI, 8, .inl c_trial_passed)), ((a0 35), .inl (cyI, 192, .inl c_trial_floors)), ((a0 36), .inl (cyI, 192, .inl c_trial_lefts)), ((a0 37), .inl (cyI, 24, .inl c_trial_fallers)), ((a0 38), .inl (cyI, 8, .inl c_trial_floor)), ((a0 39), .inl (cyI, 8, .inl c_trial_before)), ((a0 40), .inl (cyI, 8, .inl c_trial_left)), ((a0 41), .inl (cyI, 8, .inl c_trial_order)), ((a0 42), .inl (cyI, 13, .inl c_trial_taken)), ((a0 54), .inl (cyI, 240, .inl c_views))]
abbrev rmX7_ask : Room := { frames := 5, cells := 0, slots := 0, locals := 120 }
abbrev wdX7_ask : List Cond := .code yX7_ask cX7_ask 7 (some .int) :: wsL_law
theorem hyX7_ask : yX7_ask.cls = RX7 ∧ yX7_ask.cls ≠ "java/lang/invoke/MethodHandle" ∧ yX7_ask.cls ≠ "java/lang/invoke/VarHandle" ∧ (parseMethodDescriptor yX7_ask.desc).map (fun d => d.parameters.length) = some 1 := by decide +kernel
set_option maxRecDepth 100000 in
set_option maxHeartbeats 4000000 in
theorem wX7_ask_56 (K : jK p s m args meth c A D vwCl (tyz cyI cyJ cyS) cX7_ask 7 RX7 wdX7_ask (some .int)) (a0 : Nat → Nat) (c_finding : Int32) (c_courseKnown : Int32) (c_settledByKnown : Int32) (i1 : Int32) (c_room : Int32) (c_told : jT3) (c_events : jT3) (c_seen : jT3) (o_r : Int32) (o_others : jT3) (o_trial : jT11) (o_views : Nat → Int32)  (q_26 : jT3 → jT11 → (Nat → Int32) → Int32 → Int32 → Int32 → Int32 → (Option (Int32 × jT3 × jT11 × (Nat → Int32)))) (hq_26 : ∀ (c_others : jT3) (c_trial : jT11) (c_views : Nat → Int32) (i2 : Int32) (i3 : Int32) (i4 : Int32) (i5 : Int32), q_26 c_others c_trial c_views i2 i3 i4 i5 = some (o_r, o_others, o_trial, o_views) → jw p l e rmX7_ask s m args below meth c (jQ below args s A D vwCl (tyz cyI cyJ cyS) 0 0 (some (.int o_r)) (uX7_ask cyI cyJ cyS a0 c_room c_finding c_courseKnown c_settledByKnown c_told.1 c_told.2.1 c_told.2.2.1 c_told.2.2.2 o_others.1 o_others.2.1 o_others.2.2.1 o_others.2.2.2 c_events.1 c_events.2.1 c_events.2.2.1 c_events.2.2.2 c_seen.1 c_seen.2.1 c_seen.2.2.1 c_seen.2.2.2 o_trial.1 o_trial.2.1 o_trial.2.2.1 o_trial.2.2.2.1 o_trial.2.2.2.2.1 o_trial.2.2.2.2.2.1 o_trial.2.2.2.2.2.2.1 o_trial.2.2.2.2.2.2.2.1 o_trial.2.2.2.2.2.2.2.2.1 o_trial.2.2.2.2.2.2.2.2.2.1 o_trial.2.2.2.2.2.2.2.2.2.2.1 o_trial.2.2.2.2.2.2.2.2.2.2.2 o_views)) A D vwCl 7 0 0 26 [(0, .ref (a0 0)), (2, .int i2), (3, .int i3), (4, .int i4), (5, .int i5)] [] (uX7_ask cyI cyJ cyS a0 c_room c_finding c_courseKnown c_settledByKnown c_told.1 c_told.2.1 c_told.2.2.1 c_told.2.2.2 c_others.1 c_others.2.1 c_others.2.2.1 c_others.2.2.2 c_events.1 c_events.2.1 c_events.2.2.1 c_events.2.2.2 c_seen.1 c_seen.2.1 c_seen.2.2.1 c_seen.2.2.2 c_trial.1 c_trial.2.1 c_trial.2.2.1 c_trial.2.2.2.1 c_trial.2.2.2.2.1 c_trial.2.2.2.2.2.1 c_trial.2.2.2.2.2.2.1 c_trial.2.2.2.2.2.2.2.1 c_trial.2.2.2.2.2.2.2.2.1 c_trial.2.2.2.2.2.2.2.2.2.1 c_trial.2.2.2.2.2.2.2.2.2.2.1 c_trial.2.2.2.2.2.2.2.2.2.2.2 c_views)) : ∀ (c_others : jT3) (c_trial : jT11) (c_views : Nat → Int32) (i2 : Int32) (i3 : Int32) (i4 : Int32) (i5 : Int32), fX7_ask_56 i1 c_room c_told c_events c_seen q_26 c_others c_trial c_views i2 i3 i4 i5 = some (o_r, o_others, o_trial, o_views) → jw p l e rmX7_ask s m args below meth c (jQ below args s A D vwCl (tyz cyI cyJ cyS) 0 0 (some (.int o_r)) (uX7_ask cyI cyJ cyS a0 c_room c_finding c_courseKnown c_settledByKnown c_told.1 c_told.2.1 c_told.2.2.1 c_told.2.2.2 o_others.1 o_others.2.1 o_others.2.2.1 o_others.2.2.2 c_events.1 c_events.2.1 c_events.2.2.1 c_events.2.2.2 c_seen.1 c_seen.2.1 c_seen.2.2.1 c_seen.2.2.2 o_trial.1 o_trial.2.1 o_trial.2.2.1 o_trial.2.2.2.1 o_trial.2.2.2.2.1 o_trial.2.2.2.2.2.1 o_trial.2.2.2.2.2.2.1 o_trial.2.2.2.2.2.2.2.1 o_trial.2.2.2.2.2.2.2.2.1 o_trial.2.2.2.2.2.2.2.2.2.1 o_trial.2.2.2.2.2.2.2.2.2.2.1 o_trial.2.2.2.2.2.2.2.2.2.2.2 o_views)) A D vwCl 7 0 0 56 [(0, .ref (a0 0)), (2, .int i2), (3, .int i3), (4, .int i4), (5, .int i5)] [] (uX7_ask cyI cyJ cyS a0 c_room c_finding c_courseKnown c_settledByKnown c_told.1 c_told.2.1 c_told.2.2.1 c_told.2.2.2 c_others.1 c_others.2.1 c_others.2.2.1 c_others.2.2.2 c_events.1 c_events.2.1 c_events.2.2.1 c_events.2.2.2 c_seen.1 c_seen.2.1 c_seen.2.2.1 c_seen.2.2.2 c_trial.1 c_trial.2.1 c_trial.2.2.1 c_trial.2.2.2.1 c_trial.2.2.2.2.1 c_trial.2.2.2.2.2.1 c_trial.2.2.2.2.2.2.1 c_trial.2.2.2.2.2.2.2.1 c_trial.2.2.2.2.2.2.2.2.1 c_trial.2.2.2.2.2.2.2.2.2.1 c_trial.2.2.2.2.2.2.2.2.2.2.1 c_trial.2.2.2.2.2.2.2.2.2.2.2 c_views) := by
  intro c_others c_trial c_views i2 i3 i4 i5 h
  unfold fX7_ask_56 at h
  refine j_iincN (lf := fun z => [(5, .int z), (0, .ref (a0 0)), (2, .int i2), (3, .int i3), (4, .int i4)]) K (v := i5 + (1 : Int32)) (k := 4) rfl rfl (by decide) (fun _ => rfl) dX7_ask_56 rfl h (fun i5_7 h => ?_)
  refine j_goto (pc' := 26) K dX7_ask_59 (by decide) ?_
  refine j_sub [1, 2, 3, 4, 0] (lv' := [(0, .ref (a0 0)), (2, .int i2), (3, .int i3), (4, .int i4), (5, .int i5_7)]) rfl ?_
  exact hq_26 c_others c_trial c_views i2 i3 i4 i5_7 h
set_option maxRecDepth 100000 in
set_option maxHeartbeats 4000000 in
theorem wX7_ask_26 (K : jK p s m args meth c A D vwCl (tyz cyI cyJ cyS) cX7_ask 7 RX7 wdX7_ask (some .int)) (a0 : Nat → Nat) (c_finding : Int32) (c_courseKnown : Int32) (c_settledByKnown : Int32) (i1 : Int32) (c_room : Int32) (c_told : jT3) (c_events : jT3) (c_seen : jT3) (o_r : Int32) (o_others : jT3) (o_trial : jT11) (o_views : Nat → Int32)   : ∀ (n : Nat) (c_others : jT3) (c_trial : jT11) (c_views : Nat → Int32) (i2 : Int32) (i3 : Int32) (i4 : Int32) (i5 : Int32), fX7_ask_26 i1 c_room c_told c_events c_seen  n c_others c_trial c_views i2 i3 i4 i5 = some (o_r, o_others, o_trial, o_views) → jw p l e rmX7_ask s m args below meth c (jQ below args s A D vwCl (tyz cyI cyJ cyS) 0 0 (some (.int o_r)) (uX7_ask cyI cyJ cyS a0 c_room c_finding c_courseKnown c_settledByKnown c_told.1 c_told.2.1 c_told.2.2.1 c_told.2.2.2 o_others.1 o_others.2.1 o_others.2.2.1 o_others.2.2.2 c_events.1 c_events.2.1 c_events.2.2.1 c_events.2.2.2 c_seen.1 c_seen.2.1 c_seen.2.2.1 c_seen.2.2.2 o_trial.1 o_trial.2.1 o_trial.2.2.1 o_trial.2.2.2.1 o_trial.2.2.2.2.1 o_trial.2.2.2.2.2.1 o_trial.2.2.2.2.2.2.1 o_trial.2.2.2.2.2.2.2.1 o_trial.2.2.2.2.2.2.2.2.1 o_trial.2.2.2.2.2.2.2.2.2.1 o_trial.2.2.2.2.2.2.2.2.2.2.1 o_trial.2.2.2.2.2.2.2.2.2.2.2 o_views)) A D vwCl 7 0 0 26 [(0, .ref (a0 0)), (2, .int i2), (3, .int i3), (4, .int i4), (5, .int i5)] [] (uX7_ask cyI cyJ cyS a0 c_room c_finding c_courseKnown c_settledByKnown c_told.1 c_told.2.1 c_told.2.2.1 c_told.2.2.2 c_others.1 c_others.2.1 c_others.2.2.1 c_others.2.2.2 c_events.1 c_events.2.1 c_events.2.2.1 c_events.2.2.2 c_seen.1 c_seen.2.1 c_seen.2.2.1 c_seen.2.2.2 c_trial.1 c_trial.2.1 c_trial.2.2.1 c_trial.2.2.2.1 c_trial.2.2.2.2.1 c_trial.2.2.2.2.2.1 c_trial.2.2.2.2.2.2.1 c_trial.2.2.2.2.2.2.2.1 c_trial.2.2.2.2.2.2.2.2.1 c_trial.2.2.2.2.2.2.2.2.2.1 c_trial.2.2.2.2.2.2.2.2.2.2.1 c_trial.2.2.2.2.2.2.2.2.2.2.2 c_views) := by
  intro n
  induction n with
  | zero => intro c_others c_trial c_views i2 i3 i4 i5 h; cases h
  | succ n ih =>
    intro c_others c_trial c_views i2 i3 i4 i5 h
    have h : bX7_ask_26 i1 c_room c_told c_events c_seen  (fX7_ask_26 i1 c_room c_told c_events c_seen  n) c_others c_trial c_views i2 i3 i4 i5 = some (o_r, o_others, o_trial, o_views) := h
    unfold bX7_ask_26 at h
    refine j_iload K 4 rfl dX7_ask_26 rfl ?_
    refine j_bipush (v := (24 : Int32)) K (by decide) dX7_ask_28 rfl ?_
    refine j_icmp_ge (tgt := 62) K dX7_ask_30 (by decide) rfl h (fun h => ?_) (fun h => ?_)
    · refine j_iload_n K 2 rfl dX7_ask_62 rfl ?_
      obtain ⟨e1, g1⟩ := Prod.mk.inj (Option.some.inj h)
      subst e1
      obtain ⟨e2, g2⟩ := Prod.mk.inj g1
      subst e2
      obtain ⟨e3, g3⟩ := Prod.mk.inj g2
      subst e3
      subst g3
      exact j_iret K dX7_ask_63
    · refine j_aload_n K 0 rfl dX7_ask_33 rfl ?_
      refine j_iload_n K 1 rfl dX7_ask_34 rfl ?_
      refine j_iload K 4 rfl dX7_ask_35 rfl ?_
      obtain ⟨r_6, hc, h⟩ := bd1_some h
      refine j_callV (rest := []) (st1 := [.int r_6]) (ws' := (uX7_ask cyI cyJ cyS a0 c_room c_finding c_courseKnown c_settledByKnown c_told.1 c_told.2.1 c_told.2.2.1 c_told.2.2.2 c_others.1 c_others.2.1 c_others.2.2.1 c_others.2.2.2 c_events.1 c_events.2.1 c_events.2.2.1 c_events.2.2.2 c_seen.1 c_seen.2.1 c_seen.2.2.1 c_seen.2.2.2 c_trial.1 c_trial.2.1 c_trial.2.2.1 c_trial.2.2.2.1 c_trial.2.2.2.2.1 c_trial.2.2.2.2.2.1 c_trial.2.2.2.2.2.2.1 c_trial.2.2.2.2.2.2.2.1 c_trial.2.2.2.2.2.2.2.2.1 c_trial.2.2.2.2.2.2.2.2.2.1 c_trial.2.2.2.2.2.2.2.2.2.2.1 c_trial.2.2.2.2.2.2.2.2.2.2.2 c_views)) (T := TX7) (N := 15) (ci := 7) K (ctX7_greatestAlike l D cyI cyJ cyS a0 i2 i5 c_room c_finding c_courseKnown c_settledByKnown c_views r_6 hc) (gdV mcL mw_33_9 mw_33_10 mw_33_11 mw_1_2 mw_33_12) rfl ⟨rfl, rfl⟩ hyX7_greatestAlike ⟨Nat.le_of_ble_eq_true rfl, Nat.le_of_ble_eq_true rfl, Nat.le_of_ble_eq_true rfl, Nat.le_of_ble_eq_true rfl⟩ [0, 29] (by decide) rfl [some 0, none, none, none, none, none, none, none, none, none, none, none, none, none, none, none, none, none, none, none, none, none, none, none, none, none, none, none, none, some 1] (by decide) rfl rfl 0 rfl rfl rfl rfl (Nat.le_of_ble_eq_true rfl) dX7_ask_37 rfl rfl ?_
      refine j_istore (lv' := [(6, .int r_6), (0, .ref (a0 0)), (2, .int i2), (3, .int i3), (4, .int i4), (5, .int i5)]) K (by decide) rfl dX7_ask_40 rfl ?_
      refine j_iload K 0 rfl dX7_ask_42 rfl ?_
      refine j_iload K 4 rfl dX7_ask_44 rfl ?_
      refine j_icmp_ge (tgt := 56) K dX7_ask_46 (by decide) rfl h (fun h => ?_) (fun h => ?_)
      · refine j_sub [1, 2, 3, 4, 5] (lv' := [(0, .ref (a0 0)), (2, .int i2), (3, .int i3), (4, .int i4), (5, .int i5)]) rfl ?_
        exact wX7_ask_56 K a0 c_finding c_courseKnown c_settledByKnown i1 c_room c_told c_events c_seen o_r o_others o_trial o_views (fX7_ask_26 i1 c_room c_told c_events c_seen n) (fun z0 z1 z2 z3 z4 z5 z6 hq => ih z0 z1 z2 z3 z4 z5 z6 hq) c_others c_trial c_views i2 i3 i4 i5 h
      · refine j_iload K 0 rfl dX7_ask_49 rfl ?_
        refine j_istore (lv' := [(4, .int r_6), (6, .int r_6), (0, .ref (a0 0)), (2, .int i2), (3, .int i3), (5, .int i5)]) K (by decide) rfl dX7_ask_51 rfl ?_
        refine j_iload K 5 rfl dX7_ask_53 rfl ?_
        refine j_istore_n (lv' := [(3, .int i5), (4, .int r_6), (6, .int r_6), (0, .ref (a0 0)), (2, .int i2), (5, .int i5)]) K (by decide) rfl dX7_ask_55 rfl ?_
        refine j_sub [3, 4, 0, 1, 5] (lv' := [(0, .ref (a0 0)), (2, .int i2), (3, .int i5), (4, .int r_6), (5, .int i5)]) rfl ?_
        exact wX7_ask_56 K a0 c_finding c_courseKnown c_settledByKnown i1 c_room c_told c_events c_seen o_r o_others o_trial o_views (fX7_ask_26 i1 c_room c_told c_events c_seen n) (fun z0 z1 z2 z3 z4 z5 z6 hq => ih z0 z1 z2 z3 z4 z5 z6 hq) c_others c_trial c_views i2 i5 r_6 i5 h
set_option maxRecDepth 100000 in
set_option maxHeartbeats 4000000 in
theorem ctX7_ask (l : Launch) (D : va_G) (cyI cyJ cyS : ClassId) (a0 : Nat → Nat) (i1 : Int32) (c_finding : Int32) (c_courseKnown : Int32) (c_settledByKnown : Int32) (c_room : Int32) (c_told : jT3) (c_events : jT3) (c_seen : jT3) (c_others : jT3) (c_trial : jT11) (c_views : Nat → Int32) (o_r : Int32) (o_others : jT3) (o_trial : jT11) (o_views : Nat → Int32) (h : fX7_ask i1 c_room c_told c_events c_seen c_others c_trial c_views = some (o_r, o_others, o_trial, o_views)) : jC l yX7_ask wdX7_ask rmX7_ask D vwCl (tyz cyI cyJ cyS) [.ref (a0 0), .int i1] (uX7_ask cyI cyJ cyS a0 c_room c_finding c_courseKnown c_settledByKnown c_told.1 c_told.2.1 c_told.2.2.1 c_told.2.2.2 c_others.1 c_others.2.1 c_others.2.2.1 c_others.2.2.2 c_events.1 c_events.2.1 c_events.2.2.1 c_events.2.2.2 c_seen.1 c_seen.2.1 c_seen.2.2.1 c_seen.2.2.2 c_trial.1 c_trial.2.1 c_trial.2.2.1 c_trial.2.2.2.1 c_trial.2.2.2.2.1 c_trial.2.2.2.2.2.1 c_trial.2.2.2.2.2.2.1 c_trial.2.2.2.2.2.2.2.1 c_trial.2.2.2.2.2.2.2.2.1 c_trial.2.2.2.2.2.2.2.2.2.1 c_trial.2.2.2.2.2.2.2.2.2.2.1 c_trial.2.2.2.2.2.2.2.2.2.2.2 c_views) (some (.int o_r)) (uX7_ask cyI cyJ cyS a0 c_room c_finding c_courseKnown c_settledByKnown c_told.1 c_told.2.1 c_told.2.2.1 c_told.2.2.2 o_others.1 o_others.2.1 o_others.2.2.1 o_others.2.2.2 c_events.1 c_events.2.1 c_events.2.2.1 c_events.2.2.2 c_seen.1 c_seen.2.1 c_seen.2.2.1 c_seen.2.2.2 o_trial.1 o_trial.2.1 o_trial.2.2.1 o_trial.2.2.2.1 o_trial.2.2.2.2.1 o_trial.2.2.2.2.2.1 o_trial.2.2.2.2.2.2.1 o_trial.2.2.2.2.2.2.2.1 o_trial.2.2.2.2.2.2.2.2.1 o_trial.2.2.2.2.2.2.2.2.2.1 o_trial.2.2.2.2.2.2.2.2.2.2.1 o_trial.2.2.2.2.2.2.2.2.2.2.2 o_views) := by
  refine jC_of (cc := cX7_ask) (nL := 7) (ret := (some .int)) (own := RX7) (lv := [(0, .ref (a0 0)), (1, .int i1)]) (by decide) rfl rfl (Nat.le_of_ble_eq_true rfl) rfl ?_
  intro p e s m args below meth c A K
  unfold fX7_ask at h
  refine j_aload_n K 0 rfl dX7_ask_0 rfl ?_
  refine j_iload_n K 1 rfl dX7_ask_1 rfl ?_
  obtain ⟨r_1, hc, h⟩ := bd1_some h
  refine j_callV (rest := []) (st1 := [.int r_1]) (ws' := (uX7_ask cyI cyJ cyS a0 c_room c_finding c_courseKnown c_settledByKnown c_told.1 c_told.2.1 c_told.2.2.1 c_told.2.2.2 c_others.1 c_others.2.1 c_others.2.2.1 c_others.2.2.2 c_events.1 c_events.2.1 c_events.2.2.1 c_events.2.2.2 c_seen.1 c_seen.2.1 c_seen.2.2.1 c_seen.2.2.2 c_trial.1 c_trial.2.1 c_trial.2.2.1 c_trial.2.2.2.1 c_trial.2.2.2.2.1 c_trial.2.2.2.2.2.1 c_trial.2.2.2.2.2.2.1 c_trial.2.2.2.2.2.2.2.1 c_trial.2.2.2.2.2.2.2.2.1 c_trial.2.2.2.2.2.2.2.2.2.1 c_trial.2.2.2.2.2.2.2.2.2.2.1 c_trial.2.2.2.2.2.2.2.2.2.2.2 c_views)) (T := TX7) (N := 15) (ci := 7) K (ctX7_isTenant l D cyI cyJ cyS a0 i1 c_room c_finding c_courseKnown c_settledByKnown c_told.1 r_1 hc) (gdV mcL mw_9_19 mw_9_20 mw_9_21 mw_1_2 mw_9_22) rfl ⟨rfl, rfl⟩ hyX7_isTenant ⟨Nat.le_of_ble_eq_true rfl, Nat.le_of_ble_eq_true rfl, Nat.le_of_ble_eq_true rfl, Nat.le_of_ble_eq_true rfl⟩ [0, 1] (by decide) rfl [some 0, some 1, none, none, none, none, none, none, none, none, none, none, none, none, none, none, none, none, none, none, none, none, none, none, none, none, none, none, none, none] (by decide) rfl rfl 0 rfl rfl rfl rfl (Nat.le_of_ble_eq_true rfl) dX7_ask_2 rfl rfl ?_
  refine j_if_ne (tgt := 11) K dX7_ask_5 (by decide) rfl h (fun h => ?_) (fun h => ?_)
  · refine j_aload_n K 0 rfl dX7_ask_11 rfl ?_
    refine j_iload_n K 1 rfl dX7_ask_12 rfl ?_
    obtain ⟨r_2, c_others_3, c_trial_4, c_views_5, hc, h⟩ := bd4_some h
    refine j_callV (rest := []) (st1 := [.int r_2]) (ws' := (uX7_ask cyI cyJ cyS a0 c_room c_finding c_courseKnown c_settledByKnown c_told.1 c_told.2.1 c_told.2.2.1 c_told.2.2.2 c_others_3.1 c_others_3.2.1 c_others_3.2.2.1 c_others_3.2.2.2 c_events.1 c_events.2.1 c_events.2.2.1 c_events.2.2.2 c_seen.1 c_seen.2.1 c_seen.2.2.1 c_seen.2.2.2 c_trial_4.1 c_trial_4.2.1 c_trial_4.2.2.1 c_trial_4.2.2.2.1 c_trial_4.2.2.2.2.1 c_trial_4.2.2.2.2.2.1 c_trial_4.2.2.2.2.2.2.1 c_trial_4.2.2.2.2.2.2.2.1 c_trial_4.2.2.2.2.2.2.2.2.1 c_trial_4.2.2.2.2.2.2.2.2.2.1 c_trial_4.2.2.2.2.2.2.2.2.2.2.1 c_trial_4.2.2.2.2.2.2.2.2.2.2.2 c_views_5)) (T := TX7) (N := 15) (ci := 7) K (ctX7_seenWages l D cyI cyJ cyS a0 i1 c_finding c_courseKnown c_settledByKnown c_room c_told c_events c_seen c_others c_trial c_views r_2 c_others_3 c_trial_4 c_views_5 hc) (gdV mcL mw_31_17 mw_31_18 mw_31_19 mw_1_2 mw_31_20) rfl ⟨rfl, rfl⟩ hyX7_seenWages ⟨Nat.le_of_ble_eq_true rfl, Nat.le_of_ble_eq_true rfl, Nat.le_of_ble_eq_true rfl, Nat.le_of_ble_eq_true rfl⟩ [0, 1, 2, 3, 4, 5, 6, 7, 8, 9, 10, 11, 12, 13, 14, 15, 16, 17, 18, 19, 20, 21, 22, 23, 24, 25, 26, 27, 28, 29] (by decide) rfl [some 0, some 1, some 2, some 3, some 4, some 5, some 6, some 7, some 8, some 9, some 10, some 11, some 12, some 13, some 14, some 15, some 16, some 17, some 18, some 19, some 20, some 21, some 22, some 23, some 24, some 25, some 26, some 27, some 28, some 29] (by decide) rfl rfl 0 rfl rfl rfl rfl (Nat.le_of_ble_eq_true rfl) dX7_ask_13 rfl rfl ?_
    refine j_istore_n (lv' := [(2, .int r_2), (0, .ref (a0 0)), (1, .int i1)]) K (by decide) rfl dX7_ask_16 rfl ?_
    refine j_iconst (v := (0 : Int32)) K (by decide) dX7_ask_17 rfl ?_
    refine j_istore_n (lv' := [(3, .int (0 : Int32)), (2, .int r_2), (0, .ref (a0 0)), (1, .int i1)]) K (by decide) rfl dX7_ask_18 rfl ?_
    refine j_bipush (v := (11 : Int32)) K (by decide) dX7_ask_19 rfl ?_
    refine j_istore (lv' := [(4, .int (11 : Int32)), (3, .int (0 : Int32)), (2, .int r_2), (0, .ref (a0 0)), (1, .int i1)]) K (by decide) rfl dX7_ask_21 rfl ?_
    refine j_iconst (v := (0 : Int32)) K (by decide) dX7_ask_23 rfl ?_
    refine j_istore (lv' := [(5, .int (0 : Int32)), (4, .int (11 : Int32)), (3, .int (0 : Int32)), (2, .int r_2), (0, .ref (a0 0)), (1, .int i1)]) K (by decide) rfl dX7_ask_24 rfl ?_
    refine j_sub [4, 3, 2, 1, 0] (lv' := [(0, .ref (a0 0)), (2, .int r_2), (3, .int (0 : Int32)), (4, .int (11 : Int32)), (5, .int (0 : Int32))]) rfl ?_
    exact wX7_ask_26 K a0 c_finding c_courseKnown c_settledByKnown i1 c_room c_told c_events c_seen o_r o_others o_trial o_views jF c_others_3 c_trial_4 c_views_5 r_2 (0 : Int32) (11 : Int32) (0 : Int32) h
  · refine j_bipush (v := (-2 : Int32)) K (by decide) dX7_ask_8 rfl ?_
    obtain ⟨e1, g1⟩ := Prod.mk.inj (Option.some.inj h)
    subst e1
    obtain ⟨e2, g2⟩ := Prod.mk.inj g1
    subst e2
    obtain ⟨e3, g3⟩ := Prod.mk.inj g2
    subst e3
    subst g3
    exact j_iret K dX7_ask_10
abbrev uX7_commonDivisor (cyI cyJ cyS : ClassId) : va_W := []
abbrev rmX7_commonDivisor : Room := { frames := 1, cells := 0, slots := 0, locals := 23 }
abbrev wdX7_commonDivisor : List Cond := .code yX7_commonDivisor cX7_commonDivisor 11 (some .long) :: wsL_law
theorem hzX7_commonDivisor : yX7_commonDivisor.cls ≠ "java/lang/invoke/MethodHandle" ∧ yX7_commonDivisor.cls ≠ "java/lang/invoke/VarHandle" ∧ (parseMethodDescriptor yX7_commonDivisor.desc).map (fun d => d.parameters.length) = some 2 := by decide +kernel
set_option maxRecDepth 100000 in
set_option maxHeartbeats 4000000 in
theorem wX7_commonDivisor_45 (K : jK p s m args meth c A D vwCl (tyz cyI cyJ cyS) cX7_commonDivisor 11 RX7 wdX7_commonDivisor (some .long))   (l0 : Int64) (l2 : Int64) (o_r : Int64)   : ∀ (l4 : Int64), fX7_commonDivisor_45 l0 l2  l4 = some (o_r) → jw p l e rmX7_commonDivisor s m args below meth c (jQ below args s A D vwCl (tyz cyI cyJ cyS) 0 0 (some (.long o_r)) (uX7_commonDivisor cyI cyJ cyS )) A D vwCl 11 0 0 45 [(4, .long l4)] [] (uX7_commonDivisor cyI cyJ cyS ) := by
  intro l4 h
  unfold fX7_commonDivisor_45 at h
  refine j_lconst (v := (1 : Int64)) K (by decide) dX7_commonDivisor_45 rfl ?_
  refine j_lload K 0 rfl dX7_commonDivisor_46 rfl ?_
  refine j_mmaxl K (List.mem_cons_of_mem _ mw_34_14) (List.mem_cons_of_mem _ mw_34_15) (List.mem_cons_of_mem _ mw_14_16) (List.mem_cons_of_mem _ mw_34_16) ⟨Nat.le_of_ble_eq_true rfl, Nat.le_of_ble_eq_true rfl, Nat.le_of_ble_eq_true rfl, Nat.le_of_ble_eq_true rfl⟩ dX7_commonDivisor_48 rfl ?_
  have h := Option.some.inj h
  subst h
  exact j_lret K dX7_commonDivisor_51
set_option maxRecDepth 100000 in
set_option maxHeartbeats 4000000 in
theorem wX7_commonDivisor_9 (K : jK p s m args meth c A D vwCl (tyz cyI cyJ cyS) cX7_commonDivisor 11 RX7 wdX7_commonDivisor (some .long))   (l0 : Int64) (l2 : Int64) (o_r : Int64)   : ∀ (n : Nat) (l4 : Int64) (l6 : Int64) (i8 : Int32), fX7_commonDivisor_9 l0 l2  n l4 l6 i8 = some (o_r) → jw p l e rmX7_commonDivisor s m args below meth c (jQ below args s A D vwCl (tyz cyI cyJ cyS) 0 0 (some (.long o_r)) (uX7_commonDivisor cyI cyJ cyS )) A D vwCl 11 0 0 9 [(4, .long l4), (6, .long l6), (8, .int i8)] [] (uX7_commonDivisor cyI cyJ cyS ) := by
  intro n
  induction n with
  | zero => intro l4 l6 i8 h; cases h
  | succ n ih =>
    intro l4 l6 i8 h
    have h : bX7_commonDivisor_9 l0 l2  (fX7_commonDivisor_9 l0 l2  n) l4 l6 i8 = some (o_r) := h
    unfold bX7_commonDivisor_9 at h
    refine j_iload K 2 rfl dX7_commonDivisor_9 rfl ?_
    refine j_sipush (v := (200 : Int32)) K (by decide) dX7_commonDivisor_11 rfl ?_
    refine j_icmp_ge (tgt := 45) K dX7_commonDivisor_14 (by decide) rfl h (fun h => ?_) (fun h => ?_)
    · refine j_sub [0] (lv' := [(4, .long l4)]) rfl ?_
      exact wX7_commonDivisor_45 K l0 l2 o_r l4 h
    · refine j_lload K 1 rfl dX7_commonDivisor_17 rfl ?_
      refine j_lconst (v := (0 : Int64)) K (by decide) dX7_commonDivisor_19 rfl ?_
      refine j_lcmp K dX7_commonDivisor_20 rfl ?_
      refine j_if_le (tgt := 45) K dX7_commonDivisor_21 (by decide) rfl h (fun h => ?_) (fun h => ?_)
      · refine j_sub [0] (lv' := [(4, .long l4)]) rfl ?_
        exact wX7_commonDivisor_45 K l0 l2 o_r l4 h
      · refine j_lload K 0 rfl dX7_commonDivisor_24 rfl ?_
        refine j_lload K 1 rfl dX7_commonDivisor_26 rfl ?_
        obtain ⟨hz, h⟩ := ckZL_some h
        refine j_lrem K hz dX7_commonDivisor_28 rfl ?_
        refine j_nmL h (fun l9_1 h => ?_)
        refine j_lstore (lv' := [(9, .long l9_1), (4, .long l4), (6, .long l6), (8, .int i8)]) K (by decide) rfl dX7_commonDivisor_29 rfl ?_
        refine j_lload K 2 rfl dX7_commonDivisor_31 rfl ?_
        refine j_lstore (lv' := [(4, .long l6), (9, .long l9_1), (6, .long l6), (8, .int i8)]) K (by decide) rfl dX7_commonDivisor_33 rfl ?_
        refine j_lload K 1 rfl dX7_commonDivisor_35 rfl ?_
        refine j_lstore (lv' := [(6, .long l9_1), (4, .long l6), (9, .long l9_1), (8, .int i8)]) K (by decide) rfl dX7_commonDivisor_37 rfl ?_
        refine j_iincN (lf := fun z => [(8, .int z), (6, .long l9_1), (4, .long l6), (9, .long l9_1)]) K (v := i8 + (1 : Int32)) (k := 3) rfl rfl (by decide) (fun _ => rfl) dX7_commonDivisor_39 rfl h (fun i8_2 h => ?_)
        refine j_goto (pc' := 9) K dX7_commonDivisor_42 (by decide) ?_
        refine j_sub [2, 1, 0] (lv' := [(4, .long l6), (6, .long l9_1), (8, .int i8_2)]) rfl ?_
        exact ih l6 l9_1 i8_2 h
set_option maxRecDepth 100000 in
set_option maxHeartbeats 4000000 in
theorem ctX7_commonDivisor (l : Launch) (D : va_G) (cyI cyJ cyS : ClassId) (l0 : Int64) (l2 : Int64) (o_r : Int64) (h : fX7_commonDivisor l0 l2 = some (o_r)) : jC l yX7_commonDivisor wdX7_commonDivisor rmX7_commonDivisor D vwCl (tyz cyI cyJ cyS) [.long l0, .long l2] (uX7_commonDivisor cyI cyJ cyS ) (some (.long o_r)) (uX7_commonDivisor cyI cyJ cyS ) := by
  refine jC_of (cc := cX7_commonDivisor) (nL := 11) (ret := (some .long)) (own := RX7) (lv := [(0, .long l0), (2, .long l2)]) (by decide) rfl rfl (Nat.le_of_ble_eq_true rfl) rfl ?_
  intro p e s m args below meth c A K
  unfold fX7_commonDivisor at h
  refine j_lload_n K 0 rfl dX7_commonDivisor_0 rfl ?_
  refine j_lstore (lv' := [(4, .long l0), (0, .long l0), (2, .long l2)]) K (by decide) rfl dX7_commonDivisor_1 rfl ?_
  refine j_lload_n K 2 rfl dX7_commonDivisor_3 rfl ?_
  refine j_lstore (lv' := [(6, .long l2), (4, .long l0), (0, .long l0), (2, .long l2)]) K (by decide) rfl dX7_commonDivisor_4 rfl ?_
  refine j_iconst (v := (0 : Int32)) K (by decide) dX7_commonDivisor_6 rfl ?_
  refine j_istore (lv' := [(8, .int (0 : Int32)), (6, .long l2), (4, .long l0), (0, .long l0), (2, .long l2)]) K (by decide) rfl dX7_commonDivisor_7 rfl ?_
  refine j_sub [2, 1, 0] (lv' := [(4, .long l0), (6, .long l2), (8, .int (0 : Int32))]) rfl ?_
  exact wX7_commonDivisor_9 K l0 l2 o_r jF l0 l2 (0 : Int32) h
end GEN
