section GEN
variable {p : Program} {l : Launch} {e : Env} {s : State} {m : MethodId} {args : Array Value} {below : List Frame} {meth : Method} {c : Code} {A : Nat → Prop} {D : va_G} {cyI cyJ cyS : ClassId}
abbrev uX7_read (cyI cyJ cyS : ClassId) (a0 : Nat → Nat) (c_room : Int32) (c_finding : Int32) (c_courseKnown : Int32) (c_settledByKnown : Int32) (c_events_size : Int32) (c_events_kind : Nat → Int32) (c_events_month : Nat → Int32) (c_events_number : Nat → Int32) (c_sh0_form : Int32) (c_sh0_size : Int32) (c_sh0_lost : Int32) (c_sh0_items : Nat → Int32) (c_sh1_form : Int32) (c_sh1_size : Int32) (c_sh1_lost : Int32) (c_sh1_items : Nat → Int32) (c_sh2_form : Int32) (c_sh2_size : Int32) (c_sh2_lost : Int32) (c_sh2_items : Nat → Int32) (c_sh3_form : Int32) (c_sh3_size : Int32) (c_sh3_lost : Int32) (c_sh3_items : Nat → Int32) : va_W := [((a0 0), .inr (7, [.ref (a0 1), .ref (a0 3), .ref (a0 7), .ref (a0 11), .ref (a0 15), .ref (a0 19), .ref (a0 31), .ref (a0 43), .ref (a0 44), .ref (a0 53), .ref (a0 54), .int c_room, .int c_finding, .int c_courseKnown, .int c_settledByKnown])), ((a0 11), .inr (2, [.ref (a0 12), .ref (a0 13), .ref (a0 14), .int c_events_size])), ((a0 12), .inl (cyI, 8, .inl c_events_kind)), ((a0 13), .inl (cyI, 8, .inl c_events_month)), ((a0 14), .inl (cyI, 8, .inl c_events_number)), ((a0 44), .inl (cyS, 4, .inr (.inr (.inr (.inr (va_up (va_up (va_up (va_up (fun _ => none) 0 (some (a0 45))) 1 (some (a0 47))) 2 (some (a0 49))) 3 (some (a0 51)))))))), ((a0 45), .inr (4, [.ref (a0 46), .int c_sh0_form, .int c_sh0_size, .int c_sh0_lost])), ((a0 46), .inl (cyI, 60, .inl c_sh0_items)), ((a0 47), .inr (4, [.ref (a0 48), .int c_sh1_form, .int c_sh1_size, .int c_sh1_lost])), ((a0 48), .inl (cyI, 60, .inl c_sh1_items)), ((a0 49), .inr (4, [.ref (a0 50), .int c_sh2_form, .int c_sh2_size, .int c_sh2_lost])), ((a0 50), .inl (cyI, 60, .inl c_sh2_items)), ((a0 51), .inr (4, [.ref (a0 52), .int c_sh3_form, .int c_sh3_size, .int c_sh3_lost])), ((a0 52), .inl (cyI, 60, .inl c_sh3_items))]
abbrev rmX7_read : Room := { frames := 4, cells := 0, slots := 0, locals := 87 }
abbrev wdX7_read : List Cond := .code yX7_read cX7_read 5 (some .int) :: wsL_law
theorem hyX7_read : yX7_read.cls = RX7 ∧ yX7_read.cls ≠ "java/lang/invoke/MethodHandle" ∧ yX7_read.cls ≠ "java/lang/invoke/VarHandle" ∧ (parseMethodDescriptor yX7_read.desc).map (fun d => d.parameters.length) = some 1 := by decide +kernel
set_option maxRecDepth 100000 in
set_option maxHeartbeats 4000000 in
theorem wX7_read_45 (K : jK p s m args meth c A D vwCl (tyz cyI cyJ cyS) cX7_read 5 RX7 wdX7_read (some .int)) (a0 : Nat → Nat) (c_room : Int32) (c_sh0_form : Int32) (c_sh1_form : Int32) (c_sh2_form : Int32) (c_sh3_form : Int32) (i1 : Int32) (c_sh0_size : Int32) (c_sh0_lost : Int32) (c_sh0_items : Nat → Int32) (c_sh1_size : Int32) (c_sh1_lost : Int32) (c_sh1_items : Nat → Int32) (c_sh2_size : Int32) (c_sh2_lost : Int32) (c_sh2_items : Nat → Int32) (c_sh3_size : Int32) (c_sh3_lost : Int32) (c_sh3_items : Nat → Int32) (o_r : Int32) (o_finding : Int32) (o_courseKnown : Int32) (o_settledByKnown : Int32) (o_events : jT3) (fei1 : i1 = (0 : Int32))  : ∀ (n : Nat) (c_finding : Int32) (c_courseKnown : Int32) (c_settledByKnown : Int32) (c_events : jT3) (i3 : Int32) (i4 : Int32), fX7_read_45 i1 c_sh0_size c_sh0_lost c_sh0_items c_sh1_size c_sh1_lost c_sh1_items c_sh2_size c_sh2_lost c_sh2_items c_sh3_size c_sh3_lost c_sh3_items  n c_finding c_courseKnown c_settledByKnown c_events i3 i4 = some (o_r, o_finding, o_courseKnown, o_settledByKnown, o_events) → jw p l e rmX7_read s m args below meth c (jQ below args s A D vwCl (tyz cyI cyJ cyS) 0 0 (some (.int o_r)) (uX7_read cyI cyJ cyS a0 c_room o_finding o_courseKnown o_settledByKnown o_events.1 o_events.2.1 o_events.2.2.1 o_events.2.2.2 c_sh0_form c_sh0_size c_sh0_lost c_sh0_items c_sh1_form c_sh1_size c_sh1_lost c_sh1_items c_sh2_form c_sh2_size c_sh2_lost c_sh2_items c_sh3_form c_sh3_size c_sh3_lost c_sh3_items)) A D vwCl 5 0 0 45 [(0, .ref (a0 0)), (1, .int i1), (2, .ref (a0 46)), (3, .int i3), (4, .int i4)] [] (uX7_read cyI cyJ cyS a0 c_room c_finding c_courseKnown c_settledByKnown c_events.1 c_events.2.1 c_events.2.2.1 c_events.2.2.2 c_sh0_form c_sh0_size c_sh0_lost c_sh0_items c_sh1_form c_sh1_size c_sh1_lost c_sh1_items c_sh2_form c_sh2_size c_sh2_lost c_sh2_items c_sh3_form c_sh3_size c_sh3_lost c_sh3_items) := by
  intro n
  induction n with
  | zero => intro c_finding c_courseKnown c_settledByKnown c_events i3 i4 h; cases h
  | succ n ih =>
    intro c_finding c_courseKnown c_settledByKnown c_events i3 i4 h
    have h : bX7_read_45 i1 c_sh0_size c_sh0_lost c_sh0_items c_sh1_size c_sh1_lost c_sh1_items c_sh2_size c_sh2_lost c_sh2_items c_sh3_size c_sh3_lost c_sh3_items  (fX7_read_45 i1 c_sh0_size c_sh0_lost c_sh0_items c_sh1_size c_sh1_lost c_sh1_items c_sh2_size c_sh2_lost c_sh2_items c_sh3_size c_sh3_lost c_sh3_items  n) c_finding c_courseKnown c_settledByKnown c_events i3 i4 = some (o_r, o_finding, o_courseKnown, o_settledByKnown, o_events) := h
    unfold bX7_read_45 at h
    refine j_iload K 4 rfl dX7_read_45 rfl ?_
    refine j_iconst (v := (2 : Int32)) K (by decide) dX7_read_47 rfl ?_
    refine j_iadd K dX7_read_48 rfl ?_
    refine j_aload_n K 0 rfl dX7_read_49 rfl ?_
    refine j_getf (C := RX7) (T := TX7) (N := 15) (ci := 7) K icX7 0 8 (List.mem_cons_of_mem _ mw_2_15) rfl rfl rfl (by decide) rfl dX7_read_50 rfl ?_
    refine j_iload_n K 1 rfl dX7_read_53 rfl ?_
    refine j_aald (b := (a0 45)) K 5 2 rfl rfl (vin4_0 fei1) (by rw [fei1]; rfl) dX7_read_54 rfl ?_
    refine j_getf (C := RX4) (T := TX4) (N := 4) (ci := 4) K icX4 6 2 (List.mem_cons_of_mem _ mw_12_8) rfl rfl rfl (by decide) rfl dX7_read_55 rfl ?_
    refine j_icmp_ge (tgt := 96) K dX7_read_58 (by decide) rfl h (fun h => ?_) (fun h => ?_)
    · refine j_iload_n K 3 rfl dX7_read_96 rfl ?_
      obtain ⟨e1, g1⟩ := Prod.mk.inj (Option.some.inj h)
      subst e1
      obtain ⟨e2, g2⟩ := Prod.mk.inj g1
      subst e2
      obtain ⟨e3, g3⟩ := Prod.mk.inj g2
      subst e3
      obtain ⟨e4, g4⟩ := Prod.mk.inj g3
      subst e4
      subst g4
      exact j_iret K dX7_read_97
    · refine j_aload_n K 0 rfl dX7_read_61 rfl ?_
      refine j_aload_n K 2 rfl dX7_read_62 rfl ?_
      refine j_iload K 4 rfl dX7_read_63 rfl ?_
      refine j_iald K 7 0 rfl rfl dX7_read_65 rfl h (fun v_2 h => ?_)
      refine j_aload_n K 2 rfl dX7_read_66 rfl ?_
      refine j_iload K 4 rfl dX7_read_67 rfl ?_
      refine j_iconst (v := (1 : Int32)) K (by decide) dX7_read_69 rfl ?_
      refine j_iadd K dX7_read_70 rfl ?_
      refine j_iald K 7 0 rfl rfl dX7_read_71 rfl h (fun v_3 h => ?_)
      refine j_aload_n K 2 rfl dX7_read_72 rfl ?_
      refine j_iload K 4 rfl dX7_read_73 rfl ?_
      refine j_iconst (v := (2 : Int32)) K (by decide) dX7_read_75 rfl ?_
      refine j_iadd K dX7_read_76 rfl ?_
      refine j_iald K 7 0 rfl rfl dX7_read_77 rfl h (fun v_4 h => ?_)
      obtain ⟨r_5, c_courseKnown_6, c_settledByKnown_7, c_events_8, hc, h⟩ := bd4_some h
      refine j_callV (rest := []) (st1 := [.int r_5]) (ws' := (uX7_read cyI cyJ cyS a0 c_room c_finding c_courseKnown_6 c_settledByKnown_7 c_events_8.1 c_events_8.2.1 c_events_8.2.2.1 c_events_8.2.2.2 c_sh0_form c_sh0_size c_sh0_lost c_sh0_items c_sh1_form c_sh1_size c_sh1_lost c_sh1_items c_sh2_form c_sh2_size c_sh2_lost c_sh2_items c_sh3_form c_sh3_size c_sh3_lost c_sh3_items)) (T := TX7) (N := 15) (ci := 7) K (ctX7_event l D cyI cyJ cyS a0 v_2 v_3 v_4 c_room c_finding c_courseKnown c_settledByKnown c_events r_5 c_courseKnown_6 c_settledByKnown_7 c_events_8 hc) (gdV mcL mw_12_13 mw_10_19 mw_10_20 mw_1_2 mw_10_21) rfl ⟨rfl, rfl⟩ hyX7_event ⟨Nat.le_of_ble_eq_true rfl, Nat.le_of_ble_eq_true rfl, Nat.le_of_ble_eq_true rfl, Nat.le_of_ble_eq_true rfl⟩ [0, 1, 2, 3, 4] (by decide) rfl [some 0, some 1, some 2, some 3, some 4, none, none, none, none, none, none, none, none, none] (by decide) rfl rfl 0 rfl rfl rfl rfl (Nat.le_of_ble_eq_true rfl) dX7_read_78 rfl rfl ?_
      refine j_if_ge (tgt := 87) K dX7_read_81 (by decide) rfl h (fun h => ?_) (fun h => ?_)
      · refine j_iincN (lf := fun z => [(3, .int z), (0, .ref (a0 0)), (1, .int i1), (2, .ref (a0 46)), (4, .int i4)]) K (v := i3 + (1 : Int32)) (k := 3) rfl rfl (by decide) (fun _ => rfl) dX7_read_87 rfl h (fun i3_9 h => ?_)
        refine j_iincN (lf := fun z => [(4, .int z), (3, .int i3_9), (0, .ref (a0 0)), (1, .int i1), (2, .ref (a0 46))]) K (v := i4 + (3 : Int32)) (k := 4) rfl rfl (by decide) (fun _ => rfl) dX7_read_90 rfl h (fun i4_10 h => ?_)
        refine j_goto (pc' := 45) K dX7_read_93 (by decide) ?_
        refine j_sub [2, 3, 4, 1, 0] (lv' := [(0, .ref (a0 0)), (1, .int i1), (2, .ref (a0 46)), (3, .int i3_9), (4, .int i4_10)]) rfl ?_
        exact ih c_finding c_courseKnown_6 c_settledByKnown_7 c_events_8 i3_9 i4_10 h
      · refine j_goto (pc' := 96) K dX7_read_84 (by decide) ?_
        refine j_iload_n K 3 rfl dX7_read_96 rfl ?_
        obtain ⟨e1, g1⟩ := Prod.mk.inj (Option.some.inj h)
        subst e1
        obtain ⟨e2, g2⟩ := Prod.mk.inj g1
        subst e2
        obtain ⟨e3, g3⟩ := Prod.mk.inj g2
        subst e3
        obtain ⟨e4, g4⟩ := Prod.mk.inj g3
        subst e4
        subst g4
        exact j_iret K dX7_read_97
set_option maxRecDepth 100000 in
set_option maxHeartbeats 4000000 in
theorem wX7_read_45_v1 (K : jK p s m args meth c A D vwCl (tyz cyI cyJ cyS) cX7_read 5 RX7 wdX7_read (some .int)) (a0 : Nat → Nat) (c_room : Int32) (c_sh0_form : Int32) (c_sh1_form : Int32) (c_sh2_form : Int32) (c_sh3_form : Int32) (i1 : Int32) (c_sh0_size : Int32) (c_sh0_lost : Int32) (c_sh0_items : Nat → Int32) (c_sh1_size : Int32) (c_sh1_lost : Int32) (c_sh1_items : Nat → Int32) (c_sh2_size : Int32) (c_sh2_lost : Int32) (c_sh2_items : Nat → Int32) (c_sh3_size : Int32) (c_sh3_lost : Int32) (c_sh3_items : Nat → Int32) (o_r : Int32) (o_finding : Int32) (o_courseKnown : Int32) (o_settledByKnown : Int32) (o_events : jT3) (fei1 : i1 = (1 : Int32))  : ∀ (n : Nat) (c_finding : Int32) (c_courseKnown : Int32) (c_settledByKnown : Int32) (c_events : jT3) (i3 : Int32) (i4 : Int32), fX7_read_45_v1 i1 c_sh0_size c_sh0_lost c_sh0_items c_sh1_size c_sh1_lost c_sh1_items c_sh2_size c_sh2_lost c_sh2_items c_sh3_size c_sh3_lost c_sh3_items  n c_finding c_courseKnown c_settledByKnown c_events i3 i4 = some (o_r, o_finding, o_courseKnown, o_settledByKnown, o_events) → jw p l e rmX7_read s m args below meth c (jQ below args s A D vwCl (tyz cyI cyJ cyS) 0 0 (some (.int o_r)) (uX7_read cyI cyJ cyS a0 c_room o_finding o_courseKnown o_settledByKnown o_events.1 o_events.2.1 o_events.2.2.1 o_events.2.2.2 c_sh0_form c_sh0_size c_sh0_lost c_sh0_items c_sh1_form c_sh1_size c_sh1_lost c_sh1_items c_sh2_form c_sh2_size c_sh2_lost c_sh2_items c_sh3_form c_sh3_size c_sh3_lost c_sh3_items)) A D vwCl 5 0 0 45 [(0, .ref (a0 0)), (1, .int i1), (2, .ref (a0 48)), (3, .int i3), (4, .int i4)] [] (uX7_read cyI cyJ cyS a0 c_room c_finding c_courseKnown c_settledByKnown c_events.1 c_events.2.1 c_events.2.2.1 c_events.2.2.2 c_sh0_form c_sh0_size c_sh0_lost c_sh0_items c_sh1_form c_sh1_size c_sh1_lost c_sh1_items c_sh2_form c_sh2_size c_sh2_lost c_sh2_items c_sh3_form c_sh3_size c_sh3_lost c_sh3_items) := by
  intro n
  induction n with
  | zero => intro c_finding c_courseKnown c_settledByKnown c_events i3 i4 h; cases h
  | succ n ih =>
    intro c_finding c_courseKnown c_settledByKnown c_events i3 i4 h
    have h : bX7_read_45_v1 i1 c_sh0_size c_sh0_lost c_sh0_items c_sh1_size c_sh1_lost c_sh1_items c_sh2_size c_sh2_lost c_sh2_items c_sh3_size c_sh3_lost c_sh3_items  (fX7_read_45_v1 i1 c_sh0_size c_sh0_lost c_sh0_items c_sh1_size c_sh1_lost c_sh1_items c_sh2_size c_sh2_lost c_sh2_items c_sh3_size c_sh3_lost c_sh3_items  n) c_finding c_courseKnown c_settledByKnown c_events i3 i4 = some (o_r, o_finding, o_courseKnown, o_settledByKnown, o_events) := h
    unfold bX7_read_45_v1 at h
    refine j_iload K 4 rfl dX7_read_45 rfl ?_
    refine j_iconst (v := (2 : Int32)) K (by decide) dX7_read_47 rfl ?_
    refine j_iadd K dX7_read_48 rfl ?_
    refine j_aload_n K 0 rfl dX7_read_49 rfl ?_
    refine j_getf (C := RX7) (T := TX7) (N := 15) (ci := 7) K icX7 0 8 (List.mem_cons_of_mem _ mw_2_15) rfl rfl rfl (by decide) rfl dX7_read_50 rfl ?_
    refine j_iload_n K 1 rfl dX7_read_53 rfl ?_
    refine j_aald (b := (a0 47)) K 5 2 rfl rfl (vin4_1 fei1) (by rw [fei1]; rfl) dX7_read_54 rfl ?_
    refine j_getf (C := RX4) (T := TX4) (N := 4) (ci := 4) K icX4 8 2 (List.mem_cons_of_mem _ mw_12_8) rfl rfl rfl (by decide) rfl dX7_read_55 rfl ?_
    refine j_icmp_ge (tgt := 96) K dX7_read_58 (by decide) rfl h (fun h => ?_) (fun h => ?_)
    · refine j_iload_n K 3 rfl dX7_read_96 rfl ?_
      obtain ⟨e1, g1⟩ := Prod.mk.inj (Option.some.inj h)
      subst e1
      obtain ⟨e2, g2⟩ := Prod.mk.inj g1
      subst e2
      obtain ⟨e3, g3⟩ := Prod.mk.inj g2
      subst e3
      obtain ⟨e4, g4⟩ := Prod.mk.inj g3
      subst e4
      subst g4
      exact j_iret K dX7_read_97
    · refine j_aload_n K 0 rfl dX7_read_61 rfl ?_
      refine j_aload_n K 2 rfl dX7_read_62 rfl ?_
      refine j_iload K 4 rfl dX7_read_63 rfl ?_
      refine j_iald K 9 0 rfl rfl dX7_read_65 rfl h (fun v_13 h => ?_)
      refine j_aload_n K 2 rfl dX7_read_66 rfl ?_
      refine j_iload K 4 rfl dX7_read_67 rfl ?_
      refine j_iconst (v := (1 : Int32)) K (by decide) dX7_read_69 rfl ?_
      refine j_iadd K dX7_read_70 rfl ?_
      refine j_iald K 9 0 rfl rfl dX7_read_71 rfl h (fun v_14 h => ?_)
      refine j_aload_n K 2 rfl dX7_read_72 rfl ?_
      refine j_iload K 4 rfl dX7_read_73 rfl ?_
      refine j_iconst (v := (2 : Int32)) K (by decide) dX7_read_75 rfl ?_
      refine j_iadd K dX7_read_76 rfl ?_
      refine j_iald K 9 0 rfl rfl dX7_read_77 rfl h (fun v_15 h => ?_)
      obtain ⟨r_16, c_courseKnown_17, c_settledByKnown_18, c_events_19, hc, h⟩ := bd4_some h
      refine j_callV (rest := []) (st1 := [.int r_16]) (ws' := (uX7_read cyI cyJ cyS a0 c_room c_finding c_courseKnown_17 c_settledByKnown_18 c_events_19.1 c_events_19.2.1 c_events_19.2.2.1 c_events_19.2.2.2 c_sh0_form c_sh0_size c_sh0_lost c_sh0_items c_sh1_form c_sh1_size c_sh1_lost c_sh1_items c_sh2_form c_sh2_size c_sh2_lost c_sh2_items c_sh3_form c_sh3_size c_sh3_lost c_sh3_items)) (T := TX7) (N := 15) (ci := 7) K (ctX7_event l D cyI cyJ cyS a0 v_13 v_14 v_15 c_room c_finding c_courseKnown c_settledByKnown c_events r_16 c_courseKnown_17 c_settledByKnown_18 c_events_19 hc) (gdV mcL mw_12_13 mw_10_19 mw_10_20 mw_1_2 mw_10_21) rfl ⟨rfl, rfl⟩ hyX7_event ⟨Nat.le_of_ble_eq_true rfl, Nat.le_of_ble_eq_true rfl, Nat.le_of_ble_eq_true rfl, Nat.le_of_ble_eq_true rfl⟩ [0, 1, 2, 3, 4] (by decide) rfl [some 0, some 1, some 2, some 3, some 4, none, none, none, none, none, none, none, none, none] (by decide) rfl rfl 0 rfl rfl rfl rfl (Nat.le_of_ble_eq_true rfl) dX7_read_78 rfl rfl ?_
      refine j_if_ge (tgt := 87) K dX7_read_81 (by decide) rfl h (fun h => ?_) (fun h => ?_)
      · refine j_iincN (lf := fun z => [(3, .int z), (0, .ref (a0 0)), (1, .int i1), (2, .ref (a0 48)), (4, .int i4)]) K (v := i3 + (1 : Int32)) (k := 3) rfl rfl (by decide) (fun _ => rfl) dX7_read_87 rfl h (fun i3_20 h => ?_)
        refine j_iincN (lf := fun z => [(4, .int z), (3, .int i3_20), (0, .ref (a0 0)), (1, .int i1), (2, .ref (a0 48))]) K (v := i4 + (3 : Int32)) (k := 4) rfl rfl (by decide) (fun _ => rfl) dX7_read_90 rfl h (fun i4_21 h => ?_)
        refine j_goto (pc' := 45) K dX7_read_93 (by decide) ?_
        refine j_sub [2, 3, 4, 1, 0] (lv' := [(0, .ref (a0 0)), (1, .int i1), (2, .ref (a0 48)), (3, .int i3_20), (4, .int i4_21)]) rfl ?_
        exact ih c_finding c_courseKnown_17 c_settledByKnown_18 c_events_19 i3_20 i4_21 h
      · refine j_goto (pc' := 96) K dX7_read_84 (by decide) ?_
        refine j_iload_n K 3 rfl dX7_read_96 rfl ?_
        obtain ⟨e1, g1⟩ := Prod.mk.inj (Option.some.inj h)
        subst e1
        obtain ⟨e2, g2⟩ := Prod.mk.inj g1
        subst e2
        obtain ⟨e3, g3⟩ := Prod.mk.inj g2
        subst e3
        obtain ⟨e4, g4⟩ := Prod.mk.inj g3
        subst e4
        subst g4
        exact j_iret K dX7_read_97
set_option maxRecDepth 100000 in
set_option maxHeartbeats 4000000 in
theorem wX7_read_45_v2 (K : jK p s m args meth c A D vwCl (tyz cyI cyJ cyS) cX7_read 5 RX7 wdX7_read (some .int)) (a0 : Nat → Nat) (c_room : Int32) (c_sh0_form : Int32) (c_sh1_form : Int32) (c_sh2_form : Int32) (c_sh3_form : Int32) (i1 : Int32) (c_sh0_size : Int32) (c_sh0_lost : Int32) (c_sh0_items : Nat → Int32) (c_sh1_size : Int32) (c_sh1_lost : Int32) (c_sh1_items : Nat → Int32) (c_sh2_size : Int32) (c_sh2_lost : Int32) (c_sh2_items : Nat → Int32) (c_sh3_size : Int32) (c_sh3_lost : Int32) (c_sh3_items : Nat → Int32) (o_r : Int32) (o_finding : Int32) (o_courseKnown : Int32) (o_settledByKnown : Int32) (o_events : jT3) (fei1 : i1 = (2 : Int32))  : ∀ (n : Nat) (c_finding : Int32) (c_courseKnown : Int32) (c_settledByKnown : Int32) (c_events : jT3) (i3 : Int32) (i4 : Int32), fX7_read_45_v2 i1 c_sh0_size c_sh0_lost c_sh0_items c_sh1_size c_sh1_lost c_sh1_items c_sh2_size c_sh2_lost c_sh2_items c_sh3_size c_sh3_lost c_sh3_items  n c_finding c_courseKnown c_settledByKnown c_events i3 i4 = some (o_r, o_finding, o_courseKnown, o_settledByKnown, o_events) → jw p l e rmX7_read s m args below meth c (jQ below args s A D vwCl (tyz cyI cyJ cyS) 0 0 (some (.int o_r)) (uX7_read cyI cyJ cyS a0 c_room o_finding o_courseKnown o_settledByKnown o_events.1 o_events.2.1 o_events.2.2.1 o_events.2.2.2 c_sh0_form c_sh0_size c_sh0_lost c_sh0_items c_sh1_form c_sh1_size c_sh1_lost c_sh1_items c_sh2_form c_sh2_size c_sh2_lost c_sh2_items c_sh3_form c_sh3_size c_sh3_lost c_sh3_items)) A D vwCl 5 0 0 45 [(0, .ref (a0 0)), (1, .int i1), (2, .ref (a0 50)), (3, .int i3), (4, .int i4)] [] (uX7_read cyI cyJ cyS a0 c_room c_finding c_courseKnown c_settledByKnown c_events.1 c_events.2.1 c_events.2.2.1 c_events.2.2.2 c_sh0_form c_sh0_size c_sh0_lost c_sh0_items c_sh1_form c_sh1_size c_sh1_lost c_sh1_items c_sh2_form c_sh2_size c_sh2_lost c_sh2_items c_sh3_form c_sh3_size c_sh3_lost c_sh3_items) := by
  intro n
  induction n with
  | zero => intro c_finding c_courseKnown c_settledByKnown c_events i3 i4 h; cases h
  | succ n ih =>
    intro c_finding c_courseKnown c_settledByKnown c_events i3 i4 h
    have h : bX7_read_45_v2 i1 c_sh0_size c_sh0_lost c_sh0_items c_sh1_size c_sh1_lost c_sh1_items c_sh2_size c_sh2_lost c_sh2_items c_sh3_size c_sh3_lost c_sh3_items  (fX7_read_45_v2 i1 c_sh0_size c_sh0_lost c_sh0_items c_sh1_size c_sh1_lost c_sh1_items c_sh2_size c_sh2_lost c_sh2_items c_sh3_size c_sh3_lost c_sh3_items  n) c_finding c_courseKnown c_settledByKnown c_events i3 i4 = some (o_r, o_finding, o_courseKnown, o_settledByKnown, o_events) := h
    unfold bX7_read_45_v2 at h
    refine j_iload K 4 rfl dX7_read_45 rfl ?_
    refine j_iconst (v := (2 : Int32)) K (by decide) dX7_read_47 rfl ?_
    refine j_iadd K dX7_read_48 rfl ?_
    refine j_aload_n K 0 rfl dX7_read_49 rfl ?_
    refine j_getf (C := RX7) (T := TX7) (N := 15) (ci := 7) K icX7 0 8 (List.mem_cons_of_mem _ mw_2_15) rfl rfl rfl (by decide) rfl dX7_read_50 rfl ?_
    refine j_iload_n K 1 rfl dX7_read_53 rfl ?_
    refine j_aald (b := (a0 49)) K 5 2 rfl rfl (vin4_2 fei1) (by rw [fei1]; rfl) dX7_read_54 rfl ?_
    refine j_getf (C := RX4) (T := TX4) (N := 4) (ci := 4) K icX4 10 2 (List.mem_cons_of_mem _ mw_12_8) rfl rfl rfl (by decide) rfl dX7_read_55 rfl ?_
    refine j_icmp_ge (tgt := 96) K dX7_read_58 (by decide) rfl h (fun h => ?_) (fun h => ?_)
    · refine j_iload_n K 3 rfl dX7_read_96 rfl ?_
      obtain ⟨e1, g1⟩ := Prod.mk.inj (Option.some.inj h)
      subst e1
      obtain ⟨e2, g2⟩ := Prod.mk.inj g1
      subst e2
      obtain ⟨e3, g3⟩ := Prod.mk.inj g2
      subst e3
      obtain ⟨e4, g4⟩ := Prod.mk.inj g3
      subst e4
      subst g4
      exact j_iret K dX7_read_97
    · refine j_aload_n K 0 rfl dX7_read_61 rfl ?_
      refine j_aload_n K 2 rfl dX7_read_62 rfl ?_
      refine j_iload K 4 rfl dX7_read_63 rfl ?_
      refine j_iald K 11 0 rfl rfl dX7_read_65 rfl h (fun v_24 h => ?_)
      refine j_aload_n K 2 rfl dX7_read_66 rfl ?_
      refine j_iload K 4 rfl dX7_read_67 rfl ?_
      refine j_iconst (v := (1 : Int32)) K (by decide) dX7_read_69 rfl ?_
      refine j_iadd K dX7_read_70 rfl ?_
      refine j_iald K 11 0 rfl rfl dX7_read_71 rfl h (fun v_25 h => ?_)
      refine j_aload_n K 2 rfl dX7_read_72 rfl ?_
      refine j_iload K 4 rfl dX7_read_73 rfl ?_
      refine j_iconst (v := (2 : Int32)) K (by decide) dX7_read_75 rfl ?_
      refine j_iadd K dX7_read_76 rfl ?_
      refine j_iald K 11 0 rfl rfl dX7_read_77 rfl h (fun v_26 h => ?_)
      obtain ⟨r_27, c_courseKnown_28, c_settledByKnown_29, c_events_30, hc, h⟩ := bd4_some h
      refine j_callV (rest := []) (st1 := [.int r_27]) (ws' := (uX7_read cyI cyJ cyS a0 c_room c_finding c_courseKnown_28 c_settledByKnown_29 c_events_30.1 c_events_30.2.1 c_events_30.2.2.1 c_events_30.2.2.2 c_sh0_form c_sh0_size c_sh0_lost c_sh0_items c_sh1_form c_sh1_size c_sh1_lost c_sh1_items c_sh2_form c_sh2_size c_sh2_lost c_sh2_items c_sh3_form c_sh3_size c_sh3_lost c_sh3_items)) (T := TX7) (N := 15) (ci := 7) K (ctX7_event l D cyI cyJ cyS a0 v_24 v_25 v_26 c_room c_finding c_courseKnown c_settledByKnown c_events r_27 c_courseKnown_28 c_settledByKnown_29 c_events_30 hc) (gdV mcL mw_12_13 mw_10_19 mw_10_20 mw_1_2 mw_10_21) rfl ⟨rfl, rfl⟩ hyX7_event ⟨Nat.le_of_ble_eq_true rfl, Nat.le_of_ble_eq_true rfl, Nat.le_of_ble_eq_true rfl, Nat.le_of_ble_eq_true rfl⟩ [0, 1, 2, 3, 4] (by decide) rfl [some 0, some 1, some 2, some 3, some 4, none, none, none, none, none, none, none, none, none] (by decide) rfl rfl 0 rfl rfl rfl rfl (Nat.le_of_ble_eq_true rfl) dX7_read_78 rfl rfl ?_
      refine j_if_ge (tgt := 87) K dX7_read_81 (by decide) rfl h (fun h => ?_) (fun h => ?_)
      · refine j_iincN (lf := fun z => [(3, .int z), (0, .ref (a0 0)), (1, .int i1), (2, .ref (a0 50)), (4, .int i4)]) K (v := i3 + (1 : Int32)) (k := 3) rfl rfl (by decide) (fun _ => rfl) dX7_read_87 rfl h (fun i3_31 h => ?_)
        refine j_iincN (lf := fun z => [(4, .int z), (3, .int i3_31), (0, .ref (a0 0)), (1, .int i1), (2, .ref (a0 50))]) K (v := i4 + (3 : Int32)) (k := 4) rfl rfl (by decide) (fun _ => rfl) dX7_read_90 rfl h (fun i4_32 h => ?_)
        refine j_goto (pc' := 45) K dX7_read_93 (by decide) ?_
        refine j_sub [2, 3, 4, 1, 0] (lv' := [(0, .ref (a0 0)), (1, .int i1), (2, .ref (a0 50)), (3, .int i3_31), (4, .int i4_32)]) rfl ?_
        exact ih c_finding c_courseKnown_28 c_settledByKnown_29 c_events_30 i3_31 i4_32 h
      · refine j_goto (pc' := 96) K dX7_read_84 (by decide) ?_
        refine j_iload_n K 3 rfl dX7_read_96 rfl ?_
        obtain ⟨e1, g1⟩ := Prod.mk.inj (Option.some.inj h)
        subst e1
        obtain ⟨e2, g2⟩ := Prod.mk.inj g1
        subst e2
        obtain ⟨e3, g3⟩ := Prod.mk.inj g2
        subst e3
        obtain ⟨e4, g4⟩ := Prod.mk.inj g3
        subst e4
        subst g4
        exact j_iret K dX7_read_97
set_option maxRecDepth 100000 in
set_option maxHeartbeats 4000000 in
theorem wX7_read_45_v3 (K : jK p s m args meth c A D vwCl (tyz cyI cyJ cyS) cX7_read 5 RX7 wdX7_read (some .int)) (a0 : Nat → Nat) (c_room : Int32) (c_sh0_form : Int32) (c_sh1_form : Int32) (c_sh2_form : Int32) (c_sh3_form : Int32) (i1 : Int32) (c_sh0_size : Int32) (c_sh0_lost : Int32) (c_sh0_items : Nat → Int32) (c_sh1_size : Int32) (c_sh1_lost : Int32) (c_sh1_items : Nat → Int32) (c_sh2_size : Int32) (c_sh2_lost : Int32) (c_sh2_items : Nat → Int32) (c_sh3_size : Int32) (c_sh3_lost : Int32) (c_sh3_items : Nat → Int32) (o_r : Int32) (o_finding : Int32) (o_courseKnown : Int32) (o_settledByKnown : Int32) (o_events : jT3) (fei1 : i1 = (3 : Int32))  : ∀ (n : Nat) (c_finding : Int32) (c_courseKnown : Int32) (c_settledByKnown : Int32) (c_events : jT3) (i3 : Int32) (i4 : Int32), fX7_read_45_v3 i1 c_sh0_size c_sh0_lost c_sh0_items c_sh1_size c_sh1_lost c_sh1_items c_sh2_size c_sh2_lost c_sh2_items c_sh3_size c_sh3_lost c_sh3_items  n c_finding c_courseKnown c_settledByKnown c_events i3 i4 = some (o_r, o_finding, o_courseKnown, o_settledByKnown, o_events) → jw p l e rmX7_read s m args below meth c (jQ below args s A D vwCl (tyz cyI cyJ cyS) 0 0 (some (.int o_r)) (uX7_read cyI cyJ cyS a0 c_room o_finding o_courseKnown o_settledByKnown o_events.1 o_events.2.1 o_events.2.2.1 o_events.2.2.2 c_sh0_form c_sh0_size c_sh0_lost c_sh0_items c_sh1_form c_sh1_size c_sh1_lost c_sh1_items c_sh2_form c_sh2_size c_sh2_lost c_sh2_items c_sh3_form c_sh3_size c_sh3_lost c_sh3_items)) A D vwCl 5 0 0 45 [(0, .ref (a0 0)), (1, .int i1), (2, .ref (a0 52)), (3, .int i3), (4, .int i4)] [] (uX7_read cyI cyJ cyS a0 c_room c_finding c_courseKnown c_settledByKnown c_events.1 c_events.2.1 c_events.2.2.1 c_events.2.2.2 c_sh0_form c_sh0_size c_sh0_lost c_sh0_items c_sh1_form c_sh1_size c_sh1_lost c_sh1_items c_sh2_form c_sh2_size c_sh2_lost c_sh2_items c_sh3_form c_sh3_size c_sh3_lost c_sh3_items) := by
  intro n
  induction n with
  | zero => intro c_finding c_courseKnown c_settledByKnown c_events i3 i4 h; cases h
  | succ n ih =>
    intro c_finding c_courseKnown c_settledByKnown c_events i3 i4 h
    have h : bX7_read_45_v3 i1 c_sh0_size c_sh0_lost c_sh0_items c_sh1_size c_sh1_lost c_sh1_items c_sh2_size c_sh2_lost c_sh2_items c_sh3_size c_sh3_lost c_sh3_items  (fX7_read_45_v3 i1 c_sh0_size c_sh0_lost c_sh0_items c_sh1_size c_sh1_lost c_sh1_items c_sh2_size c_sh2_lost c_sh2_items c_sh3_size c_sh3_lost c_sh3_items  n) c_finding c_courseKnown c_settledByKnown c_events i3 i4 = some (o_r, o_finding, o_courseKnown, o_settledByKnown, o_events) := h
    unfold bX7_read_45_v3 at h
    refine j_iload K 4 rfl dX7_read_45 rfl ?_
    refine j_iconst (v := (2 : Int32)) K (by decide) dX7_read_47 rfl ?_
    refine j_iadd K dX7_read_48 rfl ?_
    refine j_aload_n K 0 rfl dX7_read_49 rfl ?_
    refine j_getf (C := RX7) (T := TX7) (N := 15) (ci := 7) K icX7 0 8 (List.mem_cons_of_mem _ mw_2_15) rfl rfl rfl (by decide) rfl dX7_read_50 rfl ?_
    refine j_iload_n K 1 rfl dX7_read_53 rfl ?_
    refine j_aald (b := (a0 51)) K 5 2 rfl rfl (vin4_3 fei1) (by rw [fei1]; rfl) dX7_read_54 rfl ?_
    refine j_getf (C := RX4) (T := TX4) (N := 4) (ci := 4) K icX4 12 2 (List.mem_cons_of_mem _ mw_12_8) rfl rfl rfl (by decide) rfl dX7_read_55 rfl ?_
    refine j_icmp_ge (tgt := 96) K dX7_read_58 (by decide) rfl h (fun h => ?_) (fun h => ?_)
    · refine j_iload_n K 3 rfl dX7_read_96 rfl ?_
      obtain ⟨e1, g1⟩ := Prod.mk.inj (Option.some.inj h)
      subst e1
      obtain ⟨e2, g2⟩ := Prod.mk.inj g1
      subst e2
      obtain ⟨e3, g3⟩ := Prod.mk.inj g2
      subst e3
      obtain ⟨e4, g4⟩ := Prod.mk.inj g3
      subst e4
      subst g4
      exact j_iret K dX7_read_97
    · refine j_aload_n K 0 rfl dX7_read_61 rfl ?_
      refine j_aload_n K 2 rfl dX7_read_62 rfl ?_
      refine j_iload K 4 rfl dX7_read_63 rfl ?_
      refine j_iald K 13 0 rfl rfl dX7_read_65 rfl h (fun v_35 h => ?_)
      refine j_aload_n K 2 rfl dX7_read_66 rfl ?_
      refine j_iload K 4 rfl dX7_read_67 rfl ?_
      refine j_iconst (v := (1 : Int32)) K (by decide) dX7_read_69 rfl ?_
      refine j_iadd K dX7_read_70 rfl ?_
      refine j_iald K 13 0 rfl rfl dX7_read_71 rfl h (fun v_36 h => ?_)
      refine j_aload_n K 2 rfl dX7_read_72 rfl ?_
      refine j_iload K 4 rfl dX7_read_73 rfl ?_
      refine j_iconst (v := (2 : Int32)) K (by decide) dX7_read_75 rfl ?_
      refine j_iadd K dX7_read_76 rfl ?_
      refine j_iald K 13 0 rfl rfl dX7_read_77 rfl h (fun v_37 h => ?_)
      obtain ⟨r_38, c_courseKnown_39, c_settledByKnown_40, c_events_41, hc, h⟩ := bd4_some h
      refine j_callV (rest := []) (st1 := [.int r_38]) (ws' := (uX7_read cyI cyJ cyS a0 c_room c_finding c_courseKnown_39 c_settledByKnown_40 c_events_41.1 c_events_41.2.1 c_events_41.2.2.1 c_events_41.2.2.2 c_sh0_form c_sh0_size c_sh0_lost c_sh0_items c_sh1_form c_sh1_size c_sh1_lost c_sh1_items c_sh2_form c_sh2_size c_sh2_lost c_sh2_items c_sh3_form c_sh3_size c_sh3_lost c_sh3_items)) (T := TX7) (N := 15) (ci := 7) K (ctX7_event l D cyI cyJ cyS a0 v_35 v_36 v_37 c_room c_finding c_courseKnown c_settledByKnown c_events r_38 c_courseKnown_39 c_settledByKnown_40 c_events_41 hc) (gdV mcL mw_12_13 mw_10_19 mw_10_20 mw_1_2 mw_10_21) rfl ⟨rfl, rfl⟩ hyX7_event ⟨Nat.le_of_ble_eq_true rfl, Nat.le_of_ble_eq_true rfl, Nat.le_of_ble_eq_true rfl, Nat.le_of_ble_eq_true rfl⟩ [0, 1, 2, 3, 4] (by decide) rfl [some 0, some 1, some 2, some 3, some 4, none, none, none, none, none, none, none, none, none] (by decide) rfl rfl 0 rfl rfl rfl rfl (Nat.le_of_ble_eq_true rfl) dX7_read_78 rfl rfl ?_
      refine j_if_ge (tgt := 87) K dX7_read_81 (by decide) rfl h (fun h => ?_) (fun h => ?_)
      · refine j_iincN (lf := fun z => [(3, .int z), (0, .ref (a0 0)), (1, .int i1), (2, .ref (a0 52)), (4, .int i4)]) K (v := i3 + (1 : Int32)) (k := 3) rfl rfl (by decide) (fun _ => rfl) dX7_read_87 rfl h (fun i3_42 h => ?_)
        refine j_iincN (lf := fun z => [(4, .int z), (3, .int i3_42), (0, .ref (a0 0)), (1, .int i1), (2, .ref (a0 52))]) K (v := i4 + (3 : Int32)) (k := 4) rfl rfl (by decide) (fun _ => rfl) dX7_read_90 rfl h (fun i4_43 h => ?_)
        refine j_goto (pc' := 45) K dX7_read_93 (by decide) ?_
        refine j_sub [2, 3, 4, 1, 0] (lv' := [(0, .ref (a0 0)), (1, .int i1), (2, .ref (a0 52)), (3, .int i3_42), (4, .int i4_43)]) rfl ?_
        exact ih c_finding c_courseKnown_39 c_settledByKnown_40 c_events_41 i3_42 i4_43 h
      · refine j_goto (pc' := 96) K dX7_read_84 (by decide) ?_
        refine j_iload_n K 3 rfl dX7_read_96 rfl ?_
        obtain ⟨e1, g1⟩ := Prod.mk.inj (Option.some.inj h)
        subst e1
        obtain ⟨e2, g2⟩ := Prod.mk.inj g1
        subst e2
        obtain ⟨e3, g3⟩ := Prod.mk.inj g2
        subst e3
        obtain ⟨e4, g4⟩ := Prod.mk.inj g3
        subst e4
        subst g4
        exact j_iret K dX7_read_97
set_option maxRecDepth 100000 in
set_option maxHeartbeats 4000000 in
theorem ctX7_read (l : Launch) (D : va_G) (cyI cyJ cyS : ClassId) (a0 : Nat → Nat) (i1 : Int32) (c_room : Int32) (c_sh0_form : Int32) (c_sh1_form : Int32) (c_sh2_form : Int32) (c_sh3_form : Int32) (c_sh0_size : Int32) (c_sh0_lost : Int32) (c_sh0_items : Nat → Int32) (c_sh1_size : Int32) (c_sh1_lost : Int32) (c_sh1_items : Nat → Int32) (c_sh2_size : Int32) (c_sh2_lost : Int32) (c_sh2_items : Nat → Int32) (c_sh3_size : Int32) (c_sh3_lost : Int32) (c_sh3_items : Nat → Int32) (c_finding : Int32) (c_courseKnown : Int32) (c_settledByKnown : Int32) (c_events : jT3) (o_r : Int32) (o_finding : Int32) (o_courseKnown : Int32) (o_settledByKnown : Int32) (o_events : jT3) (h : fX7_read i1 c_sh0_size c_sh0_lost c_sh0_items c_sh1_size c_sh1_lost c_sh1_items c_sh2_size c_sh2_lost c_sh2_items c_sh3_size c_sh3_lost c_sh3_items c_finding c_courseKnown c_settledByKnown c_events = some (o_r, o_finding, o_courseKnown, o_settledByKnown, o_events)) : jC l yX7_read wdX7_read rmX7_read D vwCl (tyz cyI cyJ cyS) [.ref (a0 0), .int i1] (uX7_read cyI cyJ cyS a0 c_room c_finding c_courseKnown c_settledByKnown c_events.1 c_events.2.1 c_events.2.2.1 c_events.2.2.2 c_sh0_form c_sh0_size c_sh0_lost c_sh0_items c_sh1_form c_sh1_size c_sh1_lost c_sh1_items c_sh2_form c_sh2_size c_sh2_lost c_sh2_items c_sh3_form c_sh3_size c_sh3_lost c_sh3_items) (some (.int o_r)) (uX7_read cyI cyJ cyS a0 c_room o_finding o_courseKnown o_settledByKnown o_events.1 o_events.2.1 o_events.2.2.1 o_events.2.2.2 c_sh0_form c_sh0_size c_sh0_lost c_sh0_items c_sh1_form c_sh1_size c_sh1_lost c_sh1_items c_sh2_form c_sh2_size c_sh2_lost c_sh2_items c_sh3_form c_sh3_size c_sh3_lost c_sh3_items) := by
  refine jC_of (cc := cX7_read) (nL := 5) (ret := (some .int)) (own := RX7) (lv := [(0, .ref (a0 0)), (1, .int i1)]) (by decide) rfl rfl (Nat.le_of_ble_eq_true rfl) rfl ?_
  intro p e s m args below meth c A K
  unfold fX7_read at h
  refine j_iload_n K 1 rfl dX7_read_0 rfl ?_
  refine j_iconst (v := (0 : Int32)) K (by decide) dX7_read_1 rfl ?_
  refine j_iconst (v := (3 : Int32)) K (by decide) dX7_read_2 rfl ?_
  obtain ⟨r_1, hc, h⟩ := bd1_some h
  refine j_callS (rest := []) (st1 := [.int r_1]) (ws' := (uX7_read cyI cyJ cyS a0 c_room c_finding c_courseKnown c_settledByKnown c_events.1 c_events.2.1 c_events.2.2.1 c_events.2.2.2 c_sh0_form c_sh0_size c_sh0_lost c_sh0_items c_sh1_form c_sh1_size c_sh1_lost c_sh1_items c_sh2_form c_sh2_size c_sh2_lost c_sh2_items c_sh3_form c_sh3_size c_sh3_lost c_sh3_items)) K (ctX7_within l D cyI cyJ cyS i1 (0 : Int32) (3 : Int32) r_1 hc) (gdS mcL mw_6_12 mw_6_13 mw_1_2 mw_6_14) rfl ⟨rfl, rfl⟩ hzX7_within ⟨Nat.le_of_ble_eq_true rfl, Nat.le_of_ble_eq_true rfl, Nat.le_of_ble_eq_true rfl, Nat.le_of_ble_eq_true rfl⟩ [] (by decide) rfl [none, none, none, none, none, none, none, none, none, none, none, none, none, none] (by decide) rfl rfl rfl rfl (Nat.le_of_ble_eq_true rfl) dX7_read_3 rfl rfl ?_
  refine j_if_ne (tgt := 12) K dX7_read_6 (by decide) rfl h (fun h => ?_) (fun h => ?_)
  · refine j_aload_n K 0 rfl dX7_read_12 rfl ?_
    refine j_getf (C := RX7) (T := TX7) (N := 15) (ci := 7) K icX7 0 8 (List.mem_cons_of_mem _ mw_2_15) rfl rfl rfl (by decide) rfl dX7_read_13 rfl ?_
    refine j_iload_n K 1 rfl dX7_read_16 rfl ?_
    rcases sw4_some h with ⟨fei1, h⟩ | ⟨fei1, h⟩ | ⟨fei1, h⟩ | ⟨fei1, h⟩
    · refine j_aald (b := (a0 45)) K 5 2 rfl rfl (vin4_0 fei1) (by rw [fei1]; rfl) dX7_read_17 rfl ?_
      refine j_getf (C := RX4) (T := TX4) (N := 4) (ci := 4) K icX4 6 3 (List.mem_cons_of_mem _ mw_12_6) rfl rfl rfl (by decide) rfl dX7_read_18 rfl ?_
      refine j_if_eq (tgt := 30) K dX7_read_21 (by decide) rfl h (fun h => ?_) (fun h => ?_)
      · refine j_aload_n K 0 rfl dX7_read_30 rfl ?_
        refine j_getf (C := RX7) (T := TX7) (N := 15) (ci := 7) K icX7 0 8 (List.mem_cons_of_mem _ mw_2_15) rfl rfl rfl (by decide) rfl dX7_read_31 rfl ?_
        refine j_iload_n K 1 rfl dX7_read_34 rfl ?_
        refine j_aald (b := (a0 45)) K 5 2 rfl rfl (vin4_0 fei1) (by rw [fei1]; rfl) dX7_read_35 rfl ?_
        refine j_getf (C := RX4) (T := TX4) (N := 4) (ci := 4) K icX4 6 0 (List.mem_cons_of_mem _ mw_12_7) rfl rfl rfl (by decide) rfl dX7_read_36 rfl ?_
        refine j_astore_n (lv' := [(2, .ref (a0 46)), (0, .ref (a0 0)), (1, .int i1)]) K (by decide) rfl dX7_read_39 rfl ?_
        refine j_iconst (v := (0 : Int32)) K (by decide) dX7_read_40 rfl ?_
        refine j_istore_n (lv' := [(3, .int (0 : Int32)), (2, .ref (a0 46)), (0, .ref (a0 0)), (1, .int i1)]) K (by decide) rfl dX7_read_41 rfl ?_
        refine j_iconst (v := (0 : Int32)) K (by decide) dX7_read_42 rfl ?_
        refine j_istore (lv' := [(4, .int (0 : Int32)), (3, .int (0 : Int32)), (2, .ref (a0 46)), (0, .ref (a0 0)), (1, .int i1)]) K (by decide) rfl dX7_read_43 rfl ?_
        refine j_sub [3, 4, 2, 1, 0] (lv' := [(0, .ref (a0 0)), (1, .int i1), (2, .ref (a0 46)), (3, .int (0 : Int32)), (4, .int (0 : Int32))]) rfl ?_
        exact wX7_read_45 K a0 c_room c_sh0_form c_sh1_form c_sh2_form c_sh3_form i1 c_sh0_size c_sh0_lost c_sh0_items c_sh1_size c_sh1_lost c_sh1_items c_sh2_size c_sh2_lost c_sh2_items c_sh3_size c_sh3_lost c_sh3_items o_r o_finding o_courseKnown o_settledByKnown o_events fei1 jF c_finding c_courseKnown c_settledByKnown c_events (0 : Int32) (0 : Int32) h
      · refine j_aload_n K 0 rfl dX7_read_24 rfl ?_
        refine j_iconst (v := (1 : Int32)) K (by decide) dX7_read_25 rfl ?_
        obtain ⟨r_11, c_finding_12, hc, h⟩ := bd2_some h
        refine j_callV (rest := []) (st1 := [.int r_11]) (ws' := (uX7_read cyI cyJ cyS a0 c_room c_finding_12 c_courseKnown c_settledByKnown c_events.1 c_events.2.1 c_events.2.2.1 c_events.2.2.2 c_sh0_form c_sh0_size c_sh0_lost c_sh0_items c_sh1_form c_sh1_size c_sh1_lost c_sh1_items c_sh2_form c_sh2_size c_sh2_lost c_sh2_items c_sh3_form c_sh3_size c_sh3_lost c_sh3_items)) (T := TX7) (N := 15) (ci := 7) K (ctX7_found l D cyI cyJ cyS a0 (1 : Int32) c_room c_courseKnown c_settledByKnown c_finding r_11 c_finding_12 hc) (gdV mcL mw_12_9 mw_12_10 mw_12_11 mw_1_2 mw_12_12) rfl ⟨rfl, rfl⟩ hyX7_found ⟨Nat.le_of_ble_eq_true rfl, Nat.le_of_ble_eq_true rfl, Nat.le_of_ble_eq_true rfl, Nat.le_of_ble_eq_true rfl⟩ [0] (by decide) rfl [some 0, none, none, none, none, none, none, none, none, none, none, none, none, none] (by decide) rfl rfl 0 rfl rfl rfl rfl (Nat.le_of_ble_eq_true rfl) dX7_read_26 rfl rfl ?_
        obtain ⟨e1, g1⟩ := Prod.mk.inj (Option.some.inj h)
        subst e1
        obtain ⟨e2, g2⟩ := Prod.mk.inj g1
        subst e2
        obtain ⟨e3, g3⟩ := Prod.mk.inj g2
        subst e3
        obtain ⟨e4, g4⟩ := Prod.mk.inj g3
        subst e4
        subst g4
        exact j_iret K dX7_read_29
    · refine j_aald (b := (a0 47)) K 5 2 rfl rfl (vin4_1 fei1) (by rw [fei1]; rfl) dX7_read_17 rfl ?_
      refine j_getf (C := RX4) (T := TX4) (N := 4) (ci := 4) K icX4 8 3 (List.mem_cons_of_mem _ mw_12_6) rfl rfl rfl (by decide) rfl dX7_read_18 rfl ?_
      refine j_if_eq (tgt := 30) K dX7_read_21 (by decide) rfl h (fun h => ?_) (fun h => ?_)
      · refine j_aload_n K 0 rfl dX7_read_30 rfl ?_
        refine j_getf (C := RX7) (T := TX7) (N := 15) (ci := 7) K icX7 0 8 (List.mem_cons_of_mem _ mw_2_15) rfl rfl rfl (by decide) rfl dX7_read_31 rfl ?_
        refine j_iload_n K 1 rfl dX7_read_34 rfl ?_
        refine j_aald (b := (a0 47)) K 5 2 rfl rfl (vin4_1 fei1) (by rw [fei1]; rfl) dX7_read_35 rfl ?_
        refine j_getf (C := RX4) (T := TX4) (N := 4) (ci := 4) K icX4 8 0 (List.mem_cons_of_mem _ mw_12_7) rfl rfl rfl (by decide) rfl dX7_read_36 rfl ?_
        refine j_astore_n (lv' := [(2, .ref (a0 48)), (0, .ref (a0 0)), (1, .int i1)]) K (by decide) rfl dX7_read_39 rfl ?_
        refine j_iconst (v := (0 : Int32)) K (by decide) dX7_read_40 rfl ?_
        refine j_istore_n (lv' := [(3, .int (0 : Int32)), (2, .ref (a0 48)), (0, .ref (a0 0)), (1, .int i1)]) K (by decide) rfl dX7_read_41 rfl ?_
        refine j_iconst (v := (0 : Int32)) K (by decide) dX7_read_42 rfl ?_
        refine j_istore (lv' := [(4, .int (0 : Int32)), (3, .int (0 : Int32)), (2, .ref (a0 48)), (0, .ref (a0 0)), (1, .int i1)]) K (by decide) rfl dX7_read_43 rfl ?_
        refine j_sub [3, 4, 2, 1, 0] (lv' := [(0, .ref (a0 0)), (1, .int i1), (2, .ref (a0 48)), (3, .int (0 : Int32)), (4, .int (0 : Int32))]) rfl ?_
        exact wX7_read_45_v1 K a0 c_room c_sh0_form c_sh1_form c_sh2_form c_sh3_form i1 c_sh0_size c_sh0_lost c_sh0_items c_sh1_size c_sh1_lost c_sh1_items c_sh2_size c_sh2_lost c_sh2_items c_sh3_size c_sh3_lost c_sh3_items o_r o_finding o_courseKnown o_settledByKnown o_events fei1 jF c_finding c_courseKnown c_settledByKnown c_events (0 : Int32) (0 : Int32) h
      · refine j_aload_n K 0 rfl dX7_read_24 rfl ?_
        refine j_iconst (v := (1 : Int32)) K (by decide) dX7_read_25 rfl ?_
        obtain ⟨r_22, c_finding_23, hc, h⟩ := bd2_some h
        refine j_callV (rest := []) (st1 := [.int r_22]) (ws' := (uX7_read cyI cyJ cyS a0 c_room c_finding_23 c_courseKnown c_settledByKnown c_events.1 c_events.2.1 c_events.2.2.1 c_events.2.2.2 c_sh0_form c_sh0_size c_sh0_lost c_sh0_items c_sh1_form c_sh1_size c_sh1_lost c_sh1_items c_sh2_form c_sh2_size c_sh2_lost c_sh2_items c_sh3_form c_sh3_size c_sh3_lost c_sh3_items)) (T := TX7) (N := 15) (ci := 7) K (ctX7_found l D cyI cyJ cyS a0 (1 : Int32) c_room c_courseKnown c_settledByKnown c_finding r_22 c_finding_23 hc) (gdV mcL mw_12_9 mw_12_10 mw_12_11 mw_1_2 mw_12_12) rfl ⟨rfl, rfl⟩ hyX7_found ⟨Nat.le_of_ble_eq_true rfl, Nat.le_of_ble_eq_true rfl, Nat.le_of_ble_eq_true rfl, Nat.le_of_ble_eq_true rfl⟩ [0] (by decide) rfl [some 0, none, none, none, none, none, none, none, none, none, none, none, none, none] (by decide) rfl rfl 0 rfl rfl rfl rfl (Nat.le_of_ble_eq_true rfl) dX7_read_26 rfl rfl ?_
        obtain ⟨e1, g1⟩ := Prod.mk.inj (Option.some.inj h)
        subst e1
        obtain ⟨e2, g2⟩ := Prod.mk.inj g1
        subst e2
        obtain ⟨e3, g3⟩ := Prod.mk.inj g2
        subst e3
        obtain ⟨e4, g4⟩ := Prod.mk.inj g3
        subst e4
        subst g4
        exact j_iret K dX7_read_29
    · refine j_aald (b := (a0 49)) K 5 2 rfl rfl (vin4_2 fei1) (by rw [fei1]; rfl) dX7_read_17 rfl ?_
      refine j_getf (C := RX4) (T := TX4) (N := 4) (ci := 4) K icX4 10 3 (List.mem_cons_of_mem _ mw_12_6) rfl rfl rfl (by decide) rfl dX7_read_18 rfl ?_
      refine j_if_eq (tgt := 30) K dX7_read_21 (by decide) rfl h (fun h => ?_) (fun h => ?_)
      · refine j_aload_n K 0 rfl dX7_read_30 rfl ?_
        refine j_getf (C := RX7) (T := TX7) (N := 15) (ci := 7) K icX7 0 8 (List.mem_cons_of_mem _ mw_2_15) rfl rfl rfl (by decide) rfl dX7_read_31 rfl ?_
        refine j_iload_n K 1 rfl dX7_read_34 rfl ?_
        refine j_aald (b := (a0 49)) K 5 2 rfl rfl (vin4_2 fei1) (by rw [fei1]; rfl) dX7_read_35 rfl ?_
        refine j_getf (C := RX4) (T := TX4) (N := 4) (ci := 4) K icX4 10 0 (List.mem_cons_of_mem _ mw_12_7) rfl rfl rfl (by decide) rfl dX7_read_36 rfl ?_
        refine j_astore_n (lv' := [(2, .ref (a0 50)), (0, .ref (a0 0)), (1, .int i1)]) K (by decide) rfl dX7_read_39 rfl ?_
        refine j_iconst (v := (0 : Int32)) K (by decide) dX7_read_40 rfl ?_
        refine j_istore_n (lv' := [(3, .int (0 : Int32)), (2, .ref (a0 50)), (0, .ref (a0 0)), (1, .int i1)]) K (by decide) rfl dX7_read_41 rfl ?_
        refine j_iconst (v := (0 : Int32)) K (by decide) dX7_read_42 rfl ?_
        refine j_istore (lv' := [(4, .int (0 : Int32)), (3, .int (0 : Int32)), (2, .ref (a0 50)), (0, .ref (a0 0)), (1, .int i1)]) K (by decide) rfl dX7_read_43 rfl ?_
        refine j_sub [3, 4, 2, 1, 0] (lv' := [(0, .ref (a0 0)), (1, .int i1), (2, .ref (a0 50)), (3, .int (0 : Int32)), (4, .int (0 : Int32))]) rfl ?_
        exact wX7_read_45_v2 K a0 c_room c_sh0_form c_sh1_form c_sh2_form c_sh3_form i1 c_sh0_size c_sh0_lost c_sh0_items c_sh1_size c_sh1_lost c_sh1_items c_sh2_size c_sh2_lost c_sh2_items c_sh3_size c_sh3_lost c_sh3_items o_r o_finding o_courseKnown o_settledByKnown o_events fei1 jF c_finding c_courseKnown c_settledByKnown c_events (0 : Int32) (0 : Int32) h
      · refine j_aload_n K 0 rfl dX7_read_24 rfl ?_
        refine j_iconst (v := (1 : Int32)) K (by decide) dX7_read_25 rfl ?_
        obtain ⟨r_33, c_finding_34, hc, h⟩ := bd2_some h
        refine j_callV (rest := []) (st1 := [.int r_33]) (ws' := (uX7_read cyI cyJ cyS a0 c_room c_finding_34 c_courseKnown c_settledByKnown c_events.1 c_events.2.1 c_events.2.2.1 c_events.2.2.2 c_sh0_form c_sh0_size c_sh0_lost c_sh0_items c_sh1_form c_sh1_size c_sh1_lost c_sh1_items c_sh2_form c_sh2_size c_sh2_lost c_sh2_items c_sh3_form c_sh3_size c_sh3_lost c_sh3_items)) (T := TX7) (N := 15) (ci := 7) K (ctX7_found l D cyI cyJ cyS a0 (1 : Int32) c_room c_courseKnown c_settledByKnown c_finding r_33 c_finding_34 hc) (gdV mcL mw_12_9 mw_12_10 mw_12_11 mw_1_2 mw_12_12) rfl ⟨rfl, rfl⟩ hyX7_found ⟨Nat.le_of_ble_eq_true rfl, Nat.le_of_ble_eq_true rfl, Nat.le_of_ble_eq_true rfl, Nat.le_of_ble_eq_true rfl⟩ [0] (by decide) rfl [some 0, none, none, none, none, none, none, none, none, none, none, none, none, none] (by decide) rfl rfl 0 rfl rfl rfl rfl (Nat.le_of_ble_eq_true rfl) dX7_read_26 rfl rfl ?_
        obtain ⟨e1, g1⟩ := Prod.mk.inj (Option.some.inj h)
        subst e1
        obtain ⟨e2, g2⟩ := Prod.mk.inj g1
        subst e2
        obtain ⟨e3, g3⟩ := Prod.mk.inj g2
        subst e3
        obtain ⟨e4, g4⟩ := Prod.mk.inj g3
        subst e4
        subst g4
        exact j_iret K dX7_read_29
    · refine j_aald (b := (a0 51)) K 5 2 rfl rfl (vin4_3 fei1) (by rw [fei1]; rfl) dX7_read_17 rfl ?_
      refine j_getf (C := RX4) (T := TX4) (N := 4) (ci := 4) K icX4 12 3 (List.mem_cons_of_mem _ mw_12_6) rfl rfl rfl (by decide) rfl dX7_read_18 rfl ?_
      refine j_if_eq (tgt := 30) K dX7_read_21 (by decide) rfl h (fun h => ?_) (fun h => ?_)
      · refine j_aload_n K 0 rfl dX7_read_30 rfl ?_
        refine j_getf (C := RX7) (T := TX7) (N := 15) (ci := 7) K icX7 0 8 (List.mem_cons_of_mem _ mw_2_15) rfl rfl rfl (by decide) rfl dX7_read_31 rfl ?_
        refine j_iload_n K 1 rfl dX7_read_34 rfl ?_
        refine j_aald (b := (a0 51)) K 5 2 rfl rfl (vin4_3 fei1) (by rw [fei1]; rfl) dX7_read_35 rfl ?_
        refine j_getf (C := RX4) (T := TX4) (N := 4) (ci := 4) K icX4 12 0 (List.mem_cons_of_mem _ mw_12_7) rfl rfl rfl (by decide) rfl dX7_read_36 rfl ?_
        refine j_astore_n (lv' := [(2, .ref (a0 52)), (0, .ref (a0 0)), (1, .int i1)]) K (by decide) rfl dX7_read_39 rfl ?_
        refine j_iconst (v := (0 : Int32)) K (by decide) dX7_read_40 rfl ?_
        refine j_istore_n (lv' := [(3, .int (0 : Int32)), (2, .ref (a0 52)), (0, .ref (a0 0)), (1, .int i1)]) K (by decide) rfl dX7_read_41 rfl ?_
        refine j_iconst (v := (0 : Int32)) K (by decide) dX7_read_42 rfl ?_
        refine j_istore (lv' := [(4, .int (0 : Int32)), (3, .int (0 : Int32)), (2, .ref (a0 52)), (0, .ref (a0 0)), (1, .int i1)]) K (by decide) rfl dX7_read_43 rfl ?_
        refine j_sub [3, 4, 2, 1, 0] (lv' := [(0, .ref (a0 0)), (1, .int i1), (2, .ref (a0 52)), (3, .int (0 : Int32)), (4, .int (0 : Int32))]) rfl ?_
        exact wX7_read_45_v3 K a0 c_room c_sh0_form c_sh1_form c_sh2_form c_sh3_form i1 c_sh0_size c_sh0_lost c_sh0_items c_sh1_size c_sh1_lost c_sh1_items c_sh2_size c_sh2_lost c_sh2_items c_sh3_size c_sh3_lost c_sh3_items o_r o_finding o_courseKnown o_settledByKnown o_events fei1 jF c_finding c_courseKnown c_settledByKnown c_events (0 : Int32) (0 : Int32) h
      · refine j_aload_n K 0 rfl dX7_read_24 rfl ?_
        refine j_iconst (v := (1 : Int32)) K (by decide) dX7_read_25 rfl ?_
        obtain ⟨r_44, c_finding_45, hc, h⟩ := bd2_some h
        refine j_callV (rest := []) (st1 := [.int r_44]) (ws' := (uX7_read cyI cyJ cyS a0 c_room c_finding_45 c_courseKnown c_settledByKnown c_events.1 c_events.2.1 c_events.2.2.1 c_events.2.2.2 c_sh0_form c_sh0_size c_sh0_lost c_sh0_items c_sh1_form c_sh1_size c_sh1_lost c_sh1_items c_sh2_form c_sh2_size c_sh2_lost c_sh2_items c_sh3_form c_sh3_size c_sh3_lost c_sh3_items)) (T := TX7) (N := 15) (ci := 7) K (ctX7_found l D cyI cyJ cyS a0 (1 : Int32) c_room c_courseKnown c_settledByKnown c_finding r_44 c_finding_45 hc) (gdV mcL mw_12_9 mw_12_10 mw_12_11 mw_1_2 mw_12_12) rfl ⟨rfl, rfl⟩ hyX7_found ⟨Nat.le_of_ble_eq_true rfl, Nat.le_of_ble_eq_true rfl, Nat.le_of_ble_eq_true rfl, Nat.le_of_ble_eq_true rfl⟩ [0] (by decide) rfl [some 0, none, none, none, none, none, none, none, none, none, none, none, none, none] (by decide) rfl rfl 0 rfl rfl rfl rfl (Nat.le_of_ble_eq_true rfl) dX7_read_26 rfl rfl ?_
        obtain ⟨e1, g1⟩ := Prod.mk.inj (Option.some.inj h)
        subst e1
        obtain ⟨e2, g2⟩ := Prod.mk.inj g1
        subst e2
        obtain ⟨e3, g3⟩ := Prod.mk.inj g2
        subst e3
        obtain ⟨e4, g4⟩ := Prod.mk.inj g3
        subst e4
        subst g4
        exact j_iret K dX7_read_29
  · refine j_bipush (v := (-2 : Int32)) K (by decide) dX7_read_9 rfl ?_
    obtain ⟨e1, g1⟩ := Prod.mk.inj (Option.some.inj h)
    subst e1
    obtain ⟨e2, g2⟩ := Prod.mk.inj g1
    subst e2
    obtain ⟨e3, g3⟩ := Prod.mk.inj g2
    subst e3
    obtain ⟨e4, g4⟩ := Prod.mk.inj g3
    subst e4
    subst g4
    exact j_iret K dX7_read_11
end GEN
