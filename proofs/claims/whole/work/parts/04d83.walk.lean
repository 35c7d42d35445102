section GEN
variable {p : Program} {l : Launch} {e : Env} {s : State} {m : MethodId} {args : Array Value} {below : List Frame} {meth : Method} {c : Code} {A : Nat → Prop} {D : va_G} {cyI cyJ cyS : ClassId}
abbrev uX8_count (cyI cyJ cyS : ClassId) (a0 : Nat → Nat) (c_latest : Int32) (c_typed : Int32) (c_tenants : Int32) (c_room : Int32) (c_events : Int32) (c_gone : Int32) (c_audit : Int32) (c_sights : Int32) (c_drawn : Int32) (c_bytes : Nat → Int32) (c_tenant : Nat → Int32) (c_event : Nat → Int32) (c_floor : Nat → Int32) (c_before : Nat → Int32) (c_left : Nat → Int32) (c_settled : Nat → Int32) (c_fell : Nat → Int32) (c_past : Nat → Int32) (c_highest : Nat → Int32) (c_many : Nat → Int32) (c_floorBy : Nat → Int32) (c_leftBy : Nat → Int32) (c_fellBy : Nat → Int32) : va_W := [((a0 0), .inr (8, [.ref (a0 1), .ref (a0 2), .ref (a0 3), .ref (a0 4), .int c_latest, .ref (a0 5), .int c_typed, .int c_tenants, .ref (a0 6), .int c_room, .int c_events, .ref (a0 7), .int c_gone, .ref (a0 8), .ref (a0 9), .ref (a0 10), .ref (a0 11), .ref (a0 12), .ref (a0 13), .ref (a0 14), .ref (a0 15), .ref (a0 16), .ref (a0 17), .ref (a0 18), .int c_audit, .int c_sights, .ref (a0 19), .ref (a0 20), .int c_drawn])), ((a0 5), .inl (cyI, 31, .inl c_bytes)), ((a0 6), .inl (cyI, 24, .inl c_tenant)), ((a0 7), .inl (cyI, 24, .inl c_event)), ((a0 8), .inl (cyI, 8, .inl c_floor)), ((a0 9), .inl (cyI, 8, .inl c_before)), ((a0 10), .inl (cyI, 8, .inl c_left)), ((a0 11), .inl (cyI, 8, .inl c_settled)), ((a0 12), .inl (cyI, 8, .inl c_fell)), ((a0 13), .inl (cyI, 8, .inl c_past)), ((a0 14), .inl (cyI, 8, .inl c_highest)), ((a0 15), .inl (cyI, 13, .inl c_many)), ((a0 16), .inl (cyI, 192, .inl c_floorBy)), ((a0 17), .inl (cyI, 192, .inl c_leftBy)), ((a0 18), .inl (cyI, 192, .inl c_fellBy))]
abbrev rmX8_count : Room := { frames := 6, cells := 0, slots := 0, locals := 134 }
abbrev wdX8_count : List Cond := .code yX8_count cX8_count 2 (some .int) :: wsL_law
theorem hyX8_count : yX8_count.cls = RX8 ∧ yX8_count.cls ≠ "java/lang/invoke/MethodHandle" ∧ yX8_count.cls ≠ "java/lang/invoke/VarHandle" ∧ (parseMethodDescriptor yX8_count.desc).map (fun d => d.parameters.length) = some 1 := by decide +kernel
set_option maxRecDepth 100000 in
set_option maxHeartbeats 4000000 in
theorem ctX8_count (l : Launch) (D : va_G) (cyI cyJ cyS : ClassId) (a0 : Nat → Nat) (i1 : Int32) (c_drawn : Int32) (c_latest : Int32) (c_typed : Int32) (c_room : Int32) (c_events : Int32) (c_gone : Int32) (c_sights : Int32) (c_bytes : Nat → Int32) (c_event : Nat → Int32) (c_tenants : Int32) (c_sim : jT11) (c_tenant : Nat → Int32) (o_r : Int32) (o_tenants : Int32) (o_sim : jT11) (o_tenant : Nat → Int32) (h : fX8_count i1 c_latest c_typed c_room c_events c_gone c_sights c_bytes c_event c_tenants c_sim c_tenant = some (o_r, o_tenants, o_sim, o_tenant)) : jC l yX8_count wdX8_count rmX8_count D vwCl (tyz cyI cyJ cyS) [.ref (a0 0), .int i1] (uX8_count cyI cyJ cyS a0 c_latest c_typed c_tenants c_room c_events c_gone c_sim.1 c_sights c_drawn c_bytes c_tenant c_event c_sim.2.1 c_sim.2.2.1 c_sim.2.2.2.1 c_sim.2.2.2.2.1 c_sim.2.2.2.2.2.1 c_sim.2.2.2.2.2.2.1 c_sim.2.2.2.2.2.2.2.1 c_sim.2.2.2.2.2.2.2.2.1 c_sim.2.2.2.2.2.2.2.2.2.1 c_sim.2.2.2.2.2.2.2.2.2.2.1 c_sim.2.2.2.2.2.2.2.2.2.2.2) (some (.int o_r)) (uX8_count cyI cyJ cyS a0 c_latest c_typed o_tenants c_room c_events c_gone o_sim.1 c_sights c_drawn c_bytes o_tenant c_event o_sim.2.1 o_sim.2.2.1 o_sim.2.2.2.1 o_sim.2.2.2.2.1 o_sim.2.2.2.2.2.1 o_sim.2.2.2.2.2.2.1 o_sim.2.2.2.2.2.2.2.1 o_sim.2.2.2.2.2.2.2.2.1 o_sim.2.2.2.2.2.2.2.2.2.1 o_sim.2.2.2.2.2.2.2.2.2.2.1 o_sim.2.2.2.2.2.2.2.2.2.2.2) := by
  refine jC_of (cc := cX8_count) (nL := 2) (ret := (some .int)) (own := RX8) (lv := [(0, .ref (a0 0)), (1, .int i1)]) (by decide) rfl rfl (Nat.le_of_ble_eq_true rfl) rfl ?_
  intro p e s m args below meth c A K
  unfold fX8_count at h
  refine j_aload_n K 0 rfl dX8_count_0 rfl ?_
  obtain ⟨c_tenants_1, c_sim_2, c_tenant_3, hc, h⟩ := bd3_some h
  refine j_callV (rest := []) (st1 := []) (ws' := (uX8_count cyI cyJ cyS a0 c_latest c_typed c_tenants_1 c_room c_events c_gone c_sim_2.1 c_sights c_drawn c_bytes c_tenant_3 c_event c_sim_2.2.1 c_sim_2.2.2.1 c_sim_2.2.2.2.1 c_sim_2.2.2.2.2.1 c_sim_2.2.2.2.2.2.1 c_sim_2.2.2.2.2.2.2.1 c_sim_2.2.2.2.2.2.2.2.1 c_sim_2.2.2.2.2.2.2.2.2.1 c_sim_2.2.2.2.2.2.2.2.2.2.1 c_sim_2.2.2.2.2.2.2.2.2.2.2.1 c_sim_2.2.2.2.2.2.2.2.2.2.2.2)) (T := TX8) (N := 29) (ci := 8) K (ctX8_find l D cyI cyJ cyS a0 c_latest c_sights c_drawn c_typed c_room c_events c_gone c_bytes c_event c_tenants c_sim c_tenant c_tenants_1 c_sim_2 c_tenant_3 hc) (gdV mcL mw_17_12 mw_17_13 mw_17_14 mw_1_5 mw_17_15) rfl ⟨rfl, rfl⟩ hyX8_find ⟨Nat.le_of_ble_eq_true rfl, Nat.le_of_ble_eq_true rfl, Nat.le_of_ble_eq_true rfl, Nat.le_of_ble_eq_true rfl⟩ [0, 1, 2, 3, 4, 5, 6, 7, 8, 9, 10, 11, 12, 13, 14] (by decide) rfl [some 0, some 1, some 2, some 3, some 4, some 5, some 6, some 7, some 8, some 9, some 10, some 11, some 12, some 13, some 14] (by decide) rfl rfl 0 rfl rfl rfl rfl (Nat.le_of_ble_eq_true rfl) dX8_count_1 rfl rfl ?_
  refine j_iload_n K 1 rfl dX8_count_4 rfl ?_
  by_cases c0 : i1 = (0 : Int32)
  · rw [if_pos c0] at h
    refine j_tableIn (off := 51) (tgt := 56) K (by rw [c0]; decide) (by rw [c0]; decide) (by rw [c0]; first | done | rfl) dX8_count_5 (by decide) ?_
    refine j_aload_n K 0 rfl dX8_count_56 rfl ?_
    refine j_getf (C := RX8) (T := TX8) (N := 29) (ci := 8) K icX8 0 7 (List.mem_cons_of_mem _ mw_9_6) rfl rfl rfl (by decide) rfl dX8_count_57 rfl ?_
    obtain ⟨e1, g1⟩ := Prod.mk.inj (Option.some.inj h)
    subst e1
    obtain ⟨e2, g2⟩ := Prod.mk.inj g1
    subst e2
    obtain ⟨e3, g3⟩ := Prod.mk.inj g2
    subst e3
    subst g3
    exact j_iret K dX8_count_60
  · rw [if_neg c0] at h
    by_cases c1 : i1 = (1 : Int32)
    · rw [if_pos c1] at h
      refine j_tableIn (off := 56) (tgt := 61) K (by rw [c1]; decide) (by rw [c1]; decide) (by rw [c1]; first | done | rfl) dX8_count_5 (by decide) ?_
      refine j_aload_n K 0 rfl dX8_count_61 rfl ?_
      refine j_getf (C := RX8) (T := TX8) (N := 29) (ci := 8) K icX8 0 6 (List.mem_cons_of_mem _ mw_7_21) rfl rfl rfl (by decide) rfl dX8_count_62 rfl ?_
      obtain ⟨e1, g1⟩ := Prod.mk.inj (Option.some.inj h)
      subst e1
      obtain ⟨e2, g2⟩ := Prod.mk.inj g1
      subst e2
      obtain ⟨e3, g3⟩ := Prod.mk.inj g2
      subst e3
      subst g3
      exact j_iret K dX8_count_65
    · rw [if_neg c1] at h
      by_cases c2 : i1 = (2 : Int32)
      · rw [if_pos c2] at h
        refine j_tableIn (off := 61) (tgt := 66) K (by rw [c2]; decide) (by rw [c2]; decide) (by rw [c2]; first | done | rfl) dX8_count_5 (by decide) ?_
        refine j_aload_n K 0 rfl dX8_count_66 rfl ?_
        refine j_getf (C := RX8) (T := TX8) (N := 29) (ci := 8) K icX8 0 10 (List.mem_cons_of_mem _ mw_11_13) rfl rfl rfl (by decide) rfl dX8_count_67 rfl ?_
        obtain ⟨e1, g1⟩ := Prod.mk.inj (Option.some.inj h)
        subst e1
        obtain ⟨e2, g2⟩ := Prod.mk.inj g1
        subst e2
        obtain ⟨e3, g3⟩ := Prod.mk.inj g2
        subst e3
        subst g3
        exact j_iret K dX8_count_70
      · rw [if_neg c2] at h
        by_cases c3 : i1 = (3 : Int32)
        · rw [if_pos c3] at h
          refine j_tableIn (off := 66) (tgt := 71) K (by rw [c3]; decide) (by rw [c3]; decide) (by rw [c3]; first | done | rfl) dX8_count_5 (by decide) ?_
          refine j_aload_n K 0 rfl dX8_count_71 rfl ?_
          obtain ⟨r_4, hc, h⟩ := bd1_some h
          refine j_callV (rest := []) (st1 := [.int r_4]) (ws' := (uX8_count cyI cyJ cyS a0 c_latest c_typed c_tenants_1 c_room c_events c_gone c_sim_2.1 c_sights c_drawn c_bytes c_tenant_3 c_event c_sim_2.2.1 c_sim_2.2.2.1 c_sim_2.2.2.2.1 c_sim_2.2.2.2.2.1 c_sim_2.2.2.2.2.2.1 c_sim_2.2.2.2.2.2.2.1 c_sim_2.2.2.2.2.2.2.2.1 c_sim_2.2.2.2.2.2.2.2.2.1 c_sim_2.2.2.2.2.2.2.2.2.2.1 c_sim_2.2.2.2.2.2.2.2.2.2.2.1 c_sim_2.2.2.2.2.2.2.2.2.2.2.2)) (T := TX8) (N := 29) (ci := 8) K (ctX8_manySettled l D cyI cyJ cyS a0 c_latest c_typed c_room c_events c_gone c_sim_2.1 c_sights c_drawn c_tenants_1 c_sim_2.2.2.2.2.1 r_4 hc) (gdV mcL mw_23_14 mw_23_15 mw_23_16 mw_1_5 mw_23_17) rfl ⟨rfl, rfl⟩ hyX8_manySettled ⟨Nat.le_of_ble_eq_true rfl, Nat.le_of_ble_eq_true rfl, Nat.le_of_ble_eq_true rfl, Nat.le_of_ble_eq_true rfl⟩ [0, 7] (by decide) rfl [some 0, none, none, none, none, none, none, some 1, none, none, none, none, none, none, none] (by decide) rfl rfl 0 rfl rfl rfl rfl (Nat.le_of_ble_eq_true rfl) dX8_count_72 rfl rfl ?_
          obtain ⟨e1, g1⟩ := Prod.mk.inj (Option.some.inj h)
          subst e1
          obtain ⟨e2, g2⟩ := Prod.mk.inj g1
          subst e2
          obtain ⟨e3, g3⟩ := Prod.mk.inj g2
          subst e3
          subst g3
          exact j_iret K dX8_count_75
        · rw [if_neg c3] at h
          by_cases c4 : i1 = (4 : Int32)
          · rw [if_pos c4] at h
            refine j_tableIn (off := 71) (tgt := 76) K (by rw [c4]; decide) (by rw [c4]; decide) (by rw [c4]; first | done | rfl) dX8_count_5 (by decide) ?_
            refine j_aload_n K 0 rfl dX8_count_76 rfl ?_
            obtain ⟨r_5, hc, h⟩ := bd1_some h
            refine j_callV (rest := []) (st1 := [.int r_5]) (ws' := (uX8_count cyI cyJ cyS a0 c_latest c_typed c_tenants_1 c_room c_events c_gone c_sim_2.1 c_sights c_drawn c_bytes c_tenant_3 c_event c_sim_2.2.1 c_sim_2.2.2.1 c_sim_2.2.2.2.1 c_sim_2.2.2.2.2.1 c_sim_2.2.2.2.2.2.1 c_sim_2.2.2.2.2.2.2.1 c_sim_2.2.2.2.2.2.2.2.1 c_sim_2.2.2.2.2.2.2.2.2.1 c_sim_2.2.2.2.2.2.2.2.2.2.1 c_sim_2.2.2.2.2.2.2.2.2.2.2.1 c_sim_2.2.2.2.2.2.2.2.2.2.2.2)) (T := TX8) (N := 29) (ci := 8) K (ctX8_allFell l D cyI cyJ cyS a0 c_latest c_typed c_room c_events c_gone c_sim_2.1 c_sights c_drawn c_tenants_1 c_sim_2.2.2.2.2.2.1 r_5 hc) (gdV mcL mw_23_18 mw_23_19 mw_23_20 mw_1_5 mw_23_21) rfl ⟨rfl, rfl⟩ hyX8_allFell ⟨Nat.le_of_ble_eq_true rfl, Nat.le_of_ble_eq_true rfl, Nat.le_of_ble_eq_true rfl, Nat.le_of_ble_eq_true rfl⟩ [0, 8] (by decide) rfl [some 0, none, none, none, none, none, none, none, some 1, none, none, none, none, none, none] (by decide) rfl rfl 0 rfl rfl rfl rfl (Nat.le_of_ble_eq_true rfl) dX8_count_77 rfl rfl ?_
            obtain ⟨e1, g1⟩ := Prod.mk.inj (Option.some.inj h)
            subst e1
            obtain ⟨e2, g2⟩ := Prod.mk.inj g1
            subst e2
            obtain ⟨e3, g3⟩ := Prod.mk.inj g2
            subst e3
            subst g3
            exact j_iret K dX8_count_80
          · rw [if_neg c4] at h
            by_cases c5 : i1 = (5 : Int32)
            · rw [if_pos c5] at h
              refine j_tableIn (off := 76) (tgt := 81) K (by rw [c5]; decide) (by rw [c5]; decide) (by rw [c5]; first | done | rfl) dX8_count_5 (by decide) ?_
              refine j_aload_n K 0 rfl dX8_count_81 rfl ?_
              refine j_getf (C := RX8) (T := TX8) (N := 29) (ci := 8) K icX8 0 9 (List.mem_cons_of_mem _ mw_6_5) rfl rfl rfl (by decide) rfl dX8_count_82 rfl ?_
              obtain ⟨e1, g1⟩ := Prod.mk.inj (Option.some.inj h)
              subst e1
              obtain ⟨e2, g2⟩ := Prod.mk.inj g1
              subst e2
              obtain ⟨e3, g3⟩ := Prod.mk.inj g2
              subst e3
              subst g3
              exact j_iret K dX8_count_85
            · rw [if_neg c5] at h
              by_cases c6 : i1 = (6 : Int32)
              · rw [if_pos c6] at h
                refine j_tableIn (off := 81) (tgt := 86) K (by rw [c6]; decide) (by rw [c6]; decide) (by rw [c6]; first | done | rfl) dX8_count_5 (by decide) ?_
                refine j_aload_n K 0 rfl dX8_count_86 rfl ?_
                obtain ⟨r_6, hc, h⟩ := bd1_some h
                refine j_callV (rest := []) (st1 := [.int r_6]) (ws' := (uX8_count cyI cyJ cyS a0 c_latest c_typed c_tenants_1 c_room c_events c_gone c_sim_2.1 c_sights c_drawn c_bytes c_tenant_3 c_event c_sim_2.2.1 c_sim_2.2.2.1 c_sim_2.2.2.2.1 c_sim_2.2.2.2.2.1 c_sim_2.2.2.2.2.2.1 c_sim_2.2.2.2.2.2.2.1 c_sim_2.2.2.2.2.2.2.2.1 c_sim_2.2.2.2.2.2.2.2.2.1 c_sim_2.2.2.2.2.2.2.2.2.2.1 c_sim_2.2.2.2.2.2.2.2.2.2.2.1 c_sim_2.2.2.2.2.2.2.2.2.2.2.2)) (T := TX8) (N := 29) (ci := 8) K (ctX8_manyHoused l D cyI cyJ cyS a0 c_latest c_typed c_room c_events c_gone c_sim_2.1 c_sights c_drawn c_tenants_1 c_sim_2.2.1 r_6 hc) (gdV mcL mw_40_8 mw_40_9 mw_40_10 mw_1_5 mw_40_11) rfl ⟨rfl, rfl⟩ hyX8_manyHoused ⟨Nat.le_of_ble_eq_true rfl, Nat.le_of_ble_eq_true rfl, Nat.le_of_ble_eq_true rfl, Nat.le_of_ble_eq_true rfl⟩ [0, 4] (by decide) rfl [some 0, none, none, none, some 1, none, none, none, none, none, none, none, none, none, none] (by decide) rfl rfl 0 rfl rfl rfl rfl (Nat.le_of_ble_eq_true rfl) dX8_count_87 rfl rfl ?_
                obtain ⟨e1, g1⟩ := Prod.mk.inj (Option.some.inj h)
                subst e1
                obtain ⟨e2, g2⟩ := Prod.mk.inj g1
                subst e2
                obtain ⟨e3, g3⟩ := Prod.mk.inj g2
                subst e3
                subst g3
                exact j_iret K dX8_count_90
              · rw [if_neg c6] at h
                by_cases c7 : i1 = (7 : Int32)
                · rw [if_pos c7] at h
                  refine j_tableIn (off := 86) (tgt := 91) K (by rw [c7]; decide) (by rw [c7]; decide) (by rw [c7]; first | done | rfl) dX8_count_5 (by decide) ?_
                  refine j_aload_n K 0 rfl dX8_count_91 rfl ?_
                  refine j_getf (C := RX8) (T := TX8) (N := 29) (ci := 8) K icX8 0 25 (List.mem_cons_of_mem _ mw_30_6) rfl rfl rfl (by decide) rfl dX8_count_92 rfl ?_
                  obtain ⟨e1, g1⟩ := Prod.mk.inj (Option.some.inj h)
                  subst e1
                  obtain ⟨e2, g2⟩ := Prod.mk.inj g1
                  subst e2
                  obtain ⟨e3, g3⟩ := Prod.mk.inj g2
                  subst e3
                  subst g3
                  exact j_iret K dX8_count_95
                · rw [if_neg c7] at h
                  by_cases c8 : i1 = (8 : Int32)
                  · rw [if_pos c8] at h
                    refine j_tableIn (off := 91) (tgt := 96) K (by rw [c8]; decide) (by rw [c8]; decide) (by rw [c8]; first | done | rfl) dX8_count_5 (by decide) ?_
                    refine j_aload_n K 0 rfl dX8_count_96 rfl ?_
                    refine j_getf (C := RX8) (T := TX8) (N := 29) (ci := 8) K icX8 0 4 (List.mem_cons_of_mem _ mw_13_2) rfl rfl rfl (by decide) rfl dX8_count_97 rfl ?_
                    obtain ⟨e1, g1⟩ := Prod.mk.inj (Option.some.inj h)
                    subst e1
                    obtain ⟨e2, g2⟩ := Prod.mk.inj g1
                    subst e2
                    obtain ⟨e3, g3⟩ := Prod.mk.inj g2
                    subst e3
                    subst g3
                    exact j_iret K dX8_count_100
                  · rw [if_neg c8] at h
                    refine j_tableOut (tgt := 101) K (by have e0 := lv_neT (a := 0) c0 (by decide); have e1 := lv_neT (a := 1) c1 (by decide); have e2 := lv_neT (a := 2) c2 (by decide); have e3 := lv_neT (a := 3) c3 (by decide); have e4 := lv_neT (a := 4) c4 (by decide); have e5 := lv_neT (a := 5) c5 (by decide); have e6 := lv_neT (a := 6) c6 (by decide); have e7 := lv_neT (a := 7) c7 (by decide); have e8 := lv_neT (a := 8) c8 (by decide); omega) dX8_count_5 (by decide) ?_
                    refine j_bipush (v := (-2 : Int32)) K (by decide) dX8_count_101 rfl ?_
                    obtain ⟨e1, g1⟩ := Prod.mk.inj (Option.some.inj h)
                    subst e1
                    obtain ⟨e2, g2⟩ := Prod.mk.inj g1
                    subst e2
                    obtain ⟨e3, g3⟩ := Prod.mk.inj g2
                    subst e3
                    subst g3
                    exact j_iret K dX8_count_103
end GEN
