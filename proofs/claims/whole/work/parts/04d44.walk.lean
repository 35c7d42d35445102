section GEN
variable {p : Program} {l : Launch} {e : Env} {s : State} {m : MethodId} {args : Array Value} {below : List Frame} {meth : Method} {c : Code} {A : Nat → Prop} {D : va_G} {cyI cyJ cyS : ClassId}
abbrev uX8_tenantOf (cyI cyJ cyS : ClassId) : va_W := []
abbrev rmX8_tenantOf : Room := { frames := 1, cells := 0, slots := 0, locals := 25 }
abbrev wdX8_tenantOf : List Cond := .code yX8_tenantOf cX8_tenantOf 2 (some .int) :: wsL_law
theorem hzX8_tenantOf : yX8_tenantOf.cls ≠ "java/lang/invoke/MethodHandle" ∧ yX8_tenantOf.cls ≠ "java/lang/invoke/VarHandle" ∧ (parseMethodDescriptor yX8_tenantOf.desc).map (fun d => d.parameters.length) = some 2 := by decide +kernel
set_option maxRecDepth 100000 in
set_option maxHeartbeats 4000000 in
theorem ctX8_tenantOf (l : Launch) (D : va_G) (cyI cyJ cyS : ClassId) (i0 : Int32) (i1 : Int32) (o_r : Int32) (h : fX8_tenantOf i0 i1 = some (o_r)) : jC l yX8_tenantOf wdX8_tenantOf rmX8_tenantOf D vwCl (tyz cyI cyJ cyS) [.int i0, .int i1] (uX8_tenantOf cyI cyJ cyS ) (some (.int o_r)) (uX8_tenantOf cyI cyJ cyS ) := by
  refine jC_of (cc := cX8_tenantOf) (nL := 2) (ret := (some .int)) (own := RX8) (lv := [(0, .int i0), (1, .int i1)]) (by decide) rfl rfl (Nat.le_of_ble_eq_true rfl) rfl ?_
  intro p e s m args below meth c A K
  unfold fX8_tenantOf at h
  refine j_iload_n K 0 rfl dX8_tenantOf_0 rfl ?_
  by_cases c0 : i0 = (0 : Int32)
  · rw [if_pos c0] at h
    refine j_lookup (off := 27) (tgt := 28) K (by decide) (by rw [c0]; first | done | decide) dX8_tenantOf_1 (by decide) ?_
    refine j_iload_n K 1 rfl dX8_tenantOf_28 rfl ?_
    refine j_bipush (v := (111 : Int32)) K (by decide) dX8_tenantOf_29 rfl ?_
    refine j_icmp_ne (tgt := 38) K dX8_tenantOf_31 (by decide) rfl h (fun h => ?_) (fun h => ?_)
    · refine j_iload_n K 1 rfl dX8_tenantOf_38 rfl ?_
      refine j_bipush (v := (112 : Int32)) K (by decide) dX8_tenantOf_39 rfl ?_
      refine j_icmp_ne (tgt := 48) K dX8_tenantOf_41 (by decide) rfl h (fun h => ?_) (fun h => ?_)
      · refine j_iload_n K 1 rfl dX8_tenantOf_48 rfl ?_
        refine j_bipush (v := (99 : Int32)) K (by decide) dX8_tenantOf_49 rfl ?_
        refine j_icmp_ne (tgt := 58) K dX8_tenantOf_51 (by decide) rfl h (fun h => ?_) (fun h => ?_)
        · refine j_iload_n K 1 rfl dX8_tenantOf_58 rfl ?_
          refine j_bipush (v := (114 : Int32)) K (by decide) dX8_tenantOf_59 rfl ?_
          refine j_icmp_ne (tgt := 68) K dX8_tenantOf_61 (by decide) rfl h (fun h => ?_) (fun h => ?_)
          · refine j_bipush (v := (-9 : Int32)) K (by decide) dX8_tenantOf_68 rfl ?_
            have h := Option.some.inj h
            subst h
            exact j_iret K dX8_tenantOf_70
          · refine j_iconst (v := (3 : Int32)) K (by decide) dX8_tenantOf_64 rfl ?_
            refine j_goto (pc' := 70) K dX8_tenantOf_65 (by decide) ?_
            have h := Option.some.inj h
            subst h
            exact j_iret K dX8_tenantOf_70
        · refine j_iconst (v := (2 : Int32)) K (by decide) dX8_tenantOf_54 rfl ?_
          refine j_goto (pc' := 70) K dX8_tenantOf_55 (by decide) ?_
          have h := Option.some.inj h
          subst h
          exact j_iret K dX8_tenantOf_70
      · refine j_iconst (v := (1 : Int32)) K (by decide) dX8_tenantOf_44 rfl ?_
        refine j_goto (pc' := 70) K dX8_tenantOf_45 (by decide) ?_
        have h := Option.some.inj h
        subst h
        exact j_iret K dX8_tenantOf_70
    · refine j_iconst (v := (0 : Int32)) K (by decide) dX8_tenantOf_34 rfl ?_
      refine j_goto (pc' := 70) K dX8_tenantOf_35 (by decide) ?_
      have h := Option.some.inj h
      subst h
      exact j_iret K dX8_tenantOf_70
  · rw [if_neg c0] at h
    by_cases c1 : i0 = (3 : Int32)
    · rw [if_pos c1] at h
      refine j_lookup (off := 70) (tgt := 71) K (by decide) (by rw [c1]; first | done | decide) dX8_tenantOf_1 (by decide) ?_
      refine j_iload_n K 1 rfl dX8_tenantOf_71 rfl ?_
      refine j_bipush (v := (59 : Int32)) K (by decide) dX8_tenantOf_72 rfl ?_
      refine j_icmp_ne (tgt := 81) K dX8_tenantOf_74 (by decide) rfl h (fun h => ?_) (fun h => ?_)
      · refine j_bipush (v := (-9 : Int32)) K (by decide) dX8_tenantOf_81 rfl ?_
        have h := Option.some.inj h
        subst h
        exact j_iret K dX8_tenantOf_83
      · refine j_iconst (v := (0 : Int32)) K (by decide) dX8_tenantOf_77 rfl ?_
        refine j_goto (pc' := 83) K dX8_tenantOf_78 (by decide) ?_
        have h := Option.some.inj h
        subst h
        exact j_iret K dX8_tenantOf_83
    · rw [if_neg c1] at h
      refine j_lookup (off := 83) (tgt := 84) K (by decide) (by show Op.lookupswitch.offset [(0, 27), (3, 70)] 83 _ = _; rw [lv_osw c0 (by decide), lv_osw c1 (by decide)]; first | done | rfl) dX8_tenantOf_1 (by decide) ?_
      refine j_iload_n K 1 rfl dX8_tenantOf_84 rfl ?_
      refine j_i2l K dX8_tenantOf_85 rfl ?_
      refine j_ldc2 (v := (48 : Int64)) K (List.mem_cons_of_mem _ mw_9_10) dX8_tenantOf_86 rfl ?_
      refine j_ldc2 (v := (57 : Int64)) K (List.mem_cons_of_mem _ mw_9_11) dX8_tenantOf_89 rfl ?_
      obtain ⟨r_1, hc, h⟩ := bd1_some h
      refine j_callS (rest := []) (st1 := [.int r_1]) (ws' := (uX8_tenantOf cyI cyJ cyS )) K (ctX8_in l D cyI cyJ cyS (Int32.toInt64 i1) (48 : Int64) (57 : Int64) r_1 hc) (gdS mcL mw_7_22 mw_7_23 mw_1_5 mw_8_0) rfl ⟨rfl, rfl⟩ hzX8_in ⟨Nat.le_of_ble_eq_true rfl, Nat.le_of_ble_eq_true rfl, Nat.le_of_ble_eq_true rfl, Nat.le_of_ble_eq_true rfl⟩ [] (by decide) rfl [] (by decide) rfl rfl rfl rfl (Nat.le_of_ble_eq_true rfl) dX8_tenantOf_92 rfl rfl ?_
      refine j_if_eq (tgt := 105) K dX8_tenantOf_95 (by decide) rfl h (fun h => ?_) (fun h => ?_)
      · refine j_bipush (v := (-9 : Int32)) K (by decide) dX8_tenantOf_105 rfl ?_
        have h := Option.some.inj h
        subst h
        exact j_iret K dX8_tenantOf_107
      · refine j_iload_n K 1 rfl dX8_tenantOf_98 rfl ?_
        refine j_bipush (v := (48 : Int32)) K (by decide) dX8_tenantOf_99 rfl ?_
        refine j_isub K dX8_tenantOf_101 rfl ?_
        refine j_goto (pc' := 107) K dX8_tenantOf_102 (by decide) ?_
        have h := Option.some.inj h
        subst h
        exact j_iret K dX8_tenantOf_107
end GEN
