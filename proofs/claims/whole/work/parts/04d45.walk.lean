section GEN
variable {p : Program} {l : Launch} {e : Env} {s : State} {m : MethodId} {args : Array Value} {below : List Frame} {meth : Method} {c : Code} {A : Nat → Prop} {D : va_G} {cyI cyJ cyS : ClassId}
abbrev uX8_reads (cyI cyJ cyS : ClassId) (a0 : Nat → Nat) (c_latest : Int32) (c_typed : Int32) (c_tenants : Int32) (c_room : Int32) (c_events : Int32) (c_gone : Int32) (c_audit : Int32) (c_sights : Int32) (c_drawn : Int32) (c_bytes : Nat → Int32) (c_tenant : Nat → Int32) : va_W := [((a0 0), .inr (8, [.ref (a0 1), .ref (a0 2), .ref (a0 3), .ref (a0 4), .int c_latest, .ref (a0 5), .int c_typed, .int c_tenants, .ref (a0 6), .int c_room, .int c_events, .ref (a0 7), .int c_gone, .ref (a0 8), .ref (a0 9), .ref (a0 10), .ref (a0 11), .ref (a0 12), .ref (a0 13), .ref (a0 14), .ref (a0 15), .ref (a0 16), .ref (a0 17), .ref (a0 18), .int c_audit, .int c_sights, .ref (a0 19), .ref (a0 20), .int c_drawn])), ((a0 5), .inl (cyI, 31, .inl c_bytes)), ((a0 6), .inl (cyI, 24, .inl c_tenant))]
abbrev rmX8_reads : Room := { frames := 2, cells := 0, slots := 0, locals := 46 }
abbrev wdX8_reads : List Cond := .code yX8_reads cX8_reads 4 (some .int) :: wsL_law
theorem hyX8_reads : yX8_reads.cls = RX8 ∧ yX8_reads.cls ≠ "java/lang/invoke/MethodHandle" ∧ yX8_reads.cls ≠ "java/lang/invoke/VarHandle" ∧ (parseMethodDescriptor yX8_reads.desc).map (fun d => d.parameters.length) = some 0 := by decide +kernel
set_option maxRecDepth 100000 in
set_option maxHeartbeats 4000000 in
theorem wX8_reads_76 (K : jK p s m args meth c A D vwCl (tyz cyI cyJ cyS) cX8_reads 4 RX8 wdX8_reads (some .int)) (a0 : Nat → Nat) (c_latest : Int32) (c_room : Int32) (c_events : Int32) (c_gone : Int32) (c_audit : Int32) (c_sights : Int32) (c_drawn : Int32) (c_typed : Int32) (c_bytes : Nat → Int32) (o_r : Int32) (o_tenants : Int32) (o_tenant : Nat → Int32)  (q_7 : Int32 → (Nat → Int32) → Int32 → (Option (Int32 × Int32 × (Nat → Int32)))) (hq_7 : ∀ (c_tenants : Int32) (c_tenant : Nat → Int32) (i1 : Int32), q_7 c_tenants c_tenant i1 = some (o_r, o_tenants, o_tenant) → jw p l e rmX8_reads s m args below meth c (jQ below args s A D vwCl (tyz cyI cyJ cyS) 0 0 (some (.int o_r)) (uX8_reads cyI cyJ cyS a0 c_latest c_typed o_tenants c_room c_events c_gone c_audit c_sights c_drawn c_bytes o_tenant)) A D vwCl 4 0 0 7 [(0, .ref (a0 0)), (1, .int i1)] [] (uX8_reads cyI cyJ cyS a0 c_latest c_typed c_tenants c_room c_events c_gone c_audit c_sights c_drawn c_bytes c_tenant)) : ∀ (c_tenants : Int32) (c_tenant : Nat → Int32) (i1 : Int32) (t0 : Int32) (t1 : Int32), fX8_reads_76 c_typed c_bytes q_7 c_tenants c_tenant i1 t0 t1 = some (o_r, o_tenants, o_tenant) → jw p l e rmX8_reads s m args below meth c (jQ below args s A D vwCl (tyz cyI cyJ cyS) 0 0 (some (.int o_r)) (uX8_reads cyI cyJ cyS a0 c_latest c_typed o_tenants c_room c_events c_gone c_audit c_sights c_drawn c_bytes o_tenant)) A D vwCl 4 0 0 76 [(0, .ref (a0 0)), (1, .int i1)] [.int t0, .int t1, .ref (a0 0)] (uX8_reads cyI cyJ cyS a0 c_latest c_typed c_tenants c_room c_events c_gone c_audit c_sights c_drawn c_bytes c_tenant) := by
  intro c_tenants c_tenant i1 t0 t1 h
  unfold fX8_reads_76 at h
  refine j_iadd K dX8_reads_76 rfl ?_
  refine j_nmI h (fun c_tenants_4 h => ?_)
  refine j_putf (C := RX8) (T := TX8) (N := 29) (ci := 8) (ty := .int) (ws' := (uX8_reads cyI cyJ cyS a0 c_latest c_typed c_tenants_4 c_room c_events c_gone c_audit c_sights c_drawn c_bytes c_tenant)) K icX8 tyX8 tyX8_ok nmX8 0 7 (List.mem_cons_of_mem _ mw_9_6) rfl rfl rfl (by decide) rfl (by decide +kernel) rfl rfl (Nat.le_of_ble_eq_true rfl) rfl dX8_reads_77 rfl ?_
  refine j_iincN (lf := fun z => [(1, .int z), (0, .ref (a0 0))]) K (v := i1 + (1 : Int32)) (k := 1) rfl rfl (by decide) (fun _ => rfl) dX8_reads_80 rfl h (fun i1_5 h => ?_)
  refine j_goto (pc' := 7) K dX8_reads_83 (by decide) ?_
  refine j_sub [1, 0] (lv' := [(0, .ref (a0 0)), (1, .int i1_5)]) rfl ?_
  exact hq_7 c_tenants_4 c_tenant i1_5 h
set_option maxRecDepth 100000 in
set_option maxHeartbeats 4000000 in
theorem wX8_reads_61 (K : jK p s m args meth c A D vwCl (tyz cyI cyJ cyS) cX8_reads 4 RX8 wdX8_reads (some .int)) (a0 : Nat → Nat) (c_latest : Int32) (c_room : Int32) (c_events : Int32) (c_gone : Int32) (c_audit : Int32) (c_sights : Int32) (c_drawn : Int32) (c_typed : Int32) (c_bytes : Nat → Int32) (o_r : Int32) (o_tenants : Int32) (o_tenant : Nat → Int32)  (q_7 : Int32 → (Nat → Int32) → Int32 → (Option (Int32 × Int32 × (Nat → Int32)))) (hq_7 : ∀ (c_tenants : Int32) (c_tenant : Nat → Int32) (i1 : Int32), q_7 c_tenants c_tenant i1 = some (o_r, o_tenants, o_tenant) → jw p l e rmX8_reads s m args below meth c (jQ below args s A D vwCl (tyz cyI cyJ cyS) 0 0 (some (.int o_r)) (uX8_reads cyI cyJ cyS a0 c_latest c_typed o_tenants c_room c_events c_gone c_audit c_sights c_drawn c_bytes o_tenant)) A D vwCl 4 0 0 7 [(0, .ref (a0 0)), (1, .int i1)] [] (uX8_reads cyI cyJ cyS a0 c_latest c_typed c_tenants c_room c_events c_gone c_audit c_sights c_drawn c_bytes c_tenant)) : ∀ (c_tenants : Int32) (c_tenant : Nat → Int32) (i1 : Int32) (i2 : Int32), fX8_reads_61 c_typed c_bytes q_7 c_tenants c_tenant i1 i2 = some (o_r, o_tenants, o_tenant) → jw p l e rmX8_reads s m args below meth c (jQ below args s A D vwCl (tyz cyI cyJ cyS) 0 0 (some (.int o_r)) (uX8_reads cyI cyJ cyS a0 c_latest c_typed o_tenants c_room c_events c_gone c_audit c_sights c_drawn c_bytes o_tenant)) A D vwCl 4 0 0 61 [(0, .ref (a0 0)), (1, .int i1), (2, .int i2)] [] (uX8_reads cyI cyJ cyS a0 c_latest c_typed c_tenants c_room c_events c_gone c_audit c_sights c_drawn c_bytes c_tenant) := by
  intro c_tenants c_tenant i1 i2 h
  unfold fX8_reads_61 at h
  refine j_aload_n K 0 rfl dX8_reads_61 rfl ?_
  refine j_dup K rfl dX8_reads_62 rfl ?_
  refine j_getf (C := RX8) (T := TX8) (N := 29) (ci := 8) K icX8 0 7 (List.mem_cons_of_mem _ mw_9_6) rfl rfl rfl (by decide) rfl dX8_reads_63 rfl ?_
  refine j_iload_n K 2 rfl dX8_reads_66 rfl ?_
  refine j_iconst (v := (2 : Int32)) K (by decide) dX8_reads_67 rfl ?_
  refine j_icmp_ne (tgt := 75) K dX8_reads_68 (by decide) rfl h (fun h => ?_) (fun h => ?_)
  · refine j_iconst (v := (0 : Int32)) K (by decide) dX8_reads_75 rfl ?_
    refine j_sub [0, 1] (lv' := [(0, .ref (a0 0)), (1, .int i1)]) rfl ?_
    exact wX8_reads_76 K a0 c_latest c_room c_events c_gone c_audit c_sights c_drawn c_typed c_bytes o_r o_tenants o_tenant q_7 hq_7 c_tenants c_tenant i1 (0 : Int32) c_tenants h
  · refine j_iconst (v := (1 : Int32)) K (by decide) dX8_reads_71 rfl ?_
    refine j_goto (pc' := 76) K dX8_reads_72 (by decide) ?_
    refine j_sub [0, 1] (lv' := [(0, .ref (a0 0)), (1, .int i1)]) rfl ?_
    exact wX8_reads_76 K a0 c_latest c_room c_events c_gone c_audit c_sights c_drawn c_typed c_bytes o_r o_tenants o_tenant q_7 hq_7 c_tenants c_tenant i1 (1 : Int32) c_tenants h
set_option maxRecDepth 100000 in
set_option maxHeartbeats 4000000 in
theorem wX8_reads_7 (K : jK p s m args meth c A D vwCl (tyz cyI cyJ cyS) cX8_reads 4 RX8 wdX8_reads (some .int)) (a0 : Nat → Nat) (c_latest : Int32) (c_room : Int32) (c_events : Int32) (c_gone : Int32) (c_audit : Int32) (c_sights : Int32) (c_drawn : Int32) (c_typed : Int32) (c_bytes : Nat → Int32) (o_r : Int32) (o_tenants : Int32) (o_tenant : Nat → Int32)   : ∀ (n : Nat) (c_tenants : Int32) (c_tenant : Nat → Int32) (i1 : Int32), fX8_reads_7 c_typed c_bytes  n c_tenants c_tenant i1 = some (o_r, o_tenants, o_tenant) → jw p l e rmX8_reads s m args below meth c (jQ below args s A D vwCl (tyz cyI cyJ cyS) 0 0 (some (.int o_r)) (uX8_reads cyI cyJ cyS a0 c_latest c_typed o_tenants c_room c_events c_gone c_audit c_sights c_drawn c_bytes o_tenant)) A D vwCl 4 0 0 7 [(0, .ref (a0 0)), (1, .int i1)] [] (uX8_reads cyI cyJ cyS a0 c_latest c_typed c_tenants c_room c_events c_gone c_audit c_sights c_drawn c_bytes c_tenant) := by
  intro n
  induction n with
  | zero => intro c_tenants c_tenant i1 h; cases h
  | succ n ih =>
    intro c_tenants c_tenant i1 h
    have h : bX8_reads_7 c_typed c_bytes  (fX8_reads_7 c_typed c_bytes  n) c_tenants c_tenant i1 = some (o_r, o_tenants, o_tenant) := h
    unfold bX8_reads_7 at h
    refine j_iload_n K 1 rfl dX8_reads_7 rfl ?_
    refine j_aload_n K 0 rfl dX8_reads_8 rfl ?_
    refine j_getf (C := RX8) (T := TX8) (N := 29) (ci := 8) K icX8 0 6 (List.mem_cons_of_mem _ mw_7_21) rfl rfl rfl (by decide) rfl dX8_reads_9 rfl ?_
    refine j_icmp_ge (tgt := 86) K dX8_reads_12 (by decide) rfl h (fun h => ?_) (fun h => ?_)
    · refine j_aload_n K 0 rfl dX8_reads_86 rfl ?_
      refine j_getf (C := RX8) (T := TX8) (N := 29) (ci := 8) K icX8 0 6 (List.mem_cons_of_mem _ mw_7_21) rfl rfl rfl (by decide) rfl dX8_reads_87 rfl ?_
      refine j_if_le (tgt := 113) K dX8_reads_90 (by decide) rfl h (fun h => ?_) (fun h => ?_)
      · refine j_iconst (v := (-1 : Int32)) K (by decide) dX8_reads_113 rfl ?_
        obtain ⟨e1, g1⟩ := Prod.mk.inj (Option.some.inj h)
        subst e1
        obtain ⟨e2, g2⟩ := Prod.mk.inj g1
        subst e2
        subst g2
        exact j_iret K dX8_reads_114
      · refine j_aload_n K 0 rfl dX8_reads_93 rfl ?_
        refine j_getf (C := RX8) (T := TX8) (N := 29) (ci := 8) K icX8 0 6 (List.mem_cons_of_mem _ mw_7_21) rfl rfl rfl (by decide) rfl dX8_reads_94 rfl ?_
        refine j_iconst (v := (4 : Int32)) K (by decide) dX8_reads_97 rfl ?_
        refine j_irem K (by decide) dX8_reads_98 rfl ?_
        refine j_iconst (v := (3 : Int32)) K (by decide) dX8_reads_99 rfl ?_
        refine j_icmp_eq (tgt := 113) K dX8_reads_100 (by decide) rfl h (fun h => ?_) (fun h => ?_)
        · refine j_iconst (v := (-1 : Int32)) K (by decide) dX8_reads_113 rfl ?_
          obtain ⟨e1, g1⟩ := Prod.mk.inj (Option.some.inj h)
          subst e1
          obtain ⟨e2, g2⟩ := Prod.mk.inj g1
          subst e2
          subst g2
          exact j_iret K dX8_reads_114
        · refine j_aload_n K 0 rfl dX8_reads_103 rfl ?_
          refine j_iconst (v := (0 : Int32)) K (by decide) dX8_reads_104 rfl ?_
          refine j_putf (C := RX8) (T := TX8) (N := 29) (ci := 8) (ty := .int) (ws' := (uX8_reads cyI cyJ cyS a0 c_latest c_typed (0 : Int32) c_room c_events c_gone c_audit c_sights c_drawn c_bytes c_tenant)) K icX8 tyX8 tyX8_ok nmX8 0 7 (List.mem_cons_of_mem _ mw_9_6) rfl rfl rfl (by decide) rfl (by decide +kernel) rfl rfl (Nat.le_of_ble_eq_true rfl) rfl dX8_reads_105 rfl ?_
          refine j_aload_n K 0 rfl dX8_reads_108 rfl ?_
          refine j_getf (C := RX8) (T := TX8) (N := 29) (ci := 8) K icX8 0 6 (List.mem_cons_of_mem _ mw_7_21) rfl rfl rfl (by decide) rfl dX8_reads_109 rfl ?_
          obtain ⟨e1, g1⟩ := Prod.mk.inj (Option.some.inj h)
          subst e1
          obtain ⟨e2, g2⟩ := Prod.mk.inj g1
          subst e2
          subst g2
          exact j_iret K dX8_reads_112
    · refine j_iload_n K 1 rfl dX8_reads_15 rfl ?_
      refine j_iconst (v := (4 : Int32)) K (by decide) dX8_reads_16 rfl ?_
      refine j_irem K (by decide) dX8_reads_17 rfl ?_
      refine j_nmI h (fun i2_1 h => ?_)
      refine j_istore_n (lv' := [(2, .int i2_1), (0, .ref (a0 0)), (1, .int i1)]) K (by decide) rfl dX8_reads_18 rfl ?_
      refine j_iload_n K 0 rfl dX8_reads_19 rfl ?_
      refine j_aload_n K 1 rfl dX8_reads_20 rfl ?_
      refine j_getf (C := RX8) (T := TX8) (N := 29) (ci := 8) K icX8 0 5 (List.mem_cons_of_mem _ mw_5_12) rfl rfl rfl (by decide) rfl dX8_reads_21 rfl ?_
      refine j_iload_n K 2 rfl dX8_reads_24 rfl ?_
      refine j_iald K 1 0 rfl rfl dX8_reads_25 rfl h (fun v_2 h => ?_)
      obtain ⟨r_3, hc, h⟩ := bd1_some h
      refine j_callS (rest := []) (st1 := [.int r_3]) (ws' := (uX8_reads cyI cyJ cyS a0 c_latest c_typed c_tenants c_room c_events c_gone c_audit c_sights c_drawn c_bytes c_tenant)) K (ctX8_tenantOf l D cyI cyJ cyS i2_1 v_2 r_3 hc) (gdS mcL mw_9_7 mw_9_8 mw_1_5 mw_9_9) rfl ⟨rfl, rfl⟩ hzX8_tenantOf ⟨Nat.le_of_ble_eq_true rfl, Nat.le_of_ble_eq_true rfl, Nat.le_of_ble_eq_true rfl, Nat.le_of_ble_eq_true rfl⟩ [] (by decide) rfl [none, none, none] (by decide) rfl rfl rfl rfl (Nat.le_of_ble_eq_true rfl) dX8_reads_26 rfl rfl ?_
      refine j_istore_n (lv' := [(3, .int r_3), (2, .int i2_1), (0, .ref (a0 0)), (1, .int i1)]) K (by decide) rfl dX8_reads_29 rfl ?_
      refine j_iload_n K 0 rfl dX8_reads_30 rfl ?_
      refine j_bipush (v := (-9 : Int32)) K (by decide) dX8_reads_31 rfl ?_
      refine j_icmp_ne (tgt := 43) K dX8_reads_33 (by decide) rfl h (fun h => ?_) (fun h => ?_)
      · refine j_iload_n K 1 rfl dX8_reads_43 rfl ?_
        refine j_iconst (v := (3 : Int32)) K (by decide) dX8_reads_44 rfl ?_
        refine j_icmp_ge (tgt := 61) K dX8_reads_45 (by decide) rfl h (fun h => ?_) (fun h => ?_)
        · refine j_sub [2, 3, 1] (lv' := [(0, .ref (a0 0)), (1, .int i1), (2, .int i2_1)]) rfl ?_
          exact wX8_reads_61 K a0 c_latest c_room c_events c_gone c_audit c_sights c_drawn c_typed c_bytes o_r o_tenants o_tenant (fX8_reads_7 c_typed c_bytes n) (fun z0 z1 z2 hq => ih z0 z1 z2 hq) c_tenants c_tenant i1 i2_1 h
        · refine j_aload_n K 2 rfl dX8_reads_48 rfl ?_
          refine j_getf (C := RX8) (T := TX8) (N := 29) (ci := 8) K icX8 0 8 (List.mem_cons_of_mem _ mw_5_13) rfl rfl rfl (by decide) rfl dX8_reads_49 rfl ?_
          refine j_iconst (v := (3 : Int32)) K (by decide) dX8_reads_52 rfl ?_
          refine j_iload_n K 3 rfl dX8_reads_53 rfl ?_
          refine j_iconst (v := (4 : Int32)) K (by decide) dX8_reads_54 rfl ?_
          refine j_idiv K (by decide) dX8_reads_55 rfl ?_
          refine j_imul K dX8_reads_56 rfl ?_
          refine j_iload_n K 1 rfl dX8_reads_57 rfl ?_
          refine j_iadd K dX8_reads_58 rfl ?_
          refine j_iload_n K 0 rfl dX8_reads_59 rfl ?_
          refine j_iast K 2 0 (fun z => (uX8_reads cyI cyJ cyS a0 c_latest c_typed c_tenants c_room c_events c_gone c_audit c_sights c_drawn c_bytes z)) rfl rfl (fun _ => rfl) dX8_reads_60 rfl h (fun c_tenant_6 h => ?_)
          refine j_sub [2, 3, 1] (lv' := [(0, .ref (a0 0)), (1, .int i1), (2, .int i2_1)]) rfl ?_
          exact wX8_reads_61 K a0 c_latest c_room c_events c_gone c_audit c_sights c_drawn c_typed c_bytes o_r o_tenants o_tenant (fX8_reads_7 c_typed c_bytes n) (fun z0 z1 z2 hq => ih z0 z1 z2 hq) c_tenants c_tenant_6 i1 i2_1 h
      · refine j_aload_n K 2 rfl dX8_reads_36 rfl ?_
        refine j_iconst (v := (0 : Int32)) K (by decide) dX8_reads_37 rfl ?_
        refine j_putf (C := RX8) (T := TX8) (N := 29) (ci := 8) (ty := .int) (ws' := (uX8_reads cyI cyJ cyS a0 c_latest c_typed (0 : Int32) c_room c_events c_gone c_audit c_sights c_drawn c_bytes c_tenant)) K icX8 tyX8 tyX8_ok nmX8 0 7 (List.mem_cons_of_mem _ mw_9_6) rfl rfl rfl (by decide) rfl (by decide +kernel) rfl rfl (Nat.le_of_ble_eq_true rfl) rfl dX8_reads_38 rfl ?_
        refine j_iload_n K 3 rfl dX8_reads_41 rfl ?_
        obtain ⟨e1, g1⟩ := Prod.mk.inj (Option.some.inj h)
        subst e1
        obtain ⟨e2, g2⟩ := Prod.mk.inj g1
        subst e2
        subst g2
        exact j_iret K dX8_reads_42
set_option maxRecDepth 100000 in
set_option maxHeartbeats 4000000 in
theorem ctX8_reads (l : Launch) (D : va_G) (cyI cyJ cyS : ClassId) (a0 : Nat → Nat) (c_latest : Int32) (c_room : Int32) (c_events : Int32) (c_gone : Int32) (c_audit : Int32) (c_sights : Int32) (c_drawn : Int32) (c_typed : Int32) (c_bytes : Nat → Int32) (c_tenants : Int32) (c_tenant : Nat → Int32) (o_r : Int32) (o_tenants : Int32) (o_tenant : Nat → Int32) (h : fX8_reads c_typed c_bytes c_tenants c_tenant = some (o_r, o_tenants, o_tenant)) : jC l yX8_reads wdX8_reads rmX8_reads D vwCl (tyz cyI cyJ cyS) [.ref (a0 0)] (uX8_reads cyI cyJ cyS a0 c_latest c_typed c_tenants c_room c_events c_gone c_audit c_sights c_drawn c_bytes c_tenant) (some (.int o_r)) (uX8_reads cyI cyJ cyS a0 c_latest c_typed o_tenants c_room c_events c_gone c_audit c_sights c_drawn c_bytes o_tenant) := by
  refine jC_of (cc := cX8_reads) (nL := 4) (ret := (some .int)) (own := RX8) (lv := [(0, .ref (a0 0))]) (by decide) rfl rfl (Nat.le_of_ble_eq_true rfl) rfl ?_
  intro p e s m args below meth c A K
  unfold fX8_reads at h
  refine j_aload_n K 0 rfl dX8_reads_0 rfl ?_
  refine j_iconst (v := (0 : Int32)) K (by decide) dX8_reads_1 rfl ?_
  refine j_putf (C := RX8) (T := TX8) (N := 29) (ci := 8) (ty := .int) (ws' := (uX8_reads cyI cyJ cyS a0 c_latest c_typed (0 : Int32) c_room c_events c_gone c_audit c_sights c_drawn c_bytes c_tenant)) K icX8 tyX8 tyX8_ok nmX8 0 7 (List.mem_cons_of_mem _ mw_9_6) rfl rfl rfl (by decide) rfl (by decide +kernel) rfl rfl (Nat.le_of_ble_eq_true rfl) rfl dX8_reads_2 rfl ?_
  refine j_iconst (v := (0 : Int32)) K (by decide) dX8_reads_5 rfl ?_
  refine j_istore_n (lv' := [(1, .int (0 : Int32)), (0, .ref (a0 0))]) K (by decide) rfl dX8_reads_6 rfl ?_
  refine j_sub [1, 0] (lv' := [(0, .ref (a0 0)), (1, .int (0 : Int32))]) rfl ?_
  exact wX8_reads_7 K a0 c_latest c_room c_events c_gone c_audit c_sights c_drawn c_typed c_bytes o_r o_tenants o_tenant jF (0 : Int32) c_tenant (0 : Int32) h
abbrev uX8_fault (cyI cyJ cyS : ClassId) (a0 : Nat → Nat) (c_latest : Int32) (c_typed : Int32) (c_tenants : Int32) (c_room : Int32) (c_events : Int32) (c_gone : Int32) (c_audit : Int32) (c_sights : Int32) (c_drawn : Int32) (c_bytes : Nat → Int32) (c_tenant : Nat → Int32) : va_W := [((a0 0), .inr (8, [.ref (a0 1), .ref (a0 2), .ref (a0 3), .ref (a0 4), .int c_latest, .ref (a0 5), .int c_typed, .int c_tenants, .ref (a0 6), .int c_room, .int c_events, .ref (a0 7), .int c_gone, .ref (a0 8), .ref (a0 9), .ref (a0 10), .ref (a0 11), .ref (a0 12), .ref (a0 13), .ref (a0 14), .ref (a0 15), .ref (a0 16), .ref (a0 17), .ref (a0 18), .int c_audit, .int c_sights, .ref (a0 19), .ref (a0 20), .int c_drawn])), ((a0 5), .inl (cyI, 31, .inl c_bytes)), ((a0 6), .inl (cyI, 24, .inl c_tenant))]
abbrev rmX8_fault : Room := { frames := 3, cells := 0, slots := 0, locals := 69 }
abbrev wdX8_fault : List Cond := .code yX8_fault cX8_fault 1 (some .int) :: wsL_law
theorem hyX8_fault : yX8_fault.cls = RX8 ∧ yX8_fault.cls ≠ "java/lang/invoke/MethodHandle" ∧ yX8_fault.cls ≠ "java/lang/invoke/VarHandle" ∧ (parseMethodDescriptor yX8_fault.desc).map (fun d => d.parameters.length) = some 0 := by decide +kernel
set_option maxRecDepth 100000 in
set_option maxHeartbeats 4000000 in
theorem ctX8_fault (l : Launch) (D : va_G) (cyI cyJ cyS : ClassId) (a0 : Nat → Nat) (c_latest : Int32) (c_room : Int32) (c_events : Int32) (c_gone : Int32) (c_audit : Int32) (c_sights : Int32) (c_drawn : Int32) (c_typed : Int32) (c_bytes : Nat → Int32) (c_tenants : Int32) (c_tenant : Nat → Int32) (o_r : Int32) (o_tenants : Int32) (o_tenant : Nat → Int32) (h : fX8_fault c_typed c_bytes c_tenants c_tenant = some (o_r, o_tenants, o_tenant)) : jC l yX8_fault wdX8_fault rmX8_fault D vwCl (tyz cyI cyJ cyS) [.ref (a0 0)] (uX8_fault cyI cyJ cyS a0 c_latest c_typed c_tenants c_room c_events c_gone c_audit c_sights c_drawn c_bytes c_tenant) (some (.int o_r)) (uX8_fault cyI cyJ cyS a0 c_latest c_typed o_tenants c_room c_events c_gone c_audit c_sights c_drawn c_bytes o_tenant) := by
  refine jC_of (cc := cX8_fault) (nL := 1) (ret := (some .int)) (own := RX8) (lv := [(0, .ref (a0 0))]) (by decide) rfl rfl (Nat.le_of_ble_eq_true rfl) rfl ?_
  intro p e s m args below meth c A K
  unfold fX8_fault at h
  refine j_aload_n K 0 rfl dX8_fault_0 rfl ?_
  obtain ⟨r_1, c_tenants_2, c_tenant_3, hc, h⟩ := bd3_some h
  refine j_callV (rest := []) (st1 := [.int r_1]) (ws' := (uX8_fault cyI cyJ cyS a0 c_latest c_typed c_tenants_2 c_room c_events c_gone c_audit c_sights c_drawn c_bytes c_tenant_3)) (T := TX8) (N := 29) (ci := 8) K (ctX8_reads l D cyI cyJ cyS a0 c_latest c_room c_events c_gone c_audit c_sights c_drawn c_typed c_bytes c_tenants c_tenant r_1 c_tenants_2 c_tenant_3 hc) (gdV mcL mw_9_2 mw_9_3 mw_9_4 mw_1_5 mw_9_5) rfl ⟨rfl, rfl⟩ hyX8_reads ⟨Nat.le_of_ble_eq_true rfl, Nat.le_of_ble_eq_true rfl, Nat.le_of_ble_eq_true rfl, Nat.le_of_ble_eq_true rfl⟩ [0, 1, 2] (by decide) rfl [some 0, some 1, some 2] (by decide) rfl rfl 0 rfl rfl rfl rfl (Nat.le_of_ble_eq_true rfl) dX8_fault_1 rfl rfl ?_
  obtain ⟨e1, g1⟩ := Prod.mk.inj (Option.some.inj h)
  subst e1
  obtain ⟨e2, g2⟩ := Prod.mk.inj g1
  subst e2
  subst g2
  exact j_iret K dX8_fault_4
end GEN
