theorem sm_ite {α : Type} {c : Prop} [Decidable c] (a b : α) : (if c then some a else some b) = some (if c then a else b) := by
  by_cases h : c
  · rw [if_pos h, if_pos h]
  · rw [if_neg h, if_neg h]
theorem ite01 {α : Type} {c : Prop} [Decidable c] (A B : α) : (if (if c then (1 : Int32) else 0) = 0 then A else B) = if c then B else A := by
  by_cases h : c
  · rw [if_pos h, if_neg (by decide), if_pos h]
  · rw [if_neg h, if_pos rfl, if_neg h]
theorem ckB01 {α : Type} {c : Prop} [Decidable c] (k : Option α) : ckB (if c then (1 : Int32) else 0) k = k := by
  unfold ckB
  by_cases h : c
  · rw [if_pos h, if_pos (Or.inr rfl)]
  · rw [if_neg h, if_pos (Or.inl rfl)]
theorem ckB0 {α : Type} (k : Option α) : ckB (0 : Int32) k = k := by unfold ckB; rw [if_pos (Or.inl rfl)]
theorem ckB1 {α : Type} (k : Option α) : ckB (1 : Int32) k = k := by unfold ckB; rw [if_pos (Or.inr rfl)]
theorem pz_inL (a b d : Int32) (b' d' : Int64) (hb : b' = Int32.toInt64 b) (hd : d' = Int32.toInt64 d) : fX8_in (Int32.toInt64 a) b' d' = some (if b ≤ a ∧ a ≤ d then 1 else 0) := by
  subst hb; subst hd; exact pz_inI a b d
def tx_v (k : Nat) (b : Int32) : Int32 := if k = 0 then (if b = 111 then 0 else if b = 112 then 1 else if b = 99 then 2 else if b = 114 then 3 else -9) else if k = 3 then (if b = 59 then 0 else -9) else if 48 ≤ b ∧ b ≤ 57 then b - 48 else -9
theorem tx_d {b : Int32} (h : 48 ≤ b ∧ b ≤ 57) : ∃ j : Nat, j ≤ 9 ∧ b - 48 = nI j := by
  have h0 : ¬ b < 0 := fun q => by
    have a1 := h.1
    rw [fa_le] at a1
    rw [fa_lt] at q
    have e1 : (48 : Int32).toInt = 48 := by decide
    have e2 : (0 : Int32).toInt = 0 := by decide
    omega
  obtain ⟨n, hn, rfl⟩ := nI_of h0
  have h1 : 48 ≤ n := (nI_leI (a := 48) (by omega) hn).mp h.1
  have h2 : n ≤ 57 := (nI_leI (b := 57) hn (by omega)).mp h.2
  exact ⟨n - 48, by omega, pk_sub (b := 48) h1⟩
theorem tx_9 {j : Nat} (h : j ≤ 9) : ¬ nI j = -9 := fun q => by
  have := congrArg Int32.toInt q
  rw [nI_toInt (by omega)] at this
  have e : (-9 : Int32).toInt = -9 := by decide
  omega
theorem tx_v0 {x : Int32} (h : ¬ tx_v 0 x = -9) : ∃ j : Nat, j ≤ 3 ∧ tx_v 0 x = nI j := by
  by_cases a1 : x = 111
  · subst a1; exact ⟨0, by omega, by decide⟩
  by_cases a2 : x = 112
  · subst a2; exact ⟨1, by omega, by decide⟩
  by_cases a3 : x = 99
  · subst a3; exact ⟨2, by omega, by decide⟩
  by_cases a4 : x = 114
  · subst a4; exact ⟨3, by omega, by decide⟩
  exact absurd (by simp [tx_v, a1, a2, a3, a4]) h
theorem tx_v1 {k : Nat} {x : Int32} (h0 : ¬ k = 0) (h3 : ¬ k = 3) (h : ¬ tx_v k x = -9) : ∃ j : Nat, j ≤ 9 ∧ x - 48 = nI j ∧ tx_v k x = nI j := by
  unfold tx_v at h ⊢
  rw [if_neg h0, if_neg h3] at h ⊢
  by_cases c : 48 ≤ x ∧ x ≤ 57
  · obtain ⟨j, hj, e⟩ := tx_d c
    rw [if_pos c]
    exact ⟨j, hj, e, e⟩
  · rw [if_neg c] at h
    exact absurd rfl h
theorem mm_tenantOf {k : Nat} (hk : k < 4) (b : Int32) : fX8_tenantOf (nI k) b = some (tx_v k b) := by
  unfold fX8_tenantOf tx_v
  by_cases c0 : k = 0
  · subst c0
    rw [if_pos (show nI 0 = (0 : Int32) from rfl), if_pos rfl]
    simp only [sm_ite]
  · rw [if_neg (show ¬ nI k = (0 : Int32) from fun q => c0 ((nI_eq (b := 0) (by omega) (by omega)).mp q)), if_neg c0]
    by_cases c3 : k = 3
    · subst c3
      rw [if_pos (show nI 3 = (3 : Int32) from rfl), if_pos rfl]
      simp only [sm_ite]
    · rw [if_neg (show ¬ nI k = (3 : Int32) from fun q => c3 ((nI_eq (b := 3) (by omega) (by omega)).mp q)), if_neg c3, pz_inL b 48 57 _ _ (by decide) (by decide), bd1_eq, ite01, sm_ite]
theorem cm_sortOf (b : Int32) : fX6_sortOf b = some (if tx_v 0 b = -9 then -1 else tx_v 0 b) := by
  by_cases a1 : b = 111
  · subst a1; decide +kernel
  by_cases a2 : b = 112
  · subst a2; decide +kernel
  by_cases a3 : b = 99
  · subst a3; decide +kernel
  by_cases a4 : b = 114
  · subst a4; decide +kernel
  simp [fX6_sortOf, tx_v, a1, a2, a3, a4]
theorem cm_goesOn {k : Nat} (hk : k < 4) (b : Int32) : fX6_goesOn (nI k) b = some (if tx_v k b = -9 then 0 else 1) := by
  unfold fX6_goesOn
  by_cases c0 : k = 0
  · subst c0
    rw [if_pos (show nI 0 = (0 : Int32) from rfl), cm_sortOf, bd1_eq, sm_ite]
    by_cases c : tx_v 0 b = -9
    · rw [if_pos c, if_pos c, if_pos rfl]
    · obtain ⟨j, hj, e⟩ := tx_v0 c
      rw [if_neg c, if_neg c, e, if_neg (nI_m1 (by omega))]
  · rw [if_neg (show ¬ nI k = (0 : Int32) from fun q => c0 ((nI_eq (b := 0) (by omega) (by omega)).mp q))]
    by_cases c3 : k = 3
    · subst c3
      rw [if_pos (show nI 3 = (3 : Int32) from rfl), sm_ite]
      unfold tx_v
      rw [if_neg c0, if_pos rfl]
      by_cases c : b = 59
      · rw [if_pos c, if_pos c, if_neg (by decide)]
      · rw [if_neg c, if_neg c, if_pos rfl]
    · rw [if_neg (show ¬ nI k = (3 : Int32) from fun q => c3 ((nI_eq (b := 3) (by omega) (by omega)).mp q))]
      by_cases c : 48 ≤ b ∧ b ≤ 57
      · obtain ⟨j, hj, e⟩ := tx_d c
        have e2 : tx_v k b = nI j := by unfold tx_v; rw [if_neg c0, if_neg c3, if_pos c, e]
        rw [e2, if_neg (tx_9 hj), if_neg (fun q => (fa_of_lt q).2.1 c.1), if_neg (fun q => (fa_of_lt q).2.1 c.2)]
      · have e2 : tx_v k b = -9 := by unfold tx_v; rw [if_neg c0, if_neg c3, if_neg c]
        rw [e2, if_pos rfl]
        by_cases d : b < 48
        · rw [if_pos d]
        · rw [if_neg d, if_pos (fa_of_nle (fun q => c ⟨fa_of_nlt d, q⟩))]
def tx_p (b : Nat → Int32) (i : Nat) : Bool := decide (tx_v (i % 4) (b i) = -9)
def tx_F (b : Nat → Int32) (N : Nat) : Nat := fa_first (tx_p b) N
def tx_fault (b : Nat → Int32) (N : Nat) : Int32 := if tx_F b N < N then nI (tx_F b N) else if N = 0 ∨ N % 4 = 3 then -1 else nI N
def tx_n (b : Nat → Int32) (N : Nat) : Nat := if ¬ tx_F b N < N ∧ (N = 0 ∨ N % 4 = 3) then (N + 1) / 4 else 0
def tx_T (b : Nat → Int32) (N : Nat) : sT := (tx_n b N, fun t => (tx_v 0 (b (4 * t))).toNatClampNeg, fun t => (tx_v 1 (b (4 * t + 1))).toNatClampNeg, fun t => (tx_v 2 (b (4 * t + 2))).toNatClampNeg)
theorem tx_F_le (b : Nat → Int32) (N : Nat) : tx_F b N ≤ N := fa_first_le (tx_p b) N
theorem tx_F_no {b : Nat → Int32} {N i : Nat} (h : i < tx_F b N) : ¬ tx_v (i % 4) (b i) = -9 := by
  have := fa_first_no (tx_p b) N i h
  unfold tx_p at this
  simpa using this
theorem tx_F_yes {b : Nat → Int32} {N : Nat} (h : tx_F b N < N) : tx_v (tx_F b N % 4) (b (tx_F b N)) = -9 := by
  have q : tx_p b (tx_F b N) = true := fa_first_yes (tx_p b) N h
  exact of_decide_eq_true q
theorem tx_n_le {b : Nat → Int32} {N : Nat} (h : N ≤ 31) : tx_n b N ≤ 8 := by unfold tx_n; split <;> omega
theorem cm_fault {b : Nat → Int32} {N : Nat} (hN : N ≤ 31) : fX6_faultPlace (nI N) b = some (tx_fault b N) := by
  unfold fX6_faultPlace
  have hF := tx_F_le b N
  refine pz_up (fun F i => fX6_faultPlace_2 (nI N) b F (nI i)) (tx_F b N) _ (fun F i hi => ?_) (fun F => ?_) (tx_F b N) 0 jF (by omega) (pz_jF (by omega))
  · show bX6_faultPlace_2 (nI N) b (fX6_faultPlace_2 (nI N) b F) (nI i) = _
    unfold bX6_faultPlace_2
    rw [if_neg (nI_ge (b := N) (by omega) (by omega)), show nI i - nI i / (4 : Int32) * (4 : Int32) = nI (i % 4) from pk_rem (d := 4) (by omega) (by omega) (by omega), show nI i / (4 : Int32) = nI (i / 4) from pk_div (d := 4) (by omega) (by omega) (by omega), if_neg (show ¬ (8 : Int32) ≤ nI (i / 4) from nI_ge (b := 8) (by omega) (by omega)), pz_rd (by omega) (by omega), cm_goesOn (by omega), bd1_eq, if_neg (tx_F_no hi), if_neg (by decide), pz_nm, pz_1]
  · show bX6_faultPlace_2 (nI N) b (fX6_faultPlace_2 (nI N) b F) (nI (tx_F b N)) = _
    unfold bX6_faultPlace_2 tx_fault
    by_cases c : tx_F b N < N
    · have hy := tx_F_yes c
      rw [if_pos c]
      generalize tx_F b N = i at c hy ⊢
      rw [if_neg (nI_ge (b := N) (by omega) (by omega)), show nI i - nI i / (4 : Int32) * (4 : Int32) = nI (i % 4) from pk_rem (d := 4) (by omega) (by omega) (by omega), show nI i / (4 : Int32) = nI (i / 4) from pk_div (d := 4) (by omega) (by omega) (by omega), if_neg (show ¬ (8 : Int32) ≤ nI (i / 4) from nI_ge (b := 8) (by omega) (by omega)), pz_rd (by omega) (by omega), cm_goesOn (by omega), bd1_eq, if_pos hy, if_pos rfl]
    · rw [if_neg c, if_pos (nI_le (by omega) (by omega)), show nI N - nI N / (4 : Int32) * (4 : Int32) = nI (N % 4) from pk_rem (d := 4) (by omega) (by omega) (by omega)]
      by_cases d : N = 0
      · subst d; rfl
      · rw [if_neg (show ¬ nI N = (0 : Int32) from fun q => d ((nI_eq (b := 0) (by omega) (by omega)).mp q))]
        by_cases e : N % 4 = 3
        · rw [e, if_pos (show nI 3 = (3 : Int32) from rfl), if_pos (Or.inr rfl)]
        · rw [if_neg (show ¬ nI (N % 4) = (3 : Int32) from fun q => e ((nI_eq (b := 3) (by omega) (by omega)).mp q)), if_neg (by omega)]
theorem tx_fault_m1 {b : Nat → Int32} {N : Nat} (hN : N ≤ 31) : tx_fault b N = -1 ↔ ¬ tx_F b N < N ∧ (N = 0 ∨ N % 4 = 3) := by
  unfold tx_fault
  by_cases c : tx_F b N < N
  · rw [if_pos c]; exact ⟨fun q => absurd q (nI_m1 (by omega)), fun q => absurd c q.1⟩
  · rw [if_neg c]
    by_cases d : N = 0 ∨ N % 4 = 3
    · rw [if_pos d]; exact ⟨fun _ => ⟨c, d⟩, fun _ => rfl⟩
    · rw [if_neg d]; exact ⟨fun q => absurd q (nI_m1 (by omega)), fun q => absurd q.2 d⟩
theorem cm_take {b so pd wg : Nat → Int32} {N : Nat} {sz : Int32} (hN : N ≤ 31) : ∃ so' pd' wg', fX5_takeFrom (nI N) b sz so pd wg = some (nI (tx_n b N), so', pd', wg') ∧ InT (tx_T b N) (nI (tx_n b N)) so' pd' wg' := by
  unfold fX5_takeFrom
  rw [cm_fault hN, bd1_eq]
  by_cases hc : ¬ tx_F b N < N ∧ (N = 0 ∨ N % 4 = 3)
  · have hn : tx_n b N = (N + 1) / 4 := if_pos hc
    have hFN : tx_F b N = N := by have := tx_F_le b N; omega
    rw [if_pos ((tx_fault_m1 hN).mpr hc)]
    refine ⟨fa_fill (fun t => tx_v 0 (b (4 * t))) so (tx_n b N), fa_fill (fun t => b (4 * t + 1) - 48) pd (tx_n b N), fa_fill (fun t => b (4 * t + 2) - 48) wg (tx_n b N), ?_, tx_n_le hN, rfl, fun t ht => ?_⟩
    · have s0 : fX5_takeFrom_16 (nI N) b jF 0 so pd wg 0 = fX5_takeFrom_16 (nI N) b jF (nI 0) (fa_fill (fun t => tx_v 0 (b (4 * t))) so 0) (fa_fill (fun t => b (4 * t + 1) - 48) pd 0) (fa_fill (fun t => b (4 * t + 2) - 48) wg 0) (nI (4 * 0)) := by rw [fa_fill_0, fa_fill_0, fa_fill_0]; rfl
      rw [s0, hn]
      refine pz_up (fun F c => fX5_takeFrom_16 (nI N) b F (nI c) (fa_fill (fun t => tx_v 0 (b (4 * t))) so c) (fa_fill (fun t => b (4 * t + 1) - 48) pd c) (fa_fill (fun t => b (4 * t + 2) - 48) wg c) (nI (4 * c))) ((N + 1) / 4) _ (fun F c hi => ?_) (fun F => ?_) ((N + 1) / 4) 0 jF (by omega) (pz_jF (by omega))
      · show bX5_takeFrom_16 (nI N) b (fX5_takeFrom_16 (nI N) b F) _ _ _ _ _ = _
        have c8 : c < 8 := by omega
        have hp : ¬ tx_v 0 (b (4 * c)) = -9 := by
          have := tx_F_no (b := b) (N := N) (i := 4 * c) (by omega)
          rwa [show 4 * c % 4 = 0 by omega] at this
        unfold bX5_takeFrom_16
        rw [show nI (4 * c) + (2 : Int32) = nI (4 * c + 2) from nI_add _ 2, if_neg (nI_ge (by omega) (by omega)), if_neg (show ¬ (8 : Int32) ≤ nI c from nI_ge (b := 8) (by omega) (by omega)), pz_rd (by omega) (by omega), cm_sortOf, bd1_eq, if_neg hp, pz_wr c8 (by omega), pz_1, pz_rd (by omega) (by omega), pz_wr c8 (by omega), pz_rd (by omega) (by omega), pz_wr c8 (by omega), pz_nm, pz_nm, pz_1, show nI (4 * c) + (4 : Int32) = nI (4 * (c + 1)) from nI_add _ 4]
        rw [show upd (fa_fill (fun t => tx_v 0 (b (4 * t))) so c) c (tx_v 0 (b (4 * c))) = fa_fill (fun t => tx_v 0 (b (4 * t))) so (c + 1) from fa_fill_succ (fun t => tx_v 0 (b (4 * t))) so c, show upd (fa_fill (fun t => b (4 * t + 1) - 48) pd c) c (b (4 * c + 1) - 48) = fa_fill (fun t => b (4 * t + 1) - 48) pd (c + 1) from fa_fill_succ (fun t => b (4 * t + 1) - 48) pd c, show upd (fa_fill (fun t => b (4 * t + 2) - 48) wg c) c (b (4 * c + 2) - 48) = fa_fill (fun t => b (4 * t + 2) - 48) wg (c + 1) from fa_fill_succ (fun t => b (4 * t + 2) - 48) wg c]
      · show bX5_takeFrom_16 (nI N) b (fX5_takeFrom_16 (nI N) b F) _ _ _ _ _ = _
        unfold bX5_takeFrom_16
        rw [show nI (4 * ((N + 1) / 4)) + (2 : Int32) = nI (4 * ((N + 1) / 4) + 2) from nI_add _ 2, if_pos (nI_le (by omega) (by omega))]
    · have ht2 : t < tx_n b N := ht
      rw [hn] at ht2
      have p0 : ¬ tx_v 0 (b (4 * t)) = -9 := by
        have := tx_F_no (b := b) (N := N) (i := 4 * t) (by omega)
        rwa [show 4 * t % 4 = 0 by omega] at this
      have p1 : ¬ tx_v 1 (b (4 * t + 1)) = -9 := by
        have := tx_F_no (b := b) (N := N) (i := 4 * t + 1) (by omega)
        rwa [show (4 * t + 1) % 4 = 1 by omega] at this
      have p2 : ¬ tx_v 2 (b (4 * t + 2)) = -9 := by
        have := tx_F_no (b := b) (N := N) (i := 4 * t + 2) (by omega)
        rwa [show (4 * t + 2) % 4 = 2 by omega] at this
      obtain ⟨j0, l0, e0⟩ := tx_v0 p0
      obtain ⟨j1, l1, d1, e1⟩ := tx_v1 (by omega) (by omega) p1
      obtain ⟨j2, l2, d2, e2⟩ := tx_v1 (by omega) (by omega) p2
      rw [hn, fa_fill_in ht2, fa_fill_in ht2, fa_fill_in ht2]
      unfold tx_T
      dsimp only
      rw [e0, e1, e2, d1, d2, nI_clamp (by omega), nI_clamp (by omega), nI_clamp (by omega)]
      exact ⟨rfl, rfl, rfl, l0, l1, l2⟩
  · have hn : tx_n b N = 0 := if_neg hc
    rw [if_neg (fun q => hc ((tx_fault_m1 hN).mp q)), hn]
    refine ⟨so, pd, wg, rfl, ?_, ?_, fun t ht => ?_⟩
    · show tx_n b N ≤ 8; omega
    · show (0 : Int32) = nI (tx_n b N); rw [hn]; rfl
    · have : t < tx_n b N := ht
      omega
theorem mm_reads7 {b : Nat → Int32} {N : Nat} (hN : N ≤ 31) : ∀ (j i F : Nat) (te : Nat → Int32), i + j = tx_F b N → j < F → (∀ x, x < i → x % 4 < 3 → te (3 * (x / 4) + x % 4) = tx_v (x % 4) (b x)) → ∃ te', fX8_reads_7 (nI N) b F (nI ((i + 1) / 4)) te (nI i) = some (tx_fault b N, nI (tx_n b N), te') ∧ (¬ tx_F b N < N → ∀ x, x < N → x % 4 < 3 → te' (3 * (x / 4) + x % 4) = tx_v (x % 4) (b x)) := by
  have hF := tx_F_le b N
  intro j
  induction j with
  | zero =>
    intro i F te h1 h2 hte
    obtain ⟨F', rfl⟩ : ∃ z, F = z + 1 := ⟨F - 1, by omega⟩
    have hi : i = tx_F b N := by omega
    refine ⟨te, ?_, fun c x hx hm => hte x (by omega) hm⟩
    have e0 : fX8_reads_7 (nI N) b (F' + 1) (nI ((i + 1) / 4)) te (nI i) = bX8_reads_7 (nI N) b (fX8_reads_7 (nI N) b F') (nI ((i + 1) / 4)) te (nI i) := rfl
    rw [e0]
    unfold bX8_reads_7 tx_fault tx_n
    by_cases c : tx_F b N < N
    · have hy := tx_F_yes c
      rw [if_pos c, if_neg (show ¬ (¬ tx_F b N < N ∧ (N = 0 ∨ N % 4 = 3)) from fun q => q.1 c)]
      rw [← hi] at hy c ⊢
      rw [if_neg (nI_ge (b := N) (by omega) (by omega)), show nI i - nI i / (4 : Int32) * (4 : Int32) = nI (i % 4) from pk_rem (d := 4) (by omega) (by omega) (by omega), pz_nm, pz_rd (by omega) (by omega), mm_tenantOf (by omega), bd1_eq, if_pos hy]
      rfl
    · have hiN : i = N := by omega
      rw [if_neg c, if_pos (nI_le (by omega) (by omega)), show nI N - nI N / (4 : Int32) * (4 : Int32) = nI (N % 4) from pk_rem (d := 4) (by omega) (by omega) (by omega), hiN]
      by_cases d : N = 0
      · subst d; rw [if_pos (show ¬ tx_F b 0 < 0 ∧ (0 = 0 ∨ 0 % 4 = 3) from ⟨c, Or.inl rfl⟩)]; rfl
      · rw [if_neg (show ¬ nI N ≤ (0 : Int32) from nI_nle (by omega) (by omega))]
        by_cases e : N % 4 = 3
        · rw [if_pos (show ¬ tx_F b N < N ∧ (N = 0 ∨ N % 4 = 3) from ⟨c, Or.inr e⟩), if_pos (show N = 0 ∨ N % 4 = 3 from Or.inr e), if_pos (show nI (N % 4) = (3 : Int32) by rw [e]; rfl)]
        · rw [if_neg (show ¬ (¬ tx_F b N < N ∧ (N = 0 ∨ N % 4 = 3)) from fun q => by omega), if_neg (show ¬ (N = 0 ∨ N % 4 = 3) by omega), if_neg (show ¬ nI (N % 4) = (3 : Int32) from fun q => e ((nI_eq (b := 3) (by omega) (by omega)).mp q))]
          rfl
  | succ j ih =>
    intro i F te h1 h2 hte
    obtain ⟨F', rfl⟩ : ∃ z, F = z + 1 := ⟨F - 1, by omega⟩
    have hi : i < tx_F b N := by omega
    have hp := tx_F_no hi
    have e0 : fX8_reads_7 (nI N) b (F' + 1) (nI ((i + 1) / 4)) te (nI i) = bX8_reads_7 (nI N) b (fX8_reads_7 (nI N) b F') (nI ((i + 1) / 4)) te (nI i) := rfl
    rw [e0]
    unfold bX8_reads_7
    simp only [fX8_reads_61, fX8_reads_76, pz_nm, pz_1]
    rw [if_neg (nI_ge (b := N) (by omega) (by omega)), show nI i - nI i / (4 : Int32) * (4 : Int32) = nI (i % 4) from pk_rem (d := 4) (by omega) (by omega) (by omega), pz_rd (by omega) (by omega), mm_tenantOf (by omega), bd1_eq, if_neg hp, Int32.add_zero]
    by_cases c3 : i % 4 = 3
    · rw [if_pos (show (3 : Int32) ≤ nI (i % 4) by rw [c3]; decide), if_neg (show ¬ nI (i % 4) = (2 : Int32) by rw [c3]; decide), show (i + 1) / 4 = (i + 1 + 1) / 4 by omega]
      refine ih (i + 1) F' te (by omega) (by omega) (fun x hx hm => hte x (by omega) hm)
    · rw [if_neg (show ¬ (3 : Int32) ≤ nI (i % 4) from nI_ge (b := 3) (by omega) (by omega)), show nI i / (4 : Int32) = nI (i / 4) from pk_div (d := 4) (by omega) (by omega) (by omega), mm_3, nI_add, pz_wr (by omega) (by omega)]
      have hte' : ∀ x, x < i + 1 → x % 4 < 3 → upd te (3 * (i / 4) + i % 4) (tx_v (i % 4) (b i)) (3 * (x / 4) + x % 4) = tx_v (x % 4) (b x) := fun x hx hm => by
        rw [upd_at]
        by_cases e : x = i
        · subst e; rw [if_pos rfl]
        · rw [if_neg (by omega)]; exact hte x (by omega) hm
      by_cases c2 : i % 4 = 2
      · rw [if_pos (show nI (i % 4) = (2 : Int32) by rw [c2]; rfl), show (i + 1) / 4 + 1 = (i + 1 + 1) / 4 by omega]
        exact ih (i + 1) F' _ (by omega) (by omega) hte'
      · rw [if_neg (show ¬ nI (i % 4) = (2 : Int32) from fun q => c2 ((nI_eq (b := 2) (by omega) (by omega)).mp q)), show (i + 1) / 4 = (i + 1 + 1) / 4 by omega]
        exact ih (i + 1) F' _ (by omega) (by omega) hte'
theorem mm_reads {b te : Nat → Int32} {N : Nat} {tn : Int32} (hN : N ≤ 31) : ∃ te', fX8_reads (nI N) b tn te = some (tx_fault b N, nI (tx_n b N), te') ∧ MT (tx_T b N) (nI (tx_n b N)) te' := by
  obtain ⟨te', e1, h1⟩ := mm_reads7 (b := b) hN (tx_F b N) 0 jF te (by omega) (pz_jF (by have := tx_F_le b N; omega)) (fun x hx => absurd hx (Nat.not_lt_zero x))
  refine ⟨te', e1, tx_n_le hN, rfl, fun t ht => ?_⟩
  have ht' : t < tx_n b N := ht
  have hc : ¬ tx_F b N < N ∧ (N = 0 ∨ N % 4 = 3) := by
    by_cases c : ¬ tx_F b N < N ∧ (N = 0 ∨ N % 4 = 3)
    · exact c
    · have : tx_n b N = 0 := if_neg c
      omega
  have hn : tx_n b N = (N + 1) / 4 := if_pos hc
  rw [hn] at ht'
  have hFN : tx_F b N = N := by have := tx_F_le b N; omega
  have g0 := h1 hc.1 (4 * t) (by omega) (by omega)
  have g1 := h1 hc.1 (4 * t + 1) (by omega) (by omega)
  have g2 := h1 hc.1 (4 * t + 2) (by omega) (by omega)
  have p0 := tx_F_no (b := b) (N := N) (i := 4 * t) (by omega)
  have p1 := tx_F_no (b := b) (N := N) (i := 4 * t + 1) (by omega)
  have p2 := tx_F_no (b := b) (N := N) (i := 4 * t + 2) (by omega)
  rw [show 4 * t % 4 = 0 by omega] at g0 p0
  rw [show (4 * t + 1) % 4 = 1 by omega] at g1 p1
  rw [show (4 * t + 2) % 4 = 2 by omega] at g2 p2
  rw [show 3 * (4 * t / 4) + 0 = 3 * t by omega] at g0
  rw [show 3 * ((4 * t + 1) / 4) + 1 = 3 * t + 1 by omega] at g1
  rw [show 3 * ((4 * t + 2) / 4) + 2 = 3 * t + 2 by omega] at g2
  obtain ⟨j0, l0, e0⟩ := tx_v0 p0
  obtain ⟨j1, l1, d1, e1⟩ := tx_v1 (by omega) (by omega) p1
  obtain ⟨j2, l2, d2, e2⟩ := tx_v1 (by omega) (by omega) p2
  unfold tx_T
  dsimp only
  rw [g0, g1, g2, e0, e1, e2, nI_clamp (by omega), nI_clamp (by omega), nI_clamp (by omega)]
  exact ⟨rfl, rfl, rfl, l0, l1, l2⟩
