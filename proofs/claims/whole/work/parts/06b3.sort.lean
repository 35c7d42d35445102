def AH (lf : Nat → Int32) (a b : Nat) : Prop := lf b < lf a ∨ (lf a = lf b ∧ a < b)
theorem AH_tr {lf : Nat → Int32} {a b c : Nat} (h1 : AH lf a b) (h2 : AH lf b c) : AH lf a c := by
  unfold AH at *
  simp only [fa_lt, fa_eq] at *
  omega
theorem AH_tot {lf : Nat → Int32} {a b : Nat} (h : a ≠ b) (h1 : ¬ AH lf a b) : AH lf b a := by
  unfold AH at *
  simp only [fa_lt, fa_eq] at *
  omega
theorem AH_no {lf : Nat → Int32} {a b : Nat} (h1 : AH lf a b) (h2 : AH lf b a) : False := by
  unfold AH at *
  simp only [fa_lt, fa_eq] at *
  omega
theorem cm_ahead {a b : Nat} {lf : Nat → Int32} (ha : a < 8) (hb : b < 8) : (AH lf a b → fX1_isAhead (nI a) (nI b) lf = some 1) ∧ (¬ AH lf a b → fX1_isAhead (nI a) (nI b) lf = some 0) := by
  unfold fX1_isAhead
  rw [pz_rd ha (by omega), pz_rd hb (by omega), pz_rd ha (by omega), pz_rd hb (by omega)]
  unfold AH
  by_cases c1 : lf b < lf a
  · exact ⟨fun _ => by rw [if_pos c1], fun q => absurd (Or.inl c1) q⟩
  · rw [if_neg c1]
    by_cases c2 : lf a = lf b
    · rw [if_pos c2]
      by_cases c3 : a < b
      · exact ⟨fun _ => by rw [if_neg (nI_ge c3 (by omega))], fun q => absurd (Or.inr ⟨c2, c3⟩) q⟩
      · refine ⟨fun q => ?_, fun _ => by rw [if_pos (nI_le (Nat.not_lt.mp c3) (by omega))]⟩
        rcases q with q | q
        · exact absurd q c1
        · exact absurd q.2 c3
    · rw [if_neg c2]
      refine ⟨fun q => ?_, fun _ => rfl⟩
      rcases q with q | q
      · exact absurd q c1
      · exact absurd q.1 c2
noncomputable def so_j (lf : Nat → Int32) (o : Nat → Nat) (t : Nat) : Nat → Nat
  | 0 => 0
  | j + 1 => @ite _ (AH lf t (o j)) (Classical.propDecidable _) (so_j lf o t j) (j + 1)
theorem so_j_le (lf : Nat → Int32) (o : Nat → Nat) (t : Nat) : ∀ k, so_j lf o t k ≤ k
  | 0 => Nat.le_refl 0
  | k + 1 => by
    unfold so_j
    have := so_j_le lf o t k
    split <;> omega
theorem so_j_in (lf : Nat → Int32) (o : Nat → Nat) (t : Nat) : ∀ k z, so_j lf o t k ≤ z → z < k → AH lf t (o z)
  | 0, z, _, h => absurd h (Nat.not_lt_zero z)
  | k + 1, z, h1, h2 => by
    unfold so_j at h1
    split at h1
    · rename_i q
      by_cases hz : z = k
      · subst hz; exact q
      · exact so_j_in lf o t k z h1 (by omega)
    · omega
theorem so_j_end (lf : Nat → Int32) (o : Nat → Nat) (t : Nat) : ∀ k, so_j lf o t k = 0 ∨ ¬ AH lf t (o (so_j lf o t k - 1))
  | 0 => Or.inl rfl
  | k + 1 => by
    unfold so_j
    split
    · exact so_j_end lf o t k
    · rename_i q; exact Or.inr q
def so_sh {α : Type} (o : Nat → α) (k j x : Nat) : α := if j < x ∧ x ≤ k then o (x - 1) else o x
theorem so_sh_s (od : Nat → Int32) (k j : Nat) (hj : j + 1 ≤ k) : upd (so_sh od k (j + 1)) (j + 1) (od j) = so_sh od k j := by
  funext x
  rw [upd_at]
  unfold so_sh
  by_cases h : x = j + 1
  · subst h; rw [if_pos rfl, if_pos ⟨by omega, hj⟩]; rfl
  · rw [if_neg h]
    by_cases h2 : j + 1 < x ∧ x ≤ k
    · rw [if_pos h2, if_pos ⟨by omega, h2.2⟩]
    · rw [if_neg h2, if_neg (fun q => h2 ⟨by omega, q.2⟩)]
theorem cm_ins {n k t : Nat} {lf od : Nat → Int32} {o : Nat → Nat} {q : (Nat → Int32) → Int32 → Option (Nat → Int32)} (hk : k < 8) (ht : t < 8) (ho : ∀ x, x < k → od x = nI (o x) ∧ o x < 8) : ∀ (j F : Nat), j ≤ k → j < F → fX1_sortByLeft_19 (nI n) lf q F (so_sh od k j) (nI k) (nI t) (nI j) = q (upd (so_sh od k (so_j lf o t j)) (so_j lf o t j) (nI t)) (nI (k + 1)) := by
  intro j
  induction j with
  | zero =>
    intro F h1 h2
    obtain ⟨F', rfl⟩ : ∃ z, F = z + 1 := ⟨F - 1, by omega⟩
    have e0 : fX1_sortByLeft_19 (nI n) lf q (F' + 1) (so_sh od k 0) (nI k) (nI t) (nI 0) = bX1_sortByLeft_19 (nI n) lf q (fX1_sortByLeft_19 (nI n) lf q F') (so_sh od k 0) (nI k) (nI t) (nI 0) := rfl
    rw [e0]
    unfold bX1_sortByLeft_19
    rw [if_pos (show nI 0 ≤ (0 : Int32) by decide)]
    unfold fX1_sortByLeft_59
    rw [pz_wr (by omega) (by omega)]
    simp only [pz_nm, pz_1]
    rfl
  | succ j ih =>
    intro F h1 h2
    obtain ⟨F', rfl⟩ : ∃ z, F = z + 1 := ⟨F - 1, by omega⟩
    show bX1_sortByLeft_19 (nI n) lf q (fX1_sortByLeft_19 (nI n) lf q F') _ _ _ _ = _
    unfold bX1_sortByLeft_19 so_j
    obtain ⟨e1, e2⟩ := ho j (by omega)
    have sj : so_sh od k (j + 1) j = od j := by unfold so_sh; rw [if_neg (fun q => by omega)]
    rw [if_neg (nI_nle (by omega) (by omega)), show nI (j + 1) - (1 : Int32) = nI j from nI_pred j, pz_rd (by omega) (by omega), sj, e1, pz_rd (by omega) (by omega), sj, e1]
    by_cases c1 : AH lf t (o j)
    · rw [(cm_ahead ht e2).1 c1, bd1_eq, if_neg (by decide), pz_wr (by omega) (by omega), ← e1, so_sh_s od k j (by omega), if_pos c1]
      simp only [pz_nm]
      rw [show nI (j + 1) + (-1 : Int32) = nI j from pk_m1 j]
      exact ih F' (by omega) (by omega)
    · rw [(cm_ahead ht e2).2 c1, bd1_eq, if_pos rfl, if_neg c1]
      unfold fX1_sortByLeft_59
      rw [pz_wr (by omega) (by omega)]
      simp only [pz_nm, pz_1]
def so_ok (n : Nat) (od : Nat → Int32) (o : Nat → Nat) : Prop := (∀ x, x < n → od x = nI (o x) ∧ o x < n) ∧ ∀ x y, x < y → y < n → o x ≠ o y
def so_in (o : Nat → Nat) (k j x : Nat) : Nat := if x = j then o k else so_sh o k j x
theorem so_step {n k : Nat} {lf od : Nat → Int32} {o : Nat → Nat} (hk : k < n) (h : so_ok n od o) (hs : ∀ x y, x < y → y < k → AH lf (o x) (o y)) : so_ok n (upd (so_sh od k (so_j lf o (o k) k)) (so_j lf o (o k) k) (nI (o k))) (so_in o k (so_j lf o (o k) k)) ∧ ∀ x y, x < y → y < k + 1 → AH lf (so_in o k (so_j lf o (o k) k) x) (so_in o k (so_j lf o (o k) k) y) := by
  have hle := so_j_le lf o (o k) k
  have hin := so_j_in lf o (o k) k
  have hend := so_j_end lf o (o k) k
  generalize so_j lf o (o k) k = j at hle hin hend ⊢
  have at0 : so_in o k j j = o k := by unfold so_in; rw [if_pos rfl]
  have at1 : ∀ x, x < j → so_in o k j x = o x := fun x hx => by unfold so_in so_sh; rw [if_neg (by omega), if_neg (fun q => by omega)]
  have at2 : ∀ x, j < x → x ≤ k → so_in o k j x = o (x - 1) := fun x hx hx2 => by unfold so_in so_sh; rw [if_neg (by omega), if_pos ⟨hx, hx2⟩]
  have at3 : ∀ x, k < x → so_in o k j x = o x := fun x hx => by unfold so_in so_sh; rw [if_neg (by omega), if_neg (fun q => by omega)]
  have ne : ∀ a b, a < n → b < n → a ≠ b → o a ≠ o b := fun a b ha hb hab => by
    rcases Nat.lt_or_ge a b with q | q
    · exact h.2 a b q hb
    · exact fun z => h.2 b a (by omega) ha z.symm
  refine ⟨⟨fun x hx => ?_, fun x y hxy hy => ?_⟩, fun x y hxy hy => ?_⟩
  · rw [upd_at]
    unfold so_in so_sh
    by_cases c1 : x = j
    · rw [if_pos c1, if_pos c1]; exact ⟨rfl, (h.1 k hk).2⟩
    · rw [if_neg c1, if_neg c1]
      by_cases c2 : j < x ∧ x ≤ k
      · rw [if_pos c2, if_pos c2]; exact h.1 (x - 1) (by omega)
      · rw [if_neg c2, if_neg c2]; exact h.1 x hx
  · rcases (show x < j ∨ x = j ∨ (j < x ∧ x ≤ k) ∨ k < x by omega) with c | c | c | c
    · rw [at1 x c]
      rcases (show y < j ∨ y = j ∨ (j < y ∧ y ≤ k) ∨ k < y by omega) with d | d | d | d
      · rw [at1 y d]; exact ne _ _ (by omega) (by omega) (by omega)
      · rw [d, at0]; exact ne _ _ (by omega) (by omega) (by omega)
      · rw [at2 y d.1 d.2]; exact ne _ _ (by omega) (by omega) (by omega)
      · rw [at3 y d]; exact ne _ _ (by omega) (by omega) (by omega)
    · rw [c, at0]
      rcases (show (j < y ∧ y ≤ k) ∨ k < y by omega) with d | d
      · rw [at2 y d.1 d.2]; exact ne _ _ (by omega) (by omega) (by omega)
      · rw [at3 y d]; exact ne _ _ (by omega) (by omega) (by omega)
    · rw [at2 x c.1 c.2]
      rcases (show (j < y ∧ y ≤ k) ∨ k < y by omega) with d | d
      · rw [at2 y d.1 d.2]; exact ne _ _ (by omega) (by omega) (by omega)
      · rw [at3 y d]; exact ne _ _ (by omega) (by omega) (by omega)
    · rw [at3 x c, at3 y (by omega)]; exact ne _ _ (by omega) (by omega) (by omega)
  · rcases (show x < j ∨ x = j ∨ j < x by omega) with c | c | c
    · rw [at1 x c]
      rcases (show y < j ∨ y = j ∨ j < y by omega) with d | d | d
      · rw [at1 y d]; exact hs x y hxy (by omega)
      · rw [d, at0]
        have h9 : AH lf (o (j - 1)) (o k) := AH_tot (ne _ _ hk (by omega) (by omega)) (by rcases hend with z | z; (· omega); exact z)
        by_cases hx : x = j - 1
        · rw [hx]; exact h9
        · exact AH_tr (hs x (j - 1) (by omega) (by omega)) h9
      · rw [at2 y d (by omega)]; exact hs x (y - 1) (by omega) (by omega)
    · rw [c, at0, at2 y (by omega) (by omega)]; exact hin (y - 1) (by omega) (by omega)
    · rw [at2 x c (by omega), at2 y (by omega) (by omega)]; exact hs (x - 1) (y - 1) (by omega) (by omega)
theorem cm_sort2 {n : Nat} {lf : Nat → Int32} (hn : n ≤ 8) : ∀ (j k F : Nat) (od : Nat → Int32) (o : Nat → Nat), k + j = n → j < F → so_ok n od o → (∀ x y, x < y → y < k → AH lf (o x) (o y)) → ∃ od' o', fX1_sortByLeft_2 (nI n) lf F od (nI k) = some od' ∧ so_ok n od' o' ∧ ∀ x y, x < y → y < n → AH lf (o' x) (o' y) := by
  intro j
  induction j with
  | zero =>
    intro k F od o h1 h2 h3 h4
    obtain ⟨F', rfl⟩ : ∃ z, F = z + 1 := ⟨F - 1, by omega⟩
    have : k = n := by omega
    subst this
    refine ⟨od, o, ?_, h3, h4⟩
    show bX1_sortByLeft_2 (nI k) lf (fX1_sortByLeft_2 (nI k) lf F') _ _ = _
    unfold bX1_sortByLeft_2
    rw [if_pos (nI_le (Nat.le_refl _) (by omega))]
  | succ j ih =>
    intro k F od o h1 h2 h3 h4
    obtain ⟨F', rfl⟩ : ∃ z, F = z + 1 := ⟨F - 1, by omega⟩
    have hk : k < n := by omega
    obtain ⟨g1, g2⟩ := so_step (lf := lf) hk h3 h4
    obtain ⟨od', o', e1, e2, e3⟩ := ih (k + 1) F' _ _ (by omega) (by omega) g1 g2
    refine ⟨od', o', ?_, e2, e3⟩
    show bX1_sortByLeft_2 (nI n) lf (fX1_sortByLeft_2 (nI n) lf F') _ _ = _
    unfold bX1_sortByLeft_2
    have ek := h3.1 k hk
    have s0 : so_sh od k k = od := by funext x; unfold so_sh; rw [if_neg (fun q => by omega)]
    rw [if_neg (nI_ge hk (by omega)), pz_rd (by omega) (by omega), ek.1]
    have := cm_ins (n := n) (k := k) (t := o k) (lf := lf) (od := od) (o := o) (q := fX1_sortByLeft_2 (nI n) lf F') (by omega) (by omega) (fun x hx => ⟨(h3.1 x (by omega)).1, by have := (h3.1 x (by omega)).2; omega⟩) k jF (Nat.le_refl k) (pz_jF (by omega))
    rw [s0] at this
    rw [this]
    exact e1
theorem cm_sort {n : Nat} {lf od : Nat → Int32} {o : Nat → Nat} (hn : n ≤ 8) (h : so_ok n od o) : ∃ od' o', fX1_sortByLeft (nI n) lf od = some od' ∧ so_ok n od' o' ∧ ∀ x y, x < y → y < n → AH lf (o' x) (o' y) := by
  unfold fX1_sortByLeft
  by_cases h0 : n = 0
  · subst h0
    refine ⟨od, o, ?_, h, fun x y _ hy => absurd hy (Nat.not_lt_zero y)⟩
    obtain ⟨F', hF⟩ : ∃ z, jF = z + 1 := ⟨999, rfl⟩
    have e0 : fX1_sortByLeft_2 (nI 0) lf (F' + 1) od 1 = bX1_sortByLeft_2 (nI 0) lf (fX1_sortByLeft_2 (nI 0) lf F') od 1 := rfl
    rw [hF, e0]
    unfold bX1_sortByLeft_2
    rw [if_pos (by decide)]
  · exact cm_sort2 hn (n - 1) 1 jF od o (by omega) (pz_jF (by omega)) h (fun x y hxy hy => by omega)
