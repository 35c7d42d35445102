theorem nI_m1 {m : Nat} (h : m < 2 ^ 31) : ¬ nI m = -1 := fun q => by
  have := congrArg Int32.toInt q
  rw [nI_toInt h] at this
  have e : (-1 : Int32).toInt = -1 := by decide
  rw [e] at this
  omega
theorem sp_all {I : sI} {lf st f0 : Nat → Int32} {au : Int32} (hn : I.1.1 ≤ 8) (h0 : ∀ t, t < I.1.1 → (f0 t = -1 ↔ ¬ st t = -1)) : ∀ t, t < I.1.1 → ((sp_g I lf st au f0 I.1.1).1 t = true ↔ st t = -1) := by
  obtain ⟨od, o, -, h1, h2⟩ := cm_sort (n := I.1.1) (lf := lf) (od := fun x => nI x) (o := fun x => x) hn ⟨fun x hx => ⟨rfl, hx⟩, fun x y h _ => Nat.ne_of_lt h⟩
  obtain ⟨_, _, -, -, h3⟩ := cm_give (I := I) (au := au) (st := st) (f0 := f0) (tk := fun _ => 0) hn h1 h2 h0
  exact h3
theorem sp_g_yes (I : sI) (lf st : Nat → Int32) (au : Int32) (f0 : Nat → Int32) (t : Nat) : ∀ i, (sp_g I lf st au f0 i).1 t = true → ∃ f, f ≤ 12 ∧ (sp_g I lf st au f0 i).2.1 t = nI f
  | 0, h => by cases h
  | i + 1, h => by
    unfold sp_g at h ⊢
    cases hb : sp_b lf (sp_ok st (sp_g I lf st au f0 i).1) I.1.1 with
    | none => rw [sp_gs_none hb] at h ⊢; exact sp_g_yes I lf st au f0 t i h
    | some b =>
      obtain ⟨w, hw2, hw⟩ := sp_w_rng (lf b) au
      rw [sp_gs_some hb hw hw2] at h ⊢
      dsimp only at h ⊢
      simp only [Bool.or_eq_true, decide_eq_true_eq] at h
      rw [upd_at]
      by_cases c : t = b
      · rw [if_pos c]; exact ⟨_, Nat.le_trans (sp_slot_le _ _ _) hw2, rfl⟩
      · rw [if_neg c]
        rcases h with h | h
        · exact absurd h c
        · exact sp_g_yes I lf st au f0 t i h
theorem sp_b_cong {lf lf' : Nat → Int32} {ok ok' : Nat → Bool} : ∀ k, (∀ t, t < k → lf t = lf' t ∧ ok t = ok' t) → sp_b lf ok k = sp_b lf' ok' k
  | 0, _ => rfl
  | k + 1, h => by
    have ih := sp_b_cong k (fun t ht => h t (by omega))
    unfold sp_b
    rw [ih, (h k (by omega)).2, (h k (by omega)).1]
    cases hb : sp_b lf' ok' k with
    | none => rfl
    | some b =>
      have := ((sp_b_ok lf' ok' k).2 b hb).1
      dsimp only
      rw [(h b (by omega)).1]
theorem sp_g_cong {I : sI} {lf lf' st st' f0 f0' : Nat → Int32} {au : Int32} (h1 : eqN I.1.1 lf lf') (h2 : eqN I.1.1 st st') (h3 : eqN I.1.1 f0 f0') : ∀ i, (∀ t, t < I.1.1 → (sp_g I lf st au f0 i).1 t = (sp_g I lf' st' au f0' i).1 t) ∧ eqN I.1.1 (sp_g I lf st au f0 i).2.1 (sp_g I lf' st' au f0' i).2.1 ∧ (sp_g I lf st au f0 i).2.2 = (sp_g I lf' st' au f0' i).2.2
  | 0 => ⟨fun _ _ => rfl, h3, rfl⟩
  | i + 1 => by
    obtain ⟨i1, i2, i3⟩ := sp_g_cong (au := au) h1 h2 h3 i
    have hb : sp_b lf (sp_ok st (sp_g I lf st au f0 i).1) I.1.1 = sp_b lf' (sp_ok st' (sp_g I lf' st' au f0' i).1) I.1.1 := sp_b_cong _ (fun t ht => ⟨h1 t ht, by unfold sp_ok; rw [h2 t ht, i1 t ht]⟩)
    unfold sp_g
    cases hc : sp_b lf (sp_ok st (sp_g I lf st au f0 i).1) I.1.1 with
    | none =>
      rw [sp_gs_none hc, sp_gs_none (hb.symm.trans hc)]
      exact ⟨i1, i2, i3⟩
    | some b =>
      obtain ⟨w, hw2, hw⟩ := sp_w_rng (lf b) au
      have hbn := ((sp_b_ok lf _ _).2 b hc).1
      rw [sp_gs_some hc hw hw2, sp_gs_some (hb.symm.trans hc) (by rw [← h1 b hbn]; exact hw) hw2, i3]
      refine ⟨fun t ht => ?_, fun t ht => ?_, rfl⟩
      · dsimp only; rw [i1 t ht]
      · dsimp only; rw [upd_at, upd_at, i2 t ht]
theorem sp_ev_cong {I : sI} {m : Nat} {fl fl' lf lf' : Nat → Int32} (h1 : eqN I.1.1 fl fl') (h2 : eqN I.1.1 lf lf') : ∀ i, eqN I.1.1 (itN (sp_ev I m fl) (lf, 0) i).1 (itN (sp_ev I m fl') (lf', 0) i).1 ∧ (itN (sp_ev I m fl) (lf, 0) i).2 = (itN (sp_ev I m fl') (lf', 0) i).2
  | 0 => ⟨h2, rfl⟩
  | i + 1 => by
    obtain ⟨g1, g2⟩ := sp_ev_cong (m := m) h1 h2 i
    show eqN I.1.1 (sp_ev I m fl i (itN (sp_ev I m fl) (lf, 0) i)).1 (sp_ev I m fl' i (itN (sp_ev I m fl') (lf', 0) i)).1 ∧ (sp_ev I m fl i (itN (sp_ev I m fl) (lf, 0) i)).2 = (sp_ev I m fl' i (itN (sp_ev I m fl') (lf', 0) i)).2
    generalize itN (sp_ev I m fl) (lf, 0) i = S at g1 g2 ⊢
    generalize itN (sp_ev I m fl') (lf', 0) i = S' at g1 g2 ⊢
    unfold sp_ev
    by_cases c1 : I.2.1.2.2.1 i = m ∧ I.2.2.1 i = true
    · rw [if_pos c1, if_pos c1]
      by_cases c2 : I.2.1.2.1 i = 2
      · rw [if_pos c2, if_pos c2]; exact ⟨g1, rfl⟩
      · rw [if_neg c2, if_neg c2]
        by_cases c3 : I.2.1.2.2.2 i < I.1.1
        · rw [h1 _ c3]
          by_cases c4 : fl' (I.2.1.2.2.2 i) = -1
          · rw [if_neg (fun q => q.2 c4), if_neg (fun q => q.2 c4)]; exact ⟨g1, g2⟩
          · have c34 : I.2.1.2.2.2 i < I.1.1 ∧ ¬ fl' (I.2.1.2.2.2 i) = -1 := ⟨c3, c4⟩
            rw [if_pos c34, if_pos c34]
            refine ⟨fun t ht => ?_, g2⟩
            dsimp only
            rw [upd_at, upd_at, g1 _ c3, g1 t ht]
        · rw [if_neg (fun q => c3 q.1), if_neg (fun q => c3 q.1)]; exact ⟨g1, g2⟩
    · rw [if_neg c1, if_neg c1]; exact ⟨g1, g2⟩
def sp_good (I : sI) (s : sS) : Prop := ∀ t, t < I.1.1 → (s.1 t = -1 ↔ ¬ s.2.2.1 t = -1) ∧ (s.1 t = -1 ∨ ∃ f, f ≤ 12 ∧ s.1 t = nI f)
theorem sp_h0 {I : sI} {m : Nat} {s : sS} (hm : m < 2 ^ 31) (h : sp_good I s) : ∀ t, t < I.1.1 → (sp_f I m s t = -1 ↔ ¬ sp_st I m s t = -1) := by
  intro t ht
  unfold sp_f sp_st
  by_cases c : sp_out I m s t = true
  · rw [if_pos c, if_pos c]; exact ⟨fun _ => nI_m1 hm, fun _ => rfl⟩
  · rw [if_neg c, if_neg c]; exact (h t ht).1
theorem sp_m_good {I : sI} {m : Nat} {s : sS} (hn : I.1.1 ≤ 8) (hm : m < 2 ^ 31) (h : sp_good I s) : sp_good I (sp_m I m s) := by
  intro t ht
  have h0 := sp_h0 hm h
  have hall := sp_all (lf := sp_l I m s) (au := (sp_e I m s).2) hn h0 t ht
  show (sp_fl I m s t = -1 ↔ ¬ sp_st I m s t = -1) ∧ (sp_fl I m s t = -1 ∨ ∃ f, f ≤ 12 ∧ sp_fl I m s t = nI f)
  unfold sp_fl
  by_cases c : sp_st I m s t = -1
  · obtain ⟨f, hf, ef⟩ := sp_g_yes _ _ _ _ _ t _ (hall.mpr c)
    rw [ef]
    exact ⟨⟨fun q => absurd q (nI_m1 (by omega)), fun q => absurd c q⟩, Or.inr ⟨f, hf, rfl⟩⟩
  · have e := sp_g_not I (sp_l I m s) (sp_st I m s) (sp_e I m s).2 (sp_f I m s) t I.1.1 (fun q => c (hall.mp q))
    rw [e]
    have e2 := (h0 t ht).mpr c
    exact ⟨⟨fun _ => c, fun _ => e2⟩, Or.inl e2⟩
theorem sp_r_good {I : sI} (hn : I.1.1 ≤ 8) : ∀ m, m ≤ 24 → sp_good I (sp_r I m)
  | 0, _ => fun t _ => ⟨⟨fun q => absurd q (by show ¬ (0 : Int32) = -1; decide), fun q => absurd rfl q⟩, Or.inr ⟨0, by omega, rfl⟩⟩
  | m + 1, h => sp_m_good hn (by omega) (sp_r_good hn m (by omega))
theorem cm_between {n : Nat} {lo hi : Int32} {fl : Nat → Int32} (hn : n ≤ 8) : fX1_livingBetween lo hi (nI n) fl = some (nI (sp_bt n fl lo hi)) := by
  unfold fX1_livingBetween
  refine pz_up (fun F i => fX1_livingBetween_5 lo hi (nI n) fl F (nI (sp_bt i fl lo hi)) (nI i)) n _ (fun F i hi2 => ?_) (fun F => ?_) n 0 jF (by omega) (pz_jF (by omega))
  · have e0 : fX1_livingBetween_5 lo hi (nI n) fl (F + 1) (nI (sp_bt i fl lo hi)) (nI i) = bX1_livingBetween_5 lo hi (nI n) fl (fX1_livingBetween_5 lo hi (nI n) fl F) (nI (sp_bt i fl lo hi)) (nI i) := rfl
    rw [e0]
    unfold bX1_livingBetween_5
    simp only [fX1_livingBetween_39, pz_nm, pz_1]
    rw [if_neg (nI_ge hi2 (by omega)), pz_rd (by omega) (by omega), pz_rd (by omega) (by omega)]
    have e1 : sp_bt (i + 1) fl lo hi = sp_bt i fl lo hi + (if decide (lo < fl i ∧ fl i < hi) = true then 1 else 0) := rfl
    rw [e1]
    by_cases c1 : fl i ≤ lo
    · rw [if_pos c1, if_neg (by simp; intro q; exact absurd c1 (fa_of_lt q).2.1)]; rfl
    · rw [if_neg c1]
      by_cases c2 : hi ≤ fl i
      · rw [if_pos c2, if_neg (by simp; intro _; exact c2)]; rfl
      · rw [if_neg c2, if_pos (by simp; exact ⟨fa_of_nle c1, fa_of_nle c2⟩)]
  · have e0 : fX1_livingBetween_5 lo hi (nI n) fl (F + 1) (nI (sp_bt n fl lo hi)) (nI n) = bX1_livingBetween_5 lo hi (nI n) fl (fX1_livingBetween_5 lo hi (nI n) fl F) (nI (sp_bt n fl lo hi)) (nI n) := rfl
    rw [e0]
    unfold bX1_livingBetween_5
    rw [if_pos (nI_le (Nat.le_refl _) (by omega))]
def orB (p : Nat → Bool) : Nat → Int32
  | 0 => 0
  | i + 1 => if p i = true then orB p i ||| ((1 : Int32) <<< (nI i &&& 31)) else orB p i
def cf_e (fl be : Nat → Int32) (t : Nat) : Bool := decide (¬ (be t - 2 < fl t))
def cf_a (P : Nat → Bool) (f g : Nat → Int32) (i t : Nat) : Int32 := if t < i ∧ P t = true then g t else f t
theorem cf_a_s (P : Nat → Bool) (f g : Nat → Int32) (i : Nat) (h : P i = true) : upd (cf_a P f g i) i (g i) = cf_a P f g (i + 1) := by
  funext t
  rw [upd_at]
  unfold cf_a
  by_cases e : t = i
  · subst e; rw [if_pos rfl, if_pos ⟨by omega, h⟩]
  · rw [if_neg e]
    by_cases c : t < i ∧ P t = true
    · rw [if_pos c, if_pos ⟨by omega, c.2⟩]
    · rw [if_neg c, if_neg (fun q => c ⟨by omega, q.2⟩)]
theorem cf_a_n (P : Nat → Bool) (f g : Nat → Int32) (i : Nat) (h : ¬ P i = true) : cf_a P f g i = cf_a P f g (i + 1) := by
  funext t
  unfold cf_a
  by_cases c : t < i ∧ P t = true
  · rw [if_pos c, if_pos ⟨by omega, c.2⟩]
  · rw [if_neg c, if_neg]
    intro q
    by_cases e : t = i
    · subst e; exact h q.2
    · exact c ⟨by omega, q.2⟩
theorem cm_falls {n m : Nat} {fl be fa pa flr : Nat → Int32} (hn : n ≤ 8) (hm : m < 24) : fX1_countFalls (nI m) (nI n) fl be fa pa flr = some (cf_a (cf_e fl be) fa (fun t => fa t + 1) n, cf_a (cf_e fl be) pa (fun t => pa t + nI (sp_bt n fl (fl t) (be t))) n, upd flr m (orB (cf_e fl be) n)) := by
  unfold fX1_countFalls
  rw [pz_wr hm (by omega)]
  have s0 : fX1_countFalls_9 (nI m) (nI n) fl be jF fa pa (upd flr m 0) 0 = fX1_countFalls_9 (nI m) (nI n) fl be jF (cf_a (cf_e fl be) fa (fun t => fa t + 1) 0) (cf_a (cf_e fl be) pa (fun t => pa t + nI (sp_bt n fl (fl t) (be t))) 0) (upd flr m (orB (cf_e fl be) 0)) (nI 0) := by
    have e1 : ∀ (f g : Nat → Int32), cf_a (cf_e fl be) f g 0 = f := fun f g => by funext t; unfold cf_a; rw [if_neg (fun q => absurd q.1 (Nat.not_lt_zero t))]
    rw [e1, e1]; rfl
  rw [s0]
  refine pz_up (fun F i => fX1_countFalls_9 (nI m) (nI n) fl be F (cf_a (cf_e fl be) fa (fun t => fa t + 1) i) (cf_a (cf_e fl be) pa (fun t => pa t + nI (sp_bt n fl (fl t) (be t))) i) (upd flr m (orB (cf_e fl be) i)) (nI i)) n _ (fun F i hi => ?_) (fun F => ?_) n 0 jF (by omega) (pz_jF (by omega))
  · show bX1_countFalls_9 (nI m) (nI n) fl be (fX1_countFalls_9 (nI m) (nI n) fl be F) _ _ _ _ = _
    unfold bX1_countFalls_9
    simp only [fX1_countFalls_81, pz_nm, pz_1]
    rw [if_neg (nI_ge hi (by omega)), pz_rd (by omega) (by omega), pz_rd (by omega) (by omega)]
    by_cases c : be i - 2 < fl i
    · have hc : ¬ cf_e fl be i = true := by unfold cf_e; simp [c]
      rw [if_pos c, cf_a_n _ _ _ i hc, cf_a_n _ pa _ i hc, show orB (cf_e fl be) i = orB (cf_e fl be) (i + 1) from (if_neg hc).symm]
    · have hc : cf_e fl be i = true := by unfold cf_e; simp [c]
      have a1 : ∀ (f g : Nat → Int32), cf_a (cf_e fl be) f g i i = f i := fun f g => by unfold cf_a; rw [if_neg (fun q => absurd q.1 (Nat.lt_irrefl i))]
      rw [if_neg c, pz_rd hm (by omega), pk_us, pz_wr hm (by omega), fa_upd_twice, pz_rd (by omega) (by omega), a1, pz_wr (by omega) (by omega), pz_rd (by omega) (by omega), a1, pz_rd (by omega) (by omega), pz_rd (by omega) (by omega), cm_between hn, bd1_eq, pz_wr (by omega) (by omega)]
      rw [show upd (cf_a (cf_e fl be) fa (fun t => fa t + 1) i) i (fa i + 1) = cf_a (cf_e fl be) fa (fun t => fa t + 1) (i + 1) from cf_a_s (cf_e fl be) fa (fun t => fa t + 1) i hc, show upd (cf_a (cf_e fl be) pa (fun t => pa t + nI (sp_bt n fl (fl t) (be t))) i) i (pa i + nI (sp_bt n fl (fl i) (be i))) = cf_a (cf_e fl be) pa (fun t => pa t + nI (sp_bt n fl (fl t) (be t))) (i + 1) from cf_a_s (cf_e fl be) pa (fun t => pa t + nI (sp_bt n fl (fl t) (be t))) i hc, show orB (cf_e fl be) i ||| ((1 : Int32) <<< (nI i &&& 31)) = orB (cf_e fl be) (i + 1) from (if_pos hc).symm]
  · show bX1_countFalls_9 (nI m) (nI n) fl be (fX1_countFalls_9 (nI m) (nI n) fl be F) _ _ _ _ = _
    unfold bX1_countFalls_9
    rw [if_pos (nI_le (Nat.le_refl _) (by omega))]
theorem ck_keep {n m : Nat} {fl lf fls lfs : Nat → Int32} (hn : n ≤ 8) (hm : m < 24) : fX1_keep (nI m) (nI n) fl lf fls lfs = some (fb_put fls fl (m * 8) n, fb_put lfs lf (m * 8) n) := by
  unfold fX1_keep
  have ix : ∀ i : Nat, nI m * (8 : Int32) + nI i = nI (m * 8 + i) := fun i => by rw [show nI m * (8 : Int32) = nI (m * 8) from pk_mul m 8, nI_add]
  have s0 : fX1_keep_2 (nI m) (nI n) fl lf jF fls lfs 0 = fX1_keep_2 (nI m) (nI n) fl lf jF (fb_put fls fl (m * 8) 0) (fb_put lfs lf (m * 8) 0) (nI 0) := by rw [fb_put_0, fb_put_0]; rfl
  rw [s0]
  refine pz_up (fun F i => fX1_keep_2 (nI m) (nI n) fl lf F (fb_put fls fl (m * 8) i) (fb_put lfs lf (m * 8) i) (nI i)) n _ (fun F i hi => ?_) (fun F => ?_) n 0 jF (by omega) (pz_jF (by omega))
  · show bX1_keep_2 (nI m) (nI n) fl lf (fX1_keep_2 (nI m) (nI n) fl lf F) _ _ _ = _
    unfold bX1_keep_2
    simp only [pz_nm, pz_1]
    rw [if_neg (nI_ge hi (by omega)), pz_rd (by omega) (by omega), ix, pz_wr (by omega) (by omega), pz_rd (by omega) (by omega), pz_wr (by omega) (by omega), fb_put_succ, fb_put_succ]
  · show bX1_keep_2 (nI m) (nI n) fl lf (fX1_keep_2 (nI m) (nI n) fl lf F) _ _ _ = _
    unfold bX1_keep_2
    rw [if_pos (nI_le (Nat.le_refl _) (by omega))]
