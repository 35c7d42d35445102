theorem sp_slot_lt (tk : Nat → Int32) (rm : Nat) : ∀ w, ¬ sp_slot tk rm w = 0 → tk (sp_slot tk rm w) < nI rm
  | 0, h => absurd rfl h
  | w + 1, h => by
    unfold sp_slot at h ⊢
    by_cases c : tk (w + 1) < nI rm
    · rw [if_pos c]; exact c
    · rw [if_neg c] at h ⊢; exact sp_slot_lt tk rm w h
theorem i32_le1 {x y : Int32} (h : x < y) : x + 1 ≤ y := by
  rw [fa_lt] at h
  have hy := fb_rng y
  have hx := fb_rng x
  have e1 : (1 : Int32).toInt = 1 := by decide
  have e : (x + 1).toInt = x.toInt + (1 : Int32).toInt := fb_addI (by rw [e1]; omega) (by rw [e1]; omega)
  rw [fa_le, e, e1]
  omega
theorem sp_g_tk {I : sI} {lf st f0 : Nat → Int32} {au : Int32} (hr : I.2.2.2 ≤ 8) : ∀ i f, (sp_g I lf st au f0 i).2.2 f ≤ nI I.2.2.2
  | 0, f => show (0 : Int32) ≤ nI I.2.2.2 from nI_pos' (by omega)
  | i + 1, f => by
    have ih := sp_g_tk (lf := lf) (st := st) (f0 := f0) (au := au) hr i
    unfold sp_g
    cases hb : sp_b lf (sp_ok st (sp_g I lf st au f0 i).1) I.1.1 with
    | none => rw [sp_gs_none hb]; exact ih f
    | some b =>
      obtain ⟨w, hw2, hw⟩ := sp_w_rng (lf b) au
      rw [sp_gs_some hb hw hw2]
      dsimp only
      have hlt := sp_slot_lt (sp_g I lf st au f0 i).2.2 I.2.2.2 w
      generalize sp_slot (sp_g I lf st au f0 i).2.2 I.2.2.2 w = z at hlt ⊢
      unfold sp_tk
      by_cases c : z = 0
      · rw [if_pos c]; exact ih f
      · rw [if_neg c, upd_at]
        by_cases e : f = z
        · rw [if_pos e]; exact i32_le1 (hlt c)
        · rw [if_neg e]; exact ih f
theorem mm_gets25 {I : sI} {au : Int32} {lf st f0 : Nat → Int32} (hn : I.1.1 ≤ 8) (hr : I.2.2.2 ≤ 8) :
    ∀ (j i F : Nat) (fl mn : Nat → Int32) (i1 : Int32), i + j = I.1.1 → j < F → (∀ t, t < I.1.1 → bt i1 t = (sp_g I lf st au f0 i).1 t) → fl = (sp_g I lf st au f0 i).2.1 → (∀ f, 1 ≤ f → f ≤ 12 → mn f = (sp_g I lf st au f0 i).2.2 f) →
      ∃ mn', fX8_gets_25 (nI I.1.1) (nI I.2.2.2) au lf st F fl mn i1 (nI i) = some ((sp_g I lf st au f0 I.1.1).2.1, mn') := by
  intro j
  induction j with
  | zero =>
    intro i F fl mn i1 h1 h2 hd hf ht
    obtain ⟨F', rfl⟩ : ∃ z, F = z + 1 := ⟨F - 1, by omega⟩
    have hi : i = I.1.1 := by omega
    refine ⟨mn, ?_⟩
    have e0 : fX8_gets_25 (nI I.1.1) (nI I.2.2.2) au lf st (F' + 1) fl mn i1 (nI i) = bX8_gets_25 (nI I.1.1) (nI I.2.2.2) au lf st (fX8_gets_25 (nI I.1.1) (nI I.2.2.2) au lf st F') fl mn i1 (nI i) := rfl
    rw [e0]
    unfold bX8_gets_25
    rw [if_pos (nI_le (by omega) (by omega)), hf, hi]
  | succ j ih =>
    intro i F fl mn i1 h1 h2 hd hf ht
    obtain ⟨F', rfl⟩ : ∃ z, F = z + 1 := ⟨F - 1, by omega⟩
    have hi : i < I.1.1 := by omega
    have e0 : fX8_gets_25 (nI I.1.1) (nI I.2.2.2) au lf st (F' + 1) fl mn i1 (nI i) = bX8_gets_25 (nI I.1.1) (nI I.2.2.2) au lf st (fX8_gets_25 (nI I.1.1) (nI I.2.2.2) au lf st F') fl mn i1 (nI i) := rfl
    rw [e0]
    unfold bX8_gets_25
    rw [if_neg (nI_ge hi (by omega)), mm_scan (dn := (sp_g I lf st au f0 i).1) hn hd]
    cases hs : sp_b lf (sp_ok st (sp_g I lf st au f0 i).1) I.1.1 with
    | none =>
      dsimp only
      rw [pz_1]
      have e : sp_g I lf st au f0 (i + 1) = sp_g I lf st au f0 i := sp_gs_none hs
      exact ih (i + 1) F' fl mn i1 (by omega) (by omega) (by rw [e]; exact hd) (by rw [e]; exact hf) (by rw [e]; exact ht)
    | some b =>
      have hbn := ((sp_b_ok lf _ _).2 b hs).1
      obtain ⟨w, hw2, hw⟩ := sp_w_rng (lf b) au
      dsimp only
      rw [mm_wanted (by omega), bd1_eq, hw, mm_slot (I := I) (tk := (sp_g I lf st au f0 i).2.2) (by omega) hr ht (fun f _ _ => sp_g_tk hr i f) w jF hw2 (pz_jF (by omega)), pz_1]
      have e : sp_g I lf st au f0 (i + 1) = (fun t => decide (t = b) || (sp_g I lf st au f0 i).1 t, upd (sp_g I lf st au f0 i).2.1 b (nI (sp_slot (sp_g I lf st au f0 i).2.2 I.2.2.2 w)), sp_tk (sp_g I lf st au f0 i).2.2 (sp_slot (sp_g I lf st au f0 i).2.2 I.2.2.2 w)) := sp_gs_some hs hw hw2
      have hzl := sp_slot_le (sp_g I lf st au f0 i).2.2 I.2.2.2 w
      refine ih (i + 1) F' _ _ _ (by omega) (by omega) (fun t htn => ?_) ?_ (fun f g1 g2 => ?_)
      · rw [e, bt_set _ _ _ (by omega) (by omega), hd t htn, Bool.or_comm]
      · rw [e, hf]
      · rw [e]
        dsimp only
        generalize sp_slot (sp_g I lf st au f0 i).2.2 I.2.2.2 w = z at hzl ⊢
        unfold sp_tk
        rw [upd_at]
        by_cases c : z = 0
        · rw [if_pos c, if_neg (by omega)]; exact ht f g1 g2
        · rw [if_neg c, upd_at]
          by_cases e : f = z
          · rw [if_pos e, if_pos e, ht z (by omega) (by omega)]
          · rw [if_neg e, if_neg e]; exact ht f g1 g2
theorem mm_gets {I : sI} {au : Int32} {lf st fl mn : Nat → Int32} (hn : I.1.1 ≤ 8) (hr : I.2.2.2 ≤ 8) : ∃ mn', fX8_gets (nI I.1.1) (nI I.2.2.2) au lf st fl mn = some ((sp_g I lf st au fl I.1.1).2.1, mn') := by
  obtain ⟨mn', h⟩ := mm_gets25 (I := I) (au := au) (lf := lf) (st := st) (f0 := fl) hn hr I.1.1 0 jF fl (fa_fill (fun _ => 0) mn 13) 0 (by omega) (pz_jF (by omega)) (fun t ht => b_0 t) rfl (fun f _ h2 => by rw [fa_fill_in (by omega)]; rfl)
  refine ⟨mn', ?_⟩
  rw [← h]
  unfold fX8_gets
  have s0 : fX8_gets_2 (nI I.1.1) (nI I.2.2.2) au lf st jF fl mn 0 = fX8_gets_2 (nI I.1.1) (nI I.2.2.2) au lf st jF fl (fa_fill (fun _ => 0) mn 0) (nI 0) := by rw [fa_fill_0]; rfl
  rw [s0]
  refine pz_up (fun F i => fX8_gets_2 (nI I.1.1) (nI I.2.2.2) au lf st F fl (fa_fill (fun _ => 0) mn i) (nI i)) 13 _ (fun F i hi => ?_) (fun F => ?_) 13 0 jF (by omega) (pz_jF (by omega))
  · show bX8_gets_2 (nI I.1.1) (nI I.2.2.2) au lf st (fX8_gets_2 (nI I.1.1) (nI I.2.2.2) au lf st F) _ _ _ = _
    unfold bX8_gets_2
    simp only [pz_nm, pz_1]
    rw [if_neg (show ¬ (13 : Int32) ≤ nI i from nI_ge (b := 13) hi (by omega)), pz_wr hi (by omega), show upd (fa_fill (fun _ => 0) mn i) i 0 = fa_fill (fun _ => 0) mn (i + 1) from fa_fill_succ (fun _ => 0) mn i]
  · have e0 : fX8_gets_2 (nI I.1.1) (nI I.2.2.2) au lf st (F + 1) fl (fa_fill (fun _ => 0) mn 13) (nI 13) = bX8_gets_2 (nI I.1.1) (nI I.2.2.2) au lf st (fX8_gets_2 (nI I.1.1) (nI I.2.2.2) au lf st F) fl (fa_fill (fun _ => 0) mn 13) (nI 13) := rfl
    rw [e0]
    unfold bX8_gets_2
    rw [if_pos (show (13 : Int32) ≤ nI 13 by decide)]
    rfl
theorem mm_between {n : Nat} {lo hi : Int32} {fl : Nat → Int32} (hn : n ≤ 8) : fX8_between lo hi (nI n) fl = some (nI (sp_bt n fl lo hi)) := by
  unfold fX8_between
  refine pz_up (fun F i => fX8_between_5 lo hi (nI n) fl F (nI (sp_bt i fl lo hi)) (nI i)) n _ (fun F i hi2 => ?_) (fun F => ?_) n 0 jF (by omega) (pz_jF (by omega))
  · have e0 : fX8_between_5 lo hi (nI n) fl (F + 1) (nI (sp_bt i fl lo hi)) (nI i) = bX8_between_5 lo hi (nI n) fl (fX8_between_5 lo hi (nI n) fl F) (nI (sp_bt i fl lo hi)) (nI i) := rfl
    rw [e0]
    unfold bX8_between_5
    simp only [fX8_between_41, fX8_between_42, pz_nm, pz_1]
    rw [if_neg (nI_ge hi2 (by omega)), pz_rd (by omega) (by omega), pz_rd (by omega) (by omega)]
    have e1 : sp_bt (i + 1) fl lo hi = sp_bt i fl lo hi + (if decide (lo < fl i ∧ fl i < hi) = true then 1 else 0) := rfl
    rw [e1, Int32.add_zero]
    by_cases c1 : fl i ≤ lo
    · rw [if_pos c1, if_neg (by simp; intro q; exact absurd c1 (fa_of_lt q).2.1)]; rfl
    · rw [if_neg c1]
      by_cases c2 : hi ≤ fl i
      · rw [if_pos c2, if_neg (by simp; intro _; exact c2)]; rfl
      · rw [if_neg c2, if_pos (by simp; exact ⟨fa_of_nle c1, fa_of_nle c2⟩)]
  · have e0 : fX8_between_5 lo hi (nI n) fl (F + 1) (nI (sp_bt n fl lo hi)) (nI n) = bX8_between_5 lo hi (nI n) fl (fX8_between_5 lo hi (nI n) fl F) (nI (sp_bt n fl lo hi)) (nI n) := rfl
    rw [e0]
    unfold bX8_between_5
    rw [if_pos (nI_le (Nat.le_refl _) (by omega))]
def mp_v (I : sI) (be lf : Nat → Int32) (t : Nat) : Int32 := sp_pay (I.1.2.1 t) (I.1.2.2.2 t) (be t) (lf t)
def mp_a (st : Nat → Int32) (t : Nat) : Bool := decide (st t = -1)
def mp_o (I : sI) (be lf st : Nat → Int32) (t : Nat) : Bool := decide (st t = -1) && sp_lo (I.1.2.1 t) (mp_v I be lf t)
theorem cf_a_0 (P : Nat → Bool) (f g : Nat → Int32) : cf_a P f g 0 = f := by
  funext t; unfold cf_a; rw [if_neg (fun q => absurd q.1 (Nat.not_lt_zero t))]
theorem cf_a_i (P : Nat → Bool) (f g : Nat → Int32) (i : Nat) : cf_a P f g i i = f i := by
  unfold cf_a; rw [if_neg (fun q => absurd q.1 (Nat.lt_irrefl i))]
theorem mm_pass1 {n : Nat} {x rm en gone au : Int32} {te ev fl be lf st fe pa hi mn fb lb ee : Nat → Int32} (hn : n ≤ 8) : fX8_passes x (nI n) rm en gone te ev (au, fl, be, lf, st, fe, pa, hi, mn, fb, lb, ee) = bd2 (fX8_happens x (nI n) en gone ev st au lf) (fun au' lf' => fX8_passes_35 x (nI n) rm en gone te ev jF (au', fl, fa_fill fl be n, lf', st, fe, pa, hi, mn, fb, lb, ee) 0) := by
  unfold fX8_passes
  have s0 : fX8_passes_2 x (nI n) rm en gone te ev jF (au, fl, be, lf, st, fe, pa, hi, mn, fb, lb, ee) 0 = fX8_passes_2 x (nI n) rm en gone te ev jF (au, fl, fa_fill fl be 0, lf, st, fe, pa, hi, mn, fb, lb, ee) (nI 0) := by rw [fa_fill_0]; rfl
  rw [s0]
  refine pz_up (fun F i => fX8_passes_2 x (nI n) rm en gone te ev F (au, fl, fa_fill fl be i, lf, st, fe, pa, hi, mn, fb, lb, ee) (nI i)) n _ (fun F i hi => ?_) (fun F => ?_) n 0 jF (by omega) (pz_jF (by omega))
  · show bX8_passes_2 x (nI n) rm en gone te ev (fX8_passes_2 x (nI n) rm en gone te ev F) _ _ = _
    unfold bX8_passes_2
    simp only [pz_nm, pz_1]
    rw [if_neg (nI_ge hi (by omega)), pz_rd (by omega) (by omega), pz_wr (by omega) (by omega), fa_fill_succ]
  · show bX8_passes_2 x (nI n) rm en gone te ev (fX8_passes_2 x (nI n) rm en gone te ev F) _ _ = _
    unfold bX8_passes_2
    rw [if_pos (nI_le (Nat.le_refl _) (by omega))]
theorem mm_pass2 {I : sI} {m : Nat} {tn rm en gone au : Int32} {te ev fl be lf st fe pa hi mn fb lb ee : Nat → Int32} (hT : MT I.1 tn te) : fX8_passes_35 (nI m) tn rm en gone te ev jF (au, fl, be, lf, st, fe, pa, hi, mn, fb, lb, ee) 0 = bd2 (fX8_gets tn rm au (cf_a (mp_a st) lf (mp_v I be lf) I.1.1) (cf_a (mp_o I be lf st) st (fun _ => nI m) I.1.1) (cf_a (mp_o I be lf st) fl (fun _ => -1) I.1.1) mn) (fun fl' mn' => fX8_passes_71 (nI m) tn rm en gone te ev jF (au, fl', be, cf_a (mp_a st) lf (mp_v I be lf) I.1.1, cf_a (mp_o I be lf st) st (fun _ => nI m) I.1.1, fe, pa, hi, mn', fb, lb, ee) 0) := by
  obtain ⟨hn, rfl, hT3⟩ := hT
  have s0 : fX8_passes_35 (nI m) (nI I.1.1) rm en gone te ev jF (au, fl, be, lf, st, fe, pa, hi, mn, fb, lb, ee) 0 = fX8_passes_35 (nI m) (nI I.1.1) rm en gone te ev jF (au, cf_a (mp_o I be lf st) fl (fun _ => -1) 0, be, cf_a (mp_a st) lf (mp_v I be lf) 0, cf_a (mp_o I be lf st) st (fun _ => nI m) 0, fe, pa, hi, mn, fb, lb, ee) (nI 0) := by rw [cf_a_0, cf_a_0, cf_a_0]; rfl
  rw [s0]
  refine pz_up (fun F i => fX8_passes_35 (nI m) (nI I.1.1) rm en gone te ev F (au, cf_a (mp_o I be lf st) fl (fun _ => -1) i, be, cf_a (mp_a st) lf (mp_v I be lf) i, cf_a (mp_o I be lf st) st (fun _ => nI m) i, fe, pa, hi, mn, fb, lb, ee) (nI i)) I.1.1 _ (fun F i hi => ?_) (fun F => ?_) I.1.1 0 jF (by omega) (pz_jF (by omega))
  · show bX8_passes_35 (nI m) (nI I.1.1) rm en gone te ev (fX8_passes_35 (nI m) (nI I.1.1) rm en gone te ev F) _ _ = _
    obtain ⟨h1, h2, h3, h4, h5, h6⟩ := hT3 i hi
    unfold bX8_passes_35
    simp only [fX8_passes_59, pz_nm, pz_1]
    rw [if_neg (nI_ge hi (by omega)), pz_rd (by omega) (by omega), cf_a_i]
    by_cases c1 : st i = -1
    · have ha : mp_a st i = true := by unfold mp_a; simp [c1]
      rw [if_pos c1, mm_pays (so := I.1.2.1 i) (wg := I.1.2.2.2 i) (by omega) (by omega) h1 h3, cf_a_i, show sp_pay (I.1.2.1 i) (I.1.2.2.2 i) (be i) (lf i) = mp_v I be lf i from rfl, cf_a_s (mp_a st) lf (mp_v I be lf) i ha]
      by_cases c2 : sp_lo (I.1.2.1 i) (mp_v I be lf i) = true
      · have ho : mp_o I be lf st i = true := by unfold mp_o; simp [c1, c2]
        rw [if_pos c2, bd3_eq, show upd (cf_a (mp_o I be lf st) fl (fun _ => -1) i) i (-1) = cf_a (mp_o I be lf st) fl (fun _ => -1) (i + 1) from cf_a_s (mp_o I be lf st) fl (fun _ => -1) i ho, show upd (cf_a (mp_o I be lf st) st (fun _ => nI m) i) i (nI m) = cf_a (mp_o I be lf st) st (fun _ => nI m) (i + 1) from cf_a_s (mp_o I be lf st) st (fun _ => nI m) i ho]
      · have ho : ¬ mp_o I be lf st i = true := by unfold mp_o; simp [c2]
        rw [if_neg c2, bd3_eq, cf_a_n (mp_o I be lf st) fl (fun _ => -1) i ho, cf_a_n (mp_o I be lf st) st (fun _ => nI m) i ho]
    · have ha : ¬ mp_a st i = true := by unfold mp_a; simp [c1]
      have ho : ¬ mp_o I be lf st i = true := by unfold mp_o; simp [c1]
      rw [if_neg c1, cf_a_n (mp_o I be lf st) fl (fun _ => -1) i ho, cf_a_n (mp_o I be lf st) st (fun _ => nI m) i ho, cf_a_n (mp_a st) lf (mp_v I be lf) i ha]
  · show bX8_passes_35 (nI m) (nI I.1.1) rm en gone te ev (fX8_passes_35 (nI m) (nI I.1.1) rm en gone te ev F) _ _ = _
    unfold bX8_passes_35
    rw [if_pos (nI_le (Nat.le_refl _) (by omega))]
def mp_gf (P : Nat → Bool) (fe : Nat → Int32) (t : Nat) : Int32 := fe t + (if P t = true then 1 else 0)
def mp_gp (P : Nat → Bool) (n : Nat) (fl be pa : Nat → Int32) (t : Nat) : Int32 := pa t + (if P t = true then nI (sp_bt n fl (fl t) (be t)) else 0)
def mp_gh (fl hi : Nat → Int32) (t : Nat) : Int32 := if fl t ≤ hi t then hi t else fl t
def mp_ge (P : Nat → Bool) (t : Nat) : Int32 := if P t = true then 1 else 0
theorem mm_p101 {P : Nat → Bool} {n m i : Nat} {rm en gone au z0 : Int32} {te ev fl be lf st fe pa hi mn fb lb ee fe0 pa0 hi0 : Nat → Int32} {q : jT11 → Int32 → Option jT11} (hn : n ≤ 8) (hi8 : i < n) (hm : m < 24) (hz : z0 = if P i = true then 1 else 0) (h1 : fe i = fe0 i) (h2 : pa i = pa0 i) (h3 : hi i = hi0 i) : fX8_passes_101 (nI m) (nI n) rm en gone te ev q (au, fl, be, lf, st, fe, pa, hi, mn, fb, lb, ee) (nI i) z0 = q (au, fl, be, lf, st, upd fe i (mp_gf P fe0 i), upd pa i (mp_gp P n fl be pa0 i), upd hi i (mp_gh fl hi0 i), mn, upd fb (8 * m + i) (fl i), upd lb (8 * m + i) (lf i), upd ee (8 * m + i) (mp_ge P i)) (nI (i + 1)) := by
  have i8 : i < 8 := by omega
  have ix : (8 : Int32) * nI m + nI i = nI (8 * m + i) := by rw [show (8 : Int32) * nI m = nI (8 * m) from pk_mul 8 m, nI_add]
  have ixl : 8 * m + i < 192 := by omega
  unfold mp_gf mp_gp mp_gh mp_ge
  unfold fX8_passes_101
  rw [pz_rd i8 (by omega)]
  cases hP : P i with
  | false =>
    rw [hP, if_neg (by decide)] at hz
    subst hz
    rw [if_pos rfl, if_neg (by decide), if_neg (by decide)]
    unfold fX8_passes_118
    dsimp only
    rw [pz_wr i8 (by omega), pz_rd i8 (by omega), if_pos rfl]
    unfold fX8_passes_151
    dsimp only
    rw [pz_wr i8 (by omega), pz_rd i8 (by omega), pz_rd i8 (by omega), mm_greater, bd1_eq, pz_wr i8 (by omega), pz_rd i8 (by omega), ix, pz_wr ixl (by omega), pz_rd i8 (by omega), pz_wr ixl (by omega), if_pos rfl]
    unfold fX8_passes_227
    dsimp only
    rw [pz_wr ixl (by omega), pz_nm, pz_1, h1, h2, h3]
  | true =>
    rw [hP, if_pos rfl] at hz
    subst hz
    rw [if_neg (by decide), if_pos rfl, if_pos rfl]
    unfold fX8_passes_118
    dsimp only
    rw [pz_wr i8 (by omega), pz_rd i8 (by omega), if_neg (by decide), pz_rd i8 (by omega), pz_rd i8 (by omega), mm_between hn, bd1_eq]
    unfold fX8_passes_151
    dsimp only
    rw [pz_wr i8 (by omega), pz_rd i8 (by omega), pz_rd i8 (by omega), mm_greater, bd1_eq, pz_wr i8 (by omega), pz_rd i8 (by omega), ix, pz_wr ixl (by omega), pz_rd i8 (by omega), pz_wr ixl (by omega), if_neg (by decide)]
    unfold fX8_passes_227
    dsimp only
    rw [pz_wr ixl (by omega), pz_nm, pz_1, h1, h2, h3]
theorem mm_pass3 {n m : Nat} {rm en gone au : Int32} {te ev fl be lf st fe pa hi mn fb lb ee : Nat → Int32} (hn : n ≤ 8) (hm : m < 24) : fX8_passes_71 (nI m) (nI n) rm en gone te ev jF (au, fl, be, lf, st, fe, pa, hi, mn, fb, lb, ee) 0 = some (au, fl, be, lf, st, fa_fill (mp_gf (cf_e fl be) fe) fe n, fa_fill (mp_gp (cf_e fl be) n fl be pa) pa n, fa_fill (mp_gh fl hi) hi n, mn, fb_put fb fl (8 * m) n, fb_put lb lf (8 * m) n, fb_put ee (mp_ge (cf_e fl be)) (8 * m) n) := by
  have s0 : fX8_passes_71 (nI m) (nI n) rm en gone te ev jF (au, fl, be, lf, st, fe, pa, hi, mn, fb, lb, ee) 0 = fX8_passes_71 (nI m) (nI n) rm en gone te ev jF (au, fl, be, lf, st, fa_fill (mp_gf (cf_e fl be) fe) fe 0, fa_fill (mp_gp (cf_e fl be) n fl be pa) pa 0, fa_fill (mp_gh fl hi) hi 0, mn, fb_put fb fl (8 * m) 0, fb_put lb lf (8 * m) 0, fb_put ee (mp_ge (cf_e fl be)) (8 * m) 0) (nI 0) := by rw [fa_fill_0, fa_fill_0, fa_fill_0, fb_put_0, fb_put_0, fb_put_0]; rfl
  rw [s0]
  refine pz_up (fun F i => fX8_passes_71 (nI m) (nI n) rm en gone te ev F (au, fl, be, lf, st, fa_fill (mp_gf (cf_e fl be) fe) fe i, fa_fill (mp_gp (cf_e fl be) n fl be pa) pa i, fa_fill (mp_gh fl hi) hi i, mn, fb_put fb fl (8 * m) i, fb_put lb lf (8 * m) i, fb_put ee (mp_ge (cf_e fl be)) (8 * m) i) (nI i)) n _ (fun F i hi => ?_) (fun F => ?_) n 0 jF (by omega) (pz_jF (by omega))
  · show bX8_passes_71 (nI m) (nI n) rm en gone te ev (fX8_passes_71 (nI m) (nI n) rm en gone te ev F) _ _ = _
    unfold bX8_passes_71
    dsimp only
    rw [if_neg (nI_ge hi (by omega)), pz_rd (by omega) (by omega), pz_rd (by omega) (by omega)]
    have ho : ∀ (f g : Nat → Int32), fa_fill f g i i = g i := fun f g => fa_fill_out (Nat.le_refl i)
    by_cases c : be i - 2 < fl i
    · rw [if_pos c, mm_p101 (P := cf_e fl be) hn hi hm (by rw [if_neg]; unfold cf_e; simp [c]) (ho _ _) (ho _ _) (ho _ _), fa_fill_succ, fa_fill_succ, fa_fill_succ, fb_put_succ, fb_put_succ, fb_put_succ]
    · rw [if_neg c, mm_p101 (P := cf_e fl be) hn hi hm (by rw [if_pos]; unfold cf_e; simp [c]) (ho _ _) (ho _ _) (ho _ _), fa_fill_succ, fa_fill_succ, fa_fill_succ, fb_put_succ, fb_put_succ, fb_put_succ]
  · show bX8_passes_71 (nI m) (nI n) rm en gone te ev (fX8_passes_71 (nI m) (nI n) rm en gone te ev F) _ _ = _
    unfold bX8_passes_71
    rw [if_pos (nI_le (Nat.le_refl _) (by omega))]
def sp_hi (I : sI) : Nat → Nat → Int32
  | 0, _ => -1
  | m + 1, t => if sp_hi I m t < (sp_r I (m + 1)).1 t then (sp_r I (m + 1)).1 t else sp_hi I m t
def mI (I : sI) (m : Nat) (S : jT11) : Prop :=
  eqN I.1.1 S.2.1 (sp_r I m).1 ∧ eqN I.1.1 S.2.2.2.1 (sp_r I m).2.1 ∧ eqN I.1.1 S.2.2.2.2.1 (sp_r I m).2.2.1 ∧ eqN I.1.1 S.2.2.2.2.2.1 (sp_r I m).2.2.2.1 ∧ eqN I.1.1 S.2.2.2.2.2.2.1 (sp_r I m).2.2.2.2 ∧ eqN I.1.1 S.2.2.2.2.2.2.2.1 (sp_hi I m) ∧
  ∀ k t, k < m → t < I.1.1 → S.2.2.2.2.2.2.2.2.2.1 (8 * k + t) = (sp_r I (k + 1)).1 t ∧ S.2.2.2.2.2.2.2.2.2.2.1 (8 * k + t) = (sp_r I (k + 1)).2.1 t ∧ S.2.2.2.2.2.2.2.2.2.2.2 (8 * k + t) = mp_ge (sp_fe I k (sp_r I k)) t
theorem mp_eq {I : sI} {m : Nat} {s : sS} {fl be lf st : Nat → Int32} (h0 : eqN I.1.1 be s.1) (h1 : eqN I.1.1 fl s.1) (h2 : eqN I.1.1 lf (sp_e I m s).1) (h3 : eqN I.1.1 st s.2.2.1) : eqN I.1.1 (cf_a (mp_a st) lf (mp_v I be lf) I.1.1) (sp_l I m s) ∧ eqN I.1.1 (cf_a (mp_o I be lf st) st (fun _ => nI m) I.1.1) (sp_st I m s) ∧ eqN I.1.1 (cf_a (mp_o I be lf st) fl (fun _ => -1) I.1.1) (sp_f I m s) := by
  have hv : ∀ t, t < I.1.1 → mp_v I be lf t = sp_pay (I.1.2.1 t) (I.1.2.2.2 t) (s.1 t) ((sp_e I m s).1 t) := fun t ht => by unfold mp_v; rw [h0 t ht, h2 t ht]
  have ho : ∀ t, t < I.1.1 → mp_o I be lf st t = sp_out I m s t := fun t ht => by
    unfold mp_o sp_out sp_l
    rw [hv t ht, h3 t ht]
    by_cases c : s.2.2.1 t = -1
    · rw [if_pos c]
    · simp [c]
  refine ⟨fun t ht => ?_, fun t ht => ?_, fun t ht => ?_⟩
  · unfold cf_a mp_a sp_l
    rw [h3 t ht]
    by_cases c : s.2.2.1 t = -1
    · rw [if_pos ⟨ht, by simp [c]⟩, if_pos c, hv t ht]
    · rw [if_neg (fun q => by simp [c] at q), if_neg c, h2 t ht]
  · unfold cf_a sp_st
    rw [ho t ht]
    by_cases c : sp_out I m s t = true
    · rw [if_pos ⟨ht, c⟩, if_pos c]
    · rw [if_neg (fun q => c q.2), if_neg c, h3 t ht]
  · unfold cf_a sp_f
    rw [ho t ht]
    by_cases c : sp_out I m s t = true
    · rw [if_pos ⟨ht, c⟩, if_pos c]
    · rw [if_neg (fun q => c q.2), if_neg c, h1 t ht]
set_option maxHeartbeats 1000000 in
theorem mm_passes {I : sI} {m : Nat} {tn rm en gone : Int32} {te ev : Nat → Int32} {S : jT11} (hT : MT I.1 tn te) (hE : ME I.2.1 en ev) (hw : ∀ e, e < I.2.1.1 → (I.2.2.1 e = true ↔ ¬ bt gone e = true)) (hrm : rm = nI I.2.2.2) (hr : I.2.2.2 ≤ 8) (hm : m < 24) (hS : mI I m S) : ∃ S', fX8_passes (nI m) tn rm en gone te ev S = some S' ∧ mI I (m + 1) S' := by
  obtain ⟨au, fl, be, lf, st, fe, pa, hi, mn, fb, lb, ee⟩ := S
  obtain ⟨k1, k2, k3, k4, k5, k6, k7⟩ := hS
  dsimp only at k1 k2 k3 k4 k5 k6 k7
  have hn := hT.1
  have htn := hT.2.1
  subst htn
  subst hrm
  have hg := sp_r_good (I := I) hn m (by omega)
  have h0 : ∀ t, t < I.1.1 → (fl t = -1 ↔ ¬ st t = -1) := fun t ht => by rw [k1 t ht, k3 t ht]; exact (hg t ht).1
  rw [mm_pass1 hn, mm_happens (I := I) (fl := fl) (by omega) hn rfl hE hw h0, bd2_eq]
  obtain ⟨ev1, ev2⟩ := sp_ev_cong (I := I) (m := m) k1 k2 I.2.1.1
  generalize itN (sp_ev I m fl) (lf, 0) I.2.1.1 = Z at ev1 ev2 ⊢
  have ev1' : eqN I.1.1 Z.1 (sp_e I m (sp_r I m)).1 := ev1
  have ev2' : Z.2 = (sp_e I m (sp_r I m)).2 := ev2
  have hbe : eqN I.1.1 (fa_fill fl be I.1.1) (sp_r I m).1 := fun t ht => by rw [fa_fill_in ht]; exact k1 t ht
  obtain ⟨q1, q2, q3⟩ := mp_eq (m := m) hbe k1 ev1' k3
  rw [mm_pass2 (I := I) hT]
  obtain ⟨mn', hg2⟩ := mm_gets (I := I) (au := Z.2) (lf := cf_a (mp_a st) Z.1 (mp_v I (fa_fill fl be I.1.1) Z.1) I.1.1) (st := cf_a (mp_o I (fa_fill fl be I.1.1) Z.1 st) st (fun _ => nI m) I.1.1) (fl := cf_a (mp_o I (fa_fill fl be I.1.1) Z.1 st) fl (fun _ => -1) I.1.1) (mn := mn) hn hr
  rw [hg2, bd2_eq]
  have hfl0 := (sp_g_cong (au := Z.2) q1 q2 q3 I.1.1).2.1
  generalize (sp_g I (cf_a (mp_a st) Z.1 (mp_v I (fa_fill fl be I.1.1) Z.1) I.1.1) (cf_a (mp_o I (fa_fill fl be I.1.1) Z.1 st) st (fun _ => nI m) I.1.1) Z.2 (cf_a (mp_o I (fa_fill fl be I.1.1) Z.1 st) fl (fun _ => -1) I.1.1) I.1.1).2.1 = fl' at hfl0 ⊢
  have hfl : eqN I.1.1 fl' (sp_fl I m (sp_r I m)) := fun t ht => by
    rw [hfl0 t ht, ev2']; rfl
  have hfe : ∀ t, t < I.1.1 → cf_e fl' (fa_fill fl be I.1.1) t = sp_fe I m (sp_r I m) t := fun t ht => by unfold cf_e sp_fe; rw [hfl t ht, hbe t ht]
  rw [mm_pass3 hn hm]
  refine ⟨_, rfl, hfl, q1, q2, fun t ht => ?_, fun t ht => ?_, fun t ht => ?_, fun k t hk ht => ?_⟩
  · show fa_fill (mp_gf (cf_e fl' (fa_fill fl be I.1.1)) fe) fe I.1.1 t = if sp_fe I m (sp_r I m) t = true then (sp_r I m).2.2.2.1 t + 1 else (sp_r I m).2.2.2.1 t
    rw [fa_fill_in ht]
    unfold mp_gf
    rw [hfe t ht, k4 t ht]
    by_cases c : sp_fe I m (sp_r I m) t = true
    · rw [if_pos c, if_pos c]
    · rw [if_neg c, if_neg c, Int32.add_zero]
  · show fa_fill (mp_gp (cf_e fl' (fa_fill fl be I.1.1)) I.1.1 fl' (fa_fill fl be I.1.1) pa) pa I.1.1 t = if sp_fe I m (sp_r I m) t = true then (sp_r I m).2.2.2.2 t + nI (sp_bt I.1.1 (sp_fl I m (sp_r I m)) (sp_fl I m (sp_r I m) t) ((sp_r I m).1 t)) else (sp_r I m).2.2.2.2 t
    rw [fa_fill_in ht]
    unfold mp_gp
    rw [hfe t ht, k5 t ht, hfl t ht, hbe t ht, sp_bt_cong hfl]
    by_cases c : sp_fe I m (sp_r I m) t = true
    · rw [if_pos c, if_pos c]
    · rw [if_neg c, if_neg c, Int32.add_zero]
  · show fa_fill (mp_gh fl' hi) hi I.1.1 t = if sp_hi I m t < sp_fl I m (sp_r I m) t then sp_fl I m (sp_r I m) t else sp_hi I m t
    rw [fa_fill_in ht]
    unfold mp_gh
    rw [hfl t ht, k6 t ht]
    by_cases c : sp_hi I m t < sp_fl I m (sp_r I m) t
    · rw [if_pos c, if_neg (fa_of_lt c).2.1]
    · rw [if_neg c, if_pos (fa_of_nlt c)]
  · dsimp only
    by_cases e : k = m
    · subst e
      rw [fb_put_in (by omega) (by omega), fb_put_in (by omega) (by omega), fb_put_in (by omega) (by omega), show 8 * k + t - 8 * k = t by omega]
      refine ⟨hfl t ht, q1 t ht, ?_⟩
      unfold mp_ge
      rw [hfe t ht]
    · rw [fb_put_out (by omega), fb_put_out (by omega), fb_put_out (by omega)]
      exact k7 k t (by omega) ht
def mOk (I : sI) (S : jT11) : Prop := mI I 24 S
theorem mm_lives71 {I : sI} {tn rm en gone : Int32} {te ev : Nat → Int32} (hT : MT I.1 tn te) (hE : ME I.2.1 en ev) (hw : ∀ e, e < I.2.1.1 → (I.2.2.1 e = true ↔ ¬ bt gone e = true)) (hrm : rm = nI I.2.2.2) (hr : I.2.2.2 ≤ 8) : ∀ (j m F : Nat) (S : jT11), m + j = 24 → j < F → mI I m S → ∃ S', fX8_lives_71 tn rm en gone te ev F S (nI m) = some S' ∧ mOk I S' := by
  intro j
  induction j with
  | zero =>
    intro m F S h1 h2 hS
    obtain ⟨F', rfl⟩ : ∃ z, F = z + 1 := ⟨F - 1, by omega⟩
    have hm : m = 24 := by omega
    subst hm
    refine ⟨S, ?_, hS⟩
    have e0 : fX8_lives_71 tn rm en gone te ev (F' + 1) S (nI 24) = bX8_lives_71 tn rm en gone te ev (fX8_lives_71 tn rm en gone te ev F') S (nI 24) := rfl
    rw [e0]
    unfold bX8_lives_71
    rw [if_pos (show (24 : Int32) ≤ nI 24 by decide)]
  | succ j ih =>
    intro m F S h1 h2 hS
    obtain ⟨F', rfl⟩ : ∃ z, F = z + 1 := ⟨F - 1, by omega⟩
    have hm : m < 24 := by omega
    obtain ⟨S', e1, hS'⟩ := mm_passes hT hE hw hrm hr hm hS
    have e0 : fX8_lives_71 tn rm en gone te ev (F' + 1) S (nI m) = bX8_lives_71 tn rm en gone te ev (fX8_lives_71 tn rm en gone te ev F') S (nI m) := rfl
    rw [e0]
    unfold bX8_lives_71
    rw [if_neg (show ¬ (24 : Int32) ≤ nI m from nI_ge (b := 24) hm (by omega)), e1, bd1_eq, pz_nm, pz_1]
    exact ih (m + 1) F' S' (by omega) (by omega) hS'
theorem mm_lives {I : sI} {tn rm en gone : Int32} {te ev : Nat → Int32} {S : jT11} (hT : MT I.1 tn te) (hE : ME I.2.1 en ev) (hw : ∀ e, e < I.2.1.1 → (I.2.2.1 e = true ↔ ¬ bt gone e = true)) (hrm : rm = nI I.2.2.2) (hr : I.2.2.2 ≤ 8) : ∃ S', fX8_lives tn rm en gone te ev S = some S' ∧ mOk I S' := by
  obtain ⟨au, fl, be, lf, st, fe, pa, hi, mn, fb, lb, ee⟩ := S
  have hn := hT.1
  have htn := hT.2.1
  subst htn
  have hS0 : mI I 0 (au, fa_fill (fun _ => 0) fl I.1.1, be, fa_fill (fun t => 3 * te (3 * t + 1)) lf I.1.1, fa_fill (fun _ => -1) st I.1.1, fa_fill (fun _ => 0) fe I.1.1, fa_fill (fun _ => 0) pa I.1.1, fa_fill (fun _ => -1) hi I.1.1, mn, fb, lb, ee) := by
    refine ⟨fun t ht => ?_, fun t ht => ?_, fun t ht => ?_, fun t ht => ?_, fun t ht => ?_, fun t ht => ?_, fun k t hk => absurd hk (Nat.not_lt_zero k)⟩
    · dsimp only; rw [fa_fill_in ht]; rfl
    · dsimp only; rw [fa_fill_in ht, (hT.2.2 t ht).2.1]; rfl
    · dsimp only; rw [fa_fill_in ht]; rfl
    · dsimp only; rw [fa_fill_in ht]; rfl
    · dsimp only; rw [fa_fill_in ht]; rfl
    · dsimp only; rw [fa_fill_in ht]; rfl
  obtain ⟨S', e1, h1⟩ := mm_lives71 hT hE hw hrm hr 24 0 jF _ (by omega) (pz_jF (by omega)) hS0
  refine ⟨S', ?_, h1⟩
  rw [← e1]
  unfold fX8_lives
  have s0 : fX8_lives_2 (nI I.1.1) rm en gone te ev jF (au, fl, be, lf, st, fe, pa, hi, mn, fb, lb, ee) 0 = fX8_lives_2 (nI I.1.1) rm en gone te ev jF (au, fa_fill (fun _ => 0) fl 0, be, fa_fill (fun t => 3 * te (3 * t + 1)) lf 0, fa_fill (fun _ => -1) st 0, fa_fill (fun _ => 0) fe 0, fa_fill (fun _ => 0) pa 0, fa_fill (fun _ => -1) hi 0, mn, fb, lb, ee) (nI 0) := by
    rw [fa_fill_0, fa_fill_0, fa_fill_0, fa_fill_0, fa_fill_0, fa_fill_0]; rfl
  rw [s0]
  refine pz_up (fun F i => fX8_lives_2 (nI I.1.1) rm en gone te ev F (au, fa_fill (fun _ => 0) fl i, be, fa_fill (fun t => 3 * te (3 * t + 1)) lf i, fa_fill (fun _ => -1) st i, fa_fill (fun _ => 0) fe i, fa_fill (fun _ => 0) pa i, fa_fill (fun _ => -1) hi i, mn, fb, lb, ee) (nI i)) I.1.1 _ (fun F i hi8 => ?_) (fun F => ?_) I.1.1 0 jF (by omega) (pz_jF (by omega))
  · show bX8_lives_2 (nI I.1.1) rm en gone te ev (fX8_lives_2 (nI I.1.1) rm en gone te ev F) _ _ = _
    have i8 : i < 8 := by omega
    unfold bX8_lives_2
    simp only [pz_nm, pz_1]
    rw [if_neg (nI_ge hi8 (by omega)), pz_wr i8 (by omega), mm_31, pz_rd (by omega) (by omega), pz_wr i8 (by omega), pz_wr i8 (by omega), pz_wr i8 (by omega), pz_wr i8 (by omega), pz_wr i8 (by omega)]
    rw [show upd (fa_fill (fun _ => 0) fl i) i 0 = fa_fill (fun _ => 0) fl (i + 1) from fa_fill_succ (fun _ => 0) fl i, show upd (fa_fill (fun t => 3 * te (3 * t + 1)) lf i) i (3 * te (3 * i + 1)) = fa_fill (fun t => 3 * te (3 * t + 1)) lf (i + 1) from fa_fill_succ (fun t => 3 * te (3 * t + 1)) lf i, show upd (fa_fill (fun _ => -1) st i) i (-1) = fa_fill (fun _ => -1) st (i + 1) from fa_fill_succ (fun _ => -1) st i, show upd (fa_fill (fun _ => 0) fe i) i 0 = fa_fill (fun _ => 0) fe (i + 1) from fa_fill_succ (fun _ => 0) fe i, show upd (fa_fill (fun _ => 0) pa i) i 0 = fa_fill (fun _ => 0) pa (i + 1) from fa_fill_succ (fun _ => 0) pa i, show upd (fa_fill (fun _ => -1) hi i) i (-1) = fa_fill (fun _ => -1) hi (i + 1) from fa_fill_succ (fun _ => -1) hi i]
  · show bX8_lives_2 (nI I.1.1) rm en gone te ev (fX8_lives_2 (nI I.1.1) rm en gone te ev F) _ _ = _
    unfold bX8_lives_2
    rw [if_pos (nI_le (Nat.le_refl _) (by omega))]
    rfl
