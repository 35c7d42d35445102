theorem mm_lesser (a b : Int32) : fX8_lesser a b = some (if a < b then a else b) := by
  unfold fX8_lesser
  by_cases c : a < b
  · rw [if_neg (fa_of_lt c).2.1, if_pos c]
  · rw [if_pos (fa_of_nlt c), if_neg c]
theorem mm_greater (a b : Int32) : fX8_greater a b = some (if a ≤ b then b else a) := by
  unfold fX8_greater
  by_cases c : a ≤ b
  · rw [if_pos c, if_pos c]
  · rw [if_neg c, if_neg c]
theorem mm_pays72 {so wg t : Nat} {te be fl lf st : Nat → Int32} {x t0 : Int32} (ht : t < 8) (hso : so ≤ 3) (hr : lf t + t0 = sp_raw so wg (be t) (lf t)) : fX8_pays_72 x (nI t) te be fl lf st (nI so) t0 (lf t) (nI t) = some (if sp_lo so (sp_pay so wg (be t) (lf t)) = true then (upd fl t (-1), upd lf t (sp_pay so wg (be t) (lf t)), upd st t x) else (fl, upd lf t (sp_pay so wg (be t) (lf t)), st)) := by
  unfold fX8_pays_72 fX8_pays_108 sp_lo
  rw [pz_wr ht (by omega), pz_rd ht (by omega), pk_us, mm_lesser, bd1_eq, pz_wr ht (by omega), fa_upd_twice, pz_rd ht (by omega), pk_us, hr, show (if sp_raw so wg (be t) (lf t) < 60 then sp_raw so wg (be t) (lf t) else 60) = sp_pay so wg (be t) (lf t) from rfl, pz_wr ht (by omega), pz_wr ht (by omega)]
  generalize sp_pay so wg (be t) (lf t) = v
  by_cases c1 : so = 3
  · subst c1
    rw [if_pos (show nI 3 = (3 : Int32) from rfl), if_pos (show (3 : Nat) = 3 from rfl)]
    by_cases c2 : v < -6
    · rw [if_neg (fa_of_lt c2).2.1, if_pos (by simpa using c2)]
    · rw [if_pos (fa_of_nlt c2), if_neg (by simpa using c2)]
  · rw [if_neg (show ¬ nI so = (3 : Int32) from fun q => c1 ((nI_eq (b := 3) (by omega) (by omega)).mp q)), if_neg c1]
    by_cases c2 : v < 0
    · rw [if_neg (fa_of_lt c2).2.1, if_pos (by simpa using c2)]
    · rw [if_pos (fa_of_nlt c2), if_neg (by simpa using c2)]
theorem i32_a (a b d : Int32) : a + (b - d) = a + b - d := by
  rw [Int32.sub_eq_add_neg, Int32.sub_eq_add_neg, Int32.add_assoc]
theorem i32_b (a b d : Int32) : a + ((b - d) + 1) = a + b - (d + -1) := by
  apply Int32.toBitVec_inj.mp
  simp only [Int32.toBitVec_add, Int32.toBitVec_sub, Int32.toBitVec_neg]
  have e : (1 : Int32).toBitVec = 1#32 := rfl
  rw [e]
  bv_omega
theorem mm_pays {so wg t : Nat} {te be fl lf st : Nat → Int32} {x : Int32} (ht : t < 8) (hso : so ≤ 3) (h1 : te (3 * t) = nI so) (h3 : te (3 * t + 2) = nI wg) : fX8_pays x (nI t) te be fl lf st = some (if sp_lo so (sp_pay so wg (be t) (lf t)) = true then (upd fl t (-1), upd lf t (sp_pay so wg (be t) (lf t)), upd st t x) else (fl, upd lf t (sp_pay so wg (be t) (lf t)), st)) := by
  unfold fX8_pays
  rw [mm_3, pz_rd (by omega) (by omega), h1, show nI (3 * t) + (2 : Int32) = nI (3 * t + 2) from nI_add _ 2, pz_rd (by omega) (by omega), h3, pz_rd ht (by omega)]
  simp only [pz_nm]
  rw [pz_rd ht (by omega)]
  by_cases c2 : so = 2
  · subst c2
    rw [if_pos (show nI 2 = (2 : Int32) from rfl)]
    refine mm_pays72 ht hso ?_
    unfold sp_raw sp_rent
    rw [if_pos (show (2 : Nat) = 2 from rfl), if_neg (show ¬ (2 : Nat) = 1 by decide), if_pos (show (2 : Nat) = 2 from rfl), Int32.sub_zero]
  · rw [if_neg (show ¬ nI so = (2 : Int32) from fun q => c2 ((nI_eq (b := 2) (by omega) (by omega)).mp q))]
    by_cases c1 : so = 1
    · subst c1
      rw [if_pos (show nI 1 = (1 : Int32) from rfl)]
      refine mm_pays72 ht hso ?_
      unfold sp_raw sp_rent
      rw [if_neg (show ¬ (1 : Nat) = 2 by decide), if_pos (show (1 : Nat) = 1 from rfl)]
      exact i32_b _ _ _
    · rw [if_neg (show ¬ nI so = (1 : Int32) from fun q => c1 ((nI_eq (b := 1) (by omega) (by omega)).mp q))]
      refine mm_pays72 ht hso ?_
      unfold sp_raw sp_rent
      rw [if_neg c2, if_neg c1, if_neg c2]
      exact i32_a _ _ _
theorem mm_wanted {t : Nat} {au : Int32} {lf : Nat → Int32} (ht : t < 8) : fX8_wanted (nI t) au lf = some (sp_w (lf t) au) := by
  unfold fX8_wanted fX8_wanted_33 sp_w
  rw [pz_rd ht (by omega), pz_rd ht (by omega)]
  by_cases h : 0 ≤ lf t
  · rw [if_pos h, if_pos h]
    by_cases ha : au = 0
    · rw [if_pos ha, if_pos ha, mm_lesser, bd1_eq]
    · rw [if_neg ha, if_neg ha, mm_lesser, bd1_eq]
  · rw [if_neg h, if_neg h]
def mg_b (o : Option Nat) : Int32 := match o with
  | none => -1
  | some b => nI b
theorem mg_n : mg_b none = -1 := rfl
theorem mg_s (b : Nat) : mg_b (some b) = nI b := rfl
theorem mm_scan {I : sI} {rm au i1 i2 : Int32} {lf st fl mn : Nat → Int32} {dn : Nat → Bool} {q : (Nat → Int32) → (Nat → Int32) → Int32 → Int32 → Option ((Nat → Int32) × (Nat → Int32))} (hn : I.1.1 ≤ 8) (hd : ∀ t, t < I.1.1 → bt i1 t = dn t) : fX8_gets_38 (nI I.1.1) rm au lf st q jF fl mn i1 i2 (-1) 0 = (match sp_b lf (sp_ok st dn) I.1.1 with
    | none => q fl mn i1 (i2 + 1)
    | some b => bd1 (fX8_wanted (nI b) au lf) (fun r => fX8_gets_131 (nI I.1.1) rm au lf st q jF fl mn (i1 ||| ((1 : Int32) <<< (nI b &&& 31))) i2 (nI b) r)) := by
  refine pz_up (fun F i => fX8_gets_38 (nI I.1.1) rm au lf st q F fl mn i1 i2 (mg_b (sp_b lf (sp_ok st dn) i)) (nI i)) I.1.1 _ (fun F i hi => ?_) (fun F => ?_) I.1.1 0 jF (by omega) (pz_jF (by omega))
  · show bX8_gets_38 (nI I.1.1) rm au lf st q (fX8_gets_38 (nI I.1.1) rm au lf st q F) _ _ _ _ _ _ = fX8_gets_38 (nI I.1.1) rm au lf st q F fl mn i1 i2 (mg_b (sp_b lf (sp_ok st dn) (i + 1))) (nI (i + 1))
    have hb := (sp_b_ok lf (sp_ok st dn) i).2
    unfold bX8_gets_38
    simp only [fX8_gets_72, fX8_gets_71, fX8_gets_105, fX8_gets_100, fX8_gets_106, pz_nm, pz_1]
    rw [if_neg (nI_ge hi (by omega)), pz_rd (by omega) (by omega), mm_isIn _ _ (by omega), bd1_eq, hd i hi]
    have hok : sp_ok st dn i = true ↔ st i = -1 ∧ ¬ dn i = true := by unfold sp_ok; simp
    have es : sp_b lf (sp_ok st dn) (i + 1) = (match sp_b lf (sp_ok st dn) i with
      | none => if sp_ok st dn i = true then some i else none
      | some b => if sp_ok st dn i = true ∧ lf b < lf i then some i else some b) := rfl
    rw [es]
    cases hs : sp_b lf (sp_ok st dn) i with
    | none =>
      dsimp only
      rw [mg_n]
      by_cases c1 : st i = -1
      · rw [if_pos c1]
        by_cases c2 : dn i = true
        · rw [if_pos c2, if_neg (show ¬ (1 : Int32) = 0 by decide), if_pos trivial, if_neg (fun z => (hok.mp z).2 c2), mg_n]
        · rw [if_neg c2, if_pos rfl, if_neg (show ¬ (1 : Int32) = 0 by decide), if_pos rfl, if_pos (hok.mpr ⟨c1, c2⟩), mg_s]
      · rw [if_neg c1, if_pos trivial, if_neg (fun z => c1 (hok.mp z).1), mg_n]
    | some b =>
      have hbi := (hb b hs).1
      dsimp only
      rw [mg_s, pz_rd (show i < 8 by omega) (by omega), pz_rd (show b < 8 by omega) (by omega)]
      by_cases c1 : st i = -1
      · rw [if_pos c1]
        by_cases c2 : dn i = true
        · rw [if_pos c2, if_neg (show ¬ (1 : Int32) = 0 by decide), if_pos trivial, if_neg (fun z => (hok.mp z.1).2 c2), mg_s]
        · rw [if_neg c2, if_pos rfl, if_neg (show ¬ (1 : Int32) = 0 by decide), if_neg (nI_m1 (by omega))]
          by_cases c3 : lf b < lf i
          · rw [if_neg (fa_of_lt c3).2.1, if_pos ⟨hok.mpr ⟨c1, c2⟩, c3⟩, mg_s]
          · rw [if_pos (fa_of_nlt c3), if_neg (fun z => c3 z.2), mg_s]
      · rw [if_neg c1, if_pos trivial, if_neg (fun z => c1 (hok.mp z.1).1), mg_s]
  · show bX8_gets_38 (nI I.1.1) rm au lf st q (fX8_gets_38 (nI I.1.1) rm au lf st q F) _ _ _ _ _ _ = _
    have hb := (sp_b_ok lf (sp_ok st dn) I.1.1).2
    unfold bX8_gets_38
    simp only [fX8_gets_175, pz_nm]
    rw [if_pos (nI_le (Nat.le_refl _) (by omega))]
    cases hs : sp_b lf (sp_ok st dn) I.1.1 with
    | none => rw [mg_n, if_pos rfl]
    | some b => rw [mg_s, if_neg (nI_m1 (by have := (hb b hs).1; omega))]
theorem mm_slot {I : sI} {au i1 i2 : Int32} {lf st fl mn tk : Nat → Int32} {b : Nat} {q : (Nat → Int32) → (Nat → Int32) → Int32 → Int32 → Option ((Nat → Int32) × (Nat → Int32))} (hb : b < 8) (hr : I.2.2.2 ≤ 8) (ht : ∀ f, 1 ≤ f → f ≤ 12 → mn f = tk f) (hle : ∀ f, 1 ≤ f → f ≤ 12 → tk f ≤ nI I.2.2.2) : ∀ (w F : Nat), w ≤ 12 → w < F → fX8_gets_131 (nI I.1.1) (nI I.2.2.2) au lf st q F fl mn i1 i2 (nI b) (nI w) = q (upd fl b (nI (sp_slot tk I.2.2.2 w))) (upd mn (sp_slot tk I.2.2.2 w) (mn (sp_slot tk I.2.2.2 w) + 1)) i1 (i2 + 1) := by
  intro w
  induction w with
  | zero =>
    intro F h1 h2
    obtain ⟨F', rfl⟩ : ∃ z, F = z + 1 := ⟨F - 1, by omega⟩
    have e0 : fX8_gets_131 (nI I.1.1) (nI I.2.2.2) au lf st q (F' + 1) fl mn i1 i2 (nI b) (nI 0) = bX8_gets_131 (nI I.1.1) (nI I.2.2.2) au lf st q (fX8_gets_131 (nI I.1.1) (nI I.2.2.2) au lf st q F') fl mn i1 i2 (nI b) (nI 0) := rfl
    rw [e0]
    unfold bX8_gets_131
    simp only [fX8_gets_156, fX8_gets_175, pz_nm]
    rw [if_pos (show nI 0 ≤ (0 : Int32) by decide), pz_rd (by omega) (by omega), pz_wr (by omega) (by omega), pz_wr hb (by omega)]
    rfl
  | succ w ih =>
    intro F h1 h2
    obtain ⟨F', rfl⟩ : ∃ z, F = z + 1 := ⟨F - 1, by omega⟩
    have e0 : fX8_gets_131 (nI I.1.1) (nI I.2.2.2) au lf st q (F' + 1) fl mn i1 i2 (nI b) (nI (w + 1)) = bX8_gets_131 (nI I.1.1) (nI I.2.2.2) au lf st q (fX8_gets_131 (nI I.1.1) (nI I.2.2.2) au lf st q F') fl mn i1 i2 (nI b) (nI (w + 1)) := rfl
    rw [e0]
    unfold bX8_gets_131 sp_slot
    simp only [fX8_gets_156, fX8_gets_175, pz_nm]
    rw [if_neg (nI_nle (by omega) (by omega)), pz_rd (by omega) (by omega), pz_rd (by omega) (by omega), pz_wr (by omega) (by omega), pz_wr hb (by omega), ht (w + 1) (by omega) h1]
    by_cases c : tk (w + 1) < nI I.2.2.2
    · rw [if_neg (fa_of_lt c).2.2.2.1, if_pos c, ht (w + 1) (by omega) h1]
    · have e : tk (w + 1) = nI I.2.2.2 := by
        have a1 := hle (w + 1) (by omega) h1
        have a2 := fa_of_nlt c
        rw [fa_le] at a1 a2
        rw [fa_eq]
        omega
      rw [if_pos e, if_neg c, show nI (w + 1) + (-1 : Int32) = nI w from pk_m1 w]
      exact ih F' (by omega) (by omega)
