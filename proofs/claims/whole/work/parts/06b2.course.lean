theorem cm_pay {t so wg : Nat} {fl lf : Nat → Int32} (ht : t < 8) (hso : so ≤ 3) : fX1_pay (nI t) (nI so) (nI wg) fl lf = some (upd lf t (sp_pay so wg (fl t) (lf t))) := by
  unfold fX1_pay fX1_pay_31 fX1_pay_56 sp_pay sp_raw sp_rent
  rw [pz_rd ht (by omega)]
  simp only [pz_nm]
  by_cases c1 : so = 1
  · subst c1
    rw [if_pos (show nI 1 = (1 : Int32) from rfl), pz_rd ht (by omega), if_neg (show ¬ nI 1 = (2 : Int32) by decide), pz_wr ht (by omega), if_neg (show ¬ (1 : Nat) = 2 by decide), if_pos (show (1 : Nat) = 1 from rfl)]
  · rw [if_neg (show ¬ nI so = (1 : Int32) from fun q => c1 ((nI_eq (b := 1) (by omega) (by omega)).mp q)), if_neg c1]
    by_cases c2 : so = 2
    · subst c2
      rw [if_pos (show nI 2 = (2 : Int32) from rfl), pz_rd ht (by omega), if_pos (show nI 2 = (2 : Int32) from rfl), pz_wr ht (by omega), if_pos (show (2 : Nat) = 2 from rfl), if_pos (show (2 : Nat) = 2 from rfl)]
    · rw [if_neg (show ¬ nI so = (2 : Int32) from fun q => c2 ((nI_eq (b := 2) (by omega) (by omega)).mp q)), pz_rd ht (by omega), if_neg (show ¬ nI so = (2 : Int32) from fun q => c2 ((nI_eq (b := 2) (by omega) (by omega)).mp q)), pz_wr ht (by omega), if_neg c2, if_neg c2]
theorem cm_settle {t so : Nat} {x : Int32} {lf st fl : Nat → Int32} (ht : t < 8) (hso : so ≤ 3) : fX1_settle (nI t) (nI so) x lf st fl = some (if sp_lo so (lf t) = true then (upd st t x, upd fl t (-1)) else (st, fl)) := by
  unfold fX1_settle fX1_settle_17 sp_lo
  rw [pz_rd ht (by omega)]
  by_cases c1 : so = 3
  · subst c1
    rw [if_pos (show nI 3 = (3 : Int32) from rfl), if_pos (show (3 : Nat) = 3 from rfl)]
    by_cases c2 : lf t < -6
    · rw [if_neg (fa_of_lt c2).2.1, pz_wr ht (by omega), pz_wr ht (by omega), if_pos (by simpa using c2)]
    · rw [if_pos (fa_of_nlt c2), if_neg (by simpa using c2)]
  · rw [if_neg (show ¬ nI so = (3 : Int32) from fun q => c1 ((nI_eq (b := 3) (by omega) (by omega)).mp q)), if_neg c1]
    by_cases c2 : lf t < 0
    · rw [if_neg (fa_of_lt c2).2.1, pz_wr ht (by omega), pz_wr ht (by omega), if_pos (by simpa using c2)]
    · rw [if_pos (fa_of_nlt c2), if_neg (by simpa using c2)]
def cl_v (I : sI) (fl lf : Nat → Int32) (t : Nat) : Int32 := sp_pay (I.1.2.1 t) (I.1.2.2.2 t) (fl t) (lf t)
def cl_o (I : sI) (fl lf : Nat → Int32) (t : Nat) : Bool := !decide (fl t = -1) && sp_lo (I.1.2.1 t) (cl_v I fl lf t)
def cl_lf (I : sI) (fl lf : Nat → Int32) (i t : Nat) : Int32 := if t < i ∧ ¬ fl t = -1 then cl_v I fl lf t else lf t
def cl_st (I : sI) (x : Int32) (fl lf st : Nat → Int32) (i t : Nat) : Int32 := if t < i ∧ cl_o I fl lf t = true then x else st t
def cl_fl (I : sI) (fl lf : Nat → Int32) (i t : Nat) : Int32 := if t < i ∧ cl_o I fl lf t = true then -1 else fl t
def cl_be (fl be : Nat → Int32) (i t : Nat) : Int32 := if t < i then fl t else be t
theorem upd_at (f : Nat → Int32) (k j : Nat) (x : Int32) : upd f k x j = if j = k then x else f j := by
  by_cases h : j = k
  · subst h; rw [pk_us, if_pos rfl]
  · rw [pk_un h, if_neg h]
theorem cl_be_s (fl be : Nat → Int32) (i : Nat) : upd (cl_be fl be i) i (fl i) = cl_be fl be (i + 1) := by
  funext t
  rw [upd_at]
  unfold cl_be
  by_cases h : t = i
  · subst h; rw [if_pos rfl, if_pos (by omega)]
  · rw [if_neg h]
    by_cases h2 : t < i
    · rw [if_pos h2, if_pos (by omega)]
    · rw [if_neg h2, if_neg (by omega)]
theorem cl_lf_s (I : sI) (fl lf : Nat → Int32) (i : Nat) (h0 : ¬ fl i = -1) : upd (cl_lf I fl lf i) i (cl_v I fl lf i) = cl_lf I fl lf (i + 1) := by
  funext t
  rw [upd_at]
  unfold cl_lf
  by_cases h : t = i
  · subst h; rw [if_pos rfl, if_pos ⟨by omega, h0⟩]
  · rw [if_neg h]
    by_cases h2 : t < i ∧ ¬ fl t = -1
    · rw [if_pos h2, if_pos ⟨by omega, h2.2⟩]
    · rw [if_neg h2, if_neg (fun q => h2 ⟨by omega, q.2⟩)]
theorem cl_lf_n (I : sI) (fl lf : Nat → Int32) (i : Nat) (h0 : fl i = -1) : cl_lf I fl lf i = cl_lf I fl lf (i + 1) := by
  funext t
  unfold cl_lf
  by_cases h : t = i
  · subst h; rw [if_neg (fun q => q.2 h0), if_neg (fun q => q.2 h0)]
  · by_cases h2 : t < i ∧ ¬ fl t = -1
    · rw [if_pos h2, if_pos ⟨by omega, h2.2⟩]
    · rw [if_neg h2, if_neg (fun q => h2 ⟨by omega, q.2⟩)]
theorem cl_g_s (P : Nat → Bool) (x : Int32) (st : Nat → Int32) (i : Nat) (h0 : P i = true) : upd (fun t => if t < i ∧ P t = true then x else st t) i x = (fun t => if t < i + 1 ∧ P t = true then x else st t) := by
  funext t
  rw [upd_at]
  show (if t = i then x else if t < i ∧ P t = true then x else st t) = if t < i + 1 ∧ P t = true then x else st t
  by_cases h : t = i
  · subst h; rw [if_pos rfl, if_pos ⟨by omega, h0⟩]
  · rw [if_neg h]
    by_cases h2 : t < i ∧ P t = true
    · rw [if_pos h2, if_pos ⟨by omega, h2.2⟩]
    · rw [if_neg h2, if_neg (fun q => h2 ⟨by omega, q.2⟩)]
theorem cl_g_n (P : Nat → Bool) (x : Int32) (st : Nat → Int32) (i : Nat) (h0 : ¬ P i = true) : (fun t => if t < i ∧ P t = true then x else st t) = (fun t => if t < i + 1 ∧ P t = true then x else st t) := by
  funext t
  show (if t < i ∧ P t = true then x else st t) = if t < i + 1 ∧ P t = true then x else st t
  by_cases h2 : t < i ∧ P t = true
  · rw [if_pos h2, if_pos ⟨by omega, h2.2⟩]
  · rw [if_neg h2, if_neg]
    intro q
    by_cases h : t = i
    · subst h; exact h0 q.2
    · exact h2 ⟨by omega, q.2⟩
theorem cm_28 {I : sI} {m : Nat} {w rm au c2s c1s : Int32} {so pd wg ki mo nu st fa pa fls lfs flr fl be lf od tk : Nat → Int32} {q : Int32 → (Nat → Int32) → (Nat → Int32) → (Nat → Int32) → (Nat → Int32) → (Nat → Int32) → (Nat → Int32) → (Nat → Int32) → (Nat → Int32) → (Nat → Int32) → (Nat → Int32) → (Nat → Int32) → Int32 → (Option (Int32 × (Nat → Int32) × (Nat → Int32) × (Nat → Int32) × (Nat → Int32) × (Nat → Int32) × (Nat → Int32) × (Nat → Int32) × (Nat → Int32) × (Nat → Int32) × (Nat → Int32) × (Nat → Int32)))} (hT : InT I.1 c1s so pd wg) :
    fX1_run_28 w rm c1s so pd wg c2s ki mo nu q jF (nI I.1.1) st fa pa fls lfs flr fl be lf od tk (nI m) au 0 =
    bd1 (fX1_sortByLeft (nI I.1.1) (cl_lf I fl lf I.1.1) od) (fun od' =>
    bd2 (fX1_giveFloors rm au (nI I.1.1) (cl_lf I fl lf I.1.1) od' (cl_fl I fl lf I.1.1) tk) (fun fl' tk' =>
    bd3 (fX1_countFalls (nI m) (nI I.1.1) fl' (cl_be fl be I.1.1) fa pa flr) (fun fa' pa' flr' =>
    bd2 (fX1_keep (nI m) (nI I.1.1) fl' (cl_lf I fl lf I.1.1) fls lfs) (fun fls' lfs' =>
    q (nI I.1.1) (cl_st I (nI m) fl lf st I.1.1) fa' pa' fls' lfs' flr' fl' (cl_be fl be I.1.1) (cl_lf I fl lf I.1.1) od' tk' (nI (m + 1)))))) := by
  obtain ⟨hT1, rfl, hT3⟩ := hT
  have h0 : fX1_run_28 w rm (nI I.1.1) so pd wg c2s ki mo nu q jF (nI I.1.1) st fa pa fls lfs flr fl be lf od tk (nI m) au 0 = fX1_run_28 w rm (nI I.1.1) so pd wg c2s ki mo nu q jF (nI I.1.1) (cl_st I (nI m) fl lf st 0) fa pa fls lfs flr (cl_fl I fl lf 0) (cl_be fl be 0) (cl_lf I fl lf 0) od tk (nI m) au (nI 0) := by
    have e1 : cl_st I (nI m) fl lf st 0 = st := by funext t; unfold cl_st; rw [if_neg (fun q => absurd q.1 (Nat.not_lt_zero t))]
    have e2 : cl_fl I fl lf 0 = fl := by funext t; unfold cl_fl; rw [if_neg (fun q => absurd q.1 (Nat.not_lt_zero t))]
    have e3 : cl_be fl be 0 = be := by funext t; unfold cl_be; rw [if_neg (Nat.not_lt_zero t)]
    have e4 : cl_lf I fl lf 0 = lf := by funext t; unfold cl_lf; rw [if_neg (fun q => absurd q.1 (Nat.not_lt_zero t))]
    rw [e1, e2, e3, e4]; rfl
  rw [h0]
  refine pz_up (fun F i => fX1_run_28 w rm (nI I.1.1) so pd wg c2s ki mo nu q F (nI I.1.1) (cl_st I (nI m) fl lf st i) fa pa fls lfs flr (cl_fl I fl lf i) (cl_be fl be i) (cl_lf I fl lf i) od tk (nI m) au (nI i)) I.1.1 _ (fun F i hi => ?_) (fun F => ?_) I.1.1 0 jF (by omega) (pz_jF (by omega))
  · show bX1_run_28 w rm (nI I.1.1) so pd wg c2s ki mo nu q (fX1_run_28 w rm (nI I.1.1) so pd wg c2s ki mo nu q F) _ _ _ _ _ _ _ _ _ _ _ _ _ _ _ = _
    obtain ⟨h1, h2, h3, h4, h5, h6⟩ := hT3 i hi
    have fi : cl_fl I fl lf i i = fl i := by unfold cl_fl; rw [if_neg (fun q => absurd q.1 (Nat.lt_irrefl i))]
    have li : cl_lf I fl lf i i = lf i := by unfold cl_lf; rw [if_neg (fun q => absurd q.1 (Nat.lt_irrefl i))]
    unfold bX1_run_28
    simp only [fX1_run_97, pz_nm, pz_1]
    rw [if_neg (nI_ge hi (by omega)), pz_rd (by omega) (by omega), pz_wr (by omega) (by omega), pz_rd (by omega) (by omega), fi, cl_be_s]
    by_cases c1 : fl i = -1
    · rw [if_pos c1]
      have oi : ¬ cl_o I fl lf i = true := by unfold cl_o; simp [c1]
      rw [show cl_st I (nI m) fl lf st i = cl_st I (nI m) fl lf st (i + 1) from cl_g_n (cl_o I fl lf) (nI m) st i oi, show cl_fl I fl lf i = cl_fl I fl lf (i + 1) from cl_g_n (cl_o I fl lf) (-1) fl i oi, cl_lf_n I fl lf i c1]
    · rw [if_neg c1, pz_rd (by omega) (by omega), h1, pz_rd (by omega) (by omega), h3, cm_pay (by omega) (by omega), bd1_eq, pz_rd (by omega) (by omega), h1, fi, li, show sp_pay (I.1.2.1 i) (I.1.2.2.2 i) (fl i) (lf i) = cl_v I fl lf i from rfl, cl_lf_s I fl lf i c1, cm_settle (by omega) (by omega)]
      have vi : cl_lf I fl lf (i + 1) i = cl_v I fl lf i := by unfold cl_lf; rw [if_pos ⟨by omega, c1⟩]
      rw [vi]
      by_cases c2 : sp_lo (I.1.2.1 i) (cl_v I fl lf i) = true
      · have oi : cl_o I fl lf i = true := by unfold cl_o; simp [c1, c2]
        rw [if_pos c2, bd2_eq, show upd (cl_st I (nI m) fl lf st i) i (nI m) = cl_st I (nI m) fl lf st (i + 1) from cl_g_s (cl_o I fl lf) (nI m) st i oi, show upd (cl_fl I fl lf i) i (-1) = cl_fl I fl lf (i + 1) from cl_g_s (cl_o I fl lf) (-1) fl i oi]
      · have oi : ¬ cl_o I fl lf i = true := by unfold cl_o; simp [c2]
        rw [if_neg c2, bd2_eq, show cl_st I (nI m) fl lf st i = cl_st I (nI m) fl lf st (i + 1) from cl_g_n (cl_o I fl lf) (nI m) st i oi, show cl_fl I fl lf i = cl_fl I fl lf (i + 1) from cl_g_n (cl_o I fl lf) (-1) fl i oi]
  · show bX1_run_28 w rm (nI I.1.1) so pd wg c2s ki mo nu q (fX1_run_28 w rm (nI I.1.1) so pd wg c2s ki mo nu q F) _ _ _ _ _ _ _ _ _ _ _ _ _ _ _ = _
    unfold bX1_run_28
    rw [if_pos (nI_le (Nat.le_refl _) (by omega))]
    simp only [pz_nm, pz_1]
