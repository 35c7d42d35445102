def sdN (s : Int32) : Nat → Int32
  | 0 => s
  | i + 1 => (1103515245 : Int32) * sdN s i + 12345
def lotN (x : Int32) (m : Nat) : Nat := x.toBitVec.toNat / 65536 % m
theorem up16 (x : Int32) : UInt32.toInt32 (Int32.toUInt32 x >>> (Int32.toUInt32 (16 : Int32) &&& Int32.toUInt32 31)) = nI (x.toBitVec.toNat / 65536) := by
  have h1 : (UInt32.toInt32 (Int32.toUInt32 x >>> (Int32.toUInt32 (16 : Int32) &&& Int32.toUInt32 31))).toBitVec = x.toBitVec >>> 16 := by
    show (x.toUInt32 >>> ((nI 16).toUInt32 &&& Int32.toUInt32 31)).toBitVec = _
    rw [UInt32.toBitVec_shiftRight]
    show x.toUInt32.toBitVec >>> (((nI 16).toUInt32 &&& Int32.toUInt32 31).toBitVec % 32).toNat = _
    rw [s_u 16 (by omega)]
    rfl
  apply Int32.toBitVec_inj.mp
  rw [h1]
  apply BitVec.eq_of_toNat_eq
  have hl := x.toBitVec.isLt
  rw [BitVec.toNat_ushiftRight, Nat.shiftRight_eq_div_pow]
  show _ = (BitVec.ofNat 32 (x.toBitVec.toNat / 65536)).toNat
  rw [BitVec.toNat_ofNat, Nat.mod_eq_of_lt (by omega)]
theorem lot_lt (x : Int32) : x.toBitVec.toNat / 65536 < 65536 := by
  have hl := x.toBitVec.isLt
  omega
theorem cm_lot4 (x : Int32) : fX5_lot x (4 : Int32) = some (nI (lotN x 4)) := by
  unfold fX5_lot ckZ
  rw [if_neg (show ¬ (4 : Int32) ≤ 0 by decide), if_neg (show ¬ (4 : Int32) = 0 by decide), up16, show nI (x.toBitVec.toNat / 65536) - nI (x.toBitVec.toNat / 65536) / (4 : Int32) * (4 : Int32) = nI (x.toBitVec.toNat / 65536 % 4) from pk_rem (d := 4) (by have := lot_lt x; omega) (by omega) (by omega)]
  rfl
theorem cm_lot10 (x : Int32) : fX5_lot x (10 : Int32) = some (nI (lotN x 10)) := by
  unfold fX5_lot ckZ
  rw [if_neg (show ¬ (10 : Int32) ≤ 0 by decide), if_neg (show ¬ (10 : Int32) = 0 by decide), up16, show nI (x.toBitVec.toNat / 65536) - nI (x.toBitVec.toNat / 65536) / (10 : Int32) * (10 : Int32) = nI (x.toBitVec.toNat / 65536 % 10) from pk_rem (d := 10) (by have := lot_lt x; omega) (by omega) (by omega)]
  rfl
theorem mm_lot4 (s : Int32) (i : Nat) : fX8_lot (4 : Int32) (sdN s i) = some (nI (lotN (sdN s (i + 1)) 4), sdN s (i + 1)) := by
  unfold fX8_lot ckZ
  rw [pz_nm, if_neg (show ¬ (4 : Int32) = 0 by decide), show (1103515245 : Int32) * sdN s i + 12345 = sdN s (i + 1) from rfl, up16, show nI ((sdN s (i + 1)).toBitVec.toNat / 65536) - nI ((sdN s (i + 1)).toBitVec.toNat / 65536) / (4 : Int32) * (4 : Int32) = nI ((sdN s (i + 1)).toBitVec.toNat / 65536 % 4) from pk_rem (d := 4) (by have := lot_lt (sdN s (i + 1)); omega) (by omega) (by omega)]
  rfl
theorem mm_lot10 (s : Int32) (i : Nat) : fX8_lot (10 : Int32) (sdN s i) = some (nI (lotN (sdN s (i + 1)) 10), sdN s (i + 1)) := by
  unfold fX8_lot ckZ
  rw [pz_nm, if_neg (show ¬ (10 : Int32) = 0 by decide), show (1103515245 : Int32) * sdN s i + 12345 = sdN s (i + 1) from rfl, up16, show nI ((sdN s (i + 1)).toBitVec.toNat / 65536) - nI ((sdN s (i + 1)).toBitVec.toNat / 65536) / (10 : Int32) * (10 : Int32) = nI ((sdN s (i + 1)).toBitVec.toNat / 65536 % 10) from pk_rem (d := 10) (by have := lot_lt (sdN s (i + 1)); omega) (by omega) (by omega)]
  rfl
def hsT (s : Int32) (n : Nat) : sT := (n, fun t => lotN (sdN s (3 * t + 1)) 4, fun t => lotN (sdN s (3 * t + 2)) 10, fun t => lotN (sdN s (3 * t + 3)) 10)
theorem lotN_4 (x : Int32) : lotN x 4 ≤ 3 := by unfold lotN; omega
theorem lotN_10 (x : Int32) : lotN x 10 ≤ 9 := by unfold lotN; omega
theorem cm_draw {s sz : Int32} {n : Nat} {so pd wg : Nat → Int32} (hn : n ≤ 8) : fX5_drawLots s (nI n) sz so pd wg = some (nI n, fa_fill (fun t => nI (lotN (sdN s (3 * t + 1)) 4)) so n, fa_fill (fun t => nI (lotN (sdN s (3 * t + 2)) 10)) pd n, fa_fill (fun t => nI (lotN (sdN s (3 * t + 3)) 10)) wg n) := by
  unfold fX5_drawLots
  have s0 : fX5_drawLots_10 s (nI n) jF (nI n) so pd wg s 0 = fX5_drawLots_10 s (nI n) jF (nI n) (fa_fill (fun t => nI (lotN (sdN s (3 * t + 1)) 4)) so 0) (fa_fill (fun t => nI (lotN (sdN s (3 * t + 2)) 10)) pd 0) (fa_fill (fun t => nI (lotN (sdN s (3 * t + 3)) 10)) wg 0) (sdN s (3 * 0)) (nI 0) := by rw [fa_fill_0, fa_fill_0, fa_fill_0]; rfl
  rw [s0]
  refine pz_up (fun F t => fX5_drawLots_10 s (nI n) F (nI n) (fa_fill (fun t => nI (lotN (sdN s (3 * t + 1)) 4)) so t) (fa_fill (fun t => nI (lotN (sdN s (3 * t + 2)) 10)) pd t) (fa_fill (fun t => nI (lotN (sdN s (3 * t + 3)) 10)) wg t) (sdN s (3 * t)) (nI t)) n _ (fun F t ht => ?_) (fun F => ?_) n 0 jF (by omega) (pz_jF (by omega))
  · show bX5_drawLots_10 s (nI n) (fX5_drawLots_10 s (nI n) F) _ _ _ _ _ _ = _
    unfold bX5_drawLots_10
    have nx : ∀ i, fX5_nextSeed (sdN s i) = some (sdN s (i + 1)) := fun i => rfl
    have t8 : t < 8 := by omega
    rw [if_neg (nI_ge ht (by omega)), nx, bd1_eq, cm_lot4, bd1_eq, pz_wr t8 (by omega), nx, bd1_eq, cm_lot10, bd1_eq, pz_wr t8 (by omega), nx, bd1_eq, cm_lot10, bd1_eq, pz_wr t8 (by omega), pz_nm, pz_1]
    rw [show upd (fa_fill (fun t => nI (lotN (sdN s (3 * t + 1)) 4)) so t) t (nI (lotN (sdN s (3 * t + 1)) 4)) = fa_fill (fun t => nI (lotN (sdN s (3 * t + 1)) 4)) so (t + 1) from fa_fill_succ (fun t => nI (lotN (sdN s (3 * t + 1)) 4)) so t, show upd (fa_fill (fun t => nI (lotN (sdN s (3 * t + 2)) 10)) pd t) t (nI (lotN (sdN s (3 * t + 1 + 1)) 10)) = fa_fill (fun t => nI (lotN (sdN s (3 * t + 2)) 10)) pd (t + 1) from fa_fill_succ (fun t => nI (lotN (sdN s (3 * t + 2)) 10)) pd t, show upd (fa_fill (fun t => nI (lotN (sdN s (3 * t + 3)) 10)) wg t) t (nI (lotN (sdN s (3 * t + 1 + 1 + 1)) 10)) = fa_fill (fun t => nI (lotN (sdN s (3 * t + 3)) 10)) wg (t + 1) from fa_fill_succ (fun t => nI (lotN (sdN s (3 * t + 3)) 10)) wg t]
    rfl
  · unfold fX5_drawLots_10
    rw [lp_s]
    unfold bX5_drawLots_10
    rw [if_pos (nI_le (Nat.le_refl _) (by omega))]
def hsV (s : Int32) (n : Nat) (E : sT) (r : Nat) (what : Int32) : Int32 := if what = 0 then nI (sq_ns (hI (hsT s n) E 255 r)) else nI (sq_nf (hI (hsT s n) E 255 r))
theorem cm_houses {s what rm : Int32} {n r : Nat} {E : sT} {ev oth : jT3} {tr : jT11} (hn : n ≤ 8) (hwh : what = 0 ∨ what = 1) (hE : InE3 E ev) (hrm : rm = nI r) : ∃ oth' tr', fX7_houses s (nI n) what rm ev oth tr = some (hsV s n E r what, oth', tr') := by
  unfold fX7_houses hsV
  have hT : InT (hsT s n) (nI n) (fa_fill (fun t => nI (lotN (sdN s (3 * t + 1)) 4)) oth.2.1 n) (fa_fill (fun t => nI (lotN (sdN s (3 * t + 2)) 10)) oth.2.2.1 n) (fa_fill (fun t => nI (lotN (sdN s (3 * t + 3)) 10)) oth.2.2.2 n) := by
    refine ⟨hn, rfl, fun t ht => ?_⟩
    have ht' : t < n := ht
    rw [fa_fill_in ht', fa_fill_in ht', fa_fill_in ht']
    exact ⟨rfl, rfl, rfl, lotN_4 _, lotN_10 _, lotN_10 _⟩
  obtain ⟨C, hC, e⟩ := cm_runI (T := hsT s n) (E := E) (w := 255) (r := r) (sz := tr.1) (st := tr.2.1) (fa := tr.2.2.1) (pa := tr.2.2.2.1) (fls := tr.2.2.2.2.1) (lfs := tr.2.2.2.2.2.1) (flr := tr.2.2.2.2.2.2.1) (fl := tr.2.2.2.2.2.2.2.1) (be := tr.2.2.2.2.2.2.2.2.1) (lf := tr.2.2.2.2.2.2.2.2.2.1) (od := tr.2.2.2.2.2.2.2.2.2.2.1) (tk := tr.2.2.2.2.2.2.2.2.2.2.2) hT hE hrm
  have q1 : (0 : Int32) ≤ nI n ∧ nI n ≤ (8 : Int32) := ⟨nI_pos' (by omega), nI_le (b := 8) hn (by omega)⟩
  have q3 : (0 : Int32) ≤ what ∧ what ≤ 1 := by rcases hwh with rfl | rfl <;> decide
  rw [pz_within, bd1_eq, ite01, if_pos q1, pz_within, bd1_eq, ite01, if_pos q3, cm_draw hn, bd4_eq, e, bd12_eq, cq_nset hC hn, bd1_eq, cq_fsum hC hn, bd1_eq, sm_ite]
  by_cases c : what = 0
  · rw [if_pos c, if_pos c]; exact ⟨_, C, rfl⟩
  · rw [if_neg c, if_neg c]; exact ⟨_, C, rfl⟩
theorem mm_houses13 {s what rm en : Int32} {n r N : Nat} {E : sT} {b ev : Nat → Int32} (hn : n ≤ 8) (hN : N ≤ 31) (hE : ME E en ev) (hrm : rm = nI r) (hr : r ≤ 8) : ∀ (j t F : Nat) (S : jT11) (te : Nat → Int32), t + j = n → j < F → (∀ x, x < t → te (3 * x) = nI ((hsT s n).2.1 x) ∧ te (3 * x + 1) = nI ((hsT s n).2.2.1 x) ∧ te (3 * x + 2) = nI ((hsT s n).2.2.2 x)) → ∃ S' d' te', fX8_housesOf_13 s (nI n) what (nI N) rm en 0 b ev F (nI n) S (sdN s (3 * t)) te (nI t) = some (hsV s n E r what, nI (tx_n b N), S', d', te') ∧ MT (tx_T b N) (nI (tx_n b N)) te' := by
  intro j
  induction j with
  | zero =>
    intro t F S te h1 h2 h3
    obtain ⟨F', rfl⟩ : ∃ z, F = z + 1 := ⟨F - 1, by omega⟩
    have ht : t = n := by omega
    subst ht
    have hT : MT (hsT s t) (nI t) te := ⟨hn, rfl, fun x hx => ⟨(h3 x hx).1, (h3 x hx).2.1, (h3 x hx).2.2, lotN_4 _, lotN_10 _, lotN_10 _⟩⟩
    obtain ⟨S1, e1, hS1⟩ := mm_livesI (w := 255) (S := S) hT hE (hw255 hE.1) hrm hr
    obtain ⟨te2, e2, hT2⟩ := mm_reads (b := b) (te := te) (tn := nI t) hN
    have q1 := mq_nset hS1 hn hT.2.1
    have q2 := mq_fsum hS1 hn hT.2.1
    refine ⟨S1, sdN s (3 * t), te2, ?_, hT2⟩
    unfold fX8_housesOf_13
    rw [lp_s]
    unfold bX8_housesOf_13 hsV
    simp only [fX8_housesOf_92]
    rw [if_pos (nI_le (Nat.le_refl _) (by omega)), e1, bd1_eq, q1, bd1_eq, q2, bd1_eq, e2, bd3_eq, bd3_eq, sm_ite]
    by_cases c : what = 0
    · rw [if_pos c, if_pos c]
    · rw [if_neg c, if_neg c]
  | succ j ih =>
    intro t F S te h1 h2 h3
    obtain ⟨F', rfl⟩ : ∃ z, F = z + 1 := ⟨F - 1, by omega⟩
    have ht : t < n := by omega
    have e0 : fX8_housesOf_13 s (nI n) what (nI N) rm en 0 b ev (F' + 1) (nI n) S (sdN s (3 * t)) te (nI t) = bX8_housesOf_13 s (nI n) what (nI N) rm en 0 b ev (fX8_housesOf_13 s (nI n) what (nI N) rm en 0 b ev F') (nI n) S (sdN s (3 * t)) te (nI t) := rfl
    rw [e0]
    unfold bX8_housesOf_13
    rw [if_neg (nI_ge ht (by omega)), mm_lot4, bd2_eq, mm_31, mm_32, mm_3, pz_wr (by omega) (by omega), mm_lot10, bd2_eq, pz_wr (by omega) (by omega), mm_lot10, bd2_eq, pz_wr (by omega) (by omega), pz_nm, pz_1]
    refine ih (t + 1) F' S _ (by omega) (by omega) (fun x hx => ?_)
    by_cases c : x = t
    · subst c
      refine ⟨?_, ?_, ?_⟩
      · rw [pk_un (by omega), pk_un (by omega), pk_us]; rfl
      · rw [pk_un (by omega), pk_us]; rfl
      · rw [pk_us]; rfl
    · rw [pk_un (by omega), pk_un (by omega), pk_un (by omega), pk_un (by omega), pk_un (by omega), pk_un (by omega), pk_un (by omega), pk_un (by omega), pk_un (by omega)]
      exact h3 x (by omega)
theorem mm_houses {s what tn rm en dr : Int32} {n r N : Nat} {E : sT} {b te ev : Nat → Int32} {S : jT11} (hn : n ≤ 8) (hN : N ≤ 31) (hE : ME E en ev) (hrm : rm = nI r) (hr : r ≤ 8) : ∃ S' d' te', fX8_housesOf s (nI n) what (nI N) rm en 0 b ev tn S dr te = some (hsV s n E r what, nI (tx_n b N), S', d', te') ∧ MT (tx_T b N) (nI (tx_n b N)) te' :=
  mm_houses13 hn hN hE hrm hr n 0 jF S te (by omega) (pz_jF (by omega)) (fun x hx => absurd hx (Nat.not_lt_zero x))
