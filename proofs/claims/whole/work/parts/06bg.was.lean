def vwF (f : Nat → Int32) : Nat → Int32
  | 0 => 0
  | i + 1 => (vwF f i <<< ((4 : Int32) &&& 31)) ||| (f i - (-1))
def rwF (f : Nat → Int32) : Nat → Int64
  | 0 => 0
  | i + 1 => (14 : Int64) * rwF f i + (f i).toInt64 + 1
def sq_vw (I : sI) (m : Nat) : Int32 := vwF (sq_fl I m) I.1.1
def sq_rw (I : sI) (m : Nat) : Int64 := rwF (sq_fl I m) I.1.1
theorem cq_view {I : sI} {C : jT11} {k : Nat} (h : cOk I C) (hn : I.1.1 ≤ 8) (hk : k < 24) : fX1_view (nI k) C.1 C.2.2.2.2.1 = some (sq_vw I k) := by
  rw [h.1]
  unfold fX1_view
  refine pz_up (fun F i => fX1_view_4 (nI k) (nI I.1.1) C.2.2.2.2.1 F (vwF (sq_fl I k) i) (nI i)) I.1.1 _ (fun F i hi => ?_) (fun F => ?_) I.1.1 0 jF (by omega) (pz_jF (by omega))
  · show bX1_view_4 (nI k) (nI I.1.1) C.2.2.2.2.1 (fX1_view_4 (nI k) (nI I.1.1) C.2.2.2.2.1 F) _ _ = fX1_view_4 (nI k) (nI I.1.1) C.2.2.2.2.1 F ((vwF (sq_fl I k) i <<< ((4 : Int32) &&& 31)) ||| (sq_fl I k i - (-1))) _
    unfold bX1_view_4
    rw [if_neg (nI_ge hi (by omega)), cm_floorAt hn (cOk_F h) hk hi, bd1_eq, pz_nm, pz_nm, pz_1]
  · unfold fX1_view_4
    rw [lp_s]
    unfold bX1_view_4
    rw [if_pos (nI_le (Nat.le_refl _) (by omega))]
    rfl
theorem mq_row {I : sI} {S : jT11} {tn : Int32} {k : Nat} (h : mOk I S) (hn : I.1.1 ≤ 8) (ht : tn = nI I.1.1) (hk : k < 24) : fX8_rowOf (nI k) tn S.2.2.2.2.2.2.2.2.2.1 = some (sq_rw I k) := by
  subst ht
  have hF := mOk_F h
  unfold fX8_rowOf
  refine pz_up (fun F i => fX8_rowOf_5 (nI k) (nI I.1.1) S.2.2.2.2.2.2.2.2.2.1 F (rwF (sq_fl I k) i) (nI i)) I.1.1 _ (fun F i hi => ?_) (fun F => ?_) I.1.1 0 jF (by omega) (pz_jF (by omega))
  · show bX8_rowOf_5 (nI k) (nI I.1.1) S.2.2.2.2.2.2.2.2.2.1 (fX8_rowOf_5 (nI k) (nI I.1.1) S.2.2.2.2.2.2.2.2.2.1 F) _ _ = fX8_rowOf_5 (nI k) (nI I.1.1) S.2.2.2.2.2.2.2.2.2.1 F ((14 : Int64) * rwF (sq_fl I k) i + (sq_fl I k i).toInt64 + 1) _
    unfold bX8_rowOf_5
    rw [if_neg (nI_ge hi (by omega)), xi8, pz_rd (by omega) (by omega), hF k i hk hi, pz_nm, pz_nm, pz_1]
  · unfold fX8_rowOf_5
    rw [lp_s]
    unfold bX8_rowOf_5
    rw [if_pos (nI_le (Nat.le_refl _) (by omega))]
    rfl
def FR (x : Int32) : Prop := x = -1 ∨ ∃ f, f ≤ 12 ∧ x = nI f
theorem FR_1 {x : Int32} (h : FR x) : ∃ g, g ≤ 13 ∧ x - (-1) = nI g ∧ x.toInt64 + 1 = lN g ∧ x = nI g - 1 := by
  rcases h with h | ⟨f, hf, h⟩
  · subst h; exact ⟨0, by omega, by decide, by decide, by decide⟩
  · subst h
    refine ⟨f + 1, by omega, ?_, ?_, (nI_pred f).symm⟩
    · rw [show nI f - (-1) = nI f + 1 from by rw [Int32.sub_eq_add_neg]; rfl, pz_1]
    · rw [nI_l (by omega), lN_1]
theorem bt_nI {x i : Nat} (hi : i < 32) : bt (nI x) i = x.testBit i := by
  unfold bt
  show (BitVec.ofNat 32 x).getLsbD i = _
  rw [BitVec.getLsbD_ofNat]
  simp [hi]
theorem bt_hi {g i : Nat} (hg : g ≤ 13) (h4 : 4 ≤ i) (hi : i < 32) : bt (nI g) i = false := by
  rw [bt_nI hi]
  exact Nat.testBit_lt_two_pow (Nat.lt_of_lt_of_le (show g < 2 ^ 4 by omega) (Nat.pow_le_pow_right (by omega) h4))
theorem vw_bit {f : Nat → Int32} : ∀ n, n ≤ 8 → (∀ t, t < n → FR (f t)) → ∀ t j, t < n → j < 4 → bt (vwF f n) (4 * (n - 1 - t) + j) = bt (f t - (-1)) j
  | 0, _, _, t, _, ht, _ => absurd ht (Nat.not_lt_zero t)
  | n + 1, hn, hf, t, j, ht, hj => by
    have ih := vw_bit n (by omega) (fun t ht => hf t (by omega))
    obtain ⟨g, hg, e, -, -⟩ := FR_1 (hf n (by omega))
    show bt ((vwF f n <<< ((4 : Int32) &&& 31)) ||| (f n - (-1))) (4 * (n + 1 - 1 - t) + j) = _
    rw [b_or, show bt (vwF f n <<< ((4 : Int32) &&& 31)) (4 * (n + 1 - 1 - t) + j) = _ from b_shl 4 (by omega) (vwF f n) (by omega)]
    by_cases c : t = n
    · subst c
      rw [show 4 * (t + 1 - 1 - t) + j = j by omega, show decide (4 ≤ j) = false from decide_eq_false (by omega), Bool.false_and, Bool.false_or]
    · rw [e, bt_hi hg (by omega) (by omega), Bool.or_false, show decide (4 ≤ 4 * (n + 1 - 1 - t) + j) = true from decide_eq_true (by omega), Bool.true_and, show 4 * (n + 1 - 1 - t) + j - 4 = 4 * (n - 1 - t) + j by omega]
      exact ih t j (by omega) hj
theorem vw_inj {f f' : Nat → Int32} {n : Nat} (hn : n ≤ 8) (hf : ∀ t, t < n → FR (f t)) (hf' : ∀ t, t < n → FR (f' t)) (h : vwF f n = vwF f' n) : ∀ t, t < n → f t = f' t := by
  intro t ht
  obtain ⟨g, hg, e, -, e2⟩ := FR_1 (hf t ht)
  obtain ⟨g', hg', e', -, e2'⟩ := FR_1 (hf' t ht)
  have key : f t - (-1) = f' t - (-1) := by
    refine b_ext (fun i hi => ?_)
    by_cases c : i < 4
    · rw [← vw_bit n hn hf t i ht c, ← vw_bit n hn hf' t i ht c, h]
    · rw [e, e', bt_hi hg (by omega) hi, bt_hi hg' (by omega) hi]
  rw [e, e'] at key
  rw [e2, e2', key]
theorem vw_cong {f f' : Nat → Int32} : ∀ n, (∀ t, t < n → f t = f' t) → vwF f n = vwF f' n
  | 0, _ => rfl
  | n + 1, h => by
    unfold vwF
    rw [vw_cong n (fun t ht => h t (by omega)), h n (by omega)]
theorem rw_cong {f f' : Nat → Int32} : ∀ n, (∀ t, t < n → f t = f' t) → rwF f n = rwF f' n
  | 0, _ => rfl
  | n + 1, h => by
    unfold rwF
    rw [rw_cong n (fun t ht => h t (by omega)), h n (by omega)]
theorem rw_nat {f : Nat → Int32} : ∀ n, (∀ t, t < n → FR (f t)) → ∃ a, a < 14 ^ n ∧ rwF f n = lN a
  | 0, _ => ⟨0, by decide, rfl⟩
  | n + 1, h => by
    obtain ⟨a, ha, e⟩ := rw_nat n (fun t ht => h t (by omega))
    obtain ⟨g, hg, -, e1, -⟩ := FR_1 (h n (by omega))
    refine ⟨14 * a + g, ?_, ?_⟩
    · rw [Nat.pow_succ]; omega
    · show (14 : Int64) * rwF f n + (f n).toInt64 + 1 = _
      rw [e, Int64.add_assoc, e1, show (14 : Int64) * lN a = lN (14 * a) from lN_mul 14 a, lN_add]
theorem rw_inj {f f' : Nat → Int32} : ∀ n, n ≤ 8 → (∀ t, t < n → FR (f t)) → (∀ t, t < n → FR (f' t)) → rwF f n = rwF f' n → ∀ t, t < n → f t = f' t
  | 0, _, _, _, _, t, ht => absurd ht (Nat.not_lt_zero t)
  | n + 1, hn, hf, hf', h, t, ht => by
    obtain ⟨a, ha, ea⟩ := rw_nat (f := f) n (fun t ht => hf t (by omega))
    obtain ⟨a', ha', ea'⟩ := rw_nat (f := f') n (fun t ht => hf' t (by omega))
    obtain ⟨g, hg, -, e1, e2⟩ := FR_1 (hf n (by omega))
    obtain ⟨g', hg', -, e1', e2'⟩ := FR_1 (hf' n (by omega))
    have hp : 14 ^ n ≤ 14 ^ 7 := Nat.pow_le_pow_right (by omega) (by omega)
    have h' : (14 : Int64) * rwF f n + (f n).toInt64 + 1 = (14 : Int64) * rwF f' n + (f' n).toInt64 + 1 := h
    rw [ea, ea', Int64.add_assoc, Int64.add_assoc, e1, e1', show (14 : Int64) * lN a = lN (14 * a) from lN_mul 14 a, show (14 : Int64) * lN a' = lN (14 * a') from lN_mul 14 a', lN_add, lN_add, pk_lEQ (by omega) (by omega)] at h'
    have hg2 : g = g' := by omega
    have ha2 : a = a' := by omega
    by_cases c : t = n
    · subst c; rw [e2, e2', hg2]
    · exact rw_inj n (by omega) (fun t ht => hf t (by omega)) (fun t ht => hf' t (by omega)) (by rw [ea, ea', ha2]) t (by omega)
theorem vr_iff {I I' : sI} {m : Nat} (hn : I.1.1 ≤ 8) (hn' : I'.1.1 = I.1.1) (hm : m < 24) : sq_vw I m = sq_vw I' m ↔ sq_rw I m = sq_rw I' m := by
  have f1 : ∀ t, t < I.1.1 → FR (sq_fl I m t) := fun t ht => sq_rng hn hm ht
  have f2 : ∀ t, t < I.1.1 → FR (sq_fl I' m t) := fun t ht => sq_rng (by omega) hm (by omega)
  unfold sq_vw sq_rw
  rw [hn']
  exact ⟨fun h => rw_cong _ (vw_inj hn f1 f2 h), fun h => vw_cong _ (rw_inj _ hn f1 f2 h)⟩
def fb_putL (f : Nat → Int64) (g : Nat → Int64) (a n : Nat) : Nat → Int64 := fb_put f g a n
theorem fb_putL_succ (f g : Nat → Int64) (a n : Nat) : vp_updL (fb_put f g a n) (a + n) (g n) = fb_put f g a (n + 1) := by
  funext k
  by_cases c : k = a + n
  · subst c
    rw [pk_uLs, fb_put_in (by omega) (by omega), show a + n - a = n by omega]
  · rw [pk_uLn c]
    by_cases d : a ≤ k ∧ k < a + n
    · rw [fb_put_in d.1 d.2, fb_put_in d.1 (by omega)]
    · rw [fb_put_out (by omega), fb_put_out (by omega)]
theorem cm_sw76 {I : sI} {C : jT11} {w : Nat} {i1 rm bits : Int32} {told ev seen oth : jT3} {vw : Nat → Int32} {q : jT3 → jT11 → (Nat → Int32) → Int32 → Int32 → Option (Int32 × jT3 × jT11 × (Nat → Int32))} (h : cOk I C) (hn : I.1.1 ≤ 8) (hw : w < 10) : fX7_seenWages_76 i1 rm told ev seen q jF oth C vw bits (nI w) 0 = q oth C (fb_put vw (sq_vw I) (w * 24) 24) bits (nI (w + 1)) := by
  have s0 : fX7_seenWages_76 i1 rm told ev seen q jF oth C vw bits (nI w) 0 = fX7_seenWages_76 i1 rm told ev seen q jF oth C (fb_put vw (sq_vw I) (w * 24) 0) bits (nI w) (nI 0) := by rw [fb_put_0]; rfl
  rw [s0]
  refine pz_up (fun F i => fX7_seenWages_76 i1 rm told ev seen q F oth C (fb_put vw (sq_vw I) (w * 24) i) bits (nI w) (nI i)) 24 _ (fun F i hi => ?_) (fun F => ?_) 24 0 jF (by omega) (pz_jF (by omega))
  · show bX7_seenWages_76 i1 rm told ev seen q (fX7_seenWages_76 i1 rm told ev seen q F) _ _ _ _ _ _ = _
    unfold bX7_seenWages_76
    rw [if_neg (show ¬ (24 : Int32) ≤ nI i from nI_ge (b := 24) hi (by omega)), cq_view h hn hi, bd1_eq, show nI w * (24 : Int32) = nI (w * 24) from pk_mul w 24, nI_add, pz_wr (by omega) (by omega), fb_put_succ, pz_nm, pz_1]
  · unfold fX7_seenWages_76
    rw [lp_s]
    unfold bX7_seenWages_76
    rw [if_pos (show (24 : Int32) ≤ nI 24 by decide), pz_nm, pz_1]
theorem mm_wo57 {I : sI} {S : jT11} {w : Nat} {i1 tn rm en gone sg i2 i3 bits : Int32} {te ev si : Nat → Int32} {ro : Nat → Int64} {q : jT11 → (Nat → Int32) → (Nat → Int64) → Int32 → Int32 → Int32 → Int32 → Option (Int32 × jT11 × (Nat → Int32) × (Nat → Int64))} (h : mOk I S) (hn : I.1.1 ≤ 8) (ht : tn = nI I.1.1) (hw : w < 10) : fX8_wagesOf_57 i1 tn rm en gone sg ev si q jF S te ro i2 i3 bits (nI w) 0 = q S te (fb_put ro (sq_rw I) (24 * w) 24) i2 i3 bits (nI (w + 1)) := by
  have s0 : fX8_wagesOf_57 i1 tn rm en gone sg ev si q jF S te ro i2 i3 bits (nI w) 0 = fX8_wagesOf_57 i1 tn rm en gone sg ev si q jF S te (fb_put ro (sq_rw I) (24 * w) 0) i2 i3 bits (nI w) (nI 0) := by rw [fb_put_0]; rfl
  rw [s0]
  refine pz_up (fun F i => fX8_wagesOf_57 i1 tn rm en gone sg ev si q F S te (fb_put ro (sq_rw I) (24 * w) i) i2 i3 bits (nI w) (nI i)) 24 _ (fun F i hi => ?_) (fun F => ?_) 24 0 jF (by omega) (pz_jF (by omega))
  · show bX8_wagesOf_57 i1 tn rm en gone sg ev si q (fX8_wagesOf_57 i1 tn rm en gone sg ev si q F) _ _ _ _ _ _ _ _ = _
    unfold bX8_wagesOf_57
    rw [if_neg (show ¬ (24 : Int32) ≤ nI i from nI_ge (b := 24) hi (by omega)), mq_row h hn ht hi, bd1_eq, show (24 : Int32) * nI w = nI (24 * w) from pk_mul 24 w, nI_add, pz_wl (by omega) (by omega), fb_putL_succ, pz_nm, pz_1]
  · unfold fX8_wagesOf_57
    rw [lp_s]
    unfold bX8_wagesOf_57
    rw [if_pos (show (24 : Int32) ≤ nI 24 by decide), pz_nm, pz_1]
def sq_ww (T E : sT) (Z : sZ) (k r v : Nat) : Bool := sq_co (hI (sT_w T k v) E 255 r) Z
def sq_ws (T E : sT) (Z : sZ) (k r v : Nat) : Bool := sq_co (hI (sT_s T k v) E 255 r) Z
def VW (T E : sT) (k r n : Nat) (vw : Nat → Int32) : Prop := ∀ w m, w < n → m < 24 → vw (w * 24 + m) = sq_vw (hI (sT_w T k w) E 255 r) m
def RW (T E : sT) (k r n : Nat) (ro : Nat → Int64) : Prop := ∀ w m, w < n → m < 24 → ro (24 * w + m) = sq_rw (hI (sT_w T k w) E 255 r) m
theorem cm_sw15 {T E : sT} {Z : sZ} {k r : Nat} {rm : Int32} {told ev seen : jT3} (hn : T.1 ≤ 8) (hk : k < T.1) (hE : InE3 E ev) (hZ : InZ Z seen) (hrm : rm = nI r) : ∀ (j i F : Nat) (oth : jT3) (tr : jT11) (vw : Nat → Int32), i + j = 10 → j < F → (∃ v', InT3 (sT_w T k v') oth) → VW T E k r i vw → ∃ oth' tr' vw', fX7_seenWages_15 (nI k) rm told ev seen F oth tr vw (orB (sq_ww T E Z k r) i) (nI i) = some (orB (sq_ww T E Z k r) 10, oth', tr', vw') ∧ VW T E k r 10 vw' := by
  intro j
  induction j with
  | zero =>
    intro i F oth tr vw h1 h2 h3 h4
    obtain ⟨F', rfl⟩ : ∃ z, F = z + 1 := ⟨F - 1, by omega⟩
    have hi : i = 10 := by omega
    subst hi
    refine ⟨oth, tr, vw, ?_, h4⟩
    unfold fX7_seenWages_15
    rw [lp_s]
    unfold bX7_seenWages_15
    rw [if_pos (show (10 : Int32) ≤ nI 10 by decide)]
  | succ j ih =>
    intro i F oth tr vw h1 h2 h3 h4
    obtain ⟨F', rfl⟩ : ∃ z, F = z + 1 := ⟨F - 1, by omega⟩
    obtain ⟨v', h3⟩ := h3
    have hi : i < 10 := by omega
    have hT : InT3 (sT_w T k i) (oth.1, oth.2.1, oth.2.2.1, upd oth.2.2.2 k (nI i)) := InT_w (v := i) (by omega) h3
    obtain ⟨C, hC, e⟩ := cm_runI (T := sT_w T k i) (E := E) (w := 255) (r := r) (sz := tr.1) (st := tr.2.1) (fa := tr.2.2.1) (pa := tr.2.2.2.1) (fls := tr.2.2.2.2.1) (lfs := tr.2.2.2.2.2.1) (flr := tr.2.2.2.2.2.2.1) (fl := tr.2.2.2.2.2.2.2.1) (be := tr.2.2.2.2.2.2.2.2.1) (lf := tr.2.2.2.2.2.2.2.2.2.1) (od := tr.2.2.2.2.2.2.2.2.2.2.1) (tk := tr.2.2.2.2.2.2.2.2.2.2.2) hT hE hrm
    have h4' : VW T E k r (i + 1) (fb_put vw (sq_vw (hI (sT_w T k i) E 255 r)) (i * 24) 24) := fun w m hw hm => by
      by_cases c : w = i
      · subst c; rw [fb_put_in (by omega) (by omega), show w * 24 + m - w * 24 = m by omega]
      · rw [fb_put_out (by omega)]; exact h4 w m (by omega) hm
    obtain ⟨oth', tr', vw', eih, hv⟩ := ih (i + 1) F' (oth.1, oth.2.1, oth.2.2.1, upd oth.2.2.2 k (nI i)) C _ (by omega) (by omega) ⟨i, hT⟩ h4'
    refine ⟨oth', tr', vw', ?_, hv⟩
    rw [← eih]
    have e0 : fX7_seenWages_15 (nI k) rm told ev seen (F' + 1) oth tr vw (orB (sq_ww T E Z k r) i) (nI i) = bX7_seenWages_15 (nI k) rm told ev seen (fX7_seenWages_15 (nI k) rm told ev seen F') oth tr vw (orB (sq_ww T E Z k r) i) (nI i) := rfl
    rw [e0]
    unfold bX7_seenWages_15
    simp only [fX7_seenWages_73, pz_nm]
    dsimp only at e
    rw [if_neg (show ¬ (10 : Int32) ≤ nI i from nI_ge (b := 10) hi (by omega)), pz_wr (by omega) (by omega), e, bd12_eq, cq_comes hC hn hZ, bd1_eq, ite01]
    have es : orB (sq_ww T E Z k r) (i + 1) = if sq_co (hI (sT_w T k i) E 255 r) Z = true then orB (sq_ww T E Z k r) i ||| ((1 : Int32) <<< (nI i &&& 31)) else orB (sq_ww T E Z k r) i := rfl
    rw [es]
    by_cases c : sq_co (hI (sT_w T k i) E 255 r) Z = true
    · rw [if_pos c, if_pos c]; exact cm_sw76 hC hn hi
    · rw [if_neg c, if_neg c]; exact cm_sw76 hC hn hi
theorem cm_seenW {T E : sT} {Z : sZ} {k r : Nat} {rm : Int32} {told ev seen oth : jT3} {tr : jT11} {vw : Nat → Int32} (hT : InT3 T told) (hk : k < T.1) (hE : InE3 E ev) (hZ : InZ Z seen) (hrm : rm = nI r) : ∃ oth' tr' vw', fX7_seenWages (nI k) rm told ev seen oth tr vw = some (orB (sq_ww T E Z k r) 10, oth', tr', vw') ∧ VW T E k r 10 vw' := by
  unfold fX7_seenWages
  rw [cm_copy, bd4_eq]
  have h0 : InT3 (sT_w T k (T.2.2.2 k)) (told.1, fa_fill told.2.1 oth.2.1 8, fa_fill told.2.2.1 oth.2.2.1 8, fa_fill told.2.2.2 oth.2.2.2 8) := by rw [sT_w_id]; exact InT_fill hT
  exact cm_sw15 hT.1 hk hE hZ hrm 10 0 jF _ tr vw (by omega) (pz_jF (by omega)) ⟨_, h0⟩ (fun w m hw => absurd hw (Nat.not_lt_zero w))
theorem cm_ss15 {T E : sT} {Z : sZ} {k r : Nat} {rm : Int32} {told ev seen : jT3} (hn : T.1 ≤ 8) (hk : k < T.1) (hE : InE3 E ev) (hZ : InZ Z seen) (hrm : rm = nI r) : ∀ (j i F : Nat) (oth : jT3) (tr : jT11), i + j = 4 → j < F → (∃ v', InT3 (sT_s T k v') oth) → ∃ oth' tr', fX7_seenSorts_15 (nI k) rm told ev seen F oth tr (orB (sq_ws T E Z k r) i) (nI i) = some (orB (sq_ws T E Z k r) 4, oth', tr') := by
  intro j
  induction j with
  | zero =>
    intro i F oth tr h1 h2 h3
    obtain ⟨F', rfl⟩ : ∃ z, F = z + 1 := ⟨F - 1, by omega⟩
    have hi : i = 4 := by omega
    subst hi
    refine ⟨oth, tr, ?_⟩
    unfold fX7_seenSorts_15
    rw [lp_s]
    unfold bX7_seenSorts_15
    rw [if_pos (show (4 : Int32) ≤ nI 4 by decide)]
  | succ j ih =>
    intro i F oth tr h1 h2 h3
    obtain ⟨F', rfl⟩ : ∃ z, F = z + 1 := ⟨F - 1, by omega⟩
    obtain ⟨v', h3⟩ := h3
    have hi : i < 4 := by omega
    have hT : InT3 (sT_s T k i) (oth.1, upd oth.2.1 k (nI i), oth.2.2.1, oth.2.2.2) := InT_s (v := i) (by omega) h3
    obtain ⟨C, hC, e⟩ := cm_runI (T := sT_s T k i) (E := E) (w := 255) (r := r) (sz := tr.1) (st := tr.2.1) (fa := tr.2.2.1) (pa := tr.2.2.2.1) (fls := tr.2.2.2.2.1) (lfs := tr.2.2.2.2.2.1) (flr := tr.2.2.2.2.2.2.1) (fl := tr.2.2.2.2.2.2.2.1) (be := tr.2.2.2.2.2.2.2.2.1) (lf := tr.2.2.2.2.2.2.2.2.2.1) (od := tr.2.2.2.2.2.2.2.2.2.2.1) (tk := tr.2.2.2.2.2.2.2.2.2.2.2) hT hE hrm
    obtain ⟨oth', tr', eih⟩ := ih (i + 1) F' (oth.1, upd oth.2.1 k (nI i), oth.2.2.1, oth.2.2.2) C (by omega) (by omega) ⟨i, hT⟩
    refine ⟨oth', tr', ?_⟩
    rw [← eih]
    have e0 : fX7_seenSorts_15 (nI k) rm told ev seen (F' + 1) oth tr (orB (sq_ws T E Z k r) i) (nI i) = bX7_seenSorts_15 (nI k) rm told ev seen (fX7_seenSorts_15 (nI k) rm told ev seen F') oth tr (orB (sq_ws T E Z k r) i) (nI i) := rfl
    rw [e0]
    unfold bX7_seenSorts_15
    simp only [fX7_seenSorts_72, pz_nm, pz_1]
    dsimp only at e
    rw [if_neg (show ¬ (4 : Int32) ≤ nI i from nI_ge (b := 4) hi (by omega)), pz_wr (by omega) (by omega), e, bd12_eq, cq_comes hC hn hZ, bd1_eq, ite01]
    have es : orB (sq_ws T E Z k r) (i + 1) = if sq_co (hI (sT_s T k i) E 255 r) Z = true then orB (sq_ws T E Z k r) i ||| ((1 : Int32) <<< (nI i &&& 31)) else orB (sq_ws T E Z k r) i := rfl
    rw [es]
    by_cases c : sq_co (hI (sT_s T k i) E 255 r) Z = true
    · rw [if_pos c, if_pos c]
    · rw [if_neg c, if_neg c]
theorem cm_seenS {T E : sT} {Z : sZ} {k r : Nat} {rm : Int32} {told ev seen oth : jT3} {tr : jT11} (hT : InT3 T told) (hk : k < T.1) (hE : InE3 E ev) (hZ : InZ Z seen) (hrm : rm = nI r) : ∃ oth' tr', fX7_seenSorts (nI k) rm told ev seen oth tr = some (orB (sq_ws T E Z k r) 4, oth', tr') := by
  unfold fX7_seenSorts
  rw [cm_copy, bd4_eq]
  have h0 : InT3 (sT_s T k (T.2.1 k)) (told.1, fa_fill told.2.1 oth.2.1 8, fa_fill told.2.2.1 oth.2.2.1 8, fa_fill told.2.2.2 oth.2.2.2 8) := by rw [sT_s_id]; exact InT_fill hT
  exact cm_ss15 hT.1 hk hE hZ hrm 4 0 jF _ tr (by omega) (pz_jF (by omega)) ⟨_, h0⟩
theorem hw255 {E : sT} (hE : E.1 ≤ 8) : ∀ e, e < E.1 → (bt 255 e = true ↔ ¬ bt 0 e = true) := fun e he => by
  rw [b_255, b_0]
  simp
  omega
theorem mm_wo19 {T E : sT} {Z : sZ} {k r : Nat} {tn rm en sg : Int32} {ev si : Nat → Int32} (hk : k < T.1) (hw0 : T.2.2.2 k ≤ 9) (hE : ME E en ev) (hZ : MZ Z sg si) (hrm : rm = nI r) (hr : r ≤ 8) (hn : T.1 ≤ 8) : ∀ (j i F : Nat) (S : jT11) (te : Nat → Int32) (ro : Nat → Int64), i + j = 10 → j < F → (∃ v', MT (sT_w T k v') tn te) → RW T E k r i ro → ∃ S' te' ro', fX8_wagesOf_19 (nI k) tn rm en 0 sg ev si F S te ro (nI (3 * k + 2)) (nI (T.2.2.2 k)) (orB (sq_ww T E Z k r) i) (nI i) = some (orB (sq_ww T E Z k r) 10, S', te', ro') ∧ MT T tn te' ∧ RW T E k r 10 ro' := by
  intro j
  induction j with
  | zero =>
    intro i F S te ro h1 h2 h3 h4
    obtain ⟨F', rfl⟩ : ∃ z, F = z + 1 := ⟨F - 1, by omega⟩
    obtain ⟨v', h3⟩ := h3
    have hi : i = 10 := by omega
    subst hi
    have hT := MT_w (v := T.2.2.2 k) hw0 h3
    rw [sT_w_id] at hT
    refine ⟨S, _, ro, ?_, hT, h4⟩
    unfold fX8_wagesOf_19
    rw [lp_s]
    unfold bX8_wagesOf_19
    rw [if_pos (show (10 : Int32) ≤ nI 10 by decide), pz_wr (by omega) (by omega)]
  | succ j ih =>
    intro i F S te ro h1 h2 h3 h4
    obtain ⟨F', rfl⟩ : ∃ z, F = z + 1 := ⟨F - 1, by omega⟩
    obtain ⟨v', h3⟩ := h3
    have hi : i < 10 := by omega
    have hT := MT_w (v := i) (by omega) h3
    obtain ⟨S1, e1, hS1⟩ := mm_isSeen (S := S) hT hE (hw255 hE.1) hrm hr hZ
    have h4' : RW T E k r (i + 1) (fb_put ro (sq_rw (hI (sT_w T k i) E 255 r)) (24 * i) 24) := fun w m hw hm => by
      by_cases c : w = i
      · subst c; rw [fb_put_in (by omega) (by omega), show 24 * w + m - 24 * w = m by omega]
      · rw [fb_put_out (by omega)]; exact h4 w m (by omega) hm
    obtain ⟨S', te', ro', eih, hv⟩ := ih (i + 1) F' S1 _ _ (by omega) (by omega) ⟨i, hT⟩ h4'
    refine ⟨S', te', ro', ?_, hv⟩
    rw [← eih]
    have e0 : fX8_wagesOf_19 (nI k) tn rm en 0 sg ev si (F' + 1) S te ro (nI (3 * k + 2)) (nI (T.2.2.2 k)) (orB (sq_ww T E Z k r) i) (nI i) = bX8_wagesOf_19 (nI k) tn rm en 0 sg ev si (fX8_wagesOf_19 (nI k) tn rm en 0 sg ev si F') S te ro (nI (3 * k + 2)) (nI (T.2.2.2 k)) (orB (sq_ww T E Z k r) i) (nI i) := rfl
    rw [e0]
    unfold bX8_wagesOf_19
    simp only [fX8_wagesOf_51, pz_nm]
    rw [if_neg (show ¬ (10 : Int32) ≤ nI i from nI_ge (b := 10) hi (by omega)), pz_wr (by omega) (by omega), e1, bd2_eq, ite01]
    have es : orB (sq_ww T E Z k r) (i + 1) = if sq_co (hI (sT_w T k i) E 255 r) Z = true then orB (sq_ww T E Z k r) i ||| ((1 : Int32) <<< (nI i &&& 31)) else orB (sq_ww T E Z k r) i := rfl
    rw [es]
    by_cases c : sq_co (hI (sT_w T k i) E 255 r) Z = true
    · rw [if_pos c, if_pos c]; exact mm_wo57 hS1 hn hT.2.1 hi
    · rw [if_neg c, if_neg c, Int32.or_zero]; exact mm_wo57 hS1 hn hT.2.1 hi
theorem mm_wages {T E : sT} {Z : sZ} {k r : Nat} {tn rm en sg : Int32} {te ev si : Nat → Int32} {S : jT11} {ro : Nat → Int64} (hT : MT T tn te) (hk : k < T.1) (hE : ME E en ev) (hZ : MZ Z sg si) (hrm : rm = nI r) (hr : r ≤ 8) : ∃ S' te' ro', fX8_wagesOf (nI k) tn rm en 0 sg ev si S te ro = some (orB (sq_ww T E Z k r) 10, S', te', ro') ∧ MT T tn te' ∧ RW T E k r 10 ro' := by
  have hn := hT.1
  obtain ⟨g1, g2, g3, g4, g5, g6⟩ := hT.2.2 k hk
  unfold fX8_wagesOf
  rw [mm_32, pz_nm, pz_rd (by omega) (by omega), g3]
  exact mm_wo19 hk g6 hE hZ hrm hr hn 10 0 jF S te ro (by omega) (pz_jF (by omega)) ⟨T.2.2.2 k, by rw [sT_w_id]; exact hT⟩ (fun w m hw => absurd hw (Nat.not_lt_zero w))
theorem mm_so14 {T E : sT} {Z : sZ} {k r : Nat} {tn rm en sg : Int32} {ev si : Nat → Int32} (hk : k < T.1) (hw0 : T.2.1 k ≤ 3) (hE : ME E en ev) (hZ : MZ Z sg si) (hrm : rm = nI r) (hr : r ≤ 8) (hn : T.1 ≤ 8) : ∀ (j i F : Nat) (S : jT11) (te : Nat → Int32), i + j = 4 → j < F → (∃ v', MT (sT_s T k v') tn te) → ∃ S' te', fX8_sortOf_14 (nI k) tn rm en 0 sg ev si F S te (nI (T.2.1 k)) (orB (sq_ws T E Z k r) i) (nI i) = some (orB (sq_ws T E Z k r) 4, S', te') ∧ MT T tn te' := by
  intro j
  induction j with
  | zero =>
    intro i F S te h1 h2 h3
    obtain ⟨F', rfl⟩ : ∃ z, F = z + 1 := ⟨F - 1, by omega⟩
    obtain ⟨v', h3⟩ := h3
    have hi : i = 4 := by omega
    subst hi
    have hT := MT_s (v := T.2.1 k) hw0 h3
    rw [sT_s_id] at hT
    refine ⟨S, _, ?_, hT⟩
    unfold fX8_sortOf_14
    rw [lp_s]
    unfold bX8_sortOf_14
    rw [if_pos (show (4 : Int32) ≤ nI 4 by decide), mm_3, pz_wr (by omega) (by omega)]
  | succ j ih =>
    intro i F S te h1 h2 h3
    obtain ⟨F', rfl⟩ : ∃ z, F = z + 1 := ⟨F - 1, by omega⟩
    obtain ⟨v', h3⟩ := h3
    have hi : i < 4 := by omega
    have hT := MT_s (v := i) (by omega) h3
    obtain ⟨S1, e1, hS1⟩ := mm_isSeen (S := S) hT hE (hw255 hE.1) hrm hr hZ
    obtain ⟨S', te', eih, hv⟩ := ih (i + 1) F' S1 _ (by omega) (by omega) ⟨i, hT⟩
    refine ⟨S', te', ?_, hv⟩
    rw [← eih]
    have e0 : fX8_sortOf_14 (nI k) tn rm en 0 sg ev si (F' + 1) S te (nI (T.2.1 k)) (orB (sq_ws T E Z k r) i) (nI i) = bX8_sortOf_14 (nI k) tn rm en 0 sg ev si (fX8_sortOf_14 (nI k) tn rm en 0 sg ev si F') S te (nI (T.2.1 k)) (orB (sq_ws T E Z k r) i) (nI i) := rfl
    rw [e0]
    unfold bX8_sortOf_14
    simp only [fX8_sortOf_46, pz_nm, pz_1]
    rw [if_neg (show ¬ (4 : Int32) ≤ nI i from nI_ge (b := 4) hi (by omega)), mm_3, pz_wr (by omega) (by omega), e1, bd2_eq, ite01]
    have es : orB (sq_ws T E Z k r) (i + 1) = if sq_co (hI (sT_s T k i) E 255 r) Z = true then orB (sq_ws T E Z k r) i ||| ((1 : Int32) <<< (nI i &&& 31)) else orB (sq_ws T E Z k r) i := rfl
    rw [es]
    by_cases c : sq_co (hI (sT_s T k i) E 255 r) Z = true
    · rw [if_pos c, if_pos c]
    · rw [if_neg c, if_neg c, Int32.or_zero]
theorem mm_sorts {T E : sT} {Z : sZ} {k r : Nat} {tn rm en sg : Int32} {te ev si : Nat → Int32} {S : jT11} (hT : MT T tn te) (hk : k < T.1) (hE : ME E en ev) (hZ : MZ Z sg si) (hrm : rm = nI r) (hr : r ≤ 8) : ∃ S' te', fX8_sortOf (nI k) tn rm en 0 sg ev si S te = some (orB (sq_ws T E Z k r) 4, S', te') ∧ MT T tn te' := by
  have hn := hT.1
  obtain ⟨g1, g2, g3, g4, g5, g6⟩ := hT.2.2 k hk
  unfold fX8_sortOf
  rw [mm_3, pz_rd (by omega) (by omega), g1]
  exact mm_so14 hk g4 hE hZ hrm hr hn 4 0 jF S te (by omega) (pz_jF (by omega)) ⟨T.2.1 k, by rw [sT_s_id]; exact hT⟩
