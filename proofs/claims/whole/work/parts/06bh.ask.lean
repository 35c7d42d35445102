def al_q (T E : sT) (k r m o a : Nat) : Bool := decide (sq_vw (hI (sT_w T k o) E 255 r) m = sq_vw (hI (sT_w T k a) E 255 r) m)
def al_c (P : Nat → Bool) (q : Nat → Nat → Bool) (a i : Nat) : Nat := fb_ct (fun o => P o && q o a) i
def al_g (P : Nat → Bool) (q : Nat → Nat → Bool) : Nat → Nat
  | 0 => 0
  | a + 1 => if P a = true then (if al_g P q a < al_c P q a 10 then al_c P q a 10 else al_g P q a) else al_g P q a
theorem al_c_le (P : Nat → Bool) (q : Nat → Nat → Bool) (a i : Nat) : al_c P q a i ≤ i := fb_ct_le _ _
theorem al_g_le (P : Nat → Bool) (q : Nat → Nat → Bool) : ∀ a, al_g P q a ≤ 10
  | 0 => by show 0 ≤ 10; omega
  | a + 1 => by
    have ih := al_g_le P q a
    have := al_c_le P q a 10
    unfold al_g
    split
    · split <;> omega
    · omega
theorem cm_al18 {T E : sT} {k r m a g : Nat} {W : Int32} {P : Nat → Bool} {vw : Nat → Int32} {qq : Int32 → Int32 → Option Int32} (hW : ∀ o, o < 10 → bt W o = P o) (hV : VW T E k r 10 vw) (hm : m < 24) (ha : a < 10) (hg : g ≤ 10) : fX7_greatestAlike_18 W (nI m) vw qq jF (nI g) (nI a) 0 0 = qq (nI (if P a = true then (if g < al_c P (al_q T E k r m) a 10 then al_c P (al_q T E k r m) a 10 else g) else g)) (nI (a + 1)) := by
  refine pz_up (fun F i => fX7_greatestAlike_18 W (nI m) vw qq F (nI g) (nI a) (nI (al_c P (al_q T E k r m) a i)) (nI i)) 10 _ (fun F i hi => ?_) (fun F => ?_) 10 0 jF (by omega) (pz_jF (by omega))
  · show bX7_greatestAlike_18 W (nI m) vw qq (fX7_greatestAlike_18 W (nI m) vw qq F) _ _ _ _ = fX7_greatestAlike_18 W (nI m) vw qq F _ _ (nI (al_c P (al_q T E k r m) a i + if (P i && al_q T E k r m i a) = true then 1 else 0)) _
    unfold bX7_greatestAlike_18
    simp only [fX7_greatestAlike_64, pz_nm, pz_1]
    rw [if_neg (show ¬ (10 : Int32) ≤ nI i from nI_ge (b := 10) hi (by omega)), show (W >>> (nI i &&& (31 : Int32))) &&& (1 : Int32) = if bt W i = true then 1 else 0 from bt_get W i (by omega), ite01, hW i hi]
    by_cases c : P i = true
    · rw [if_pos c, show nI i * (24 : Int32) = nI (i * 24) from pk_mul i 24, nI_add, pz_rd (by omega) (by omega), show nI a * (24 : Int32) = nI (a * 24) from pk_mul a 24, nI_add, pz_rd (by omega) (by omega), hV i m hi hm, hV a m ha hm]
      by_cases d : sq_vw (hI (sT_w T k i) E 255 r) m = sq_vw (hI (sT_w T k a) E 255 r) m
      · rw [if_pos d, if_pos (by unfold al_q; simp [c, d])]
      · rw [if_neg d, if_neg (by unfold al_q; simp [d])]; rfl
    · rw [if_neg c, if_neg (by simp [c])]; rfl
  · unfold fX7_greatestAlike_18
    rw [lp_s]
    unfold bX7_greatestAlike_18
    simp only [fX7_greatestAlike_86, pz_nm, pz_1]
    have hc := al_c_le P (al_q T E k r m) a 10
    rw [if_pos (show (10 : Int32) ≤ nI 10 by decide), show (W >>> (nI a &&& (31 : Int32))) &&& (1 : Int32) = if bt W a = true then 1 else 0 from bt_get W a (by omega), ite01, hW a ha]
    by_cases c : P a = true
    · rw [if_pos c, if_pos c]
      by_cases d : g < al_c P (al_q T E k r m) a 10
      · rw [if_pos d, if_pos (nI_lt d (by omega))]
      · rw [if_neg d, if_neg (nI_nlt (by omega) (by omega))]
    · rw [if_neg c, if_neg c]
theorem cm_al {T E : sT} {k r m : Nat} {W : Int32} {P : Nat → Bool} {vw : Nat → Int32} (hW : ∀ o, o < 10 → bt W o = P o) (hV : VW T E k r 10 vw) (hm : m < 24) : fX7_greatestAlike W (nI m) vw = some (nI (al_g P (al_q T E k r m) 10)) := by
  unfold fX7_greatestAlike
  refine pz_up (fun F i => fX7_greatestAlike_5 W (nI m) vw F (nI (al_g P (al_q T E k r m) i)) (nI i)) 10 _ (fun F i hi => ?_) (fun F => ?_) 10 0 jF (by omega) (pz_jF (by omega))
  · show bX7_greatestAlike_5 W (nI m) vw (fX7_greatestAlike_5 W (nI m) vw F) _ _ = _
    unfold bX7_greatestAlike_5
    rw [if_neg (show ¬ (10 : Int32) ≤ nI i from nI_ge (b := 10) hi (by omega)), cm_al18 hW hV hm hi (al_g_le _ _ _)]
    rfl
  · unfold fX7_greatestAlike_5
    rw [lp_s]
    unfold bX7_greatestAlike_5
    rw [if_pos (show (10 : Int32) ≤ nI 10 by decide)]
theorem mm_al18 {T E : sT} {k r m a g : Nat} {W : Int32} {P : Nat → Bool} {ro : Nat → Int64} {qq : Int32 → Int32 → Option Int32} (hn : T.1 ≤ 8) (hW : ∀ o, o < 10 → bt W o = P o) (hV : RW T E k r 10 ro) (hm : m < 24) (ha : a < 10) (hg : g ≤ 10) : fX8_alike_18 W (nI m) ro qq jF (nI g) (nI a) 0 0 = qq (nI (if P a = true then (if g < al_c P (al_q T E k r m) a 10 then al_c P (al_q T E k r m) a 10 else g) else g)) (nI (a + 1)) := by
  have s0 : fX8_alike_18 W (nI m) ro qq jF (nI g) (nI a) 0 0 = fX8_alike_18 W (nI m) ro qq jF (nI g) (nI a) (nI (if P a = true then al_c P (al_q T E k r m) a 0 else 0)) (nI 0) := by
    rw [show (if P a = true then al_c P (al_q T E k r m) a 0 else 0) = 0 by split <;> rfl]; rfl
  rw [s0]
  refine pz_up (fun F i => fX8_alike_18 W (nI m) ro qq F (nI g) (nI a) (nI (if P a = true then al_c P (al_q T E k r m) a i else 0)) (nI i)) 10 _ (fun F i hi => ?_) (fun F => ?_) 10 0 jF (by omega) (pz_jF (by omega))
  · show bX8_alike_18 W (nI m) ro qq (fX8_alike_18 W (nI m) ro qq F) _ _ _ _ = fX8_alike_18 W (nI m) ro qq F _ _ (nI (if P a = true then al_c P (al_q T E k r m) a i + (if (P i && al_q T E k r m i a) = true then 1 else 0) else 0)) _
    unfold bX8_alike_18
    simp only [fX8_alike_77, fX8_alike_78, pz_nm, pz_1]
    rw [if_neg (show ¬ (10 : Int32) ≤ nI i from nI_ge (b := 10) hi (by omega)), mm_isIn W a (by omega), bd1_eq, ite01, hW a ha, mm_isIn W i (by omega), bd1_eq, ite01, hW i hi, Int32.add_zero]
    by_cases b : P a = true
    · rw [if_pos b, if_pos b, if_pos b]
      by_cases c : P i = true
      · rw [if_pos c, show (24 : Int32) * nI a = nI (24 * a) from pk_mul 24 a, nI_add, pz_rd (by omega) (by omega), show (24 : Int32) * nI i = nI (24 * i) from pk_mul 24 i, nI_add, pz_rd (by omega) (by omega), hV i m hi hm, hV a m ha hm]
        have hv : (sq_vw (hI (sT_w T k i) E 255 r) m = sq_vw (hI (sT_w T k a) E 255 r) m) ↔ (sq_rw (hI (sT_w T k i) E 255 r) m = sq_rw (hI (sT_w T k a) E 255 r) m) := vr_iff hn rfl hm
        by_cases d : sq_vw (hI (sT_w T k i) E 255 r) m = sq_vw (hI (sT_w T k a) E 255 r) m
        · rw [if_pos ((lg_cmp_eq _ _).mpr (hv.mp d).symm), if_pos (by unfold al_q; simp [c, d])]
        · rw [if_neg (fun q => d (hv.mpr ((lg_cmp_eq _ _).mp q).symm)), if_neg (by unfold al_q; simp [d])]; rfl
      · rw [if_neg c, if_neg (by simp [c])]; rfl
    · rw [if_neg b, if_neg b, if_neg b]
  · unfold fX8_alike_18
    rw [lp_s]
    unfold bX8_alike_18
    have hc := al_c_le P (al_q T E k r m) a 10
    rw [if_pos (show (10 : Int32) ≤ nI 10 by decide), mm_greater, bd1_eq, pz_nm, pz_1]
    by_cases c : P a = true
    · rw [if_pos c, if_pos c]
      by_cases d : g < al_c P (al_q T E k r m) a 10
      · rw [if_pos d, if_neg (nI_ge d (by omega))]
      · rw [if_neg d, if_pos (nI_le (by omega) (by omega))]
    · rw [if_neg c, if_neg c, if_pos (nI_le (by omega) (by omega))]
theorem mm_al {T E : sT} {k r m : Nat} {W : Int32} {P : Nat → Bool} {ro : Nat → Int64} (hn : T.1 ≤ 8) (hW : ∀ o, o < 10 → bt W o = P o) (hV : RW T E k r 10 ro) (hm : m < 24) : fX8_alike W (nI m) ro = some (nI (al_g P (al_q T E k r m) 10)) := by
  unfold fX8_alike
  refine pz_up (fun F i => fX8_alike_5 W (nI m) ro F (nI (al_g P (al_q T E k r m) i)) (nI i)) 10 _ (fun F i hi => ?_) (fun F => ?_) 10 0 jF (by omega) (pz_jF (by omega))
  · show bX8_alike_5 W (nI m) ro (fX8_alike_5 W (nI m) ro F) _ _ = _
    unfold bX8_alike_5
    rw [if_neg (show ¬ (10 : Int32) ≤ nI i from nI_ge (b := 10) hi (by omega)), mm_al18 hn hW hV hm hi (al_g_le _ _ _)]
    rfl
  · unfold fX8_alike_5
    rw [lp_s]
    unfold bX8_alike_5
    rw [if_pos (show (10 : Int32) ≤ nI 10 by decide)]
def al_ab (g : Nat → Nat) : Nat → Nat
  | 0 => 0
  | m + 1 => if g (m + 1) < g (al_ab g m) then m + 1 else al_ab g m
theorem al_ab_le (g : Nat → Nat) : ∀ m, al_ab g m ≤ m
  | 0 => Nat.le_refl 0
  | m + 1 => by
    have := al_ab_le g m
    unfold al_ab
    split <;> omega
theorem orB_P {P : Nat → Bool} {n : Nat} (hn : n ≤ 32) : ∀ o, o < n → bt (orB P n) o = P o := fun o ho => by
  rw [orB_bt P n hn o (by omega), show decide (o < n) = true from decide_eq_true ho, Bool.true_and]
theorem cm_ask26 {T E : sT} {k r : Nat} {i1 rm W : Int32} {P : Nat → Bool} {told ev seen oth : jT3} {tr : jT11} {vw : Nat → Int32} (hW : ∀ o, o < 10 → bt W o = P o) (hV : VW T E k r 10 vw) : fX7_ask_26 i1 rm told ev seen jF oth tr vw W 0 11 0 = some (nI (al_ab (fun m => al_g P (al_q T E k r m) 10) 23), oth, tr, vw) := by
  have hG : ∀ m, al_g P (al_q T E k r m) 10 ≤ 10 := fun m => al_g_le _ _ _
  have e0 : fX7_ask_26 i1 rm told ev seen jF oth tr vw W 0 11 0 = bX7_ask_26 i1 rm told ev seen (fX7_ask_26 i1 rm told ev seen 999) oth tr vw W 0 11 0 := rfl
  rw [e0]
  unfold bX7_ask_26
  simp only [fX7_ask_56, pz_nm]
  have q0 : fX7_greatestAlike W (0 : Int32) vw = some (nI (al_g P (al_q T E k r 0) 10)) := cm_al (m := 0) hW hV (by omega)
  rw [if_neg (show ¬ (24 : Int32) ≤ 0 by decide), q0, bd1_eq, if_neg (show ¬ (11 : Int32) ≤ nI (al_g P (al_q T E k r 0) 10) from nI_ge (b := 11) (by have := hG 0; omega) (by omega))]
  refine pz_up (fun F i => fX7_ask_26 i1 rm told ev seen F oth tr vw W (nI (al_ab (fun m => al_g P (al_q T E k r m) 10) i)) (nI (al_g P (al_q T E k r (al_ab (fun m => al_g P (al_q T E k r m) 10) i)) 10)) (nI (i + 1))) 23 _ (fun F i hi => ?_) (fun F => ?_) 23 0 999 (by omega) (by omega)
  · show bX7_ask_26 i1 rm told ev seen (fX7_ask_26 i1 rm told ev seen F) _ _ _ _ _ _ _ = _
    unfold bX7_ask_26
    simp only [fX7_ask_56, pz_nm, pz_1]
    have h1 := hG (i + 1)
    have h2 := hG (al_ab (fun m => al_g P (al_q T E k r m) 10) i)
    rw [if_neg (show ¬ (24 : Int32) ≤ nI (i + 1) from nI_ge (b := 24) (by omega) (by omega)), cm_al hW hV (by omega), bd1_eq]
    have es : al_ab (fun m => al_g P (al_q T E k r m) 10) (i + 1) = if al_g P (al_q T E k r (i + 1)) 10 < al_g P (al_q T E k r (al_ab (fun m => al_g P (al_q T E k r m) 10) i)) 10 then i + 1 else al_ab (fun m => al_g P (al_q T E k r m) 10) i := rfl
    rw [es]
    by_cases c : al_g P (al_q T E k r (i + 1)) 10 < al_g P (al_q T E k r (al_ab (fun m => al_g P (al_q T E k r m) 10) i)) 10
    · rw [if_pos c, if_neg (nI_ge c (by omega))]
    · rw [if_neg c, if_pos (nI_le (by omega) (by omega))]
  · unfold fX7_ask_26
    rw [lp_s]
    unfold bX7_ask_26
    rw [if_pos (show (24 : Int32) ≤ nI (23 + 1) by decide)]
theorem mm_ask11 {T E : sT} {k r : Nat} {i1 tn rm en gone sg W : Int32} {P : Nat → Bool} {te ev si : Nat → Int32} {S : jT11} {ro : Nat → Int64} (hn : T.1 ≤ 8) (hW : ∀ o, o < 10 → bt W o = P o) (hV : RW T E k r 10 ro) : fX8_askOf_11 i1 tn rm en gone sg ev si jF S te ro W 0 1 = some (nI (al_ab (fun m => al_g P (al_q T E k r m) 10) 23), S, te, ro) := by
  have hG : ∀ m, al_g P (al_q T E k r m) 10 ≤ 10 := fun m => al_g_le _ _ _
  refine pz_up (fun F i => fX8_askOf_11 i1 tn rm en gone sg ev si F S te ro W (nI (al_ab (fun m => al_g P (al_q T E k r m) 10) i)) (nI (i + 1))) 23 _ (fun F i hi => ?_) (fun F => ?_) 23 0 jF (by omega) (pz_jF (by omega))
  · show bX8_askOf_11 i1 tn rm en gone sg ev si (fX8_askOf_11 i1 tn rm en gone sg ev si F) _ _ _ _ _ _ = _
    unfold bX8_askOf_11
    simp only [fX8_askOf_40, pz_nm, pz_1]
    have h1 := hG (i + 1)
    have h2 := hG (al_ab (fun m => al_g P (al_q T E k r m) 10) i)
    have h3 := al_ab_le (fun m => al_g P (al_q T E k r m) 10) i
    rw [if_neg (show ¬ (24 : Int32) ≤ nI (i + 1) from nI_ge (b := 24) (by omega) (by omega)), mm_al hn hW hV (by omega), bd1_eq, mm_al hn hW hV (by omega), bd1_eq]
    have es : al_ab (fun m => al_g P (al_q T E k r m) 10) (i + 1) = if al_g P (al_q T E k r (i + 1)) 10 < al_g P (al_q T E k r (al_ab (fun m => al_g P (al_q T E k r m) 10) i)) 10 then i + 1 else al_ab (fun m => al_g P (al_q T E k r m) 10) i := rfl
    rw [es]
    by_cases c : al_g P (al_q T E k r (i + 1)) 10 < al_g P (al_q T E k r (al_ab (fun m => al_g P (al_q T E k r m) 10) i)) 10
    · rw [if_pos c, if_neg (nI_ge c (by omega))]
    · rw [if_neg c, if_pos (nI_le (by omega) (by omega))]
  · unfold fX8_askOf_11
    rw [lp_s]
    unfold bX8_askOf_11
    rw [if_pos (show (24 : Int32) ≤ nI (23 + 1) by decide)]
def sq_ask (T E : sT) (Z : sZ) (k r : Nat) : Int32 := nI (al_ab (fun m => al_g (sq_ww T E Z k r) (al_q T E k r m) 10) 23)
theorem mm_ask {T E : sT} {Z : sZ} {k r : Nat} {tn rm en sg : Int32} {te ev si : Nat → Int32} {S : jT11} {ro : Nat → Int64} (hT : MT T tn te) (hk : k < T.1) (hE : ME E en ev) (hZ : MZ Z sg si) (hrm : rm = nI r) (hr : r ≤ 8) : ∃ S' te' ro', fX8_askOf (nI k) tn rm en 0 sg ev si S te ro = some (sq_ask T E Z k r, S', te', ro') ∧ MT T tn te' := by
  obtain ⟨S', te', ro', e, h1, h2⟩ := mm_wages (S := S) (ro := ro) hT hk hE hZ hrm hr
  refine ⟨S', te', ro', ?_, h1⟩
  unfold fX8_askOf
  rw [e, bd4_eq]
  exact mm_ask11 hT.1 (orB_P (by omega)) h2
