def hc (f : Nat → Int32) (h0 : Int64) : Nat → Int64
  | 0 => h0
  | i + 1 => (31 : Int64) * hc f h0 i + (f i).toInt64
def hdV (I : sI) : Int32 := orB (fun i => decide (0 < i ∧ i ≤ 12) && he (sq_hl I 24) i) 13
theorem hdV_is (I : sI) : IsHd I (hdV I) := fun i hi => by
  unfold hdV
  rw [orB_bt _ 13 (by omega) i hi]
  by_cases c : i < 13
  · rw [show decide (i < 13) = true from decide_eq_true c, Bool.true_and]
  · rw [show decide (i < 13) = false from decide_eq_false c, show decide (0 < i ∧ i ≤ 12) = false from decide_eq_false (by omega), Bool.false_and, Bool.false_and]
theorem c7_heardV {T E : sT} {r : Nat} {rm ck : Int32} {told ev : jT3} {C : jT11} (hT : InT3 T told) (hE : InE3 E ev) (hrm : rm = nI r) (h : KC T E r ck C) : ∃ ck' C', fX7_heard rm told ev ck C = some (hdV (hI T E 255 r), ck', C') ∧ KC T E r ck' C' := by
  obtain ⟨v, ck', C', e, hk, hv⟩ := c7_heard hT hE hrm h
  rw [IsHd_eq hv (hdV_is _)] at e
  exact ⟨ck', C', e, hk⟩
theorem mq_heard {I : sI} {S : jT11} {tn : Int32} (hS : mOk I S) (hn : I.1.1 ≤ 8) (ht : tn = nI I.1.1) : fX8_heardNow tn S.2.2.2.2.2.2.2.2.2.1 = some (hdV I) := by
  obtain ⟨v, e, hv⟩ := mm_heard hn (mOk_F hS)
  rw [ht, e, IsHd_eq hv (hdV_is I)]
theorem vAt_ok {I : sI} {a t w : Nat} (hn : I.1.1 ≤ 8) (ha : a < 24) (ht : t < I.1.1) (hw : w ≤ 3) : vAt I (nI a) (nI t) (nI w) = sq_at I a t (nI w) := by
  unfold vAt
  rw [if_pos (show 0 ≤ nI a ∧ nI a ≤ 23 from ⟨nI_pos' (by omega), nI_le (b := 23) (by omega) (by omega)⟩), if_pos (show 0 ≤ nI t ∧ nI t < nI I.1.1 from ⟨nI_pos' (by omega), nI_lt ht (by omega)⟩), if_pos (show 0 ≤ nI w ∧ nI w ≤ 3 from ⟨nI_pos' (by omega), nI_le (b := 3) hw (by omega)⟩), nI_clamp (by omega), nI_clamp (by omega)]
theorem vEn_ok {I : sI} {t w : Nat} (hn : I.1.1 ≤ 8) (ht : t < I.1.1) (hw : w ≤ 3) : vEn I (nI t) (nI w) = sq_en I t (nI w) := by
  unfold vEn
  rw [if_pos (show 0 ≤ nI t ∧ nI t < nI I.1.1 from ⟨nI_pos' (by omega), nI_lt ht (by omega)⟩), if_pos (show 0 ≤ nI w ∧ nI w ≤ 3 from ⟨nI_pos' (by omega), nI_le (b := 3) hw (by omega)⟩), nI_clamp (by omega)]
theorem vSu_ok {I : sI} {w : Nat} (hw : w ≤ 3) : vSu I (nI w) = sq_su I (nI w) := by
  unfold vSu
  rw [if_pos (show 0 ≤ nI w ∧ nI w ≤ 3 from ⟨nI_pos' (by omega), nI_le (b := 3) hw (by omega)⟩)]
theorem vLf_ok {I : sI} {a : Nat} (ha : a < 24) : vLf I (nI a) = sq_lift I a := by
  unfold vLf
  rw [if_pos (show 0 ≤ nI a ∧ nI a ≤ 23 from ⟨nI_pos' (by omega), nI_le (b := 23) (by omega) (by omega)⟩), nI_clamp (by omega)]
theorem vLv_ok {I : sI} {a f : Nat} (ha : a < 24) (hf : f ≤ 12) : vLv I (nI a) (nI f) = orB (fun t => decide (sq_fl I a t = nI f)) I.1.1 := by
  unfold vLv
  rw [if_pos (show 0 ≤ nI a ∧ nI a ≤ 23 from ⟨nI_pos' (by omega), nI_le (b := 23) (by omega) (by omega)⟩), if_pos (show 0 ≤ nI f ∧ nI f ≤ 12 from ⟨nI_pos' (by omega), nI_le (b := 12) hf (by omega)⟩), nI_clamp (by omega)]
def tnV (T : sT) (t : Nat) (w : Int32) : Int32 := if w = 0 then nI (T.2.1 t) else if w = 1 then nI (T.2.2.1 t) else nI (T.2.2.2 t)
theorem vTn_ok {T : sT} {t w : Nat} (hn : T.1 ≤ 8) (ht : t < T.1) (hw : w ≤ 2) : vTn T (nI t) (nI w) = tnV T t (nI w) := by
  unfold vTn tnV
  rw [if_pos (show 0 ≤ nI t ∧ nI t < nI T.1 from ⟨nI_pos' (by omega), nI_lt ht (by omega)⟩), if_pos (show 0 ≤ nI w ∧ nI w ≤ 2 from ⟨nI_pos' (by omega), nI_le (b := 2) hw (by omega)⟩), nI_clamp (by omega)]
theorem cd_best {ab : Int32 → Int32} {bs : jB3} {h : Int64} (hb : ∀ w, fX0_part w bs.1 bs.2.1 bs.2.2 = some (ab w)) : fX7_digestBest h bs = some (hc (fun w => ab (nI w)) h 3) := by
  unfold fX7_digestBest
  refine pz_up (fun F i => fX7_digestBest_5 h bs F (hc (fun w => ab (nI w)) h i) (nI i)) 3 _ (fun F i hi => ?_) (fun F => ?_) 3 0 jF (by omega) (pz_jF (by omega))
  · show bX7_digestBest_5 h bs (fX7_digestBest_5 h bs F) _ _ = _
    unfold bX7_digestBest_5
    rw [if_neg (show ¬ (2 : Int32) < nI i from nI_nlt (a := 2) (by omega) (by omega)), hb, bd1_eq, pz_nm, pz_nm, pz_1]
    rfl
  · unfold fX7_digestBest_5
    rw [lp_s]
    unfold bX7_digestBest_5
    rw [if_pos (show (2 : Int32) < nI 3 by decide)]
theorem cd_month {T E : sT} {r a t : Nat} {rm ck : Int32} {told ev : jT3} {C : jT11} {h l : Int64} {i7 i8 : Int32} (hT : InT3 T told) (hE : InE3 E ev) (hrm : rm = nI r) (ha : a < 24) (ht : t < T.1) (q : Int32 → jT11 → Int64 → Int32 → Int32 → Option (Int64 × Int32 × jT11)) (hk : KC T E r ck C) : ∃ ck' C', fX7_digestMonths_65 l (nI t) rm told ev q jF ck C h i7 i8 (nI a) 0 = q ck' C' (hc (fun w => sq_at (hI T E 255 r) a t (nI w)) h 4) i7 (i8 + 1) ∧ KC T E r ck' C' := by
  have hn : T.1 ≤ 8 := hT.1
  have key : ∀ (j i F : Nat) (ck : Int32) (C : jT11), i + j = 4 → j < F → KC T E r ck C → ∃ ck' C', fX7_digestMonths_65 l (nI t) rm told ev q F ck C (hc (fun w => sq_at (hI T E 255 r) a t (nI w)) h i) i7 i8 (nI a) (nI i) = q ck' C' (hc (fun w => sq_at (hI T E 255 r) a t (nI w)) h 4) i7 (i8 + 1) ∧ KC T E r ck' C' := by
    intro j
    induction j with
    | zero =>
      intro i F ck C h1 h2 h3
      obtain ⟨F', rfl⟩ : ∃ z, F = z + 1 := ⟨F - 1, by omega⟩
      have hi : i = 4 := by omega
      subst hi
      refine ⟨ck, C, ?_, h3⟩
      unfold fX7_digestMonths_65
      rw [lp_s]
      unfold bX7_digestMonths_65
      rw [if_pos (show (3 : Int32) < nI 4 by decide), pz_nm]
    | succ j ih =>
      intro i F ck C h1 h2 h3
      obtain ⟨F', rfl⟩ : ∃ z, F = z + 1 := ⟨F - 1, by omega⟩
      have e0 : fX7_digestMonths_65 l (nI t) rm told ev q (F' + 1) ck C (hc (fun w => sq_at (hI T E 255 r) a t (nI w)) h i) i7 i8 (nI a) (nI i) = bX7_digestMonths_65 l (nI t) rm told ev q (fX7_digestMonths_65 l (nI t) rm told ev q F') ck C (hc (fun w => sq_at (hI T E 255 r) a t (nI w)) h i) i7 i8 (nI a) (nI i) := rfl
      rw [e0]
      unfold bX7_digestMonths_65
      obtain ⟨ck1, C1, e1, hk1⟩ := c7_at hT hE hrm h3 (nI a) (nI t) (nI i)
      rw [if_neg (show ¬ (3 : Int32) < nI i from nI_nlt (a := 3) (by omega) (by omega)), e1, bd3_eq, vAt_ok (I := hI T E 255 r) hn ha ht (by omega), pz_nm, pz_nm, pz_1]
      exact ih (i + 1) F' ck1 C1 (by omega) (by omega) hk1
  exact key 4 0 jF ck C (by omega) (pz_jF (by omega)) hk
theorem cd_row {T E : sT} {r t : Nat} {rm ck : Int32} {told ev : jT3} {C : jT11} {h l : Int64} (F i a : Nat) (hT : InT3 T told) (hE : InE3 E ev) (hrm : rm = nI r) (hi : i < 4) (hm : dmF i = nI a) (ha : a < 24) (ht : t < T.1) (hk : KC T E r ck C) : ∃ ck' C', fX7_digestMonths_48 l (nI t) rm told ev (F + 1) ck C h (nI 4) (nI i) = fX7_digestMonths_48 l (nI t) rm told ev F ck' C' (hc (fun w => sq_at (hI T E 255 r) a t (nI w)) h 4) (nI 4) (nI (i + 1)) ∧ KC T E r ck' C' := by
  obtain ⟨ck1, C1, e1, k1⟩ := cd_month (h := h) (l := l) (i7 := nI 4) (i8 := nI i) hT hE hrm ha ht (fX7_digestMonths_48 l (nI t) rm told ev F) hk
  refine ⟨ck1, C1, ?_, k1⟩
  have e0 : fX7_digestMonths_48 l (nI t) rm told ev (F + 1) ck C h (nI 4) (nI i) = bX7_digestMonths_48 l (nI t) rm told ev (fX7_digestMonths_48 l (nI t) rm told ev F) ck C h (nI 4) (nI i) := rfl
  rw [e0]
  unfold bX7_digestMonths_48
  rw [if_neg (show ¬ nI 4 ≤ nI i from nI_ge (b := 4) hi (by omega)), pz_rd hi (by omega), hm, e1, pz_1]
theorem cd_ends {T E : sT} {r t : Nat} {rm ck : Int32} {told ev : jT3} {C : jT11} {h l : Int64} (hT : InT3 T told) (hE : InE3 E ev) (hrm : rm = nI r) (ht : t < T.1) (hk : KC T E r ck C) : ∃ ck' C', fX7_digestMonths_105 l (nI t) rm told ev jF ck C h 0 = some (hc (fun w => sq_en (hI T E 255 r) t (nI w)) h 4, ck', C') ∧ KC T E r ck' C' := by
  have hn : T.1 ≤ 8 := hT.1
  have key : ∀ (j i F : Nat) (ck : Int32) (C : jT11), i + j = 4 → j < F → KC T E r ck C → ∃ ck' C', fX7_digestMonths_105 l (nI t) rm told ev F ck C (hc (fun w => sq_en (hI T E 255 r) t (nI w)) h i) (nI i) = some (hc (fun w => sq_en (hI T E 255 r) t (nI w)) h 4, ck', C') ∧ KC T E r ck' C' := by
    intro j
    induction j with
    | zero =>
      intro i F ck C h1 h2 h3
      obtain ⟨F', rfl⟩ : ∃ z, F = z + 1 := ⟨F - 1, by omega⟩
      have hi : i = 4 := by omega
      subst hi
      refine ⟨ck, C, ?_, h3⟩
      unfold fX7_digestMonths_105
      rw [lp_s]
      unfold bX7_digestMonths_105
      rw [if_pos (show (3 : Int32) < nI 4 by decide)]
    | succ j ih =>
      intro i F ck C h1 h2 h3
      obtain ⟨F', rfl⟩ : ∃ z, F = z + 1 := ⟨F - 1, by omega⟩
      have e0 : fX7_digestMonths_105 l (nI t) rm told ev (F' + 1) ck C (hc (fun w => sq_en (hI T E 255 r) t (nI w)) h i) (nI i) = bX7_digestMonths_105 l (nI t) rm told ev (fX7_digestMonths_105 l (nI t) rm told ev F') ck C (hc (fun w => sq_en (hI T E 255 r) t (nI w)) h i) (nI i) := rfl
      rw [e0]
      unfold bX7_digestMonths_105
      obtain ⟨ck1, C1, e1, hk1⟩ := c7_ends hT hE hrm h3 (nI t) (nI i)
      rw [if_neg (show ¬ (3 : Int32) < nI i from nI_nlt (a := 3) (by omega) (by omega)), e1, bd3_eq, vEn_ok (I := hI T E 255 r) hn ht (by omega), pz_nm, pz_nm, pz_1]
      exact ih (i + 1) F' ck1 C1 (by omega) (by omega) hk1
  exact key 4 0 jF ck C (by omega) (pz_jF (by omega)) hk
def dM (T E : sT) (r t : Nat) (h : Int64) : Int64 := hc (fun w => sq_en (hI T E 255 r) t (nI w)) (hc (fun w => sq_at (hI T E 255 r) 23 t (nI w)) (hc (fun w => sq_at (hI T E 255 r) 13 t (nI w)) (hc (fun w => sq_at (hI T E 255 r) 6 t (nI w)) (hc (fun w => sq_at (hI T E 255 r) 0 t (nI w)) (hc (fun w => tnV T t (nI w)) h 3) 4) 4) 4) 4) 4
theorem cd_months {T E : sT} {r t : Nat} {rm ck : Int32} {told ev : jT3} {C : jT11} {h : Int64} (hT : InT3 T told) (hE : InE3 E ev) (hrm : rm = nI r) (ht : t < T.1) (hk : KC T E r ck C) : ∃ ck' C', fX7_digestMonths h (nI t) rm told ev ck C = some (dM T E r t h, ck', C') ∧ KC T E r ck' C' := by
  have hn : T.1 ≤ 8 := hT.1
  obtain ⟨ck1, C1, e1, k1⟩ := cd_row (h := hc (fun w => tnV T t (nI w)) h 3) (l := h) 999 0 0 hT hE hrm (by omega) rfl (by omega) ht hk
  obtain ⟨ck2, C2, e2, k2⟩ := cd_row (h := hc (fun w => sq_at (hI T E 255 r) 0 t (nI w)) (hc (fun w => tnV T t (nI w)) h 3) 4) (l := h) 998 1 6 hT hE hrm (by omega) rfl (by omega) ht k1
  obtain ⟨ck3, C3, e3, k3⟩ := cd_row (h := hc (fun w => sq_at (hI T E 255 r) 6 t (nI w)) (hc (fun w => sq_at (hI T E 255 r) 0 t (nI w)) (hc (fun w => tnV T t (nI w)) h 3) 4) 4) (l := h) 997 2 13 hT hE hrm (by omega) rfl (by omega) ht k2
  obtain ⟨ck4, C4, e4, k4⟩ := cd_row (h := hc (fun w => sq_at (hI T E 255 r) 13 t (nI w)) (hc (fun w => sq_at (hI T E 255 r) 6 t (nI w)) (hc (fun w => sq_at (hI T E 255 r) 0 t (nI w)) (hc (fun w => tnV T t (nI w)) h 3) 4) 4) 4) (l := h) 996 3 23 hT hE hrm (by omega) rfl (by omega) ht k3
  obtain ⟨ck5, C5, e5, k5⟩ := cd_ends (l := h) (h := hc (fun w => sq_at (hI T E 255 r) 23 t (nI w)) (hc (fun w => sq_at (hI T E 255 r) 13 t (nI w)) (hc (fun w => sq_at (hI T E 255 r) 6 t (nI w)) (hc (fun w => sq_at (hI T E 255 r) 0 t (nI w)) (hc (fun w => tnV T t (nI w)) h 3) 4) 4) 4) 4) hT hE hrm ht k4
  refine ⟨ck5, C5, ?_, k5⟩
  have e6 : fX7_digestMonths_48 h (nI t) rm told ev (995 + 1) ck4 C4 (hc (fun w => sq_at (hI T E 255 r) 23 t (nI w)) (hc (fun w => sq_at (hI T E 255 r) 13 t (nI w)) (hc (fun w => sq_at (hI T E 255 r) 6 t (nI w)) (hc (fun w => sq_at (hI T E 255 r) 0 t (nI w)) (hc (fun w => tnV T t (nI w)) h 3) 4) 4) 4) 4) (nI 4) (nI (3 + 1)) = some (dM T E r t h, ck5, C5) := by
    unfold fX7_digestMonths_48
    rw [lp_s]
    unfold bX7_digestMonths_48
    rw [if_pos (show nI 4 ≤ nI (3 + 1) by decide), e5]
    rfl
  have e7 : fX7_digestMonths_48 h (nI t) rm told ev jF ck C (hc (fun w => tnV T t (nI w)) h 3) (nI 4) 0 = some (dM T E r t h, ck5, C5) := (e1.trans (e2.trans (e3.trans e4))).trans e6
  unfold fX7_digestMonths
  refine pz_up (fun F i => fX7_digestMonths_6 h (nI t) rm told ev F ck C (hc (fun w => tnV T t (nI w)) h i) (nI i)) 3 _ (fun F i hi => ?_) (fun F => ?_) 3 0 jF (by omega) (pz_jF (by omega))
  · show bX7_digestMonths_6 h (nI t) rm told ev (fX7_digestMonths_6 h (nI t) rm told ev F) _ _ _ _ = _
    unfold bX7_digestMonths_6
    rw [if_neg (show ¬ (2 : Int32) < nI i from nI_nlt (a := 2) (by omega) (by omega)), c7_tenant hT, bd1_eq, vTn_ok hn ht (by omega), pz_nm, pz_nm, pz_1]
    rfl
  · unfold fX7_digestMonths_6
    rw [lp_s]
    unfold bX7_digestMonths_6
    rw [if_pos (show (2 : Int32) < nI 3 by decide), pz_nm, e7]
def dP (T E : sT) (Z : sZ) (r t : Nat) (h : Int64) : Int64 :=
  (31 : Int64) * ((31 : Int64) * ((31 : Int64) * ((31 : Int64) * ((31 : Int64) * hc (fun w => abS T E t r (nI w)) (hc (fun w => abW T E t r (nI w)) h 3) 3 + (orB (sq_ww T E Z t r) 10).toInt64) + (orB (sq_ws T E Z t r) 4).toInt64) + (sq_ask T E Z t r).toInt64) + chV T E r t 5 0) + chV T E r t 5 1
theorem tk_ok {T : sT} {t : Nat} (hn : T.1 ≤ 8) (ht : t < T.1) : 0 ≤ nI t ∧ nI t < nI T.1 := ⟨nI_pos' (by omega), nI_lt ht (by omega)⟩
theorem cd_plans {T E : sT} {Z : sZ} {r t : Nat} {rm kn : Int32} {told ev seen oth : jT3} {tr : jT11} {bs : jB3} {sb vw : Nat → Int32} {h : Int64} (hT : InT3 T told) (hE : InE3 E ev) (hZ : InZ Z seen) (hrm : rm = nI r) (ht : t < T.1) (hs : SBI T E r kn sb) : ∃ kn' oth' tr' bs' sb' vw', fX7_digestPlans h (nI t) rm told ev seen kn oth tr bs sb vw = some (dP T E Z r t h, kn', oth', tr', bs', sb', vw') ∧ SBI T E r kn' sb' := by
  have hn : T.1 ≤ 8 := hT.1
  have hk := tk_ok hn ht
  obtain ⟨o1, t1, b1, e1, p1⟩ := c7_plW (oth := oth) (tr := tr) (bs := bs) ht hT hE hrm
  obtain ⟨o2, t2, b2, e2, p2⟩ := c7_plS (oth := o1) (tr := t1) (bs := b1) ht hT hE hrm
  obtain ⟨o3, t3, v3, e3⟩ := c7_was (oth := o2) (tr := t2) (vw := vw) hT hE hZ hrm (nI t) 0
  obtain ⟨o4, t4, v4, e4⟩ := c7_was (oth := o3) (tr := t3) (vw := v3) hT hE hZ hrm (nI t) 1
  obtain ⟨o5, t5, v5, e5⟩ := c7_ask (oth := o4) (tr := t4) (vw := v4) hT hE hZ hrm (nI t)
  obtain ⟨k6, t6, s6, e6, h6⟩ := c7_chance (tr := t5) hT hE hrm hs 5 (nI t) 0
  obtain ⟨k7, t7, s7, e7, h7⟩ := c7_chance (tr := t6) hT hE hrm h6 5 (nI t) 1
  refine ⟨k7, o5, t7, b2, s7, v5, ?_, h7⟩
  unfold fX7_digestPlans dP
  have q0 : vWa T E Z r (nI t) 0 = orB (sq_ww T E Z t r) 10 := by
    unfold vWa; rw [if_pos hk, if_pos (by decide), if_pos rfl, nI_clamp (by omega)]
  have q1 : vWa T E Z r (nI t) 1 = orB (sq_ws T E Z t r) 4 := by
    unfold vWa; rw [if_pos hk, if_pos (by decide), if_neg (by decide), nI_clamp (by omega)]
  have q2 : vAs T E Z r (nI t) = sq_ask T E Z t r := by
    unfold vAs; rw [if_pos hk, nI_clamp (by omega)]
  have q3 : vCh T E r 5 (nI t) 0 = chV T E r t 5 0 := by
    unfold vCh; rw [if_pos (by decide), if_pos hk, if_pos (by decide), nI_clamp (by omega), show (5 : Int32).toNatClampNeg = 5 from by decide]
  have q4 : vCh T E r 5 (nI t) 1 = chV T E r t 5 1 := by
    unfold vCh; rw [if_pos (by decide), if_pos hk, if_pos (by decide), nI_clamp (by omega), show (5 : Int32).toNatClampNeg = 5 from by decide]
  rw [e1, bd3_eq, cd_best p1, bd1_eq, e2, bd3_eq, cd_best p2, bd1_eq, e3, bd4_eq, pz_nm, e4, bd4_eq, pz_nm, e5, bd4_eq, pz_nm, e6, bd4_eq, pz_nm, e7, bd4_eq, pz_nm, q0, q1, q2, q3, q4]
def dE (T E : sT) (Z : sZ) (r : Nat) (h : Int64) : Int64 :=
  (31 : Int64) * ((31 : Int64) * ((31 : Int64) * ((31 : Int64) * ((31 : Int64) * hc (fun w => abR T E (nI w)) ((31 : Int64) * ((31 : Int64) * hc (fun w => sq_su (hI T E 255 r) (nI w)) h 4 + (vTp (hI T E 255 r)).toInt64) + (hdV (hI T E 255 r)).toInt64) 3 + (sp_ans T E r (-1)).toInt64) + (sp_ans T E r 0).toInt64) + (vNv T E Z r).toInt64) + (hsV 7 6 E r 0).toInt64) + (hsV 7 6 E r 1).toInt64
theorem cd_161 {T E : sT} {Z : sZ} {r : Nat} {rm fi : Int32} {tx : jT1} {told ev seen : jT3} {h : Int64} (hT : InT3 T told) (hE : InE3 E ev) (hZ : InZ Z seen) (hrm : rm = nI r) : ∀ (j i F : Nat) (ck kn : Int32) (oth : jT3) (C tr : jT11) (bs : jB3) (sb vw : Nat → Int32), i + j = 4 → j < F → KC T E r ck C → SBI T E r kn sb → ∃ ck' kn' oth' C' tr' bs' sb' vw', fX7_digest_161 rm fi tx told ev seen F ck kn oth C tr bs sb vw (hc (fun w => sq_su (hI T E 255 r) (nI w)) h i) (nI i) = some (dE T E Z r h, ck', kn', oth', C', tr', bs', sb', vw') ∧ KC T E r ck' C' ∧ SBI T E r kn' sb' := by
  intro j
  induction j with
  | zero =>
    intro i F ck kn oth C tr bs sb vw h1 h2 h3 h4
    obtain ⟨F', rfl⟩ : ∃ z, F = z + 1 := ⟨F - 1, by omega⟩
    have hi : i = 4 := by omega
    subst hi
    obtain ⟨ck1, C1, e1, k1⟩ := c7_top hT hE hrm h3
    obtain ⟨ck2, C2, e2, k2⟩ := c7_heardV hT hE hrm k1
    obtain ⟨t3, b3, e3, p3⟩ := c7_plR (tr := tr) (bs := bs) hT hE
    obtain ⟨kn4, t4, sb4, e4, s4⟩ := c7_spare (tr := t3) hT hE hrm h4 (-1)
    obtain ⟨kn5, t5, sb5, e5, s5⟩ := c7_spare (tr := t4) hT hE hrm s4 0
    obtain ⟨t6, e6⟩ := c7_never (tr := t5) hT hE hZ hrm
    obtain ⟨o7, t7, e7⟩ := c7_houses (oth := oth) (tr := t6) hE hrm 7 6 0
    obtain ⟨o8, t8, e8⟩ := c7_houses (oth := o7) (tr := t7) hE hrm 7 6 1
    refine ⟨ck2, kn5, o8, C2, t8, b3, sb5, vw, ?_, k2, s5⟩
    have q1 : vSp T E r (-1) = sp_ans T E r (-1) := if_pos (by decide)
    have q2 : vSp T E r 0 = sp_ans T E r 0 := if_pos (by decide)
    have q3 : vHo E r 7 6 0 = hsV 7 6 E r 0 := by unfold vHo; rw [if_pos (by decide), if_pos (by decide)]; rfl
    have q4 : vHo E r 7 6 1 = hsV 7 6 E r 1 := by unfold vHo; rw [if_pos (by decide), if_pos (by decide)]; rfl
    unfold fX7_digest_161
    rw [lp_s]
    unfold bX7_digest_161 dE
    rw [if_pos (show (3 : Int32) < nI 4 by decide), e1, bd3_eq, pz_nm, e2, bd3_eq, pz_nm, e3, bd2_eq, cd_best p3, bd1_eq, e4, bd4_eq, pz_nm, e5, bd4_eq, pz_nm, e6, bd2_eq, pz_nm, e7, bd3_eq, pz_nm, e8, bd3_eq, pz_nm, q1, q2, q3, q4]
  | succ j ih =>
    intro i F ck kn oth C tr bs sb vw h1 h2 h3 h4
    obtain ⟨F', rfl⟩ : ∃ z, F = z + 1 := ⟨F - 1, by omega⟩
    have e0 : fX7_digest_161 rm fi tx told ev seen (F' + 1) ck kn oth C tr bs sb vw (hc (fun w => sq_su (hI T E 255 r) (nI w)) h i) (nI i) = bX7_digest_161 rm fi tx told ev seen (fX7_digest_161 rm fi tx told ev seen F') ck kn oth C tr bs sb vw (hc (fun w => sq_su (hI T E 255 r) (nI w)) h i) (nI i) := rfl
    rw [e0]
    unfold bX7_digest_161
    obtain ⟨ck1, C1, e1, k1⟩ := c7_sum hT hE hrm h3 (nI i)
    rw [if_neg (show ¬ (3 : Int32) < nI i from nI_nlt (a := 3) (by omega) (by omega)), e1, bd3_eq, vSu_ok (by omega), pz_nm, pz_nm, pz_1]
    exact ih (i + 1) F' ck1 kn oth C1 tr bs sb vw (by omega) (by omega) k1 h4
def dT (T E : sT) (Z : sZ) (r : Nat) (h : Int64) : Nat → Int64
  | 0 => h
  | t + 1 => dP T E Z r t (dM T E r t (dT T E Z r h t))
theorem cd_130 {T E : sT} {Z : sZ} {r : Nat} {rm fi : Int32} {tx : jT1} {told ev seen : jT3} {h : Int64} (hT : InT3 T told) (hE : InE3 E ev) (hZ : InZ Z seen) (hrm : rm = nI r) : ∀ (j i F : Nat) (ck kn : Int32) (oth : jT3) (C tr : jT11) (bs : jB3) (sb vw : Nat → Int32), i + j = T.1 → j < F → KC T E r ck C → SBI T E r kn sb → ∃ ck' kn' oth' C' tr' bs' sb' vw', fX7_digest_130 rm fi tx told ev seen F ck kn oth C tr bs sb vw (dT T E Z r h i) (nI i) = some (dE T E Z r (dT T E Z r h T.1), ck', kn', oth', C', tr', bs', sb', vw') ∧ KC T E r ck' C' ∧ SBI T E r kn' sb' := by
  have hn : T.1 ≤ 8 := hT.1
  have hT2 : told.1 = nI T.1 := hT.2.1
  intro j
  induction j with
  | zero =>
    intro i F ck kn oth C tr bs sb vw h1 h2 h3 h4
    obtain ⟨F', rfl⟩ : ∃ z, F = z + 1 := ⟨F - 1, by omega⟩
    have hi : i = T.1 := by omega
    subst hi
    unfold fX7_digest_130
    rw [lp_s]
    unfold bX7_digest_130
    rw [hT2, if_pos (nI_le (Nat.le_refl _) (by omega))]
    exact cd_161 hT hE hZ hrm 4 0 jF ck kn oth C tr bs sb vw (by omega) (pz_jF (by omega)) h3 h4
  | succ j ih =>
    intro i F ck kn oth C tr bs sb vw h1 h2 h3 h4
    obtain ⟨F', rfl⟩ : ∃ z, F = z + 1 := ⟨F - 1, by omega⟩
    have hi : i < T.1 := by omega
    have e0 : fX7_digest_130 rm fi tx told ev seen (F' + 1) ck kn oth C tr bs sb vw (dT T E Z r h i) (nI i) = bX7_digest_130 rm fi tx told ev seen (fX7_digest_130 rm fi tx told ev seen F') ck kn oth C tr bs sb vw (dT T E Z r h i) (nI i) := rfl
    rw [e0]
    unfold bX7_digest_130
    obtain ⟨ck1, C1, e1, k1⟩ := cd_months (h := dT T E Z r h i) hT hE hrm hi h3
    obtain ⟨kn2, o2, t2, b2, s2, v2, e2, k2⟩ := cd_plans (oth := oth) (tr := tr) (bs := bs) (vw := vw) (h := dM T E r i (dT T E Z r h i)) hT hE hZ hrm hi h4
    rw [if_neg (show ¬ told.1 ≤ nI i by rw [hT2]; exact nI_ge hi (by omega)), e1, bd3_eq, e2, bd7_eq, pz_nm, pz_1]
    exact ih (i + 1) F' ck1 kn2 o2 C1 t2 b2 s2 v2 (by omega) (by omega) k1 k2
def dL (I : sI) (h : Int64) : Nat → Int64
  | 0 => h
  | f + 1 => (31 : Int64) * ((31 : Int64) * ((31 : Int64) * dL I h f + (orB (fun t => decide (sq_fl I 3 t = nI f)) I.1.1).toInt64) + (orB (fun t => decide (sq_fl I 9 t = nI f)) I.1.1).toInt64) + (orB (fun t => decide (sq_fl I 23 t = nI f)) I.1.1).toInt64
theorem cd_72 {T E : sT} {Z : sZ} {r : Nat} {rm fi : Int32} {tx : jT1} {told ev seen : jT3} {h : Int64} (hT : InT3 T told) (hE : InE3 E ev) (hZ : InZ Z seen) (hrm : rm = nI r) : ∀ (j i F : Nat) (ck kn : Int32) (oth : jT3) (C tr : jT11) (bs : jB3) (sb vw : Nat → Int32), i + j = 13 → j < F → KC T E r ck C → SBI T E r kn sb → ∃ ck' kn' oth' C' tr' bs' sb' vw', fX7_digest_72 rm fi tx told ev seen F ck kn oth C tr bs sb vw (dL (hI T E 255 r) h i) (nI i) = some (dE T E Z r (dT T E Z r (dL (hI T E 255 r) h 13) T.1), ck', kn', oth', C', tr', bs', sb', vw') ∧ KC T E r ck' C' ∧ SBI T E r kn' sb' := by
  have hn : T.1 ≤ 8 := hT.1
  intro j
  induction j with
  | zero =>
    intro i F ck kn oth C tr bs sb vw h1 h2 h3 h4
    obtain ⟨F', rfl⟩ : ∃ z, F = z + 1 := ⟨F - 1, by omega⟩
    have hi : i = 13 := by omega
    subst hi
    unfold fX7_digest_72
    rw [lp_s]
    unfold bX7_digest_72
    rw [if_pos (show (12 : Int32) < nI 13 by decide)]
    exact cd_130 hT hE hZ hrm T.1 0 jF ck kn oth C tr bs sb vw (by omega) (pz_jF (by omega)) h3 h4
  | succ j ih =>
    intro i F ck kn oth C tr bs sb vw h1 h2 h3 h4
    obtain ⟨F', rfl⟩ : ∃ z, F = z + 1 := ⟨F - 1, by omega⟩
    have e0 : fX7_digest_72 rm fi tx told ev seen (F' + 1) ck kn oth C tr bs sb vw (dL (hI T E 255 r) h i) (nI i) = bX7_digest_72 rm fi tx told ev seen (fX7_digest_72 rm fi tx told ev seen F') ck kn oth C tr bs sb vw (dL (hI T E 255 r) h i) (nI i) := rfl
    rw [e0]
    unfold bX7_digest_72
    obtain ⟨ck1, C1, e1, k1⟩ := c7_live hT hE hrm h3 3 (nI i)
    obtain ⟨ck2, C2, e2, k2⟩ := c7_live hT hE hrm k1 9 (nI i)
    obtain ⟨ck3, C3, e3, k3⟩ := c7_live hT hE hrm k2 23 (nI i)
    have q1 : vLv (hI T E 255 r) 3 (nI i) = _ := vLv_ok (a := 3) (by omega) (by omega)
    have q2 : vLv (hI T E 255 r) 9 (nI i) = _ := vLv_ok (a := 9) (by omega) (by omega)
    have q3 : vLv (hI T E 255 r) 23 (nI i) = _ := vLv_ok (a := 23) (by omega) (by omega)
    rw [if_neg (show ¬ (12 : Int32) < nI i from nI_nlt (a := 12) (by omega) (by omega)), e1, bd3_eq, pz_nm, e2, bd3_eq, pz_nm, e3, bd3_eq, pz_nm, pz_nm, pz_1, q1, q2, q3]
    exact ih (i + 1) F' ck3 kn oth C3 tr bs sb vw (by omega) (by omega) k3 h4
theorem cd_45 {T E : sT} {Z : sZ} {r : Nat} {rm fi : Int32} {tx : jT1} {told ev seen : jT3} {h : Int64} (hT : InT3 T told) (hE : InE3 E ev) (hZ : InZ Z seen) (hrm : rm = nI r) : ∀ (j i F : Nat) (ck kn : Int32) (oth : jT3) (C tr : jT11) (bs : jB3) (sb vw : Nat → Int32), i + j = 24 → j < F → KC T E r ck C → SBI T E r kn sb → ∃ ck' kn' oth' C' tr' bs' sb' vw', fX7_digest_45 rm fi tx told ev seen F ck kn oth C tr bs sb vw (hc (fun m => sq_lift (hI T E 255 r) m) h i) (nI i) = some (dE T E Z r (dT T E Z r (dL (hI T E 255 r) (hc (fun m => sq_lift (hI T E 255 r) m) h 24) 13) T.1), ck', kn', oth', C', tr', bs', sb', vw') ∧ KC T E r ck' C' ∧ SBI T E r kn' sb' := by
  intro j
  induction j with
  | zero =>
    intro i F ck kn oth C tr bs sb vw h1 h2 h3 h4
    obtain ⟨F', rfl⟩ : ∃ z, F = z + 1 := ⟨F - 1, by omega⟩
    have hi : i = 24 := by omega
    subst hi
    unfold fX7_digest_45
    rw [lp_s]
    unfold bX7_digest_45
    rw [if_pos (show (24 : Int32) ≤ nI 24 by decide)]
    exact cd_72 hT hE hZ hrm 13 0 jF ck kn oth C tr bs sb vw (by omega) (pz_jF (by omega)) h3 h4
  | succ j ih =>
    intro i F ck kn oth C tr bs sb vw h1 h2 h3 h4
    obtain ⟨F', rfl⟩ : ∃ z, F = z + 1 := ⟨F - 1, by omega⟩
    have e0 : fX7_digest_45 rm fi tx told ev seen (F' + 1) ck kn oth C tr bs sb vw (hc (fun m => sq_lift (hI T E 255 r) m) h i) (nI i) = bX7_digest_45 rm fi tx told ev seen (fX7_digest_45 rm fi tx told ev seen F') ck kn oth C tr bs sb vw (hc (fun m => sq_lift (hI T E 255 r) m) h i) (nI i) := rfl
    rw [e0]
    unfold bX7_digest_45
    obtain ⟨ck1, C1, e1, k1⟩ := c7_lift hT hE hrm h3 (nI i)
    rw [if_neg (show ¬ (24 : Int32) ≤ nI i from nI_ge (b := 24) (by omega) (by omega)), e1, bd3_eq, vLf_ok (by omega), pz_nm, pz_nm, pz_1]
    exact ih (i + 1) F' ck1 kn oth C1 tr bs sb vw (by omega) (by omega) k1 h4
def dD (b : Nat → Int32) (N : Nat) (E : sT) (Z : sZ) (r : Nat) (fi : Int32) : Int64 :=
  dE (tx_T b N) E Z r (dT (tx_T b N) E Z r (dL (hI (tx_T b N) E 255 r) (hc (fun m => sq_lift (hI (tx_T b N) E 255 r) m) ((31 : Int64) * hc (fun w => vCt (hI (tx_T b N) E 255 r) N E r Z fi (nI w)) 17 8 + (tx_fault b N).toInt64) 24) 13) (tx_T b N).1)
theorem cd_digest {E : sT} {Z : sZ} {N r : Nat} {rm fi ck kn : Int32} {b : Nat → Int32} {told ev seen oth : jT3} {C tr : jT11} {bs : jB3} {sb vw : Nat → Int32} (hN : N ≤ 31) (hT : InT3 (tx_T b N) told) (hE : InE3 E ev) (hZ : InZ Z seen) (hrm : rm = nI r) (hk : KC (tx_T b N) E r ck C) (hs : SBI (tx_T b N) E r kn sb) : ∃ ck' kn' oth' C' tr' bs' sb' vw', fX7_digest rm fi (nI N, b) told ev seen ck kn oth C tr bs sb vw = some (dD b N E Z r fi, ck', kn', oth', C', tr', bs', sb', vw') ∧ KC (tx_T b N) E r ck' C' ∧ SBI (tx_T b N) E r kn' sb' := by
  have hZ2 : seen.1 = nI Z.1 := hZ.2.1
  have key : ∀ (j i F : Nat) (ck : Int32) (C : jT11), i + j = 8 → j < F → KC (tx_T b N) E r ck C → ∃ ck' kn' oth' C' tr' bs' sb' vw', fX7_digest_6 rm fi (nI N, b) told ev seen F ck kn oth C tr bs sb vw (hc (fun w => vCt (hI (tx_T b N) E 255 r) N E r Z fi (nI w)) 17 i) (nI i) = some (dD b N E Z r fi, ck', kn', oth', C', tr', bs', sb', vw') ∧ KC (tx_T b N) E r ck' C' ∧ SBI (tx_T b N) E r kn' sb' := by
    intro j
    induction j with
    | zero =>
      intro i F ck C h1 h2 h3
      obtain ⟨F', rfl⟩ : ∃ z, F = z + 1 := ⟨F - 1, by omega⟩
      have hi : i = 8 := by omega
      subst hi
      unfold fX7_digest_6
      rw [lp_s]
      unfold bX7_digest_6 fX7_fault
      dsimp only
      rw [if_pos (show (7 : Int32) < nI 8 by decide), cm_fault hN, bd1_eq, bd1_eq, pz_nm]
      exact cd_45 hT hE hZ hrm 24 0 jF ck kn oth C tr bs sb vw (by omega) (pz_jF (by omega)) h3 hs
    | succ j ih =>
      intro i F ck C h1 h2 h3
      obtain ⟨F', rfl⟩ : ∃ z, F = z + 1 := ⟨F - 1, by omega⟩
      have e0 : fX7_digest_6 rm fi (nI N, b) told ev seen (F' + 1) ck kn oth C tr bs sb vw (hc (fun w => vCt (hI (tx_T b N) E 255 r) N E r Z fi (nI w)) 17 i) (nI i) = bX7_digest_6 rm fi (nI N, b) told ev seen (fX7_digest_6 rm fi (nI N, b) told ev seen F') ck kn oth C tr bs sb vw (hc (fun w => vCt (hI (tx_T b N) E 255 r) N E r Z fi (nI w)) 17 i) (nI i) := rfl
      rw [e0]
      unfold bX7_digest_6
      dsimp only
      obtain ⟨ck1, C1, e1, k1⟩ := c7_count (Z := Z) (N := N) (fi := fi) hT hE hrm h3 (nI i)
      rw [if_neg (show ¬ (7 : Int32) < nI i from nI_nlt (a := 7) (by omega) (by omega)), hZ2, e1, bd3_eq, pz_nm, pz_nm, pz_1]
      exact ih (i + 1) F' ck1 C1 (by omega) (by omega) k1
  exact key 8 0 jF ck C (by omega) (pz_jF (by omega)) hk
