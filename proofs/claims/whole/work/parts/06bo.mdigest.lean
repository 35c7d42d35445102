theorem hc_0 (f : Nat → Int32) (h : Int64) : hc f h 0 = h := rfl
theorem md_month {I : sI} {S : jT11} {a t : Nat} {h : Int64} (hS : mOk I S) (hn : I.1.1 ≤ 8) (ha : a < 24) (ht : t < I.1.1) : fX8_tellsMonth h (nI a) (nI t) S.2.2.2.2.2.2.2.2.2.1 S.2.2.2.2.2.2.2.2.2.2.1 S.2.2.2.2.2.2.2.2.2.2.2 = some (hc (fun w => sq_at I a t (nI w)) h 4) := by
  unfold fX8_tellsMonth
  refine pz_up (fun F i => fX8_tellsMonth_6 h (nI a) (nI t) S.2.2.2.2.2.2.2.2.2.1 S.2.2.2.2.2.2.2.2.2.2.1 S.2.2.2.2.2.2.2.2.2.2.2 F (hc (fun w => sq_at I a t (nI w)) h i) (nI i)) 4 _ (fun F i hi => ?_) (fun F => ?_) 4 0 jF (by omega) (pz_jF (by omega))
  · show bX8_tellsMonth_6 h (nI a) (nI t) S.2.2.2.2.2.2.2.2.2.1 S.2.2.2.2.2.2.2.2.2.2.1 S.2.2.2.2.2.2.2.2.2.2.2 (fX8_tellsMonth_6 h (nI a) (nI t) S.2.2.2.2.2.2.2.2.2.1 S.2.2.2.2.2.2.2.2.2.2.1 S.2.2.2.2.2.2.2.2.2.2.2 F) _ _ = _
    unfold bX8_tellsMonth_6
    rw [if_neg (show ¬ (4 : Int32) ≤ nI i from nI_ge (b := 4) hi (by omega)), m8_atBy hS hn ha ht, bd1_eq, pz_nm, pz_nm, pz_1]
    rfl
  · unfold fX8_tellsMonth_6
    rw [lp_s]
    unfold bX8_tellsMonth_6
    rw [if_pos (show (4 : Int32) ≤ nI 4 by decide)]
theorem md_147 {T E : sT} {Z : sZ} {r t : Nat} {tn rm en sg : Int32} {ev si : Nat → Int32} {l h : Int64} (ht : t < T.1) (hE : ME E en ev) (hZ : MZ Z sg si) (hrm : rm = nI r) (hr : r ≤ 8) : ∀ (j i F : Nat) (S : jT11) (te : Nat → Int32) (ro : Nat → Int64), i + j = 3 → j < F → MT T tn te → ∃ S' te' ro', fX8_tellsTenant_147 l (nI t) tn rm en sg ev si F 0 S te ro (hc (fun w => abS T E t r (nI w)) h i) (nI i) = some ((31 : Int64) * ((31 : Int64) * ((31 : Int64) * ((31 : Int64) * ((31 : Int64) * hc (fun w => abS T E t r (nI w)) h 3 + (orB (sq_ww T E Z t r) 10).toInt64) + (orB (sq_ws T E Z t r) 4).toInt64) + (sq_ask T E Z t r).toInt64) + chV T E r t 5 0) + chV T E r t 5 1, 0, S', te', ro') ∧ MT T tn te' := by
  intro j
  induction j with
  | zero =>
    intro i F S te ro h1 h2 hT
    obtain ⟨F', rfl⟩ : ∃ z, F = z + 1 := ⟨F - 1, by omega⟩
    have hi : i = 3 := by omega
    subst hi
    obtain ⟨S1, te1, ro1, e1, hT1, -⟩ := mm_wages (S := S) (ro := ro) hT ht hE hZ hrm hr
    obtain ⟨S2, te2, e2, hT2⟩ := mm_sorts (S := S1) hT1 ht hE hZ hrm hr
    obtain ⟨S3, te3, ro3, e3, hT3⟩ := mm_ask (S := S2) (ro := ro1) hT2 ht hE hZ hrm hr
    obtain ⟨S4, e4⟩ := mm_chance (what := 0) (gg := 0) (c := 5) (S := S3) hT3 hE hrm hr ht (by omega)
    obtain ⟨S5, e5⟩ := mm_chance (what := 1) (gg := 0) (c := 5) (S := S4) hT3 hE hrm hr ht (by omega)
    have e4' : fX8_chanceOf (5 : Int32) (nI t) (0 : Int32) tn rm en te3 ev 0 S3 = _ := e4
    have e5' : fX8_chanceOf (5 : Int32) (nI t) (1 : Int32) tn rm en te3 ev 0 S4 = _ := e5
    refine ⟨S5, te3, ro3, ?_, hT3⟩
    unfold fX8_tellsTenant_147
    rw [lp_s]
    unfold bX8_tellsTenant_147
    rw [if_pos (show (3 : Int32) ≤ nI 3 by decide), e1, bd4_eq, pz_nm, e2, bd3_eq, pz_nm, e3, bd4_eq, pz_nm, e4', bd3_eq, pz_nm, e5', bd3_eq]
  | succ j ih =>
    intro i F S te ro h1 h2 hT
    obtain ⟨F', rfl⟩ : ∃ z, F = z + 1 := ⟨F - 1, by omega⟩
    have e0 : fX8_tellsTenant_147 l (nI t) tn rm en sg ev si (F' + 1) 0 S te ro (hc (fun w => abS T E t r (nI w)) h i) (nI i) = bX8_tellsTenant_147 l (nI t) tn rm en sg ev si (fX8_tellsTenant_147 l (nI t) tn rm en sg ev si F') 0 S te ro (hc (fun w => abS T E t r (nI w)) h i) (nI i) := rfl
    rw [e0]
    unfold bX8_tellsTenant_147
    obtain ⟨S1, te1, e1, hT1⟩ := m8_beS (S := S) hT ht hE hrm hr (nI i)
    rw [if_neg (show ¬ (3 : Int32) ≤ nI i from nI_ge (b := 3) (by omega) (by omega)), mm_3, e1, bd3_eq, pz_nm, pz_nm, pz_1]
    exact ih (i + 1) F' S1 te1 ro (by omega) (by omega) hT1
theorem md_109 {T E : sT} {Z : sZ} {r t : Nat} {tn rm en sg : Int32} {ev si : Nat → Int32} {l h : Int64} (ht : t < T.1) (hE : ME E en ev) (hZ : MZ Z sg si) (hrm : rm = nI r) (hr : r ≤ 8) : ∀ (j i F : Nat) (S : jT11) (te : Nat → Int32) (ro : Nat → Int64), i + j = 3 → j < F → MT T tn te → ∃ S' te' ro', fX8_tellsTenant_109 l (nI t) tn rm en sg ev si F 0 S te ro (hc (fun w => abW T E t r (nI w)) h i) (nI i) = some (dP T E Z r t h, 0, S', te', ro') ∧ MT T tn te' := by
  intro j
  induction j with
  | zero =>
    intro i F S te ro h1 h2 hT
    obtain ⟨F', rfl⟩ : ∃ z, F = z + 1 := ⟨F - 1, by omega⟩
    have hi : i = 3 := by omega
    subst hi
    unfold fX8_tellsTenant_109
    rw [lp_s]
    unfold bX8_tellsTenant_109
    rw [if_pos (show (3 : Int32) ≤ nI 3 by decide)]
    obtain ⟨S', te', ro', e, hT'⟩ := md_147 (Z := Z) (l := l) (h := hc (fun w => abW T E t r (nI w)) h 3) ht hE hZ hrm hr 3 0 jF S te ro (by omega) (pz_jF (by omega)) hT
    rw [hc_0, nI_0] at e
    refine ⟨S', te', ro', ?_, hT'⟩
    unfold dP
    exact e
  | succ j ih =>
    intro i F S te ro h1 h2 hT
    obtain ⟨F', rfl⟩ : ∃ z, F = z + 1 := ⟨F - 1, by omega⟩
    have e0 : fX8_tellsTenant_109 l (nI t) tn rm en sg ev si (F' + 1) 0 S te ro (hc (fun w => abW T E t r (nI w)) h i) (nI i) = bX8_tellsTenant_109 l (nI t) tn rm en sg ev si (fX8_tellsTenant_109 l (nI t) tn rm en sg ev si F') 0 S te ro (hc (fun w => abW T E t r (nI w)) h i) (nI i) := rfl
    rw [e0]
    unfold bX8_tellsTenant_109
    obtain ⟨S1, te1, e1, hT1⟩ := m8_beW (S := S) hT ht hE hrm hr (nI i)
    rw [if_neg (show ¬ (3 : Int32) ≤ nI i from nI_ge (b := 3) (by omega) (by omega)), mm_32, e1, bd3_eq, pz_nm, pz_nm, pz_1]
    exact ih (i + 1) F' S1 te1 ro (by omega) (by omega) hT1
theorem md_77 {T E : sT} {Z : sZ} {r t : Nat} {tn rm en sg : Int32} {te ev si : Nat → Int32} {S : jT11} {ro : Nat → Int64} {l h : Int64} (hS : mOk (hI T E 255 r) S) (hn : T.1 ≤ 8) (ht : t < T.1) : fX8_tellsTenant_77 l (nI t) tn rm en sg ev si jF 0 S te ro h 0 = fX8_tellsTenant_109 l (nI t) tn rm en sg ev si jF 0 S te ro (hc (fun w => sq_en (hI T E 255 r) t (nI w)) h 4) 0 := by
  refine pz_up (fun F i => fX8_tellsTenant_77 l (nI t) tn rm en sg ev si F 0 S te ro (hc (fun w => sq_en (hI T E 255 r) t (nI w)) h i) (nI i)) 4 _ (fun F i hi => ?_) (fun F => ?_) 4 0 jF (by omega) (pz_jF (by omega))
  · show bX8_tellsTenant_77 l (nI t) tn rm en sg ev si (fX8_tellsTenant_77 l (nI t) tn rm en sg ev si F) _ _ _ _ _ _ = _
    unfold bX8_tellsTenant_77
    rw [if_neg (show ¬ (4 : Int32) ≤ nI i from nI_ge (b := 4) hi (by omega)), m8_endsBy (I := hI T E 255 r) hS hn ht, bd1_eq, pz_nm, pz_nm, pz_1]
    rfl
  · unfold fX8_tellsTenant_77
    rw [lp_s]
    unfold bX8_tellsTenant_77
    rw [if_pos (show (4 : Int32) ≤ nI 4 by decide)]
theorem md_tenant {T E : sT} {Z : sZ} {r t : Nat} {tn rm en sg : Int32} {te ev si : Nat → Int32} {S : jT11} {ro : Nat → Int64} {h : Int64} (hT : MT T tn te) (ht : t < T.1) (hE : ME E en ev) (hZ : MZ Z sg si) (hrm : rm = nI r) (hr : r ≤ 8) : ∃ S' te' ro', fX8_tellsTenant h (nI t) tn rm en sg ev si 0 S te ro = some (dP T E Z r t (dM T E r t h), 0, S', te', ro') ∧ MT T tn te' := by
  have hn : T.1 ≤ 8 := hT.1
  obtain ⟨S1, e1, hS1⟩ := mm_livesI (w := 255) (S := S) hT hE (hw255 hE.1) hrm hr
  obtain ⟨S', te', ro', e2, hT2⟩ := md_109 (Z := Z) (l := h) (h := dM T E r t h) ht hE hZ hrm hr 3 0 jF S1 te ro (by omega) (pz_jF (by omega)) hT
  refine ⟨S', te', ro', ?_, hT2⟩
  unfold fX8_tellsTenant
  rw [e1, bd1_eq, ← e2]
  have m0 := fun (h : Int64) => md_month (I := hI T E 255 r) (a := 0) (h := h) hS1 hn (by omega) ht
  have m6 := fun (h : Int64) => md_month (I := hI T E 255 r) (a := 6) (h := h) hS1 hn (by omega) ht
  have m13 := fun (h : Int64) => md_month (I := hI T E 255 r) (a := 13) (h := h) hS1 hn (by omega) ht
  have m23 := fun (h : Int64) => md_month (I := hI T E 255 r) (a := 23) (h := h) hS1 hn (by omega) ht
  have m0' : ∀ h : Int64, fX8_tellsMonth h (0 : Int32) (nI t) S1.2.2.2.2.2.2.2.2.2.1 S1.2.2.2.2.2.2.2.2.2.2.1 S1.2.2.2.2.2.2.2.2.2.2.2 = _ := m0
  have m6' : ∀ h : Int64, fX8_tellsMonth h (6 : Int32) (nI t) S1.2.2.2.2.2.2.2.2.2.1 S1.2.2.2.2.2.2.2.2.2.2.1 S1.2.2.2.2.2.2.2.2.2.2.2 = _ := m6
  have m13' : ∀ h : Int64, fX8_tellsMonth h (13 : Int32) (nI t) S1.2.2.2.2.2.2.2.2.2.1 S1.2.2.2.2.2.2.2.2.2.2.1 S1.2.2.2.2.2.2.2.2.2.2.2 = _ := m13
  have m23' : ∀ h : Int64, fX8_tellsMonth h (23 : Int32) (nI t) S1.2.2.2.2.2.2.2.2.2.1 S1.2.2.2.2.2.2.2.2.2.2.1 S1.2.2.2.2.2.2.2.2.2.2.2 = _ := m23
  refine pz_up (fun F i => fX8_tellsTenant_10 h (nI t) tn rm en sg ev si F 0 S1 te ro (hc (fun w => tnV T t (nI w)) h i) (nI i)) 3 _ (fun F i hi => ?_) (fun F => ?_) 3 0 jF (by omega) (pz_jF (by omega))
  · show bX8_tellsTenant_10 h (nI t) tn rm en sg ev si (fX8_tellsTenant_10 h (nI t) tn rm en sg ev si F) _ _ _ _ _ _ = _
    unfold bX8_tellsTenant_10
    have q := m8_te (w := i) hT ht (by omega)
    rw [if_neg (show ¬ (3 : Int32) ≤ nI i from nI_ge (b := 3) hi (by omega)), mm_3, nI_add, pz_rd (by omega) (by omega), q, pz_nm, pz_nm, pz_1]
    rfl
  · unfold fX8_tellsTenant_10
    rw [lp_s]
    unfold bX8_tellsTenant_10
    rw [if_pos (show (3 : Int32) ≤ nI 3 by decide), m0', bd1_eq, m6', bd1_eq, m13', bd1_eq, m23', bd1_eq, md_77 (Z := Z) hS1 hn ht]
    rfl
theorem md_211 {E : sT} {Z : sZ} {N r : Nat} {tn rm en sg fi : Int32} {b te ev si : Nat → Int32} {ro : Nat → Int64} {h : Int64} (hN : N ≤ 31) (hT : MT (tx_T b N) tn te) (hE : ME E en ev) (hZ : MZ Z sg si) (hrm : rm = nI r) (hr : r ≤ 8) : ∀ (j i F : Nat) (S : jT11) (dr : Int32), i + j = 3 → j < F → ∃ tn' S' dr' te', fX8_digest_211 fi (nI N) en sg b ev si F tn rm 0 S dr te ro (hc (fun w => abR (tx_T b N) E (nI w)) h i) (nI i) = some ((31 : Int64) * ((31 : Int64) * ((31 : Int64) * ((31 : Int64) * ((31 : Int64) * hc (fun w => abR (tx_T b N) E (nI w)) h 3 + (sp_ans (tx_T b N) E r (-1)).toInt64) + (sp_ans (tx_T b N) E r 0).toInt64) + (vNv (tx_T b N) E Z r).toInt64) + (hsV 7 6 E r 0).toInt64) + (hsV 7 6 E r 1).toInt64, tn', rm, 0, S', dr', te', ro) := by
  intro j
  induction j with
  | zero =>
    intro i F S dr h1 h2
    obtain ⟨F', rfl⟩ : ∃ z, F = z + 1 := ⟨F - 1, by omega⟩
    have hi : i = 3 := by omega
    subst hi
    obtain ⟨S1, e1⟩ := mm_spare (i := -1) (g := 0) (S := S) hT hE hrm hr
    obtain ⟨S2, e2⟩ := mm_spare (i := 0) (g := 0) (S := S1) hT hE hrm hr
    obtain ⟨S3, e3⟩ := m8_neverN (g := 0) (S := S2) hT hE hZ hrm hr
    obtain ⟨S4, d4, te4, e4, hT4⟩ := mm_houses (s := 7) (what := 0) (tn := tn) (dr := dr) (n := 6) (b := b) (te := te) (S := S3) (by omega) hN hE hrm hr
    obtain ⟨S5, d5, te5, e5, hT5⟩ := mm_houses (s := 7) (what := 1) (tn := nI (tx_n b N)) (dr := d4) (n := 6) (b := b) (te := te4) (S := S4) (by omega) hN hE hrm hr
    have e4' : fX8_housesOf (7 : Int32) (6 : Int32) (0 : Int32) (nI N) rm en 0 b ev tn S3 dr te = _ := e4
    have e5' : fX8_housesOf (7 : Int32) (6 : Int32) (1 : Int32) (nI N) rm en 0 b ev (nI (tx_n b N)) S4 d4 te4 = _ := e5
    refine ⟨nI (tx_n b N), S5, d5, te5, ?_⟩
    unfold fX8_digest_211
    rw [lp_s]
    unfold bX8_digest_211
    rw [if_pos (show (3 : Int32) ≤ nI 3 by decide), e1, bd3_eq, pz_nm, e2, bd3_eq, pz_nm, e3, bd3_eq, pz_nm, e4', bd5_eq, pz_nm, e5', bd5_eq]
  | succ j ih =>
    intro i F S dr h1 h2
    obtain ⟨F', rfl⟩ : ∃ z, F = z + 1 := ⟨F - 1, by omega⟩
    have e0 : fX8_digest_211 fi (nI N) en sg b ev si (F' + 1) tn rm 0 S dr te ro (hc (fun w => abR (tx_T b N) E (nI w)) h i) (nI i) = bX8_digest_211 fi (nI N) en sg b ev si (fX8_digest_211 fi (nI N) en sg b ev si F') tn rm 0 S dr te ro (hc (fun w => abR (tx_T b N) E (nI w)) h i) (nI i) := rfl
    rw [e0]
    unfold bX8_digest_211
    obtain ⟨S1, e1⟩ := m8_beR (S := S) (rm := rm) hT hE (nI i)
    rw [if_neg (show ¬ (3 : Int32) ≤ nI i from nI_ge (b := 3) (by omega) (by omega)), e1, bd3_eq, pz_nm, pz_nm, pz_1]
    exact ih (i + 1) F' S1 dr (by omega) (by omega)
theorem md_161 {E : sT} {Z : sZ} {N r : Nat} {tn rm en sg fi dr : Int32} {b te ev si : Nat → Int32} {ro : Nat → Int64} {S : jT11} {h : Int64} (hN : N ≤ 31) (hT : MT (tx_T b N) tn te) (hS : mOk (hI (tx_T b N) E 255 r) S) (hE : ME E en ev) (hZ : MZ Z sg si) (hrm : rm = nI r) (hr : r ≤ 8) : ∃ tn' S' dr' te', fX8_digest_161 fi (nI N) en sg b ev si jF tn rm 0 S dr te ro h 0 = some (dE (tx_T b N) E Z r h, tn', rm, 0, S', dr', te', ro) := by
  have hn : (tx_T b N).1 ≤ 8 := hT.1
  obtain ⟨tn', S', dr', te', e⟩ := md_211 (fi := fi) (ro := ro) (h := (31 : Int64) * ((31 : Int64) * hc (fun w => sq_su (hI (tx_T b N) E 255 r) (nI w)) h 4 + (vTp (hI (tx_T b N) E 255 r)).toInt64) + (hdV (hI (tx_T b N) E 255 r)).toInt64) hN hT hE hZ hrm hr 3 0 jF S dr (by omega) (pz_jF (by omega))
  refine ⟨tn', S', dr', te', ?_⟩
  refine Eq.trans ?_ e
  refine pz_up (fun F i => fX8_digest_161 fi (nI N) en sg b ev si F tn rm 0 S dr te ro (hc (fun w => sq_su (hI (tx_T b N) E 255 r) (nI w)) h i) (nI i)) 4 _ (fun F i hi => ?_) (fun F => ?_) 4 0 jF (by omega) (pz_jF (by omega))
  · show bX8_digest_161 fi (nI N) en sg b ev si (fX8_digest_161 fi (nI N) en sg b ev si F) _ _ _ _ _ _ _ _ _ = _
    unfold bX8_digest_161
    rw [if_neg (show ¬ (4 : Int32) ≤ nI i from nI_ge (b := 4) hi (by omega)), m8_sumBy hS hn hT.2.1, bd1_eq, pz_nm, pz_nm, pz_1]
    rfl
  · unfold fX8_digest_161
    rw [lp_s]
    unfold bX8_digest_161
    rw [if_pos (show (4 : Int32) ≤ nI 4 by decide), mq_top hS hn hT.2.1, bd1_eq, pz_nm, mq_heard hS hn hT.2.1, bd1_eq, pz_nm]
    rfl
theorem md_134 {E : sT} {Z : sZ} {N r : Nat} {tn rm en sg fi : Int32} {b ev si : Nat → Int32} {h : Int64} (hN : N ≤ 31) (hE : ME E en ev) (hZ : MZ Z sg si) (hrm : rm = nI r) (hr : r ≤ 8) : ∀ (j i F : Nat) (S : jT11) (dr : Int32) (te : Nat → Int32) (ro : Nat → Int64), i + j = (tx_T b N).1 → j < F → MT (tx_T b N) tn te → ∃ tn' S' dr' te' ro', fX8_digest_134 fi (nI N) en sg b ev si F tn rm 0 S dr te ro (dT (tx_T b N) E Z r h i) (nI i) = some (dE (tx_T b N) E Z r (dT (tx_T b N) E Z r h (tx_T b N).1), tn', rm, 0, S', dr', te', ro') := by
  have hn : (tx_T b N).1 ≤ 8 := tx_n_le hN
  intro j
  induction j with
  | zero =>
    intro i F S dr te ro h1 h2 hT
    obtain ⟨F', rfl⟩ : ∃ z, F = z + 1 := ⟨F - 1, by omega⟩
    have hi : i = (tx_T b N).1 := by omega
    subst hi
    obtain ⟨S1, e1, hS1⟩ := mm_livesI (w := 255) (S := S) hT hE (hw255 hE.1) hrm hr
    obtain ⟨tn', S', dr', te', e⟩ := md_161 (fi := fi) (dr := dr) (ro := ro) (h := dT (tx_T b N) E Z r h (tx_T b N).1) hN hT hS1 hE hZ hrm hr
    refine ⟨tn', S', dr', te', ro, ?_⟩
    unfold fX8_digest_134
    rw [lp_s]
    unfold bX8_digest_134
    rw [if_pos (show tn ≤ nI (tx_T b N).1 by rw [hT.2.1]; exact nI_le (Nat.le_refl _) (by omega)), e1, bd1_eq]
    exact e
  | succ j ih =>
    intro i F S dr te ro h1 h2 hT
    obtain ⟨F', rfl⟩ : ∃ z, F = z + 1 := ⟨F - 1, by omega⟩
    have hi : i < (tx_T b N).1 := by omega
    have e0 : fX8_digest_134 fi (nI N) en sg b ev si (F' + 1) tn rm 0 S dr te ro (dT (tx_T b N) E Z r h i) (nI i) = bX8_digest_134 fi (nI N) en sg b ev si (fX8_digest_134 fi (nI N) en sg b ev si F') tn rm 0 S dr te ro (dT (tx_T b N) E Z r h i) (nI i) := rfl
    rw [e0]
    unfold bX8_digest_134
    obtain ⟨S1, te1, ro1, e1, hT1⟩ := md_tenant (S := S) (ro := ro) (h := dT (tx_T b N) E Z r h i) hT hi hE hZ hrm hr
    rw [if_neg (show ¬ tn ≤ nI i by rw [hT.2.1]; exact nI_ge hi (by omega)), e1, bd5_eq, pz_nm, pz_1]
    exact ih (i + 1) F' S1 dr te1 ro1 (by omega) (by omega) hT1
theorem md_76 {E : sT} {Z : sZ} {N r : Nat} {tn rm en sg fi dr : Int32} {b te ev si : Nat → Int32} {ro : Nat → Int64} {S : jT11} {h : Int64} (hT : MT (tx_T b N) tn te) (hS : mOk (hI (tx_T b N) E 255 r) S) : fX8_digest_76 fi (nI N) en sg b ev si jF tn rm 0 S dr te ro h 0 = fX8_digest_134 fi (nI N) en sg b ev si jF tn rm 0 S dr te ro (dL (hI (tx_T b N) E 255 r) h 13) 0 := by
  have hn : (tx_T b N).1 ≤ 8 := hT.1
  refine pz_up (fun F i => fX8_digest_76 fi (nI N) en sg b ev si F tn rm 0 S dr te ro (dL (hI (tx_T b N) E 255 r) h i) (nI i)) 13 _ (fun F i hi => ?_) (fun F => ?_) 13 0 jF (by omega) (pz_jF (by omega))
  · show bX8_digest_76 fi (nI N) en sg b ev si (fX8_digest_76 fi (nI N) en sg b ev si F) _ _ _ _ _ _ _ _ _ = _
    have q3 : fX8_liveBy (3 : Int32) (nI i) tn S.2.2.2.2.2.2.2.2.2.1 = _ := mq_who (k := 3) (nI i) hS hn hT.2.1 (by omega)
    have q9 : fX8_liveBy (9 : Int32) (nI i) tn S.2.2.2.2.2.2.2.2.2.1 = _ := mq_who (k := 9) (nI i) hS hn hT.2.1 (by omega)
    have q23 : fX8_liveBy (23 : Int32) (nI i) tn S.2.2.2.2.2.2.2.2.2.1 = _ := mq_who (k := 23) (nI i) hS hn hT.2.1 (by omega)
    unfold bX8_digest_76
    rw [if_neg (show ¬ (13 : Int32) ≤ nI i from nI_ge (b := 13) hi (by omega)), q3, bd1_eq, pz_nm, q9, bd1_eq, pz_nm, q23, bd1_eq, pz_nm, pz_nm, pz_1]
    rfl
  · unfold fX8_digest_76
    rw [lp_s]
    unfold bX8_digest_76
    rw [if_pos (show (13 : Int32) ≤ nI 13 by decide)]
theorem md_49 {E : sT} {Z : sZ} {N r : Nat} {tn rm en sg fi dr : Int32} {b te ev si : Nat → Int32} {ro : Nat → Int64} {S : jT11} {h : Int64} (hT : MT (tx_T b N) tn te) (hS : mOk (hI (tx_T b N) E 255 r) S) : fX8_digest_49 fi (nI N) en sg b ev si jF tn rm 0 S dr te ro h 0 = fX8_digest_76 fi (nI N) en sg b ev si jF tn rm 0 S dr te ro (hc (fun m => sq_lift (hI (tx_T b N) E 255 r) m) h 24) 0 := by
  have hn : (tx_T b N).1 ≤ 8 := hT.1
  refine pz_up (fun F i => fX8_digest_49 fi (nI N) en sg b ev si F tn rm 0 S dr te ro (hc (fun m => sq_lift (hI (tx_T b N) E 255 r) m) h i) (nI i)) 24 _ (fun F i hi => ?_) (fun F => ?_) 24 0 jF (by omega) (pz_jF (by omega))
  · show bX8_digest_49 fi (nI N) en sg b ev si (fX8_digest_49 fi (nI N) en sg b ev si F) _ _ _ _ _ _ _ _ _ = _
    unfold bX8_digest_49
    rw [if_neg (show ¬ (24 : Int32) ≤ nI i from nI_ge (b := 24) hi (by omega)), mq_lift hS hn hT.2.1 hi, bd1_eq, pz_nm, pz_nm, pz_1]
    rfl
  · unfold fX8_digest_49
    rw [lp_s]
    unfold bX8_digest_49
    rw [if_pos (show (24 : Int32) ≤ nI 24 by decide)]
theorem md_digest {E : sT} {Z : sZ} {N r : Nat} {tn rm en sg fi dr : Int32} {b te ev si : Nat → Int32} {ro : Nat → Int64} {S : jT11} (hN : N ≤ 31) (hE : ME E en ev) (hZ : MZ Z sg si) (hrm : rm = nI r) (hr : r ≤ 8) : ∃ tn' S' dr' te' ro', fX8_digest fi (nI N) en sg b ev si tn rm 0 S dr te ro = some (dD b N E Z r fi, tn', rm, 0, S', dr', te', ro') := by
  have hn : (tx_T b N).1 ≤ 8 := tx_n_le hN
  have hZ2 : sg = nI Z.1 := hZ.2.1
  have key : ∀ (j i F : Nat) (tn : Int32) (S : jT11) (te : Nat → Int32), i + j = 8 → j < F → ∃ tn' S' dr' te' ro', fX8_digest_6 fi (nI N) en sg b ev si F tn rm 0 S dr te ro (hc (fun w => vCt (hI (tx_T b N) E 255 r) N E r Z fi (nI w)) 17 i) (nI i) = some (dD b N E Z r fi, tn', rm, 0, S', dr', te', ro') := by
    intro j
    induction j with
    | zero =>
      intro i F tn S te h1 h2
      obtain ⟨F', rfl⟩ : ∃ z, F = z + 1 := ⟨F - 1, by omega⟩
      have hi : i = 8 := by omega
      subst hi
      obtain ⟨te1, e1, hT⟩ := mm_reads (b := b) (te := te) (tn := tn) hN
      obtain ⟨S1, e2, hS⟩ := mm_livesI (w := 255) (S := S) hT hE (hw255 hE.1) hrm hr
      obtain ⟨tn', S', dr', te', ro', e⟩ := md_134 (b := b) (tn := nI (tx_n b N)) (fi := fi) (h := dL (hI (tx_T b N) E 255 r) (hc (fun m => sq_lift (hI (tx_T b N) E 255 r) m) ((31 : Int64) * hc (fun w => vCt (hI (tx_T b N) E 255 r) N E r Z fi (nI w)) 17 8 + (tx_fault b N).toInt64) 24) 13) hN hE hZ hrm hr (tx_T b N).1 0 jF S1 dr te1 ro (by omega) (pz_jF (by omega)) hT
      refine ⟨tn', S', dr', te', ro', ?_⟩
      unfold fX8_digest_6
      rw [lp_s]
      unfold bX8_digest_6
      rw [if_pos (show (8 : Int32) ≤ nI 8 by decide), e1, bd3_eq, pz_nm, e2, bd1_eq, md_49 (Z := Z) hT hS, md_76 (Z := Z) hT hS]
      exact e
    | succ j ih =>
      intro i F tn S te h1 h2
      obtain ⟨F', rfl⟩ : ∃ z, F = z + 1 := ⟨F - 1, by omega⟩
      have e0 : fX8_digest_6 fi (nI N) en sg b ev si (F' + 1) tn rm 0 S dr te ro (hc (fun w => vCt (hI (tx_T b N) E 255 r) N E r Z fi (nI w)) 17 i) (nI i) = bX8_digest_6 fi (nI N) en sg b ev si (fX8_digest_6 fi (nI N) en sg b ev si F') tn rm 0 S dr te ro (hc (fun w => vCt (hI (tx_T b N) E 255 r) N E r Z fi (nI w)) 17 i) (nI i) := rfl
      rw [e0]
      unfold bX8_digest_6
      obtain ⟨S1, te1, e1⟩ := m8_count (Z := Z) (b := b) (tn := tn) (te := te) (S := S) (fi := fi) hN hE hrm hr (nI i)
      rw [← hZ2] at e1
      rw [if_neg (show ¬ (8 : Int32) ≤ nI i from nI_ge (b := 8) (by omega) (by omega)), e1, bd4_eq, pz_nm, pz_nm, pz_1]
      exact ih (i + 1) F' (nI (tx_n b N)) S1 te1 (by omega) (by omega)
  exact key 8 0 jF tn S te (by omega) (pz_jF (by omega))
