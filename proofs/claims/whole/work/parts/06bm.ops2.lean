def abW (T E : sT) (k r : Nat) (w : Int32) : Int32 := pbV (fun v => sq_ns (hI (sT_w T k v) E 255 r)) (fun v => sq_nf (hI (sT_w T k v) E 255 r)) 0 (sp_bst (fun v => 1000 * sq_ns (hI (sT_w T k v) E 255 r) + sq_nf (hI (sT_w T k v) E 255 r)) 10) w
def abS (T E : sT) (k r : Nat) (w : Int32) : Int32 := pbV (fun v => sq_ns (hI (sT_s T k v) E 255 r)) (fun v => sq_nf (hI (sT_s T k v) E 255 r)) 0 (sp_bst (fun v => 1000 * sq_ns (hI (sT_s T k v) E 255 r) + sq_nf (hI (sT_s T k v) E 255 r)) 4) w
def abR (T E : sT) (w : Int32) : Int32 := pbV (fun v => sq_ns (hI T E 255 (v + 1))) (fun v => sq_nf (hI T E 255 (v + 1))) 1 (sp_bst (fun v => 1000 * sq_ns (hI T E 255 (v + 1)) + sq_nf (hI T E 255 (v + 1))) 8) w
theorem c7_plW {T E : sT} {k r : Nat} {rm : Int32} {told ev oth : jT3} {tr : jT11} {bs : jB3} (hk : k < T.1) (hT : InT3 T told) (hE : InE3 E ev) (hrm : rm = nI r) : ∃ oth' tr' bs', fX7_planWage (nI k) rm told ev oth tr bs = some (oth', tr', bs') ∧ ∀ w, fX0_part w bs'.1 bs'.2.1 bs'.2.2 = some (abW T E k r w) := by
  obtain ⟨oth', tr', bs', e, hb⟩ := cm_planW (oth := oth) (tr := tr) (bs := bs) hk hT hE hrm
  refine ⟨oth', tr', bs', e, fun w => ?_⟩
  obtain ⟨ww, hww⟩ := sp_bst_some (fun v => 1000 * sq_ns (hI (sT_w T k v) E 255 r) + sq_nf (hI (sT_w T k v) E 255 r)) 9
  have hww' : sp_bst (fun v => 1000 * sq_ns (hI (sT_w T k v) E 255 r) + sq_nf (hI (sT_w T k v) E 255 r)) 10 = some ww := hww
  unfold abW
  rw [hww'] at hb ⊢
  exact cm_part w hb
theorem c7_plS {T E : sT} {k r : Nat} {rm : Int32} {told ev oth : jT3} {tr : jT11} {bs : jB3} (hk : k < T.1) (hT : InT3 T told) (hE : InE3 E ev) (hrm : rm = nI r) : ∃ oth' tr' bs', fX7_planSort (nI k) rm told ev oth tr bs = some (oth', tr', bs') ∧ ∀ w, fX0_part w bs'.1 bs'.2.1 bs'.2.2 = some (abS T E k r w) := by
  obtain ⟨oth', tr', bs', e, hb⟩ := cm_planS (oth := oth) (tr := tr) (bs := bs) hk hT hE hrm
  refine ⟨oth', tr', bs', e, fun w => ?_⟩
  obtain ⟨ww, hww⟩ := sp_bst_some (fun v => 1000 * sq_ns (hI (sT_s T k v) E 255 r) + sq_nf (hI (sT_s T k v) E 255 r)) 3
  have hww' : sp_bst (fun v => 1000 * sq_ns (hI (sT_s T k v) E 255 r) + sq_nf (hI (sT_s T k v) E 255 r)) 4 = some ww := hww
  unfold abS
  rw [hww'] at hb ⊢
  exact cm_part w hb
theorem c7_plR {T E : sT} {told ev : jT3} {tr : jT11} {bs : jB3} (hT : InT3 T told) (hE : InE3 E ev) : ∃ tr' bs', fX7_planRoom told ev tr bs = some (tr', bs') ∧ ∀ w, fX0_part w bs'.1 bs'.2.1 bs'.2.2 = some (abR T E w) := by
  obtain ⟨tr', bs', e, hb⟩ := cm_planR (tr := tr) (bs := bs) hT hE
  refine ⟨tr', bs', e, fun w => ?_⟩
  obtain ⟨ww, hww⟩ := sp_bst_some (fun v => 1000 * sq_ns (hI T E 255 (v + 1)) + sq_nf (hI T E 255 (v + 1))) 7
  have hww' : sp_bst (fun v => 1000 * sq_ns (hI T E 255 (v + 1)) + sq_nf (hI T E 255 (v + 1))) 8 = some ww := hww
  unfold abR
  rw [hww'] at hb ⊢
  exact cm_part w hb
theorem m8_beW {T E : sT} {k r : Nat} {tn rm en : Int32} {te ev : Nat → Int32} {S : jT11} (hT : MT T tn te) (hk : k < T.1) (hE : ME E en ev) (hrm : rm = nI r) (hr : r ≤ 8) (w : Int32) : ∃ S' te', fX8_tenantBetter (nI (3 * k + 2)) (10 : Int32) w tn rm en 0 ev S te = some (abW T E k r w, S', te') ∧ MT T tn te' := by
  have hn : T.1 ≤ 8 := hT.1
  obtain ⟨g1, g2, g3, g4, g5, g6⟩ := hT.2.2 k hk
  unfold fX8_tenantBetter
  rw [pz_rd (by omega) (by omega), g3]
  obtain ⟨S', te', e, h'⟩ := mm_better18 (Tv := sT_w T k) (E := E) (a := 3 * k + 2) (P := 10) (v0 := T.2.2.2 k) (what := w) (w := 255) (gone := 0) (tn := tn) (rm := rm) (en := en) (ev := ev) (by omega) (by omega) (by omega) (by omega) (fun v v' te hv h => MT_w (by omega) h) (fun v => hn) hE (hw255 hE.1) hrm hr 10 0 jF S te (-1) 999999 (by omega) (pz_jF (by omega)) ⟨T.2.2.2 k, by rw [sT_w_id]; exact hT⟩ ⟨rfl, rfl⟩
  rw [sT_w_id] at h'
  exact ⟨S', te', e, h'⟩
theorem m8_beS {T E : sT} {k r : Nat} {tn rm en : Int32} {te ev : Nat → Int32} {S : jT11} (hT : MT T tn te) (hk : k < T.1) (hE : ME E en ev) (hrm : rm = nI r) (hr : r ≤ 8) (w : Int32) : ∃ S' te', fX8_tenantBetter (nI (3 * k)) (4 : Int32) w tn rm en 0 ev S te = some (abS T E k r w, S', te') ∧ MT T tn te' := by
  have hn : T.1 ≤ 8 := hT.1
  obtain ⟨g1, g2, g3, g4, g5, g6⟩ := hT.2.2 k hk
  unfold fX8_tenantBetter
  rw [pz_rd (by omega) (by omega), g1]
  obtain ⟨S', te', e, h'⟩ := mm_better18 (Tv := sT_s T k) (E := E) (a := 3 * k) (P := 4) (v0 := T.2.1 k) (what := w) (w := 255) (gone := 0) (tn := tn) (rm := rm) (en := en) (ev := ev) (by omega) (by omega) (by omega) (by omega) (fun v v' te hv h => MT_s (by omega) h) (fun v => hn) hE (hw255 hE.1) hrm hr 4 0 jF S te (-1) 999999 (by omega) (pz_jF (by omega)) ⟨T.2.1 k, by rw [sT_s_id]; exact hT⟩ ⟨rfl, rfl⟩
  rw [sT_s_id] at h'
  exact ⟨S', te', e, h'⟩
theorem m8_beR {T E : sT} {tn rm en : Int32} {te ev : Nat → Int32} {S : jT11} (hT : MT T tn te) (hE : ME E en ev) (w : Int32) : ∃ S', fX8_widenBy w tn en 0 te ev rm S = some (abR T E w, rm, S') := by
  unfold fX8_widenBy
  exact mm_widen14 (what := w) (was := rm) hT hE (hw255 hE.1) 8 0 jF rm S (-1) 999999 (by omega) (pz_jF (by omega)) ⟨rfl, rfl⟩
def vEa (T E : sT) (r : Nat) (k w : Int32) : Int32 := if 0 ≤ k ∧ k < nI T.1 then (if 0 ≤ w ∧ w ≤ 2 then abW T E k.toNatClampNeg r w else -2) else -2
theorem c7_earn {T E : sT} {r : Nat} {rm : Int32} {told ev oth : jT3} {tr : jT11} {bs : jB3} (hT : InT3 T told) (hE : InE3 E ev) (hrm : rm = nI r) (k w : Int32) : ∃ oth' tr' bs', fX7_earn k w rm told ev oth tr bs = some (vEa T E r k w, oth', tr', bs') := by
  have hn : T.1 ≤ 8 := hT.1
  unfold fX7_earn vEa
  rw [ih_ten7 hT.2.1, bd1_eq, ite01, pz_within, bd1_eq, ite01]
  by_cases c2 : 0 ≤ k ∧ k < nI T.1
  · rw [if_pos c2, if_pos c2]
    by_cases c3 : 0 ≤ w ∧ w ≤ 2
    · rw [if_pos c3, if_pos c3]
      obtain ⟨t, ht, e⟩ := vint (by omega) c2
      subst e
      obtain ⟨oth', tr', bs', e, hb⟩ := c7_plW (oth := oth) (tr := tr) (bs := bs) ht hT hE hrm
      refine ⟨oth', tr', bs', ?_⟩
      rw [e, bd3_eq, hb w, bd1_eq, nI_clamp (by omega)]
    · rw [if_neg c3, if_neg c3]; exact ⟨oth, tr, bs, rfl⟩
  · rw [if_neg c2, if_neg c2]; exact ⟨oth, tr, bs, rfl⟩
theorem m8_earn {E : sT} {N r : Nat} {tn rm en : Int32} {b ev te : Nat → Int32} {S : jT11} (hN : N ≤ 31) (hE : ME E en ev) (hrm : rm = nI r) (hr : r ≤ 8) (k w : Int32) : ∃ tn' S' te', fX8_earn k w (nI N) rm en 0 b ev tn S te = some (vEa (tx_T b N) E r k w, tn', S', te') := by
  obtain ⟨S', te', e, hS, hT⟩ := m8_find (b := b) (tn := tn) (te := te) (S := S) hN hE hrm hr
  have hn := tx_n_le (b := b) hN
  unfold fX8_earn vEa
  rw [e, bd3_eq, mm_tenant hn, bd1_eq, ite01, pz_inL w 0 2 _ _ (by decide) (by decide), bd1_eq, ite01, show (tx_T b N).1 = tx_n b N from rfl]
  by_cases c2 : 0 ≤ k ∧ k < nI (tx_n b N)
  · rw [if_pos c2, if_pos c2]
    by_cases c3 : 0 ≤ w ∧ w ≤ 2
    · rw [if_pos c3, if_pos c3]
      obtain ⟨t, ht, e⟩ := vint (by omega) c2
      subst e
      obtain ⟨S2, te2, e2, hT2⟩ := m8_beW (S := S') hT ht hE hrm hr w
      refine ⟨nI (tx_n b N), S2, te2, ?_⟩
      rw [mm_32, e2, bd3_eq, nI_clamp (by omega)]
    · rw [if_neg c3, if_neg c3]; exact ⟨_, _, _, rfl⟩
  · rw [if_neg c2, if_neg c2]; exact ⟨_, _, _, rfl⟩
def vBe (T E : sT) (r : Nat) (k w : Int32) : Int32 := if 0 ≤ k ∧ k < nI T.1 then (if 0 ≤ w ∧ w ≤ 2 then abS T E k.toNatClampNeg r w else -2) else -2
theorem c7_be {T E : sT} {r : Nat} {rm : Int32} {told ev oth : jT3} {tr : jT11} {bs : jB3} (hT : InT3 T told) (hE : InE3 E ev) (hrm : rm = nI r) (k w : Int32) : ∃ oth' tr' bs', fX7_be k w rm told ev oth tr bs = some (vBe T E r k w, oth', tr', bs') := by
  have hn : T.1 ≤ 8 := hT.1
  unfold fX7_be vBe
  rw [ih_ten7 hT.2.1, bd1_eq, ite01, pz_within, bd1_eq, ite01]
  by_cases c2 : 0 ≤ k ∧ k < nI T.1
  · rw [if_pos c2, if_pos c2]
    by_cases c3 : 0 ≤ w ∧ w ≤ 2
    · rw [if_pos c3, if_pos c3]
      obtain ⟨t, ht, e⟩ := vint (by omega) c2
      subst e
      obtain ⟨oth', tr', bs', e, hb⟩ := c7_plS (oth := oth) (tr := tr) (bs := bs) ht hT hE hrm
      refine ⟨oth', tr', bs', ?_⟩
      rw [e, bd3_eq, hb w, bd1_eq, nI_clamp (by omega)]
    · rw [if_neg c3, if_neg c3]; exact ⟨oth, tr, bs, rfl⟩
  · rw [if_neg c2, if_neg c2]; exact ⟨oth, tr, bs, rfl⟩
theorem m8_be {E : sT} {N r : Nat} {tn rm en : Int32} {b ev te : Nat → Int32} {S : jT11} (hN : N ≤ 31) (hE : ME E en ev) (hrm : rm = nI r) (hr : r ≤ 8) (k w : Int32) : ∃ tn' S' te', fX8_be k w (nI N) rm en 0 b ev tn S te = some (vBe (tx_T b N) E r k w, tn', S', te') := by
  obtain ⟨S', te', e, hS, hT⟩ := m8_find (b := b) (tn := tn) (te := te) (S := S) hN hE hrm hr
  have hn := tx_n_le (b := b) hN
  unfold fX8_be vBe
  rw [e, bd3_eq, mm_tenant hn, bd1_eq, ite01, pz_inL w 0 2 _ _ (by decide) (by decide), bd1_eq, ite01, show (tx_T b N).1 = tx_n b N from rfl]
  by_cases c2 : 0 ≤ k ∧ k < nI (tx_n b N)
  · rw [if_pos c2, if_pos c2]
    by_cases c3 : 0 ≤ w ∧ w ≤ 2
    · rw [if_pos c3, if_pos c3]
      obtain ⟨t, ht, e⟩ := vint (by omega) c2
      subst e
      obtain ⟨S2, te2, e2, hT2⟩ := m8_beS (S := S') hT ht hE hrm hr w
      refine ⟨nI (tx_n b N), S2, te2, ?_⟩
      rw [mm_3, e2, bd3_eq, nI_clamp (by omega)]
    · rw [if_neg c3, if_neg c3]; exact ⟨_, _, _, rfl⟩
  · rw [if_neg c2, if_neg c2]; exact ⟨_, _, _, rfl⟩
def vWi (T E : sT) (w : Int32) : Int32 := if 0 ≤ w ∧ w ≤ 2 then abR T E w else -2
theorem c7_widen {T E : sT} {told ev : jT3} {tr : jT11} {bs : jB3} (hT : InT3 T told) (hE : InE3 E ev) (w : Int32) : ∃ tr' bs', fX7_widen w told ev tr bs = some (vWi T E w, tr', bs') := by
  unfold fX7_widen vWi
  rw [pz_within, bd1_eq, ite01]
  by_cases c3 : 0 ≤ w ∧ w ≤ 2
  · rw [if_pos c3, if_pos c3]
    obtain ⟨tr', bs', e, hb⟩ := c7_plR (tr := tr) (bs := bs) hT hE
    refine ⟨tr', bs', ?_⟩
    rw [e, bd2_eq, hb w, bd1_eq]
  · rw [if_neg c3, if_neg c3]; exact ⟨tr, bs, rfl⟩
theorem m8_widen {E : sT} {N r : Nat} {tn rm en : Int32} {b ev te : Nat → Int32} {S : jT11} (hN : N ≤ 31) (hE : ME E en ev) (hrm : rm = nI r) (hr : r ≤ 8) (w : Int32) : ∃ tn' S' te', fX8_widen w (nI N) en 0 b ev tn rm S te = some (vWi (tx_T b N) E w, tn', rm, S', te') := by
  obtain ⟨S', te', e, hS, hT⟩ := m8_find (b := b) (tn := tn) (te := te) (S := S) hN hE hrm hr
  unfold fX8_widen vWi
  rw [e, bd3_eq, pz_inL w 0 2 _ _ (by decide) (by decide), bd1_eq, ite01]
  by_cases c3 : 0 ≤ w ∧ w ≤ 2
  · rw [if_pos c3, if_pos c3]
    obtain ⟨S2, e2⟩ := m8_beR (S := S') (rm := rm) hT hE w
    rw [e2, bd3_eq]
    exact ⟨_, _, _, rfl⟩
  · rw [if_neg c3, if_neg c3]; exact ⟨_, _, _, rfl⟩
theorem in3 {i : Int32} (h : (-1 : Int32) ≤ i ∧ i ≤ 1) : i = -1 ∨ i = 0 ∨ i = 1 := by
  obtain ⟨h1, h2⟩ := h
  rw [fa_le] at h1 h2
  have e1 : (-1 : Int32).toInt = -1 := by decide
  have e2 : (1 : Int32).toInt = 1 := by decide
  have e0 : (0 : Int32).toInt = 0 := by decide
  rw [fa_eq, fa_eq i 0, fa_eq i 1, e1, e0, e2]
  omega
theorem in2 {i : Int32} (h : (0 : Int32) ≤ i ∧ i ≤ 1) : i = 0 ∨ i = 1 := by
  obtain ⟨h1, h2⟩ := h
  rw [fa_le] at h1 h2
  have e2 : (1 : Int32).toInt = 1 := by decide
  have e0 : (0 : Int32).toInt = 0 := by decide
  rw [fa_eq i 0, fa_eq i 1, e0, e2]
  omega
def vSp (T E : sT) (r : Nat) (i : Int32) : Int32 := if (-1 : Int32) ≤ i ∧ i ≤ 1 then sp_ans T E r i else -2
theorem c7_spare {T E : sT} {r : Nat} {rm kn : Int32} {told ev : jT3} {tr : jT11} {sb : Nat → Int32} (hT : InT3 T told) (hE : InE3 E ev) (hrm : rm = nI r) (h : SBI T E r kn sb) (i : Int32) : ∃ kn' tr' sb', fX7_spare i rm told ev kn tr sb = some (vSp T E r i, kn', tr', sb') ∧ SBI T E r kn' sb' := by
  unfold vSp
  by_cases c : (-1 : Int32) ≤ i ∧ i ≤ 1
  · rw [if_pos c]; exact cm_spare hT hE hrm h (in3 c)
  · refine ⟨kn, tr, sb, ?_, h⟩
    unfold fX7_spare
    rw [pz_within, bd1_eq, ite01, if_neg c, if_neg c]
theorem m8_spare {E : sT} {N r : Nat} {tn rm en : Int32} {b ev te : Nat → Int32} {S : jT11} (hN : N ≤ 31) (hE : ME E en ev) (hrm : rm = nI r) (hr : r ≤ 8) (i : Int32) : ∃ tn' S' te', fX8_spare i (nI N) rm en b ev tn 0 S te = some (vSp (tx_T b N) E r i, tn', 0, S', te') := by
  obtain ⟨S', te', e, hS, hT⟩ := m8_find (b := b) (tn := tn) (te := te) (S := S) hN hE hrm hr
  unfold fX8_spare vSp
  rw [e, bd3_eq, pz_inL i (-1) 1 _ _ (by decide) (by decide), bd1_eq, ite01]
  by_cases c3 : (-1 : Int32) ≤ i ∧ i ≤ 1
  · rw [if_pos c3, if_pos c3]
    obtain ⟨S2, e2⟩ := mm_spare (i := i) (g := 0) (S := S') hT hE hrm hr
    rw [e2, bd3_eq]
    exact ⟨_, _, _, rfl⟩
  · rw [if_neg c3, if_neg c3]; exact ⟨_, _, _, rfl⟩
def vNv (T E : sT) (Z : sZ) (r : Nat) : Int32 := orB (fun e => sq_co (hI T E (wn e) r) Z) E.1
theorem c7_never {T E : sT} {Z : sZ} {r : Nat} {rm : Int32} {told ev seen : jT3} {tr : jT11} (hT : InT3 T told) (hE : InE3 E ev) (hZ : InZ Z seen) (hrm : rm = nI r) : ∃ tr', fX7_never rm told ev seen tr = some (vNv T E Z r, tr') := by
  have hE1 := hE.1
  exact cm_never hT hE hZ hrm E.1 0 jF tr (by omega) (pz_jF (by omega))
theorem m8_neverN {T E : sT} {Z : sZ} {r : Nat} {tn rm en sg g : Int32} {te ev si : Nat → Int32} {S : jT11} (hT : MT T tn te) (hE : ME E en ev) (hZ : MZ Z sg si) (hrm : rm = nI r) (hr : r ≤ 8) : ∃ S', fX8_neverNow tn rm en sg te ev si g S = some (vNv T E Z r, 0, S') := by
  have hE1 := hE.1
  exact mm_never hT hE hZ hrm hr E.1 0 jF g S (by omega) (pz_jF (by omega))
theorem m8_never {E : sT} {Z : sZ} {N r : Nat} {tn rm en sg : Int32} {b ev si te : Nat → Int32} {S : jT11} (hN : N ≤ 31) (hE : ME E en ev) (hZ : MZ Z sg si) (hrm : rm = nI r) (hr : r ≤ 8) : ∃ tn' S' te', fX8_never (nI N) rm en sg b ev si tn 0 S te = some (vNv (tx_T b N) E Z r, tn', 0, S', te') := by
  obtain ⟨S', te', e, hS, hT⟩ := m8_find (b := b) (tn := tn) (te := te) (S := S) hN hE hrm hr
  obtain ⟨S2, e2⟩ := m8_neverN (g := 0) (S := S') hT hE hZ hrm hr
  unfold fX8_never
  rw [e, bd3_eq, e2, bd3_eq]
  exact ⟨_, _, _, rfl⟩
def vWa (T E : sT) (Z : sZ) (r : Nat) (k w : Int32) : Int32 := if 0 ≤ k ∧ k < nI T.1 then (if 0 ≤ w ∧ w ≤ 1 then (if w = 0 then orB (sq_ww T E Z k.toNatClampNeg r) 10 else orB (sq_ws T E Z k.toNatClampNeg r) 4) else -2) else -2
theorem c7_was {T E : sT} {Z : sZ} {r : Nat} {rm : Int32} {told ev seen oth : jT3} {tr : jT11} {vw : Nat → Int32} (hT : InT3 T told) (hE : InE3 E ev) (hZ : InZ Z seen) (hrm : rm = nI r) (k w : Int32) : ∃ oth' tr' vw', fX7_was k w rm told ev seen oth tr vw = some (vWa T E Z r k w, oth', tr', vw') := by
  have hn : T.1 ≤ 8 := hT.1
  unfold fX7_was vWa
  rw [ih_ten7 hT.2.1, bd1_eq, ite01, pz_within, bd1_eq, ite01]
  by_cases c2 : 0 ≤ k ∧ k < nI T.1
  · rw [if_pos c2, if_pos c2]
    by_cases c3 : 0 ≤ w ∧ w ≤ 1
    · rw [if_pos c3, if_pos c3]
      obtain ⟨t, ht, e⟩ := vint (by omega) c2
      subst e
      rw [nI_clamp (by omega)]
      by_cases d : w = 0
      · obtain ⟨oth', tr', vw', e, -⟩ := cm_seenW (oth := oth) (tr := tr) (vw := vw) hT ht hE hZ hrm
        rw [if_pos d, if_pos d, e, bd4_eq]
        exact ⟨_, _, _, rfl⟩
      · obtain ⟨oth', tr', e⟩ := cm_seenS (oth := oth) (tr := tr) hT ht hE hZ hrm
        rw [if_neg d, if_neg d, e, bd3_eq]
        exact ⟨_, _, _, rfl⟩
    · rw [if_neg c3, if_neg c3]; exact ⟨_, _, _, rfl⟩
  · rw [if_neg c2, if_neg c2]; exact ⟨_, _, _, rfl⟩
theorem m8_was {E : sT} {Z : sZ} {N r : Nat} {tn rm en sg : Int32} {b ev si te : Nat → Int32} {S : jT11} {ro : Nat → Int64} (hN : N ≤ 31) (hE : ME E en ev) (hZ : MZ Z sg si) (hrm : rm = nI r) (hr : r ≤ 8) (k w : Int32) : ∃ tn' S' te' ro', fX8_was k w (nI N) rm en 0 sg b ev si tn S te ro = some (vWa (tx_T b N) E Z r k w, tn', S', te', ro') := by
  obtain ⟨S', te', e, hS, hT⟩ := m8_find (b := b) (tn := tn) (te := te) (S := S) hN hE hrm hr
  have hn := tx_n_le (b := b) hN
  unfold fX8_was vWa
  rw [e, bd3_eq, mm_tenant hn, bd1_eq, ite01, ih_two8, bd1_eq, ite01, show (tx_T b N).1 = tx_n b N from rfl]
  by_cases c2 : 0 ≤ k ∧ k < nI (tx_n b N)
  · rw [if_pos c2, if_pos c2]
    by_cases c3 : 0 ≤ w ∧ w ≤ 1
    · rw [if_pos c3, if_pos c3]
      obtain ⟨t, ht, e⟩ := vint (by omega) c2
      subst e
      rw [nI_clamp (by omega)]
      unfold fX8_wasOf
      by_cases d : w = 0
      · obtain ⟨S2, te2, ro2, e2, -, -⟩ := mm_wages (S := S') (ro := ro) hT ht hE hZ hrm hr
        rw [if_pos d, if_pos d, e2, bd4_eq, bd4_eq]
        exact ⟨_, _, _, _, rfl⟩
      · obtain ⟨S2, te2, e2, -⟩ := mm_sorts (S := S') hT ht hE hZ hrm hr
        rw [if_neg d, if_neg d, e2, bd3_eq, bd4_eq]
        exact ⟨_, _, _, _, rfl⟩
    · rw [if_neg c3, if_neg c3]; exact ⟨_, _, _, _, rfl⟩
  · rw [if_neg c2, if_neg c2]; exact ⟨_, _, _, _, rfl⟩
def vAs (T E : sT) (Z : sZ) (r : Nat) (k : Int32) : Int32 := if 0 ≤ k ∧ k < nI T.1 then sq_ask T E Z k.toNatClampNeg r else -2
theorem c7_ask {T E : sT} {Z : sZ} {r : Nat} {rm : Int32} {told ev seen oth : jT3} {tr : jT11} {vw : Nat → Int32} (hT : InT3 T told) (hE : InE3 E ev) (hZ : InZ Z seen) (hrm : rm = nI r) (k : Int32) : ∃ oth' tr' vw', fX7_ask k rm told ev seen oth tr vw = some (vAs T E Z r k, oth', tr', vw') := by
  have hn : T.1 ≤ 8 := hT.1
  unfold fX7_ask vAs
  rw [ih_ten7 hT.2.1, bd1_eq, ite01]
  by_cases c2 : 0 ≤ k ∧ k < nI T.1
  · rw [if_pos c2, if_pos c2]
    obtain ⟨t, ht, e⟩ := vint (by omega) c2
    subst e
    obtain ⟨oth', tr', vw', e, hV⟩ := cm_seenW (oth := oth) (tr := tr) (vw := vw) hT ht hE hZ hrm
    rw [e, bd4_eq, cm_ask26 (P := sq_ww T E Z t r) (orB_P (by omega)) hV, nI_clamp (by omega)]
    exact ⟨_, _, _, rfl⟩
  · rw [if_neg c2, if_neg c2]; exact ⟨_, _, _, rfl⟩
theorem m8_ask {E : sT} {Z : sZ} {N r : Nat} {tn rm en sg : Int32} {b ev si te : Nat → Int32} {S : jT11} {ro : Nat → Int64} (hN : N ≤ 31) (hE : ME E en ev) (hZ : MZ Z sg si) (hrm : rm = nI r) (hr : r ≤ 8) (k : Int32) : ∃ tn' S' te' ro', fX8_ask k (nI N) rm en 0 sg b ev si tn S te ro = some (vAs (tx_T b N) E Z r k, tn', S', te', ro') := by
  obtain ⟨S', te', e, hS, hT⟩ := m8_find (b := b) (tn := tn) (te := te) (S := S) hN hE hrm hr
  have hn := tx_n_le (b := b) hN
  unfold fX8_ask vAs
  rw [e, bd3_eq, mm_tenant hn, bd1_eq, ite01, show (tx_T b N).1 = tx_n b N from rfl]
  by_cases c2 : 0 ≤ k ∧ k < nI (tx_n b N)
  · rw [if_pos c2, if_pos c2]
    obtain ⟨t, ht, e⟩ := vint (by omega) c2
    subst e
    obtain ⟨S2, te2, ro2, e2, -⟩ := mm_ask (S := S') (ro := ro) hT ht hE hZ hrm hr
    rw [e2, bd4_eq, nI_clamp (by omega)]
    exact ⟨_, _, _, _, rfl⟩
  · rw [if_neg c2, if_neg c2]; exact ⟨_, _, _, _, rfl⟩
def vCh (T E : sT) (r : Nat) (c k w : Int32) : Int64 := if 0 ≤ c ∧ c ≤ 16 then (if 0 ≤ k ∧ k < nI T.1 then (if 0 ≤ w ∧ w ≤ 1 then chV T E r k.toNatClampNeg c.toNatClampNeg w else -9223372036854775806) else -9223372036854775806) else -9223372036854775806
theorem c7_chance {T E : sT} {r : Nat} {rm kn : Int32} {told ev : jT3} {tr : jT11} {sb : Nat → Int32} (hT : InT3 T told) (hE : InE3 E ev) (hrm : rm = nI r) (h : SBI T E r kn sb) (c k w : Int32) : ∃ kn' tr' sb', fX7_chance c k w rm told ev kn tr sb = some (vCh T E r c k w, kn', tr', sb') ∧ SBI T E r kn' sb' := by
  have hn : T.1 ≤ 8 := hT.1
  unfold vCh
  by_cases c1 : 0 ≤ c ∧ c ≤ 16
  · by_cases c2 : 0 ≤ k ∧ k < nI T.1
    · by_cases c3 : 0 ≤ w ∧ w ≤ 1
      · obtain ⟨a, ha, e⟩ := vin (n := 16) (by omega) c1
        subst e
        obtain ⟨t, ht, e⟩ := vint (by omega) c2
        subst e
        rw [if_pos c1, if_pos c2, if_pos c3, nI_clamp (by omega), nI_clamp (by omega)]
        exact cm_chance hT hE hrm ht ha (in2 c3) h
      · refine ⟨kn, tr, sb, ?_, h⟩
        unfold fX7_chance
        rw [pz_within, bd1_eq, ite01, if_pos c1, if_pos c1, ih_ten7 hT.2.1, bd1_eq, ite01, if_pos c2, if_pos c2, pz_within, bd1_eq, ite01, if_neg c3, if_neg c3]
    · refine ⟨kn, tr, sb, ?_, h⟩
      unfold fX7_chance
      rw [pz_within, bd1_eq, ite01, if_pos c1, if_pos c1, ih_ten7 hT.2.1, bd1_eq, ite01, if_neg c2, if_neg c2]
  · refine ⟨kn, tr, sb, ?_, h⟩
    unfold fX7_chance
    rw [pz_within, bd1_eq, ite01, if_neg c1, if_neg c1]
theorem m8_chance {E : sT} {N r : Nat} {tn rm en : Int32} {b ev te : Nat → Int32} {S : jT11} (hN : N ≤ 31) (hE : ME E en ev) (hrm : rm = nI r) (hr : r ≤ 8) (c k w : Int32) : ∃ tn' S' te', fX8_chance c k w (nI N) rm en b ev tn 0 S te = some (vCh (tx_T b N) E r c k w, tn', 0, S', te') := by
  obtain ⟨S', te', e, hS, hT⟩ := m8_find (b := b) (tn := tn) (te := te) (S := S) hN hE hrm hr
  have hn := tx_n_le (b := b) hN
  have hno : fX8_no (-2 : Int32) = some (-9223372036854775806) := by decide +kernel
  unfold fX8_chance vCh
  simp only [fX8_chance_41]
  rw [e, bd3_eq, pz_inL c 0 16 _ _ (by decide) (by decide), bd1_eq, ite01, mm_tenant hn, bd1_eq, ite01, ih_two8, bd1_eq, ite01, hno, bd1_eq, show (tx_T b N).1 = tx_n b N from rfl]
  by_cases c1 : 0 ≤ c ∧ c ≤ 16
  · rw [if_pos c1, if_pos c1]
    by_cases c2 : 0 ≤ k ∧ k < nI (tx_n b N)
    · rw [if_pos c2, if_pos c2]
      by_cases c3 : 0 ≤ w ∧ w ≤ 1
      · obtain ⟨a, ha, e⟩ := vin (n := 16) (by omega) c1
        subst e
        obtain ⟨t, ht, e⟩ := vint (by omega) c2
        subst e
        obtain ⟨S2, e2⟩ := mm_chance (what := w) (gg := 0) (S := S') hT hE hrm hr ht ha
        rw [if_pos c3, if_pos c3, nI_clamp (by omega), nI_clamp (by omega), e2, bd3_eq]
        exact ⟨_, _, _, rfl⟩
      · rw [if_neg c3, if_neg c3]; exact ⟨_, _, _, rfl⟩
    · rw [if_neg c2, if_neg c2]; exact ⟨_, _, _, rfl⟩
  · rw [if_neg c1, if_neg c1]; exact ⟨_, _, _, rfl⟩
def vHo (E : sT) (r : Nat) (s n w : Int32) : Int32 := if 0 ≤ n ∧ n ≤ 8 then (if 0 ≤ w ∧ w ≤ 1 then hsV s n.toNatClampNeg E r w else -2) else -2
theorem c7_houses {E : sT} {r : Nat} {rm : Int32} {ev oth : jT3} {tr : jT11} (hE : InE3 E ev) (hrm : rm = nI r) (s n w : Int32) : ∃ oth' tr', fX7_houses s n w rm ev oth tr = some (vHo E r s n w, oth', tr') := by
  unfold vHo
  by_cases c1 : 0 ≤ n ∧ n ≤ 8
  · by_cases c3 : 0 ≤ w ∧ w ≤ 1
    · obtain ⟨a, ha, e⟩ := vin (n := 8) (by omega) c1
      subst e
      rw [if_pos c1, if_pos c3, nI_clamp (by omega)]
      exact cm_houses ha (in2 c3) hE hrm
    · refine ⟨oth, tr, ?_⟩
      unfold fX7_houses
      rw [pz_within, bd1_eq, ite01, if_pos c1, if_pos c1, pz_within, bd1_eq, ite01, if_neg c3, if_neg c3]
  · refine ⟨oth, tr, ?_⟩
    unfold fX7_houses
    rw [pz_within, bd1_eq, ite01, if_neg c1, if_neg c1]
theorem m8_houses {E : sT} {N r : Nat} {tn rm en dr : Int32} {b ev te : Nat → Int32} {S : jT11} (hN : N ≤ 31) (hE : ME E en ev) (hrm : rm = nI r) (hr : r ≤ 8) (s n w : Int32) : ∃ tn' S' dr' te', fX8_houses s n w (nI N) rm en 0 b ev tn S dr te = some (vHo E r s n w, tn', S', dr', te') := by
  obtain ⟨S', te', e, hS, hT⟩ := m8_find (b := b) (tn := tn) (te := te) (S := S) hN hE hrm hr
  unfold fX8_houses vHo
  rw [e, bd3_eq, pz_inL n 0 8 _ _ (by decide) (by decide), bd1_eq, ite01, ih_two8, bd1_eq, ite01]
  by_cases c1 : 0 ≤ n ∧ n ≤ 8
  · rw [if_pos c1, if_pos c1]
    by_cases c3 : 0 ≤ w ∧ w ≤ 1
    · obtain ⟨a, ha, e⟩ := vin (n := 8) (by omega) c1
      subst e
      obtain ⟨S2, d2, te2, e2, -⟩ := mm_houses (s := s) (what := w) (tn := nI (tx_n b N)) (dr := dr) (b := b) (te := te') (S := S') ha hN hE hrm hr
      rw [if_pos c3, if_pos c3, nI_clamp (by omega), e2, bd5_eq]
      exact ⟨_, _, _, _, rfl⟩
    · rw [if_neg c3, if_neg c3]; exact ⟨_, _, _, _, rfl⟩
  · rw [if_neg c1, if_neg c1]; exact ⟨_, _, _, _, rfl⟩
