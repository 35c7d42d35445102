theorem vin {v : Int32} {n : Nat} (hn : n < 2 ^ 31) (h : 0 ≤ v ∧ v ≤ nI n) : ∃ j, j ≤ n ∧ v = nI j := by
  obtain ⟨j, hj, e⟩ := nI_of (x := v) (Int32.not_lt.mpr h.1)
  subst e
  exact ⟨j, (nI_leI hj hn).mp h.2, rfl⟩
theorem vint {v : Int32} {n : Nat} (hn : n < 2 ^ 31) (h : 0 ≤ v ∧ v < nI n) : ∃ j, j < n ∧ v = nI j := by
  obtain ⟨j, hj, e⟩ := nI_of (x := v) (Int32.not_lt.mpr h.1)
  subst e
  exact ⟨j, (nI_ltI hj hn).mp h.2, rfl⟩
theorem ih_month7 (v : Int32) : fX7_isMonth v = some (if 0 ≤ v ∧ v ≤ 23 then 1 else 0) := by
  unfold fX7_isMonth
  rw [pz_within, bd1_eq, ckB01]
theorem ih_month8 (v : Int32) : fX8_isMonth v = some (if 0 ≤ v ∧ v ≤ 23 then 1 else 0) := by
  unfold fX8_isMonth
  rw [pz_inL v 0 23 _ _ (by decide) (by decide), bd1_eq, ckB01]
theorem ih_two8 (v : Int32) : fX8_isTwo v = some (if 0 ≤ v ∧ v ≤ 1 then 1 else 0) := by
  unfold fX8_isTwo
  rw [pz_inL v 0 1 _ _ (by decide) (by decide), bd1_eq, ckB01]
theorem ih_sheet8 (v : Int32) : fX8_isSheet v = some (if 0 ≤ v ∧ v ≤ 3 then 1 else 0) := by
  unfold fX8_isSheet
  rw [pz_inL v 0 3 _ _ (by decide) (by decide), bd1_eq, ckB01]
theorem ih_ten7 {n : Nat} {sz : Int32} (h : sz = nI n) (v : Int32) : fX7_isTenant v sz = some (if 0 ≤ v ∧ v < nI n then 1 else 0) := by
  subst h
  unfold fX7_isTenant
  by_cases c : v < 0
  · rw [if_pos c, if_neg (fun q => (fa_of_lt c).2.1 q.1)]
  · rw [if_neg c]
    by_cases d : nI n ≤ v
    · rw [if_pos d, if_neg (fun q => (fa_of_lt q.2).2.1 d)]
    · rw [if_neg d, if_pos ⟨fa_of_nlt c, fa_of_nle d⟩]
def KC (T E : sT) (r : Nat) (ck : Int32) (C : jT11) : Prop := ck = 0 ∨ cOk (hI T E 255 r) C
theorem c7_told {T E : sT} {r : Nat} {rm ck : Int32} {told ev : jT3} {C : jT11} (hT : InT3 T told) (hE : InE3 E ev) (hrm : rm = nI r) (h : KC T E r ck C) : ∃ ck' C', fX7_courseTold rm told ev ck C = some (ck', C') ∧ cOk (hI T E 255 r) C' := by
  unfold fX7_courseTold
  by_cases c : ck = 0
  · obtain ⟨C', hC, e⟩ := cm_runI (T := T) (E := E) (w := 255) (r := r) (sz := C.1) (st := C.2.1) (fa := C.2.2.1) (pa := C.2.2.2.1) (fls := C.2.2.2.2.1) (lfs := C.2.2.2.2.2.1) (flr := C.2.2.2.2.2.2.1) (fl := C.2.2.2.2.2.2.2.1) (be := C.2.2.2.2.2.2.2.2.1) (lf := C.2.2.2.2.2.2.2.2.2.1) (od := C.2.2.2.2.2.2.2.2.2.2.1) (tk := C.2.2.2.2.2.2.2.2.2.2.2) hT hE hrm
    rw [if_pos c, e, bd12_eq]
    exact ⟨1, C', rfl, hC⟩
  · rw [if_neg c]
    exact ⟨ck, C, rfl, h.resolve_left c⟩
theorem m8_find {E : sT} {N r : Nat} {tn rm en : Int32} {b ev te : Nat → Int32} {S : jT11} (hN : N ≤ 31) (hE : ME E en ev) (hrm : rm = nI r) (hr : r ≤ 8) : ∃ S' te', fX8_find (nI N) rm en 0 b ev tn S te = some (nI (tx_n b N), S', te') ∧ mOk (hI (tx_T b N) E 255 r) S' ∧ MT (tx_T b N) (nI (tx_n b N)) te' := by
  obtain ⟨te', e1, hT⟩ := mm_reads (b := b) (te := te) (tn := tn) hN
  obtain ⟨S', e2, hS⟩ := mm_livesI (w := 255) (S := S) hT hE (hw255 hE.1) hrm hr
  refine ⟨S', te', ?_, hS, hT⟩
  unfold fX8_find
  rw [e1, bd3_eq, e2, bd1_eq]
def vTn (T : sT) (k w : Int32) : Int32 := if 0 ≤ k ∧ k < nI T.1 then (if 0 ≤ w ∧ w ≤ 2 then (if w = 0 then nI (T.2.1 k.toNatClampNeg) else if w = 1 then nI (T.2.2.1 k.toNatClampNeg) else nI (T.2.2.2 k.toNatClampNeg)) else -2) else -2
theorem c7_tenant {T : sT} {told : jT3} (hT : InT3 T told) (k w : Int32) : fX7_tenant k w told = some (vTn T k w) := by
  have hn : T.1 ≤ 8 := hT.1
  unfold fX7_tenant vTn
  rw [ih_ten7 hT.2.1, bd1_eq, ite01, pz_within, bd1_eq, ite01]
  by_cases c1 : 0 ≤ k ∧ k < nI T.1
  · rw [if_pos c1, if_pos c1]
    obtain ⟨j, hj, e⟩ := vint (by omega) c1
    subst e
    obtain ⟨h1, h2, h3, -⟩ := hT.2.2 j hj
    by_cases c2 : 0 ≤ w ∧ w ≤ 2
    · rw [if_pos c2, if_pos c2, nI_clamp (by omega), pz_rd (by omega) (by omega), pz_rd (by omega) (by omega), pz_rd (by omega) (by omega), h1, h2, h3]
      simp only [sm_ite]
    · rw [if_neg c2, if_neg c2]
  · rw [if_neg c1, if_neg c1]
theorem m8_te {T : sT} {tn : Int32} {te : Nat → Int32} {j w : Nat} (hT : MT T tn te) (hj : j < T.1) (hw : w ≤ 2) : te (3 * j + w) = if nI w = (0 : Int32) then nI (T.2.1 j) else if nI w = (1 : Int32) then nI (T.2.2.1 j) else nI (T.2.2.2 j) := by
  obtain ⟨h1, h2, h3, -⟩ := hT.2.2 j hj
  match w, hw with
  | 0, _ => rw [if_pos (show nI 0 = (0 : Int32) from rfl)]; exact h1
  | 1, _ => rw [if_neg (by decide), if_pos (show nI 1 = (1 : Int32) from rfl)]; exact h2
  | 2, _ => rw [if_neg (by decide), if_neg (by decide)]; exact h3
theorem m8_tenant {N : Nat} {tn : Int32} {b te : Nat → Int32} (hN : N ≤ 31) (k w : Int32) : ∃ tn' te', fX8_tenant k w (nI N) b tn te = some (vTn (tx_T b N) k w, tn', te') := by
  obtain ⟨te', e1, hT⟩ := mm_reads (b := b) (te := te) (tn := tn) hN
  have hn := tx_n_le (b := b) hN
  refine ⟨nI (tx_n b N), te', ?_⟩
  unfold fX8_tenant vTn
  rw [e1, bd3_eq, mm_tenant hn, bd1_eq, ite01, pz_inL w 0 2 _ _ (by decide) (by decide), bd1_eq, ite01, show (tx_T b N).1 = tx_n b N from rfl]
  by_cases c1 : 0 ≤ k ∧ k < nI (tx_n b N)
  · rw [if_pos c1, if_pos c1]
    obtain ⟨j, hj, e⟩ := vint (by omega) c1
    subst e
    by_cases c2 : 0 ≤ w ∧ w ≤ 2
    · obtain ⟨u, hu, e⟩ := vin (n := 2) (by omega) c2
      subst e
      rw [if_pos c2, if_pos c2, nI_clamp (by omega), mm_3, nI_add, pz_rd (by omega) (by omega), m8_te hT hj hu]
    · rw [if_neg c2, if_neg c2]
  · rw [if_neg c1, if_neg c1]
def sq_at (I : sI) (m t : Nat) (w : Int32) : Int32 := if w = 0 then sq_fl I m t else if w = 1 then sq_lf I m t else if w = 2 then (if sq_ow I m t = true then 1 else 0) else mp_ge (sp_fe I m (sp_r I m)) t
def vAt (I : sI) (m k w : Int32) : Int32 := if 0 ≤ m ∧ m ≤ 23 then (if 0 ≤ k ∧ k < nI I.1.1 then (if 0 ≤ w ∧ w ≤ 3 then sq_at I m.toNatClampNeg k.toNatClampNeg w else -2147483648) else -2147483648) else -2147483648
theorem c7_at {T E : sT} {r : Nat} {rm ck : Int32} {told ev : jT3} {C : jT11} (hT : InT3 T told) (hE : InE3 E ev) (hrm : rm = nI r) (h : KC T E r ck C) (m k w : Int32) : ∃ ck' C', fX7_at m k w rm told ev ck C = some (vAt (hI T E 255 r) m k w, ck', C') ∧ KC T E r ck' C' := by
  have hn : T.1 ≤ 8 := hT.1
  unfold fX7_at vAt
  rw [ih_month7, bd1_eq, ite01, ih_ten7 hT.2.1, bd1_eq, ite01, pz_within, bd1_eq, ite01, show (hI T E 255 r).1.1 = T.1 from rfl]
  by_cases c1 : 0 ≤ m ∧ m ≤ 23
  · rw [if_pos c1, if_pos c1]
    by_cases c2 : 0 ≤ k ∧ k < nI T.1
    · rw [if_pos c2, if_pos c2]
      by_cases c3 : 0 ≤ w ∧ w ≤ 3
      · rw [if_pos c3, if_pos c3]
        obtain ⟨a, ha, e⟩ := vin (n := 23) (by omega) c1
        subst e
        obtain ⟨t, ht, e⟩ := vint (by omega) c2
        subst e
        obtain ⟨ck', C', e, hC⟩ := c7_told hT hE hrm h
        refine ⟨ck', C', ?_, Or.inr hC⟩
        rw [e, bd2_eq, cm_floorAt (I := hI T E 255 r) hn (cOk_F hC) (by omega) ht, bd1_eq, cm_leftAt (I := hI T E 255 r) hn (cOk_L hC) (by omega) ht, bd1_eq, cm_owes (I := hI T E 255 r) hn (cOk_F hC) (cOk_L hC) (by omega) ht, bd1_eq, ite01, cm_fellIn (n := T.1) hn (hC.2.2.2.2.2 a (by omega)) (by omega) ht, bd1_eq, ite01, nI_clamp (by omega), nI_clamp (by omega)]
        unfold sq_at mp_ge
        by_cases d0 : w = 0
        · rw [if_pos d0, if_pos d0]
        · rw [if_neg d0, if_neg d0]
          by_cases d1 : w = 1
          · rw [if_pos d1, if_pos d1]
          · rw [if_neg d1, if_neg d1]
            by_cases d2 : w = 2
            · rw [if_pos d2, if_pos d2, sm_ite]
              by_cases f : sq_ow (hI T E 255 r) a t = true
              · rw [if_pos f, if_pos f]
              · rw [if_neg f, if_neg f]
            · rw [if_neg d2, if_neg d2, sm_ite]
              by_cases f : sp_fe (hI T E 255 r) a (sp_r (hI T E 255 r) a) t = true
              · rw [if_pos f, if_pos f]
              · rw [if_neg f, if_neg f]
      · rw [if_neg c3, if_neg c3]; exact ⟨ck, C, rfl, h⟩
    · rw [if_neg c2, if_neg c2]; exact ⟨ck, C, rfl, h⟩
  · rw [if_neg c1, if_neg c1]; exact ⟨ck, C, rfl, h⟩
theorem m8_atBy {I : sI} {S : jT11} {a t : Nat} (hS : mOk I S) (hn : I.1.1 ≤ 8) (ha : a < 24) (ht : t < I.1.1) (w : Int32) : fX8_atBy (nI a) (nI t) w S.2.2.2.2.2.2.2.2.2.1 S.2.2.2.2.2.2.2.2.2.2.1 S.2.2.2.2.2.2.2.2.2.2.2 = some (sq_at I a t w) := by
  have hE2 : S.2.2.2.2.2.2.2.2.2.2.2 (a * 8 + t) = mp_ge (sp_fe I a (sp_r I a)) t := by rw [Nat.mul_comm a 8]; exact (hS.2.2.2.2.2.2 a t ha ht).2.2
  unfold fX8_atBy sq_at
  rw [xi8, pz_nm, pz_rd (by omega) (by omega), mOk_F hS a t ha ht, pz_rd (by omega) (by omega), mOk_L hS a t ha ht, mm_owes hn (mOk_F hS) (mOk_L hS) ha ht, bd1_eq, pz_rd (by omega) (by omega), hE2]
  simp only [sm_ite]
theorem m8_at {E : sT} {N r : Nat} {tn rm en : Int32} {b ev te : Nat → Int32} {S : jT11} (hN : N ≤ 31) (hE : ME E en ev) (hrm : rm = nI r) (hr : r ≤ 8) (m k w : Int32) : ∃ tn' S' te', fX8_at m k w (nI N) rm en 0 b ev tn S te = some (vAt (hI (tx_T b N) E 255 r) m k w, tn', S', te') := by
  obtain ⟨S', te', e, hS, hT⟩ := m8_find (b := b) (tn := tn) (te := te) (S := S) hN hE hrm hr
  have hn := tx_n_le (b := b) hN
  refine ⟨nI (tx_n b N), S', te', ?_⟩
  unfold fX8_at vAt
  rw [e, bd3_eq, ih_month8, bd1_eq, ite01, mm_tenant hn, bd1_eq, ite01, pz_inL w 0 3 _ _ (by decide) (by decide), bd1_eq, ite01, show (hI (tx_T b N) E 255 r).1.1 = tx_n b N from rfl]
  by_cases c1 : 0 ≤ m ∧ m ≤ 23
  · rw [if_pos c1, if_pos c1]
    by_cases c2 : 0 ≤ k ∧ k < nI (tx_n b N)
    · rw [if_pos c2, if_pos c2]
      by_cases c3 : 0 ≤ w ∧ w ≤ 3
      · obtain ⟨a, ha, e⟩ := vin (n := 23) (by omega) c1
        subst e
        obtain ⟨t, ht, e⟩ := vint (by omega) c2
        subst e
        rw [if_pos c3, if_pos c3, m8_atBy hS hn (by omega) ht, bd1_eq, nI_clamp (by omega), nI_clamp (by omega)]
      · rw [if_neg c3, if_neg c3]
    · rw [if_neg c2, if_neg c2]
  · rw [if_neg c1, if_neg c1]
def vLv (I : sI) (m f : Int32) : Int32 := if 0 ≤ m ∧ m ≤ 23 then (if 0 ≤ f ∧ f ≤ 12 then orB (fun t => decide (sq_fl I m.toNatClampNeg t = f)) I.1.1 else -2) else -2
theorem c7_live {T E : sT} {r : Nat} {rm ck : Int32} {told ev : jT3} {C : jT11} (hT : InT3 T told) (hE : InE3 E ev) (hrm : rm = nI r) (h : KC T E r ck C) (m f : Int32) : ∃ ck' C', fX7_live m f rm told ev ck C = some (vLv (hI T E 255 r) m f, ck', C') ∧ KC T E r ck' C' := by
  have hn : T.1 ≤ 8 := hT.1
  unfold fX7_live vLv
  rw [ih_month7, bd1_eq, ite01, pz_within, bd1_eq, ite01]
  by_cases c1 : 0 ≤ m ∧ m ≤ 23
  · rw [if_pos c1, if_pos c1]
    by_cases c2 : 0 ≤ f ∧ f ≤ 12
    · rw [if_pos c2, if_pos c2]
      obtain ⟨a, ha, e⟩ := vin (n := 23) (by omega) c1
      subst e
      obtain ⟨ck', C', e, hC⟩ := c7_told hT hE hrm h
      refine ⟨ck', C', ?_, Or.inr hC⟩
      rw [e, bd2_eq, cq_who f hC hn (by omega), bd1_eq, nI_clamp (by omega)]
    · rw [if_neg c2, if_neg c2]; exact ⟨ck, C, rfl, h⟩
  · rw [if_neg c1, if_neg c1]; exact ⟨ck, C, rfl, h⟩
theorem m8_live {E : sT} {N r : Nat} {tn rm en : Int32} {b ev te : Nat → Int32} {S : jT11} (hN : N ≤ 31) (hE : ME E en ev) (hrm : rm = nI r) (hr : r ≤ 8) (m f : Int32) : ∃ tn' S' te', fX8_live m f (nI N) rm en 0 b ev tn S te = some (vLv (hI (tx_T b N) E 255 r) m f, tn', S', te') := by
  obtain ⟨S', te', e, hS, hT⟩ := m8_find (b := b) (tn := tn) (te := te) (S := S) hN hE hrm hr
  have hn := tx_n_le (b := b) hN
  refine ⟨nI (tx_n b N), S', te', ?_⟩
  unfold fX8_live vLv
  rw [e, bd3_eq, ih_month8, bd1_eq, ite01, pz_inL f 0 12 _ _ (by decide) (by decide), bd1_eq, ite01]
  by_cases c1 : 0 ≤ m ∧ m ≤ 23
  · rw [if_pos c1, if_pos c1]
    by_cases c2 : 0 ≤ f ∧ f ≤ 12
    · obtain ⟨a, ha, e⟩ := vin (n := 23) (by omega) c1
      subst e
      rw [if_pos c2, if_pos c2, mq_who f hS hn hT.2.1 (by omega), bd1_eq, nI_clamp (by omega)]
    · rw [if_neg c2, if_neg c2]
  · rw [if_neg c1, if_neg c1]
def vLf (I : sI) (m : Int32) : Int32 := if 0 ≤ m ∧ m ≤ 23 then sq_lift I m.toNatClampNeg else -2
theorem c7_lift {T E : sT} {r : Nat} {rm ck : Int32} {told ev : jT3} {C : jT11} (hT : InT3 T told) (hE : InE3 E ev) (hrm : rm = nI r) (h : KC T E r ck C) (m : Int32) : ∃ ck' C', fX7_lift m rm told ev ck C = some (vLf (hI T E 255 r) m, ck', C') ∧ KC T E r ck' C' := by
  have hn : T.1 ≤ 8 := hT.1
  unfold fX7_lift vLf
  rw [ih_month7, bd1_eq, ite01]
  by_cases c1 : 0 ≤ m ∧ m ≤ 23
  · rw [if_pos c1, if_pos c1]
    obtain ⟨a, ha, e⟩ := vin (n := 23) (by omega) c1
    subst e
    obtain ⟨ck', C', e, hC⟩ := c7_told hT hE hrm h
    refine ⟨ck', C', ?_, Or.inr hC⟩
    rw [e, bd2_eq, cq_lift hC hn (by omega), bd1_eq, nI_clamp (by omega)]
  · rw [if_neg c1, if_neg c1]; exact ⟨ck, C, rfl, h⟩
theorem m8_lift {E : sT} {N r : Nat} {tn rm en : Int32} {b ev te : Nat → Int32} {S : jT11} (hN : N ≤ 31) (hE : ME E en ev) (hrm : rm = nI r) (hr : r ≤ 8) (m : Int32) : ∃ tn' S' te', fX8_lift m (nI N) rm en 0 b ev tn S te = some (vLf (hI (tx_T b N) E 255 r) m, tn', S', te') := by
  obtain ⟨S', te', e, hS, hT⟩ := m8_find (b := b) (tn := tn) (te := te) (S := S) hN hE hrm hr
  have hn := tx_n_le (b := b) hN
  refine ⟨nI (tx_n b N), S', te', ?_⟩
  unfold fX8_lift vLf
  rw [e, bd3_eq, ih_month8, bd1_eq, ite01]
  by_cases c1 : 0 ≤ m ∧ m ≤ 23
  · obtain ⟨a, ha, e⟩ := vin (n := 23) (by omega) c1
    subst e
    rw [if_pos c1, if_pos c1, mq_lift hS hn hT.2.1 (by omega), bd1_eq, nI_clamp (by omega)]
  · rw [if_neg c1, if_neg c1]
def sq_en (I : sI) (t : Nat) (w : Int32) : Int32 := if w = 0 then (sp_r I 24).2.2.1 t else if w = 1 then (sp_r I 24).2.2.2.1 t else if w = 2 then (sp_r I 24).2.2.2.2 t else sp_hi I 24 t
def vEn (I : sI) (k w : Int32) : Int32 := if 0 ≤ k ∧ k < nI I.1.1 then (if 0 ≤ w ∧ w ≤ 3 then sq_en I k.toNatClampNeg w else -2147483648) else -2147483648
theorem c7_ends {T E : sT} {r : Nat} {rm ck : Int32} {told ev : jT3} {C : jT11} (hT : InT3 T told) (hE : InE3 E ev) (hrm : rm = nI r) (h : KC T E r ck C) (k w : Int32) : ∃ ck' C', fX7_ends k w rm told ev ck C = some (vEn (hI T E 255 r) k w, ck', C') ∧ KC T E r ck' C' := by
  have hn : T.1 ≤ 8 := hT.1
  unfold fX7_ends vEn
  rw [ih_ten7 hT.2.1, bd1_eq, ite01, pz_within, bd1_eq, ite01, show (hI T E 255 r).1.1 = T.1 from rfl]
  by_cases c2 : 0 ≤ k ∧ k < nI T.1
  · rw [if_pos c2, if_pos c2]
    by_cases c3 : 0 ≤ w ∧ w ≤ 3
    · rw [if_pos c3, if_pos c3]
      obtain ⟨t, ht, e⟩ := vint (by omega) c2
      subst e
      obtain ⟨ck', C', e, hC⟩ := c7_told hT hE hrm h
      refine ⟨ck', C', ?_, Or.inr hC⟩
      rw [e, bd2_eq, pz_rd (by omega) (by omega), hC.2.1 t ht, pz_rd (by omega) (by omega), hC.2.2.1 t ht, pz_rd (by omega) (by omega), hC.2.2.2.1 t ht, cm_high (I := hI T E 255 r) hn (cOk_F hC) ht, bd1_eq, nI_clamp (by omega)]
      unfold sq_en
      by_cases d0 : w = 0
      · rw [if_pos d0, if_pos d0]
      · rw [if_neg d0, if_neg d0]
        by_cases d1 : w = 1
        · rw [if_pos d1, if_pos d1]
        · rw [if_neg d1, if_neg d1]
          by_cases d2 : w = 2
          · rw [if_pos d2, if_pos d2]
          · rw [if_neg d2, if_neg d2]
    · rw [if_neg c3, if_neg c3]; exact ⟨ck, C, rfl, h⟩
  · rw [if_neg c2, if_neg c2]; exact ⟨ck, C, rfl, h⟩
theorem m8_endsBy {I : sI} {S : jT11} {t : Nat} (hS : mOk I S) (hn : I.1.1 ≤ 8) (ht : t < I.1.1) (w : Int32) : fX8_endsBy (nI t) w S.2.2.2.2.1 S.2.2.2.2.2.1 S.2.2.2.2.2.2.1 S.2.2.2.2.2.2.2.1 = some (sq_en I t w) := by
  unfold fX8_endsBy sq_en
  rw [pz_rd (by omega) (by omega), hS.2.2.1 t ht, pz_rd (by omega) (by omega), hS.2.2.2.1 t ht, pz_rd (by omega) (by omega), hS.2.2.2.2.1 t ht, pz_rd (by omega) (by omega), hS.2.2.2.2.2.1 t ht]
  simp only [sm_ite]
theorem m8_ends {E : sT} {N r : Nat} {tn rm en : Int32} {b ev te : Nat → Int32} {S : jT11} (hN : N ≤ 31) (hE : ME E en ev) (hrm : rm = nI r) (hr : r ≤ 8) (k w : Int32) : ∃ tn' S' te', fX8_ends k w (nI N) rm en 0 b ev tn S te = some (vEn (hI (tx_T b N) E 255 r) k w, tn', S', te') := by
  obtain ⟨S', te', e, hS, hT⟩ := m8_find (b := b) (tn := tn) (te := te) (S := S) hN hE hrm hr
  have hn := tx_n_le (b := b) hN
  refine ⟨nI (tx_n b N), S', te', ?_⟩
  unfold fX8_ends vEn
  rw [e, bd3_eq, mm_tenant hn, bd1_eq, ite01, pz_inL w 0 3 _ _ (by decide) (by decide), bd1_eq, ite01, show (hI (tx_T b N) E 255 r).1.1 = tx_n b N from rfl]
  by_cases c2 : 0 ≤ k ∧ k < nI (tx_n b N)
  · rw [if_pos c2, if_pos c2]
    by_cases c3 : 0 ≤ w ∧ w ≤ 3
    · obtain ⟨t, ht, e⟩ := vint (by omega) c2
      subst e
      rw [if_pos c3, if_pos c3, m8_endsBy hS hn ht, bd1_eq, nI_clamp (by omega)]
    · rw [if_neg c3, if_neg c3]
  · rw [if_neg c2, if_neg c2]
def sq_su (I : sI) (w : Int32) : Int32 := if w = 0 then nI (sq_ns I) else if w = 1 then nI (sq_nf I) else if w = 2 then sq_sum (sp_r I 24).2.2.2.2 I.1.1 else sq_ot I 24
def vSu (I : sI) (w : Int32) : Int32 := if 0 ≤ w ∧ w ≤ 3 then sq_su I w else -2
theorem c7_sum {T E : sT} {r : Nat} {rm ck : Int32} {told ev : jT3} {C : jT11} (hT : InT3 T told) (hE : InE3 E ev) (hrm : rm = nI r) (h : KC T E r ck C) (w : Int32) : ∃ ck' C', fX7_sum w rm told ev ck C = some (vSu (hI T E 255 r) w, ck', C') ∧ KC T E r ck' C' := by
  have hn : T.1 ≤ 8 := hT.1
  unfold fX7_sum vSu
  rw [pz_within, bd1_eq, ite01]
  by_cases c3 : 0 ≤ w ∧ w ≤ 3
  · rw [if_pos c3, if_pos c3]
    obtain ⟨ck', C', e, hC⟩ := c7_told hT hE hrm h
    refine ⟨ck', C', ?_, Or.inr hC⟩
    rw [e, bd2_eq, cq_nset hC hn, bd1_eq, cq_fsum hC hn, bd1_eq, cq_psum hC hn, bd1_eq, cq_owed hC hn, bd1_eq]
    unfold sq_su
    by_cases d0 : w = 0
    · rw [if_pos d0, if_pos d0]
    · rw [if_neg d0, if_neg d0]
      by_cases d1 : w = 1
      · rw [if_pos d1, if_pos d1]
      · rw [if_neg d1, if_neg d1]
        by_cases d2 : w = 2
        · rw [if_pos d2, if_pos d2]
        · rw [if_neg d2, if_neg d2]
  · rw [if_neg c3, if_neg c3]; exact ⟨ck, C, rfl, h⟩
theorem m8_sumBy {I : sI} {S : jT11} {tn : Int32} (hS : mOk I S) (hn : I.1.1 ≤ 8) (ht : tn = nI I.1.1) (w : Int32) : fX8_sumBy w tn S.2.2.2.2.1 S.2.2.2.2.2.1 S.2.2.2.2.2.2.1 S.2.2.2.2.2.2.2.2.2.1 S.2.2.2.2.2.2.2.2.2.2.1 = some (sq_su I w) := by
  unfold fX8_sumBy sq_su
  rw [mq_nset hS hn ht, bd1_eq, mq_fsum hS hn ht, bd1_eq, mq_psum hS hn ht, bd1_eq, mq_owed hS hn ht, bd1_eq]
  simp only [sm_ite]
theorem m8_sum {E : sT} {N r : Nat} {tn rm en : Int32} {b ev te : Nat → Int32} {S : jT11} (hN : N ≤ 31) (hE : ME E en ev) (hrm : rm = nI r) (hr : r ≤ 8) (w : Int32) : ∃ tn' S' te', fX8_sum w (nI N) rm en 0 b ev tn S te = some (vSu (hI (tx_T b N) E 255 r) w, tn', S', te') := by
  obtain ⟨S', te', e, hS, hT⟩ := m8_find (b := b) (tn := tn) (te := te) (S := S) hN hE hrm hr
  have hn := tx_n_le (b := b) hN
  refine ⟨nI (tx_n b N), S', te', ?_⟩
  unfold fX8_sum vSu
  rw [e, bd3_eq, pz_inL w 0 3 _ _ (by decide) (by decide), bd1_eq, ite01, m8_sumBy hS hn hT.2.1, bd1_eq]
  by_cases c3 : 0 ≤ w ∧ w ≤ 3
  · rw [if_pos c3, if_pos c3]
  · rw [if_neg c3, if_neg c3]
def vTp (I : sI) : Int32 := (sq_tp (sq_fl I 23) I.1.1).1
theorem c7_top {T E : sT} {r : Nat} {rm ck : Int32} {told ev : jT3} {C : jT11} (hT : InT3 T told) (hE : InE3 E ev) (hrm : rm = nI r) (h : KC T E r ck C) : ∃ ck' C', fX7_top rm told ev ck C = some (vTp (hI T E 255 r), ck', C') ∧ KC T E r ck' C' := by
  have hn : T.1 ≤ 8 := hT.1
  obtain ⟨ck', C', e, hC⟩ := c7_told hT hE hrm h
  refine ⟨ck', C', ?_, Or.inr hC⟩
  unfold fX7_top vTp
  rw [e, bd2_eq, cq_top hC hn, bd1_eq]
theorem m8_top {E : sT} {N r : Nat} {tn rm en : Int32} {b ev te : Nat → Int32} {S : jT11} (hN : N ≤ 31) (hE : ME E en ev) (hrm : rm = nI r) (hr : r ≤ 8) : ∃ tn' S' te', fX8_top (nI N) rm en 0 b ev tn S te = some (vTp (hI (tx_T b N) E 255 r), tn', S', te') := by
  obtain ⟨S', te', e, hS, hT⟩ := m8_find (b := b) (tn := tn) (te := te) (S := S) hN hE hrm hr
  have hn := tx_n_le (b := b) hN
  refine ⟨nI (tx_n b N), S', te', ?_⟩
  unfold fX8_top vTp
  rw [e, bd3_eq, mq_top hS hn hT.2.1, bd1_eq]
def IsHd (I : sI) (r : Int32) : Prop := ∀ i, i < 32 → bt r i = (decide (0 < i ∧ i ≤ 12) && he (sq_hl I 24) i)
theorem IsHd_eq {I : sI} {a b : Int32} (ha : IsHd I a) (hb : IsHd I b) : a = b := b_ext (fun i hi => by rw [ha i hi, hb i hi])
theorem c7_heard {T E : sT} {r : Nat} {rm ck : Int32} {told ev : jT3} {C : jT11} (hT : InT3 T told) (hE : InE3 E ev) (hrm : rm = nI r) (h : KC T E r ck C) : ∃ v ck' C', fX7_heard rm told ev ck C = some (v, ck', C') ∧ KC T E r ck' C' ∧ IsHd (hI T E 255 r) v := by
  have hn : T.1 ≤ 8 := hT.1
  obtain ⟨ck', C', e, hC⟩ := c7_told hT hE hrm h
  obtain ⟨v, e2, hv⟩ := cm_heard (I := hI T E 255 r) hn (cOk_F hC)
  refine ⟨v, ck', C', ?_, Or.inr hC, hv⟩
  unfold fX7_heard
  rw [e, bd2_eq, hC.1, e2, bd1_eq]
theorem m8_heard {E : sT} {N r : Nat} {tn rm en : Int32} {b ev te : Nat → Int32} {S : jT11} (hN : N ≤ 31) (hE : ME E en ev) (hrm : rm = nI r) (hr : r ≤ 8) : ∃ v tn' S' te', fX8_heard (nI N) rm en 0 b ev tn S te = some (v, tn', S', te') ∧ IsHd (hI (tx_T b N) E 255 r) v := by
  obtain ⟨S', te', e, hS, hT⟩ := m8_find (b := b) (tn := tn) (te := te) (S := S) hN hE hrm hr
  have hn := tx_n_le (b := b) hN
  obtain ⟨v, e2, hv⟩ := mm_heard (I := hI (tx_T b N) E 255 r) hn (mOk_F hS)
  have e2' : fX8_heardNow (nI (tx_n b N)) S'.2.2.2.2.2.2.2.2.2.1 = some v := e2
  refine ⟨v, nI (tx_n b N), S', te', ?_, hv⟩
  unfold fX8_heard
  rw [e, bd3_eq, e2', bd1_eq]
def vCt (I : sI) (N : Nat) (E : sT) (r : Nat) (Z : sZ) (fi w : Int32) : Int32 := if w = 0 then nI I.1.1 else if w = 1 then nI N else if w = 2 then nI E.1 else if w = 3 then nI (sq_ns I) else if w = 4 then nI (sq_nf I) else if w = 5 then nI r else if w = 6 then nI (sq_hs I) else if w = 7 then nI Z.1 else if w = 8 then fi else -2
theorem c7_count {T E : sT} {Z : sZ} {r N : Nat} {rm ck fi : Int32} {told ev : jT3} {C : jT11} (hT : InT3 T told) (hE : InE3 E ev) (hrm : rm = nI r) (h : KC T E r ck C) (w : Int32) : ∃ ck' C', fX7_count w rm fi (nI N) told ev (nI Z.1) ck C = some (vCt (hI T E 255 r) N E r Z fi w, ck', C') ∧ KC T E r ck' C' := by
  have hn : T.1 ≤ 8 := hT.1
  have hT2 : told.1 = nI T.1 := hT.2.1
  have hE2 : ev.1 = nI E.1 := hE.2.1
  obtain ⟨ck', C', e, hC⟩ := c7_told hT hE hrm h
  unfold fX7_count vCt
  rw [e, bd2_eq, bd2_eq, bd2_eq, cq_nset hC hn, bd1_eq, cq_fsum hC hn, bd1_eq, cq_housed hC hn, bd1_eq, hT2, hE2, hrm]
  have hk := Or.inr (a := ck' = 0) hC
  by_cases d0 : w = 0
  · rw [if_pos d0, if_pos d0]; exact ⟨ck, C, rfl, h⟩
  rw [if_neg d0, if_neg d0]
  by_cases d1 : w = 1
  · rw [if_pos d1, if_pos d1]; exact ⟨ck, C, rfl, h⟩
  rw [if_neg d1, if_neg d1]
  by_cases d2 : w = 2
  · rw [if_pos d2, if_pos d2]; exact ⟨ck, C, rfl, h⟩
  rw [if_neg d2, if_neg d2]
  by_cases d3 : w = 3
  · rw [if_pos d3, if_pos d3]; exact ⟨ck', C', rfl, hk⟩
  rw [if_neg d3, if_neg d3]
  by_cases d4 : w = 4
  · rw [if_pos d4, if_pos d4]; exact ⟨ck', C', rfl, hk⟩
  rw [if_neg d4, if_neg d4]
  by_cases d5 : w = 5
  · rw [if_pos d5, if_pos d5]; exact ⟨ck, C, rfl, h⟩
  rw [if_neg d5, if_neg d5]
  by_cases d6 : w = 6
  · rw [if_pos d6, if_pos d6]; exact ⟨ck', C', rfl, hk⟩
  rw [if_neg d6, if_neg d6]
  by_cases d7 : w = 7
  · rw [if_pos d7, if_pos d7]; exact ⟨ck, C, rfl, h⟩
  rw [if_neg d7, if_neg d7]
  by_cases d8 : w = 8
  · rw [if_pos d8, if_pos d8]; exact ⟨ck, C, rfl, h⟩
  rw [if_neg d8, if_neg d8]; exact ⟨ck, C, rfl, h⟩
theorem m8_count {E : sT} {Z : sZ} {N r : Nat} {tn rm en fi : Int32} {b ev te : Nat → Int32} {S : jT11} (hN : N ≤ 31) (hE : ME E en ev) (hrm : rm = nI r) (hr : r ≤ 8) (w : Int32) : ∃ S' te', fX8_count w fi (nI N) rm en 0 (nI Z.1) b ev tn S te = some (vCt (hI (tx_T b N) E 255 r) N E r Z fi w, nI (tx_n b N), S', te') := by
  obtain ⟨S', te', e, hS, hT⟩ := m8_find (b := b) (tn := tn) (te := te) (S := S) hN hE hrm hr
  have hn := tx_n_le (b := b) hN
  refine ⟨S', te', ?_⟩
  have hE2 : en = nI E.1 := hE.2.1
  unfold fX8_count vCt
  rw [e, bd3_eq, mq_nset hS hn hT.2.1, bd1_eq, mq_fsum hS hn hT.2.1, bd1_eq, mq_housed hS hn hT.2.1, bd1_eq, hE2, hrm]
  by_cases d0 : w = 0
  · rw [if_pos d0, if_pos d0]; rfl
  rw [if_neg d0, if_neg d0]
  by_cases d1 : w = 1
  · rw [if_pos d1, if_pos d1]
  rw [if_neg d1, if_neg d1]
  by_cases d2 : w = 2
  · rw [if_pos d2, if_pos d2]
  rw [if_neg d2, if_neg d2]
  by_cases d3 : w = 3
  · rw [if_pos d3, if_pos d3]
  rw [if_neg d3, if_neg d3]
  by_cases d4 : w = 4
  · rw [if_pos d4, if_pos d4]
  rw [if_neg d4, if_neg d4]
  by_cases d5 : w = 5
  · rw [if_pos d5, if_pos d5]
  rw [if_neg d5, if_neg d5]
  by_cases d6 : w = 6
  · rw [if_pos d6, if_pos d6]
  rw [if_neg d6, if_neg d6]
  by_cases d7 : w = 7
  · rw [if_pos d7, if_pos d7]
  rw [if_neg d7, if_neg d7]
  by_cases d8 : w = 8
  · rw [if_pos d8, if_pos d8]
  rw [if_neg d8, if_neg d8]
