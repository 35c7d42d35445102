theorem cm_planW20 {T E : sT} {k r : Nat} {rm : Int32} {told ev : jT3} (hn : T.1 ≤ 8) (hk : k < T.1) (hE : InE3 E ev) (hrm : rm = nI r) : ∀ (j i F : Nat) (oth : jT3) (tr : jT11) (bs : jB3), i + j = 10 → j < F → (∃ v', InT3 (sT_w T k v') oth) → pbC (fun v => sq_ns (hI (sT_w T k v) E 255 r)) (fun v => sq_nf (hI (sT_w T k v) E 255 r)) 0 (sp_bst (fun v => 1000 * sq_ns (hI (sT_w T k v) E 255 r) + sq_nf (hI (sT_w T k v) E 255 r)) i) bs → ∃ oth' tr' bs', fX7_planWage_20 (nI k) rm told ev F oth tr bs (nI i) = some (oth', tr', bs') ∧ pbC (fun v => sq_ns (hI (sT_w T k v) E 255 r)) (fun v => sq_nf (hI (sT_w T k v) E 255 r)) 0 (sp_bst (fun v => 1000 * sq_ns (hI (sT_w T k v) E 255 r) + sq_nf (hI (sT_w T k v) E 255 r)) 10) bs' := by
  intro j
  induction j with
  | zero =>
    intro i F oth tr bs h1 h2 h3 h4
    obtain ⟨F', rfl⟩ : ∃ z, F = z + 1 := ⟨F - 1, by omega⟩
    have hi : i = 10 := by omega
    subst hi
    refine ⟨oth, tr, bs, ?_, h4⟩
    unfold fX7_planWage_20
    rw [lp_s]
    unfold bX7_planWage_20
    rw [if_pos (show (10 : Int32) ≤ nI 10 by decide)]
  | succ j ih =>
    intro i F oth tr bs h1 h2 h3 h4
    obtain ⟨F', rfl⟩ : ∃ z, F = z + 1 := ⟨F - 1, by omega⟩
    obtain ⟨v', h3⟩ := h3
    have hi : i < 10 := by omega
    have e0 : fX7_planWage_20 (nI k) rm told ev (F' + 1) oth tr bs (nI i) = bX7_planWage_20 (nI k) rm told ev (fX7_planWage_20 (nI k) rm told ev F') oth tr bs (nI i) := rfl
    rw [e0]
    unfold bX7_planWage_20
    have hT : InT3 (sT_w T k i) (oth.1, oth.2.1, oth.2.2.1, upd oth.2.2.2 k (nI i)) := InT_w (v := i) (by omega) h3
    obtain ⟨C, hC, e⟩ := cm_runI (T := sT_w T k i) (E := E) (w := 255) (r := r) (sz := tr.1) (st := tr.2.1) (fa := tr.2.2.1) (pa := tr.2.2.2.1) (fls := tr.2.2.2.2.1) (lfs := tr.2.2.2.2.2.1) (flr := tr.2.2.2.2.2.2.1) (fl := tr.2.2.2.2.2.2.2.1) (be := tr.2.2.2.2.2.2.2.2.1) (lf := tr.2.2.2.2.2.2.2.2.2.1) (od := tr.2.2.2.2.2.2.2.2.2.2.1) (tk := tr.2.2.2.2.2.2.2.2.2.2.2) hT hE hrm
    obtain ⟨bs', eo, hb⟩ := cm_offer (off := 0) (A := fun v => sq_ns (hI (sT_w T k v) E 255 r)) (B := fun v => sq_nf (hI (sT_w T k v) E 255 r)) (fun v => sq_ns_le hn) (fun v => sq_nf_le hn) (by omega) h4
    have eo' : fX0_offer (nI i) (nI (sq_ns (hI (sT_w T k i) E 255 r))) (nI (sq_nf (hI (sT_w T k i) E 255 r))) bs.1 bs.2.1 bs.2.2 = some (bs'.1, bs'.2.1, bs'.2.2) := eo
    rw [if_neg (show ¬ (10 : Int32) ≤ nI i from nI_ge (b := 10) hi (by omega)), pz_wr (by omega) (by omega)]
    dsimp only at e ⊢
    rw [e, bd12_eq, cq_nset hC hn, bd1_eq, cq_fsum hC hn, bd1_eq, eo', bd3_eq, pz_nm, pz_1]
    exact ih (i + 1) F' (oth.1, oth.2.1, oth.2.2.1, upd oth.2.2.2 k (nI i)) C bs' (by omega) (by omega) ⟨i, hT⟩ hb
theorem cm_planW {T E : sT} {k r : Nat} {rm : Int32} {told ev oth : jT3} {tr : jT11} {bs : jB3} (hk : k < T.1) (hT : InT3 T told) (hE : InE3 E ev) (hrm : rm = nI r) : ∃ oth' tr' bs', fX7_planWage (nI k) rm told ev oth tr bs = some (oth', tr', bs') ∧ pbC (fun v => sq_ns (hI (sT_w T k v) E 255 r)) (fun v => sq_nf (hI (sT_w T k v) E 255 r)) 0 (sp_bst (fun v => 1000 * sq_ns (hI (sT_w T k v) E 255 r) + sq_nf (hI (sT_w T k v) E 255 r)) 10) bs' := by
  unfold fX7_planWage fX0_clear
  rw [bd1_eq, cm_copy, bd4_eq]
  have h0 : InT3 (sT_w T k (T.2.2.2 k)) (told.1, fa_fill told.2.1 oth.2.1 8, fa_fill told.2.2.1 oth.2.2.1 8, fa_fill told.2.2.2 oth.2.2.2 8) := by rw [sT_w_id]; exact InT_fill hT
  exact cm_planW20 hT.1 hk hE hrm 10 0 jF _ tr _ (by omega) (pz_jF (by omega)) ⟨_, h0⟩ rfl
theorem cm_planS20 {T E : sT} {k r : Nat} {rm : Int32} {told ev : jT3} (hn : T.1 ≤ 8) (hk : k < T.1) (hE : InE3 E ev) (hrm : rm = nI r) : ∀ (j i F : Nat) (oth : jT3) (tr : jT11) (bs : jB3), i + j = 4 → j < F → (∃ v', InT3 (sT_s T k v') oth) → pbC (fun v => sq_ns (hI (sT_s T k v) E 255 r)) (fun v => sq_nf (hI (sT_s T k v) E 255 r)) 0 (sp_bst (fun v => 1000 * sq_ns (hI (sT_s T k v) E 255 r) + sq_nf (hI (sT_s T k v) E 255 r)) i) bs → ∃ oth' tr' bs', fX7_planSort_20 (nI k) rm told ev F oth tr bs (nI i) = some (oth', tr', bs') ∧ pbC (fun v => sq_ns (hI (sT_s T k v) E 255 r)) (fun v => sq_nf (hI (sT_s T k v) E 255 r)) 0 (sp_bst (fun v => 1000 * sq_ns (hI (sT_s T k v) E 255 r) + sq_nf (hI (sT_s T k v) E 255 r)) 4) bs' := by
  intro j
  induction j with
  | zero =>
    intro i F oth tr bs h1 h2 h3 h4
    obtain ⟨F', rfl⟩ : ∃ z, F = z + 1 := ⟨F - 1, by omega⟩
    have hi : i = 4 := by omega
    subst hi
    refine ⟨oth, tr, bs, ?_, h4⟩
    unfold fX7_planSort_20
    rw [lp_s]
    unfold bX7_planSort_20
    rw [if_pos (show (4 : Int32) ≤ nI 4 by decide)]
  | succ j ih =>
    intro i F oth tr bs h1 h2 h3 h4
    obtain ⟨F', rfl⟩ : ∃ z, F = z + 1 := ⟨F - 1, by omega⟩
    obtain ⟨v', h3⟩ := h3
    have hi : i < 4 := by omega
    have e0 : fX7_planSort_20 (nI k) rm told ev (F' + 1) oth tr bs (nI i) = bX7_planSort_20 (nI k) rm told ev (fX7_planSort_20 (nI k) rm told ev F') oth tr bs (nI i) := rfl
    rw [e0]
    unfold bX7_planSort_20
    have hT : InT3 (sT_s T k i) (oth.1, upd oth.2.1 k (nI i), oth.2.2.1, oth.2.2.2) := InT_s (v := i) (by omega) h3
    obtain ⟨C, hC, e⟩ := cm_runI (T := sT_s T k i) (E := E) (w := 255) (r := r) (sz := tr.1) (st := tr.2.1) (fa := tr.2.2.1) (pa := tr.2.2.2.1) (fls := tr.2.2.2.2.1) (lfs := tr.2.2.2.2.2.1) (flr := tr.2.2.2.2.2.2.1) (fl := tr.2.2.2.2.2.2.2.1) (be := tr.2.2.2.2.2.2.2.2.1) (lf := tr.2.2.2.2.2.2.2.2.2.1) (od := tr.2.2.2.2.2.2.2.2.2.2.1) (tk := tr.2.2.2.2.2.2.2.2.2.2.2) hT hE hrm
    obtain ⟨bs', eo, hb⟩ := cm_offer (off := 0) (A := fun v => sq_ns (hI (sT_s T k v) E 255 r)) (B := fun v => sq_nf (hI (sT_s T k v) E 255 r)) (fun v => sq_ns_le hn) (fun v => sq_nf_le hn) (by omega) h4
    have eo' : fX0_offer (nI i) (nI (sq_ns (hI (sT_s T k i) E 255 r))) (nI (sq_nf (hI (sT_s T k i) E 255 r))) bs.1 bs.2.1 bs.2.2 = some (bs'.1, bs'.2.1, bs'.2.2) := eo
    rw [if_neg (show ¬ (4 : Int32) ≤ nI i from nI_ge (b := 4) hi (by omega)), pz_wr (by omega) (by omega)]
    dsimp only at e ⊢
    rw [e, bd12_eq, cq_nset hC hn, bd1_eq, cq_fsum hC hn, bd1_eq, eo', bd3_eq, pz_nm, pz_1]
    exact ih (i + 1) F' (oth.1, upd oth.2.1 k (nI i), oth.2.2.1, oth.2.2.2) C bs' (by omega) (by omega) ⟨i, hT⟩ hb
theorem cm_planS {T E : sT} {k r : Nat} {rm : Int32} {told ev oth : jT3} {tr : jT11} {bs : jB3} (hk : k < T.1) (hT : InT3 T told) (hE : InE3 E ev) (hrm : rm = nI r) : ∃ oth' tr' bs', fX7_planSort (nI k) rm told ev oth tr bs = some (oth', tr', bs') ∧ pbC (fun v => sq_ns (hI (sT_s T k v) E 255 r)) (fun v => sq_nf (hI (sT_s T k v) E 255 r)) 0 (sp_bst (fun v => 1000 * sq_ns (hI (sT_s T k v) E 255 r) + sq_nf (hI (sT_s T k v) E 255 r)) 4) bs' := by
  unfold fX7_planSort fX0_clear
  rw [bd1_eq, cm_copy, bd4_eq]
  have h0 : InT3 (sT_s T k (T.2.1 k)) (told.1, fa_fill told.2.1 oth.2.1 8, fa_fill told.2.2.1 oth.2.2.1 8, fa_fill told.2.2.2 oth.2.2.2 8) := by rw [sT_s_id]; exact InT_fill hT
  exact cm_planS20 hT.1 hk hE hrm 4 0 jF _ tr _ (by omega) (pz_jF (by omega)) ⟨_, h0⟩ rfl
theorem cm_planR9 {T E : sT} {told ev : jT3} (hT : InT3 T told) (hE : InE3 E ev) : ∀ (j i F : Nat) (tr : jT11) (bs : jB3), i + j = 8 → j < F → pbC (fun v => sq_ns (hI T E 255 (v + 1))) (fun v => sq_nf (hI T E 255 (v + 1))) 1 (sp_bst (fun v => 1000 * sq_ns (hI T E 255 (v + 1)) + sq_nf (hI T E 255 (v + 1))) i) bs → ∃ tr' bs', fX7_planRoom_9 told ev F tr bs (nI (i + 1)) = some (tr', bs') ∧ pbC (fun v => sq_ns (hI T E 255 (v + 1))) (fun v => sq_nf (hI T E 255 (v + 1))) 1 (sp_bst (fun v => 1000 * sq_ns (hI T E 255 (v + 1)) + sq_nf (hI T E 255 (v + 1))) 8) bs' := by
  have hn := hT.1
  intro j
  induction j with
  | zero =>
    intro i F tr bs h1 h2 h4
    obtain ⟨F', rfl⟩ : ∃ z, F = z + 1 := ⟨F - 1, by omega⟩
    have hi : i = 8 := by omega
    subst hi
    refine ⟨tr, bs, ?_, h4⟩
    unfold fX7_planRoom_9
    rw [lp_s]
    unfold bX7_planRoom_9
    rw [if_pos (show (8 : Int32) < nI (8 + 1) by decide)]
  | succ j ih =>
    intro i F tr bs h1 h2 h4
    obtain ⟨F', rfl⟩ : ∃ z, F = z + 1 := ⟨F - 1, by omega⟩
    have hi : i < 8 := by omega
    have e0 : fX7_planRoom_9 told ev (F' + 1) tr bs (nI (i + 1)) = bX7_planRoom_9 told ev (fX7_planRoom_9 told ev F') tr bs (nI (i + 1)) := rfl
    rw [e0]
    unfold bX7_planRoom_9
    obtain ⟨C, hC, e⟩ := cm_runI (T := T) (E := E) (w := 255) (r := i + 1) (sz := tr.1) (st := tr.2.1) (fa := tr.2.2.1) (pa := tr.2.2.2.1) (fls := tr.2.2.2.2.1) (lfs := tr.2.2.2.2.2.1) (flr := tr.2.2.2.2.2.2.1) (fl := tr.2.2.2.2.2.2.2.1) (be := tr.2.2.2.2.2.2.2.2.1) (lf := tr.2.2.2.2.2.2.2.2.2.1) (od := tr.2.2.2.2.2.2.2.2.2.2.1) (tk := tr.2.2.2.2.2.2.2.2.2.2.2) hT hE rfl
    obtain ⟨bs', eo, hb⟩ := cm_offer (off := 1) (A := fun v => sq_ns (hI T E 255 (v + 1))) (B := fun v => sq_nf (hI T E 255 (v + 1))) (fun v => sq_ns_le hn) (fun v => sq_nf_le hn) (by omega) h4
    rw [if_neg (show ¬ (8 : Int32) < nI (i + 1) from nI_nlt (a := 8) (by omega) (by omega)), e, bd12_eq, cq_nset hC hn, bd1_eq, cq_fsum hC hn, bd1_eq, eo, bd3_eq, pz_nm, pz_1]
    exact ih (i + 1) F' C bs' (by omega) (by omega) hb
theorem cm_planR {T E : sT} {told ev : jT3} {tr : jT11} {bs : jB3} (hT : InT3 T told) (hE : InE3 E ev) : ∃ tr' bs', fX7_planRoom told ev tr bs = some (tr', bs') ∧ pbC (fun v => sq_ns (hI T E 255 (v + 1))) (fun v => sq_nf (hI T E 255 (v + 1))) 1 (sp_bst (fun v => 1000 * sq_ns (hI T E 255 (v + 1)) + sq_nf (hI T E 255 (v + 1))) 8) bs' := by
  unfold fX7_planRoom fX0_clear
  rw [bd1_eq]
  exact cm_planR9 hT hE 8 0 jF tr _ (by omega) (pz_jF (by omega)) rfl
def pbV (A B : Nat → Nat) (off : Nat) (o : Option Nat) (what : Int32) : Int32 := match o with
  | none => -1
  | some w => if what = 0 then nI (w + off) else if what = 1 then nI (A w) else nI (B w)
theorem cm_part {A B : Nat → Nat} {off w : Nat} {bs : jB3} (what : Int32) (h : pbC A B off (some w) bs) : fX0_part what bs.1 bs.2.1 bs.2.2 = some (pbV A B off (some w) what) := by
  obtain ⟨h1, h2, h3⟩ := h
  unfold fX0_part pbV
  rw [h1, h2, h3]
  simp only [sm_ite]
theorem mm_part {A B : Nat → Nat} {off w : Nat} {x y : Int32} (hA : ∀ v, A v ≤ 8) (hB : ∀ v, B v ≤ 192) (h : pbM A B off (some w) x y) : x = pbV A B off (some w) 0 ∧ y / 1000 = nI (A w) ∧ y - y / 1000 * 1000 = nI (B w) := by
  obtain ⟨h1, h2⟩ := h
  have a := hA w; have b := hB w
  subst h1; subst h2
  refine ⟨rfl, ?_, ?_⟩
  · rw [show nI (1000 * A w + B w) / (1000 : Int32) = nI ((1000 * A w + B w) / 1000) from pk_div (d := 1000) (by omega) (by omega) (by omega), show (1000 * A w + B w) / 1000 = A w by omega]
  · rw [show nI (1000 * A w + B w) - nI (1000 * A w + B w) / (1000 : Int32) * (1000 : Int32) = nI ((1000 * A w + B w) % 1000) from pk_rem (d := 1000) (by omega) (by omega) (by omega), show (1000 * A w + B w) % 1000 = B w by omega]
theorem mm_better18 {Tv : Nat → sT} {E : sT} {a P v0 r : Nat} {what w tn rm en gone : Int32} {ev : Nat → Int32} (ha : a < 24) (hP : 0 < P) (hP2 : P < 1000) (hv0 : v0 < P) (hst : ∀ v v' te, v < P → MT (Tv v') tn te → MT (Tv v) tn (upd te a (nI v))) (hn : ∀ v, (Tv v).1 ≤ 8) (hE : ME E en ev) (hw : ∀ e, e < E.1 → (bt w e = true ↔ ¬ bt gone e = true)) (hrm : rm = nI r) (hr : r ≤ 8) : ∀ (j i F : Nat) (S : jT11) (te : Nat → Int32) (x y : Int32), i + j = P → j < F → (∃ v', MT (Tv v') tn te) → pbM (fun v => sq_ns (hI (Tv v) E w r)) (fun v => sq_nf (hI (Tv v) E w r)) 0 (sp_bst (fun v => 1000 * sq_ns (hI (Tv v) E w r) + sq_nf (hI (Tv v) E w r)) i) x y → ∃ S' te', fX8_tenantBetter_18 (nI a) (nI P) what tn rm en gone ev F S te (nI v0) x y (nI i) = some (pbV (fun v => sq_ns (hI (Tv v) E w r)) (fun v => sq_nf (hI (Tv v) E w r)) 0 (sp_bst (fun v => 1000 * sq_ns (hI (Tv v) E w r) + sq_nf (hI (Tv v) E w r)) P) what, S', te') ∧ MT (Tv v0) tn te' := by
  intro j
  induction j with
  | zero =>
    intro i F S te x y h1 h2 h3 h4
    obtain ⟨F', rfl⟩ : ∃ z, F = z + 1 := ⟨F - 1, by omega⟩
    obtain ⟨v', h3⟩ := h3
    have hi : i = P := by omega
    subst hi
    obtain ⟨ww, hww⟩ : ∃ ww, sp_bst (fun v => 1000 * sq_ns (hI (Tv v) E w r) + sq_nf (hI (Tv v) E w r)) i = some ww := by
      obtain ⟨z, rfl⟩ : ∃ z, i = z + 1 := ⟨i - 1, by omega⟩
      exact sp_bst_some _ z
    rw [hww] at h4 ⊢
    obtain ⟨q1, q2, q3⟩ := mm_part (fun v => sq_ns_le (hn v)) (fun v => sq_nf_le (hn v)) h4
    refine ⟨S, upd te a (nI v0), ?_, hst v0 v' te hv0 h3⟩
    unfold fX8_tenantBetter_18
    rw [lp_s]
    unfold bX8_tenantBetter_18
    rw [if_pos (nI_le (Nat.le_refl _) (by omega)), pz_wr ha (by omega), q3, q2, q1]
    unfold pbV
    dsimp only
    by_cases c0 : what = 0
    · rw [if_pos c0, if_pos c0, if_pos rfl]
    · rw [if_neg c0, if_neg c0]
      by_cases c1 : what = 1
      · rw [if_pos c1, if_pos c1]
      · rw [if_neg c1, if_neg c1]
  | succ j ih =>
    intro i F S te x y h1 h2 h3 h4
    obtain ⟨F', rfl⟩ : ∃ z, F = z + 1 := ⟨F - 1, by omega⟩
    obtain ⟨v', h3⟩ := h3
    have hi : i < P := by omega
    have hT := hst i v' te hi h3
    obtain ⟨S', e, hS⟩ := mm_cost (S := S) hT hE hw hrm hr
    have e0 : fX8_tenantBetter_18 (nI a) (nI P) what tn rm en gone ev (F' + 1) S te (nI v0) x y (nI i) = bX8_tenantBetter_18 (nI a) (nI P) what tn rm en gone ev (fX8_tenantBetter_18 (nI a) (nI P) what tn rm en gone ev F') S te (nI v0) x y (nI i) := rfl
    rw [e0]
    unfold bX8_tenantBetter_18
    simp only [fX8_tenantBetter_52, pz_nm, pz_1]
    rw [if_neg (nI_ge hi (by omega)), pz_wr ha (by omega), e, bd2_eq, mm_lesser, bd1_eq]
    have hb := mm_offer (off := 0) (i := i) (fun v => sq_ns_le (hn v)) (fun v => sq_nf_le (hn v)) h4
    have hif : ∀ (A B : Option (Int32 × jT11 × (Nat → Int32))) (f : Int32 → Option (Int32 × jT11 × (Nat → Int32))) (u v : Int32) (c : Prop) [Decidable c], (if c then f u else f v) = f (if c then u else v) := fun _ _ f u v c _ => by
      by_cases q : c
      · rw [if_pos q, if_pos q]
      · rw [if_neg q, if_neg q]
    rw [bd1_eq]
    rw [hif none none (fun z => fX8_tenantBetter_18 (nI a) (nI P) what tn rm en gone ev F' S' (upd te a (nI i)) (nI v0) z (if nI (1000 * sq_ns (hI (Tv i) E w r) + sq_nf (hI (Tv i) E w r)) < y then nI (1000 * sq_ns (hI (Tv i) E w r) + sq_nf (hI (Tv i) E w r)) else y) (nI (i + 1)))]
    exact ih (i + 1) F' S' _ _ _ (by omega) (by omega) ⟨i, hT⟩ hb
theorem mm_widen14 {T E : sT} {what w tn en gone was : Int32} {te ev : Nat → Int32} (hT : MT T tn te) (hE : ME E en ev) (hw : ∀ e, e < E.1 → (bt w e = true ↔ ¬ bt gone e = true)) : ∀ (j i F : Nat) (rm : Int32) (S : jT11) (x y : Int32), i + j = 8 → j < F → pbM (fun v => sq_ns (hI T E w (v + 1))) (fun v => sq_nf (hI T E w (v + 1))) 1 (sp_bst (fun v => 1000 * sq_ns (hI T E w (v + 1)) + sq_nf (hI T E w (v + 1))) i) x y → ∃ S', fX8_widenBy_14 what tn en gone te ev F rm S was x y (nI (i + 1)) = some (pbV (fun v => sq_ns (hI T E w (v + 1))) (fun v => sq_nf (hI T E w (v + 1))) 1 (sp_bst (fun v => 1000 * sq_ns (hI T E w (v + 1)) + sq_nf (hI T E w (v + 1))) 8) what, was, S') := by
  have hn := hT.1
  intro j
  induction j with
  | zero =>
    intro i F rm S x y h1 h2 h4
    obtain ⟨F', rfl⟩ : ∃ z, F = z + 1 := ⟨F - 1, by omega⟩
    have hi : i = 8 := by omega
    subst hi
    obtain ⟨ww, hww⟩ := sp_bst_some (fun v => 1000 * sq_ns (hI T E w (v + 1)) + sq_nf (hI T E w (v + 1))) 7
    rw [show 7 + 1 = 8 from rfl] at hww
    rw [hww] at h4 ⊢
    obtain ⟨q1, q2, q3⟩ := mm_part (fun v => sq_ns_le hn) (fun v => sq_nf_le hn) h4
    refine ⟨S, ?_⟩
    unfold fX8_widenBy_14
    rw [lp_s]
    unfold bX8_widenBy_14
    rw [if_pos (show (9 : Int32) ≤ nI (8 + 1) by decide), q3, q2, q1]
    unfold pbV
    dsimp only
    by_cases c0 : what = 0
    · rw [if_pos c0, if_pos c0, if_pos rfl]
    · rw [if_neg c0, if_neg c0]
      by_cases c1 : what = 1
      · rw [if_pos c1, if_pos c1]
      · rw [if_neg c1, if_neg c1]
  | succ j ih =>
    intro i F rm S x y h1 h2 h4
    obtain ⟨F', rfl⟩ : ∃ z, F = z + 1 := ⟨F - 1, by omega⟩
    have hi : i < 8 := by omega
    obtain ⟨S', e, hS⟩ := mm_cost (S := S) (r := i + 1) hT hE hw rfl (by omega)
    have e0 : fX8_widenBy_14 what tn en gone te ev (F' + 1) rm S was x y (nI (i + 1)) = bX8_widenBy_14 what tn en gone te ev (fX8_widenBy_14 what tn en gone te ev F') rm S was x y (nI (i + 1)) := rfl
    rw [e0]
    unfold bX8_widenBy_14
    simp only [fX8_widenBy_46, pz_nm, pz_1]
    rw [if_neg (show ¬ (9 : Int32) ≤ nI (i + 1) from nI_ge (b := 9) (by omega) (by omega)), e, bd2_eq, mm_lesser, bd1_eq]
    have hb := mm_offer (off := 1) (i := i) (fun v => sq_ns_le hn) (fun v => sq_nf_le hn) h4
    have hif : ∀ (f : Int32 → Option (Int32 × Int32 × jT11)) (u v : Int32) (c : Prop) [Decidable c], (if c then f u else f v) = f (if c then u else v) := fun f u v c _ => by
      by_cases q : c
      · rw [if_pos q, if_pos q]
      · rw [if_neg q, if_neg q]
    rw [bd1_eq]
    rw [hif (fun z => fX8_widenBy_14 what tn en gone te ev F' (nI (i + 1)) S' was z (if nI (1000 * sq_ns (hI T E w (i + 1)) + sq_nf (hI T E w (i + 1))) < y then nI (1000 * sq_ns (hI T E w (i + 1)) + sq_nf (hI T E w (i + 1))) else y) (nI (i + 1 + 1)))]
    exact ih (i + 1) F' (nI (i + 1)) S' _ _ (by omega) (by omega) hb
