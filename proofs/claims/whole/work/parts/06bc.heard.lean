def sq_hl (I : sI) : Nat → Int32
  | 0 => 0
  | m + 1 => sq_lz (sq_fl I m) (sq_hl I m) I.1.1
def HB (x : Int32) : Prop := ∀ i, i < 32 → bt x i = true → 1 ≤ i ∧ i ≤ 12
theorem HB_lz {f : Nat → Int32} {z : Int32} (hz : HB z) : ∀ n, (∀ t, t < n → f t = -1 ∨ ∃ j, j ≤ 12 ∧ f t = nI j) → HB (sq_lz f z n)
  | 0, _ => hz
  | n + 1, h => by
    have ih := HB_lz hz n (fun t ht => h t (by omega))
    unfold sq_lz
    by_cases c : f n ≤ 0
    · rw [if_pos c]; exact ih
    · rw [if_neg c]
      rcases h n (by omega) with q | ⟨j, hj, e⟩
      · rw [q] at c; exact absurd (by decide) c
      · intro i hi hb
        rw [e] at c hb
        rw [bt_set _ _ _ (by omega) hi] at hb
        simp only [Bool.or_eq_true, decide_eq_true_eq] at hb
        rcases hb with hb | hb
        · exact ih i hi hb
        · subst hb
          refine ⟨?_, hj⟩
          rcases Nat.eq_zero_or_pos i with q | q
          · subst q; exact absurd (by decide) c
          · exact q
theorem HB_hl {I : sI} (hn : I.1.1 ≤ 8) : ∀ m, m ≤ 24 → HB (sq_hl I m)
  | 0, _ => fun i _ h => by rw [show sq_hl I 0 = 0 from rfl, b_0] at h; cases h
  | m + 1, hm => HB_lz (HB_hl hn m (by omega)) I.1.1 (fun t ht => sq_rng hn (by omega) ht)
def ha (x : Int32) (f : Nat) : Bool := decide (0 < fb_ct (fun g => decide (f < g) && bt x g) 13)
def he (x : Int32) (f : Nat) : Bool := !bt x f && ha x f
theorem ha_iff (x : Int32) (f : Nat) : ha x f = true ↔ ∃ g, f < g ∧ g ≤ 12 ∧ bt x g = true := by
  unfold ha
  rw [decide_eq_true_eq, fb_ct_pos]
  constructor
  · rintro ⟨g, h1, h2⟩
    simp only [Bool.and_eq_true, decide_eq_true_eq] at h2
    exact ⟨g, h2.1, by omega, h2.2⟩
  · rintro ⟨g, h1, h2, h3⟩
    exact ⟨g, by omega, by simp [h1, h3]⟩
theorem ha_step (x : Int32) (f : Nat) (hf : f ≤ 11) : ha x f = (bt x (f + 1) || ha x (f + 1)) := by
  apply Bool.eq_iff_iff.mpr
  rw [Bool.or_eq_true, ha_iff, ha_iff]
  constructor
  · rintro ⟨g, h1, h2, h3⟩
    by_cases e : g = f + 1
    · subst e; exact Or.inl h3
    · exact Or.inr ⟨g, by omega, h2, h3⟩
  · rintro (h | ⟨g, h1, h2, h3⟩)
    · exact ⟨f + 1, by omega, by omega, h⟩
    · exact ⟨g, by omega, h2, h3⟩
theorem cm_heard64 {sz x : Int32} {fls : Nat → Int32} : ∀ (f F : Nat) (i2 i3 : Int32), f ≤ 12 → f < F → (∀ i, i < 32 → bt i2 i = (decide (f < i ∧ i ≤ 12) && he x i)) → (i3 = if ha x f = true then 1 else 0) → ∃ r, fX1_heardFloors_64 sz fls F x i2 i3 (nI f) = some r ∧ ∀ i, i < 32 → bt r i = (decide (0 < i ∧ i ≤ 12) && he x i) := by
  intro f
  induction f with
  | zero =>
    intro F i2 i3 h1 h2 h3 h4
    obtain ⟨F', rfl⟩ : ∃ z, F = z + 1 := ⟨F - 1, by omega⟩
    refine ⟨i2, ?_, h3⟩
    have e0 : fX1_heardFloors_64 sz fls (F' + 1) x i2 i3 (nI 0) = bX1_heardFloors_64 sz fls (fX1_heardFloors_64 sz fls F') x i2 i3 (nI 0) := rfl
    rw [e0]
    unfold bX1_heardFloors_64
    rw [if_pos (show nI 0 ≤ (0 : Int32) by decide)]
  | succ f ih =>
    intro F i2 i3 h1 h2 h3 h4
    obtain ⟨F', rfl⟩ : ∃ z, F = z + 1 := ⟨F - 1, by omega⟩
    have e0 : fX1_heardFloors_64 sz fls (F' + 1) x i2 i3 (nI (f + 1)) = bX1_heardFloors_64 sz fls (fX1_heardFloors_64 sz fls F') x i2 i3 (nI (f + 1)) := rfl
    have hst := ha_step x f (by omega)
    rw [e0]
    unfold bX1_heardFloors_64
    simp only [fX1_heardFloors_94, pz_nm]
    rw [if_neg (nI_nle (by omega) (by omega)), show nI (f + 1) + (-1 : Int32) = nI f from pk_m1 f, show (x >>> (nI (f + 1) &&& (31 : Int32))) &&& (1 : Int32) = if bt x (f + 1) = true then 1 else 0 from bt_get x (f + 1) (by omega), ite01]
    by_cases c : bt x (f + 1) = true
    · rw [if_pos c]
      refine ih F' i2 1 (by omega) (by omega) (fun i hi => ?_) (by rw [hst, c]; rfl)
      rw [h3 i hi]
      by_cases e : i = f + 1
      · subst e; unfold he; simp [c]
      · congr 1; exact decide_eq_decide.mpr (by omega)
    · rw [if_neg c, h4, ite01]
      have hc : bt x (f + 1) = false := by simpa using c
      by_cases d : ha x (f + 1) = true
      · rw [if_pos d]
        refine ih F' _ _ (by omega) (by omega) (fun i hi => ?_) (by rw [hst, hc, Bool.false_or])
        rw [bt_set _ _ _ (by omega) hi, h3 i hi]
        by_cases e : i = f + 1
        · subst e
          have : he x (f + 1) = true := by unfold he; simp [hc, d]
          rw [this]
          simp
          omega
        · rw [show decide (i = f + 1) = false by simp [e], Bool.or_false]
          congr 1; exact decide_eq_decide.mpr (by omega)
      · rw [if_neg d]
        refine ih F' _ _ (by omega) (by omega) (fun i hi => ?_) (by rw [hst, hc, Bool.false_or])
        rw [h3 i hi]
        by_cases e : i = f + 1
        · subst e
          have : he x (f + 1) = false := by unfold he; simp [d]
          rw [this, Bool.and_false, Bool.and_false]
        · congr 1; exact decide_eq_decide.mpr (by omega)
theorem sh0 {x : Int32} {f : Nat} (hx : HB x) (hf : f < 32) (hb : ¬ bt x f = true) : (x >>> (nI f &&& (31 : Int32)) = 0) ↔ ¬ ha x f = true := by
  constructor
  · intro h q
    obtain ⟨g, h1, h2, h3⟩ := (ha_iff x f).mp q
    have e := b_sshr f hf x (i := g - f) (by omega)
    rw [h, b_0, if_pos (by omega), show f + (g - f) = g by omega, h3] at e
    cases e
  · intro h
    refine b_ext (fun i hi => ?_)
    rw [b_0, b_sshr f hf x hi]
    by_cases c : f + i < 32
    · rw [if_pos c]
      by_cases d : bt x (f + i) = true
      · exfalso
        obtain ⟨h1, h2⟩ := hx _ c d
        by_cases e : i = 0
        · subst e; exact hb d
        · exact h ((ha_iff x f).mpr ⟨f + i, by omega, h2, d⟩)
      · simpa using d
    · rw [if_neg c]
      by_cases d : bt x 31 = true
      · have := hx 31 (by omega) d; omega
      · simpa using d
theorem mm_heard65 {sz x : Int32} {fb : Nat → Int32} (hx : HB x) : ∀ (j f F : Nat) (i2 : Int32), f + j = 13 → j < F → (∀ i, i < 32 → bt i2 i = (decide (0 < i ∧ i < f) && he x i)) → 1 ≤ f → ∃ r, fX8_heardNow_65 sz fb F x i2 (nI f) = some r ∧ ∀ i, i < 32 → bt r i = (decide (0 < i ∧ i ≤ 12) && he x i) := by
  intro j
  induction j with
  | zero =>
    intro f F i2 h1 h2 h3 h4
    obtain ⟨F', rfl⟩ : ∃ z, F = z + 1 := ⟨F - 1, by omega⟩
    have hf : f = 13 := by omega
    subst hf
    refine ⟨i2, ?_, fun i hi => ?_⟩
    · have e0 : fX8_heardNow_65 sz fb (F' + 1) x i2 (nI 13) = bX8_heardNow_65 sz fb (fX8_heardNow_65 sz fb F') x i2 (nI 13) := rfl
      rw [e0]
      unfold bX8_heardNow_65
      rw [if_pos (show (13 : Int32) ≤ nI 13 by decide)]
    · rw [h3 i hi]
      congr 1; exact decide_eq_decide.mpr (by omega)
  | succ j ih =>
    intro f F i2 h1 h2 h3 h4
    obtain ⟨F', rfl⟩ : ∃ z, F = z + 1 := ⟨F - 1, by omega⟩
    have e0 : fX8_heardNow_65 sz fb (F' + 1) x i2 (nI f) = bX8_heardNow_65 sz fb (fX8_heardNow_65 sz fb F') x i2 (nI f) := rfl
    rw [e0]
    unfold bX8_heardNow_65
    simp only [fX8_heardNow_92, fX8_heardNow_93, pz_nm, pz_1]
    rw [if_neg (show ¬ (13 : Int32) ≤ nI f from nI_ge (b := 13) (by omega) (by omega)), mm_isIn x f (by omega), bd1_eq, ite01, Int32.or_zero]
    have same : ¬ he x f = true → ∃ r, fX8_heardNow_65 sz fb F' x i2 (nI (f + 1)) = some r ∧ ∀ i, i < 32 → bt r i = (decide (0 < i ∧ i ≤ 12) && he x i) := fun hh => by
      refine ih (f + 1) F' i2 (by omega) (by omega) (fun i hi => ?_) (by omega)
      rw [h3 i hi]
      by_cases e : i = f
      · subst e
        have : he x i = false := by simpa using hh
        rw [this, Bool.and_false, Bool.and_false]
      · congr 1; exact decide_eq_decide.mpr (by omega)
    by_cases c : bt x f = true
    · rw [if_pos c]
      exact same (by unfold he; simp [c])
    · rw [if_neg c]
      by_cases d : ha x f = true
      · rw [if_neg (fun q => (sh0 hx (by omega) c).mp q d)]
        refine ih (f + 1) F' _ (by omega) (by omega) (fun i hi => ?_) (by omega)
        rw [bt_set _ _ _ (by omega) hi, h3 i hi]
        by_cases e : i = f
        · subst e
          have : he x i = true := by unfold he; simp [c, d]
          rw [this]
          simp
          omega
        · rw [show decide (i = f) = false by simp [e], Bool.or_false]
          congr 1; exact decide_eq_decide.mpr (by omega)
      · rw [if_pos ((sh0 hx (by omega) c).mpr d)]
        exact same (by unfold he; simp [d])
theorem cm_heard12 {I : sI} {fls : Nat → Int32} {k : Nat} {z : Int32} {q : Int32 → Int32 → Option Int32} (hn : I.1.1 ≤ 8) (h : cF I fls) (hk : k < 24) : fX1_heardFloors_12 (nI I.1.1) fls q jF z (nI k) 0 = q (sq_lz (sq_fl I k) z I.1.1) (nI (k + 1)) := by
  refine pz_up (fun F i => fX1_heardFloors_12 (nI I.1.1) fls q F (sq_lz (sq_fl I k) z i) (nI k) (nI i)) I.1.1 _ (fun F i hi => ?_) (fun F => ?_) I.1.1 0 jF (by omega) (pz_jF (by omega))
  · show bX1_heardFloors_12 (nI I.1.1) fls q (fX1_heardFloors_12 (nI I.1.1) fls q F) _ _ _ = fX1_heardFloors_12 (nI I.1.1) fls q F (if sq_fl I k i ≤ 0 then _ else _) _ _
    unfold bX1_heardFloors_12
    simp only [fX1_heardFloors_42, pz_nm, pz_1]
    rw [if_neg (nI_ge hi (by omega)), cm_floorAt hn h hk hi, bd1_eq]
    by_cases c : sq_fl I k i ≤ 0
    · rw [if_pos c, if_pos c, Int32.or_zero]
    · rw [if_neg c, if_neg c]
  · unfold fX1_heardFloors_12
    rw [lp_s]
    unfold bX1_heardFloors_12
    rw [if_pos (nI_le (Nat.le_refl _) (by omega)), pz_nm, pz_1]
theorem mm_heard12 {I : sI} {fb : Nat → Int32} {k : Nat} {z : Int32} {q : Int32 → Int32 → Option Int32} (hn : I.1.1 ≤ 8) (h : cF I fb) (hk : k < 24) : fX8_heardNow_12 (nI I.1.1) fb q jF z (nI k) 0 = q (sq_lz (sq_fl I k) z I.1.1) (nI (k + 1)) := by
  refine pz_up (fun F i => fX8_heardNow_12 (nI I.1.1) fb q F (sq_lz (sq_fl I k) z i) (nI k) (nI i)) I.1.1 _ (fun F i hi => ?_) (fun F => ?_) I.1.1 0 jF (by omega) (pz_jF (by omega))
  · show bX8_heardNow_12 (nI I.1.1) fb q (fX8_heardNow_12 (nI I.1.1) fb q F) _ _ _ = fX8_heardNow_12 (nI I.1.1) fb q F (if sq_fl I k i ≤ 0 then _ else _) _ _
    unfold bX8_heardNow_12
    simp only [fX8_heardNow_47, pz_nm, pz_1]
    rw [if_neg (nI_ge hi (by omega)), xi8, pz_rd (by omega) (by omega), h k i hk hi]
    by_cases c : sq_fl I k i ≤ 0
    · rw [if_pos c, if_pos c, Int32.or_zero]
    · rw [if_neg c, if_neg c]
  · unfold fX8_heardNow_12
    rw [lp_s]
    unfold bX8_heardNow_12
    rw [if_pos (nI_le (Nat.le_refl _) (by omega)), pz_nm, pz_1]
theorem cm_heard {I : sI} {fls : Nat → Int32} (hn : I.1.1 ≤ 8) (h : cF I fls) : ∃ r, fX1_heardFloors (nI I.1.1) fls = some r ∧ ∀ i, i < 32 → bt r i = (decide (0 < i ∧ i ≤ 12) && he (sq_hl I 24) i) := by
  obtain ⟨r, e, hr⟩ := cm_heard64 (sz := nI I.1.1) (x := sq_hl I 24) (fls := fls) 12 jF 0 0 (by omega) (pz_jF (by omega)) (fun i hi => by
    rw [b_0, show decide (12 < i ∧ i ≤ 12) = false from decide_eq_false (by omega), Bool.false_and]) (by
    rw [if_neg]
    intro q
    obtain ⟨g, h1, h2, -⟩ := (ha_iff _ _).mp q
    omega)
  refine ⟨r, ?_, hr⟩
  rw [← e]
  unfold fX1_heardFloors
  refine pz_up (fun F i => fX1_heardFloors_4 (nI I.1.1) fls F (sq_hl I i) (nI i)) 24 _ (fun F i hi => ?_) (fun F => ?_) 24 0 jF (by omega) (pz_jF (by omega))
  · show bX1_heardFloors_4 (nI I.1.1) fls (fX1_heardFloors_4 (nI I.1.1) fls F) _ _ = _
    unfold bX1_heardFloors_4
    rw [if_neg (show ¬ (24 : Int32) ≤ nI i from nI_ge (b := 24) hi (by omega)), cm_heard12 hn h hi]
    rfl
  · unfold fX1_heardFloors_4
    rw [lp_s]
    unfold bX1_heardFloors_4
    rw [if_pos (show (24 : Int32) ≤ nI 24 by decide)]
    rfl
theorem mm_heard {I : sI} {fb : Nat → Int32} (hn : I.1.1 ≤ 8) (h : cF I fb) : ∃ r, fX8_heardNow (nI I.1.1) fb = some r ∧ ∀ i, i < 32 → bt r i = (decide (0 < i ∧ i ≤ 12) && he (sq_hl I 24) i) := by
  obtain ⟨r, e, hr⟩ := mm_heard65 (sz := nI I.1.1) (x := sq_hl I 24) (fb := fb) (HB_hl hn 24 (by omega)) 12 1 jF 0 (by omega) (pz_jF (by omega)) (fun i hi => by
    rw [b_0, show decide (0 < i ∧ i < 1) = false from decide_eq_false (by omega), Bool.false_and]) (by omega)
  refine ⟨r, ?_, hr⟩
  rw [← e]
  unfold fX8_heardNow
  refine pz_up (fun F i => fX8_heardNow_4 (nI I.1.1) fb F (sq_hl I i) (nI i)) 24 _ (fun F i hi => ?_) (fun F => ?_) 24 0 jF (by omega) (pz_jF (by omega))
  · show bX8_heardNow_4 (nI I.1.1) fb (fX8_heardNow_4 (nI I.1.1) fb F) _ _ = _
    unfold bX8_heardNow_4
    rw [if_neg (show ¬ (24 : Int32) ≤ nI i from nI_ge (b := 24) hi (by omega)), mm_heard12 hn h hi]
    rfl
  · unfold fX8_heardNow_4
    rw [lp_s]
    unfold bX8_heardNow_4
    rw [if_pos (show (24 : Int32) ≤ nI 24 by decide)]
    rfl
theorem cmm_heard {I : sI} {fls fb : Nat → Int32} (hn : I.1.1 ≤ 8) (h : cF I fls) (h2 : cF I fb) : ∃ r, fX1_heardFloors (nI I.1.1) fls = some r ∧ fX8_heardNow (nI I.1.1) fb = some r := by
  obtain ⟨r, e, hr⟩ := cm_heard hn h
  obtain ⟨r', e', hr'⟩ := mm_heard hn h2
  have : r = r' := b_ext (fun i hi => by rw [hr i hi, hr' i hi])
  subst this
  exact ⟨r, e, e'⟩
