theorem lp_s {σ : Type} (z : σ) (f : σ → σ) (n : Nat) : lpN z f (n + 1) = f (lpN z f n) := rfl
def sq_fl (I : sI) (m t : Nat) : Int32 := (sp_r I (m + 1)).1 t
def sq_lf (I : sI) (m t : Nat) : Int32 := (sp_r I (m + 1)).2.1 t
def sq_ow (I : sI) (m t : Nat) : Bool := decide (¬ sq_fl I m t ≤ (if (0 : Int32) < sq_lf I m t then sq_lf I m t else 0) / 3)
def cF (I : sI) (fls : Nat → Int32) : Prop := ∀ k t, k < 24 → t < I.1.1 → fls (k * 8 + t) = sq_fl I k t
def cL (I : sI) (lfs : Nat → Int32) : Prop := ∀ k t, k < 24 → t < I.1.1 → lfs (k * 8 + t) = sq_lf I k t
theorem cOk_F {I : sI} {C : jT11} (h : cOk I C) : cF I C.2.2.2.2.1 := fun k t hk ht => (h.2.2.2.2.1 k t hk ht).1
theorem cOk_L {I : sI} {C : jT11} (h : cOk I C) : cL I C.2.2.2.2.2.1 := fun k t hk ht => (h.2.2.2.2.1 k t hk ht).2
theorem mOk_F {I : sI} {S : jT11} (h : mOk I S) : cF I S.2.2.2.2.2.2.2.2.2.1 := fun k t hk ht => by rw [Nat.mul_comm k 8]; exact (h.2.2.2.2.2.2 k t hk ht).1
theorem mOk_L {I : sI} {S : jT11} (h : mOk I S) : cL I S.2.2.2.2.2.2.2.2.2.2.1 := fun k t hk ht => by rw [Nat.mul_comm k 8]; exact (h.2.2.2.2.2.2 k t hk ht).2.1
theorem ix8 (k t : Nat) : nI k * (8 : Int32) + nI t = nI (k * 8 + t) := by rw [show nI k * (8 : Int32) = nI (k * 8) from pk_mul k 8, nI_add]
theorem xi8 (k t : Nat) : (8 : Int32) * nI k + nI t = nI (k * 8 + t) := by rw [show (8 : Int32) * nI k = nI (8 * k) from pk_mul 8 k, nI_add, Nat.mul_comm]
theorem sq_rng {I : sI} {m t : Nat} (hn : I.1.1 ≤ 8) (hm : m < 24) (ht : t < I.1.1) : sq_fl I m t = -1 ∨ ∃ f, f ≤ 12 ∧ sq_fl I m t = nI f := (sp_r_good (I := I) hn (m + 1) (by omega) t ht).2
theorem cm_floorAt {I : sI} {fls : Nat → Int32} {k t : Nat} (hn : I.1.1 ≤ 8) (h : cF I fls) (hk : k < 24) (ht : t < I.1.1) : fX1_floorAt (nI k) (nI t) fls = some (sq_fl I k t) := by
  unfold fX1_floorAt
  rw [ix8, pz_rd (by omega) (by omega), h k t hk ht]
theorem cm_leftAt {I : sI} {lfs : Nat → Int32} {k t : Nat} (hn : I.1.1 ≤ 8) (h : cL I lfs) (hk : k < 24) (ht : t < I.1.1) : fX1_leftAt (nI k) (nI t) lfs = some (sq_lf I k t) := by
  unfold fX1_leftAt
  rw [ix8, pz_rd (by omega) (by omega), h k t hk ht]
theorem cm_owes {I : sI} {fls lfs : Nat → Int32} {k t : Nat} (hn : I.1.1 ≤ 8) (h : cF I fls) (h2 : cL I lfs) (hk : k < 24) (ht : t < I.1.1) : fX1_owes (nI k) (nI t) fls lfs = some (if sq_ow I k t = true then 1 else 0) := by
  unfold fX1_owes sq_ow
  rw [cm_floorAt hn h hk ht, bd1_eq, cm_leftAt hn h2 hk ht, bd1_eq]
  by_cases c : sq_fl I k t ≤ (if (0 : Int32) < sq_lf I k t then sq_lf I k t else 0) / 3
  · rw [if_pos c, if_neg (by simpa using c)]
  · rw [if_neg c, if_pos (by simpa using c)]
theorem mm_third (v : Int32) : fX8_third v = some ((if (0 : Int32) < v then v else 0) / 3) := by
  unfold fX8_third
  rcases fa_three v 0 with h | h | h
  · rw [if_neg (fa_of_lt h).2.1, if_neg (fa_of_lt h).2.2.1]; rfl
  · subst h; rfl
  · rw [if_pos (fa_of_lt h).1, if_pos h]
theorem mm_owes {I : sI} {fb lb : Nat → Int32} {k t : Nat} (hn : I.1.1 ≤ 8) (h : cF I fb) (h2 : cL I lb) (hk : k < 24) (ht : t < I.1.1) : fX8_owes (nI (k * 8 + t)) fb lb = some (if sq_ow I k t = true then 1 else 0) := by
  unfold fX8_owes sq_ow
  rw [pz_rd (by omega) (by omega), h k t hk ht, pz_rd (by omega) (by omega), h2 k t hk ht, mm_third, bd1_eq]
  by_cases c : sq_fl I k t ≤ (if (0 : Int32) < sq_lf I k t then sq_lf I k t else 0) / 3
  · rw [if_pos c, if_neg (by simpa using c)]
  · rw [if_neg c, if_pos (by simpa using c)]
theorem orB_bt (p : Nat → Bool) : ∀ n, n ≤ 32 → ∀ i, i < 32 → bt (orB p n) i = (decide (i < n) && p i)
  | 0, _, i, _ => by rw [show orB p 0 = 0 from rfl, b_0]; simp
  | n + 1, hn, i, hi => by
    have ih := orB_bt p n (by omega) i hi
    unfold orB
    by_cases c : p n = true
    · rw [if_pos c, bt_set _ _ _ (by omega) hi, ih]
      by_cases e : i = n
      · subst e; simp [c]
      · rw [show decide (i = n) = false by simp [e], Bool.or_false, show decide (i < n + 1) = decide (i < n) by
          by_cases q : i < n
          · simp [q]; omega
          · simp [q]; omega]
    · rw [if_neg c, ih]
      by_cases e : i = n
      · subst e; simp [c]
      · rw [show decide (i < n + 1) = decide (i < n) by
          by_cases q : i < n
          · simp [q]; omega
          · simp [q]; omega]
theorem cm_fellIn {p : Nat → Bool} {flr : Nat → Int32} {n k t : Nat} (hn : n ≤ 8) (h : flr k = orB p n) (hk : k < 24) (ht : t < n) : fX1_fellIn (nI k) (nI t) flr = some (if p t = true then 1 else 0) := by
  unfold fX1_fellIn
  rw [pz_rd hk (by omega), h, show (orB p n >>> (nI t &&& (31 : Int32))) &&& (1 : Int32) = if bt (orB p n) t = true then 1 else 0 from bt_get _ t (by omega), orB_bt p n (by omega) t (by omega), ite01, sm_ite, show decide (t < n) = true by simp [ht], Bool.true_and]
theorem cm_who {I : sI} {fls : Nat → Int32} {k : Nat} (f : Int32) (hn : I.1.1 ≤ 8) (h : cF I fls) (hk : k < 24) : fX1_whoLives (nI k) f (nI I.1.1) fls = some (orB (fun t => decide (sq_fl I k t = f)) I.1.1) := by
  unfold fX1_whoLives
  refine pz_up (fun F i => fX1_whoLives_5 (nI k) f (nI I.1.1) fls F (orB (fun t => decide (sq_fl I k t = f)) i) (nI i)) I.1.1 _ (fun F i hi => ?_) (fun F => ?_) I.1.1 0 jF (by omega) (pz_jF (by omega))
  · show bX1_whoLives_5 (nI k) f (nI I.1.1) fls (fX1_whoLives_5 (nI k) f (nI I.1.1) fls F) _ _ = fX1_whoLives_5 (nI k) f (nI I.1.1) fls F (if decide (sq_fl I k i = f) = true then _ else _) _
    unfold bX1_whoLives_5
    simp only [fX1_whoLives_32, pz_nm, pz_1]
    rw [if_neg (nI_ge hi (by omega)), cm_floorAt hn h hk hi, bd1_eq]
    by_cases c : sq_fl I k i = f
    · rw [if_pos c, if_pos (by simpa using c)]
    · rw [if_neg c, if_neg (by simpa using c)]
  · unfold fX1_whoLives_5
    rw [lp_s]
    unfold bX1_whoLives_5
    rw [if_pos (nI_le (Nat.le_refl _) (by omega))]
theorem mm_who {I : sI} {fb : Nat → Int32} {k : Nat} (f : Int32) (hn : I.1.1 ≤ 8) (h : cF I fb) (hk : k < 24) : fX8_liveBy (nI k) f (nI I.1.1) fb = some (orB (fun t => decide (sq_fl I k t = f)) I.1.1) := by
  unfold fX8_liveBy
  refine pz_up (fun F i => fX8_liveBy_5 (nI k) f (nI I.1.1) fb F (orB (fun t => decide (sq_fl I k t = f)) i) (nI i)) I.1.1 _ (fun F i hi => ?_) (fun F => ?_) I.1.1 0 jF (by omega) (pz_jF (by omega))
  · show bX8_liveBy_5 (nI k) f (nI I.1.1) fb (fX8_liveBy_5 (nI k) f (nI I.1.1) fb F) _ _ = fX8_liveBy_5 (nI k) f (nI I.1.1) fb F (if decide (sq_fl I k i = f) = true then _ else _) _
    unfold bX8_liveBy_5
    simp only [fX8_liveBy_39, pz_nm, pz_1]
    rw [if_neg (nI_ge hi (by omega)), xi8, pz_rd (by omega) (by omega), h k i hk hi]
    by_cases c : sq_fl I k i = f
    · rw [if_pos c, if_pos (by simpa using c)]
    · rw [if_neg c, if_neg (by simpa using c), Int32.or_zero]
  · unfold fX8_liveBy_5
    rw [lp_s]
    unfold bX8_liveBy_5
    rw [if_pos (nI_le (Nat.le_refl _) (by omega))]
def sq_lz (f : Nat → Int32) (z : Int32) : Nat → Int32
  | 0 => z
  | i + 1 => if f i ≤ 0 then sq_lz f z i else sq_lz f z i ||| ((1 : Int32) <<< (f i &&& 31))
def sq_od (f : Nat → Int32) (o : Nat → Bool) : Nat → Int32
  | 0 => 0
  | i + 1 => if o i = true then sq_od f o i ||| ((1 : Int32) <<< (f i &&& 31)) else sq_od f o i
def sq_lift (I : sI) (m : Nat) : Int32 := sq_lz (sq_fl I m) 0 I.1.1 &&& (sq_od (sq_fl I m) (sq_ow I m) I.1.1 ^^^ (-1 : Int32))
theorem sq_ow_pos {I : sI} {m t : Nat} (h : sq_fl I m t ≤ 0) : ¬ sq_ow I m t = true := by
  unfold sq_ow
  simp only [decide_eq_true_eq, Classical.not_not]
  have h0 : (0 : Int32) ≤ (if (0 : Int32) < sq_lf I m t then sq_lf I m t else 0) / 3 := by
    by_cases c : (0 : Int32) < sq_lf I m t
    · rw [if_pos c]
      obtain ⟨j, hj, e⟩ := nI_of (x := sq_lf I m t) (fa_of_lt c).2.2.1
      rw [e, show nI j / (3 : Int32) = nI (j / 3) from pk_div (d := 3) hj (by omega) (by omega)]
      exact nI_pos' (by omega)
    · rw [if_neg c]; decide
  rw [fa_le] at h h0 ⊢
  omega
theorem cm_lift {I : sI} {fls lfs : Nat → Int32} {k : Nat} (hn : I.1.1 ≤ 8) (h : cF I fls) (h2 : cL I lfs) (hk : k < 24) : fX1_liftStops (nI k) (nI I.1.1) fls lfs = some (sq_lift I k) := by
  unfold fX1_liftStops
  refine pz_up (fun F i => fX1_liftStops_7 (nI k) (nI I.1.1) fls lfs F (sq_lz (sq_fl I k) 0 i) (sq_od (sq_fl I k) (sq_ow I k) i) (nI i)) I.1.1 _ (fun F i hi => ?_) (fun F => ?_) I.1.1 0 jF (by omega) (pz_jF (by omega))
  · show bX1_liftStops_7 (nI k) (nI I.1.1) fls lfs (fX1_liftStops_7 (nI k) (nI I.1.1) fls lfs F) _ _ _ = fX1_liftStops_7 (nI k) (nI I.1.1) fls lfs F (if sq_fl I k i ≤ 0 then _ else _) (if sq_ow I k i = true then _ else _) _
    unfold bX1_liftStops_7
    simp only [fX1_liftStops_58, fX1_liftStops_56, pz_nm, pz_1]
    rw [if_neg (nI_ge hi (by omega)), cm_floorAt hn h hk hi, bd1_eq, cm_owes hn h h2 hk hi, bd1_eq]
    by_cases c : sq_fl I k i ≤ 0
    · rw [if_pos c, if_pos c, if_neg (sq_ow_pos c)]
    · rw [if_neg c, if_neg c, ite01]
      by_cases d : sq_ow I k i = true
      · rw [if_pos d, if_pos d]
      · rw [if_neg d, if_neg d, Int32.or_zero]
  · unfold fX1_liftStops_7
    rw [lp_s]
    unfold bX1_liftStops_7
    rw [if_pos (nI_le (Nat.le_refl _) (by omega))]
    rfl
theorem mm_lift {I : sI} {fb lb : Nat → Int32} {k : Nat} (hn : I.1.1 ≤ 8) (h : cF I fb) (h2 : cL I lb) (hk : k < 24) : fX8_liftBy (nI k) (nI I.1.1) fb lb = some (sq_lift I k) := by
  unfold fX8_liftBy
  refine pz_up (fun F i => fX8_liftBy_7 (nI k) (nI I.1.1) fb lb F (sq_lz (sq_fl I k) 0 i) (sq_od (sq_fl I k) (sq_ow I k) i) (nI i)) I.1.1 _ (fun F i hi => ?_) (fun F => ?_) I.1.1 0 jF (by omega) (pz_jF (by omega))
  · show bX8_liftBy_7 (nI k) (nI I.1.1) fb lb (fX8_liftBy_7 (nI k) (nI I.1.1) fb lb F) _ _ _ = fX8_liftBy_7 (nI k) (nI I.1.1) fb lb F (if sq_fl I k i ≤ 0 then _ else _) (if sq_ow I k i = true then _ else _) _
    unfold bX8_liftBy_7
    simp only [fX8_liftBy_49, fX8_liftBy_75, pz_nm, pz_1]
    rw [if_neg (nI_ge hi (by omega)), xi8, pz_rd (by omega) (by omega), h k i hk hi]
    by_cases c : sq_fl I k i ≤ 0
    · have e1 : (if sq_ow I k i = true then (1 : Int32) else 0) = 0 := if_neg (sq_ow_pos c)
      rw [if_pos c, if_pos c, mm_owes hn h h2 hk hi, bd1_eq, e1, if_neg (show ¬ (0 : Int32) = 1 by decide), if_neg (sq_ow_pos c), Int32.or_zero, Int32.or_zero]
    · rw [if_neg c, if_neg c, pz_rd (by omega) (by omega), h k i hk hi, mm_owes hn h h2 hk hi, bd1_eq]
      by_cases d : sq_ow I k i = true
      · have e1 : (if sq_ow I k i = true then (1 : Int32) else 0) = 1 := if_pos d
        rw [e1, if_pos (show (1 : Int32) = 1 from rfl), if_pos d, pz_rd (by omega) (by omega), h k i hk hi]
      · have e1 : (if sq_ow I k i = true then (1 : Int32) else 0) = 0 := if_neg d
        rw [e1, if_neg (show ¬ (0 : Int32) = 1 by decide), if_neg d, Int32.or_zero]
  · unfold fX8_liftBy_7
    rw [lp_s]
    unfold bX8_liftBy_7
    rw [if_pos (nI_le (Nat.le_refl _) (by omega))]
    rfl
theorem cm_high {I : sI} {fls : Nat → Int32} {t : Nat} (hn : I.1.1 ≤ 8) (h : cF I fls) (ht : t < I.1.1) : fX1_highestOf (nI t) fls = some (sp_hi I 24 t) := by
  unfold fX1_highestOf
  refine pz_up (fun F i => fX1_highestOf_4 (nI t) fls F (sp_hi I i t) (nI i)) 24 _ (fun F i hi => ?_) (fun F => ?_) 24 0 jF (by omega) (pz_jF (by omega))
  · show bX1_highestOf_4 (nI t) fls (fX1_highestOf_4 (nI t) fls F) _ _ = fX1_highestOf_4 (nI t) fls F (if sp_hi I i t < sq_fl I i t then sq_fl I i t else sp_hi I i t) _
    unfold bX1_highestOf_4
    simp only [pz_nm, pz_1]
    rw [if_neg (show ¬ (24 : Int32) ≤ nI i from nI_ge (b := 24) hi (by omega)), cm_floorAt hn h hi ht, bd1_eq]
  · unfold fX1_highestOf_4
    rw [lp_s]
    unfold bX1_highestOf_4
    rw [if_pos (show (24 : Int32) ≤ nI 24 by decide)]
def sq_sb (I : sI) (t : Nat) : Bool := decide (¬ (sp_r I 24).2.2.1 t = -1)
theorem cm_sbits {I : sI} {st : Nat → Int32} (hn : I.1.1 ≤ 8) (h : eqN I.1.1 st (sp_r I 24).2.2.1) : fX1_settledBits (nI I.1.1) st = some (orB (sq_sb I) I.1.1) := by
  unfold fX1_settledBits
  refine pz_up (fun F i => fX1_settledBits_4 (nI I.1.1) st F (orB (sq_sb I) i) (nI i)) I.1.1 _ (fun F i hi => ?_) (fun F => ?_) I.1.1 0 jF (by omega) (pz_jF (by omega))
  · show bX1_settledBits_4 (nI I.1.1) st (fX1_settledBits_4 (nI I.1.1) st F) _ _ = fX1_settledBits_4 (nI I.1.1) st F (if sq_sb I i = true then _ else _) _
    unfold bX1_settledBits_4
    simp only [fX1_settledBits_28, pz_nm, pz_1]
    rw [if_neg (nI_ge hi (by omega)), pz_rd (by omega) (by omega), h i hi]
    by_cases c : (sp_r I 24).2.2.1 i = -1
    · rw [if_pos c, if_neg (by unfold sq_sb; simpa using c)]
    · rw [if_neg c, if_pos (by unfold sq_sb; simpa using c)]
  · unfold fX1_settledBits_4
    rw [lp_s]
    unfold bX1_settledBits_4
    rw [if_pos (nI_le (Nat.le_refl _) (by omega))]
def bq (b0 b1 b2 b3 b4 b5 b6 b7 : Bool) (i : Nat) : Bool := if i = 0 then b0 else if i = 1 then b1 else if i = 2 then b2 else if i = 3 then b3 else if i = 4 then b4 else if i = 5 then b5 else if i = 6 then b6 else b7
theorem bc_all : ∀ b0 b1 b2 b3 b4 b5 b6 b7 : Bool, fJ6_bitCount_0f7a4 (orB (bq b0 b1 b2 b3 b4 b5 b6 b7) 8) = some (nI (fb_ct (bq b0 b1 b2 b3 b4 b5 b6 b7) 8)) := by decide +kernel
theorem bq_is (p : Nat → Bool) : ∀ t, t < 8 → p t = bq (p 0) (p 1) (p 2) (p 3) (p 4) (p 5) (p 6) (p 7) t := by
  intro t ht
  match t, ht with
  | 0, _ => rfl
  | 1, _ => rfl
  | 2, _ => rfl
  | 3, _ => rfl
  | 4, _ => rfl
  | 5, _ => rfl
  | 6, _ => rfl
  | 7, _ => rfl
theorem orB_8 {p : Nat → Bool} {n : Nat} (hn : n ≤ 8) : orB p n = orB (fun i => decide (i < n) && p i) 8 := by
  refine b_ext (fun i hi => ?_)
  rw [orB_bt _ _ (by omega) i hi, orB_bt _ _ (by omega) i hi]
  by_cases c : i < n
  · simp [c]; omega
  · simp [c]
theorem ct_8 {p : Nat → Bool} {n : Nat} (hn : n ≤ 8) : fb_ct p n = fb_ct (fun i => decide (i < n) && p i) 8 := by
  have h := fb_ct_split (fun i => decide (i < n) && p i) n (8 - n)
  rw [show n + (8 - n) = 8 by omega] at h
  rw [h, (fb_ct_zero (p := fun k => decide (n + k < n) && p (n + k))).mpr (fun k _ => by rw [show decide (n + k < n) = false by simp, Bool.false_and]), Nat.add_zero]
  exact fb_ct_cong (fun k hk => by simp [hk])
theorem bc_orB {p : Nat → Bool} {n : Nat} (hn : n ≤ 8) : fJ6_bitCount_0f7a4 (orB p n) = some (nI (fb_ct p n)) := by
  rw [orB_8 hn, ct_8 hn]
  generalize (fun i => decide (i < n) && p i) = q
  rw [orB_cong 8 (bq_is q), fb_ct_cong (bq_is q)]
  exact bc_all _ _ _ _ _ _ _ _
def sq_ns (I : sI) : Nat := fb_ct (sq_sb I) I.1.1
theorem cm_nset {I : sI} {st : Nat → Int32} (hn : I.1.1 ≤ 8) (h : eqN I.1.1 st (sp_r I 24).2.2.1) : fX1_settledInAll (nI I.1.1) st = some (nI (sq_ns I)) := by
  unfold fX1_settledInAll
  rw [cm_sbits hn h, bd1_eq, bc_orB hn, bd1_eq]
  rfl
theorem mm_nset {I : sI} {st : Nat → Int32} (hn : I.1.1 ≤ 8) (h : eqN I.1.1 st (sp_r I 24).2.2.1) : fX8_manySettled (nI I.1.1) st = some (nI (sq_ns I)) := by
  unfold fX8_manySettled
  refine pz_up (fun F i => fX8_manySettled_4 (nI I.1.1) st F (nI (fb_ct (sq_sb I) i)) (nI i)) I.1.1 _ (fun F i hi => ?_) (fun F => ?_) I.1.1 0 jF (by omega) (pz_jF (by omega))
  · show bX8_manySettled_4 (nI I.1.1) st (fX8_manySettled_4 (nI I.1.1) st F) _ _ = fX8_manySettled_4 (nI I.1.1) st F (nI (fb_ct (sq_sb I) i + if sq_sb I i = true then 1 else 0)) _
    unfold bX8_manySettled_4
    simp only [fX8_manySettled_28, pz_nm, pz_1]
    rw [if_neg (nI_ge hi (by omega)), pz_rd (by omega) (by omega), h i hi]
    by_cases c : (sp_r I 24).2.2.1 i = -1
    · rw [if_pos c, if_neg (by unfold sq_sb; simpa using c), Int32.add_zero]; rfl
    · rw [if_neg c, if_pos (by unfold sq_sb; simpa using c)]
  · unfold fX8_manySettled_4
    rw [lp_s]
    unfold bX8_manySettled_4
    rw [if_pos (nI_le (Nat.le_refl _) (by omega))]
    rfl
def sq_sum (f : Nat → Int32) : Nat → Int32
  | 0 => 0
  | i + 1 => sq_sum f i + f i
theorem cm_fsum {n : Nat} {f g : Nat → Int32} (hn : n ≤ 8) (h : eqN n f g) : fX1_fallsInAll (nI n) f = some (sq_sum g n) := by
  unfold fX1_fallsInAll
  refine pz_up (fun F i => fX1_fallsInAll_4 (nI n) f F (sq_sum g i) (nI i)) n _ (fun F i hi => ?_) (fun F => ?_) n 0 jF (by omega) (pz_jF (by omega))
  · show bX1_fallsInAll_4 (nI n) f (fX1_fallsInAll_4 (nI n) f F) _ _ = fX1_fallsInAll_4 (nI n) f F (sq_sum g i + g i) _
    unfold bX1_fallsInAll_4
    simp only [pz_nm, pz_1]
    rw [if_neg (nI_ge hi (by omega)), pz_rd (by omega) (by omega), h i hi]
  · unfold fX1_fallsInAll_4
    rw [lp_s]
    unfold bX1_fallsInAll_4
    rw [if_pos (nI_le (Nat.le_refl _) (by omega))]
theorem cm_psum {n : Nat} {f g : Nat → Int32} (hn : n ≤ 8) (h : eqN n f g) : fX1_passedInAll (nI n) f = some (sq_sum g n) := by
  unfold fX1_passedInAll
  refine pz_up (fun F i => fX1_passedInAll_4 (nI n) f F (sq_sum g i) (nI i)) n _ (fun F i hi => ?_) (fun F => ?_) n 0 jF (by omega) (pz_jF (by omega))
  · show bX1_passedInAll_4 (nI n) f (fX1_passedInAll_4 (nI n) f F) _ _ = fX1_passedInAll_4 (nI n) f F (sq_sum g i + g i) _
    unfold bX1_passedInAll_4
    simp only [pz_nm, pz_1]
    rw [if_neg (nI_ge hi (by omega)), pz_rd (by omega) (by omega), h i hi]
  · unfold fX1_passedInAll_4
    rw [lp_s]
    unfold bX1_passedInAll_4
    rw [if_pos (nI_le (Nat.le_refl _) (by omega))]
theorem mm_fsum {n : Nat} {f g : Nat → Int32} (hn : n ≤ 8) (h : eqN n f g) : fX8_allFell (nI n) f = some (sq_sum g n) := by
  unfold fX8_allFell
  refine pz_up (fun F i => fX8_allFell_4 (nI n) f F (sq_sum g i) (nI i)) n _ (fun F i hi => ?_) (fun F => ?_) n 0 jF (by omega) (pz_jF (by omega))
  · show bX8_allFell_4 (nI n) f (fX8_allFell_4 (nI n) f F) _ _ = fX8_allFell_4 (nI n) f F (sq_sum g i + g i) _
    unfold bX8_allFell_4
    simp only [pz_nm, pz_1]
    rw [if_neg (nI_ge hi (by omega)), pz_rd (by omega) (by omega), h i hi]
  · unfold fX8_allFell_4
    rw [lp_s]
    unfold bX8_allFell_4
    rw [if_pos (nI_le (Nat.le_refl _) (by omega))]
theorem mm_psum {n : Nat} {f g : Nat → Int32} (hn : n ≤ 8) (h : eqN n f g) : fX8_allPast (nI n) f = some (sq_sum g n) := by
  unfold fX8_allPast
  refine pz_up (fun F i => fX8_allPast_4 (nI n) f F (sq_sum g i) (nI i)) n _ (fun F i hi => ?_) (fun F => ?_) n 0 jF (by omega) (pz_jF (by omega))
  · show bX8_allPast_4 (nI n) f (fX8_allPast_4 (nI n) f F) _ _ = fX8_allPast_4 (nI n) f F (sq_sum g i + g i) _
    unfold bX8_allPast_4
    simp only [pz_nm, pz_1]
    rw [if_neg (nI_ge hi (by omega)), pz_rd (by omega) (by omega), h i hi]
  · unfold fX8_allPast_4
    rw [lp_s]
    unfold bX8_allPast_4
    rw [if_pos (nI_le (Nat.le_refl _) (by omega))]
def sq_so (o : Nat → Bool) (z : Int32) : Nat → Int32
  | 0 => z
  | i + 1 => sq_so o z i + (if o i = true then 1 else 0)
def sq_ot (I : sI) : Nat → Int32
  | 0 => 0
  | m + 1 => sq_so (sq_ow I m) (sq_ot I m) I.1.1
theorem cm_owed12 {I : sI} {fls lfs : Nat → Int32} {k : Nat} {z : Int32} {q : Int32 → Int32 → Option Int32} (hn : I.1.1 ≤ 8) (h : cF I fls) (h2 : cL I lfs) (hk : k < 24) : fX1_owedInAll_12 (nI I.1.1) fls lfs q jF z (nI k) 0 = q (sq_so (sq_ow I k) z I.1.1) (nI (k + 1)) := by
  refine pz_up (fun F i => fX1_owedInAll_12 (nI I.1.1) fls lfs q F (sq_so (sq_ow I k) z i) (nI k) (nI i)) I.1.1 _ (fun F i hi => ?_) (fun F => ?_) I.1.1 0 jF (by omega) (pz_jF (by omega))
  · show bX1_owedInAll_12 (nI I.1.1) fls lfs q (fX1_owedInAll_12 (nI I.1.1) fls lfs q F) _ _ _ = fX1_owedInAll_12 (nI I.1.1) fls lfs q F (sq_so (sq_ow I k) z i + (if sq_ow I k i = true then 1 else 0)) _ _
    unfold bX1_owedInAll_12
    simp only [fX1_owedInAll_35, pz_nm, pz_1]
    rw [if_neg (nI_ge hi (by omega)), cm_owes hn h h2 hk hi, bd1_eq, ite01]
    by_cases c : sq_ow I k i = true
    · rw [if_pos c, if_pos c]
    · rw [if_neg c, if_neg c]
  · unfold fX1_owedInAll_12
    rw [lp_s]
    unfold bX1_owedInAll_12
    rw [if_pos (nI_le (Nat.le_refl _) (by omega)), pz_nm, pz_1]
theorem cm_owed {I : sI} {fls lfs : Nat → Int32} (hn : I.1.1 ≤ 8) (h : cF I fls) (h2 : cL I lfs) : fX1_owedInAll (nI I.1.1) fls lfs = some (sq_ot I 24) := by
  unfold fX1_owedInAll
  refine pz_up (fun F i => fX1_owedInAll_4 (nI I.1.1) fls lfs F (sq_ot I i) (nI i)) 24 _ (fun F i hi => ?_) (fun F => ?_) 24 0 jF (by omega) (pz_jF (by omega))
  · show bX1_owedInAll_4 (nI I.1.1) fls lfs (fX1_owedInAll_4 (nI I.1.1) fls lfs F) _ _ = _
    unfold bX1_owedInAll_4
    rw [if_neg (show ¬ (24 : Int32) ≤ nI i from nI_ge (b := 24) hi (by omega)), cm_owed12 hn h h2 hi]
    rfl
  · unfold fX1_owedInAll_4
    rw [lp_s]
    unfold bX1_owedInAll_4
    rw [if_pos (show (24 : Int32) ≤ nI 24 by decide)]
theorem mm_owed12 {I : sI} {fb lb : Nat → Int32} {k : Nat} {z : Int32} {q : Int32 → Int32 → Option Int32} (hn : I.1.1 ≤ 8) (h : cF I fb) (h2 : cL I lb) (hk : k < 24) : fX8_allOwed_12 (nI I.1.1) fb lb q jF z (nI k) 0 = q (sq_so (sq_ow I k) z I.1.1) (nI (k + 1)) := by
  refine pz_up (fun F i => fX8_allOwed_12 (nI I.1.1) fb lb q F (sq_so (sq_ow I k) z i) (nI k) (nI i)) I.1.1 _ (fun F i hi => ?_) (fun F => ?_) I.1.1 0 jF (by omega) (pz_jF (by omega))
  · show bX8_allOwed_12 (nI I.1.1) fb lb q (fX8_allOwed_12 (nI I.1.1) fb lb q F) _ _ _ = fX8_allOwed_12 (nI I.1.1) fb lb q F (sq_so (sq_ow I k) z i + (if sq_ow I k i = true then 1 else 0)) _ _
    unfold bX8_allOwed_12
    rw [if_neg (nI_ge hi (by omega)), xi8, mm_owes hn h h2 hk hi, bd1_eq, pz_nm, pz_nm, pz_1]
  · unfold fX8_allOwed_12
    rw [lp_s]
    unfold bX8_allOwed_12
    rw [if_pos (nI_le (Nat.le_refl _) (by omega)), pz_nm, pz_1]
theorem mm_owed {I : sI} {fb lb : Nat → Int32} (hn : I.1.1 ≤ 8) (h : cF I fb) (h2 : cL I lb) : fX8_allOwed (nI I.1.1) fb lb = some (sq_ot I 24) := by
  unfold fX8_allOwed
  refine pz_up (fun F i => fX8_allOwed_4 (nI I.1.1) fb lb F (sq_ot I i) (nI i)) 24 _ (fun F i hi => ?_) (fun F => ?_) 24 0 jF (by omega) (pz_jF (by omega))
  · show bX8_allOwed_4 (nI I.1.1) fb lb (fX8_allOwed_4 (nI I.1.1) fb lb F) _ _ = _
    unfold bX8_allOwed_4
    rw [if_neg (show ¬ (24 : Int32) ≤ nI i from nI_ge (b := 24) hi (by omega)), mm_owed12 hn h h2 hi]
    rfl
  · unfold fX8_allOwed_4
    rw [lp_s]
    unfold bX8_allOwed_4
    rw [if_pos (show (24 : Int32) ≤ nI 24 by decide)]
def sq_tp (f : Nat → Int32) : Nat → Int32 × Int32
  | 0 => (-1, -1)
  | i + 1 => if f i ≤ (sq_tp f i).2 then sq_tp f i else (nI i, f i)
theorem cm_top {I : sI} {fls : Nat → Int32} (hn : I.1.1 ≤ 8) (h : cF I fls) : fX1_topTenant (nI I.1.1) fls = some (sq_tp (sq_fl I 23) I.1.1).1 := by
  unfold fX1_topTenant
  refine pz_up (fun F i => fX1_topTenant_6 (nI I.1.1) fls F (sq_tp (sq_fl I 23) i).1 (sq_tp (sq_fl I 23) i).2 (nI i)) I.1.1 _ (fun F i hi => ?_) (fun F => ?_) I.1.1 0 jF (by omega) (pz_jF (by omega))
  · show bX1_topTenant_6 (nI I.1.1) fls (fX1_topTenant_6 (nI I.1.1) fls F) _ _ _ = fX1_topTenant_6 (nI I.1.1) fls F (if sq_fl I 23 i ≤ (sq_tp (sq_fl I 23) i).2 then sq_tp (sq_fl I 23) i else (nI i, sq_fl I 23 i)).1 (if sq_fl I 23 i ≤ (sq_tp (sq_fl I 23) i).2 then sq_tp (sq_fl I 23) i else (nI i, sq_fl I 23 i)).2 _
    unfold bX1_topTenant_6
    simp only [fX1_topTenant_35, pz_nm, pz_1]
    rw [if_neg (nI_ge hi (by omega)), show fX1_floorAt (23 : Int32) (nI i) fls = some (sq_fl I 23 i) from cm_floorAt (k := 23) hn h (by omega) hi, bd1_eq, bd1_eq]
    by_cases c : sq_fl I 23 i ≤ (sq_tp (sq_fl I 23) i).2
    · rw [if_pos c, if_pos c]
    · rw [if_neg c, if_neg c]
  · unfold fX1_topTenant_6
    rw [lp_s]
    unfold bX1_topTenant_6
    rw [if_pos (nI_le (Nat.le_refl _) (by omega))]
theorem mm_top {I : sI} {fl : Nat → Int32} (hn : I.1.1 ≤ 8) (h : eqN I.1.1 fl (sp_r I 24).1) : fX8_topNow (nI I.1.1) fl = some (sq_tp (sq_fl I 23) I.1.1).1 := by
  unfold fX8_topNow
  refine pz_up (fun F i => fX8_topNow_6 (nI I.1.1) fl F (sq_tp (sq_fl I 23) i).1 (sq_tp (sq_fl I 23) i).2 (nI i)) I.1.1 _ (fun F i hi => ?_) (fun F => ?_) I.1.1 0 jF (by omega) (pz_jF (by omega))
  · show bX8_topNow_6 (nI I.1.1) fl (fX8_topNow_6 (nI I.1.1) fl F) _ _ _ = fX8_topNow_6 (nI I.1.1) fl F (if sq_fl I 23 i ≤ (sq_tp (sq_fl I 23) i).2 then sq_tp (sq_fl I 23) i else (nI i, sq_fl I 23 i)).1 (if sq_fl I 23 i ≤ (sq_tp (sq_fl I 23) i).2 then sq_tp (sq_fl I 23) i else (nI i, sq_fl I 23 i)).2 _
    unfold bX8_topNow_6
    simp only [fX8_topNow_29, pz_nm, pz_1]
    rw [if_neg (nI_ge hi (by omega)), pz_rd (by omega) (by omega), show fl i = sq_fl I 23 i from h i hi]
    by_cases c : sq_fl I 23 i ≤ (sq_tp (sq_fl I 23) i).2
    · rw [if_pos c, if_pos c, pz_rd (by omega) (by omega), show fl i = sq_fl I 23 i from h i hi, mm_greater, bd1_eq, if_pos c]
    · rw [if_neg c, if_neg c, pz_rd (by omega) (by omega), show fl i = sq_fl I 23 i from h i hi, mm_greater, bd1_eq, if_neg c]
  · unfold fX8_topNow_6
    rw [lp_s]
    unfold bX8_topNow_6
    rw [if_pos (nI_le (Nat.le_refl _) (by omega))]
def sq_hs (I : sI) : Nat := fb_ct (fun t => decide (¬ sq_fl I 23 t ≤ 0)) I.1.1
theorem cm_housed {I : sI} {fls : Nat → Int32} (hn : I.1.1 ≤ 8) (h : cF I fls) : fX1_housedAtLast (nI I.1.1) fls = some (nI (sq_hs I)) := by
  unfold fX1_housedAtLast
  refine pz_up (fun F i => fX1_housedAtLast_4 (nI I.1.1) fls F (nI (fb_ct (fun t => decide (¬ sq_fl I 23 t ≤ 0)) i)) (nI i)) I.1.1 _ (fun F i hi => ?_) (fun F => ?_) I.1.1 0 jF (by omega) (pz_jF (by omega))
  · show bX1_housedAtLast_4 (nI I.1.1) fls (fX1_housedAtLast_4 (nI I.1.1) fls F) _ _ = fX1_housedAtLast_4 (nI I.1.1) fls F (nI (fb_ct (fun t => decide (¬ sq_fl I 23 t ≤ 0)) i + if decide (¬ sq_fl I 23 i ≤ 0) = true then 1 else 0)) _
    unfold bX1_housedAtLast_4
    simp only [fX1_housedAtLast_28, pz_nm, pz_1]
    rw [if_neg (nI_ge hi (by omega)), show fX1_floorAt (23 : Int32) (nI i) fls = some (sq_fl I 23 i) from cm_floorAt (k := 23) hn h (by omega) hi, bd1_eq]
    by_cases c : sq_fl I 23 i ≤ 0
    · rw [if_pos c, if_neg (by simpa using c), Int32.add_zero]; rfl
    · rw [if_neg c, if_pos (by simpa using c)]
  · unfold fX1_housedAtLast_4
    rw [lp_s]
    unfold bX1_housedAtLast_4
    rw [if_pos (nI_le (Nat.le_refl _) (by omega))]
    rfl
theorem mm_housed {I : sI} {fl : Nat → Int32} (hn : I.1.1 ≤ 8) (h : eqN I.1.1 fl (sp_r I 24).1) : fX8_manyHoused (nI I.1.1) fl = some (nI (sq_hs I)) := by
  unfold fX8_manyHoused
  refine pz_up (fun F i => fX8_manyHoused_4 (nI I.1.1) fl F (nI (fb_ct (fun t => decide (¬ sq_fl I 23 t ≤ 0)) i)) (nI i)) I.1.1 _ (fun F i hi => ?_) (fun F => ?_) I.1.1 0 jF (by omega) (pz_jF (by omega))
  · show bX8_manyHoused_4 (nI I.1.1) fl (fX8_manyHoused_4 (nI I.1.1) fl F) _ _ = fX8_manyHoused_4 (nI I.1.1) fl F (nI (fb_ct (fun t => decide (¬ sq_fl I 23 t ≤ 0)) i + if decide (¬ sq_fl I 23 i ≤ 0) = true then 1 else 0)) _
    unfold bX8_manyHoused_4
    simp only [fX8_manyHoused_27, pz_nm, pz_1]
    rw [if_neg (nI_ge hi (by omega)), pz_rd (by omega) (by omega), show fl i = sq_fl I 23 i from h i hi]
    by_cases c : sq_fl I 23 i ≤ 0
    · rw [if_pos c, if_neg (by simpa using c), Int32.add_zero]; rfl
    · rw [if_neg c, if_pos (by simpa using c)]
  · unfold fX8_manyHoused_4
    rw [lp_s]
    unfold bX8_manyHoused_4
    rw [if_pos (nI_le (Nat.le_refl _) (by omega))]
    rfl
