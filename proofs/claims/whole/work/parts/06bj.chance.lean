def wtN (c w : Nat) : Nat → Nat
  | 0 => 1
  | e + 1 => wtN c w e * (if bt (nI w) e = true then c else 16 - c)
theorem wtN_le {c w : Nat} (hc : c ≤ 16) : ∀ e, wtN c w e ≤ 16 ^ e
  | 0 => Nat.le_refl 1
  | e + 1 => by
    unfold wtN
    rw [Nat.pow_succ]
    exact Nat.mul_le_mul (wtN_le hc e) (by split <;> omega)
theorem cm_weight {c w n : Nat} (hc : c ≤ 16) (hn : n ≤ 8) : fX7_weight (nI c) (nI w) (nI n) = some (lN (wtN c w n)) := by
  unfold fX7_weight
  refine pz_up (fun F i => fX7_weight_5 (nI c) (nI w) (nI n) F (lN (wtN c w i)) (nI i)) n _ (fun F i hi => ?_) (fun F => ?_) n 0 jF (by omega) (pz_jF (by omega))
  · show bX7_weight_5 (nI c) (nI w) (nI n) (fX7_weight_5 (nI c) (nI w) (nI n) F) _ _ = fX7_weight_5 (nI c) (nI w) (nI n) F (lN (wtN c w i * (if bt (nI w) i = true then c else 16 - c))) _
    unfold bX7_weight_5
    simp only [fX7_weight_37, pz_nm, pz_1]
    rw [if_neg (nI_ge hi (by omega)), show (nI w >>> (nI i &&& (31 : Int32))) &&& (1 : Int32) = if bt (nI w) i = true then 1 else 0 from bt_get _ i (by omega), ite01, show (16 : Int32) - nI c = nI (16 - c) from pk_sub (a := 16) hc, nI_l (by omega), nI_l (by omega), lN_mul, lN_mul]
    by_cases d : bt (nI w) i = true
    · rw [if_pos d, if_pos d]
    · rw [if_neg d, if_neg d]
  · unfold fX7_weight_5
    rw [lp_s]
    unfold bX7_weight_5
    rw [if_pos (nI_le (Nat.le_refl _) (by omega))]
theorem ckZL_ok {α : Type} {b : Nat} {k : Option α} (h : 0 < b) (hb : b < 2 ^ 63) : ckZL (lN b) k = k := by
  unfold ckZL
  rw [if_neg (show ¬ lN b = (0 : Int64) from fun q => by
    have := (pk_lEQ (b := 0) hb (by omega)).mp q
    omega)]
theorem mod_half {b c : Nat} (hc : 0 < c) (hcb : c ≤ b) : 2 * (b % c) < b := by
  have h1 := Nat.mod_lt b hc
  have h2 := Nat.div_add_mod b c
  have h3 : 1 ≤ b / c := (Nat.one_le_div_iff hc).mpr hcb
  have h4 : c * 1 ≤ c * (b / c) := Nat.mul_le_mul_left c h3
  omega
theorem gcd_step (a b : Nat) : Nat.gcd b (a % b) = Nat.gcd a b := by
  rw [Nat.gcd_comm b (a % b), ← Nat.gcd_rec, Nat.gcd_comm]
theorem cm_gcd1 {l0 l2 : Int64} {a b s F : Nat} (ha : a < 2 ^ 63) (hb : b < 2 ^ 63) (h0 : 0 < b) (hs : s < 200) : fX7_commonDivisor_9 l0 l2 (F + 1) (lN a) (lN b) (nI s) = fX7_commonDivisor_9 l0 l2 F (lN b) (lN (a % b)) (nI (s + 1)) := by
  have e0 : fX7_commonDivisor_9 l0 l2 (F + 1) (lN a) (lN b) (nI s) = bX7_commonDivisor_9 l0 l2 (fX7_commonDivisor_9 l0 l2 F) (lN a) (lN b) (nI s) := rfl
  rw [e0]
  unfold bX7_commonDivisor_9
  rw [if_neg (show ¬ (200 : Int32) ≤ nI s from nI_ge (b := 200) hs (by omega)), if_neg (fun q => by
    have := (pk_lLE (b := 0) hb (by omega)).mp ((lg_cmp_le _ _).mp q)
    omega), ckZL_ok h0 hb, pk_lRem ha h0 hb, pz_nm, pz_nm, pz_1]
theorem cm_gcd0 {l0 l2 : Int64} {a s F : Nat} (hs : s < 200) : fX7_commonDivisor_9 l0 l2 (F + 1) (lN a) (lN 0) (nI s) = some (if lN a < (1 : Int64) then 1 else lN a) := by
  have e0 : fX7_commonDivisor_9 l0 l2 (F + 1) (lN a) (lN 0) (nI s) = bX7_commonDivisor_9 l0 l2 (fX7_commonDivisor_9 l0 l2 F) (lN a) (lN 0) (nI s) := rfl
  rw [e0]
  unfold bX7_commonDivisor_9 fX7_commonDivisor_45
  rw [if_neg (show ¬ (200 : Int32) ≤ nI s from nI_ge (b := 200) hs (by omega)), if_pos (show lg_cmp (lN 0) (0 : Int64) ≤ 0 from (lg_cmp_le _ _).mpr (Int64.le_refl _))]
theorem cm_gcd {l0 l2 : Int64} : ∀ (k a b s F : Nat), b < 2 ^ k → a < 2 ^ 63 → b < 2 ^ 63 → s + 2 * k + 2 ≤ 200 → 2 * k + 2 < F → fX7_commonDivisor_9 l0 l2 F (lN a) (lN b) (nI s) = some (if lN (Nat.gcd a b) < (1 : Int64) then 1 else lN (Nat.gcd a b)) := by
  intro k
  induction k with
  | zero =>
    intro a b s F h1 h2 h3 h4 h5
    obtain ⟨F', rfl⟩ : ∃ z, F = z + 1 := ⟨F - 1, by omega⟩
    have hb : b = 0 := by have : (2 : Nat) ^ 0 = 1 := rfl; omega
    subst hb
    rw [cm_gcd0 (by omega), Nat.gcd_zero_right]
  | succ k ih =>
    intro a b s F h1 h2 h3 h4 h5
    obtain ⟨F', rfl⟩ : ∃ z, F = z + 1 + 1 := ⟨F - 2, by omega⟩
    rcases Nat.eq_zero_or_pos b with hb | hb
    · subst hb; rw [cm_gcd0 (by omega), Nat.gcd_zero_right]
    · have hc := Nat.mod_lt a hb
      rw [cm_gcd1 h2 h3 hb (by omega), ← gcd_step a b]
      rcases Nat.eq_zero_or_pos (a % b) with hz | hz
      · rw [hz, cm_gcd0 (by omega), Nat.gcd_zero_right]
      · have hm := mod_half hz (Nat.le_of_lt hc)
        rw [cm_gcd1 h3 (by omega) hz (by omega), ← gcd_step b (a % b)]
        rw [Nat.pow_succ] at h1
        exact ih (a % b) (b % (a % b)) (s + 1 + 1) F' (by omega) (by omega) (by omega) (by omega) (by omega)
theorem mm_part1 {l0 l2 : Int64} {what : Int32} {a b F : Nat} (ha : a < 2 ^ 63) (hb : b < 2 ^ 63) (h0 : 0 < b) : fX8_part_6 l0 l2 what (F + 1) (lN a) (lN b) = fX8_part_6 l0 l2 what F (lN b) (lN (a % b)) := by
  have e0 : fX8_part_6 l0 l2 what (F + 1) (lN a) (lN b) = bX8_part_6 l0 l2 what (fX8_part_6 l0 l2 what F) (lN a) (lN b) := rfl
  rw [e0]
  unfold bX8_part_6
  rw [if_neg (fun q => by
    have := (pk_lEQ (b := 0) hb (by omega)).mp ((lg_cmp_eq _ _).mp q)
    omega), ckZL_ok h0 hb, pk_lRem ha h0 hb, pz_nm]
theorem mm_part0 {l0 l2 : Int64} {what : Int32} {a F : Nat} (ha : a < 2 ^ 63) (h0 : 0 < a) : fX8_part_6 l0 l2 what (F + 1) (lN a) (lN 0) = some (if what = 0 then l0 / lN a else l2 / lN a) := by
  have e0 : fX8_part_6 l0 l2 what (F + 1) (lN a) (lN 0) = bX8_part_6 l0 l2 what (fX8_part_6 l0 l2 what F) (lN a) (lN 0) := rfl
  rw [e0]
  unfold bX8_part_6
  rw [if_pos (show lg_cmp (lN 0) (0 : Int64) = 0 from (lg_cmp_eq _ _).mpr rfl), ckZL_ok h0 ha, ckZL_ok h0 ha, sm_ite]
theorem mm_part6 {l0 l2 : Int64} {what : Int32} : ∀ (k a b F : Nat), b < 2 ^ k → a < 2 ^ 63 → b < 2 ^ 63 → 0 < a ∨ 0 < b → 2 * k + 2 < F → fX8_part_6 l0 l2 what F (lN a) (lN b) = some (if what = 0 then l0 / lN (Nat.gcd a b) else l2 / lN (Nat.gcd a b)) := by
  intro k
  induction k with
  | zero =>
    intro a b F h1 h2 h3 h4 h5
    obtain ⟨F', rfl⟩ : ∃ z, F = z + 1 := ⟨F - 1, by omega⟩
    have hb : b = 0 := by have : (2 : Nat) ^ 0 = 1 := rfl; omega
    subst hb
    rw [mm_part0 h2 (by omega), Nat.gcd_zero_right]
  | succ k ih =>
    intro a b F h1 h2 h3 h4 h5
    obtain ⟨F', rfl⟩ : ∃ z, F = z + 1 + 1 := ⟨F - 2, by omega⟩
    rcases Nat.eq_zero_or_pos b with hb | hb
    · subst hb; rw [mm_part0 h2 (by omega), Nat.gcd_zero_right]
    · have hc := Nat.mod_lt a hb
      rw [mm_part1 h2 h3 hb, ← gcd_step a b]
      rcases Nat.eq_zero_or_pos (a % b) with hz | hz
      · rw [hz, mm_part0 h3 hb, Nat.gcd_zero_right]
      · have hm := mod_half hz (Nat.le_of_lt hc)
        rw [mm_part1 h3 (by omega) hz, ← gcd_step b (a % b)]
        rw [Nat.pow_succ] at h1
        exact ih (a % b) (b % (a % b)) F' (by omega) (by omega) (by omega) (by omega) (by omega)
def chG (T E : sT) (r k c w : Nat) : Nat := if sq_sb (hI T E (nI w) r) k = true then wtN c w E.1 else 0
def chA (T E : sT) (r k c : Nat) : Nat := fb_sm (chG T E r k c) (2 ^ E.1)
def chV (T E : sT) (r k c : Nat) (what : Int32) : Int64 := if what = 0 then lN (chA T E r k c) / lN (Nat.gcd (chA T E r k c) (2 ^ (4 * E.1))) else lN (2 ^ (4 * E.1)) / lN (Nat.gcd (chA T E r k c) (2 ^ (4 * E.1)))
theorem pw8 {n : Nat} (hn : n ≤ 8) : 2 ^ n ≤ 256 ∧ 16 ^ n ≤ 4294967296 ∧ 2 ^ (4 * n) ≤ 4294967296 ∧ 0 < 2 ^ (4 * n) := by
  refine ⟨Nat.pow_le_pow_right (by omega) hn, Nat.pow_le_pow_right (by omega) hn, ?_, Nat.two_pow_pos _⟩
  have h : 2 ^ (4 * n) ≤ 2 ^ 32 := Nat.pow_le_pow_right (by omega) (by omega)
  have e : (2 : Nat) ^ 32 = 4294967296 := by decide
  omega
theorem chA_le {T E : sT} {r k c : Nat} (hc : c ≤ 16) (hn : E.1 ≤ 8) : chA T E r k c < 2 ^ 62 := by
  obtain ⟨p1, p2, -, -⟩ := pw8 hn
  have h := fb_sm_bound (f := chG T E r k c) (c := 4294967296) (n := 2 ^ E.1) (fun w _ => by
    unfold chG
    have := wtN_le (w := w) hc E.1
    split <;> omega)
  have : 2 ^ E.1 * 4294967296 ≤ 256 * 4294967296 := Nat.mul_le_mul_right _ p1
  unfold chA
  omega
theorem sh64a : ∀ n, n < 9 → (1 : Int64) <<< (Int32.toInt64 ((4 : Int32) * nI n) &&& (63 : Int64)) = lN (2 ^ (4 * n)) := by decide +kernel
theorem sh64 {n : Nat} (hn : n ≤ 8) : (1 : Int64) <<< (Int32.toInt64 ((4 : Int32) * nI n) &&& (63 : Int64)) = lN (2 ^ (4 * n)) := sh64a n (by omega)
theorem cm_ch50 {T E : sT} {r k c : Nat} {what rm : Int32} {told ev : jT3} (hT : InT3 T told) (hE : InE3 E ev) (hrm : rm = nI r) (hk : k < T.1) (hc : c ≤ 16) : ∀ (j w F : Nat) (kn : Int32) (tr : jT11) (sb : Nat → Int32), w + j = 2 ^ E.1 → j < F → SBI T E r kn sb → ∃ kn' tr' sb', fX7_chance_50 (nI c) (nI k) what rm told ev F kn tr sb (lN (fb_sm (chG T E r k c) w)) (lN (2 ^ (4 * E.1))) (nI w) = some (chV T E r k c what, kn', tr', sb') ∧ SBI T E r kn' sb' := by
  have hn := hT.1
  have hE1 := hE.1
  have hE2 : ev.1 = nI E.1 := hE.2.1
  obtain ⟨p1, p2, p3, p4⟩ := pw8 hE1
  intro j
  induction j with
  | zero =>
    intro w F kn tr sb h1 h2 h3
    obtain ⟨F', rfl⟩ : ∃ z, F = z + 1 := ⟨F - 1, by omega⟩
    have hw : w = 2 ^ E.1 := by omega
    subst hw
    refine ⟨kn, tr, sb, ?_, h3⟩
    unfold fX7_chance_50
    rw [lp_s]
    unfold bX7_chance_50
    have hA := chA_le (T := T) (r := r) (k := k) hc hE1
    have hgp : 0 < Nat.gcd (chA T E r k c) (2 ^ (4 * E.1)) := Nat.gcd_pos_of_pos_right _ p4
    have hgl : Nat.gcd (chA T E r k c) (2 ^ (4 * E.1)) ≤ 2 ^ (4 * E.1) := Nat.gcd_le_right _ p4
    have hg : fX7_commonDivisor (lN (chA T E r k c)) (lN (2 ^ (4 * E.1))) = some (lN (Nat.gcd (chA T E r k c) (2 ^ (4 * E.1)))) := by
      have := cm_gcd (l0 := lN (chA T E r k c)) (l2 := lN (2 ^ (4 * E.1))) 33 (chA T E r k c) (2 ^ (4 * E.1)) 0 jF (by omega) (by omega) (by omega) (by omega) (pz_jF (by omega))
      rw [if_neg (fun q => by
        have := (pk_lLT (b := 1) (by omega) (by omega)).mp q
        omega)] at this
      exact this
    rw [hE2, (sh_all E.1 (by omega)).2, if_pos (nI_le (Nat.le_refl _) (by omega)), show fb_sm (chG T E r k c) (2 ^ E.1) = chA T E r k c from rfl, hg, bd1_eq, ckZL_ok hgp (by omega), ckZL_ok hgp (by omega), sm_ite]
    unfold chV
    by_cases q : what = 0
    · rw [if_pos q, if_pos q]
    · rw [if_neg q, if_neg q]
  | succ j ih =>
    intro w F kn tr sb h1 h2 h3
    obtain ⟨F', rfl⟩ : ∃ z, F = z + 1 := ⟨F - 1, by omega⟩
    have hw : w < 2 ^ E.1 := by omega
    obtain ⟨kn1, tr1, sb1, e1, h1'⟩ := cm_sw (w := w) (tr := tr) hT hE hrm (by omega) h3
    obtain ⟨kn2, tr2, sb2, e2, h2'⟩ := ih (w + 1) F' kn1 tr1 sb1 (by omega) (by omega) h1'
    refine ⟨kn2, tr2, sb2, ?_, h2'⟩
    rw [← e2]
    have e0 : fX7_chance_50 (nI c) (nI k) what rm told ev (F' + 1) kn tr sb (lN (fb_sm (chG T E r k c) w)) (lN (2 ^ (4 * E.1))) (nI w) = bX7_chance_50 (nI c) (nI k) what rm told ev (fX7_chance_50 (nI c) (nI k) what rm told ev F') kn tr sb (lN (fb_sm (chG T E r k c) w)) (lN (2 ^ (4 * E.1))) (nI w) := rfl
    rw [e0]
    unfold bX7_chance_50
    simp only [fX7_chance_89, pz_nm, pz_1]
    have hbit : bt (sbv T E r (nI w)) k = sq_sb (hI T E (nI w) r) k := orB_P (P := sq_sb (hI T E (nI w) r)) (n := T.1) (by omega) k hk
    rw [hE2, (sh_all E.1 (by omega)).2, if_neg (nI_ge hw (by omega)), e1, bd4_eq, show (sbv T E r (nI w) >>> (nI k &&& (31 : Int32))) &&& (1 : Int32) = if bt (sbv T E r (nI w)) k = true then 1 else 0 from bt_get _ k (by omega), ite01, hbit, fb_sm_succ, cm_weight hc hE1, bd1_eq, lN_add]
    unfold chG
    by_cases q : sq_sb (hI T E (nI w) r) k = true
    · rw [if_pos q, if_pos q]
    · rw [if_neg q, if_neg q]; rfl
theorem cm_chance {T E : sT} {r k c : Nat} {what rm kn : Int32} {told ev : jT3} {tr : jT11} {sb : Nat → Int32} (hT : InT3 T told) (hE : InE3 E ev) (hrm : rm = nI r) (hk : k < T.1) (hc : c ≤ 16) (hwh : what = 0 ∨ what = 1) (h : SBI T E r kn sb) : ∃ kn' tr' sb', fX7_chance (nI c) (nI k) what rm told ev kn tr sb = some (chV T E r k c what, kn', tr', sb') ∧ SBI T E r kn' sb' := by
  have hE1 := hE.1
  have hn := hT.1
  have hE2 : ev.1 = nI E.1 := hE.2.1
  have hT2 : told.1 = nI T.1 := hT.2.1
  obtain ⟨p1, p2, p3, p4⟩ := pw8 hE1
  obtain ⟨kn', tr', sb', e, h'⟩ := cm_ch50 (what := what) hT hE hrm hk hc (2 ^ E.1) 0 jF kn tr sb (by omega) (pz_jF (by omega)) h
  refine ⟨kn', tr', sb', ?_, h'⟩
  unfold fX7_chance
  have q1 : (0 : Int32) ≤ nI c ∧ nI c ≤ (16 : Int32) := ⟨nI_pos' (by omega), nI_le (b := 16) hc (by omega)⟩
  have q3 : (0 : Int32) ≤ what ∧ what ≤ 1 := by rcases hwh with rfl | rfl <;> decide
  have q2 : fX7_isTenant (nI k) told.1 = some 1 := by
    unfold fX7_isTenant
    rw [if_neg (nI_pos (by omega)), hT2, if_neg (nI_ge hk (by omega))]
  rw [pz_within, bd1_eq, ite01, if_pos q1, q2, bd1_eq, if_neg (by decide), pz_within, bd1_eq, ite01, if_pos q3, pz_nm, hE2, sh64 hE1]
  exact e
theorem wz_rev : ∀ n, n < 9 → ∀ s, s < 2 ^ n → wz n (nI s) = nI (2 ^ n - 1 - s) := by decide +kernel
theorem sm_rev : ∀ (n : Nat) (f : Nat → Nat), fb_sm (fun s => f (n - 1 - s)) n = fb_sm f n
  | 0, _ => rfl
  | n + 1, f => by
    have ih := sm_rev n (fun k => f (k + 1))
    have e1 : fb_sm f (1 + n) = fb_sm f 1 + fb_sm (fun k => f (1 + k)) n := fb_sm_split f 1 n
    have e2 : fb_sm f 1 = f 0 := by show 0 + f 0 = f 0; omega
    have e3 : fb_sm (fun k => f (1 + k)) n = fb_sm (fun k => f (k + 1)) n := fb_sm_cong (fun k _ => by rw [Nat.add_comm])
    show fb_sm (fun s => f (n + 1 - 1 - s)) n + f (n + 1 - 1 - n) = _
    rw [Nat.add_comm n 1, e1, e2, e3, ← ih, show 1 + n - 1 - n = 0 by omega, Nat.add_comm]
    congr 1
    refine fb_sm_cong (fun k hk => ?_)
    show f (1 + n - 1 - k) = f (n - 1 - k + 1)
    rw [show 1 + n - 1 - k = n - 1 - k + 1 by omega]
def wtM (c s : Nat) : Nat → Nat
  | 0 => 1
  | e + 1 => wtM c s e * (if bt (nI s) e = true then 16 - c else c)
theorem wtM_eq {c s n : Nat} (hn : n ≤ 8) (hs : s < 2 ^ n) : ∀ e, e ≤ n → wtM c s e = wtN c (2 ^ n - 1 - s) e
  | 0, _ => rfl
  | e + 1, he => by
    unfold wtM wtN
    rw [wtM_eq hn hs e (by omega), ← wz_rev n (by omega) s hs, wz_bt hn (by omega), show decide (e < n) = true from decide_eq_true (by omega), Bool.true_and]
    by_cases q : bt (nI s) e = true
    · rw [if_pos q, if_neg (by simp [q])]
    · rw [if_neg q, if_pos (by simpa using q)]
theorem mm_ch47 {c s n z : Nat} {i2 i3 tn rm gg : Int32} {te ev : Nat → Int32} {S : jT11} {l4 : Int64} {q : Int32 → jT11 → Int64 → Int32 → Option (Int64 × Int32 × jT11)} (hc : c ≤ 16) (hn : n ≤ 8) : fX8_chanceOf_47 (nI c) i2 i3 tn rm (nI n) te ev q jF gg S l4 (nI s) (lN z) 0 = q gg S (l4 + lN (z * wtM c s n)) (nI (s + 1)) := by
  have s0 : fX8_chanceOf_47 (nI c) i2 i3 tn rm (nI n) te ev q jF gg S l4 (nI s) (lN z) 0 = fX8_chanceOf_47 (nI c) i2 i3 tn rm (nI n) te ev q jF gg S l4 (nI s) (lN (z * wtM c s 0)) (nI 0) := by
    rw [show z * wtM c s 0 = z from Nat.mul_one z]; rfl
  rw [s0]
  refine pz_up (fun F i => fX8_chanceOf_47 (nI c) i2 i3 tn rm (nI n) te ev q F gg S l4 (nI s) (lN (z * wtM c s i)) (nI i)) n _ (fun F i hi => ?_) (fun F => ?_) n 0 jF (by omega) (pz_jF (by omega))
  · show bX8_chanceOf_47 (nI c) i2 i3 tn rm (nI n) te ev q (fX8_chanceOf_47 (nI c) i2 i3 tn rm (nI n) te ev q F) _ _ _ _ _ _ = fX8_chanceOf_47 (nI c) i2 i3 tn rm (nI n) te ev q F _ _ _ _ (lN (z * (wtM c s i * (if bt (nI s) i = true then 16 - c else c)))) _
    unfold bX8_chanceOf_47
    simp only [fX8_chanceOf_78, pz_nm, pz_1]
    rw [if_neg (nI_ge hi (by omega)), mm_isIn _ i (by omega), bd1_eq, ite01, show (16 : Int32) - nI c = nI (16 - c) from pk_sub (a := 16) hc, nI_l (by omega), nI_l (by omega), lN_mul, lN_mul, Nat.mul_assoc, Nat.mul_assoc]
    by_cases d : bt (nI s) i = true
    · rw [if_pos d, if_pos d]
    · rw [if_neg d, if_neg d]
  · unfold fX8_chanceOf_47
    rw [lp_s]
    unfold bX8_chanceOf_47
    rw [if_pos (nI_le (Nat.le_refl _) (by omega)), pz_nm, pz_nm, pz_1]
theorem mm_ch6 {T E : sT} {r k c : Nat} {what tn rm en : Int32} {te ev : Nat → Int32} (hT : MT T tn te) (hE : ME E en ev) (hrm : rm = nI r) (hr : r ≤ 8) (hk : k < T.1) (hc : c ≤ 16) : ∀ (j s F : Nat) (gg : Int32) (S : jT11), s + j = 2 ^ E.1 → j < F → ∃ S', fX8_chanceOf_6 (nI c) (nI k) what tn rm en te ev F gg S (lN (fb_sm (fun s => chG T E r k c (2 ^ E.1 - 1 - s)) s)) (nI s) = some (chV T E r k c what, 0, S') := by
  have hn := hT.1
  have hE1 := hE.1
  have hE2 : en = nI E.1 := hE.2.1
  obtain ⟨p1, p2, p3, p4⟩ := pw8 hE1
  intro j
  induction j with
  | zero =>
    intro s F gg S h1 h2
    obtain ⟨F', rfl⟩ : ∃ z, F = z + 1 := ⟨F - 1, by omega⟩
    have hs : s = 2 ^ E.1 := by omega
    subst hs
    refine ⟨S, ?_⟩
    unfold fX8_chanceOf_6
    rw [lp_s]
    unfold bX8_chanceOf_6
    have hA := chA_le (T := T) (r := r) (k := k) hc hE1
    have hg : fX8_part (lN (chA T E r k c)) (lN (2 ^ (4 * E.1))) what = some (chV T E r k c what) := mm_part6 33 (chA T E r k c) (2 ^ (4 * E.1)) jF (by omega) (by omega) (by omega) (Or.inr p4) (pz_jF (by omega))
    rw [hE2, (sh_all E.1 (by omega)).2, if_pos (nI_le (Nat.le_refl _) (by omega)), sm_rev, show fb_sm (chG T E r k c) (2 ^ E.1) = chA T E r k c from rfl, sh64 hE1, hg, bd1_eq]
  | succ j ih =>
    intro s F gg S h1 h2
    obtain ⟨F', rfl⟩ : ∃ z, F = z + 1 := ⟨F - 1, by omega⟩
    have hs : s < 2 ^ E.1 := by omega
    obtain ⟨S1, e1, hS1⟩ := mm_livesI (w := nI (2 ^ E.1 - 1 - s)) (gone := nI s) (S := S) hT hE (fun e he => by rw [← wz_rev E.1 (by omega) s hs]; exact wz_w hE1 e he) hrm hr
    obtain ⟨S2, e2⟩ := ih (s + 1) F' (nI s) S1 (by omega) (by omega)
    refine ⟨S2, ?_⟩
    rw [← e2]
    have e0 : fX8_chanceOf_6 (nI c) (nI k) what tn rm en te ev (F' + 1) gg S (lN (fb_sm (fun s => chG T E r k c (2 ^ E.1 - 1 - s)) s)) (nI s) = bX8_chanceOf_6 (nI c) (nI k) what tn rm en te ev (fX8_chanceOf_6 (nI c) (nI k) what tn rm en te ev F') gg S (lN (fb_sm (fun s => chG T E r k c (2 ^ E.1 - 1 - s)) s)) (nI s) := rfl
    rw [e0]
    unfold bX8_chanceOf_6
    simp only [fX8_chanceOf_42]
    have hst : S1.2.2.2.2.1 k = (sp_r (hI T E (nI (2 ^ E.1 - 1 - s)) r) 24).2.2.1 k := hS1.2.2.1 k hk
    subst hE2
    rw [(sh_all E.1 (by omega)).2, if_neg (nI_ge hs (by omega)), e1, bd1_eq, pz_rd (by omega) (by omega), hst, fb_sm_succ, ← lN_add]
    have hM := wtM_eq (c := c) hE1 hs E.1 (Nat.le_refl _)
    by_cases d : (sp_r (hI T E (nI (2 ^ E.1 - 1 - s)) r) 24).2.2.1 k = -1
    · have hsb : ¬ sq_sb (hI T E (nI (2 ^ E.1 - 1 - s)) r) k = true := by unfold sq_sb; simpa using d
      have h47 := mm_ch47 (c := c) (s := s) (n := E.1) (z := 0) (i2 := nI k) (i3 := what) (tn := tn) (rm := rm) (gg := nI s) (te := te) (ev := ev) (S := S1) (l4 := lN (fb_sm (fun s => chG T E r k c (2 ^ E.1 - 1 - s)) s)) (q := fX8_chanceOf_6 (nI c) (nI k) what tn rm (nI E.1) te ev F') hc hE1
      rw [if_pos d]
      unfold chG at h47 ⊢
      rw [if_neg hsb]
      rw [Nat.zero_mul] at h47
      exact h47
    · have hsb : sq_sb (hI T E (nI (2 ^ E.1 - 1 - s)) r) k = true := by unfold sq_sb; simpa using d
      have h47 := mm_ch47 (c := c) (s := s) (n := E.1) (z := 1) (i2 := nI k) (i3 := what) (tn := tn) (rm := rm) (gg := nI s) (te := te) (ev := ev) (S := S1) (l4 := lN (fb_sm (fun s => chG T E r k c (2 ^ E.1 - 1 - s)) s)) (q := fX8_chanceOf_6 (nI c) (nI k) what tn rm (nI E.1) te ev F') hc hE1
      rw [if_neg d]
      unfold chG at h47 ⊢
      rw [if_pos hsb]
      rw [Nat.one_mul, hM] at h47
      exact h47
theorem mm_chance {T E : sT} {r k c : Nat} {what tn rm en gg : Int32} {te ev : Nat → Int32} {S : jT11} (hT : MT T tn te) (hE : ME E en ev) (hrm : rm = nI r) (hr : r ≤ 8) (hk : k < T.1) (hc : c ≤ 16) : ∃ S', fX8_chanceOf (nI c) (nI k) what tn rm en te ev gg S = some (chV T E r k c what, 0, S') := by
  obtain ⟨p1, p2, p3, p4⟩ := pw8 hE.1
  exact mm_ch6 hT hE hrm hr hk hc (2 ^ E.1) 0 jF gg S (by omega) (pz_jF (by omega))
