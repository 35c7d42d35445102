theorem or8_all : ∀ b0 b1 b2 b3 b4 b5 b6 b7 : Bool, (0 : Int32) ≤ orB (bq b0 b1 b2 b3 b4 b5 b6 b7) 8 ∧ (orB (bq b0 b1 b2 b3 b4 b5 b6 b7) 8).toNatClampNeg < 256 ∧ orB (bq b0 b1 b2 b3 b4 b5 b6 b7) 8 = nI (orB (bq b0 b1 b2 b3 b4 b5 b6 b7) 8).toNatClampNeg := by decide +kernel
theorem or8 (p : Nat → Bool) : (0 : Int32) ≤ orB p 8 ∧ ∃ v, v < 256 ∧ orB p 8 = nI v := by
  rw [orB_cong 8 (bq_is p)]
  obtain ⟨h1, h2, h3⟩ := or8_all (p 0) (p 1) (p 2) (p 3) (p 4) (p 5) (p 6) (p 7)
  exact ⟨h1, _, h2, h3⟩
theorem orB_ge {p : Nat → Bool} {n : Nat} (hn : n ≤ 8) : (0 : Int32) ≤ orB p n := by rw [orB_8 hn]; exact (or8 _).1
theorem orB_0 {p : Nat → Bool} {n : Nat} (hn : n ≤ 8) : orB p n = 0 ↔ fb_ct p n = 0 := by
  rw [fb_ct_zero]
  constructor
  · intro h k hk
    have := orB_P (P := p) (n := n) (by omega) k hk
    rw [h, b_0] at this
    exact this.symm
  · intro h
    refine b_ext (fun i hi => ?_)
    rw [b_0, orB_bt p n (by omega) i hi]
    by_cases c : i < n
    · rw [h i c, Bool.and_false]
    · rw [show decide (i < n) = false from decide_eq_false c, Bool.false_and]
theorem lo8 {y : Int32} (h : ∀ i, i < 32 → 8 ≤ i → bt y i = false) : ∃ v, v < 256 ∧ y = nI v := by
  have e : y = orB (bt y) 8 := b_ext (fun i hi => by
    rw [orB_bt _ 8 (by omega) i hi]
    by_cases c : i < 8
    · rw [show decide (i < 8) = true from decide_eq_true c, Bool.true_and]
    · rw [show decide (i < 8) = false from decide_eq_false c, Bool.false_and]; exact h i hi (by omega))
  obtain ⟨v, hv, e2⟩ := (or8 (bt y)).2
  exact ⟨v, hv, e.trans e2⟩
theorem bt_all : ∀ n, n < 9 → ∀ e, e < 32 → bt (nI (2 ^ n - 1)) e = decide (e < n) := by decide +kernel
theorem sh_all : ∀ n, n < 9 → ((1 : Int32) <<< (nI n &&& 31)) - 1 = nI (2 ^ n - 1) ∧ (1 : Int32) <<< (nI n &&& 31) = nI (2 ^ n) := by decide +kernel
def wz (n : Nat) (g : Int32) : Int32 := nI (2 ^ n - 1) &&& (g ^^^ (-1))
theorem wz_bt {n e : Nat} {g : Int32} (hn : n ≤ 8) (he : e < 32) : bt (wz n g) e = (decide (e < n) && !bt g e) := by
  unfold wz
  rw [b_and, bt_all n (by omega) e he, b_xor, b_m1 e he, Bool.xor_true]
theorem wz_lo {n : Nat} {g : Int32} (hn : n ≤ 8) : ∃ v, v < 256 ∧ wz n g = nI v := lo8 (fun i hi h8 => by
  rw [wz_bt hn hi, show decide (i < n) = false from decide_eq_false (by omega), Bool.false_and])
theorem wz_0 {n : Nat} (hn : n ≤ 8) : wz n 0 = nI (2 ^ n - 1) := b_ext (fun i hi => by
  rw [wz_bt hn hi, bt_all n (by omega) i hi, b_0]; simp)
theorem wz_w {E : sT} {g : Int32} (hE : E.1 ≤ 8) : ∀ e, e < E.1 → (bt (wz E.1 g) e = true ↔ ¬ bt g e = true) := fun e he => by
  rw [wz_bt hE (by omega), show decide (e < E.1) = true from decide_eq_true he, Bool.true_and]
  simp
def sbv (T E : sT) (r : Nat) (w : Int32) : Int32 := orB (sq_sb (hI T E w r)) T.1
def SBI (T E : sT) (r : Nat) (kn : Int32) (sb : Nat → Int32) : Prop := kn = 0 ∨ ∀ w, w < 256 → sb w = -1 ∨ sb w = sbv T E r (nI w)
theorem cm_sw20 {T E : sT} {r w : Nat} {rm kn : Int32} {told ev : jT3} {tr : jT11} {sb : Nat → Int32} (hT : InT3 T told) (hE : InE3 E ev) (hrm : rm = nI r) (hw : w < 256) (hkn : ¬ kn = 0) (h : ∀ w, w < 256 → sb w = -1 ∨ sb w = sbv T E r (nI w)) : ∃ tr' sb', fX7_settledWith_20 (nI w) rm told ev kn tr sb = some (sbv T E r (nI w), kn, tr', sb') ∧ SBI T E r kn sb' := by
  have hn := hT.1
  unfold fX7_settledWith_20
  rw [pz_rd hw (by omega)]
  by_cases c : sb w = sbv T E r (nI w)
  · refine ⟨tr, sb, ?_, Or.inr h⟩
    rw [c, if_pos (show (0 : Int32) ≤ sbv T E r (nI w) from orB_ge hn)]
    unfold fX7_settledWith_62
    rw [pz_rd hw (by omega), c]
  · have c2 : sb w = -1 := (h w hw).resolve_right c
    obtain ⟨C, hC, e⟩ := cm_runI (T := T) (E := E) (w := nI w) (r := r) (sz := tr.1) (st := tr.2.1) (fa := tr.2.2.1) (pa := tr.2.2.2.1) (fls := tr.2.2.2.2.1) (lfs := tr.2.2.2.2.2.1) (flr := tr.2.2.2.2.2.2.1) (fl := tr.2.2.2.2.2.2.2.1) (be := tr.2.2.2.2.2.2.2.2.1) (lf := tr.2.2.2.2.2.2.2.2.2.1) (od := tr.2.2.2.2.2.2.2.2.2.2.1) (tk := tr.2.2.2.2.2.2.2.2.2.2.2) hT hE hrm
    refine ⟨C, upd sb w (sbv T E r (nI w)), ?_, Or.inr (fun x hx => ?_)⟩
    · rw [c2, if_neg (show ¬ (0 : Int32) ≤ -1 by decide), e, bd12_eq, cq_sbits hC hn, bd1_eq, pz_wr hw (by omega)]
      unfold fX7_settledWith_62
      rw [pz_rd hw (by omega), pk_us]
      rfl
    · rw [upd_at]
      by_cases q : x = w
      · rw [if_pos q, q]; exact Or.inr rfl
      · rw [if_neg q]; exact h x hx
theorem cm_sw {T E : sT} {r w : Nat} {rm kn : Int32} {told ev : jT3} {tr : jT11} {sb : Nat → Int32} (hT : InT3 T told) (hE : InE3 E ev) (hrm : rm = nI r) (hw : w < 256) (h : SBI T E r kn sb) : ∃ kn' tr' sb', fX7_settledWith (nI w) rm told ev kn tr sb = some (sbv T E r (nI w), kn', tr', sb') ∧ SBI T E r kn' sb' := by
  unfold fX7_settledWith
  by_cases c : kn = 0
  · rw [if_pos c, pz_fill _ _ (by omega), bd1_eq]
    obtain ⟨tr', sb', e, h'⟩ := cm_sw20 (tr := tr) (sb := fa_fill (fun _ => -1) sb 256) hT hE hrm hw (show ¬ (1 : Int32) = 0 by decide) (fun x hx => by rw [fa_fill_in hx]; exact Or.inl rfl)
    exact ⟨1, tr', sb', e, h'⟩
  · rw [if_neg c]
    obtain ⟨tr', sb', e, h'⟩ := cm_sw20 (tr := tr) (sb := sb) hT hE hrm hw c (h.resolve_left c)
    exact ⟨kn, tr', sb', e, h'⟩
theorem cm_swz {T E : sT} {r n : Nat} {g rm kn : Int32} {told ev : jT3} {tr : jT11} {sb : Nat → Int32} (hT : InT3 T told) (hE : InE3 E ev) (hrm : rm = nI r) (hn8 : n ≤ 8) (h : SBI T E r kn sb) : ∃ kn' tr' sb', fX7_settledWith (wz n g) rm told ev kn tr sb = some (sbv T E r (wz n g), kn', tr', sb') ∧ SBI T E r kn' sb' := by
  obtain ⟨v, hv, e⟩ := wz_lo (n := n) (g := g) hn8
  rw [e]
  exact cm_sw hT hE hrm hv h
def zz (T E : sT) (r : Nat) (g : Int32) : Bool := decide (sq_ns (hI T E (wz E.1 g) r) = 0)
theorem sbv_z {T E : sT} {r : Nat} {g : Int32} (hn : T.1 ≤ 8) : sbv T E r (wz E.1 g) = 0 ↔ zz T E r g = true := by
  unfold sbv zz sq_ns
  rw [decide_eq_true_eq]
  exact orB_0 hn
def g1 (a : Nat) : Int32 := (1 : Int32) <<< (nI a &&& 31)
def g2 (a b : Nat) : Int32 := ((1 : Int32) <<< (nI a &&& 31)) ||| ((1 : Int32) <<< (nI b &&& 31))
def zA (T E : sT) (r : Nat) : Nat := fa_first (fun a => zz T E r (g1 a)) E.1
def zB (T E : sT) (r a : Nat) : Nat := fa_first (fun b => decide (a < b) && zz T E r (g2 a b)) E.1
def zC (T E : sT) (r : Nat) : Nat := fa_first (fun a => decide (zB T E r a < E.1)) E.1
theorem zB_gt {T E : sT} {r a : Nat} (ha : a < E.1) : a < zB T E r a := by
  have hl := fa_first_le (fun b => decide (a < b) && zz T E r (g2 a b)) E.1
  have hy := fa_first_yes (fun b => decide (a < b) && zz T E r (g2 a b)) E.1
  unfold zB
  rcases Nat.lt_or_ge (fa_first (fun b => decide (a < b) && zz T E r (g2 a b)) E.1) E.1 with q | q
  · have := hy q
    simp only [Bool.and_eq_true, decide_eq_true_eq] at this
    exact this.1
  · omega
theorem cm_sp24 {T E : sT} {r : Nat} {rm : Int32} {told ev : jT3} (hT : InT3 T told) (hE : InE3 E ev) (hrm : rm = nI r) : ∀ (j a F : Nat) (kn : Int32) (tr : jT11) (sb : Nat → Int32), a + j = zA T E r → j < F → SBI T E r kn sb → ∃ kn' tr' sb', fX7_sparedEvents_24 rm told ev F kn tr sb (nI (2 ^ E.1 - 1)) (nI a) = (if zA T E r < E.1 then some (g1 (zA T E r), kn', tr', sb') else fX7_sparedEvents_61 rm told ev jF kn' tr' sb' (nI (2 ^ E.1 - 1)) 0) ∧ SBI T E r kn' sb' := by
  have hn := hT.1
  have hE1 := hE.1
  have hE2 : ev.1 = nI E.1 := hE.2.1
  have hle : zA T E r ≤ E.1 := fa_first_le _ _
  intro j
  induction j with
  | zero =>
    intro a F kn tr sb h1 h2 h3
    obtain ⟨F', rfl⟩ : ∃ z, F = z + 1 := ⟨F - 1, by omega⟩
    have ha : a = zA T E r := by omega
    have e0 : fX7_sparedEvents_24 rm told ev (F' + 1) kn tr sb (nI (2 ^ E.1 - 1)) (nI a) = bX7_sparedEvents_24 rm told ev (fX7_sparedEvents_24 rm told ev F') kn tr sb (nI (2 ^ E.1 - 1)) (nI a) := rfl
    rw [e0]
    unfold bX7_sparedEvents_24
    rw [hE2]
    by_cases c : zA T E r < E.1
    · have hz : zz T E r (g1 (zA T E r)) = true := fa_first_yes (fun a => zz T E r (g1 a)) E.1 c
      obtain ⟨kn', tr', sb', e, h'⟩ := cm_swz (n := E.1) (g := g1 a) (tr := tr) hT hE hrm hE1 h3
      refine ⟨kn', tr', sb', ?_, h'⟩
      rw [if_pos c, if_neg (nI_ge (b := E.1) (by omega) (by omega)), show nI (2 ^ E.1 - 1) &&& (((1 : Int32) <<< (nI a &&& 31)) ^^^ (-1)) = wz E.1 (g1 a) from rfl, e, bd4_eq, if_pos ((sbv_z hn).mpr (by rw [ha]; exact hz)), ha]
      rfl
    · refine ⟨kn, tr, sb, ?_, h3⟩
      rw [if_neg c, if_pos (nI_le (by omega) (by omega))]
  | succ j ih =>
    intro a F kn tr sb h1 h2 h3
    obtain ⟨F', rfl⟩ : ∃ z, F = z + 1 := ⟨F - 1, by omega⟩
    have ha : a < zA T E r := by omega
    have hz : zz T E r (g1 a) = false := fa_first_no (fun a => zz T E r (g1 a)) E.1 a ha
    have e0 : fX7_sparedEvents_24 rm told ev (F' + 1) kn tr sb (nI (2 ^ E.1 - 1)) (nI a) = bX7_sparedEvents_24 rm told ev (fX7_sparedEvents_24 rm told ev F') kn tr sb (nI (2 ^ E.1 - 1)) (nI a) := rfl
    rw [e0]
    unfold bX7_sparedEvents_24
    obtain ⟨kn', tr', sb', e, h'⟩ := cm_swz (n := E.1) (g := g1 a) (tr := tr) hT hE hrm hE1 h3
    rw [hE2, if_neg (nI_ge (b := E.1) (by omega) (by omega)), show nI (2 ^ E.1 - 1) &&& (((1 : Int32) <<< (nI a &&& 31)) ^^^ (-1)) = wz E.1 (g1 a) from rfl, e, bd4_eq, if_neg (fun q => by rw [(sbv_z hn).mp q] at hz; cases hz), pz_nm, pz_1]
    exact ih (a + 1) F' kn' tr' sb' (by omega) (by omega) h'
theorem cm_sp76 {T E : sT} {r a : Nat} {rm : Int32} {told ev : jT3} {q : Int32 → jT11 → (Nat → Int32) → Int32 → Int32 → Option (Int32 × Int32 × jT11 × (Nat → Int32))} (hT : InT3 T told) (hE : InE3 E ev) (hrm : rm = nI r) (ha : a < E.1) : ∀ (j b F : Nat) (kn : Int32) (tr : jT11) (sb : Nat → Int32), b + j = zB T E r a → j < F → a < b → SBI T E r kn sb → ∃ kn' tr' sb', fX7_sparedEvents_76 rm told ev q F kn tr sb (nI (2 ^ E.1 - 1)) (nI a) (nI b) = (if zB T E r a < E.1 then some (g2 a (zB T E r a), kn', tr', sb') else q kn' tr' sb' (nI (2 ^ E.1 - 1)) (nI (a + 1))) ∧ SBI T E r kn' sb' := by
  have hn := hT.1
  have hE1 := hE.1
  have hE2 : ev.1 = nI E.1 := hE.2.1
  have hle : zB T E r a ≤ E.1 := fa_first_le _ _
  intro j
  induction j with
  | zero =>
    intro b F kn tr sb h1 h2 h4 h3
    obtain ⟨F', rfl⟩ : ∃ z, F = z + 1 := ⟨F - 1, by omega⟩
    have hb : b = zB T E r a := by omega
    have e0 : fX7_sparedEvents_76 rm told ev q (F' + 1) kn tr sb (nI (2 ^ E.1 - 1)) (nI a) (nI b) = bX7_sparedEvents_76 rm told ev q (fX7_sparedEvents_76 rm told ev q F') kn tr sb (nI (2 ^ E.1 - 1)) (nI a) (nI b) := rfl
    rw [e0]
    unfold bX7_sparedEvents_76
    rw [hE2, pz_nm, pz_nm]
    by_cases c : zB T E r a < E.1
    · have hz : zz T E r (g2 a (zB T E r a)) = true := by
        have := fa_first_yes (fun b => decide (a < b) && zz T E r (g2 a b)) E.1 c
        simp only [Bool.and_eq_true] at this
        exact this.2
      obtain ⟨kn', tr', sb', e, h'⟩ := cm_swz (n := E.1) (g := g2 a b) (tr := tr) hT hE hrm hE1 h3
      refine ⟨kn', tr', sb', ?_, h'⟩
      rw [if_pos c, if_neg (nI_ge (b := E.1) (by omega) (by omega)), show nI (2 ^ E.1 - 1) &&& ((((1 : Int32) <<< (nI a &&& 31)) ||| ((1 : Int32) <<< (nI b &&& 31))) ^^^ (-1)) = wz E.1 (g2 a b) from rfl, e, bd4_eq, if_pos ((sbv_z hn).mpr (by rw [hb]; exact hz)), hb]
      rfl
    · refine ⟨kn, tr, sb, ?_, h3⟩
      rw [if_neg c, if_pos (nI_le (by omega) (by omega)), pz_1]
  | succ j ih =>
    intro b F kn tr sb h1 h2 h4 h3
    obtain ⟨F', rfl⟩ : ∃ z, F = z + 1 := ⟨F - 1, by omega⟩
    have hb : b < zB T E r a := by omega
    have hz : zz T E r (g2 a b) = false := by
      have := fa_first_no (fun b => decide (a < b) && zz T E r (g2 a b)) E.1 b hb
      simpa [h4] using this
    have e0 : fX7_sparedEvents_76 rm told ev q (F' + 1) kn tr sb (nI (2 ^ E.1 - 1)) (nI a) (nI b) = bX7_sparedEvents_76 rm told ev q (fX7_sparedEvents_76 rm told ev q F') kn tr sb (nI (2 ^ E.1 - 1)) (nI a) (nI b) := rfl
    rw [e0]
    unfold bX7_sparedEvents_76
    obtain ⟨kn', tr', sb', e, h'⟩ := cm_swz (n := E.1) (g := g2 a b) (tr := tr) hT hE hrm hE1 h3
    rw [hE2, pz_nm, pz_nm, if_neg (nI_ge (b := E.1) (by omega) (by omega)), show nI (2 ^ E.1 - 1) &&& ((((1 : Int32) <<< (nI a &&& 31)) ||| ((1 : Int32) <<< (nI b &&& 31))) ^^^ (-1)) = wz E.1 (g2 a b) from rfl, e, bd4_eq, if_neg (fun q => by rw [(sbv_z hn).mp q] at hz; cases hz), pz_nm, pz_1]
    exact ih (b + 1) F' kn' tr' sb' (by omega) (by omega) (by omega) h'
theorem cm_sp61 {T E : sT} {r : Nat} {rm : Int32} {told ev : jT3} (hT : InT3 T told) (hE : InE3 E ev) (hrm : rm = nI r) : ∀ (j a F : Nat) (kn : Int32) (tr : jT11) (sb : Nat → Int32), a + j = zC T E r → j < F → SBI T E r kn sb → ∃ kn' tr' sb', fX7_sparedEvents_61 rm told ev F kn tr sb (nI (2 ^ E.1 - 1)) (nI a) = some (if zC T E r < E.1 then g2 (zC T E r) (zB T E r (zC T E r)) else -1, kn', tr', sb') ∧ SBI T E r kn' sb' := by
  have hn := hT.1
  have hE1 := hE.1
  have hE2 : ev.1 = nI E.1 := hE.2.1
  have hle : zC T E r ≤ E.1 := fa_first_le _ _
  intro j
  induction j with
  | zero =>
    intro a F kn tr sb h1 h2 h3
    obtain ⟨F', rfl⟩ : ∃ z, F = z + 1 := ⟨F - 1, by omega⟩
    have ha : a = zC T E r := by omega
    have e0 : fX7_sparedEvents_61 rm told ev (F' + 1) kn tr sb (nI (2 ^ E.1 - 1)) (nI a) = bX7_sparedEvents_61 rm told ev (fX7_sparedEvents_61 rm told ev F') kn tr sb (nI (2 ^ E.1 - 1)) (nI a) := rfl
    rw [e0]
    unfold bX7_sparedEvents_61
    rw [hE2, pz_nm, pz_1]
    by_cases c : zC T E r < E.1
    · have hz : zB T E r (zC T E r) < E.1 := of_decide_eq_true (fa_first_yes (fun a => decide (zB T E r a < E.1)) E.1 c)
      have hg := zB_gt (T := T) (r := r) c
      obtain ⟨kn', tr', sb', e, h'⟩ := cm_sp76 (a := a) (q := fX7_sparedEvents_61 rm told ev F') hT hE hrm (by omega) (zB T E r a - (a + 1)) (a + 1) jF kn tr sb (by rw [ha]; omega) (pz_jF (by rw [ha]; omega)) (by omega) h3
      refine ⟨kn', tr', sb', ?_, h'⟩
      rw [if_pos c, if_neg (nI_ge (b := E.1) (by omega) (by omega)), e, ha, if_pos hz]
    · refine ⟨kn, tr, sb, ?_, h3⟩
      rw [if_neg c, if_pos (nI_le (by omega) (by omega))]
  | succ j ih =>
    intro a F kn tr sb h1 h2 h3
    obtain ⟨F', rfl⟩ : ∃ z, F = z + 1 := ⟨F - 1, by omega⟩
    have ha : a < zC T E r := by omega
    have hz : ¬ zB T E r a < E.1 := of_decide_eq_false (fa_first_no (fun a => decide (zB T E r a < E.1)) E.1 a ha)
    have hl : zB T E r a ≤ E.1 := fa_first_le _ _
    have e0 : fX7_sparedEvents_61 rm told ev (F' + 1) kn tr sb (nI (2 ^ E.1 - 1)) (nI a) = bX7_sparedEvents_61 rm told ev (fX7_sparedEvents_61 rm told ev F') kn tr sb (nI (2 ^ E.1 - 1)) (nI a) := rfl
    rw [e0]
    unfold bX7_sparedEvents_61
    obtain ⟨kn', tr', sb', e, h'⟩ := cm_sp76 (a := a) (q := fX7_sparedEvents_61 rm told ev F') hT hE hrm (by omega) (zB T E r a - (a + 1)) (a + 1) jF kn tr sb (by omega) (pz_jF (by omega)) (by omega) h3
    rw [hE2, pz_nm, pz_1, if_neg (nI_ge (b := E.1) (by omega) (by omega)), e, if_neg hz]
    exact ih (a + 1) F' kn' tr' sb' (by omega) (by omega) h'
def sp_ev8 (T E : sT) (r : Nat) : Int32 := if zz T E r 0 = true then 0 else if zA T E r < E.1 then g1 (zA T E r) else if zC T E r < E.1 then g2 (zC T E r) (zB T E r (zC T E r)) else -1
theorem cm_spared {T E : sT} {r : Nat} {rm kn : Int32} {told ev : jT3} {tr : jT11} {sb : Nat → Int32} (hT : InT3 T told) (hE : InE3 E ev) (hrm : rm = nI r) (h : SBI T E r kn sb) : ∃ kn' tr' sb', fX7_sparedEvents rm told ev kn tr sb = some (sp_ev8 T E r, kn', tr', sb') ∧ SBI T E r kn' sb' := by
  have hn := hT.1
  have hE1 := hE.1
  have hE2 : ev.1 = nI E.1 := hE.2.1
  unfold fX7_sparedEvents sp_ev8
  obtain ⟨kn1, tr1, sb1, e, h1⟩ := cm_swz (n := E.1) (g := 0) (tr := tr) hT hE hrm hE1 h
  rw [hE2, show ((1 : Int32) <<< (nI E.1 &&& (31 : Int32))) - (1 : Int32) = nI (2 ^ E.1 - 1) from (sh_all E.1 (by omega)).1, pz_nm, ← wz_0 hE1, e, bd4_eq]
  by_cases c : zz T E r 0 = true
  · exact ⟨kn1, tr1, sb1, by rw [if_pos c, if_pos ((sbv_z hn).mpr c)], h1⟩
  · rw [if_neg c, if_neg (fun q => c ((sbv_z hn).mp q)), wz_0 hE1]
    have hle : zA T E r ≤ E.1 := fa_first_le _ _
    obtain ⟨kn2, tr2, sb2, e2, h2⟩ := cm_sp24 hT hE hrm (zA T E r) 0 jF kn1 tr1 sb1 (by omega) (pz_jF (by omega)) h1
    have e2' : fX7_sparedEvents_24 rm told ev jF kn1 tr1 sb1 (nI (2 ^ E.1 - 1)) 0 = _ := e2
    rw [e2']
    by_cases d : zA T E r < E.1
    · rw [if_pos d, if_pos d]; exact ⟨kn2, tr2, sb2, rfl, h2⟩
    · rw [if_neg d, if_neg d]
      have hle2 : zC T E r ≤ E.1 := fa_first_le _ _
      exact cm_sp61 hT hE hrm (zC T E r) 0 jF kn2 tr2 sb2 (by omega) (pz_jF (by omega)) h2
def sp_ans (T E : sT) (r : Nat) (i : Int32) : Int32 := if zz T E r 0 = true then (if i = -1 then 0 else -1) else if zA T E r < E.1 then (if i = -1 then 1 else if i = 0 then nI (zA T E r) else -1) else if zC T E r < E.1 then (if i = -1 then 2 else if i = 0 then nI (zC T E r) else nI (zB T E r (zC T E r))) else -1
theorem bp_0 : fX7_bitPlace 0 0 = some (-1) ∧ fX7_bitPlace 0 1 = some (-1) ∧ fJ6_bitCount_0f7a4 0 = some 0 := by decide +kernel
theorem bp_1 : ∀ a, a < 8 → (0 : Int32) ≤ g1 a ∧ fX7_bitPlace (g1 a) 0 = some (nI a) ∧ fX7_bitPlace (g1 a) 1 = some (-1) ∧ fJ6_bitCount_0f7a4 (g1 a) = some 1 := by decide +kernel
theorem bp_2 : ∀ b, b < 8 → ∀ a, a < b → (0 : Int32) ≤ g2 a b ∧ fX7_bitPlace (g2 a b) 0 = some (nI a) ∧ fX7_bitPlace (g2 a b) 1 = some (nI b) ∧ fJ6_bitCount_0f7a4 (g2 a b) = some 2 := by decide +kernel
theorem cm_spare {T E : sT} {r : Nat} {i rm kn : Int32} {told ev : jT3} {tr : jT11} {sb : Nat → Int32} (hT : InT3 T told) (hE : InE3 E ev) (hrm : rm = nI r) (h : SBI T E r kn sb) (hi : i = -1 ∨ i = 0 ∨ i = 1) : ∃ kn' tr' sb', fX7_spare i rm told ev kn tr sb = some (sp_ans T E r i, kn', tr', sb') ∧ SBI T E r kn' sb' := by
  have hE1 := hE.1
  obtain ⟨kn', tr', sb', e, h'⟩ := cm_spared (tr := tr) hT hE hrm h
  refine ⟨kn', tr', sb', ?_, h'⟩
  unfold fX7_spare
  have hin : (-1 : Int32) ≤ i ∧ i ≤ 1 := by rcases hi with rfl | rfl | rfl <;> decide
  rw [pz_within, bd1_eq, ite01, if_pos hin, e, bd4_eq]
  unfold sp_ev8 sp_ans
  have hB : zC T E r < E.1 → zC T E r < zB T E r (zC T E r) ∧ zB T E r (zC T E r) < E.1 := fun c => ⟨zB_gt c, of_decide_eq_true (fa_first_yes (fun a => decide (zB T E r a < E.1)) E.1 c)⟩
  generalize zA T E r = A
  generalize zB T E r (zC T E r) = B at hB ⊢
  generalize zC T E r = Cc at hB ⊢
  by_cases c : zz T E r 0 = true
  · obtain ⟨p0, p1, p2⟩ := bp_0
    rw [if_pos c, if_pos c, if_pos (show (0 : Int32) ≤ 0 by decide)]
    rcases hi with rfl | rfl | rfl
    · rw [if_pos rfl, if_pos rfl, p2, bd1_eq]
    · rw [if_neg (by decide), if_neg (by decide), p0, bd1_eq]
    · rw [if_neg (by decide), if_neg (by decide), p1, bd1_eq]
  · rw [if_neg c, if_neg c]
    by_cases d : A < E.1
    · obtain ⟨p, p0, p1, p2⟩ := bp_1 A (by omega)
      rw [if_pos d, if_pos d, if_pos p]
      rcases hi with rfl | rfl | rfl
      · rw [if_pos rfl, if_pos rfl, p2, bd1_eq]
      · rw [if_neg (by decide), if_neg (by decide), if_pos rfl, p0, bd1_eq]
      · rw [if_neg (by decide), if_neg (by decide), if_neg (by decide), p1, bd1_eq]
    · rw [if_neg d, if_neg d]
      by_cases f : Cc < E.1
      · obtain ⟨f1, f2⟩ := hB f
        obtain ⟨p, p0, p1, p2⟩ := bp_2 B (by omega) Cc f1
        rw [if_pos f, if_pos f, if_pos p]
        rcases hi with rfl | rfl | rfl
        · rw [if_pos rfl, if_pos rfl, p2, bd1_eq]
        · rw [if_neg (by decide), if_neg (by decide), if_pos rfl, p0, bd1_eq]
        · rw [if_neg (by decide), if_neg (by decide), if_neg (by decide), p1, bd1_eq]
      · rw [if_neg f, if_neg f, if_neg (show ¬ (0 : Int32) ≤ -1 by decide)]
theorem mm_spared1 {T E : sT} {r : Nat} {g gg tn rm en : Int32} {te ev : Nat → Int32} {S : jT11} (hT : MT T tn te) (hE : ME E en ev) (hrm : rm = nI r) (hr : r ≤ 8) : ∃ S', fX8_isSpared g tn rm en te ev gg S = some (if zz T E r g = true then 1 else 0, 0, S') := by
  obtain ⟨S', e, h⟩ := mm_livesI (S := S) hT hE (wz_w (g := g) hE.1) hrm hr
  refine ⟨S', ?_⟩
  unfold fX8_isSpared zz
  have q1 := mq_nset h hT.1 hT.2.1
  have hle := sq_ns_le (I := hI T E (wz E.1 g) r) hT.1
  rw [e, bd1_eq, q1, bd1_eq]
  by_cases c : sq_ns (hI T E (wz E.1 g) r) = 0
  · rw [c, if_pos (show nI 0 = (0 : Int32) from rfl), if_pos (by decide)]
  · rw [if_neg (show ¬ nI (sq_ns (hI T E (wz E.1 g) r)) = (0 : Int32) from nI_ne0 (by omega) (by omega)), if_neg (by simpa using c)]
theorem mm_sp78 {T E : sT} {r a : Nat} {i tn rm en : Int32} {te ev : Nat → Int32} {q : Int32 → jT11 → Int32 → Option (Int32 × Int32 × jT11)} (hT : MT T tn te) (hE : ME E en ev) (hrm : rm = nI r) (hr : r ≤ 8) (ha : a < E.1) : ∀ (j b F : Nat) (S : jT11), b + j = zB T E r a → j < F → a < b → ∃ S', fX8_spareBy_78 i tn rm en te ev q F 0 S (nI a) (nI b) = (if zB T E r a < E.1 then some (if i = -1 then 2 else if i = 0 then nI a else nI (zB T E r a), 0, S') else q 0 S' (nI (a + 1))) := by
  have hE1 := hE.1
  have hE2 : en = nI E.1 := hE.2.1
  have hle : zB T E r a ≤ E.1 := fa_first_le _ _
  intro j
  induction j with
  | zero =>
    intro b F S h1 h2 h4
    obtain ⟨F', rfl⟩ : ∃ z, F = z + 1 := ⟨F - 1, by omega⟩
    have hb : b = zB T E r a := by omega
    have e0 : fX8_spareBy_78 i tn rm en te ev q (F' + 1) 0 S (nI a) (nI b) = bX8_spareBy_78 i tn rm en te ev q (fX8_spareBy_78 i tn rm en te ev q F') 0 S (nI a) (nI b) := rfl
    rw [e0]
    unfold bX8_spareBy_78
    by_cases c : zB T E r a < E.1
    · have hz : zz T E r (g2 a (zB T E r a)) = true := by
        have := fa_first_yes (fun b => decide (a < b) && zz T E r (g2 a b)) E.1 c
        simp only [Bool.and_eq_true] at this
        exact this.2
      obtain ⟨S', e⟩ := mm_spared1 (g := g2 a b) (gg := 0) (S := S) hT hE hrm hr
      refine ⟨S', ?_⟩
      rw [if_pos c, if_neg (show ¬ en ≤ nI b by rw [hE2]; exact nI_ge (by omega) (by omega)), show (((1 : Int32) <<< (nI a &&& 31)) ||| ((1 : Int32) <<< (nI b &&& 31))) = g2 a b from rfl, e, bd3_eq, ite01, if_pos (by rw [hb]; exact hz), hb]
      by_cases c0 : i = -1
      · rw [if_pos c0, if_pos c0]
      · rw [if_neg c0, if_neg c0, sm_ite]
        by_cases c1 : i = 0
        · rw [if_pos c1, if_pos c1]
        · rw [if_neg c1, if_neg c1]
    · refine ⟨S, ?_⟩
      rw [if_neg c, if_pos (show en ≤ nI b by rw [hE2]; exact nI_le (by omega) (by omega)), pz_nm, pz_1]
  | succ j ih =>
    intro b F S h1 h2 h4
    obtain ⟨F', rfl⟩ : ∃ z, F = z + 1 := ⟨F - 1, by omega⟩
    have hb : b < zB T E r a := by omega
    have hz : zz T E r (g2 a b) = false := by
      have := fa_first_no (fun b => decide (a < b) && zz T E r (g2 a b)) E.1 b hb
      simpa [h4] using this
    have e0 : fX8_spareBy_78 i tn rm en te ev q (F' + 1) 0 S (nI a) (nI b) = bX8_spareBy_78 i tn rm en te ev q (fX8_spareBy_78 i tn rm en te ev q F') 0 S (nI a) (nI b) := rfl
    rw [e0]
    unfold bX8_spareBy_78
    obtain ⟨S', e⟩ := mm_spared1 (g := g2 a b) (gg := 0) (S := S) hT hE hrm hr
    rw [if_neg (show ¬ en ≤ nI b by rw [hE2]; exact nI_ge (by omega) (by omega)), show (((1 : Int32) <<< (nI a &&& 31)) ||| ((1 : Int32) <<< (nI b &&& 31))) = g2 a b from rfl, e, bd3_eq, ite01, if_neg (by rw [hz]; decide), pz_nm, pz_1]
    exact ih (b + 1) F' S' (by omega) (by omega) (by omega)
theorem mm_sp66 {T E : sT} {r : Nat} {i tn rm en : Int32} {te ev : Nat → Int32} (hT : MT T tn te) (hE : ME E en ev) (hrm : rm = nI r) (hr : r ≤ 8) : ∀ (j a F : Nat) (S : jT11), a + j = zC T E r → j < F → ∃ S', fX8_spareBy_66 i tn rm en te ev F 0 S (nI a) = some (if zC T E r < E.1 then (if i = -1 then 2 else if i = 0 then nI (zC T E r) else nI (zB T E r (zC T E r))) else -1, 0, S') := by
  have hE1 := hE.1
  have hE2 : en = nI E.1 := hE.2.1
  have hle : zC T E r ≤ E.1 := fa_first_le _ _
  intro j
  induction j with
  | zero =>
    intro a F S h1 h2
    obtain ⟨F', rfl⟩ : ∃ z, F = z + 1 := ⟨F - 1, by omega⟩
    have ha : a = zC T E r := by omega
    have e0 : fX8_spareBy_66 i tn rm en te ev (F' + 1) 0 S (nI a) = bX8_spareBy_66 i tn rm en te ev (fX8_spareBy_66 i tn rm en te ev F') 0 S (nI a) := rfl
    rw [e0]
    unfold bX8_spareBy_66
    by_cases c : zC T E r < E.1
    · have hz : zB T E r (zC T E r) < E.1 := of_decide_eq_true (fa_first_yes (fun a => decide (zB T E r a < E.1)) E.1 c)
      have hg := zB_gt (T := T) (r := r) c
      obtain ⟨S', e⟩ := mm_sp78 (a := a) (i := i) (q := fX8_spareBy_66 i tn rm en te ev F') hT hE hrm hr (by omega) (zB T E r a - (a + 1)) (a + 1) jF S (by rw [ha]; omega) (pz_jF (by rw [ha]; omega)) (by omega)
      refine ⟨S', ?_⟩
      rw [if_pos c, if_neg (show ¬ en ≤ nI a by rw [hE2]; exact nI_ge (by omega) (by omega)), pz_nm, pz_1, e, ha, if_pos hz]
    · refine ⟨S, ?_⟩
      rw [if_neg c, if_pos (show en ≤ nI a by rw [hE2]; exact nI_le (by omega) (by omega))]
  | succ j ih =>
    intro a F S h1 h2
    obtain ⟨F', rfl⟩ : ∃ z, F = z + 1 := ⟨F - 1, by omega⟩
    have ha : a < zC T E r := by omega
    have hz : ¬ zB T E r a < E.1 := of_decide_eq_false (fa_first_no (fun a => decide (zB T E r a < E.1)) E.1 a ha)
    have hl : zB T E r a ≤ E.1 := fa_first_le _ _
    have e0 : fX8_spareBy_66 i tn rm en te ev (F' + 1) 0 S (nI a) = bX8_spareBy_66 i tn rm en te ev (fX8_spareBy_66 i tn rm en te ev F') 0 S (nI a) := rfl
    rw [e0]
    unfold bX8_spareBy_66
    obtain ⟨S', e⟩ := mm_sp78 (a := a) (i := i) (q := fX8_spareBy_66 i tn rm en te ev F') hT hE hrm hr (by omega) (zB T E r a - (a + 1)) (a + 1) jF S (by omega) (pz_jF (by omega)) (by omega)
    rw [if_neg (show ¬ en ≤ nI a by rw [hE2]; exact nI_ge (by omega) (by omega)), pz_nm, pz_1, e, if_neg hz]
    exact ih (a + 1) F' S' (by omega) (by omega)
theorem mm_sp21 {T E : sT} {r : Nat} {i tn rm en : Int32} {te ev : Nat → Int32} (hT : MT T tn te) (hE : ME E en ev) (hrm : rm = nI r) (hr : r ≤ 8) : ∀ (j a F : Nat) (S : jT11), a + j = zA T E r → j < F → ∃ S', fX8_spareBy_21 i tn rm en te ev F 0 S (nI a) = (if zA T E r < E.1 then some (if i = -1 then 1 else if i = 0 then nI (zA T E r) else -1, 0, S') else fX8_spareBy_66 i tn rm en te ev jF 0 S' 0) := by
  have hE1 := hE.1
  have hE2 : en = nI E.1 := hE.2.1
  have hle : zA T E r ≤ E.1 := fa_first_le _ _
  intro j
  induction j with
  | zero =>
    intro a F S h1 h2
    obtain ⟨F', rfl⟩ : ∃ z, F = z + 1 := ⟨F - 1, by omega⟩
    have ha : a = zA T E r := by omega
    have e0 : fX8_spareBy_21 i tn rm en te ev (F' + 1) 0 S (nI a) = bX8_spareBy_21 i tn rm en te ev (fX8_spareBy_21 i tn rm en te ev F') 0 S (nI a) := rfl
    rw [e0]
    unfold bX8_spareBy_21
    by_cases c : zA T E r < E.1
    · have hz : zz T E r (g1 (zA T E r)) = true := fa_first_yes (fun a => zz T E r (g1 a)) E.1 c
      obtain ⟨S', e⟩ := mm_spared1 (g := g1 a) (gg := 0) (S := S) hT hE hrm hr
      refine ⟨S', ?_⟩
      rw [if_pos c, if_neg (show ¬ en ≤ nI a by rw [hE2]; exact nI_ge (by omega) (by omega)), show ((1 : Int32) <<< (nI a &&& 31)) = g1 a from rfl, e, bd3_eq, ite01, if_pos (by rw [ha]; exact hz), ha]
      by_cases c0 : i = -1
      · rw [if_pos c0, if_pos c0]
      · rw [if_neg c0, if_neg c0, sm_ite]
        by_cases c1 : i = 0
        · rw [if_pos c1, if_pos c1]
        · rw [if_neg c1, if_neg c1]
    · refine ⟨S, ?_⟩
      rw [if_neg c, if_pos (show en ≤ nI a by rw [hE2]; exact nI_le (by omega) (by omega))]
  | succ j ih =>
    intro a F S h1 h2
    obtain ⟨F', rfl⟩ : ∃ z, F = z + 1 := ⟨F - 1, by omega⟩
    have ha : a < zA T E r := by omega
    have hz : zz T E r (g1 a) = false := fa_first_no (fun a => zz T E r (g1 a)) E.1 a ha
    have e0 : fX8_spareBy_21 i tn rm en te ev (F' + 1) 0 S (nI a) = bX8_spareBy_21 i tn rm en te ev (fX8_spareBy_21 i tn rm en te ev F') 0 S (nI a) := rfl
    rw [e0]
    unfold bX8_spareBy_21
    obtain ⟨S', e⟩ := mm_spared1 (g := g1 a) (gg := 0) (S := S) hT hE hrm hr
    rw [if_neg (show ¬ en ≤ nI a by rw [hE2]; exact nI_ge (by omega) (by omega)), show ((1 : Int32) <<< (nI a &&& 31)) = g1 a from rfl, e, bd3_eq, ite01, if_neg (by rw [hz]; decide), pz_nm, pz_1]
    exact ih (a + 1) F' S' (by omega) (by omega)
theorem mm_spare {T E : sT} {r : Nat} {i g tn rm en : Int32} {te ev : Nat → Int32} {S : jT11} (hT : MT T tn te) (hE : ME E en ev) (hrm : rm = nI r) (hr : r ≤ 8) : ∃ S', fX8_spareBy i tn rm en te ev g S = some (sp_ans T E r i, 0, S') := by
  have hE1 := hE.1
  unfold fX8_spareBy sp_ans
  obtain ⟨S1, e1⟩ := mm_spared1 (g := 0) (gg := g) (S := S) hT hE hrm hr
  rw [e1, bd3_eq, ite01]
  by_cases c : zz T E r 0 = true
  · rw [if_pos c, if_pos c, sm_ite]
    refine ⟨S1, ?_⟩
    by_cases c0 : i = -1
    · rw [if_pos c0, if_pos c0]
    · rw [if_neg c0, if_neg c0]
  · rw [if_neg c, if_neg c]
    have hle : zA T E r ≤ E.1 := fa_first_le _ _
    obtain ⟨S2, e2⟩ := mm_sp21 (i := i) hT hE hrm hr (zA T E r) 0 jF S1 (by omega) (pz_jF (by omega))
    have e2' : fX8_spareBy_21 i tn rm en te ev jF 0 S1 0 = _ := e2
    rw [e2']
    by_cases d : zA T E r < E.1
    · rw [if_pos d, if_pos d]; exact ⟨S2, rfl⟩
    · rw [if_neg d, if_neg d]
      have hle2 : zC T E r ≤ E.1 := fa_first_le _ _
      exact mm_sp66 (i := i) hT hE hrm hr (zC T E r) 0 jF S2 (by omega) (pz_jF (by omega))
