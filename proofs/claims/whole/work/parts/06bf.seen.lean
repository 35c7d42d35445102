abbrev sZ : Type := Nat × (Nat → Nat) × (Nat → Nat) × (Nat → Int32)
def InZ (Z : sZ) (o : jT3) : Prop := Z.1 ≤ 8 ∧ o.1 = nI Z.1 ∧ ∀ j, j < Z.1 → o.2.1 j = nI (Z.2.1 j) ∧ o.2.2.1 j = nI (Z.2.2.1 j) ∧ o.2.2.2 j = Z.2.2.2 j ∧ Z.2.1 j ≤ 23 ∧ Z.2.2.1 j ≤ 7
def MZ (Z : sZ) (sg : Int32) (si : Nat → Int32) : Prop := Z.1 ≤ 8 ∧ sg = nI Z.1 ∧ ∀ j, j < Z.1 → si (3 * j) = nI (Z.2.1 j) ∧ si (3 * j + 1) = nI (Z.2.2.1 j) ∧ si (3 * j + 2) = Z.2.2.2 j ∧ Z.2.1 j ≤ 23 ∧ Z.2.2.1 j ≤ 7
def sz_ok (I : sI) (Z : sZ) (j : Nat) : Bool := decide (Z.2.2.1 j < I.1.1) && decide (sq_fl I (Z.2.1 j) (Z.2.2.1 j) = Z.2.2.2 j)
def sz_F (I : sI) (Z : sZ) : Nat := fa_first (fun j => !sz_ok I Z j) Z.1
def sq_co (I : sI) (Z : sZ) : Bool := decide (sz_F I Z = Z.1)
theorem sz_F_le (I : sI) (Z : sZ) : sz_F I Z ≤ Z.1 := fa_first_le _ _
theorem sz_F_no {I : sI} {Z : sZ} {j : Nat} (h : j < sz_F I Z) : sz_ok I Z j = true := by
  have := fa_first_no (fun j => !sz_ok I Z j) Z.1 j h
  simpa using this
theorem sz_F_yes {I : sI} {Z : sZ} (h : sz_F I Z < Z.1) : ¬ sz_ok I Z (sz_F I Z) = true := by
  have q : (!sz_ok I Z (sz_F I Z)) = true := fa_first_yes (fun j => !sz_ok I Z j) Z.1 h
  simpa using q
theorem cq_comes {I : sI} {C : jT11} {Z : sZ} {o : jT3} (h : cOk I C) (hn : I.1.1 ≤ 8) (hZ : InZ Z o) : fX3_comesOut o.1 o.2.1 o.2.2.1 o.2.2.2 C.1 C.2.2.2.2.1 = some (if sq_co I Z = true then 1 else 0) := by
  obtain ⟨hZ1, hZ2, hZ3⟩ := hZ
  rw [h.1, hZ2]
  have hF := sz_F_le I Z
  unfold fX3_comesOut
  refine pz_up (fun F i => fX3_comesOut_2 (nI Z.1) o.2.1 o.2.2.1 o.2.2.2 (nI I.1.1) C.2.2.2.2.1 F (nI i)) (sz_F I Z) _ (fun F i hi => ?_) (fun F => ?_) (sz_F I Z) 0 jF (by omega) (pz_jF (by omega))
  · show bX3_comesOut_2 (nI Z.1) o.2.1 o.2.2.1 o.2.2.2 (nI I.1.1) C.2.2.2.2.1 (fX3_comesOut_2 (nI Z.1) o.2.1 o.2.2.1 o.2.2.2 (nI I.1.1) C.2.2.2.2.1 F) (nI i) = _
    obtain ⟨h1, h2, h3, h4, h5⟩ := hZ3 i (by omega)
    have hok := sz_F_no hi
    unfold sz_ok at hok
    simp only [Bool.and_eq_true, decide_eq_true_eq] at hok
    unfold bX3_comesOut_2
    rw [if_neg (nI_ge (b := Z.1) (by omega) (by omega)), pz_rd (by omega) (by omega), h2, if_neg (nI_ge hok.1 (by omega)), pz_rd (by omega) (by omega), h1, pz_rd (by omega) (by omega), h2, cm_floorAt hn (cOk_F h) (by omega) hok.1, bd1_eq, pz_rd (by omega) (by omega), h3, if_pos hok.2, pz_nm, pz_1]
  · unfold fX3_comesOut_2
    rw [lp_s]
    unfold bX3_comesOut_2
    by_cases c : sz_F I Z < Z.1
    · have hno := sz_F_yes c
      have hco : ¬ sq_co I Z = true := by unfold sq_co; simp; omega
      rw [if_neg hco]
      generalize sz_F I Z = i at c hno ⊢
      obtain ⟨h1, h2, h3, h4, h5⟩ := hZ3 i c
      rw [if_neg (nI_ge (b := Z.1) (by omega) (by omega)), pz_rd (by omega) (by omega), h2]
      by_cases d : Z.2.2.1 i < I.1.1
      · have hne : ¬ sq_fl I (Z.2.1 i) (Z.2.2.1 i) = Z.2.2.2 i := fun q => hno (by unfold sz_ok; simp [d, q])
        rw [if_neg (nI_ge d (by omega)), pz_rd (by omega) (by omega), h1, pz_rd (by omega) (by omega), h2, cm_floorAt hn (cOk_F h) (by omega) d, bd1_eq, pz_rd (by omega) (by omega), h3, if_neg hne]
      · rw [if_pos (nI_le (by omega) (by omega))]
    · have hco : sq_co I Z = true := by unfold sq_co; simp; omega
      rw [if_pos hco, if_pos (nI_le (by omega) (by omega))]
theorem mm_isSeen8 {I : sI} {S : jT11} {Z : sZ} {tn rm en gone sg : Int32} {te ev si : Nat → Int32} (h : mOk I S) (hn : I.1.1 ≤ 8) (ht : tn = nI I.1.1) (hZ : MZ Z sg si) : fX8_isSeen_8 tn rm en gone sg te ev si jF S 1 0 = some (if sq_co I Z = true then 1 else 0, S) := by
  obtain ⟨hZ1, hZ2, hZ3⟩ := hZ
  have hFb := mOk_F h
  have hF := sz_F_le I Z
  subst ht
  subst hZ2
  refine pz_up (fun F i => fX8_isSeen_8 (nI I.1.1) rm en gone (nI Z.1) te ev si F S (if i ≤ sz_F I Z then 1 else 0) (nI i)) Z.1 _ (fun F i hi => ?_) (fun F => ?_) Z.1 0 jF (by omega) (pz_jF (by omega))
  · show bX8_isSeen_8 (nI I.1.1) rm en gone (nI Z.1) te ev si (fX8_isSeen_8 (nI I.1.1) rm en gone (nI Z.1) te ev si F) S (if i ≤ sz_F I Z then 1 else 0) (nI i) = _
    obtain ⟨h1, h2, h3, h4, h5⟩ := hZ3 i hi
    unfold bX8_isSeen_8
    simp only [fX8_isSeen_74, fX8_isSeen_75, pz_nm, pz_1]
    rw [if_neg (nI_ge hi (by omega)), mm_31, pz_rd (by omega) (by omega), h2, ite01]
    by_cases c : i ≤ sz_F I Z
    · rw [if_pos c, mm_tenantN hn (by omega), bd1_eq, ite01]
      by_cases d : Z.2.2.1 i < I.1.1
      · rw [if_pos d, mm_3, pz_rd (by omega) (by omega), h1, xi8, pz_rd (by omega) (by omega), hFb _ _ (by omega) d, show nI (3 * i) + (2 : Int32) = nI (3 * i + 2) from nI_add _ 2, pz_rd (by omega) (by omega), h3]
        by_cases e : sq_fl I (Z.2.1 i) (Z.2.2.1 i) = Z.2.2.2 i
        · have : i < sz_F I Z := by
            rcases Nat.lt_or_ge i (sz_F I Z) with q | q
            · exact q
            · have q2 : sz_F I Z = i := by omega
              have := sz_F_yes (I := I) (Z := Z) (by omega)
              rw [q2] at this
              exact absurd (by unfold sz_ok; simp [d, e]) this
          rw [if_pos e, if_pos (show i + 1 ≤ sz_F I Z by omega)]
        · have : ¬ i < sz_F I Z := fun q => by
            have := sz_F_no q
            unfold sz_ok at this
            simp [e] at this
          rw [if_neg e, if_neg (show ¬ i + 1 ≤ sz_F I Z by omega)]
      · have : ¬ i < sz_F I Z := fun q => by
          have := sz_F_no q
          unfold sz_ok at this
          simp [d] at this
        rw [if_neg d, if_neg (show ¬ i + 1 ≤ sz_F I Z by omega)]
    · rw [if_neg c, if_neg (show ¬ i + 1 ≤ sz_F I Z by omega)]
  · unfold fX8_isSeen_8
    rw [lp_s]
    unfold bX8_isSeen_8
    rw [if_pos (nI_le (Nat.le_refl _) (by omega)), ckB01]
    by_cases c : Z.1 ≤ sz_F I Z
    · rw [if_pos c, if_pos (show sq_co I Z = true by unfold sq_co; simp; omega)]
    · rw [if_neg c, if_neg (show ¬ sq_co I Z = true by unfold sq_co; simp; omega)]
theorem mm_isSeen {T E : sT} {Z : sZ} {w tn rm en gone sg : Int32} {r : Nat} {te ev si : Nat → Int32} {S : jT11} (hT : MT T tn te) (hE : ME E en ev) (hw : ∀ e, e < E.1 → (bt w e = true ↔ ¬ bt gone e = true)) (hrm : rm = nI r) (hr : r ≤ 8) (hZ : MZ Z sg si) : ∃ S', fX8_isSeen tn rm en gone sg te ev si S = some (if sq_co (hI T E w r) Z = true then 1 else 0, S') ∧ mOk (hI T E w r) S' := by
  obtain ⟨S', e, h⟩ := mm_livesI (S := S) hT hE hw hrm hr
  refine ⟨S', ?_, h⟩
  unfold fX8_isSeen
  rw [e, bd1_eq]
  exact mm_isSeen8 (I := hI T E w r) h hT.1 hT.2.1 hZ
def wn (e : Nat) : Int32 := 255 &&& (((1 : Int32) <<< (nI e &&& 31)) ^^^ (-1))
theorem bt_one {e x : Nat} (he : e < 32) (hx : x < 32) : bt ((1 : Int32) <<< (nI e &&& 31)) x = decide (x = e) := by
  have := bt_set 0 e x he hx
  rw [b_or, b_0, Bool.false_or, Bool.false_or] at this
  exact this
theorem bt_wn {e x : Nat} (he : e < 8) (hx : x < 8) : bt (wn e) x = true ↔ ¬ bt ((1 : Int32) <<< (nI e &&& 31)) x = true := by
  unfold wn
  rw [b_and, b_xor, b_255, b_m1 x (by omega), bt_one (by omega) (by omega)]
  by_cases c : x = e
  · simp [c]
  · simp [c, hx]
theorem cm_never {T E : sT} {Z : sZ} {r : Nat} {rm : Int32} {told ev seen : jT3} (hT : InT3 T told) (hE : InE3 E ev) (hZ : InZ Z seen) (hrm : rm = nI r) : ∀ (j i F : Nat) (tr : jT11), i + j = E.1 → j < F → ∃ tr', fX7_never_4 rm told ev seen F tr (orB (fun e => sq_co (hI T E (wn e) r) Z) i) (nI i) = some (orB (fun e => sq_co (hI T E (wn e) r) Z) E.1, tr') := by
  have hn := hT.1
  have hE1 := hE.1
  have hE2 : ev.1 = nI E.1 := hE.2.1
  intro j
  induction j with
  | zero =>
    intro i F tr h1 h2
    obtain ⟨F', rfl⟩ : ∃ z, F = z + 1 := ⟨F - 1, by omega⟩
    have hi : i = E.1 := by omega
    subst hi
    refine ⟨tr, ?_⟩
    unfold fX7_never_4
    rw [lp_s]
    unfold bX7_never_4
    rw [hE2, if_pos (nI_le (Nat.le_refl _) (by omega))]
  | succ j ih =>
    intro i F tr h1 h2
    obtain ⟨F', rfl⟩ : ∃ z, F = z + 1 := ⟨F - 1, by omega⟩
    have hi : i < E.1 := by omega
    obtain ⟨C, hC, e⟩ := cm_runI (T := T) (E := E) (w := wn i) (r := r) (sz := tr.1) (st := tr.2.1) (fa := tr.2.2.1) (pa := tr.2.2.2.1) (fls := tr.2.2.2.2.1) (lfs := tr.2.2.2.2.2.1) (flr := tr.2.2.2.2.2.2.1) (fl := tr.2.2.2.2.2.2.2.1) (be := tr.2.2.2.2.2.2.2.2.1) (lf := tr.2.2.2.2.2.2.2.2.2.1) (od := tr.2.2.2.2.2.2.2.2.2.2.1) (tk := tr.2.2.2.2.2.2.2.2.2.2.2) hT hE hrm
    have e0 : fX7_never_4 rm told ev seen (F' + 1) tr (orB (fun e => sq_co (hI T E (wn e) r) Z) i) (nI i) = bX7_never_4 rm told ev seen (fX7_never_4 rm told ev seen F') tr (orB (fun e => sq_co (hI T E (wn e) r) Z) i) (nI i) := rfl
    rw [e0]
    obtain ⟨tr', eih⟩ := ih (i + 1) F' C (by omega) (by omega)
    refine ⟨tr', ?_⟩
    rw [← eih]
    unfold bX7_never_4
    simp only [fX7_never_63, pz_nm, pz_1]
    rw [hE2] at e ⊢
    rw [if_neg (nI_ge hi (by omega)), show (255 : Int32) &&& (((1 : Int32) <<< (nI i &&& 31)) ^^^ (-1)) = wn i from rfl, e, bd12_eq, cq_comes hC hn hZ, bd1_eq, ite01]
    have es : orB (fun e => sq_co (hI T E (wn e) r) Z) (i + 1) = if sq_co (hI T E (wn i) r) Z = true then orB (fun e => sq_co (hI T E (wn e) r) Z) i ||| ((1 : Int32) <<< (nI i &&& 31)) else orB (fun e => sq_co (hI T E (wn e) r) Z) i := rfl
    rw [es]
    by_cases c : sq_co (hI T E (wn i) r) Z = true
    · rw [if_pos c, if_pos c]
    · rw [if_neg c, if_neg c]
theorem mm_never {T E : sT} {Z : sZ} {r : Nat} {tn rm en sg : Int32} {te ev si : Nat → Int32} (hT : MT T tn te) (hE : ME E en ev) (hZ : MZ Z sg si) (hrm : rm = nI r) (hr : r ≤ 8) : ∀ (j i F : Nat) (g : Int32) (S : jT11), i + j = E.1 → j < F → ∃ S', fX8_neverNow_4 tn rm en sg te ev si F g S (orB (fun e => sq_co (hI T E (wn e) r) Z) i) (nI i) = some (orB (fun e => sq_co (hI T E (wn e) r) Z) E.1, 0, S') := by
  have hE1 := hE.1
  have hE2 : en = nI E.1 := hE.2.1
  intro j
  induction j with
  | zero =>
    intro i F g S h1 h2
    obtain ⟨F', rfl⟩ : ∃ z, F = z + 1 := ⟨F - 1, by omega⟩
    have hi : i = E.1 := by omega
    subst hi
    refine ⟨S, ?_⟩
    unfold fX8_neverNow_4
    rw [lp_s]
    unfold bX8_neverNow_4
    rw [hE2, if_pos (nI_le (Nat.le_refl _) (by omega))]
  | succ j ih =>
    intro i F g S h1 h2
    obtain ⟨F', rfl⟩ : ∃ z, F = z + 1 := ⟨F - 1, by omega⟩
    have hi : i < E.1 := by omega
    obtain ⟨S1, e1, hS1⟩ := mm_isSeen (T := T) (E := E) (w := wn i) (gone := (1 : Int32) <<< (nI i &&& 31)) (S := S) hT hE (fun e he => bt_wn (by omega) (by omega)) hrm hr hZ
    obtain ⟨S2, e2⟩ := ih (i + 1) F' ((1 : Int32) <<< (nI i &&& 31)) S1 (by omega) (by omega)
    refine ⟨S2, ?_⟩
    have e0 : fX8_neverNow_4 tn rm en sg te ev si (F' + 1) g S (orB (fun e => sq_co (hI T E (wn e) r) Z) i) (nI i) = bX8_neverNow_4 tn rm en sg te ev si (fX8_neverNow_4 tn rm en sg te ev si F') g S (orB (fun e => sq_co (hI T E (wn e) r) Z) i) (nI i) := rfl
    rw [e0, ← e2]
    unfold bX8_neverNow_4
    simp only [fX8_neverNow_34, pz_nm, pz_1]
    rw [if_neg (show ¬ en ≤ nI i by rw [hE2]; exact nI_ge hi (by omega)), e1, bd2_eq, ite01]
    have es : orB (fun e => sq_co (hI T E (wn e) r) Z) (i + 1) = if sq_co (hI T E (wn i) r) Z = true then orB (fun e => sq_co (hI T E (wn e) r) Z) i ||| ((1 : Int32) <<< (nI i &&& 31)) else orB (fun e => sq_co (hI T E (wn e) r) Z) i := rfl
    rw [es]
    by_cases c : sq_co (hI T E (wn i) r) Z = true
    · rw [if_pos c, if_pos c]
    · rw [if_neg c, if_neg c, Int32.or_zero]
