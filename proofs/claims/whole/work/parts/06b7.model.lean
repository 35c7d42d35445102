/-! rows on bits, shifts and unsigned numbers, to paste: each family out of a closed proof of our own, whole with what it rests on; each by itself clean at Lean in its own claim (generation 39, form 5). Take a family whole -/
/-! ===== Int32 by its bits: bt x i ===== -/
def bt (x : Int32) (i : Nat) : Bool := x.toBitVec.getLsbD i
theorem b_ext {x y : Int32} (h : ∀ i, i < 32 → bt x i = bt y i) : x = y := Int32.toBitVec_inj.mp (BitVec.eq_of_getLsbD_eq (fun i hi => h i hi))
theorem b_or (x y : Int32) (i : Nat) : bt (x ||| y) i = (bt x i || bt y i) := by unfold bt; rw [Int32.toBitVec_or, BitVec.getLsbD_or]
theorem b_and (x y : Int32) (i : Nat) : bt (x &&& y) i = (bt x i && bt y i) := by unfold bt; rw [Int32.toBitVec_and, BitVec.getLsbD_and]
theorem b_xor (x y : Int32) (i : Nat) : bt (x ^^^ y) i = (bt x i ^^ bt y i) := by unfold bt; rw [Int32.toBitVec_xor, BitVec.getLsbD_xor]
theorem b_big {x : Int32} {i : Nat} (h : 32 ≤ i) : bt x i = false := BitVec.getLsbD_of_ge _ _ h
theorem b_255 (i : Nat) : bt 255 i = decide (i < 8) := by
  rcases Nat.lt_or_ge i 32 with h | h
  · exact (by decide +kernel : ∀ i, i < 32 → bt 255 i = decide (i < 8)) i h
  · rw [b_big h, decide_eq_false (by omega)]
theorem b_65535 (i : Nat) : bt 65535 i = decide (i < 16) := by
  rcases Nat.lt_or_ge i 32 with h | h
  · exact (by decide +kernel : ∀ i, i < 32 → bt 65535 i = decide (i < 16)) i h
  · rw [b_big h, decide_eq_false (by omega)]
theorem b_m1 : ∀ i, i < 32 → bt (-1) i = true := by decide +kernel
theorem b_0 (i : Nat) : bt 0 i = false := BitVec.getLsbD_zero
theorem s_l : ∀ n, n < 32 → ((nI n &&& 31).toBitVec.smod 32).toNat = n := by decide +kernel
theorem s_u : ∀ n, n < 32 → (((nI n).toUInt32 &&& Int32.toUInt32 31).toBitVec % 32).toNat = n := by decide +kernel
theorem b_shl (n : Nat) (hn : n < 32) (x : Int32) {i : Nat} (hi : i < 32) : bt (x <<< (nI n &&& 31)) i = (decide (n ≤ i) && bt x (i - n)) := by
  unfold bt
  rw [Int32.toBitVec_shiftLeft]
  show (x.toBitVec <<< ((nI n &&& 31).toBitVec.smod 32).toNat).getLsbD i = _
  rw [s_l n hn, BitVec.getLsbD_shiftLeft]
  rcases Nat.lt_or_ge i n with h | h
  · simp [h, Nat.not_le.mpr h]
  · simp [hi, h, Nat.not_lt.mpr h]
theorem b_ushr (n : Nat) (hn : n < 32) (x : Int32) (i : Nat) : bt ((x.toUInt32 >>> ((nI n).toUInt32 &&& Int32.toUInt32 31)).toInt32) i = bt x (n + i) := by
  show (x.toUInt32 >>> ((nI n).toUInt32 &&& Int32.toUInt32 31)).toBitVec.getLsbD i = x.toUInt32.toBitVec.getLsbD (n + i)
  rw [UInt32.toBitVec_shiftRight]
  show (x.toUInt32.toBitVec >>> (((nI n).toUInt32 &&& Int32.toUInt32 31).toBitVec % 32).toNat).getLsbD i = _
  rw [s_u n hn, BitVec.getLsbD_ushiftRight]
theorem b_sshr (n : Nat) (hn : n < 32) (x : Int32) {i : Nat} (hi : i < 32) : bt (x >>> (nI n &&& 31)) i = if n + i < 32 then bt x (n + i) else bt x 31 := by
  unfold bt
  rw [Int32.toBitVec_shiftRight]
  show (x.toBitVec.sshiftRight ((nI n &&& 31).toBitVec.smod 32).toNat).getLsbD i = _
  rw [s_l n hn, BitVec.getLsbD_sshiftRight, BitVec.msb_eq_getLsbD_last]
  simp [hi]
theorem b_shl8 (x : Int32) {i : Nat} (hi : i < 32) : bt (x <<< ((8 : Int32) &&& 31)) i = (decide (8 ≤ i) && bt x (i - 8)) := b_shl 8 (by omega) x hi
theorem b_shl16 (x : Int32) {i : Nat} (hi : i < 32) : bt (x <<< ((16 : Int32) &&& 31)) i = (decide (16 ≤ i) && bt x (i - 16)) := b_shl 16 (by omega) x hi
theorem b_shl24 (x : Int32) {i : Nat} (hi : i < 32) : bt (x <<< ((24 : Int32) &&& 31)) i = (decide (24 ≤ i) && bt x (i - 24)) := b_shl 24 (by omega) x hi
theorem b_sshr8 (x : Int32) {i : Nat} (hi : i < 32) : bt (x >>> ((8 : Int32) &&& 31)) i = if 8 + i < 32 then bt x (8 + i) else bt x 31 := b_sshr 8 (by omega) x hi
theorem bt_1 (i : Nat) (hi : i < 32) : bt 1 i = decide (i = 0) := by
  have : ∀ i, i < 32 → bt 1 i = decide (i = 0) := by decide +kernel
  exact this i hi
theorem bt_get (x : Int32) (k : Nat) (hk : k < 32) : (x >>> (nI k &&& 31)) &&& 1 = if bt x k = true then 1 else 0 := by
  refine b_ext (fun i hi => ?_)
  rw [b_and, bt_1 i hi, b_sshr k hk x hi]
  by_cases h : i = 0
  · subst h
    rw [if_pos (show k + 0 < 32 by omega), Nat.add_zero]
    by_cases c : bt x k = true
    · rw [if_pos c, c]; decide
    · rw [if_neg c]; simp [c, b_0]
  · rw [show decide (i = 0) = false by simp [h], Bool.and_false]
    by_cases c : bt x k = true
    · rw [if_pos c, bt_1 i hi]; simp [h]
    · rw [if_neg c, b_0]
theorem bt_set (x : Int32) (b k : Nat) (hb : b < 32) (hk : k < 32) : bt (x ||| ((1 : Int32) <<< (nI b &&& 31))) k = (bt x k || decide (k = b)) := by
  rw [b_or, b_shl b hb 1 hk]
  congr 1
  by_cases h : b ≤ k
  · rw [bt_1 _ (by omega)]
    simp [h]
    omega
  · simp [h]
    omega
theorem mm_isIn (x : Int32) (k : Nat) (hk : k < 32) : fX8_isIn x (nI k) = some (if bt x k = true then 1 else 0) := by
  unfold fX8_isIn
  rw [show (x >>> (nI k &&& (31 : Int32))) &&& (1 : Int32) = if bt x k = true then 1 else 0 from bt_get x k hk]
  by_cases c : bt x k = true
  · rw [if_pos c, if_pos rfl]
  · rw [if_neg c, if_neg (by decide)]
theorem mm_tenant {n : Nat} (hn : n ≤ 8) (x : Int32) : fX8_isTenant x (nI n) = some (if 0 ≤ x ∧ x < nI n then 1 else 0) := by
  unfold fX8_isTenant
  rw [show (0 : Int64) = Int32.toInt64 0 by decide, pz_inI, bd1_eq]
  have e : (0 ≤ x ∧ x ≤ nI n - 1) ↔ (0 ≤ x ∧ x < nI n) := by
    have h1 : (nI n - (1 : Int32)).toInt = (n : Int) - 1 := pk_sub_toInt (a := n) (b := 1) (by omega) (by omega)
    rw [fa_le x, fa_lt x, h1, nI_toInt (by omega)]
    constructor
    · rintro ⟨a, b⟩; exact ⟨a, by omega⟩
    · rintro ⟨a, b⟩; exact ⟨a, by omega⟩
  rw [show (if 0 ≤ x ∧ x ≤ nI n - 1 then (1 : Int32) else 0) = (if 0 ≤ x ∧ x < nI n then 1 else 0) from by
    by_cases c : 0 ≤ x ∧ x < nI n
    · rw [if_pos c, if_pos (e.mpr c)]
    · rw [if_neg c, if_neg (fun q => c (e.mp q))]]
  unfold ckB
  by_cases c : 0 ≤ x ∧ x < nI n
  · rw [if_pos c, if_pos (Or.inr rfl)]
  · rw [if_neg c, if_pos (Or.inl rfl)]
theorem mm_tenantN {n k : Nat} (hn : n ≤ 8) (hk : k < 1000) : fX8_isTenant (nI k) (nI n) = some (if k < n then 1 else 0) := by
  rw [mm_tenant hn]
  by_cases c : k < n
  · rw [if_pos c, if_pos ⟨nI_pos' (by omega), nI_lt c (by omega)⟩]
  · rw [if_neg c, if_neg (fun q => c ((nI_ltI (by omega) (by omega)).mp q.2))]
def MT (T : sT) (tn : Int32) (te : Nat → Int32) : Prop := T.1 ≤ 8 ∧ tn = nI T.1 ∧ ∀ t, t < T.1 → te (3 * t) = nI (T.2.1 t) ∧ te (3 * t + 1) = nI (T.2.2.1 t) ∧ te (3 * t + 2) = nI (T.2.2.2 t) ∧ T.2.1 t ≤ 3 ∧ T.2.2.1 t ≤ 9 ∧ T.2.2.2 t ≤ 9
def ME (E : sT) (en : Int32) (ev : Nat → Int32) : Prop := E.1 ≤ 8 ∧ en = nI E.1 ∧ ∀ e, e < E.1 → ev (3 * e) = nI (E.2.1 e) ∧ ev (3 * e + 1) = nI (E.2.2.1 e) ∧ ev (3 * e + 2) = nI (E.2.2.2 e) ∧ E.2.1 e ≤ 2 ∧ E.2.2.1 e ≤ 23 ∧ E.2.2.2 e ≤ 7
theorem mm_3 (i : Nat) : (3 : Int32) * nI i = nI (3 * i) := pk_mul 3 i
theorem mm_31 (i : Nat) : (3 : Int32) * nI i + (1 : Int32) = nI (3 * i + 1) := by rw [mm_3, pz_1]
theorem mm_32 (i : Nat) : (3 : Int32) * nI i + (2 : Int32) = nI (3 * i + 2) := by rw [mm_3]; exact nI_add _ 2
theorem mm_happens {I : sI} {m : Nat} {gone en au0 tn : Int32} {ev st fl lf : Nat → Int32} (hm : m ≤ 23) (hn : I.1.1 ≤ 8) (htn : tn = nI I.1.1) (hE : ME I.2.1 en ev) (hw : ∀ e, e < I.2.1.1 → (I.2.2.1 e = true ↔ ¬ bt gone e = true)) (h0 : ∀ t, t < I.1.1 → (fl t = -1 ↔ ¬ st t = -1)) : fX8_happens (nI m) tn en gone ev st au0 lf = some ((itN (sp_ev I m fl) (lf, 0) I.2.1.1).2, (itN (sp_ev I m fl) (lf, 0) I.2.1.1).1) := by
  obtain ⟨hE1, rfl, hE3⟩ := hE
  subst htn
  unfold fX8_happens
  refine pz_up (fun F i => fX8_happens_7 (nI m) (nI I.1.1) (nI I.2.1.1) gone ev st F (itN (sp_ev I m fl) (lf, 0) i).2 (itN (sp_ev I m fl) (lf, 0) i).1 (nI i)) I.2.1.1 _ (fun F i hi => ?_) (fun F => ?_) I.2.1.1 0 jF (by omega) (pz_jF (by omega))
  · show bX8_happens_7 (nI m) (nI I.1.1) (nI I.2.1.1) gone ev st (fX8_happens_7 (nI m) (nI I.1.1) (nI I.2.1.1) gone ev st F) _ _ _ = fX8_happens_7 (nI m) (nI I.1.1) (nI I.2.1.1) gone ev st F (sp_ev I m fl i (itN (sp_ev I m fl) (lf, 0) i)).2 (sp_ev I m fl i (itN (sp_ev I m fl) (lf, 0) i)).1 (nI (i + 1))
    have hau := sp_ev_au (I := I) (m := m) (fl := fl) (lf := lf) i
    generalize itN (sp_ev I m fl) (lf, 0) i = S at hau ⊢
    obtain ⟨h1, h2, h3, h4, h5, h6⟩ := hE3 i hi
    have hwi := hw i hi
    unfold bX8_happens_7 sp_ev
    simp only [fX8_happens_127, fX8_happens_125, fX8_happens_79, fX8_happens_74, pz_nm, pz_1]
    rw [if_neg (nI_ge hi (by omega)), mm_31, pz_rd (by omega) (by omega), h2, mm_isIn _ _ (by omega), bd1_eq, mm_3, pz_rd (by omega) (by omega), h1, show nI (3 * i) + (2 : Int32) = nI (3 * i + 2) from nI_add _ 2, pz_rd (by omega) (by omega), h3, mm_tenantN hn (by omega)]
    by_cases c1 : I.2.1.2.2.1 i = m
    · rw [if_pos (by rw [c1])]
      by_cases c2 : I.2.2.1 i = true
      · have c12 : I.2.1.2.2.1 i = m ∧ I.2.2.1 i = true := ⟨c1, c2⟩
        rw [if_neg (hwi.mp c2), if_pos rfl, if_pos c12]
        by_cases c3 : I.2.1.2.1 i = 2
        · rw [if_pos (show nI (I.2.1.2.1 i) = (2 : Int32) by rw [c3]; rfl), if_pos (show (2 : Int32) ≤ nI (I.2.1.2.1 i) by rw [c3]; decide), if_pos c3]
          unfold ckB
          rw [if_pos (show (1 : Int32) = 0 ∨ (1 : Int32) = 1 from Or.inr rfl)]
          split <;> rfl
        · rw [if_neg (show ¬ nI (I.2.1.2.1 i) = (2 : Int32) from fun q => c3 ((nI_eq (b := 2) (by omega) (by omega)).mp q)), if_neg (show ¬ (2 : Int32) ≤ nI (I.2.1.2.1 i) from nI_ge (b := 2) (by omega) (by omega)), if_neg c3]
          simp only [bd1_eq]
          have ck0 : ∀ k : Option (Int32 × (Nat → Int32)), ckB (0 : Int32) k = k := fun k => by unfold ckB; rw [if_pos (Or.inl rfl)]
          have ck1 : ∀ k : Option (Int32 × (Nat → Int32)), ckB (1 : Int32) k = k := fun k => by unfold ckB; rw [if_pos (Or.inr rfl)]
          rw [ck0, ck1]
          have key : ∀ a : Int32, (if (if I.2.1.2.2.2 i < I.1.1 then (1 : Int32) else 0) = 0 then fX8_happens_7 (nI m) (nI I.1.1) (nI I.2.1.1) gone ev st F a S.1 (nI (i + 1)) else rdA 8 st (nI (I.2.1.2.2.2 i)) (fun v_7 => if v_7 = (-1 : Int32) then rdA 8 S.1 (nI (I.2.1.2.2.2 i)) (fun v_8 => if nI (I.2.1.2.1 i) = (0 : Int32) then wrI 8 S.1 (nI (I.2.1.2.2.2 i)) (v_8 + (-4 : Int32)) (fun c_left_9 => fX8_happens_7 (nI m) (nI I.1.1) (nI I.2.1.1) gone ev st F a c_left_9 (nI (i + 1))) else wrI 8 S.1 (nI (I.2.1.2.2.2 i)) (v_8 + (3 : Int32)) (fun c_left_9 => fX8_happens_7 (nI m) (nI I.1.1) (nI I.2.1.1) gone ev st F a c_left_9 (nI (i + 1)))) else fX8_happens_7 (nI m) (nI I.1.1) (nI I.2.1.1) gone ev st F a S.1 (nI (i + 1)))) = fX8_happens_7 (nI m) (nI I.1.1) (nI I.2.1.1) gone ev st F a (if I.2.1.2.2.2 i < I.1.1 ∧ ¬ fl (I.2.1.2.2.2 i) = -1 then (upd S.1 (I.2.1.2.2.2 i) (S.1 (I.2.1.2.2.2 i) + (if I.2.1.2.1 i = 1 then 3 else -4)), S.2) else S).1 (nI (i + 1)) := by
            intro a
            by_cases c4 : I.2.1.2.2.2 i < I.1.1
            · rw [if_pos c4, if_neg (by decide), pz_rd (by omega) (by omega), pz_rd (by omega) (by omega), pz_wr (by omega) (by omega), pz_wr (by omega) (by omega)]
              by_cases c5 : st (I.2.1.2.2.2 i) = -1
              · have c45 : I.2.1.2.2.2 i < I.1.1 ∧ ¬ fl (I.2.1.2.2.2 i) = -1 := ⟨c4, fun q => ((h0 _ c4).mp q) c5⟩
                rw [if_pos c5, if_pos c45]
                by_cases c6 : I.2.1.2.1 i = 1
                · rw [if_neg (show ¬ nI (I.2.1.2.1 i) = (0 : Int32) by rw [c6]; decide), if_pos c6]
                · rw [if_pos (show nI (I.2.1.2.1 i) = (0 : Int32) by rw [show I.2.1.2.1 i = 0 by omega]; rfl), if_neg c6]
              · rw [if_neg c5, if_neg (fun q => q.2 ((h0 _ c4).mpr c5))]
            · rw [if_neg c4, if_pos rfl, if_neg (fun q => c4 q.1)]
          have e2 : (if I.2.1.2.2.2 i < I.1.1 ∧ ¬ fl (I.2.1.2.2.2 i) = -1 then (upd S.1 (I.2.1.2.2.2 i) (S.1 (I.2.1.2.2.2 i) + (if I.2.1.2.1 i = 1 then 3 else -4)), S.2) else S).2 = S.2 := by split <;> rfl
          rw [e2, key, key]
          rcases hau with q | q
          · rw [q, if_pos rfl]
          · rw [q, if_neg (by decide), if_neg (show ¬ (2 : Int32) ≤ nI (I.2.1.2.1 i) from nI_ge (b := 2) (by omega) (by omega))]
      · have hb : bt gone i = true := by
          by_cases q : bt gone i = true
          · exact q
          · exact absurd (hwi.mpr q) c2
        rw [if_pos hb, if_neg (by decide), if_neg (fun q => c2 q.2)]
    · rw [if_neg (fun q => c1 ((nI_eq (by omega) (by omega)).mp q)), if_neg (fun q => c1 q.1)]
  · show bX8_happens_7 (nI m) (nI I.1.1) (nI I.2.1.1) gone ev st (fX8_happens_7 (nI m) (nI I.1.1) (nI I.2.1.1) gone ev st F) _ _ _ = _
    unfold bX8_happens_7
    rw [if_pos (nI_le (Nat.le_refl _) (by omega))]
