theorem sp_w_rng (v au : Int32) : ∃ w : Nat, w ≤ 12 ∧ sp_w v au = nI w := by
  unfold sp_w
  by_cases h : 0 ≤ v
  · rw [if_pos h]
    obtain ⟨j, hj, rfl⟩ := nI_of (x := v) (Int32.not_lt.mpr h)
    have hd : nI j / (3 : Int32) = nI (j / 3) := pk_div (d := 3) hj (by omega) (by omega)
    rw [hd]
    have h12 : ∀ z : Nat, z < 2 ^ 31 → ∃ w : Nat, w ≤ 12 ∧ (if nI z < (12 : Int32) then nI z else 12) = nI w := by
      intro z hz
      by_cases c : z < 12
      · exact ⟨z, by omega, by rw [if_pos (show nI z < (12 : Int32) from nI_lt (b := 12) c (by omega))]⟩
      · exact ⟨12, by omega, by rw [if_neg (show ¬ nI z < (12 : Int32) from nI_nlt (b := 12) (by omega) hz)]; rfl⟩
    by_cases ha : au = 0
    · rw [if_pos ha, pz_1]; exact h12 _ (by omega)
    · rw [if_neg ha, show nI (j / 3) + (0 : Int32) = nI (j / 3) from Int32.add_zero _]; exact h12 _ (by omega)
  · rw [if_neg h]; exact ⟨0, by omega, rfl⟩
theorem cm_wanted {t : Nat} {au : Int32} {lf : Nat → Int32} (ht : t < 8) : fX1_wanted (nI t) au lf = some (sp_w (lf t) au) := by
  unfold fX1_wanted fX1_wanted_30 sp_w
  rw [pz_rd ht (by omega), pz_rd ht (by omega)]
  by_cases h : 0 ≤ lf t
  · rw [if_pos h, if_pos h]
    by_cases ha : au = 0
    · rw [if_pos ha, if_pos ha]
    · rw [if_neg ha, if_neg ha, Int32.add_zero]
  · rw [if_neg h, if_neg h]
def sp_tk (tk : Nat → Int32) (f : Nat) : Nat → Int32 := if f = 0 then tk else upd tk f (tk f + 1)
theorem sp_slot_le (tk : Nat → Int32) (rm : Nat) : ∀ w, sp_slot tk rm w ≤ w
  | 0 => Nat.le_refl 0
  | w + 1 => by
    unfold sp_slot
    have := sp_slot_le tk rm w
    split <;> omega
theorem cm_room {x : Int32} {rm : Nat} {tk : Nat → Int32} : ∀ (w F : Nat), w ≤ 12 → w < F → fX1_roomBelow_2 x (nI rm) F tk (nI w) = some (nI (sp_slot tk rm w), sp_tk tk (sp_slot tk rm w)) := by
  intro w
  induction w with
  | zero =>
    intro F h1 h2
    obtain ⟨F', rfl⟩ : ∃ z, F = z + 1 := ⟨F - 1, by omega⟩
    have e0 : fX1_roomBelow_2 x (nI rm) (F' + 1) tk (nI 0) = bX1_roomBelow_2 x (nI rm) (fX1_roomBelow_2 x (nI rm) F') tk (nI 0) := rfl
    rw [e0]
    unfold bX1_roomBelow_2
    rw [if_pos (show nI 0 ≤ (0 : Int32) by decide)]
    rfl
  | succ w ih =>
    intro F h1 h2
    obtain ⟨F', rfl⟩ : ∃ z, F = z + 1 := ⟨F - 1, by omega⟩
    have e0 : fX1_roomBelow_2 x (nI rm) (F' + 1) tk (nI (w + 1)) = bX1_roomBelow_2 x (nI rm) (fX1_roomBelow_2 x (nI rm) F') tk (nI (w + 1)) := rfl
    rw [e0]
    unfold bX1_roomBelow_2 sp_slot
    rw [if_neg (nI_nle (by omega) (by omega)), pz_rd (by omega) (by omega), pz_rd (by omega) (by omega), pz_wr (by omega) (by omega)]
    by_cases c : tk (w + 1) < nI rm
    · rw [if_neg (fa_of_lt c).2.1, if_pos c]
      unfold sp_tk
      rw [if_neg (by omega)]
    · rw [if_pos (fa_of_nlt c), if_neg c]
      simp only [pz_nm]
      rw [show nI (w + 1) + (-1 : Int32) = nI w from pk_m1 w]
      exact ih F' (by omega) (by omega)
theorem sp_b_ok (lf : Nat → Int32) (ok : Nat → Bool) : ∀ k, (sp_b lf ok k = none → ∀ u, u < k → ¬ ok u = true) ∧ ∀ c, sp_b lf ok k = some c → c < k ∧ ok c = true ∧ ∀ u, u < k → ok u = true → u ≠ c → AH lf c u
  | 0 => ⟨fun _ u hu => absurd hu (Nat.not_lt_zero u), fun c h => by cases h⟩
  | k + 1 => by
    obtain ⟨ih1, ih2⟩ := sp_b_ok lf ok k
    unfold sp_b
    cases hb : sp_b lf ok k with
    | none =>
      have h0 := ih1 hb
      dsimp only
      by_cases c : ok k = true
      · rw [if_pos c]
        refine ⟨fun h => (by cases h), fun d hd => ?_⟩
        have e : k = d := Option.some.inj hd
        subst e
        exact ⟨by omega, c, fun u hu h1 h2 => absurd h1 (h0 u (by omega))⟩
      · rw [if_neg c]
        refine ⟨fun _ u hu => ?_, fun d hd => (by cases hd)⟩
        by_cases e : u = k
        · subst e; exact c
        · exact h0 u (by omega)
    | some b =>
      obtain ⟨g1, g2, g3⟩ := ih2 b hb
      dsimp only
      by_cases c : ok k = true ∧ lf b < lf k
      · rw [if_pos c]
        refine ⟨fun h => (by cases h), fun d hd => ?_⟩
        have e : k = d := Option.some.inj hd
        subst e
        refine ⟨by omega, c.1, fun u hu h1 h2 => ?_⟩
        have hkb : AH lf k b := Or.inl c.2
        by_cases e : u = b
        · subst e; exact hkb
        · exact AH_tr hkb (g3 u (by omega) h1 e)
      · rw [if_neg c]
        refine ⟨fun h => (by cases h), fun d hd => ?_⟩
        have e : b = d := Option.some.inj hd
        subst e
        refine ⟨by omega, g2, fun u hu h1 h2 => ?_⟩
        by_cases e : u = k
        · subst e
          refine AH_tot (by omega) (fun q => ?_)
          rcases q with q | q
          · exact c ⟨h1, q⟩
          · omega
        · exact g3 u (by omega) h1 h2
theorem sp_b_is {lf : Nat → Int32} {ok : Nat → Bool} {n b : Nat} (h1 : b < n) (h2 : ok b = true) (h3 : ∀ u, u < n → ok u = true → u ≠ b → AH lf b u) : sp_b lf ok n = some b := by
  obtain ⟨g1, g2⟩ := sp_b_ok lf ok n
  cases hb : sp_b lf ok n with
  | none => exact absurd h2 (g1 hb b h1)
  | some c =>
    obtain ⟨k1, k2, k3⟩ := g2 c hb
    by_cases e : b = c
    · rw [e]
    · exact (AH_no (h3 c k1 k2 (fun q => e q.symm)) (k3 b h1 h2 e)).elim
theorem sp_b_no {lf : Nat → Int32} {ok : Nat → Bool} {n : Nat} (h : ∀ u, u < n → ¬ ok u = true) : sp_b lf ok n = none := by
  cases hb : sp_b lf ok n with
  | none => rfl
  | some c => exact absurd ((sp_b_ok lf ok n).2 c hb).2.1 (h c ((sp_b_ok lf ok n).2 c hb).1)
theorem sp_gs_some {I : sI} {lf st : Nat → Int32} {au : Int32} {s : (Nat → Bool) × (Nat → Int32) × (Nat → Int32)} {b w : Nat} (h : sp_b lf (sp_ok st s.1) I.1.1 = some b) (hw : sp_w (lf b) au = nI w) (hw2 : w ≤ 12) : sp_gs I lf st au s = (fun t => decide (t = b) || s.1 t, upd s.2.1 b (nI (sp_slot s.2.2 I.2.2.2 w)), sp_tk s.2.2 (sp_slot s.2.2 I.2.2.2 w)) := by
  unfold sp_gs
  rw [h]
  dsimp only
  rw [hw, nI_clamp (by omega)]
  rfl
theorem sp_gs_none {I : sI} {lf st : Nat → Int32} {au : Int32} {s : (Nat → Bool) × (Nat → Int32) × (Nat → Int32)} (h : sp_b lf (sp_ok st s.1) I.1.1 = none) : sp_gs I lf st au s = s := by
  unfold sp_gs
  rw [h]
theorem sp_g_not (I : sI) (lf st : Nat → Int32) (au : Int32) (f0 : Nat → Int32) (t : Nat) : ∀ i, ¬ (sp_g I lf st au f0 i).1 t = true → (sp_g I lf st au f0 i).2.1 t = f0 t
  | 0, _ => rfl
  | i + 1, h => by
    unfold sp_g at h ⊢
    cases hb : sp_b lf (sp_ok st (sp_g I lf st au f0 i).1) I.1.1 with
    | none => rw [sp_gs_none hb] at h ⊢; exact sp_g_not I lf st au f0 t i h
    | some b =>
      obtain ⟨w, hw2, hw⟩ := sp_w_rng (lf b) au
      rw [sp_gs_some hb hw hw2] at h ⊢
      dsimp only at h ⊢
      simp only [Bool.or_eq_true, decide_eq_true_eq, not_or] at h
      rw [upd_at, if_neg h.1]
      exact sp_g_not I lf st au f0 t i h.2
theorem sp_slot_cong {t1 t2 : Nat → Int32} {rm : Nat} : ∀ w, w ≤ 12 → (∀ f, 1 ≤ f → f ≤ 12 → t1 f = t2 f) → sp_slot t1 rm w = sp_slot t2 rm w
  | 0, _, _ => rfl
  | w + 1, hw, h => by
    unfold sp_slot
    rw [h (w + 1) (by omega) hw, sp_slot_cong w (by omega) h]
theorem sp_tk_cong {t1 t2 : Nat → Int32} {g : Nat} (hg : g ≤ 12) (h : ∀ f, 1 ≤ f → f ≤ 12 → t1 f = t2 f) : ∀ f, 1 ≤ f → f ≤ 12 → sp_tk t1 g f = sp_tk t2 g f := by
  intro f h1 h2
  unfold sp_tk
  by_cases c : g = 0
  · rw [if_pos c, if_pos c]; exact h f h1 h2
  · rw [if_neg c, if_neg c, upd_at, upd_at, h f h1 h2, h g (by omega) hg]
theorem cm_give10 {I : sI} {au : Int32} {lf st od f0 : Nat → Int32} {o : Nat → Nat} (hn : I.1.1 ≤ 8) (hod : so_ok I.1.1 od o) (hs : ∀ x y, x < y → y < I.1.1 → AH lf (o x) (o y)) (h0 : ∀ t, t < I.1.1 → (f0 t = -1 ↔ ¬ st t = -1)) :
    ∀ (j k F c : Nat) (fl tk : Nat → Int32), k + j = I.1.1 → j < F → c ≤ k → (∀ t, t < I.1.1 → ((sp_g I lf st au f0 c).1 t = true ↔ (∃ x, x < k ∧ o x = t) ∧ st t = -1)) → eqN I.1.1 fl (sp_g I lf st au f0 c).2.1 → (∀ f, 1 ≤ f → f ≤ 12 → tk f = (sp_g I lf st au f0 c).2.2 f) →
      ∃ fl' tk', fX1_giveFloors_10 (nI I.2.2.2) au (nI I.1.1) lf od F fl tk (nI k) = some (fl', tk') ∧ eqN I.1.1 fl' (sp_g I lf st au f0 I.1.1).2.1 ∧ ∀ t, t < I.1.1 → ((sp_g I lf st au f0 I.1.1).1 t = true ↔ st t = -1) := by
  intro j
  induction j with
  | zero =>
    intro k F c fl tk h1 h2 hc hd hf ht
    obtain ⟨F', rfl⟩ : ∃ z, F = z + 1 := ⟨F - 1, by omega⟩
    have hk : k = I.1.1 := by omega
    refine ⟨fl, tk, ?_, ?_⟩
    · have e0 : fX1_giveFloors_10 (nI I.2.2.2) au (nI I.1.1) lf od (F' + 1) fl tk (nI k) = bX1_giveFloors_10 (nI I.2.2.2) au (nI I.1.1) lf od (fX1_giveFloors_10 (nI I.2.2.2) au (nI I.1.1) lf od F') fl tk (nI k) := rfl
      rw [e0]
      unfold bX1_giveFloors_10
      rw [if_pos (nI_le (by omega) (by omega))]
    · have key : ∀ d, sp_g I lf st au f0 (c + d) = sp_g I lf st au f0 c := by
        intro d
        induction d with
        | zero => rfl
        | succ d ih =>
          show sp_gs I lf st au (sp_g I lf st au f0 (c + d)) = _
          rw [ih]
          refine sp_gs_none (sp_b_no (fun u hu q => ?_))
          unfold sp_ok at q
          simp only [Bool.and_eq_true, decide_eq_true_eq, Bool.not_eq_true'] at q
          obtain ⟨x, hx, ex⟩ := fb_onto (n := I.1.1) (f := o) (fun i hi => (hod.1 i hi).2) hod.2 hu
          have := (hd u hu).mpr ⟨⟨x, by omega, ex⟩, q.1⟩
          rw [this] at q
          exact absurd q.2 (by decide)
      have e9 := key (I.1.1 - c)
      rw [show c + (I.1.1 - c) = I.1.1 by omega] at e9
      rw [e9]
      refine ⟨hf, fun t htn => ?_⟩
      rw [hd t htn]
      obtain ⟨x, hx, ex⟩ := fb_onto (n := I.1.1) (f := o) (fun i hi => (hod.1 i hi).2) hod.2 htn
      exact ⟨fun q => q.2, fun q => ⟨⟨x, by omega, ex⟩, q⟩⟩
  | succ j ih =>
    intro k F c fl tk h1 h2 hc hd hf ht
    obtain ⟨F', rfl⟩ : ∃ z, F = z + 1 := ⟨F - 1, by omega⟩
    have hk : k < I.1.1 := by omega
    obtain ⟨ek, lk⟩ := hod.1 k hk
    have e0 : fX1_giveFloors_10 (nI I.2.2.2) au (nI I.1.1) lf od (F' + 1) fl tk (nI k) = bX1_giveFloors_10 (nI I.2.2.2) au (nI I.1.1) lf od (fX1_giveFloors_10 (nI I.2.2.2) au (nI I.1.1) lf od F') fl tk (nI k) := rfl
    rw [e0]
    unfold bX1_giveFloors_10
    simp only [fX1_giveFloors_56, pz_nm, pz_1]
    rw [if_neg (nI_ge hk (by omega)), pz_rd (by omega) (by omega), ek, pz_rd (by omega) (by omega)]
    have hnew : ∀ x, x < k → o x ≠ o k := fun x hx => hod.2 x k hx hk
    have hnd : ¬ (sp_g I lf st au f0 c).1 (o k) = true := fun q => by
      obtain ⟨⟨x, hx, ex⟩, -⟩ := (hd (o k) lk).mp q
      exact hnew x hx ex
    have hfk : fl (o k) = f0 (o k) := by rw [hf (o k) lk]; exact sp_g_not I lf st au f0 (o k) c hnd
    by_cases c1 : st (o k) = -1
    · have hne : ¬ fl (o k) = -1 := by rw [hfk]; exact fun q => ((h0 (o k) lk).mp q) c1
      rw [if_neg hne, cm_wanted (by omega), bd1_eq]
      obtain ⟨w, hw2, hw⟩ := sp_w_rng (lf (o k)) au
      rw [hw]
      have hroom : fX1_roomBelow (nI w) (nI I.2.2.2) tk = some (nI (sp_slot tk I.2.2.2 w), sp_tk tk (sp_slot tk I.2.2.2 w)) := cm_room w jF hw2 (pz_jF (by omega))
      rw [hroom, bd2_eq, pz_wr (by omega) (by omega)]
      have hpick : sp_b lf (sp_ok st (sp_g I lf st au f0 c).1) I.1.1 = some (o k) := by
        refine sp_b_is lk ?_ (fun u hu hok hne2 => ?_)
        · unfold sp_ok
          simp only [Bool.and_eq_true, decide_eq_true_eq, Bool.not_eq_true']
          exact ⟨c1, by simpa using hnd⟩
        · unfold sp_ok at hok
          simp only [Bool.and_eq_true, decide_eq_true_eq, Bool.not_eq_true'] at hok
          obtain ⟨x, hx, ex⟩ := fb_onto (n := I.1.1) (f := o) (fun i hi => (hod.1 i hi).2) hod.2 hu
          have hxk : k < x := by
            rcases Nat.lt_or_ge k x with q | q
            · exact q
            · by_cases e : x = k
              · subst e; exact absurd ex.symm hne2
              · have := (hd u hu).mpr ⟨⟨x, by omega, ex⟩, hok.1⟩
                rw [this] at hok
                exact absurd hok.2 (by decide)
          rw [← ex]
          exact hs k x hxk hx
      have hstep : sp_g I lf st au f0 (c + 1) = (fun t => decide (t = o k) || (sp_g I lf st au f0 c).1 t, upd (sp_g I lf st au f0 c).2.1 (o k) (nI (sp_slot (sp_g I lf st au f0 c).2.2 I.2.2.2 w)), sp_tk (sp_g I lf st au f0 c).2.2 (sp_slot (sp_g I lf st au f0 c).2.2 I.2.2.2 w)) := sp_gs_some hpick hw hw2
      have hsl : sp_slot tk I.2.2.2 w = sp_slot (sp_g I lf st au f0 c).2.2 I.2.2.2 w := sp_slot_cong w hw2 ht
      refine ih (k + 1) F' (c + 1) _ _ (by omega) (by omega) (by omega) (fun t htn => ?_) (fun t htn => ?_) (fun f g1 g2 => ?_)
      · rw [hstep]
        simp only [Bool.or_eq_true, decide_eq_true_eq]
        rw [hd t htn]
        constructor
        · rintro (rfl | ⟨⟨x, hx, ex⟩, q⟩)
          · exact ⟨⟨k, by omega, rfl⟩, c1⟩
          · exact ⟨⟨x, by omega, ex⟩, q⟩
        · rintro ⟨⟨x, hx, ex⟩, q⟩
          by_cases e : x = k
          · subst e; exact Or.inl ex.symm
          · exact Or.inr ⟨⟨x, by omega, ex⟩, q⟩
      · rw [hstep]
        dsimp only
        rw [upd_at, upd_at, hsl]
        by_cases e : t = o k
        · rw [if_pos e, if_pos e]
        · rw [if_neg e, if_neg e]; exact hf t htn
      · rw [hstep, hsl]
        dsimp only
        exact sp_tk_cong (Nat.le_trans (sp_slot_le _ _ _) hw2) ht f g1 g2
    · have hne : fl (o k) = -1 := by rw [hfk]; exact (h0 (o k) lk).mpr c1
      rw [if_pos hne]
      refine ih (k + 1) F' c _ _ (by omega) (by omega) (by omega) (fun t htn => ?_) hf ht
      rw [hd t htn]
      constructor
      · rintro ⟨⟨x, hx, ex⟩, q⟩
        exact ⟨⟨x, by omega, ex⟩, q⟩
      · rintro ⟨⟨x, hx, ex⟩, q⟩
        by_cases e : x = k
        · subst e; rw [ex] at c1; exact absurd q c1
        · exact ⟨⟨x, by omega, ex⟩, q⟩
theorem cm_give {I : sI} {au : Int32} {lf st od f0 tk : Nat → Int32} {o : Nat → Nat} (hn : I.1.1 ≤ 8) (hod : so_ok I.1.1 od o) (hs : ∀ x y, x < y → y < I.1.1 → AH lf (o x) (o y)) (h0 : ∀ t, t < I.1.1 → (f0 t = -1 ↔ ¬ st t = -1)) : ∃ fl' tk', fX1_giveFloors (nI I.2.2.2) au (nI I.1.1) lf od f0 tk = some (fl', tk') ∧ eqN I.1.1 fl' (sp_g I lf st au f0 I.1.1).2.1 ∧ ∀ t, t < I.1.1 → ((sp_g I lf st au f0 I.1.1).1 t = true ↔ st t = -1) := by
  unfold fX1_giveFloors
  rw [pz_fill _ _ (by omega), bd1_eq]
  refine cm_give10 (st := st) (f0 := f0) hn hod hs h0 I.1.1 0 jF 0 _ _ (by omega) (pz_jF (by omega)) (Nat.le_refl 0) (fun t _ => ?_) (fun t _ => rfl) (fun f _ h2 => ?_)
  · show false = true ↔ _
    exact ⟨fun q => (by cases q), fun q => absurd q.1.choose_spec.1 (Nat.not_lt_zero _)⟩
  · show fa_fill (fun _ => 0) tk 13 f = 0
    rw [fa_fill_in (by omega)]
