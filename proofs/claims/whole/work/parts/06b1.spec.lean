abbrev sT : Type := Nat × (Nat → Nat) × (Nat → Nat) × (Nat → Nat)
abbrev sI : Type := sT × sT × (Nat → Bool) × Nat
abbrev sS : Type := (Nat → Int32) × (Nat → Int32) × (Nat → Int32) × (Nat → Int32) × (Nat → Int32)
def sp_ev (I : sI) (m : Nat) (fl : Nat → Int32) (e : Nat) (s : (Nat → Int32) × Int32) : (Nat → Int32) × Int32 :=
  if I.2.1.2.2.1 e = m ∧ I.2.2.1 e = true then
    (if I.2.1.2.1 e = 2 then (s.1, 1)
     else if I.2.1.2.2.2 e < I.1.1 ∧ ¬ fl (I.2.1.2.2.2 e) = -1 then (upd s.1 (I.2.1.2.2.2 e) (s.1 (I.2.1.2.2.2 e) + (if I.2.1.2.1 e = 1 then 3 else -4)), s.2)
     else s)
  else s
def sp_e (I : sI) (m : Nat) (s : sS) : (Nat → Int32) × Int32 := itN (sp_ev I m s.1) (s.2.1, 0) I.2.1.1
def sp_rent (so : Nat) (fl : Int32) : Int32 := if so = 1 then (fl / 2 + 1) + (-1) else if so = 2 then 0 else fl / 2 + 1
def sp_raw (so wg : Nat) (fl lf : Int32) : Int32 := (lf + (if so = 2 then nI wg / 2 else nI wg)) - sp_rent so fl
def sp_pay (so wg : Nat) (fl lf : Int32) : Int32 := if sp_raw so wg fl lf < 60 then sp_raw so wg fl lf else 60
def sp_lo (so : Nat) (v : Int32) : Bool := decide (v < if so = 3 then (-6 : Int32) else 0)
def sp_l (I : sI) (m : Nat) (s : sS) (t : Nat) : Int32 := if s.2.2.1 t = -1 then sp_pay (I.1.2.1 t) (I.1.2.2.2 t) (s.1 t) ((sp_e I m s).1 t) else (sp_e I m s).1 t
def sp_out (I : sI) (m : Nat) (s : sS) (t : Nat) : Bool := decide (s.2.2.1 t = -1) && sp_lo (I.1.2.1 t) (sp_l I m s t)
def sp_st (I : sI) (m : Nat) (s : sS) (t : Nat) : Int32 := if sp_out I m s t = true then nI m else s.2.2.1 t
def sp_f (I : sI) (m : Nat) (s : sS) (t : Nat) : Int32 := if sp_out I m s t = true then -1 else s.1 t
def sp_b (lf : Nat → Int32) (ok : Nat → Bool) : Nat → Option Nat
  | 0 => none
  | k + 1 => match sp_b lf ok k with
    | none => if ok k = true then some k else none
    | some b => if ok k = true ∧ lf b < lf k then some k else some b
def sp_slot (tk : Nat → Int32) (rm : Nat) : Nat → Nat
  | 0 => 0
  | f + 1 => if tk (f + 1) < nI rm then f + 1 else sp_slot tk rm f
def sp_w (v au : Int32) : Int32 := if 0 ≤ v then (if (v / 3 + (if au = 0 then 1 else 0)) < 12 then (v / 3 + (if au = 0 then 1 else 0)) else 12) else 0
def sp_ok (st : Nat → Int32) (dn : Nat → Bool) (t : Nat) : Bool := decide (st t = -1) && !(dn t)
def sp_gs (I : sI) (lf st : Nat → Int32) (au : Int32) (s : (Nat → Bool) × (Nat → Int32) × (Nat → Int32)) : (Nat → Bool) × (Nat → Int32) × (Nat → Int32) :=
  match sp_b lf (sp_ok st s.1) I.1.1 with
  | none => s
  | some b => (fun t => decide (t = b) || s.1 t, upd s.2.1 b (nI (sp_slot s.2.2 I.2.2.2 (sp_w (lf b) au).toNatClampNeg)), if sp_slot s.2.2 I.2.2.2 (sp_w (lf b) au).toNatClampNeg = 0 then s.2.2 else upd s.2.2 (sp_slot s.2.2 I.2.2.2 (sp_w (lf b) au).toNatClampNeg) (s.2.2 (sp_slot s.2.2 I.2.2.2 (sp_w (lf b) au).toNatClampNeg) + 1))
def sp_g (I : sI) (lf st : Nat → Int32) (au : Int32) (f0 : Nat → Int32) : Nat → (Nat → Bool) × (Nat → Int32) × (Nat → Int32)
  | 0 => (fun _ => false, f0, fun _ => 0)
  | i + 1 => sp_gs I lf st au (sp_g I lf st au f0 i)
def sp_fl (I : sI) (m : Nat) (s : sS) : Nat → Int32 := (sp_g I (sp_l I m s) (sp_st I m s) (sp_e I m s).2 (sp_f I m s) I.1.1).2.1
def sp_fe (I : sI) (m : Nat) (s : sS) (t : Nat) : Bool := decide (¬ (s.1 t - 2 < sp_fl I m s t))
def sp_bt (n : Nat) (fl : Nat → Int32) (lo hi : Int32) : Nat := fb_ct (fun u => decide (lo < fl u ∧ fl u < hi)) n
def sp_m (I : sI) (m : Nat) (s : sS) : sS :=
  (sp_fl I m s, sp_l I m s, sp_st I m s, fun t => if sp_fe I m s t = true then s.2.2.2.1 t + 1 else s.2.2.2.1 t, fun t => if sp_fe I m s t = true then s.2.2.2.2 t + nI (sp_bt I.1.1 (sp_fl I m s) (sp_fl I m s t) (s.1 t)) else s.2.2.2.2 t)
def sp_r (I : sI) : Nat → sS
  | 0 => (fun _ => 0, fun t => 3 * nI (I.1.2.2.1 t), fun _ => -1, fun _ => 0, fun _ => 0)
  | m + 1 => sp_m I m (sp_r I m)
def InT (T : sT) (sz : Int32) (so pd wg : Nat → Int32) : Prop := T.1 ≤ 8 ∧ sz = nI T.1 ∧ ∀ t, t < T.1 → so t = nI (T.2.1 t) ∧ pd t = nI (T.2.2.1 t) ∧ wg t = nI (T.2.2.2 t) ∧ T.2.1 t ≤ 3 ∧ T.2.2.1 t ≤ 9 ∧ T.2.2.2 t ≤ 9
def InE (E : sT) (sz : Int32) (ki mo nu : Nat → Int32) : Prop := E.1 ≤ 8 ∧ sz = nI E.1 ∧ ∀ e, e < E.1 → ki e = nI (E.2.1 e) ∧ mo e = nI (E.2.2.1 e) ∧ nu e = nI (E.2.2.2 e) ∧ E.2.1 e ≤ 2 ∧ E.2.2.1 e ≤ 23 ∧ E.2.2.2 e ≤ 7
def eqN (n : Nat) (f g : Nat → Int32) : Prop := ∀ t, t < n → f t = g t
theorem sp_ev_au {I : sI} {m : Nat} {fl lf : Nat → Int32} : ∀ i, (itN (sp_ev I m fl) (lf, 0) i).2 = 0 ∨ (itN (sp_ev I m fl) (lf, 0) i).2 = 1 := by
  intro i
  induction i with
  | zero => exact Or.inl rfl
  | succ i ih =>
    show (sp_ev I m fl i (itN (sp_ev I m fl) (lf, 0) i)).2 = 0 ∨ (sp_ev I m fl i (itN (sp_ev I m fl) (lf, 0) i)).2 = 1
    unfold sp_ev
    split
    · split
      · exact Or.inr rfl
      · split <;> exact ih
    · exact ih
theorem cm_meet {I : sI} {w : Int32} {m : Nat} {fl lf ki mo nu : Nat → Int32} {sz sn : Int32} (hm : m ≤ 23) (hT : I.1.1 ≤ 8) (hsn : sn = nI I.1.1) (hE : InE I.2.1 sz ki mo nu) (hw : ∀ e, e < I.2.1.1 → (I.2.2.1 e = true ↔ ¬ ((w >>> (nI e &&& 31)) &&& 1) = 0)) : fX1_meetEvents w (nI m) sn fl sz ki mo nu lf = some ((itN (sp_ev I m fl) (lf, 0) I.2.1.1).2, (itN (sp_ev I m fl) (lf, 0) I.2.1.1).1) := by
  obtain ⟨hE1, rfl, hE3⟩ := hE
  subst hsn
  unfold fX1_meetEvents
  refine pz_up (fun F i => fX1_meetEvents_6 w (nI m) (nI I.1.1) fl (nI I.2.1.1) ki mo nu F (itN (sp_ev I m fl) (lf, 0) i).1 (itN (sp_ev I m fl) (lf, 0) i).2 (nI i)) I.2.1.1 _ (fun F i hi => ?_) (fun F => ?_) I.2.1.1 0 jF (by omega) (pz_jF (by omega))
  · show bX1_meetEvents_6 w (nI m) (nI I.1.1) fl (nI I.2.1.1) ki mo nu (fX1_meetEvents_6 w (nI m) (nI I.1.1) fl (nI I.2.1.1) ki mo nu F) _ _ _ = fX1_meetEvents_6 w (nI m) (nI I.1.1) fl (nI I.2.1.1) ki mo nu F (sp_ev I m fl i (itN (sp_ev I m fl) (lf, 0) i)).1 (sp_ev I m fl i (itN (sp_ev I m fl) (lf, 0) i)).2 (nI (i + 1))
    generalize itN (sp_ev I m fl) (lf, 0) i = S
    obtain ⟨h1, h2, h3, h4, h5, h6⟩ := hE3 i hi
    have hwi := hw i hi
    unfold bX1_meetEvents_6 sp_ev
    rw [if_neg (nI_ge hi (by omega)), pz_rd (by omega) (by omega), h2]
    simp only [fX1_meetEvents_108, fX1_meetEvents_106, pz_nm, pz_1]
    by_cases c1 : I.2.1.2.2.1 i = m
    · rw [if_pos (by rw [c1])]
      by_cases c2 : I.2.2.1 i = true
      · rw [if_neg (hwi.mp c2), if_pos ⟨c1, c2⟩, pz_rd (by omega) (by omega), h3, pz_rd (by omega) (by omega), h1]
        by_cases c3 : I.2.1.2.1 i = 2
        · rw [if_pos (by rw [c3]; rfl), if_pos c3]
        · rw [if_neg (show ¬ nI (I.2.1.2.1 i) = (2 : Int32) from fun q => c3 ((nI_eq (b := 2) (by omega) (by omega)).mp q)), if_neg c3]
          by_cases c4 : I.2.1.2.2.2 i < I.1.1
          · rw [if_neg (nI_ge c4 (by omega)), pz_rd (by omega) (by omega)]
            by_cases c5 : fl (I.2.1.2.2.2 i) = -1
            · rw [if_pos c5, if_neg (fun q => q.2 c5)]
            · rw [if_neg c5, if_pos ⟨c4, c5⟩, pz_rd (by omega) (by omega), pz_rd (by omega) (by omega), h1]
              by_cases c6 : I.2.1.2.1 i = 1
              · rw [if_pos (by rw [c6]; rfl), pz_wr (by omega) (by omega), if_pos c6]
              · rw [if_neg (show ¬ nI (I.2.1.2.1 i) = (1 : Int32) from fun q => c6 ((nI_eq (b := 1) (by omega) (by omega)).mp q)), pz_wr (by omega) (by omega), if_neg c6]
          · rw [if_pos (nI_le (Nat.not_lt.mp c4) (by omega)), if_neg (fun q => c4 q.1)]
      · rw [if_pos (by by_cases q : ((w >>> (nI i &&& 31)) &&& 1) = 0
                       · exact q
                       · exact absurd (hwi.mpr q) c2), if_neg (fun q => c2 q.2)]
    · rw [if_neg (fun q => c1 ((nI_eq (by omega) (by omega)).mp q)), if_neg (fun q => c1 q.1)]
  · show bX1_meetEvents_6 w (nI m) (nI I.1.1) fl (nI I.2.1.1) ki mo nu (fX1_meetEvents_6 w (nI m) (nI I.1.1) fl (nI I.2.1.1) ki mo nu F) _ _ _ = _
    unfold bX1_meetEvents_6
    rw [if_pos (nI_le (Nat.le_refl _) (by omega))]
    unfold ckB
    rw [if_pos (sp_ev_au _)]
