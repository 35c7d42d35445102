def sp_fc (I : sI) : Nat → Nat → Nat
  | 0, _ => 0
  | m + 1, t => if sp_fe I m (sp_r I m) t = true then sp_fc I m t + 1 else sp_fc I m t
theorem sp_fc_le (I : sI) (t : Nat) : ∀ m, sp_fc I m t ≤ m
  | 0 => Nat.le_refl 0
  | m + 1 => by
    have := sp_fc_le I t m
    unfold sp_fc
    split <;> omega
theorem sp_fc_eq (I : sI) (t : Nat) : ∀ m, (sp_r I m).2.2.2.1 t = nI (sp_fc I m t)
  | 0 => rfl
  | m + 1 => by
    have ih := sp_fc_eq I t m
    show (if sp_fe I m (sp_r I m) t = true then (sp_r I m).2.2.2.1 t + 1 else (sp_r I m).2.2.2.1 t) = nI (if sp_fe I m (sp_r I m) t = true then sp_fc I m t + 1 else sp_fc I m t)
    rw [ih]
    by_cases c : sp_fe I m (sp_r I m) t = true
    · rw [if_pos c, if_pos c, pz_1]
    · rw [if_neg c, if_neg c]
def sq_nf (I : sI) : Nat := fb_sm (sp_fc I 24) I.1.1
theorem sq_sum_nI {f : Nat → Int32} {g : Nat → Nat} (h : ∀ t, f t = nI (g t)) : ∀ n, sq_sum f n = nI (fb_sm g n)
  | 0 => rfl
  | n + 1 => by
    show sq_sum f n + f n = nI (fb_sm g n + g n)
    rw [sq_sum_nI h n, h n, nI_add]
theorem sq_nf_eq (I : sI) : sq_sum (sp_r I 24).2.2.2.1 I.1.1 = nI (sq_nf I) := sq_sum_nI (fun t => sp_fc_eq I t 24) I.1.1
theorem sq_nf_le {I : sI} (hn : I.1.1 ≤ 8) : sq_nf I ≤ 192 := by
  have := fb_sm_bound (f := sp_fc I 24) (c := 24) (n := I.1.1) (fun k _ => sp_fc_le I k 24)
  unfold sq_nf
  omega
theorem sq_ns_le {I : sI} (hn : I.1.1 ≤ 8) : sq_ns I ≤ 8 := by
  have := fb_ct_le (sq_sb I) I.1.1
  unfold sq_ns
  omega
theorem cq_nset {I : sI} {C : jT11} (h : cOk I C) (hn : I.1.1 ≤ 8) : fX1_settledInAll C.1 C.2.1 = some (nI (sq_ns I)) := by rw [h.1]; exact cm_nset hn h.2.1
theorem cq_sbits {I : sI} {C : jT11} (h : cOk I C) (hn : I.1.1 ≤ 8) : fX1_settledBits C.1 C.2.1 = some (orB (sq_sb I) I.1.1) := by rw [h.1]; exact cm_sbits hn h.2.1
theorem cq_fsum {I : sI} {C : jT11} (h : cOk I C) (hn : I.1.1 ≤ 8) : fX1_fallsInAll C.1 C.2.2.1 = some (nI (sq_nf I)) := by rw [h.1, ← sq_nf_eq]; exact cm_fsum hn h.2.2.1
theorem cq_psum {I : sI} {C : jT11} (h : cOk I C) (hn : I.1.1 ≤ 8) : fX1_passedInAll C.1 C.2.2.2.1 = some (sq_sum (sp_r I 24).2.2.2.2 I.1.1) := by rw [h.1]; exact cm_psum hn h.2.2.2.1
theorem cq_owed {I : sI} {C : jT11} (h : cOk I C) (hn : I.1.1 ≤ 8) : fX1_owedInAll C.1 C.2.2.2.2.1 C.2.2.2.2.2.1 = some (sq_ot I 24) := by rw [h.1]; exact cm_owed hn (cOk_F h) (cOk_L h)
theorem cq_top {I : sI} {C : jT11} (h : cOk I C) (hn : I.1.1 ≤ 8) : fX1_topTenant C.1 C.2.2.2.2.1 = some (sq_tp (sq_fl I 23) I.1.1).1 := by rw [h.1]; exact cm_top hn (cOk_F h)
theorem cq_housed {I : sI} {C : jT11} (h : cOk I C) (hn : I.1.1 ≤ 8) : fX1_housedAtLast C.1 C.2.2.2.2.1 = some (nI (sq_hs I)) := by rw [h.1]; exact cm_housed hn (cOk_F h)
theorem cq_who {I : sI} {C : jT11} {k : Nat} (f : Int32) (h : cOk I C) (hn : I.1.1 ≤ 8) (hk : k < 24) : fX1_whoLives (nI k) f C.1 C.2.2.2.2.1 = some (orB (fun t => decide (sq_fl I k t = f)) I.1.1) := by rw [h.1]; exact cm_who f hn (cOk_F h) hk
theorem cq_lift {I : sI} {C : jT11} {k : Nat} (h : cOk I C) (hn : I.1.1 ≤ 8) (hk : k < 24) : fX1_liftStops (nI k) C.1 C.2.2.2.2.1 C.2.2.2.2.2.1 = some (sq_lift I k) := by rw [h.1]; exact cm_lift hn (cOk_F h) (cOk_L h) hk
theorem mq_nset {I : sI} {S : jT11} {tn : Int32} (h : mOk I S) (hn : I.1.1 ≤ 8) (ht : tn = nI I.1.1) : fX8_manySettled tn S.2.2.2.2.1 = some (nI (sq_ns I)) := by rw [ht]; exact mm_nset hn h.2.2.1
theorem mq_fsum {I : sI} {S : jT11} {tn : Int32} (h : mOk I S) (hn : I.1.1 ≤ 8) (ht : tn = nI I.1.1) : fX8_allFell tn S.2.2.2.2.2.1 = some (nI (sq_nf I)) := by rw [ht, ← sq_nf_eq]; exact mm_fsum hn h.2.2.2.1
theorem mq_psum {I : sI} {S : jT11} {tn : Int32} (h : mOk I S) (hn : I.1.1 ≤ 8) (ht : tn = nI I.1.1) : fX8_allPast tn S.2.2.2.2.2.2.1 = some (sq_sum (sp_r I 24).2.2.2.2 I.1.1) := by rw [ht]; exact mm_psum hn h.2.2.2.2.1
theorem mq_owed {I : sI} {S : jT11} {tn : Int32} (h : mOk I S) (hn : I.1.1 ≤ 8) (ht : tn = nI I.1.1) : fX8_allOwed tn S.2.2.2.2.2.2.2.2.2.1 S.2.2.2.2.2.2.2.2.2.2.1 = some (sq_ot I 24) := by rw [ht]; exact mm_owed hn (mOk_F h) (mOk_L h)
theorem mq_top {I : sI} {S : jT11} {tn : Int32} (h : mOk I S) (hn : I.1.1 ≤ 8) (ht : tn = nI I.1.1) : fX8_topNow tn S.2.1 = some (sq_tp (sq_fl I 23) I.1.1).1 := by rw [ht]; exact mm_top hn h.1
theorem mq_housed {I : sI} {S : jT11} {tn : Int32} (h : mOk I S) (hn : I.1.1 ≤ 8) (ht : tn = nI I.1.1) : fX8_manyHoused tn S.2.1 = some (nI (sq_hs I)) := by rw [ht]; exact mm_housed hn h.1
theorem mq_who {I : sI} {S : jT11} {tn : Int32} {k : Nat} (f : Int32) (h : mOk I S) (hn : I.1.1 ≤ 8) (ht : tn = nI I.1.1) (hk : k < 24) : fX8_liveBy (nI k) f tn S.2.2.2.2.2.2.2.2.2.1 = some (orB (fun t => decide (sq_fl I k t = f)) I.1.1) := by rw [ht]; exact mm_who f hn (mOk_F h) hk
theorem mq_lift {I : sI} {S : jT11} {tn : Int32} {k : Nat} (h : mOk I S) (hn : I.1.1 ≤ 8) (ht : tn = nI I.1.1) (hk : k < 24) : fX8_liftBy (nI k) tn S.2.2.2.2.2.2.2.2.2.1 S.2.2.2.2.2.2.2.2.2.2.1 = some (sq_lift I k) := by rw [ht]; exact mm_lift hn (mOk_F h) (mOk_L h) hk
def hI (T E : sT) (w : Int32) (r : Nat) : sI := (T, E, bt w, r)
theorem cm_runI {T E : sT} {w rm c1s c2s sz : Int32} {r : Nat} {so pd wg ki mo nu st fa pa fls lfs flr fl be lf od tk : Nat → Int32} (hT : InT T c1s so pd wg) (hE : InE E c2s ki mo nu) (hrm : rm = nI r) : ∃ C : jT11, cOk (hI T E w r) C ∧ fX1_run w rm c1s so pd wg c2s ki mo nu sz st fa pa fls lfs flr fl be lf od tk = some (C.1, C.2.1, C.2.2.1, C.2.2.2.1, C.2.2.2.2.1, C.2.2.2.2.2.1, C.2.2.2.2.2.2.1, C.2.2.2.2.2.2.2.1, C.2.2.2.2.2.2.2.2.1, C.2.2.2.2.2.2.2.2.2.1, C.2.2.2.2.2.2.2.2.2.2.1, C.2.2.2.2.2.2.2.2.2.2.2) := by
  obtain ⟨C, e, h⟩ := cm_run (I := hI T E w r) (w := w) (rm := rm) (sz := sz) (st := st) (fa := fa) (pa := pa) (fls := fls) (lfs := lfs) (flr := flr) (fl := fl) (be := be) (lf := lf) (od := od) (tk := tk) hT hE (fun e he => by
    have h8 : e < 32 := by have := hE.1; have : e < E.1 := he; omega
    rw [bt_get w e h8]
    show bt w e = true ↔ _
    by_cases c : bt w e = true
    · rw [if_pos c]; exact ⟨fun _ => by decide, fun _ => c⟩
    · rw [if_neg c]; exact ⟨fun q => absurd q c, fun q => absurd rfl q⟩) hrm
  exact ⟨C, h, e⟩
theorem mm_livesI {T E : sT} {w tn rm en gone : Int32} {r : Nat} {te ev : Nat → Int32} {S : jT11} (hT : MT T tn te) (hE : ME E en ev) (hw : ∀ e, e < E.1 → (bt w e = true ↔ ¬ bt gone e = true)) (hrm : rm = nI r) (hr : r ≤ 8) : ∃ S', fX8_lives tn rm en gone te ev S = some S' ∧ mOk (hI T E w r) S' := mm_lives (I := hI T E w r) hT hE hw hrm hr
theorem mm_cost {T E : sT} {w tn rm en gone : Int32} {r : Nat} {te ev : Nat → Int32} {S : jT11} (hT : MT T tn te) (hE : ME E en ev) (hw : ∀ e, e < E.1 → (bt w e = true ↔ ¬ bt gone e = true)) (hrm : rm = nI r) (hr : r ≤ 8) : ∃ S', fX8_cost tn rm en gone te ev S = some (nI (1000 * sq_ns (hI T E w r) + sq_nf (hI T E w r)), S') ∧ mOk (hI T E w r) S' := by
  obtain ⟨S', e, h⟩ := mm_livesI (S := S) hT hE hw hrm hr
  refine ⟨S', ?_, h⟩
  unfold fX8_cost
  have q1 := mq_nset h hT.1 hT.2.1
  have q2 := mq_fsum h hT.1 hT.2.1
  rw [e, bd1_eq, q1, bd1_eq, q2, bd1_eq, show (1000 : Int32) * nI (sq_ns (hI T E w r)) = nI (1000 * sq_ns (hI T E w r)) from pk_mul 1000 _, nI_add]
def sp_bst (c : Nat → Nat) : Nat → Option Nat
  | 0 => none
  | i + 1 => match sp_bst c i with
    | none => some i
    | some w => if c i < c w then some i else some w
theorem sp_bst_lt (c : Nat → Nat) : ∀ i w, sp_bst c i = some w → w < i
  | 0, w, h => by cases h
  | i + 1, w, h => by
    unfold sp_bst at h
    cases hb : sp_bst c i with
    | none => rw [hb] at h; cases h; omega
    | some v =>
      have := sp_bst_lt c i v hb
      rw [hb] at h
      dsimp only at h
      by_cases q : c i < c v
      · rw [if_pos q] at h; cases h; omega
      · rw [if_neg q] at h; cases h; omega
theorem sp_bst_some (c : Nat → Nat) (i : Nat) : ∃ w, sp_bst c (i + 1) = some w := by
  unfold sp_bst
  cases sp_bst c i with
  | none => exact ⟨i, rfl⟩
  | some v =>
    dsimp only
    by_cases q : c i < c v
    · exact ⟨i, by rw [if_pos q]⟩
    · exact ⟨v, by rw [if_neg q]⟩
def pbC (A B : Nat → Nat) (off : Nat) (o : Option Nat) (bs : jB3) : Prop := match o with
  | none => bs.1 = -1
  | some w => bs.1 = nI (w + off) ∧ bs.2.1 = nI (A w) ∧ bs.2.2 = nI (B w)
def pbM (A B : Nat → Nat) (off : Nat) (o : Option Nat) (x y : Int32) : Prop := match o with
  | none => x = -1 ∧ y = 999999
  | some w => x = nI (w + off) ∧ y = nI (1000 * A w + B w)
theorem cm_offer {A B : Nat → Nat} {off i : Nat} {bs : jB3} (hA : ∀ v, A v ≤ 8) (hB : ∀ v, B v ≤ 192) (hi : i + off < 1000) (h : pbC A B off (sp_bst (fun v => 1000 * A v + B v) i) bs) : ∃ bs' : jB3, fX0_offer (nI (i + off)) (nI (A i)) (nI (B i)) bs.1 bs.2.1 bs.2.2 = some (bs'.1, bs'.2.1, bs'.2.2) ∧ pbC A B off (sp_bst (fun v => 1000 * A v + B v) (i + 1)) bs' := by
  have es : sp_bst (fun v => 1000 * A v + B v) (i + 1) = (match sp_bst (fun v => 1000 * A v + B v) i with
    | none => some i
    | some w => if 1000 * A i + B i < 1000 * A w + B w then some i else some w) := rfl
  rw [es]
  unfold fX0_offer fX0_offer_32
  cases hb : sp_bst (fun v => 1000 * A v + B v) i with
  | none =>
    rw [hb] at h
    have h1 : bs.1 = -1 := h
    rw [if_pos h1]
    exact ⟨(nI (i + off), nI (A i), nI (B i)), rfl, rfl, rfl, rfl⟩
  | some w =>
    rw [hb] at h
    have hw := sp_bst_lt _ _ _ hb
    obtain ⟨h1, h2, h3⟩ := h
    have a1 := hA i; have a2 := hA w; have b1 := hB i; have b2 := hB w
    rw [h1, h2, h3, if_neg (nI_m1 (by omega))]
    dsimp only
    by_cases c1 : A i < A w
    · rw [if_pos (nI_lt c1 (by omega)), if_pos (by omega)]
      exact ⟨(nI (i + off), nI (A i), nI (B i)), rfl, rfl, rfl, rfl⟩
    · rw [if_neg (nI_nlt (by omega) (by omega))]
      by_cases c2 : A i = A w
      · rw [if_pos (by rw [c2])]
        by_cases c3 : B i < B w
        · rw [if_neg (nI_ge c3 (by omega)), if_pos (by omega)]
          exact ⟨(nI (i + off), nI (A i), nI (B i)), rfl, rfl, rfl, rfl⟩
        · rw [if_pos (nI_le (by omega) (by omega)), if_neg (by omega)]
          exact ⟨bs, by rw [h1, h2, h3], h1, h2, h3⟩
      · rw [if_neg (fun q => c2 ((nI_eq (by omega) (by omega)).mp q)), if_neg (by omega)]
        exact ⟨bs, by rw [h1, h2, h3], h1, h2, h3⟩
theorem mm_offer {A B : Nat → Nat} {off i : Nat} {x y : Int32} (hA : ∀ v, A v ≤ 8) (hB : ∀ v, B v ≤ 192) (h : pbM A B off (sp_bst (fun v => 1000 * A v + B v) i) x y) : pbM A B off (sp_bst (fun v => 1000 * A v + B v) (i + 1)) (if y ≤ nI (1000 * A i + B i) then x else nI (i + off)) (if nI (1000 * A i + B i) < y then nI (1000 * A i + B i) else y) := by
  have es : sp_bst (fun v => 1000 * A v + B v) (i + 1) = (match sp_bst (fun v => 1000 * A v + B v) i with
    | none => some i
    | some w => if 1000 * A i + B i < 1000 * A w + B w then some i else some w) := rfl
  rw [es]
  have a1 := hA i; have b1 := hB i
  cases hb : sp_bst (fun v => 1000 * A v + B v) i with
  | none =>
    rw [hb] at h
    obtain ⟨h1, h2⟩ := h
    subst h1; subst h2
    have q : nI (1000 * A i + B i) < (999999 : Int32) := nI_lt (b := 999999) (by omega) (by omega)
    rw [if_pos q, if_neg (fa_of_lt q).2.1]
    exact ⟨rfl, rfl⟩
  | some w =>
    rw [hb] at h
    obtain ⟨h1, h2⟩ := h
    have a2 := hA w; have b2 := hB w
    subst h1; subst h2
    dsimp only
    by_cases c : 1000 * A i + B i < 1000 * A w + B w
    · have q := nI_lt c (by omega)
      rw [if_pos c, if_pos q, if_neg (fa_of_lt q).2.1]
      exact ⟨rfl, rfl⟩
    · have q := nI_nlt (Nat.not_lt.mp c) (by omega)
      rw [if_neg c, if_neg q, if_pos (fa_of_nlt q)]
      exact ⟨rfl, rfl⟩
def sT_w (T : sT) (k v : Nat) : sT := (T.1, T.2.1, T.2.2.1, fun t => if t = k then v else T.2.2.2 t)
def sT_s (T : sT) (k v : Nat) : sT := (T.1, fun t => if t = k then v else T.2.1 t, T.2.2.1, T.2.2.2)
theorem ite_id (f : Nat → Nat) (k : Nat) : (fun t => if t = k then f k else f t) = f := by
  funext t
  by_cases c : t = k
  · rw [if_pos c, c]
  · rw [if_neg c]
theorem sT_w_id (T : sT) (k : Nat) : sT_w T k (T.2.2.2 k) = T := by unfold sT_w; rw [ite_id]
theorem sT_s_id (T : sT) (k : Nat) : sT_s T k (T.2.1 k) = T := by unfold sT_s; rw [ite_id]
theorem InT_w {T : sT} {k v v' : Nat} {sz : Int32} {so pd wg : Nat → Int32} (hv : v ≤ 9) (h : InT (sT_w T k v') sz so pd wg) : InT (sT_w T k v) sz so pd (upd wg k (nI v)) := by
  refine ⟨h.1, h.2.1, fun t ht => ?_⟩
  obtain ⟨h1, h2, h3, h4, h5, h6⟩ := h.2.2 t ht
  unfold sT_w at h3 h6 ⊢
  dsimp only at h3 h6 ⊢
  refine ⟨h1, h2, ?_, h4, h5, ?_⟩
  · rw [upd_at]
    by_cases c : t = k
    · rw [if_pos c, if_pos c]
    · rw [if_neg c, if_neg c]; rw [if_neg c] at h3; exact h3
  · by_cases c : t = k
    · rw [if_pos c]; exact hv
    · rw [if_neg c]; rw [if_neg c] at h6; exact h6
theorem InT_s {T : sT} {k v v' : Nat} {sz : Int32} {so pd wg : Nat → Int32} (hv : v ≤ 3) (h : InT (sT_s T k v') sz so pd wg) : InT (sT_s T k v) sz (upd so k (nI v)) pd wg := by
  refine ⟨h.1, h.2.1, fun t ht => ?_⟩
  obtain ⟨h1, h2, h3, h4, h5, h6⟩ := h.2.2 t ht
  unfold sT_s at h1 h4 ⊢
  dsimp only at h1 h4 ⊢
  refine ⟨?_, h2, h3, ?_, h5, h6⟩
  · rw [upd_at]
    by_cases c : t = k
    · rw [if_pos c, if_pos c]
    · rw [if_neg c, if_neg c]; rw [if_neg c] at h1; exact h1
  · by_cases c : t = k
    · rw [if_pos c]; exact hv
    · rw [if_neg c]; rw [if_neg c] at h4; exact h4
theorem MT_w {T : sT} {k v v' : Nat} {tn : Int32} {te : Nat → Int32} (hv : v ≤ 9) (h : MT (sT_w T k v') tn te) : MT (sT_w T k v) tn (upd te (3 * k + 2) (nI v)) := by
  refine ⟨h.1, h.2.1, fun t ht => ?_⟩
  obtain ⟨h1, h2, h3, h4, h5, h6⟩ := h.2.2 t ht
  unfold sT_w at h3 h6 ⊢
  dsimp only at h3 h6 ⊢
  rw [pk_un (by omega), pk_un (by omega)]
  refine ⟨h1, h2, ?_, h4, h5, ?_⟩
  · rw [upd_at]
    by_cases c : t = k
    · rw [if_pos (by omega), if_pos c]
    · rw [if_neg (by omega), if_neg c]; rw [if_neg c] at h3; exact h3
  · by_cases c : t = k
    · rw [if_pos c]; exact hv
    · rw [if_neg c]; rw [if_neg c] at h6; exact h6
theorem MT_s {T : sT} {k v v' : Nat} {tn : Int32} {te : Nat → Int32} (hv : v ≤ 3) (h : MT (sT_s T k v') tn te) : MT (sT_s T k v) tn (upd te (3 * k) (nI v)) := by
  refine ⟨h.1, h.2.1, fun t ht => ?_⟩
  obtain ⟨h1, h2, h3, h4, h5, h6⟩ := h.2.2 t ht
  unfold sT_s at h1 h4 ⊢
  dsimp only at h1 h4 ⊢
  rw [pk_un (show 3 * t + 1 ≠ 3 * k by omega), pk_un (show 3 * t + 2 ≠ 3 * k by omega)]
  refine ⟨?_, h2, h3, ?_, h5, h6⟩
  · rw [upd_at]
    by_cases c : t = k
    · rw [if_pos (by omega), if_pos c]
    · rw [if_neg (by omega), if_neg c]; rw [if_neg c] at h1; exact h1
  · by_cases c : t = k
    · rw [if_pos c]; exact hv
    · rw [if_neg c]; rw [if_neg c] at h4; exact h4
theorem cm_copy {sz s2 : Int32} {so pd wg so2 pd2 wg2 : Nat → Int32} : fX5_copyOf sz so pd wg s2 so2 pd2 wg2 = some (sz, fa_fill so so2 8, fa_fill pd pd2 8, fa_fill wg wg2 8) := by
  unfold fX5_copyOf
  have s0 : fX5_copyOf_10 sz so pd wg jF sz so2 pd2 wg2 0 = fX5_copyOf_10 sz so pd wg jF sz (fa_fill so so2 0) (fa_fill pd pd2 0) (fa_fill wg wg2 0) (nI 0) := by rw [fa_fill_0, fa_fill_0, fa_fill_0]; rfl
  rw [s0]
  refine pz_up (fun F i => fX5_copyOf_10 sz so pd wg F sz (fa_fill so so2 i) (fa_fill pd pd2 i) (fa_fill wg wg2 i) (nI i)) 8 _ (fun F i hi => ?_) (fun F => ?_) 8 0 jF (by omega) (pz_jF (by omega))
  · show bX5_copyOf_10 sz so pd wg (fX5_copyOf_10 sz so pd wg F) _ _ _ _ _ = _
    unfold bX5_copyOf_10
    rw [if_neg (show ¬ (8 : Int32) ≤ nI i from nI_ge (b := 8) hi (by omega)), pz_rd hi (by omega), pz_wr hi (by omega), pz_rd hi (by omega), pz_wr hi (by omega), pz_rd hi (by omega), pz_wr hi (by omega), fa_fill_succ, fa_fill_succ, fa_fill_succ, pz_nm, pz_1]
  · unfold fX5_copyOf_10
    rw [lp_s]
    unfold bX5_copyOf_10
    rw [if_pos (show (8 : Int32) ≤ nI 8 by decide)]
theorem InT_fill {T : sT} {sz : Int32} {so pd wg so2 pd2 wg2 : Nat → Int32} (h : InT T sz so pd wg) : InT T sz (fa_fill so so2 8) (fa_fill pd pd2 8) (fa_fill wg wg2 8) := by
  refine ⟨h.1, h.2.1, fun t ht => ?_⟩
  have h8 := h.1
  rw [fa_fill_in (by omega), fa_fill_in (by omega), fa_fill_in (by omega)]
  exact h.2.2 t ht
def InT3 (T : sT) (o : jT3) : Prop := InT T o.1 o.2.1 o.2.2.1 o.2.2.2
def InE3 (E : sT) (o : jT3) : Prop := InE E o.1 o.2.1 o.2.2.1 o.2.2.2
