theorem cm_begin {n : Nat} {pd st fa pa fl lf od : Nat → Int32} {sz : Int32} (hn : n ≤ 8) : fX1_begin (nI n) pd sz st fa pa fl lf od = some (nI n, fa_fill (fun _ => -1) st n, fa_fill (fun _ => 0) fa n, fa_fill (fun _ => 0) pa n, fa_fill (fun _ => 0) fl n, fa_fill (fun t => 3 * pd t) lf n, fa_fill (fun t => nI t) od n) := by
  unfold fX1_begin
  have s0 : fX1_begin_10 (nI n) pd jF (nI n) st fa pa fl lf od 0 = fX1_begin_10 (nI n) pd jF (nI n) (fa_fill (fun _ => -1) st 0) (fa_fill (fun _ => 0) fa 0) (fa_fill (fun _ => 0) pa 0) (fa_fill (fun _ => 0) fl 0) (fa_fill (fun t => 3 * pd t) lf 0) (fa_fill (fun t => nI t) od 0) (nI 0) := by
    rw [fa_fill_0, fa_fill_0, fa_fill_0, fa_fill_0, fa_fill_0, fa_fill_0]; rfl
  rw [s0]
  refine pz_up (fun F i => fX1_begin_10 (nI n) pd F (nI n) (fa_fill (fun _ => -1) st i) (fa_fill (fun _ => 0) fa i) (fa_fill (fun _ => 0) pa i) (fa_fill (fun _ => 0) fl i) (fa_fill (fun t => 3 * pd t) lf i) (fa_fill (fun t => nI t) od i) (nI i)) n _ (fun F i hi => ?_) (fun F => ?_) n 0 jF (by omega) (pz_jF (by omega))
  · show bX1_begin_10 (nI n) pd (fX1_begin_10 (nI n) pd F) _ _ _ _ _ _ _ _ = _
    unfold bX1_begin_10
    simp only [pz_nm, pz_1]
    have hi8 : i < 8 := by omega
    rw [if_neg (nI_ge hi (by omega)), pz_wr hi8 (by omega), pz_wr hi8 (by omega), pz_wr hi8 (by omega), pz_wr hi8 (by omega), pz_rd hi8 (by omega), pz_wr hi8 (by omega), pz_wr hi8 (by omega)]
    rw [show upd (fa_fill (fun _ => -1) st i) i (-1) = fa_fill (fun _ => -1) st (i + 1) from fa_fill_succ (fun _ => -1) st i, show upd (fa_fill (fun _ => 0) fa i) i 0 = fa_fill (fun _ => 0) fa (i + 1) from fa_fill_succ (fun _ => 0) fa i, show upd (fa_fill (fun _ => 0) pa i) i 0 = fa_fill (fun _ => 0) pa (i + 1) from fa_fill_succ (fun _ => 0) pa i, show upd (fa_fill (fun _ => 0) fl i) i 0 = fa_fill (fun _ => 0) fl (i + 1) from fa_fill_succ (fun _ => 0) fl i, show upd (fa_fill (fun t => 3 * pd t) lf i) i (3 * pd i) = fa_fill (fun t => 3 * pd t) lf (i + 1) from fa_fill_succ (fun t => 3 * pd t) lf i, show upd (fa_fill (fun t => nI t) od i) i (nI i) = fa_fill (fun t => nI t) od (i + 1) from fa_fill_succ (fun t => nI t) od i]
  · show bX1_begin_10 (nI n) pd (fX1_begin_10 (nI n) pd F) _ _ _ _ _ _ _ _ = _
    unfold bX1_begin_10
    rw [if_pos (nI_le (Nat.le_refl _) (by omega))]
def cI (I : sI) (m : Nat) (st fa pa fls lfs flr fl lf od : Nat → Int32) : Prop :=
  eqN I.1.1 fl (sp_r I m).1 ∧ eqN I.1.1 lf (sp_r I m).2.1 ∧ eqN I.1.1 st (sp_r I m).2.2.1 ∧ eqN I.1.1 fa (sp_r I m).2.2.2.1 ∧ eqN I.1.1 pa (sp_r I m).2.2.2.2 ∧ (∃ o, so_ok I.1.1 od o) ∧
  (∀ k t, k < m → t < I.1.1 → fls (k * 8 + t) = (sp_r I (k + 1)).1 t ∧ lfs (k * 8 + t) = (sp_r I (k + 1)).2.1 t) ∧ ∀ k, k < m → flr k = orB (sp_fe I k (sp_r I k)) I.1.1
def cOk (I : sI) (C : jT11) : Prop :=
  C.1 = nI I.1.1 ∧ eqN I.1.1 C.2.1 (sp_r I 24).2.2.1 ∧ eqN I.1.1 C.2.2.1 (sp_r I 24).2.2.2.1 ∧ eqN I.1.1 C.2.2.2.1 (sp_r I 24).2.2.2.2 ∧
  (∀ k t, k < 24 → t < I.1.1 → C.2.2.2.2.1 (k * 8 + t) = (sp_r I (k + 1)).1 t ∧ C.2.2.2.2.2.1 (k * 8 + t) = (sp_r I (k + 1)).2.1 t) ∧ ∀ k, k < 24 → C.2.2.2.2.2.2.1 k = orB (sp_fe I k (sp_r I k)) I.1.1
theorem cl_eq {I : sI} {m : Nat} {s : sS} {fl lf st : Nat → Int32} (hg : sp_good I s) (h1 : eqN I.1.1 fl s.1) (h2 : eqN I.1.1 lf (sp_e I m s).1) (h3 : eqN I.1.1 st s.2.2.1) : eqN I.1.1 (cl_lf I fl lf I.1.1) (sp_l I m s) ∧ eqN I.1.1 (cl_st I (nI m) fl lf st I.1.1) (sp_st I m s) ∧ eqN I.1.1 (cl_fl I fl lf I.1.1) (sp_f I m s) := by
  have hv : ∀ t, t < I.1.1 → cl_v I fl lf t = sp_pay (I.1.2.1 t) (I.1.2.2.2 t) (s.1 t) ((sp_e I m s).1 t) := fun t ht => by unfold cl_v; rw [h1 t ht, h2 t ht]
  have ho : ∀ t, t < I.1.1 → cl_o I fl lf t = sp_out I m s t := fun t ht => by
    unfold cl_o sp_out sp_l
    rw [hv t ht, h1 t ht]
    by_cases c : s.2.2.1 t = -1
    · have hf : ¬ s.1 t = -1 := fun q => ((hg t ht).1.mp q) c
      rw [if_pos c]; simp [c, hf]
    · have hf : s.1 t = -1 := (hg t ht).1.mpr c
      simp [c, hf]
  refine ⟨fun t ht => ?_, fun t ht => ?_, fun t ht => ?_⟩
  · unfold cl_lf sp_l
    by_cases c : s.2.2.1 t = -1
    · have hf : ¬ fl t = -1 := by rw [h1 t ht]; exact fun q => ((hg t ht).1.mp q) c
      rw [if_pos ⟨ht, hf⟩, if_pos c, hv t ht]
    · have hf : fl t = -1 := by rw [h1 t ht]; exact (hg t ht).1.mpr c
      rw [if_neg (fun q => q.2 hf), if_neg c, h2 t ht]
  · unfold cl_st sp_st
    rw [ho t ht]
    by_cases c : sp_out I m s t = true
    · rw [if_pos ⟨ht, c⟩, if_pos c]
    · rw [if_neg (fun q => c q.2), if_neg c, h3 t ht]
  · unfold cl_fl sp_f
    rw [ho t ht]
    by_cases c : sp_out I m s t = true
    · rw [if_pos ⟨ht, c⟩, if_pos c]
    · rw [if_neg (fun q => c q.2), if_neg c, h1 t ht]
theorem orB_cong {p q : Nat → Bool} : ∀ n, (∀ t, t < n → p t = q t) → orB p n = orB q n
  | 0, _ => rfl
  | n + 1, h => by
    unfold orB
    rw [orB_cong n (fun t ht => h t (by omega)), h n (by omega)]
theorem sp_bt_cong {n : Nat} {f g : Nat → Int32} (h : eqN n f g) (lo hi : Int32) : sp_bt n f lo hi = sp_bt n g lo hi := by
  unfold sp_bt
  exact fb_ct_cong (fun k hk => by rw [h k hk])
set_option maxHeartbeats 1000000 in
theorem cm_run8 {I : sI} {w rm c1s c2s : Int32} {so pd wg ki mo nu : Nat → Int32} (hT : InT I.1 c1s so pd wg) (hE : InE I.2.1 c2s ki mo nu) (hw : ∀ e, e < I.2.1.1 → (I.2.2.1 e = true ↔ ¬ ((w >>> (nI e &&& 31)) &&& 1) = 0)) (hrm : rm = nI I.2.2.2) :
    ∀ (j m F : Nat) (st fa pa fls lfs flr fl be lf od tk : Nat → Int32), m + j = 24 → j < F → cI I m st fa pa fls lfs flr fl lf od → ∃ C : jT11, fX1_run_8 w rm c1s so pd wg c2s ki mo nu F (nI I.1.1) st fa pa fls lfs flr fl be lf od tk (nI m) = some C ∧ cOk I C := by
  have hn := hT.1
  subst hrm
  intro j
  induction j with
  | zero =>
    intro m F st fa pa fls lfs flr fl be lf od tk h1 h2 hc
    obtain ⟨F', rfl⟩ : ∃ z, F = z + 1 := ⟨F - 1, by omega⟩
    have hm : m = 24 := by omega
    subst hm
    refine ⟨(nI I.1.1, st, fa, pa, fls, lfs, flr, fl, be, lf, od, tk), ?_, rfl, hc.2.2.1, hc.2.2.2.1, hc.2.2.2.2.1, hc.2.2.2.2.2.2.1, hc.2.2.2.2.2.2.2⟩
    have e0 : fX1_run_8 w (nI I.2.2.2) c1s so pd wg c2s ki mo nu (F' + 1) (nI I.1.1) st fa pa fls lfs flr fl be lf od tk (nI 24) = bX1_run_8 w (nI I.2.2.2) c1s so pd wg c2s ki mo nu (fX1_run_8 w (nI I.2.2.2) c1s so pd wg c2s ki mo nu F') (nI I.1.1) st fa pa fls lfs flr fl be lf od tk (nI 24) := rfl
    rw [e0]
    unfold bX1_run_8
    rw [if_pos (show (24 : Int32) ≤ nI 24 by decide)]
  | succ j ih =>
    intro m F st fa pa fls lfs flr fl be lf od tk h1 h2 hc
    obtain ⟨F', rfl⟩ : ∃ z, F = z + 1 := ⟨F - 1, by omega⟩
    obtain ⟨k1, k2, k3, k4, k5, ⟨o, k6⟩, k7, k8⟩ := hc
    have hm : m < 24 := by omega
    have hg := sp_r_good (I := I) hn m (by omega)
    have e0 : fX1_run_8 w (nI I.2.2.2) c1s so pd wg c2s ki mo nu (F' + 1) (nI I.1.1) st fa pa fls lfs flr fl be lf od tk (nI m) = bX1_run_8 w (nI I.2.2.2) c1s so pd wg c2s ki mo nu (fX1_run_8 w (nI I.2.2.2) c1s so pd wg c2s ki mo nu F') (nI I.1.1) st fa pa fls lfs flr fl be lf od tk (nI m) := rfl
    rw [e0]
    unfold bX1_run_8
    rw [if_neg (show ¬ (24 : Int32) ≤ nI m from nI_ge (b := 24) hm (by omega)), cm_meet (I := I) (by omega) hn rfl hE hw, bd2_eq, cm_28 (I := I) hT]
    obtain ⟨ev1, ev2⟩ := sp_ev_cong (I := I) (m := m) k1 k2 I.2.1.1
    generalize hS : itN (sp_ev I m fl) (lf, 0) I.2.1.1 = S at ev1 ev2 ⊢
    have ev1' : eqN I.1.1 S.1 (sp_e I m (sp_r I m)).1 := ev1
    have ev2' : S.2 = (sp_e I m (sp_r I m)).2 := ev2
    obtain ⟨q1, q2, q3⟩ := cl_eq (m := m) hg k1 ev1' k3
    obtain ⟨od', o', s1, s2, s3⟩ := cm_sort (n := I.1.1) (lf := cl_lf I fl S.1 I.1.1) hn k6
    have h0 : ∀ t, t < I.1.1 → (cl_fl I fl S.1 I.1.1 t = -1 ↔ ¬ cl_st I (nI m) fl S.1 st I.1.1 t = -1) := fun t ht => by rw [q3 t ht, q2 t ht]; exact sp_h0 (by omega) hg t ht
    obtain ⟨fl', tk', g1, g2, -⟩ := cm_give (I := I) (au := S.2) (st := cl_st I (nI m) fl S.1 st I.1.1) (f0 := cl_fl I fl S.1 I.1.1) (tk := tk) hn s2 s3 h0
    have hfl : eqN I.1.1 fl' (sp_fl I m (sp_r I m)) := fun t ht => by
      rw [g2 t ht, ev2']
      exact (sp_g_cong (au := (sp_e I m (sp_r I m)).2) q1 q2 q3 I.1.1).2.1 t ht
    have hbe : ∀ t, t < I.1.1 → cl_be fl be I.1.1 t = (sp_r I m).1 t := fun t ht => by unfold cl_be; rw [if_pos ht]; exact k1 t ht
    have hfe : ∀ t, t < I.1.1 → cf_e fl' (cl_be fl be I.1.1) t = sp_fe I m (sp_r I m) t := fun t ht => by unfold cf_e sp_fe; rw [hfl t ht, hbe t ht]
    rw [s1, bd1_eq, g1, bd2_eq, cm_falls hn hm, bd3_eq, ck_keep hn hm, bd2_eq]
    refine ih (m + 1) F' _ _ _ _ _ _ _ _ _ _ _ (by omega) (by omega) ⟨hfl, q1, q2, fun t ht => ?_, fun t ht => ?_, ⟨o', s2⟩, fun k t hk ht => ?_, fun k hk => ?_⟩
    · show cf_a (cf_e fl' (cl_be fl be I.1.1)) fa (fun t => fa t + 1) I.1.1 t = if sp_fe I m (sp_r I m) t = true then (sp_r I m).2.2.2.1 t + 1 else (sp_r I m).2.2.2.1 t
      unfold cf_a
      rw [hfe t ht]
      by_cases c : sp_fe I m (sp_r I m) t = true
      · rw [if_pos ⟨ht, c⟩, if_pos c]; dsimp only; rw [k4 t ht]
      · rw [if_neg (fun q => c q.2), if_neg c, k4 t ht]
    · show cf_a (cf_e fl' (cl_be fl be I.1.1)) pa (fun t => pa t + nI (sp_bt I.1.1 fl' (fl' t) (cl_be fl be I.1.1 t))) I.1.1 t = if sp_fe I m (sp_r I m) t = true then (sp_r I m).2.2.2.2 t + nI (sp_bt I.1.1 (sp_fl I m (sp_r I m)) (sp_fl I m (sp_r I m) t) ((sp_r I m).1 t)) else (sp_r I m).2.2.2.2 t
      unfold cf_a
      rw [hfe t ht]
      by_cases c : sp_fe I m (sp_r I m) t = true
      · rw [if_pos ⟨ht, c⟩, if_pos c]; dsimp only; rw [k5 t ht, hfl t ht, hbe t ht, sp_bt_cong hfl]
      · rw [if_neg (fun q => c q.2), if_neg c, k5 t ht]
    · by_cases e : k = m
      · subst e
        rw [fb_put_in (by omega) (by omega), fb_put_in (by omega) (by omega), show k * 8 + t - k * 8 = t by omega]
        exact ⟨hfl t ht, q1 t ht⟩
      · rw [fb_put_out (by omega), fb_put_out (by omega)]
        exact k7 k t (by omega) ht
    · by_cases e : k = m
      · subst e
        rw [pk_us]
        exact orB_cong _ hfe
      · rw [pk_un e]
        exact k8 k (by omega)
theorem cm_run {I : sI} {w rm c1s c2s sz : Int32} {so pd wg ki mo nu st fa pa fls lfs flr fl be lf od tk : Nat → Int32} (hT : InT I.1 c1s so pd wg) (hE : InE I.2.1 c2s ki mo nu) (hw : ∀ e, e < I.2.1.1 → (I.2.2.1 e = true ↔ ¬ ((w >>> (nI e &&& 31)) &&& 1) = 0)) (hrm : rm = nI I.2.2.2) : ∃ C : jT11, fX1_run w rm c1s so pd wg c2s ki mo nu sz st fa pa fls lfs flr fl be lf od tk = some C ∧ cOk I C := by
  unfold fX1_run
  have h2 := hT.2.1
  subst h2
  have hn := hT.1
  rw [cm_begin hn, bd7_eq]
  refine cm_run8 hT hE hw hrm 24 0 jF _ _ _ _ _ _ _ _ _ _ _ (by omega) (pz_jF (by omega)) ⟨fun t ht => ?_, fun t ht => ?_, fun t ht => ?_, fun t ht => ?_, fun t ht => ?_, ⟨fun t => t, fun x hx => ⟨?_, hx⟩, fun x y h _ => Nat.ne_of_lt h⟩, fun k t hk => absurd hk (Nat.not_lt_zero k), fun k hk => absurd hk (Nat.not_lt_zero k)⟩
  · rw [fa_fill_in ht]; rfl
  · rw [fa_fill_in ht, (hT.2.2 t ht).2.1]; rfl
  · rw [fa_fill_in ht]; rfl
  · rw [fa_fill_in ht]; rfl
  · rw [fa_fill_in ht]; rfl
  · rw [fa_fill_in hx]
