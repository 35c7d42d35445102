def mn24 (k : Nat) : Nat := if k < 24 then k else 24
theorem mn24_le (k : Nat) : mn24 k ≤ 24 ∧ mn24 k ≤ k := by unfold mn24; split <;> omega
theorem mn24_c {k : Nat} (hk : k ≤ 60) : (if (24 : Int32) < nI k then (24 : Int32) else nI k) = nI (mn24 k) := by
  unfold mn24
  by_cases c : k < 24
  · rw [if_pos c, if_neg (show ¬ (24 : Int32) < nI k from nI_nlt (a := 24) (by omega) (by omega))]
  · rw [if_neg c]
    by_cases d : 24 < k
    · rw [if_pos (show (24 : Int32) < nI k from nI_lt (a := 24) d (by omega))]; rfl
    · rw [if_neg (show ¬ (24 : Int32) < nI k from nI_nlt (a := 24) (by omega) (by omega)), show k = 24 by omega]
theorem mn24_m {k : Nat} (hk : k ≤ 60) : fX8_lesser (nI k) (24 : Int32) = some (nI (mn24 k)) := by
  rw [mm_lesser]
  unfold mn24
  by_cases c : k < 24
  · rw [if_pos c, if_pos (show nI k < (24 : Int32) from nI_lt (b := 24) c (by omega))]
  · rw [if_neg c, if_neg (show ¬ nI k < (24 : Int32) from nI_nlt (b := 24) (by omega) (by omega))]; rfl
theorem c7_wl0 {I : sI} {C : jT11} {t n : Nat} {s rm fi ck : Int32} {told ev : jT3} {a b c d : jS4} (hC : cOk I C) (hn8 : I.1.1 ≤ 8) (ht : t < I.1.1) (hn : n ≤ 24) : fX7_write_62 (nI t) s rm told ev jF fi ck C a b c d (nI n) 0 = some (nI n, fi, ck, C, (a.1, a.2.1, a.2.2.1, fa_fill (fun m => cutV a.1 (sq_fl I m t)) a.2.2.2 n), b, c, d) := by
  have s0 : fX7_write_62 (nI t) s rm told ev jF fi ck C a b c d (nI n) 0 = fX7_write_62 (nI t) s rm told ev jF fi ck C (a.1, a.2.1, a.2.2.1, fa_fill (fun m => cutV a.1 (sq_fl I m t)) a.2.2.2 0) b c d (nI n) (nI 0) := by rw [fa_fill_0]; rfl
  rw [s0]
  refine pz_up (fun F m => fX7_write_62 (nI t) s rm told ev F fi ck C (a.1, a.2.1, a.2.2.1, fa_fill (fun m => cutV a.1 (sq_fl I m t)) a.2.2.2 m) b c d (nI n) (nI m)) n _ (fun F m hm => ?_) (fun F => ?_) n 0 jF (by omega) (pz_jF (by omega))
  · show bX7_write_62 (nI t) s rm told ev (fX7_write_62 (nI t) s rm told ev F) _ _ _ _ _ _ _ _ _ = _
    unfold bX7_write_62
    dsimp only
    rw [if_neg (nI_ge hm (by omega)), cm_floorAt hn8 (cOk_F hC) (by omega) ht, bd1_eq, cm_put (by omega), bd1_eq, show upd (fa_fill (fun m => cutV a.1 (sq_fl I m t)) a.2.2.2 m) m (cutV a.1 (sq_fl I m t)) = fa_fill (fun m => cutV a.1 (sq_fl I m t)) a.2.2.2 (m + 1) from fa_fill_succ (fun m => cutV a.1 (sq_fl I m t)) a.2.2.2 m, pz_nm, pz_1]
  · unfold fX7_write_62
    rw [lp_s]
    unfold bX7_write_62
    rw [if_pos (nI_le (Nat.le_refl _) (by omega))]
theorem c7_wl1 {I : sI} {C : jT11} {t n : Nat} {s rm fi ck : Int32} {told ev : jT3} {a b c d : jS4} (hC : cOk I C) (hn8 : I.1.1 ≤ 8) (ht : t < I.1.1) (hn : n ≤ 24) : fX7_write_62_v1 (nI t) s rm told ev jF fi ck C a b c d (nI n) 0 = some (nI n, fi, ck, C, a, (b.1, b.2.1, b.2.2.1, fa_fill (fun m => cutV b.1 (sq_fl I m t)) b.2.2.2 n), c, d) := by
  have s0 : fX7_write_62_v1 (nI t) s rm told ev jF fi ck C a b c d (nI n) 0 = fX7_write_62_v1 (nI t) s rm told ev jF fi ck C a (b.1, b.2.1, b.2.2.1, fa_fill (fun m => cutV b.1 (sq_fl I m t)) b.2.2.2 0) c d (nI n) (nI 0) := by rw [fa_fill_0]; rfl
  rw [s0]
  refine pz_up (fun F m => fX7_write_62_v1 (nI t) s rm told ev F fi ck C a (b.1, b.2.1, b.2.2.1, fa_fill (fun m => cutV b.1 (sq_fl I m t)) b.2.2.2 m) c d (nI n) (nI m)) n _ (fun F m hm => ?_) (fun F => ?_) n 0 jF (by omega) (pz_jF (by omega))
  · show bX7_write_62_v1 (nI t) s rm told ev (fX7_write_62_v1 (nI t) s rm told ev F) _ _ _ _ _ _ _ _ _ = _
    unfold bX7_write_62_v1
    dsimp only
    rw [if_neg (nI_ge hm (by omega)), cm_floorAt hn8 (cOk_F hC) (by omega) ht, bd1_eq, cm_put (by omega), bd1_eq, show upd (fa_fill (fun m => cutV b.1 (sq_fl I m t)) b.2.2.2 m) m (cutV b.1 (sq_fl I m t)) = fa_fill (fun m => cutV b.1 (sq_fl I m t)) b.2.2.2 (m + 1) from fa_fill_succ (fun m => cutV b.1 (sq_fl I m t)) b.2.2.2 m, pz_nm, pz_1]
  · unfold fX7_write_62_v1
    rw [lp_s]
    unfold bX7_write_62_v1
    rw [if_pos (nI_le (Nat.le_refl _) (by omega))]
theorem c7_wl2 {I : sI} {C : jT11} {t n : Nat} {s rm fi ck : Int32} {told ev : jT3} {a b c d : jS4} (hC : cOk I C) (hn8 : I.1.1 ≤ 8) (ht : t < I.1.1) (hn : n ≤ 24) : fX7_write_62_v2 (nI t) s rm told ev jF fi ck C a b c d (nI n) 0 = some (nI n, fi, ck, C, a, b, (c.1, c.2.1, c.2.2.1, fa_fill (fun m => cutV c.1 (sq_fl I m t)) c.2.2.2 n), d) := by
  have s0 : fX7_write_62_v2 (nI t) s rm told ev jF fi ck C a b c d (nI n) 0 = fX7_write_62_v2 (nI t) s rm told ev jF fi ck C a b (c.1, c.2.1, c.2.2.1, fa_fill (fun m => cutV c.1 (sq_fl I m t)) c.2.2.2 0) d (nI n) (nI 0) := by rw [fa_fill_0]; rfl
  rw [s0]
  refine pz_up (fun F m => fX7_write_62_v2 (nI t) s rm told ev F fi ck C a b (c.1, c.2.1, c.2.2.1, fa_fill (fun m => cutV c.1 (sq_fl I m t)) c.2.2.2 m) d (nI n) (nI m)) n _ (fun F m hm => ?_) (fun F => ?_) n 0 jF (by omega) (pz_jF (by omega))
  · show bX7_write_62_v2 (nI t) s rm told ev (fX7_write_62_v2 (nI t) s rm told ev F) _ _ _ _ _ _ _ _ _ = _
    unfold bX7_write_62_v2
    dsimp only
    rw [if_neg (nI_ge hm (by omega)), cm_floorAt hn8 (cOk_F hC) (by omega) ht, bd1_eq, cm_put (by omega), bd1_eq, show upd (fa_fill (fun m => cutV c.1 (sq_fl I m t)) c.2.2.2 m) m (cutV c.1 (sq_fl I m t)) = fa_fill (fun m => cutV c.1 (sq_fl I m t)) c.2.2.2 (m + 1) from fa_fill_succ (fun m => cutV c.1 (sq_fl I m t)) c.2.2.2 m, pz_nm, pz_1]
  · unfold fX7_write_62_v2
    rw [lp_s]
    unfold bX7_write_62_v2
    rw [if_pos (nI_le (Nat.le_refl _) (by omega))]
theorem c7_wl3 {I : sI} {C : jT11} {t n : Nat} {s rm fi ck : Int32} {told ev : jT3} {a b c d : jS4} (hC : cOk I C) (hn8 : I.1.1 ≤ 8) (ht : t < I.1.1) (hn : n ≤ 24) : fX7_write_62_v3 (nI t) s rm told ev jF fi ck C a b c d (nI n) 0 = some (nI n, fi, ck, C, a, b, c, (d.1, d.2.1, d.2.2.1, fa_fill (fun m => cutV d.1 (sq_fl I m t)) d.2.2.2 n)) := by
  have s0 : fX7_write_62_v3 (nI t) s rm told ev jF fi ck C a b c d (nI n) 0 = fX7_write_62_v3 (nI t) s rm told ev jF fi ck C a b c (d.1, d.2.1, d.2.2.1, fa_fill (fun m => cutV d.1 (sq_fl I m t)) d.2.2.2 0) (nI n) (nI 0) := by rw [fa_fill_0]; rfl
  rw [s0]
  refine pz_up (fun F m => fX7_write_62_v3 (nI t) s rm told ev F fi ck C a b c (d.1, d.2.1, d.2.2.1, fa_fill (fun m => cutV d.1 (sq_fl I m t)) d.2.2.2 m) (nI n) (nI m)) n _ (fun F m hm => ?_) (fun F => ?_) n 0 jF (by omega) (pz_jF (by omega))
  · show bX7_write_62_v3 (nI t) s rm told ev (fX7_write_62_v3 (nI t) s rm told ev F) _ _ _ _ _ _ _ _ _ = _
    unfold bX7_write_62_v3
    dsimp only
    rw [if_neg (nI_ge hm (by omega)), cm_floorAt hn8 (cOk_F hC) (by omega) ht, bd1_eq, cm_put (by omega), bd1_eq, show upd (fa_fill (fun m => cutV d.1 (sq_fl I m t)) d.2.2.2 m) m (cutV d.1 (sq_fl I m t)) = fa_fill (fun m => cutV d.1 (sq_fl I m t)) d.2.2.2 (m + 1) from fa_fill_succ (fun m => cutV d.1 (sq_fl I m t)) d.2.2.2 m, pz_nm, pz_1]
  · unfold fX7_write_62_v3
    rw [lp_s]
    unfold bX7_write_62_v3
    rw [if_pos (nI_le (Nat.le_refl _) (by omega))]
theorem c7_wr {T E : sT} {r t s k : Nat} {rm fi ck : Int32} {told ev : jT3} {C : jT11} {a b c d : jS4} (hT : InT3 T told) (hE : InE3 E ev) (hrm : rm = nI r) (hk : KC T E r ck C) (ht : t < T.1) (hs : s < 4) (hk60 : k ≤ 60) (h1 : (shG a b c d s).2.2.1 = 0) (h2 : (shG a b c d s).2.1 = nI k) : ∃ ck' C', fX7_write (nI t) (nI s) rm told ev fi ck C a b c d = some (nI (mn24 k), fi, ck', C', shU a b c d s ((shG a b c d s).1, (shG a b c d s).2.1, (shG a b c d s).2.2.1, fa_fill (fun m => cutV (shG a b c d s).1 (sq_fl (hI T E 255 r) m t)) (shG a b c d s).2.2.2 (mn24 k)) 0, shU a b c d s ((shG a b c d s).1, (shG a b c d s).2.1, (shG a b c d s).2.2.1, fa_fill (fun m => cutV (shG a b c d s).1 (sq_fl (hI T E 255 r) m t)) (shG a b c d s).2.2.2 (mn24 k)) 1, shU a b c d s ((shG a b c d s).1, (shG a b c d s).2.1, (shG a b c d s).2.2.1, fa_fill (fun m => cutV (shG a b c d s).1 (sq_fl (hI T E 255 r) m t)) (shG a b c d s).2.2.2 (mn24 k)) 2, shU a b c d s ((shG a b c d s).1, (shG a b c d s).2.1, (shG a b c d s).2.2.1, fa_fill (fun m => cutV (shG a b c d s).1 (sq_fl (hI T E 255 r) m t)) (shG a b c d s).2.2.2 (mn24 k)) 3) ∧ KC T E r ck' C' := by
  have hn : T.1 ≤ 8 := hT.1
  obtain ⟨ck', C', e, hC⟩ := c7_told hT hE hrm hk
  refine ⟨ck', C', ?_, Or.inr hC⟩
  have c1 := tk_ok hn ht
  have c2 : (0 : Int32) ≤ nI s ∧ nI s ≤ 3 := ⟨nI_pos' (by omega), nI_le (b := 3) (by omega) (by omega)⟩
  have hm := (mn24_le k).1
  unfold fX7_write
  rw [ih_ten7 hT.2.1, bd1_eq, ite01, if_pos c1, pz_within, bd1_eq, ite01, if_pos c2, e]
  simp only [bd2_eq, pz_nm]
  match s, hs with
  | 0, _ =>
    have h1' : a.2.2.1 = 0 := h1
    have h2' : a.2.1 = nI k := h2
    unfold sw4
    rw [if_pos (show nI 0 = (0 : Int32) from rfl), if_pos h1', h2', mn24_c hk60, c7_wl0 (I := hI T E 255 r) hC hn ht hm]
    rfl
  | 1, _ =>
    have h1' : b.2.2.1 = 0 := h1
    have h2' : b.2.1 = nI k := h2
    unfold sw4
    rw [if_neg (by decide), if_pos (show nI 1 = (1 : Int32) from rfl), if_pos h1', h2', mn24_c hk60, c7_wl1 (I := hI T E 255 r) hC hn ht hm]
    rfl
  | 2, _ =>
    have h1' : c.2.2.1 = 0 := h1
    have h2' : c.2.1 = nI k := h2
    unfold sw4
    rw [if_neg (by decide), if_neg (by decide), if_pos (show nI 2 = (2 : Int32) from rfl), if_pos h1', h2', mn24_c hk60, c7_wl2 (I := hI T E 255 r) hC hn ht hm]
    rfl
  | 3, _ =>
    have h1' : d.2.2.1 = 0 := h1
    have h2' : d.2.1 = nI k := h2
    unfold sw4
    rw [if_neg (by decide), if_neg (by decide), if_neg (by decide), if_pos (show nI 3 = (3 : Int32) from rfl), if_pos h1', h2', mn24_c hk60, c7_wl3 (I := hI T E 255 r) hC hn ht hm]
    rfl
theorem c7_wrL {T E : sT} {r t s : Nat} {rm fi ck : Int32} {told ev : jT3} {C : jT11} {a b c d : jS4} (hT : InT3 T told) (ht : t < T.1) (hs : s < 4) (h1 : ¬ (shG a b c d s).2.2.1 = 0) : fX7_write (nI t) (nI s) rm told ev fi ck C a b c d = some (-10 - 1, 1, ck, C, a, b, c, d) := by
  have hn : T.1 ≤ 8 := hT.1
  have c1 := tk_ok hn ht
  have c2 : (0 : Int32) ≤ nI s ∧ nI s ≤ 3 := ⟨nI_pos' (by omega), nI_le (b := 3) (by omega) (by omega)⟩
  unfold fX7_write fX7_found
  rw [ih_ten7 hT.2.1, bd1_eq, ite01, if_pos c1, pz_within, bd1_eq, ite01, if_pos c2]
  match s, hs with
  | 0, _ =>
    have h1' : ¬ a.2.2.1 = 0 := h1
    unfold sw4
    rw [if_pos (show nI 0 = (0 : Int32) from rfl), if_neg h1', bd2_eq]
  | 1, _ =>
    have h1' : ¬ b.2.2.1 = 0 := h1
    unfold sw4
    rw [if_neg (by decide), if_pos (show nI 1 = (1 : Int32) from rfl), if_neg h1', bd2_eq]
  | 2, _ =>
    have h1' : ¬ c.2.2.1 = 0 := h1
    unfold sw4
    rw [if_neg (by decide), if_neg (by decide), if_pos (show nI 2 = (2 : Int32) from rfl), if_neg h1', bd2_eq]
  | 3, _ =>
    have h1' : ¬ d.2.2.1 = 0 := h1
    unfold sw4
    rw [if_neg (by decide), if_neg (by decide), if_neg (by decide), if_pos (show nI 3 = (3 : Int32) from rfl), if_neg h1', bd2_eq]
theorem m8_wl {I : sI} {S : jT11} {t s n : Nat} {ty rm en la tn : Int32} {fo sz b ev it te : Nat → Int32} (hS : mOk I S) (hn8 : I.1.1 ≤ 8) (ht : t < I.1.1) (hs : s < 4) (hn : n ≤ 24) : fX8_write_52 (nI t) (nI s) ty rm en 0 fo sz b ev jF la tn S it te (nI n) 0 = some (nI n, la, tn, S, fb_put it (fun m => cutV (fo s) (sq_fl I m t)) (60 * s) n, te) := by
  have s0 : fX8_write_52 (nI t) (nI s) ty rm en 0 fo sz b ev jF la tn S it te (nI n) 0 = fX8_write_52 (nI t) (nI s) ty rm en 0 fo sz b ev jF la tn S (fb_put it (fun m => cutV (fo s) (sq_fl I m t)) (60 * s) 0) te (nI n) (nI 0) := by rw [fb_put_0]; rfl
  rw [s0]
  refine pz_up (fun F m => fX8_write_52 (nI t) (nI s) ty rm en 0 fo sz b ev F la tn S (fb_put it (fun m => cutV (fo s) (sq_fl I m t)) (60 * s) m) te (nI n) (nI m)) n _ (fun F m hm => ?_) (fun F => ?_) n 0 jF (by omega) (pz_jF (by omega))
  · show bX8_write_52 (nI t) (nI s) ty rm en 0 fo sz b ev (fX8_write_52 (nI t) (nI s) ty rm en 0 fo sz b ev F) _ _ _ _ _ _ _ = _
    unfold bX8_write_52
    rw [if_neg (nI_ge hm (by omega)), pz_rd hs (by omega), xi8, pz_rd (by omega) (by omega), mOk_F hS m t (by omega) ht, mm_cut, bd1_eq, f60, pz_wr (by omega) (by omega), show upd (fb_put it (fun m => cutV (fo s) (sq_fl I m t)) (60 * s) m) (60 * s + m) (cutV (fo s) (sq_fl I m t)) = fb_put it (fun m => cutV (fo s) (sq_fl I m t)) (60 * s) (m + 1) from fb_put_succ it (fun m => cutV (fo s) (sq_fl I m t)) (60 * s) m, pz_nm, pz_1]
  · unfold fX8_write_52
    rw [lp_s]
    unfold bX8_write_52
    rw [if_pos (nI_le (Nat.le_refl _) (by omega))]
theorem rl_write (v1 : Int32) (v2 : Int32) {c_room : Int32} {c_finding : Int32} {c_courseKnown : Int32} {c_settledByKnown : Int32} {c_text : jT1} {c_told : jT3} {c_others : jT3} {c_events : jT3} {c_seen : jT3} {c_course : jT11} {c_trial : jT11} {c_best : jB3} {c_sh0 : jS4} {c_sh1 : jS4} {c_sh2 : jS4} {c_sh3 : jS4} {c_settledBy : Nat → Int32} {c_views : Nat → Int32} {m_latest : Int32} {m_typed : Int32} {m_tenants : Int32} {m_room : Int32} {m_events : Int32} {m_gone : Int32} {m_sim : jT11} {m_sights : Int32} {m_drawn : Int32} {m_forms : Nat → Int32} {m_sizes : Nat → Int32} {m_items : Nat → Int32} {m_moved : Nat → Int32} {m_bytes : Nat → Int32} {m_tenant : Nat → Int32} {m_event : Nat → Int32} {m_sight : Nat → Int32} {m_rows : Nat → Int64} (h : Rel (c_room, c_finding, c_courseKnown, c_settledByKnown, c_text, c_told, c_others, c_events, c_seen, c_course, c_trial, c_best, c_sh0, c_sh1, c_sh2, c_sh3, c_settledBy, c_views) (m_latest, m_typed, m_tenants, m_room, m_events, m_gone, m_sim, m_sights, m_drawn, m_forms, m_sizes, m_items, m_moved, m_bytes, m_tenant, m_event, m_sight, m_rows)) : ∃ (r : Int32) (o_finding : Int32) (o_courseKnown : Int32) (o_course : jT11) (o_sh0 : jS4) (o_sh1 : jS4) (o_sh2 : jS4) (o_sh3 : jS4) (p_latest : Int32) (p_tenants : Int32) (p_sim : jT11) (p_items : Nat → Int32) (p_tenant : Nat → Int32), fX7_write v1 v2 c_room c_told c_events c_finding c_courseKnown c_course c_sh0 c_sh1 c_sh2 c_sh3 = some (r, o_finding, o_courseKnown, o_course, o_sh0, o_sh1, o_sh2, o_sh3) ∧ fX8_write v1 v2 m_typed m_room m_events m_gone m_forms m_sizes m_bytes m_event m_latest m_tenants m_sim m_items m_tenant = some (r, p_latest, p_tenants, p_sim, p_items, p_tenant) ∧ Rel (c_room, o_finding, o_courseKnown, c_settledByKnown, c_text, c_told, c_others, c_events, c_seen, o_course, c_trial, c_best, o_sh0, o_sh1, o_sh2, o_sh3, c_settledBy, c_views) (p_latest, m_typed, p_tenants, m_room, m_events, m_gone, p_sim, m_sights, m_drawn, m_forms, m_sizes, p_items, m_moved, m_bytes, p_tenant, m_event, m_sight, m_rows) := by
  obtain ⟨⟨N, E, Z, r, hN, htx, hty, hT, hr1, hr, hrm, hrm2, hE, hE2, hZ, hZ2, hg, hk, hs⟩, hf, hS⟩ := Rel_i.mp h
  subst htx
  subst hty
  subst hg
  subst hf
  have hn8 := tx_n_le (b := m_bytes) hN
  obtain ⟨S', te', ef, hSS, hTT⟩ := m8_find (b := m_bytes) (tn := m_tenants) (S := m_sim) (te := m_tenant) hN hE2 hrm2 hr
  by_cases c1 : 0 ≤ v1 ∧ v1 < nI (tx_n m_bytes N)
  · by_cases c2 : 0 ≤ v2 ∧ v2 ≤ 3
    · obtain ⟨t, ht, e⟩ := vint (by omega) c1
      subst e
      obtain ⟨s, hs3, e⟩ := vin (n := 3) (by omega) c2
      subst e
      have hs4 : s < 4 := by omega
      rcases hS s hs4 with ⟨a1, a2, a3, k, a4, a5, a6, a7⟩ | ⟨a1, a2⟩
      · obtain ⟨ck', C', e7, k'⟩ := c7_wr (fi := c_finding) hT hE hrm hk ht hs4 a4 a1 a5
        have hm := mn24_le k
        have e8 : fX8_write (nI t) (nI s) (nI N) m_room m_events 0 m_forms m_sizes m_bytes m_event c_finding m_tenants m_sim m_items m_tenant = some (nI (mn24 k), c_finding, nI (tx_n m_bytes N), S', fb_put m_items (fun m => cutV (m_forms s) (sq_fl (hI (tx_T m_bytes N) E 255 r) m t)) (60 * s) (mn24 k), te') := by
          unfold fX8_write
          rw [ef, bd3_eq, mm_tenant hn8, bd1_eq, ite01, if_pos c1, ih_sheet8, bd1_eq, ite01, if_pos c2, pz_rd hs4 (by omega), a3, if_pos (neg3 a2), pz_rd hs4 (by omega), a6, mn24_m a4, bd1_eq, m8_wl (I := hI (tx_T m_bytes N) E 255 r) hSS hn8 ht hs4 hm.1, a3]
        have hS' := RelS_u (i := s) (x := ((shG c_sh0 c_sh1 c_sh2 c_sh3 s).1, (shG c_sh0 c_sh1 c_sh2 c_sh3 s).2.1, (shG c_sh0 c_sh1 c_sh2 c_sh3 s).2.2.1, fa_fill (fun m => cutV (shG c_sh0 c_sh1 c_sh2 c_sh3 s).1 (sq_fl (hI (tx_T m_bytes N) E 255 r) m t)) (shG c_sh0 c_sh1 c_sh2 c_sh3 s).2.2.2 (mn24 k))) (fo' := m_forms) (sz' := m_sizes) (it' := fb_put m_items (fun m => cutV (m_forms s) (sq_fl (hI (tx_T m_bytes N) E 255 r) m t)) (60 * s) (mn24 k)) hS (Or.inl ⟨a1, a2, a3, k, a4, a5, a6, fun x hx => by
          show fa_fill (fun m => cutV (shG c_sh0 c_sh1 c_sh2 c_sh3 s).1 (sq_fl (hI (tx_T m_bytes N) E 255 r) m t)) (shG c_sh0 c_sh1 c_sh2 c_sh3 s).2.2.2 (mn24 k) x = _
          by_cases e : x < mn24 k
          · rw [fa_fill_in e, fb_put_in (by omega) (by omega), show 60 * s + x - 60 * s = x by omega, a3]
          · rw [fa_fill_out (by omega), fb_put_out (by omega)]; exact a7 x hx⟩) (fun y hy hne => ⟨rfl, rfl, fun z hz => fb_put_out (by omega)⟩)
        exact ⟨_, _, _, _, _, _, _, _, _, _, _, _, _, e7, e8, Rel_i.mpr ⟨⟨N, E, Z, r, hN, rfl, rfl, hT, hr1, hr, hrm, hrm2, hE, hE2, hZ, hZ2, rfl, k', hs⟩, rfl, hS'⟩⟩
      · have e7 := c7_wrL (E := E) (r := r) (rm := c_room) (fi := c_finding) (ck := c_courseKnown) (ev := c_events) (C := c_course) hT ht hs4 a1
        have e8 : fX8_write (nI t) (nI s) (nI N) m_room m_events 0 m_forms m_sizes m_bytes m_event c_finding m_tenants m_sim m_items m_tenant = some (-10 - 1, 1, nI (tx_n m_bytes N), S', m_items, te') := by
          unfold fX8_write fX8_finds
          rw [ef, bd3_eq, mm_tenant hn8, bd1_eq, ite01, if_pos c1, ih_sheet8, bd1_eq, ite01, if_pos c2, pz_rd hs4 (by omega), a2, if_neg (show ¬ (0 : Int32) ≤ -1 by decide), bd2_eq]
        exact ⟨_, _, _, _, _, _, _, _, _, _, _, _, _, e7, e8, Rel_i.mpr ⟨⟨N, E, Z, r, hN, rfl, rfl, hT, hr1, hr, hrm, hrm2, hE, hE2, hZ, hZ2, rfl, hk, hs⟩, rfl, hS⟩⟩
    · have e7 : fX7_write v1 v2 c_room c_told c_events c_finding c_courseKnown c_course c_sh0 c_sh1 c_sh2 c_sh3 = some (-2, c_finding, c_courseKnown, c_course, c_sh0, c_sh1, c_sh2, c_sh3) := by
        unfold fX7_write
        rw [ih_ten7 hT.2.1, bd1_eq, ite01, if_pos (show 0 ≤ v1 ∧ v1 < nI (tx_T m_bytes N).1 from c1), pz_within, bd1_eq, ite01, if_neg c2]
      have e8 : fX8_write v1 v2 (nI N) m_room m_events 0 m_forms m_sizes m_bytes m_event c_finding m_tenants m_sim m_items m_tenant = some (-2, c_finding, nI (tx_n m_bytes N), S', m_items, te') := by
        unfold fX8_write
        rw [ef, bd3_eq, mm_tenant hn8, bd1_eq, ite01, if_pos c1, ih_sheet8, bd1_eq, ite01, if_neg c2]
      exact ⟨_, _, _, _, _, _, _, _, _, _, _, _, _, e7, e8, Rel_i.mpr ⟨⟨N, E, Z, r, hN, rfl, rfl, hT, hr1, hr, hrm, hrm2, hE, hE2, hZ, hZ2, rfl, hk, hs⟩, rfl, hS⟩⟩
  · have e7 : fX7_write v1 v2 c_room c_told c_events c_finding c_courseKnown c_course c_sh0 c_sh1 c_sh2 c_sh3 = some (-2, c_finding, c_courseKnown, c_course, c_sh0, c_sh1, c_sh2, c_sh3) := by
      unfold fX7_write
      rw [ih_ten7 hT.2.1, bd1_eq, ite01, if_neg (show ¬ (0 ≤ v1 ∧ v1 < nI (tx_T m_bytes N).1) from c1)]
    have e8 : fX8_write v1 v2 (nI N) m_room m_events 0 m_forms m_sizes m_bytes m_event c_finding m_tenants m_sim m_items m_tenant = some (-2, c_finding, nI (tx_n m_bytes N), S', m_items, te') := by
      unfold fX8_write
      rw [ef, bd3_eq, mm_tenant hn8, bd1_eq, ite01, if_neg c1]
    exact ⟨_, _, _, _, _, _, _, _, _, _, _, _, _, e7, e8, Rel_i.mpr ⟨⟨N, E, Z, r, hN, rfl, rfl, hT, hr1, hr, hrm, hrm2, hE, hE2, hZ, hZ2, rfl, hk, hs⟩, rfl, hS⟩⟩
theorem rd_gen {cl : Nat → Int32 → Int32 → Int32 → jT3 → Int32 → Int32 → Option (Int32 × Int32 × Int32 × Int32 × jT3)} {items : Nat → Int32} {k s : Nat} {fi la : Int32} {fo sz it : Nat → Int32}
    (hcl : ∀ F fi ck sk ev x y, cl (F + 1) fi ck sk ev x y = if nI k ≤ (y + (2 : Int32)) then some (x, fi, ck, sk, ev) else rdA 60 items y (fun a => rdA 60 items (y + (1 : Int32)) (fun b => rdA 60 items (y + (2 : Int32)) (fun c => bd4 (fX7_event a b c ck sk ev) (fun r ck' sk' ev' => if (0 : Int32) ≤ r then nmV (x + (1 : Int32)) (fun x' => nmV (y + (3 : Int32)) (fun y' => cl F fi ck' sk' ev' x' y')) else some (x, fi, ck', sk', ev'))))))
    (hk : k ≤ 60) (hs : s < 4) (hsz : sz s = nI k) (hit : ∀ x, x < k → items x = it (60 * s + x)) :
    ∀ (j n F F2 : Nat) (ck sk en : Int32) (ev : jT3) (ev2 : Nat → Int32) (E : sT), k ≤ 3 * (n + j) → n ≤ 20 → j < F → j + 1 < F2 → InE3 E ev → ME E en ev2 → ∃ m ck' sk' ev' en' ev2' E', cl F fi ck sk ev (nI n) (nI (3 * n)) = some (nI m, fi, ck', sk', ev') ∧ fX8_read_29 (nI s) fo sz it F2 la en ev2 (nI n) 1 = some (nI m, la, en', ev2') ∧ InE3 E' ev' ∧ ME E' en' ev2' ∧ ((ck' = ck ∧ sk' = sk ∧ E' = E) ∨ (ck' = 0 ∧ sk' = 0)) := by
  intro j
  induction j with
  | zero =>
    intro n F F2 ck sk en ev ev2 E h1 h0 h2 h3 hE hE2
    obtain ⟨F', rfl⟩ : ∃ z, F = z + 1 := ⟨F - 1, by omega⟩
    obtain ⟨F2', rfl⟩ : ∃ z, F2 = z + 1 := ⟨F2 - 1, by omega⟩
    refine ⟨n, ck, sk, ev, en, ev2, E, ?_, ?_, hE, hE2, Or.inl ⟨rfl, rfl, rfl⟩⟩
    · rw [hcl, show nI (3 * n) + (2 : Int32) = nI (3 * n + 2) from nI_add _ 2, if_pos (nI_le (by omega) (by omega))]
    · unfold fX8_read_29
      rw [lp_s]
      unfold bX8_read_29
      rw [if_neg (show ¬ (1 : Int32) = 0 by decide), pz_rd hs (by omega), hsz, mm_3, show nI (3 * n) + (3 : Int32) = nI (3 * n + 3) from nI_add _ 3, if_pos (nI_lt (by omega) (by omega))]
  | succ j ih =>
    intro n F F2 ck sk en ev ev2 E h1 h0 h2 h3 hE hE2
    obtain ⟨F', rfl⟩ : ∃ z, F = z + 1 := ⟨F - 1, by omega⟩
    obtain ⟨F2', rfl⟩ : ∃ z, F2 = z + 1 + 1 := ⟨F2 - 2, by omega⟩
    have e0 : fX8_read_29 (nI s) fo sz it (F2' + 1 + 1) la en ev2 (nI n) 1 = bX8_read_29 (nI s) fo sz it (fX8_read_29 (nI s) fo sz it (F2' + 1)) la en ev2 (nI n) 1 := rfl
    rw [hcl, e0]
    unfold bX8_read_29
    simp only [fX8_read_94, fX8_read_105, pz_nm]
    rw [show nI (3 * n) + (2 : Int32) = nI (3 * n + 2) from nI_add _ 2, if_neg (show ¬ (1 : Int32) = 0 by decide), pz_rd hs (by omega), hsz, mm_3, show nI (3 * n) + (3 : Int32) = nI (3 * n + 3) from nI_add _ 3]
    by_cases c : 3 * n + 3 ≤ k
    · rw [if_neg (nI_ge (by omega) (by omega)), if_neg (nI_nlt (by omega) (by omega)), show nI (3 * n) + (1 : Int32) = nI (3 * n + 1) from pz_1 _, pz_rd (by omega) (by omega), pz_rd (by omega) (by omega), pz_rd (by omega) (by omega), f60, show nI (60 * s + 3 * n) + (1 : Int32) = nI (60 * s + (3 * n + 1)) from pz_1 _, show nI (60 * s + 3 * n) + (2 : Int32) = nI (60 * s + (3 * n + 2)) from nI_add _ 2, pz_rd (by omega) (by omega), pz_rd (by omega) (by omega), pz_rd (by omega) (by omega), hit _ (by omega), hit _ (by omega), hit _ (by omega), show nI n + (1 : Int32) = nI (n + 1) from pz_1 n]
      obtain ⟨v, ck', sk', ev', en', ev2', E', e7, e8, hA, hB, q⟩ := ev_both (ck := ck) (sk := sk) hE hE2 (it (60 * s + 3 * n)) (it (60 * s + (3 * n + 1))) (it (60 * s + (3 * n + 2)))
      rw [e7, bd4_eq, e8, bd3_eq]
      rcases q with ⟨q0, q1, q2, q3⟩ | ⟨q0, q1, q2⟩
      · rw [if_neg (fa_of_lt q0).2.1, if_pos q0, if_pos trivial, Int32.add_zero]
        refine ⟨n, ck', sk', ev', en', ev2', E', rfl, ?_, hA, hB, Or.inl ⟨q1, q2, q3⟩⟩
        unfold fX8_read_29
        rw [lp_s]
        unfold bX8_read_29
        rw [if_pos rfl]
      · rw [if_pos q0, if_neg (fun z => (fa_of_lt z).2.1 q0), if_neg (show ¬ (1 : Int32) = 0 by decide)]
        obtain ⟨m, ck2, sk2, ev3, en3, ev4, E3, f7, f8, gA, gB, gq⟩ := ih (n + 1) F' (F2' + 1) ck' sk' en' ev' ev2' E' (by omega) (by omega) (by omega) (by omega) hA hB
        refine ⟨m, ck2, sk2, ev3, en3, ev4, E3, f7, f8, gA, gB, Or.inr ?_⟩
        rcases gq with ⟨w1, w2, w3⟩ | w
        · exact ⟨w1.trans q1, w2.trans q2⟩
        · exact w
    · rw [if_pos (nI_le (by omega) (by omega)), if_pos (nI_lt (by omega) (by omega))]
      exact ⟨n, ck, sk, ev, en, ev2, E, rfl, rfl, hE, hE2, Or.inl ⟨rfl, rfl, rfl⟩⟩
theorem c7_rd {s k : Nat} {fi la ck sk en : Int32} {ev : jT3} {ev2 fo sz it : Nat → Int32} {E : sT} {a b c d : jS4} (hs : s < 4) (hk : k ≤ 60) (h1 : (shG a b c d s).2.2.1 = 0) (h2 : (shG a b c d s).2.1 = nI k) (hsz : sz s = nI k) (hit : ∀ x, x < k → (shG a b c d s).2.2.2 x = it (60 * s + x)) (hE : InE3 E ev) (hE2 : ME E en ev2) : ∃ m ck' sk' ev' en' ev2' E', fX7_read (nI s) a.2.1 a.2.2.1 a.2.2.2 b.2.1 b.2.2.1 b.2.2.2 c.2.1 c.2.2.1 c.2.2.2 d.2.1 d.2.2.1 d.2.2.2 fi ck sk ev = some (nI m, fi, ck', sk', ev') ∧ fX8_read_29 (nI s) fo sz it jF la en ev2 0 1 = some (nI m, la, en', ev2') ∧ InE3 E' ev' ∧ ME E' en' ev2' ∧ ((ck' = ck ∧ sk' = sk ∧ E' = E) ∨ (ck' = 0 ∧ sk' = 0)) := by
  have c2 : (0 : Int32) ≤ nI s ∧ nI s ≤ 3 := ⟨nI_pos' (by omega), nI_le (b := 3) (by omega) (by omega)⟩
  unfold fX7_read
  rw [pz_within, bd1_eq, ite01, if_pos c2]
  match s, hs with
  | 0, _ =>
    have h1' : a.2.2.1 = 0 := h1
    have h2' : a.2.1 = nI k := h2
    have hit' : ∀ y, y < k → a.2.2.2 y = it (60 * 0 + y) := hit
    unfold sw4
    rw [if_pos (show nI 0 = (0 : Int32) from rfl), if_pos h1', h2']
    exact rd_gen (cl := fX7_read_45 (nI 0) (nI k) a.2.2.1 a.2.2.2 b.2.1 b.2.2.1 b.2.2.2 c.2.1 c.2.2.1 c.2.2.2 d.2.1 d.2.2.1 d.2.2.2) (fun F fi ck sk ev x y => rfl) hk (by omega) hsz hit' 20 0 jF jF ck sk en ev ev2 E (by omega) (by omega) (pz_jF (by omega)) (pz_jF (by omega)) hE hE2
  | 1, _ =>
    have h1' : b.2.2.1 = 0 := h1
    have h2' : b.2.1 = nI k := h2
    have hit' : ∀ y, y < k → b.2.2.2 y = it (60 * 1 + y) := hit
    unfold sw4
    rw [if_neg (by decide), if_pos (show nI 1 = (1 : Int32) from rfl), if_pos h1', h2']
    exact rd_gen (cl := fX7_read_45_v1 (nI 1) a.2.1 a.2.2.1 a.2.2.2 (nI k) b.2.2.1 b.2.2.2 c.2.1 c.2.2.1 c.2.2.2 d.2.1 d.2.2.1 d.2.2.2) (fun F fi ck sk ev x y => rfl) hk (by omega) hsz hit' 20 0 jF jF ck sk en ev ev2 E (by omega) (by omega) (pz_jF (by omega)) (pz_jF (by omega)) hE hE2
  | 2, _ =>
    have h1' : c.2.2.1 = 0 := h1
    have h2' : c.2.1 = nI k := h2
    have hit' : ∀ y, y < k → c.2.2.2 y = it (60 * 2 + y) := hit
    unfold sw4
    rw [if_neg (by decide), if_neg (by decide), if_pos (show nI 2 = (2 : Int32) from rfl), if_pos h1', h2']
    exact rd_gen (cl := fX7_read_45_v2 (nI 2) a.2.1 a.2.2.1 a.2.2.2 b.2.1 b.2.2.1 b.2.2.2 (nI k) c.2.2.1 c.2.2.2 d.2.1 d.2.2.1 d.2.2.2) (fun F fi ck sk ev x y => rfl) hk (by omega) hsz hit' 20 0 jF jF ck sk en ev ev2 E (by omega) (by omega) (pz_jF (by omega)) (pz_jF (by omega)) hE hE2
  | 3, _ =>
    have h1' : d.2.2.1 = 0 := h1
    have h2' : d.2.1 = nI k := h2
    have hit' : ∀ y, y < k → d.2.2.2 y = it (60 * 3 + y) := hit
    unfold sw4
    rw [if_neg (by decide), if_neg (by decide), if_neg (by decide), if_pos (show nI 3 = (3 : Int32) from rfl), if_pos h1', h2']
    exact rd_gen (cl := fX7_read_45_v3 (nI 3) a.2.1 a.2.2.1 a.2.2.2 b.2.1 b.2.2.1 b.2.2.2 c.2.1 c.2.2.1 c.2.2.2 (nI k) d.2.2.1 d.2.2.2) (fun F fi ck sk ev x y => rfl) hk (by omega) hsz hit' 20 0 jF jF ck sk en ev ev2 E (by omega) (by omega) (pz_jF (by omega)) (pz_jF (by omega)) hE hE2
theorem c7_rdL {s : Nat} {fi ck sk : Int32} {ev : jT3} {a b c d : jS4} (hs : s < 4) (h1 : ¬ (shG a b c d s).2.2.1 = 0) : fX7_read (nI s) a.2.1 a.2.2.1 a.2.2.2 b.2.1 b.2.2.1 b.2.2.2 c.2.1 c.2.2.1 c.2.2.2 d.2.1 d.2.2.1 d.2.2.2 fi ck sk ev = some (-10 - 1, 1, ck, sk, ev) := by
  have c2 : (0 : Int32) ≤ nI s ∧ nI s ≤ 3 := ⟨nI_pos' (by omega), nI_le (b := 3) (by omega) (by omega)⟩
  unfold fX7_read fX7_found
  rw [pz_within, bd1_eq, ite01, if_pos c2]
  match s, hs with
  | 0, _ =>
    have h1' : ¬ a.2.2.1 = 0 := h1
    unfold sw4
    rw [if_pos (show nI 0 = (0 : Int32) from rfl), if_neg h1', bd2_eq]
  | 1, _ =>
    have h1' : ¬ b.2.2.1 = 0 := h1
    unfold sw4
    rw [if_neg (by decide), if_pos (show nI 1 = (1 : Int32) from rfl), if_neg h1', bd2_eq]
  | 2, _ =>
    have h1' : ¬ c.2.2.1 = 0 := h1
    unfold sw4
    rw [if_neg (by decide), if_neg (by decide), if_pos (show nI 2 = (2 : Int32) from rfl), if_neg h1', bd2_eq]
  | 3, _ =>
    have h1' : ¬ d.2.2.1 = 0 := h1
    unfold sw4
    rw [if_neg (by decide), if_neg (by decide), if_neg (by decide), if_pos (show nI 3 = (3 : Int32) from rfl), if_neg h1', bd2_eq]
theorem rl_read (v1 : Int32) {c_room : Int32} {c_finding : Int32} {c_courseKnown : Int32} {c_settledByKnown : Int32} {c_text : jT1} {c_told : jT3} {c_others : jT3} {c_events : jT3} {c_seen : jT3} {c_course : jT11} {c_trial : jT11} {c_best : jB3} {c_sh0 : jS4} {c_sh1 : jS4} {c_sh2 : jS4} {c_sh3 : jS4} {c_settledBy : Nat → Int32} {c_views : Nat → Int32} {m_latest : Int32} {m_typed : Int32} {m_tenants : Int32} {m_room : Int32} {m_events : Int32} {m_gone : Int32} {m_sim : jT11} {m_sights : Int32} {m_drawn : Int32} {m_forms : Nat → Int32} {m_sizes : Nat → Int32} {m_items : Nat → Int32} {m_moved : Nat → Int32} {m_bytes : Nat → Int32} {m_tenant : Nat → Int32} {m_event : Nat → Int32} {m_sight : Nat → Int32} {m_rows : Nat → Int64} (h : Rel (c_room, c_finding, c_courseKnown, c_settledByKnown, c_text, c_told, c_others, c_events, c_seen, c_course, c_trial, c_best, c_sh0, c_sh1, c_sh2, c_sh3, c_settledBy, c_views) (m_latest, m_typed, m_tenants, m_room, m_events, m_gone, m_sim, m_sights, m_drawn, m_forms, m_sizes, m_items, m_moved, m_bytes, m_tenant, m_event, m_sight, m_rows)) : ∃ (r : Int32) (o_finding : Int32) (o_courseKnown : Int32) (o_settledByKnown : Int32) (o_events : jT3) (p_latest : Int32) (p_events : Int32) (p_event : Nat → Int32), fX7_read v1 c_sh0.2.1 c_sh0.2.2.1 c_sh0.2.2.2 c_sh1.2.1 c_sh1.2.2.1 c_sh1.2.2.2 c_sh2.2.1 c_sh2.2.2.1 c_sh2.2.2.2 c_sh3.2.1 c_sh3.2.2.1 c_sh3.2.2.2 c_finding c_courseKnown c_settledByKnown c_events = some (r, o_finding, o_courseKnown, o_settledByKnown, o_events) ∧ fX8_read v1 m_forms m_sizes m_items m_latest m_events m_event = some (r, p_latest, p_events, p_event) ∧ Rel (c_room, o_finding, o_courseKnown, o_settledByKnown, c_text, c_told, c_others, o_events, c_seen, c_course, c_trial, c_best, c_sh0, c_sh1, c_sh2, c_sh3, c_settledBy, c_views) (p_latest, m_typed, m_tenants, m_room, p_events, m_gone, m_sim, m_sights, m_drawn, m_forms, m_sizes, m_items, m_moved, m_bytes, m_tenant, p_event, m_sight, m_rows) := by
  obtain ⟨⟨N, E, Z, r, hN, htx, hty, hT, hr1, hr, hrm, hrm2, hE, hE2, hZ, hZ2, hg, hk, hs⟩, hf, hS⟩ := Rel_i.mp h
  subst htx
  subst hty
  subst hg
  subst hf
  by_cases c2 : 0 ≤ v1 ∧ v1 ≤ 3
  · obtain ⟨s, hs3, e⟩ := vin (n := 3) (by omega) c2
    subst e
    have hs4 : s < 4 := by omega
    rcases hS s hs4 with ⟨a1, a2, a3, k, a4, a5, a6, a7⟩ | ⟨a1, a2⟩
    · obtain ⟨m, ck', sk', ev', en', ev2', E', e7, e80, hA, hB, q⟩ := c7_rd (fi := c_finding) (la := c_finding) (ck := c_courseKnown) (sk := c_settledByKnown) (fo := m_forms) hs4 a4 a1 a5 a6 a7 hE hE2
      have e8 : fX8_read (nI s) m_forms m_sizes m_items c_finding m_events m_event = some (nI m, c_finding, en', ev2') := by
        unfold fX8_read
        rw [ih_sheet8, bd1_eq, ite01, if_pos c2, pz_rd hs4 (by omega), a3, if_pos (neg3 a2), e80]
      refine ⟨_, _, _, _, _, _, _, _, e7, e8, Rel_i.mpr ⟨⟨N, E', Z, r, hN, rfl, rfl, hT, hr1, hr, hrm, hrm2, hA, hB, hZ, hZ2, rfl, ?_, ?_⟩, rfl, hS⟩⟩
      · rcases q with ⟨q1, q2, q3⟩ | ⟨q1, q2⟩
        · subst q1; subst q3; exact hk
        · exact Or.inl q1
      · rcases q with ⟨q1, q2, q3⟩ | ⟨q1, q2⟩
        · subst q2; subst q3; exact hs
        · exact Or.inl q2
    · have e7 := c7_rdL (fi := c_finding) (ck := c_courseKnown) (sk := c_settledByKnown) (ev := c_events) hs4 a1
      have e8 : fX8_read (nI s) m_forms m_sizes m_items c_finding m_events m_event = some (-10 - 1, 1, m_events, m_event) := by
        unfold fX8_read fX8_finds
        rw [ih_sheet8, bd1_eq, ite01, if_pos c2, pz_rd hs4 (by omega), a2, if_neg (show ¬ (0 : Int32) ≤ -1 by decide), bd2_eq]
      exact ⟨_, _, _, _, _, _, _, _, e7, e8, Rel_i.mpr ⟨⟨N, E, Z, r, hN, rfl, rfl, hT, hr1, hr, hrm, hrm2, hE, hE2, hZ, hZ2, rfl, hk, hs⟩, rfl, hS⟩⟩
  · have e7 : fX7_read v1 c_sh0.2.1 c_sh0.2.2.1 c_sh0.2.2.2 c_sh1.2.1 c_sh1.2.2.1 c_sh1.2.2.2 c_sh2.2.1 c_sh2.2.2.1 c_sh2.2.2.2 c_sh3.2.1 c_sh3.2.2.1 c_sh3.2.2.2 c_finding c_courseKnown c_settledByKnown c_events = some (-2, c_finding, c_courseKnown, c_settledByKnown, c_events) := by
      unfold fX7_read
      rw [pz_within, bd1_eq, ite01, if_neg c2]
    have e8 : fX8_read v1 m_forms m_sizes m_items c_finding m_events m_event = some (-2, c_finding, m_events, m_event) := by
      unfold fX8_read
      rw [ih_sheet8, bd1_eq, ite01, if_neg c2]
    exact ⟨_, _, _, _, _, _, _, _, e7, e8, Rel_i.mpr ⟨⟨N, E, Z, r, hN, rfl, rfl, hT, hr1, hr, hrm, hrm2, hE, hE2, hZ, hZ2, rfl, hk, hs⟩, rfl, hS⟩⟩
