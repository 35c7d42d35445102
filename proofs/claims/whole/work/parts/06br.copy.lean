theorem cm_span {k : Nat} (hk : k ≤ 60) (a n : Int32) : fX4_hasSpan a n (nI k) = some (if 0 ≤ a ∧ 0 ≤ n ∧ a.toInt + n.toInt ≤ k then 1 else 0) := by
  have e0 : (0 : Int32).toInt = 0 := by decide
  have ek : (nI k).toInt = (k : Int) := nI_toInt (by omega)
  unfold fX4_hasSpan
  by_cases c1 : a < 0
  · rw [if_pos c1, if_neg (fun q => (fa_of_lt c1).2.1 q.1)]
  · rw [if_neg c1]
    by_cases c2 : n < 0
    · rw [if_pos c2, if_neg (fun q => (fa_of_lt c2).2.1 q.2.1)]
    · rw [if_neg c2]
      have h1 := fa_of_nlt c1
      have h2 := fa_of_nlt c2
      have h1' := h1
      have h2' := h2
      rw [fa_le, e0] at h1' h2'
      by_cases c3 : nI k < a
      · rw [if_pos c3]
        rw [fa_lt, ek] at c3
        rw [if_neg (fun q => by have := q.2.2; omega)]
      · rw [if_neg c3]
        have c3' := fa_of_nlt c3
        rw [fa_le, ek] at c3'
        have es : (nI k - a).toInt = (nI k).toInt - a.toInt := fb_subI (by rw [ek]; omega) (by rw [ek]; omega)
        by_cases c4 : nI k - a < n
        · rw [if_pos c4]
          rw [fa_lt, es, ek] at c4
          rw [if_neg (fun q => by have := q.2.2; omega)]
        · rw [if_neg c4]
          have c4' := fa_of_nlt c4
          rw [fa_le, es, ek] at c4'
          rw [if_pos ⟨h1, h2, by omega⟩]
theorem mm_span {k : Nat} (hk : k ≤ 60) (a n : Int32) : (0 < lg_cmp (Int32.toInt64 a + Int32.toInt64 n) (Int32.toInt64 (nI k))) ↔ ¬ (a.toInt + n.toInt ≤ k) := by
  have ha := fb_rng a
  have hn := fb_rng n
  have ea : (Int32.toInt64 a).toInt = a.toInt := Int32.toInt_toInt64 a
  have en : (Int32.toInt64 n).toInt = n.toInt := Int32.toInt_toInt64 n
  have ek : (Int32.toInt64 (nI k)).toInt = (k : Int) := by rw [Int32.toInt_toInt64, nI_toInt (by omega)]
  have es : (Int32.toInt64 a + Int32.toInt64 n).toInt = (Int32.toInt64 a).toInt + (Int32.toInt64 n).toInt := fb_addL (by rw [ea, en]; omega) (by rw [ea, en]; omega)
  rw [lg_cmp_gt, fa_lt64, es, ea, en, ek]
  omega
theorem mm_cp157 {s i t j n : Nat} {la : Int32} {fo sz it mo : Nat → Int32} (ht : t < 4) (hj : j + n ≤ 60) : fX8_copy_157 (nI s) (nI i) (nI t) (nI j) (nI n) fo sz jF la it mo 0 = some (1, la, fb_put it mo (60 * t + j) n, mo) := by
  have s0 : fX8_copy_157 (nI s) (nI i) (nI t) (nI j) (nI n) fo sz jF la it mo 0 = fX8_copy_157 (nI s) (nI i) (nI t) (nI j) (nI n) fo sz jF la (fb_put it mo (60 * t + j) 0) mo (nI 0) := by rw [fb_put_0]; rfl
  rw [s0]
  refine pz_up (fun F a => fX8_copy_157 (nI s) (nI i) (nI t) (nI j) (nI n) fo sz F la (fb_put it mo (60 * t + j) a) mo (nI a)) n _ (fun F a ha => ?_) (fun F => ?_) n 0 jF (by omega) (pz_jF (by omega))
  · show bX8_copy_157 (nI s) (nI i) (nI t) (nI j) (nI n) fo sz (fX8_copy_157 (nI s) (nI i) (nI t) (nI j) (nI n) fo sz F) _ _ _ _ = _
    unfold bX8_copy_157
    rw [if_neg (nI_ge ha (by omega)), pz_rd (by omega) (by omega), f60, nI_add, pz_wr (by omega) (by omega), fb_put_succ, pz_nm, pz_1]
  · unfold fX8_copy_157
    rw [lp_s]
    unfold bX8_copy_157
    rw [if_pos (nI_le (Nat.le_refl _) (by omega))]
theorem mm_cp120 {s i t j n : Nat} {la : Int32} {fo sz it mo : Nat → Int32} (hs : s < 4) (ht : t < 4) (hi : i + n ≤ 60) (hj : j + n ≤ 60) : fX8_copy_120 (nI s) (nI i) (nI t) (nI j) (nI n) fo sz jF la it mo 0 = some (1, la, fb_put it (fa_fill (fun x => it (60 * s + i + x)) mo n) (60 * t + j) n, fa_fill (fun x => it (60 * s + i + x)) mo n) := by
  rw [← mm_cp157 (s := s) (i := i) (fo := fo) (sz := sz) ht hj]
  have s0 : fX8_copy_120 (nI s) (nI i) (nI t) (nI j) (nI n) fo sz jF la it mo 0 = fX8_copy_120 (nI s) (nI i) (nI t) (nI j) (nI n) fo sz jF la it (fa_fill (fun x => it (60 * s + i + x)) mo 0) (nI 0) := by rw [fa_fill_0]; rfl
  rw [s0]
  refine pz_up (fun F a => fX8_copy_120 (nI s) (nI i) (nI t) (nI j) (nI n) fo sz F la it (fa_fill (fun x => it (60 * s + i + x)) mo a) (nI a)) n _ (fun F a ha => ?_) (fun F => ?_) n 0 jF (by omega) (pz_jF (by omega))
  · show bX8_copy_120 (nI s) (nI i) (nI t) (nI j) (nI n) fo sz (fX8_copy_120 (nI s) (nI i) (nI t) (nI j) (nI n) fo sz F) _ _ _ _ = _
    unfold bX8_copy_120
    rw [if_neg (nI_ge ha (by omega)), f60, nI_add, pz_rd (by omega) (by omega), pz_wr (by omega) (by omega), show upd (fa_fill (fun x => it (60 * s + i + x)) mo a) a (it (60 * s + i + a)) = fa_fill (fun x => it (60 * s + i + x)) mo (a + 1) from fa_fill_succ (fun x => it (60 * s + i + x)) mo a, pz_nm, pz_1]
  · unfold fX8_copy_120
    rw [lp_s]
    unfold bX8_copy_120
    rw [if_pos (nI_le (Nat.le_refl _) (by omega))]
theorem rl_copy (v1 : Int32) (v2 : Int32) (v3 : Int32) (v4 : Int32) (v5 : Int32) {c_room : Int32} {c_finding : Int32} {c_courseKnown : Int32} {c_settledByKnown : Int32} {c_text : jT1} {c_told : jT3} {c_others : jT3} {c_events : jT3} {c_seen : jT3} {c_course : jT11} {c_trial : jT11} {c_best : jB3} {c_sh0 : jS4} {c_sh1 : jS4} {c_sh2 : jS4} {c_sh3 : jS4} {c_settledBy : Nat → Int32} {c_views : Nat → Int32} {m_latest : Int32} {m_typed : Int32} {m_tenants : Int32} {m_room : Int32} {m_events : Int32} {m_gone : Int32} {m_sim : jT11} {m_sights : Int32} {m_drawn : Int32} {m_forms : Nat → Int32} {m_sizes : Nat → Int32} {m_items : Nat → Int32} {m_moved : Nat → Int32} {m_bytes : Nat → Int32} {m_tenant : Nat → Int32} {m_event : Nat → Int32} {m_sight : Nat → Int32} {m_rows : Nat → Int64} (h : Rel (c_room, c_finding, c_courseKnown, c_settledByKnown, c_text, c_told, c_others, c_events, c_seen, c_course, c_trial, c_best, c_sh0, c_sh1, c_sh2, c_sh3, c_settledBy, c_views) (m_latest, m_typed, m_tenants, m_room, m_events, m_gone, m_sim, m_sights, m_drawn, m_forms, m_sizes, m_items, m_moved, m_bytes, m_tenant, m_event, m_sight, m_rows)) : ∃ (r : Int32) (o_finding : Int32) (o_sh0 : jS4) (o_sh1 : jS4) (o_sh2 : jS4) (o_sh3 : jS4) (p_latest : Int32) (p_items : Nat → Int32) (p_moved : Nat → Int32), fX7_copy v1 v2 v3 v4 v5 c_finding c_sh0 c_sh1 c_sh2 c_sh3 = some (r, o_finding, o_sh0, o_sh1, o_sh2, o_sh3) ∧ fX8_copy v1 v2 v3 v4 v5 m_forms m_sizes m_latest m_items m_moved = some (r, p_latest, p_items, p_moved) ∧ Rel (c_room, o_finding, c_courseKnown, c_settledByKnown, c_text, c_told, c_others, c_events, c_seen, c_course, c_trial, c_best, o_sh0, o_sh1, o_sh2, o_sh3, c_settledBy, c_views) (p_latest, m_typed, m_tenants, m_room, m_events, m_gone, m_sim, m_sights, m_drawn, m_forms, m_sizes, p_items, p_moved, m_bytes, m_tenant, m_event, m_sight, m_rows) := by
  obtain ⟨⟨N, E, Z, r, hN, htx, hty, hT, hr1, hr, hrm, hrm2, hE, hE2, hZ, hZ2, hg, hk, hs⟩, hf, hS⟩ := Rel_i.mp h
  subst htx
  subst hty
  subst hg
  subst hf
  by_cases c1 : 0 ≤ v1 ∧ v1 ≤ 3
  · by_cases c2 : 0 ≤ v3 ∧ v3 ≤ 3
    · obtain ⟨s, hs3, e⟩ := vin (n := 3) (by omega) c1
      subst e
      obtain ⟨t, ht3, e⟩ := vin (n := 3) (by omega) c2
      subst e
      have hs4 : s < 4 := by omega
      have ht4 : t < 4 := by omega
      have e70 : fX7_copy (nI s) v2 (nI t) v4 v5 c_finding c_sh0 c_sh1 c_sh2 c_sh3 = if (shG c_sh0 c_sh1 c_sh2 c_sh3 s).2.2.1 = 0 then (if (shG c_sh0 c_sh1 c_sh2 c_sh3 t).2.2.1 = 0 then (if (shG c_sh0 c_sh1 c_sh2 c_sh3 s).1 = (shG c_sh0 c_sh1 c_sh2 c_sh3 t).1 then bd1 (fX4_hasSpan v2 v5 (shG c_sh0 c_sh1 c_sh2 c_sh3 s).2.1) (fun r5 => if r5 = 0 then bd2 (fX7_found (2 : Int32) c_finding) (fun r f => some (r, f, c_sh0, c_sh1, c_sh2, c_sh3)) else bd1 (fX4_hasSpan v4 v5 (shG c_sh0 c_sh1 c_sh2 c_sh3 t).2.1) (fun r8 => if r8 = 0 then bd2 (fX7_found (2 : Int32) c_finding) (fun r f => some (r, f, c_sh0, c_sh1, c_sh2, c_sh3)) else cpI 60 60 (shG c_sh0 c_sh1 c_sh2 c_sh3 s).2.2.2 (shG c_sh0 c_sh1 c_sh2 c_sh3 t).2.2.2 v2 v4 v5 (fun it => some ((1 : Int32), c_finding, shU c_sh0 c_sh1 c_sh2 c_sh3 t ((shG c_sh0 c_sh1 c_sh2 c_sh3 t).1, (shG c_sh0 c_sh1 c_sh2 c_sh3 t).2.1, (shG c_sh0 c_sh1 c_sh2 c_sh3 t).2.2.1, it) 0, shU c_sh0 c_sh1 c_sh2 c_sh3 t ((shG c_sh0 c_sh1 c_sh2 c_sh3 t).1, (shG c_sh0 c_sh1 c_sh2 c_sh3 t).2.1, (shG c_sh0 c_sh1 c_sh2 c_sh3 t).2.2.1, it) 1, shU c_sh0 c_sh1 c_sh2 c_sh3 t ((shG c_sh0 c_sh1 c_sh2 c_sh3 t).1, (shG c_sh0 c_sh1 c_sh2 c_sh3 t).2.1, (shG c_sh0 c_sh1 c_sh2 c_sh3 t).2.2.1, it) 2, shU c_sh0 c_sh1 c_sh2 c_sh3 t ((shG c_sh0 c_sh1 c_sh2 c_sh3 t).1, (shG c_sh0 c_sh1 c_sh2 c_sh3 t).2.1, (shG c_sh0 c_sh1 c_sh2 c_sh3 t).2.2.1, it) 3)))) else bd2 (fX7_found (4 : Int32) c_finding) (fun r f => some (r, f, c_sh0, c_sh1, c_sh2, c_sh3))) else bd2 (fX7_found (1 : Int32) c_finding) (fun r f => some (r, f, c_sh0, c_sh1, c_sh2, c_sh3))) else bd2 (fX7_found (1 : Int32) c_finding) (fun r f => some (r, f, c_sh0, c_sh1, c_sh2, c_sh3)) := by
        unfold fX7_copy
        rw [pz_within, bd1_eq, ite01, if_pos c1, pz_within, bd1_eq, ite01, if_pos c2]
        refine Eq.trans (sw4_i (fun i => sw4 (nI t) (if (shG c_sh0 c_sh1 c_sh2 c_sh3 i).2.2.1 = 0 then (if (shG c_sh0 c_sh1 c_sh2 c_sh3 0).2.2.1 = 0 then (if (shG c_sh0 c_sh1 c_sh2 c_sh3 i).1 = (shG c_sh0 c_sh1 c_sh2 c_sh3 0).1 then bd1 (fX4_hasSpan v2 v5 (shG c_sh0 c_sh1 c_sh2 c_sh3 i).2.1) (fun r5 => if r5 = 0 then bd2 (fX7_found (2 : Int32) c_finding) (fun r f => some (r, f, c_sh0, c_sh1, c_sh2, c_sh3)) else bd1 (fX4_hasSpan v4 v5 (shG c_sh0 c_sh1 c_sh2 c_sh3 0).2.1) (fun r8 => if r8 = 0 then bd2 (fX7_found (2 : Int32) c_finding) (fun r f => some (r, f, c_sh0, c_sh1, c_sh2, c_sh3)) else cpI 60 60 (shG c_sh0 c_sh1 c_sh2 c_sh3 i).2.2.2 (shG c_sh0 c_sh1 c_sh2 c_sh3 0).2.2.2 v2 v4 v5 (fun it => some ((1 : Int32), c_finding, shU c_sh0 c_sh1 c_sh2 c_sh3 0 ((shG c_sh0 c_sh1 c_sh2 c_sh3 0).1, (shG c_sh0 c_sh1 c_sh2 c_sh3 0).2.1, (shG c_sh0 c_sh1 c_sh2 c_sh3 0).2.2.1, it) 0, shU c_sh0 c_sh1 c_sh2 c_sh3 0 ((shG c_sh0 c_sh1 c_sh2 c_sh3 0).1, (shG c_sh0 c_sh1 c_sh2 c_sh3 0).2.1, (shG c_sh0 c_sh1 c_sh2 c_sh3 0).2.2.1, it) 1, shU c_sh0 c_sh1 c_sh2 c_sh3 0 ((shG c_sh0 c_sh1 c_sh2 c_sh3 0).1, (shG c_sh0 c_sh1 c_sh2 c_sh3 0).2.1, (shG c_sh0 c_sh1 c_sh2 c_sh3 0).2.2.1, it) 2, shU c_sh0 c_sh1 c_sh2 c_sh3 0 ((shG c_sh0 c_sh1 c_sh2 c_sh3 0).1, (shG c_sh0 c_sh1 c_sh2 c_sh3 0).2.1, (shG c_sh0 c_sh1 c_sh2 c_sh3 0).2.2.1, it) 3)))) else bd2 (fX7_found (4 : Int32) c_finding) (fun r f => some (r, f, c_sh0, c_sh1, c_sh2, c_sh3))) else bd2 (fX7_found (1 : Int32) c_finding) (fun r f => some (r, f, c_sh0, c_sh1, c_sh2, c_sh3))) else bd2 (fX7_found (1 : Int32) c_finding) (fun r f => some (r, f, c_sh0, c_sh1, c_sh2, c_sh3))) (if (shG c_sh0 c_sh1 c_sh2 c_sh3 i).2.2.1 = 0 then (if (shG c_sh0 c_sh1 c_sh2 c_sh3 1).2.2.1 = 0 then (if (shG c_sh0 c_sh1 c_sh2 c_sh3 i).1 = (shG c_sh0 c_sh1 c_sh2 c_sh3 1).1 then bd1 (fX4_hasSpan v2 v5 (shG c_sh0 c_sh1 c_sh2 c_sh3 i).2.1) (fun r5 => if r5 = 0 then bd2 (fX7_found (2 : Int32) c_finding) (fun r f => some (r, f, c_sh0, c_sh1, c_sh2, c_sh3)) else bd1 (fX4_hasSpan v4 v5 (shG c_sh0 c_sh1 c_sh2 c_sh3 1).2.1) (fun r8 => if r8 = 0 then bd2 (fX7_found (2 : Int32) c_finding) (fun r f => some (r, f, c_sh0, c_sh1, c_sh2, c_sh3)) else cpI 60 60 (shG c_sh0 c_sh1 c_sh2 c_sh3 i).2.2.2 (shG c_sh0 c_sh1 c_sh2 c_sh3 1).2.2.2 v2 v4 v5 (fun it => some ((1 : Int32), c_finding, shU c_sh0 c_sh1 c_sh2 c_sh3 1 ((shG c_sh0 c_sh1 c_sh2 c_sh3 1).1, (shG c_sh0 c_sh1 c_sh2 c_sh3 1).2.1, (shG c_sh0 c_sh1 c_sh2 c_sh3 1).2.2.1, it) 0, shU c_sh0 c_sh1 c_sh2 c_sh3 1 ((shG c_sh0 c_sh1 c_sh2 c_sh3 1).1, (shG c_sh0 c_sh1 c_sh2 c_sh3 1).2.1, (shG c_sh0 c_sh1 c_sh2 c_sh3 1).2.2.1, it) 1, shU c_sh0 c_sh1 c_sh2 c_sh3 1 ((shG c_sh0 c_sh1 c_sh2 c_sh3 1).1, (shG c_sh0 c_sh1 c_sh2 c_sh3 1).2.1, (shG c_sh0 c_sh1 c_sh2 c_sh3 1).2.2.1, it) 2, shU c_sh0 c_sh1 c_sh2 c_sh3 1 ((shG c_sh0 c_sh1 c_sh2 c_sh3 1).1, (shG c_sh0 c_sh1 c_sh2 c_sh3 1).2.1, (shG c_sh0 c_sh1 c_sh2 c_sh3 1).2.2.1, it) 3)))) else bd2 (fX7_found (4 : Int32) c_finding) (fun r f => some (r, f, c_sh0, c_sh1, c_sh2, c_sh3))) else bd2 (fX7_found (1 : Int32) c_finding) (fun r f => some (r, f, c_sh0, c_sh1, c_sh2, c_sh3))) else bd2 (fX7_found (1 : Int32) c_finding) (fun r f => some (r, f, c_sh0, c_sh1, c_sh2, c_sh3))) (if (shG c_sh0 c_sh1 c_sh2 c_sh3 i).2.2.1 = 0 then (if (shG c_sh0 c_sh1 c_sh2 c_sh3 2).2.2.1 = 0 then (if (shG c_sh0 c_sh1 c_sh2 c_sh3 i).1 = (shG c_sh0 c_sh1 c_sh2 c_sh3 2).1 then bd1 (fX4_hasSpan v2 v5 (shG c_sh0 c_sh1 c_sh2 c_sh3 i).2.1) (fun r5 => if r5 = 0 then bd2 (fX7_found (2 : Int32) c_finding) (fun r f => some (r, f, c_sh0, c_sh1, c_sh2, c_sh3)) else bd1 (fX4_hasSpan v4 v5 (shG c_sh0 c_sh1 c_sh2 c_sh3 2).2.1) (fun r8 => if r8 = 0 then bd2 (fX7_found (2 : Int32) c_finding) (fun r f => some (r, f, c_sh0, c_sh1, c_sh2, c_sh3)) else cpI 60 60 (shG c_sh0 c_sh1 c_sh2 c_sh3 i).2.2.2 (shG c_sh0 c_sh1 c_sh2 c_sh3 2).2.2.2 v2 v4 v5 (fun it => some ((1 : Int32), c_finding, shU c_sh0 c_sh1 c_sh2 c_sh3 2 ((shG c_sh0 c_sh1 c_sh2 c_sh3 2).1, (shG c_sh0 c_sh1 c_sh2 c_sh3 2).2.1, (shG c_sh0 c_sh1 c_sh2 c_sh3 2).2.2.1, it) 0, shU c_sh0 c_sh1 c_sh2 c_sh3 2 ((shG c_sh0 c_sh1 c_sh2 c_sh3 2).1, (shG c_sh0 c_sh1 c_sh2 c_sh3 2).2.1, (shG c_sh0 c_sh1 c_sh2 c_sh3 2).2.2.1, it) 1, shU c_sh0 c_sh1 c_sh2 c_sh3 2 ((shG c_sh0 c_sh1 c_sh2 c_sh3 2).1, (shG c_sh0 c_sh1 c_sh2 c_sh3 2).2.1, (shG c_sh0 c_sh1 c_sh2 c_sh3 2).2.2.1, it) 2, shU c_sh0 c_sh1 c_sh2 c_sh3 2 ((shG c_sh0 c_sh1 c_sh2 c_sh3 2).1, (shG c_sh0 c_sh1 c_sh2 c_sh3 2).2.1, (shG c_sh0 c_sh1 c_sh2 c_sh3 2).2.2.1, it) 3)))) else bd2 (fX7_found (4 : Int32) c_finding) (fun r f => some (r, f, c_sh0, c_sh1, c_sh2, c_sh3))) else bd2 (fX7_found (1 : Int32) c_finding) (fun r f => some (r, f, c_sh0, c_sh1, c_sh2, c_sh3))) else bd2 (fX7_found (1 : Int32) c_finding) (fun r f => some (r, f, c_sh0, c_sh1, c_sh2, c_sh3))) (if (shG c_sh0 c_sh1 c_sh2 c_sh3 i).2.2.1 = 0 then (if (shG c_sh0 c_sh1 c_sh2 c_sh3 3).2.2.1 = 0 then (if (shG c_sh0 c_sh1 c_sh2 c_sh3 i).1 = (shG c_sh0 c_sh1 c_sh2 c_sh3 3).1 then bd1 (fX4_hasSpan v2 v5 (shG c_sh0 c_sh1 c_sh2 c_sh3 i).2.1) (fun r5 => if r5 = 0 then bd2 (fX7_found (2 : Int32) c_finding) (fun r f => some (r, f, c_sh0, c_sh1, c_sh2, c_sh3)) else bd1 (fX4_hasSpan v4 v5 (shG c_sh0 c_sh1 c_sh2 c_sh3 3).2.1) (fun r8 => if r8 = 0 then bd2 (fX7_found (2 : Int32) c_finding) (fun r f => some (r, f, c_sh0, c_sh1, c_sh2, c_sh3)) else cpI 60 60 (shG c_sh0 c_sh1 c_sh2 c_sh3 i).2.2.2 (shG c_sh0 c_sh1 c_sh2 c_sh3 3).2.2.2 v2 v4 v5 (fun it => some ((1 : Int32), c_finding, shU c_sh0 c_sh1 c_sh2 c_sh3 3 ((shG c_sh0 c_sh1 c_sh2 c_sh3 3).1, (shG c_sh0 c_sh1 c_sh2 c_sh3 3).2.1, (shG c_sh0 c_sh1 c_sh2 c_sh3 3).2.2.1, it) 0, shU c_sh0 c_sh1 c_sh2 c_sh3 3 ((shG c_sh0 c_sh1 c_sh2 c_sh3 3).1, (shG c_sh0 c_sh1 c_sh2 c_sh3 3).2.1, (shG c_sh0 c_sh1 c_sh2 c_sh3 3).2.2.1, it) 1, shU c_sh0 c_sh1 c_sh2 c_sh3 3 ((shG c_sh0 c_sh1 c_sh2 c_sh3 3).1, (shG c_sh0 c_sh1 c_sh2 c_sh3 3).2.1, (shG c_sh0 c_sh1 c_sh2 c_sh3 3).2.2.1, it) 2, shU c_sh0 c_sh1 c_sh2 c_sh3 3 ((shG c_sh0 c_sh1 c_sh2 c_sh3 3).1, (shG c_sh0 c_sh1 c_sh2 c_sh3 3).2.1, (shG c_sh0 c_sh1 c_sh2 c_sh3 3).2.2.1, it) 3)))) else bd2 (fX7_found (4 : Int32) c_finding) (fun r f => some (r, f, c_sh0, c_sh1, c_sh2, c_sh3))) else bd2 (fX7_found (1 : Int32) c_finding) (fun r f => some (r, f, c_sh0, c_sh1, c_sh2, c_sh3))) else bd2 (fX7_found (1 : Int32) c_finding) (fun r f => some (r, f, c_sh0, c_sh1, c_sh2, c_sh3)))) hs4) ?_
        exact sw4_i (fun j => if (shG c_sh0 c_sh1 c_sh2 c_sh3 s).2.2.1 = 0 then (if (shG c_sh0 c_sh1 c_sh2 c_sh3 j).2.2.1 = 0 then (if (shG c_sh0 c_sh1 c_sh2 c_sh3 s).1 = (shG c_sh0 c_sh1 c_sh2 c_sh3 j).1 then bd1 (fX4_hasSpan v2 v5 (shG c_sh0 c_sh1 c_sh2 c_sh3 s).2.1) (fun r5 => if r5 = 0 then bd2 (fX7_found (2 : Int32) c_finding) (fun r f => some (r, f, c_sh0, c_sh1, c_sh2, c_sh3)) else bd1 (fX4_hasSpan v4 v5 (shG c_sh0 c_sh1 c_sh2 c_sh3 j).2.1) (fun r8 => if r8 = 0 then bd2 (fX7_found (2 : Int32) c_finding) (fun r f => some (r, f, c_sh0, c_sh1, c_sh2, c_sh3)) else cpI 60 60 (shG c_sh0 c_sh1 c_sh2 c_sh3 s).2.2.2 (shG c_sh0 c_sh1 c_sh2 c_sh3 j).2.2.2 v2 v4 v5 (fun it => some ((1 : Int32), c_finding, shU c_sh0 c_sh1 c_sh2 c_sh3 j ((shG c_sh0 c_sh1 c_sh2 c_sh3 j).1, (shG c_sh0 c_sh1 c_sh2 c_sh3 j).2.1, (shG c_sh0 c_sh1 c_sh2 c_sh3 j).2.2.1, it) 0, shU c_sh0 c_sh1 c_sh2 c_sh3 j ((shG c_sh0 c_sh1 c_sh2 c_sh3 j).1, (shG c_sh0 c_sh1 c_sh2 c_sh3 j).2.1, (shG c_sh0 c_sh1 c_sh2 c_sh3 j).2.2.1, it) 1, shU c_sh0 c_sh1 c_sh2 c_sh3 j ((shG c_sh0 c_sh1 c_sh2 c_sh3 j).1, (shG c_sh0 c_sh1 c_sh2 c_sh3 j).2.1, (shG c_sh0 c_sh1 c_sh2 c_sh3 j).2.2.1, it) 2, shU c_sh0 c_sh1 c_sh2 c_sh3 j ((shG c_sh0 c_sh1 c_sh2 c_sh3 j).1, (shG c_sh0 c_sh1 c_sh2 c_sh3 j).2.1, (shG c_sh0 c_sh1 c_sh2 c_sh3 j).2.2.1, it) 3)))) else bd2 (fX7_found (4 : Int32) c_finding) (fun r f => some (r, f, c_sh0, c_sh1, c_sh2, c_sh3))) else bd2 (fX7_found (1 : Int32) c_finding) (fun r f => some (r, f, c_sh0, c_sh1, c_sh2, c_sh3))) else bd2 (fX7_found (1 : Int32) c_finding) (fun r f => some (r, f, c_sh0, c_sh1, c_sh2, c_sh3))) ht4
      have e80 : fX8_copy (nI s) v2 (nI t) v4 v5 m_forms m_sizes c_finding m_items m_moved = (if m_forms s < (0 : Int32) then some (-10 - 1, 1, m_items, m_moved) else if (0 : Int32) ≤ m_forms t then (if m_forms s = m_forms t then (if v2 < (0 : Int32) then some (-10 - 2, 2, m_items, m_moved) else if v4 < (0 : Int32) then some (-10 - 2, 2, m_items, m_moved) else if v5 < (0 : Int32) then some (-10 - 2, 2, m_items, m_moved) else if (0 : Int32) < (lg_cmp ((Int32.toInt64 v2) + (Int32.toInt64 v5)) (Int32.toInt64 (m_sizes s))) then some (-10 - 2, 2, m_items, m_moved) else if (lg_cmp ((Int32.toInt64 v4) + (Int32.toInt64 v5)) (Int32.toInt64 (m_sizes t))) ≤ (0 : Int32) then fX8_copy_120 (nI s) v2 (nI t) v4 v5 m_forms m_sizes jF c_finding m_items m_moved (0 : Int32) else some (-10 - 2, 2, m_items, m_moved)) else some (-10 - 4, 4, m_items, m_moved)) else some (-10 - 1, 1, m_items, m_moved)) := by
        unfold fX8_copy fX8_copy_35 fX8_copy_111 fX8_finds
        rw [ih_sheet8, bd1_eq, ite01, if_pos c1, ih_sheet8, bd1_eq, ite01, if_pos c2, pz_rd hs4 (by omega), pz_rd ht4 (by omega), pz_rd hs4 (by omega), pz_rd ht4 (by omega), pz_rd hs4 (by omega), pz_rd ht4 (by omega)]
        simp only [bd2_eq]
      have hS1 := hS s hs4
      have hS2 := hS t ht4
      rcases hS1 with ⟨a1, a2, a3, k, a4, a5, a6, a7⟩ | ⟨a1, a2⟩
      · rcases hS2 with ⟨b1, b2, b3, l, b4, b5, b6, b7⟩ | ⟨b1, b2⟩
        · rw [if_pos a1, if_pos b1, a5, b5, cm_span a4, bd1_eq, ite01, cm_span b4, bd1_eq, ite01] at e70
          rw [a3, b3, if_neg (Int32.not_lt.mpr (neg3 a2)), if_pos (neg3 b2), a6, b6] at e80
          by_cases d1 : (shG c_sh0 c_sh1 c_sh2 c_sh3 s).1 = (shG c_sh0 c_sh1 c_sh2 c_sh3 t).1
          · rw [if_pos d1] at e70 e80
            by_cases d2 : 0 ≤ v2 ∧ 0 ≤ v5 ∧ v2.toInt + v5.toInt ≤ k
            · by_cases d3 : 0 ≤ v4 ∧ 0 ≤ v5 ∧ v4.toInt + v5.toInt ≤ l
              · obtain ⟨i, hi, ei⟩ := nI_of (x := v2) (Int32.not_lt.mpr d2.1)
                subst ei
                obtain ⟨j, hj, ej⟩ := nI_of (x := v4) (Int32.not_lt.mpr d3.1)
                subst ej
                obtain ⟨n, hn, en⟩ := nI_of (x := v5) (Int32.not_lt.mpr d2.2.1)
                subst en
                have x1 := d2.2.2
                have x2 := d3.2.2
                rw [nI_toInt hi, nI_toInt hn] at x1
                rw [nI_toInt hj, nI_toInt hn] at x2
                have y1 : i + n ≤ k := by omega
                have y2 : j + n ≤ l := by omega
                rw [if_pos d2, if_pos d3] at e70
                rw [if_neg (nI_pos hi), if_neg (nI_pos hj), if_neg (nI_pos hn), if_neg (fun q => (mm_span a4 _ _).mp q d2.2.2), if_pos (Int32.not_lt.mp (fun q => (mm_span b4 _ _).mp q d3.2.2)), mm_cp120 hs4 ht4 (by omega) (by omega)] at e80
                unfold cpI at e70
                rw [nI_clamp hi, nI_clamp hj, nI_clamp hn, if_neg (fun q => by
                  rcases q with q | q | q | q | q
                  · exact nI_pos hi q
                  · exact nI_pos hj q
                  · exact nI_pos hn q
                  · omega
                  · omega)] at e70
                have hS' := RelS_u (i := t) (x := ((shG c_sh0 c_sh1 c_sh2 c_sh3 t).1, nI l, (shG c_sh0 c_sh1 c_sh2 c_sh3 t).2.2.1, va_cpy (shG c_sh0 c_sh1 c_sh2 c_sh3 s).2.2.2 (shG c_sh0 c_sh1 c_sh2 c_sh3 t).2.2.2 i j n)) (fo' := m_forms) (sz' := m_sizes) (it' := fb_put m_items (fa_fill (fun x => m_items (60 * s + i + x)) m_moved n) (60 * t + j) n) hS (Or.inl ⟨b1, b2, b3, l, b4, rfl, b6, fun x hx => by
                  show va_cpy (shG c_sh0 c_sh1 c_sh2 c_sh3 s).2.2.2 (shG c_sh0 c_sh1 c_sh2 c_sh3 t).2.2.2 i j n x = _
                  unfold va_cpy
                  by_cases e : j ≤ x ∧ x < j + n
                  · rw [if_pos e, fb_put_in (by omega) (by omega), fa_fill_in (by omega), a7 _ (by omega)]
                    congr 1
                    omega
                  · rw [if_neg e, fb_put_out (by omega)]; exact b7 x hx⟩) (fun y hy hne => ⟨rfl, rfl, fun z hz => fb_put_out (by omega)⟩)
                exact ⟨_, _, _, _, _, _, _, _, _, e70, e80, Rel_i.mpr ⟨⟨N, E, Z, r, hN, rfl, rfl, hT, hr1, hr, hrm, hrm2, hE, hE2, hZ, hZ2, rfl, hk, hs⟩, rfl, hS'⟩⟩
              · rw [if_pos d2, if_neg d3] at e70
                have e8 : fX8_copy (nI s) v2 (nI t) v4 v5 m_forms m_sizes c_finding m_items m_moved = some (-10 - 2, 2, m_items, m_moved) := by
                  rw [e80]
                  by_cases f1 : v2 < 0
                  · rw [if_pos f1]
                  · rw [if_neg f1]
                    by_cases f2 : v4 < 0
                    · rw [if_pos f2]
                    · rw [if_neg f2]
                      by_cases f3 : v5 < 0
                      · rw [if_pos f3]
                      · rw [if_neg f3, if_neg (fun q => (mm_span a4 _ _).mp q d2.2.2), if_neg (fun q => Int32.not_lt.mpr q ((mm_span b4 _ _).mpr (fun w => d3 ⟨fa_of_nlt f2, fa_of_nlt f3, w⟩)))]
                have e7 : fX7_copy (nI s) v2 (nI t) v4 v5 c_finding c_sh0 c_sh1 c_sh2 c_sh3 = some (-10 - 2, 2, c_sh0, c_sh1, c_sh2, c_sh3) := e70
                exact ⟨_, _, _, _, _, _, _, _, _, e7, e8, Rel_i.mpr ⟨⟨N, E, Z, r, hN, rfl, rfl, hT, hr1, hr, hrm, hrm2, hE, hE2, hZ, hZ2, rfl, hk, hs⟩, rfl, hS⟩⟩
            · rw [if_neg d2] at e70
              have e8 : fX8_copy (nI s) v2 (nI t) v4 v5 m_forms m_sizes c_finding m_items m_moved = some (-10 - 2, 2, m_items, m_moved) := by
                rw [e80]
                by_cases f1 : v2 < 0
                · rw [if_pos f1]
                · rw [if_neg f1]
                  by_cases f2 : v4 < 0
                  · rw [if_pos f2]
                  · rw [if_neg f2]
                    by_cases f3 : v5 < 0
                    · rw [if_pos f3]
                    · rw [if_neg f3, if_pos ((mm_span a4 _ _).mpr (fun w => d2 ⟨fa_of_nlt f1, fa_of_nlt f3, w⟩))]
              have e7 : fX7_copy (nI s) v2 (nI t) v4 v5 c_finding c_sh0 c_sh1 c_sh2 c_sh3 = some (-10 - 2, 2, c_sh0, c_sh1, c_sh2, c_sh3) := e70
              exact ⟨_, _, _, _, _, _, _, _, _, e7, e8, Rel_i.mpr ⟨⟨N, E, Z, r, hN, rfl, rfl, hT, hr1, hr, hrm, hrm2, hE, hE2, hZ, hZ2, rfl, hk, hs⟩, rfl, hS⟩⟩
          · rw [if_neg d1] at e70 e80
            have e7 : fX7_copy (nI s) v2 (nI t) v4 v5 c_finding c_sh0 c_sh1 c_sh2 c_sh3 = some (-10 - 4, 4, c_sh0, c_sh1, c_sh2, c_sh3) := e70
            exact ⟨_, _, _, _, _, _, _, _, _, e7, e80, Rel_i.mpr ⟨⟨N, E, Z, r, hN, rfl, rfl, hT, hr1, hr, hrm, hrm2, hE, hE2, hZ, hZ2, rfl, hk, hs⟩, rfl, hS⟩⟩
        · rw [if_pos a1, if_neg b1] at e70
          rw [a3, b2, if_neg (Int32.not_lt.mpr (neg3 a2)), if_neg (show ¬ (0 : Int32) ≤ -1 by decide)] at e80
          have e7 : fX7_copy (nI s) v2 (nI t) v4 v5 c_finding c_sh0 c_sh1 c_sh2 c_sh3 = some (-10 - 1, 1, c_sh0, c_sh1, c_sh2, c_sh3) := e70
          exact ⟨_, _, _, _, _, _, _, _, _, e7, e80, Rel_i.mpr ⟨⟨N, E, Z, r, hN, rfl, rfl, hT, hr1, hr, hrm, hrm2, hE, hE2, hZ, hZ2, rfl, hk, hs⟩, rfl, hS⟩⟩
      · rw [if_neg a1] at e70
        rw [a2, if_pos (show (-1 : Int32) < 0 by decide)] at e80
        have e7 : fX7_copy (nI s) v2 (nI t) v4 v5 c_finding c_sh0 c_sh1 c_sh2 c_sh3 = some (-10 - 1, 1, c_sh0, c_sh1, c_sh2, c_sh3) := e70
        exact ⟨_, _, _, _, _, _, _, _, _, e7, e80, Rel_i.mpr ⟨⟨N, E, Z, r, hN, rfl, rfl, hT, hr1, hr, hrm, hrm2, hE, hE2, hZ, hZ2, rfl, hk, hs⟩, rfl, hS⟩⟩
    · have e7 : fX7_copy v1 v2 v3 v4 v5 c_finding c_sh0 c_sh1 c_sh2 c_sh3 = some (-2, c_finding, c_sh0, c_sh1, c_sh2, c_sh3) := by
        unfold fX7_copy
        rw [pz_within, bd1_eq, ite01, if_pos c1, pz_within, bd1_eq, ite01, if_neg c2]
      have e8 : fX8_copy v1 v2 v3 v4 v5 m_forms m_sizes c_finding m_items m_moved = some (-2, c_finding, m_items, m_moved) := by
        unfold fX8_copy
        rw [ih_sheet8, bd1_eq, ite01, if_pos c1, ih_sheet8, bd1_eq, ite01, if_neg c2]
      exact ⟨_, _, _, _, _, _, _, _, _, e7, e8, Rel_i.mpr ⟨⟨N, E, Z, r, hN, rfl, rfl, hT, hr1, hr, hrm, hrm2, hE, hE2, hZ, hZ2, rfl, hk, hs⟩, rfl, hS⟩⟩
  · have e7 : fX7_copy v1 v2 v3 v4 v5 c_finding c_sh0 c_sh1 c_sh2 c_sh3 = some (-2, c_finding, c_sh0, c_sh1, c_sh2, c_sh3) := by
      unfold fX7_copy
      rw [pz_within, bd1_eq, ite01, if_neg c1]
    have e8 : fX8_copy v1 v2 v3 v4 v5 m_forms m_sizes c_finding m_items m_moved = some (-2, c_finding, m_items, m_moved) := by
      unfold fX8_copy
      rw [ih_sheet8, bd1_eq, ite01, if_neg c1]
    exact ⟨_, _, _, _, _, _, _, _, _, e7, e8, Rel_i.mpr ⟨⟨N, E, Z, r, hN, rfl, rfl, hT, hr1, hr, hrm, hrm2, hE, hE2, hZ, hZ2, rfl, hk, hs⟩, rfl, hS⟩⟩
