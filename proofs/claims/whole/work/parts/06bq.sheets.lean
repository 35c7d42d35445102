theorem sw4_i {α : Type} (t : Nat → Option α) {i : Nat} (hi : i < 4) : sw4 (nI i) (t 0) (t 1) (t 2) (t 3) = t i := by
  unfold sw4
  match i, hi with
  | 0, _ => rw [if_pos (show nI 0 = (0 : Int32) from rfl)]
  | 1, _ => rw [if_neg (by decide), if_pos (show nI 1 = (1 : Int32) from rfl)]
  | 2, _ => rw [if_neg (by decide), if_neg (by decide), if_pos (show nI 2 = (2 : Int32) from rfl)]
  | 3, _ => rw [if_neg (by decide), if_neg (by decide), if_neg (by decide), if_pos (show nI 3 = (3 : Int32) from rfl)]
def shU (a b c d : jS4) (i : Nat) (x : jS4) (j : Nat) : jS4 := if j = i then x else shG a b c d j
theorem shG_U (U : Nat → jS4) {j : Nat} (hj : j < 4) : shG (U 0) (U 1) (U 2) (U 3) j = U j := by
  match j, hj with
  | 0, _ => rfl
  | 1, _ => rfl
  | 2, _ => rfl
  | 3, _ => rfl
theorem sR_o {j : Nat} {sh : jS4} {fo sz it fo' sz' it' : Nat → Int32} (h : sR j sh fo sz it) (h1 : fo' j = fo j) (h2 : sz' j = sz j) (h3 : ∀ x, x < 60 → it' (60 * j + x) = it (60 * j + x)) : sR j sh fo' sz' it' := by
  rcases h with ⟨a1, a2, a3, k, a4, a5, a6, a7⟩ | ⟨a1, a2⟩
  · exact Or.inl ⟨a1, a2, by rw [h1]; exact a3, k, a4, a5, by rw [h2]; exact a6, fun x hx => by rw [h3 x (by omega)]; exact a7 x hx⟩
  · exact Or.inr ⟨a1, by rw [h1]; exact a2⟩
theorem RelS_u {a b c d x : jS4} {fo sz it fo' sz' it' : Nat → Int32} {i : Nat} (h : RelS a b c d fo sz it) (hx : sR i x fo' sz' it') (ho : ∀ j, j < 4 → j ≠ i → fo' j = fo j ∧ sz' j = sz j ∧ ∀ y, y < 60 → it' (60 * j + y) = it (60 * j + y)) : RelS (shU a b c d i x 0) (shU a b c d i x 1) (shU a b c d i x 2) (shU a b c d i x 3) fo' sz' it' := by
  intro j hj
  rw [shG_U (shU a b c d i x) hj]
  unfold shU
  by_cases e : j = i
  · rw [if_pos e, e]; exact hx
  · rw [if_neg e]
    obtain ⟨o1, o2, o3⟩ := ho j hj e
    exact sR_o (h j hj) o1 o2 o3
theorem f60 (i j : Nat) : (60 : Int32) * nI i + nI j = nI (60 * i + j) := by rw [show (60 : Int32) * nI i = nI (60 * i) from pk_mul 60 i, nI_add]
theorem f3_of {v : Int32} (h : 0 ≤ v ∧ v ≤ 2) : v = 0 ∨ v = 1 ∨ v = 2 := by
  obtain ⟨j, hj, e⟩ := vin (n := 2) (by omega) h
  subst e
  match j, hj with
  | 0, _ => exact Or.inl rfl
  | 1, _ => exact Or.inr (Or.inl rfl)
  | 2, _ => exact Or.inr (Or.inr rfl)
theorem neg3 {f : Int32} (h : f = 0 ∨ f = 1 ∨ f = 2) : 0 ≤ f := by rcases h with rfl | rfl | rfl <;> decide
theorem mm_sh55 {i n : Nat} {f la : Int32} {fo sz it : Nat → Int32} (hi : i < 4) (hn : n ≤ 60) : fX8_sheet_55 (nI i) f (nI n) jF la fo sz it 0 = some (nI n, la, fo, sz, fb_put it (fun _ => 0) (60 * i) n) := by
  have s0 : fX8_sheet_55 (nI i) f (nI n) jF la fo sz it 0 = fX8_sheet_55 (nI i) f (nI n) jF la fo sz (fb_put it (fun _ => 0) (60 * i) 0) (nI 0) := by rw [fb_put_0]; rfl
  rw [s0]
  refine pz_up (fun F a => fX8_sheet_55 (nI i) f (nI n) F la fo sz (fb_put it (fun _ => 0) (60 * i) a) (nI a)) n _ (fun F a ha => ?_) (fun F => ?_) n 0 jF (by omega) (pz_jF (by omega))
  · show bX8_sheet_55 (nI i) f (nI n) (fX8_sheet_55 (nI i) f (nI n) F) _ _ _ _ _ = _
    unfold bX8_sheet_55
    rw [if_neg (nI_ge ha (by omega)), f60, pz_wr (by omega) (by omega), show upd (fb_put it (fun _ => 0) (60 * i) a) (60 * i + a) 0 = fb_put it (fun _ => 0) (60 * i) (a + 1) from fb_put_succ it (fun _ => 0) (60 * i) a, pz_nm, pz_1]
  · unfold fX8_sheet_55
    rw [lp_s]
    unfold bX8_sheet_55
    rw [if_pos (nI_le (Nat.le_refl _) (by omega))]
theorem rl_sheet (v1 : Int32) (v2 : Int32) (v3 : Int32) {c_room : Int32} {c_finding : Int32} {c_courseKnown : Int32} {c_settledByKnown : Int32} {c_text : jT1} {c_told : jT3} {c_others : jT3} {c_events : jT3} {c_seen : jT3} {c_course : jT11} {c_trial : jT11} {c_best : jB3} {c_sh0 : jS4} {c_sh1 : jS4} {c_sh2 : jS4} {c_sh3 : jS4} {c_settledBy : Nat → Int32} {c_views : Nat → Int32} {m_latest : Int32} {m_typed : Int32} {m_tenants : Int32} {m_room : Int32} {m_events : Int32} {m_gone : Int32} {m_sim : jT11} {m_sights : Int32} {m_drawn : Int32} {m_forms : Nat → Int32} {m_sizes : Nat → Int32} {m_items : Nat → Int32} {m_moved : Nat → Int32} {m_bytes : Nat → Int32} {m_tenant : Nat → Int32} {m_event : Nat → Int32} {m_sight : Nat → Int32} {m_rows : Nat → Int64} (h : Rel (c_room, c_finding, c_courseKnown, c_settledByKnown, c_text, c_told, c_others, c_events, c_seen, c_course, c_trial, c_best, c_sh0, c_sh1, c_sh2, c_sh3, c_settledBy, c_views) (m_latest, m_typed, m_tenants, m_room, m_events, m_gone, m_sim, m_sights, m_drawn, m_forms, m_sizes, m_items, m_moved, m_bytes, m_tenant, m_event, m_sight, m_rows)) : ∃ (r : Int32) (o_finding : Int32) (o_sh0 : jS4) (o_sh1 : jS4) (o_sh2 : jS4) (o_sh3 : jS4) (p_latest : Int32) (p_forms : Nat → Int32) (p_sizes : Nat → Int32) (p_items : Nat → Int32), fX7_sheet v1 v2 v3 c_finding c_sh0 c_sh1 c_sh2 c_sh3 = some (r, o_finding, o_sh0, o_sh1, o_sh2, o_sh3) ∧ fX8_sheet v1 v2 v3 m_latest m_forms m_sizes m_items = some (r, p_latest, p_forms, p_sizes, p_items) ∧ Rel (c_room, o_finding, c_courseKnown, c_settledByKnown, c_text, c_told, c_others, c_events, c_seen, c_course, c_trial, c_best, o_sh0, o_sh1, o_sh2, o_sh3, c_settledBy, c_views) (p_latest, m_typed, m_tenants, m_room, m_events, m_gone, m_sim, m_sights, m_drawn, p_forms, p_sizes, p_items, m_moved, m_bytes, m_tenant, m_event, m_sight, m_rows) := by
  obtain ⟨⟨N, E, Z, r, hN, htx, hty, hT, hr1, hr, hrm, hrm2, hE, hE2, hZ, hZ2, hg, hk, hs⟩, hf, hS⟩ := Rel_i.mp h
  subst htx
  subst hty
  subst hg
  subst hf
  by_cases c1 : 0 ≤ v1 ∧ v1 ≤ 3
  · by_cases c2 : 0 ≤ v2 ∧ v2 ≤ 2
    · by_cases c3 : v3 ≤ 60
      · by_cases c4 : 0 ≤ v3
        · obtain ⟨i, hi3, e⟩ := vin (n := 3) (by omega) c1
          subst e
          obtain ⟨n, hn, e⟩ := vin (n := 60) (by omega) ⟨c4, c3⟩
          subst e
          have hi : i < 4 := by omega
          have e7 : fX7_sheet (nI i) v2 (nI n) c_finding c_sh0 c_sh1 c_sh2 c_sh3 = some (nI n, c_finding, shU c_sh0 c_sh1 c_sh2 c_sh3 i (v2, nI n, 0, fa_fill (fun _ => 0) (shG c_sh0 c_sh1 c_sh2 c_sh3 i).2.2.2 60) 0, shU c_sh0 c_sh1 c_sh2 c_sh3 i (v2, nI n, 0, fa_fill (fun _ => 0) (shG c_sh0 c_sh1 c_sh2 c_sh3 i).2.2.2 60) 1, shU c_sh0 c_sh1 c_sh2 c_sh3 i (v2, nI n, 0, fa_fill (fun _ => 0) (shG c_sh0 c_sh1 c_sh2 c_sh3 i).2.2.2 60) 2, shU c_sh0 c_sh1 c_sh2 c_sh3 i (v2, nI n, 0, fa_fill (fun _ => 0) (shG c_sh0 c_sh1 c_sh2 c_sh3 i).2.2.2 60) 3) := by
            have hre : ∀ s : jS4, fX4_renew v2 (nI n) s.1 s.2.1 s.2.2.1 s.2.2.2 = some (v2, nI n, 0, fa_fill (fun _ => 0) s.2.2.2 60) := fun s => by
              unfold fX4_renew
              rw [pz_fill _ _ (by omega), bd1_eq]
            unfold fX7_sheet
            rw [pz_within, bd1_eq, ite01, if_pos c1, pz_within, bd1_eq, ite01, if_pos c2, if_pos c3, if_pos c4, hre, hre, hre, hre, bd4_eq, bd4_eq, bd4_eq, bd4_eq]
            exact sw4_i (fun i => some (nI n, c_finding, shU c_sh0 c_sh1 c_sh2 c_sh3 i (v2, nI n, 0, fa_fill (fun _ => 0) (shG c_sh0 c_sh1 c_sh2 c_sh3 i).2.2.2 60) 0, shU c_sh0 c_sh1 c_sh2 c_sh3 i (v2, nI n, 0, fa_fill (fun _ => 0) (shG c_sh0 c_sh1 c_sh2 c_sh3 i).2.2.2 60) 1, shU c_sh0 c_sh1 c_sh2 c_sh3 i (v2, nI n, 0, fa_fill (fun _ => 0) (shG c_sh0 c_sh1 c_sh2 c_sh3 i).2.2.2 60) 2, shU c_sh0 c_sh1 c_sh2 c_sh3 i (v2, nI n, 0, fa_fill (fun _ => 0) (shG c_sh0 c_sh1 c_sh2 c_sh3 i).2.2.2 60) 3)) hi
          have e8 : fX8_sheet (nI i) v2 (nI n) c_finding m_forms m_sizes m_items = some (nI n, c_finding, upd m_forms i v2, upd m_sizes i (nI n), fb_put m_items (fun _ => 0) (60 * i) n) := by
            unfold fX8_sheet
            rw [ih_sheet8, bd1_eq, ite01, if_pos c1, pz_inL v2 0 2 _ _ (by decide) (by decide), bd1_eq, ite01, if_pos c2, if_pos c3, if_pos c4, pz_wr hi (by omega), pz_wr hi (by omega), mm_sh55 hi hn]
          have hS' := RelS_u (i := i) (x := (v2, nI n, 0, fa_fill (fun _ => 0) (shG c_sh0 c_sh1 c_sh2 c_sh3 i).2.2.2 60)) (fo' := upd m_forms i v2) (sz' := upd m_sizes i (nI n)) (it' := fb_put m_items (fun _ => 0) (60 * i) n) hS (Or.inl ⟨rfl, f3_of c2, pk_us, n, hn, rfl, pk_us, fun j hj => by
            rw [fb_put_in (by omega) (by omega)]
            show fa_fill (fun _ => 0) (shG c_sh0 c_sh1 c_sh2 c_sh3 i).2.2.2 60 j = 0
            rw [fa_fill_in (by omega)]⟩) (fun j hj hne => ⟨pk_un hne, pk_un hne, fun y hy => fb_put_out (by omega)⟩)
          exact ⟨_, _, _, _, _, _, _, _, _, _, e7, e8, Rel_i.mpr ⟨⟨N, E, Z, r, hN, rfl, rfl, hT, hr1, hr, hrm, hrm2, hE, hE2, hZ, hZ2, rfl, hk, hs⟩, rfl, hS'⟩⟩
        · have e7 : fX7_sheet v1 v2 v3 c_finding c_sh0 c_sh1 c_sh2 c_sh3 = some (-10 - 5, 5, c_sh0, c_sh1, c_sh2, c_sh3) := by
            unfold fX7_sheet fX7_found
            rw [pz_within, bd1_eq, ite01, if_pos c1, pz_within, bd1_eq, ite01, if_pos c2, if_pos c3, if_neg c4, bd2_eq]
          have e8 : fX8_sheet v1 v2 v3 c_finding m_forms m_sizes m_items = some (-10 - 5, 5, m_forms, m_sizes, m_items) := by
            unfold fX8_sheet fX8_finds
            rw [ih_sheet8, bd1_eq, ite01, if_pos c1, pz_inL v2 0 2 _ _ (by decide) (by decide), bd1_eq, ite01, if_pos c2, if_pos c3, if_neg c4, bd2_eq]
          exact ⟨_, _, _, _, _, _, _, _, _, _, e7, e8, Rel_i.mpr ⟨⟨N, E, Z, r, hN, rfl, rfl, hT, hr1, hr, hrm, hrm2, hE, hE2, hZ, hZ2, rfl, hk, hs⟩, rfl, hS⟩⟩
      · have e7 : fX7_sheet v1 v2 v3 c_finding c_sh0 c_sh1 c_sh2 c_sh3 = some (-2, c_finding, c_sh0, c_sh1, c_sh2, c_sh3) := by
          unfold fX7_sheet
          rw [pz_within, bd1_eq, ite01, if_pos c1, pz_within, bd1_eq, ite01, if_pos c2, if_neg c3]
        have e8 : fX8_sheet v1 v2 v3 c_finding m_forms m_sizes m_items = some (-2, c_finding, m_forms, m_sizes, m_items) := by
          unfold fX8_sheet
          rw [ih_sheet8, bd1_eq, ite01, if_pos c1, pz_inL v2 0 2 _ _ (by decide) (by decide), bd1_eq, ite01, if_pos c2, if_neg c3]
        exact ⟨_, _, _, _, _, _, _, _, _, _, e7, e8, Rel_i.mpr ⟨⟨N, E, Z, r, hN, rfl, rfl, hT, hr1, hr, hrm, hrm2, hE, hE2, hZ, hZ2, rfl, hk, hs⟩, rfl, hS⟩⟩
    · have e7 : fX7_sheet v1 v2 v3 c_finding c_sh0 c_sh1 c_sh2 c_sh3 = some (-2, c_finding, c_sh0, c_sh1, c_sh2, c_sh3) := by
        unfold fX7_sheet
        rw [pz_within, bd1_eq, ite01, if_pos c1, pz_within, bd1_eq, ite01, if_neg c2]
      have e8 : fX8_sheet v1 v2 v3 c_finding m_forms m_sizes m_items = some (-2, c_finding, m_forms, m_sizes, m_items) := by
        unfold fX8_sheet
        rw [ih_sheet8, bd1_eq, ite01, if_pos c1, pz_inL v2 0 2 _ _ (by decide) (by decide), bd1_eq, ite01, if_neg c2]
      exact ⟨_, _, _, _, _, _, _, _, _, _, e7, e8, Rel_i.mpr ⟨⟨N, E, Z, r, hN, rfl, rfl, hT, hr1, hr, hrm, hrm2, hE, hE2, hZ, hZ2, rfl, hk, hs⟩, rfl, hS⟩⟩
  · have e7 : fX7_sheet v1 v2 v3 c_finding c_sh0 c_sh1 c_sh2 c_sh3 = some (-2, c_finding, c_sh0, c_sh1, c_sh2, c_sh3) := by
      unfold fX7_sheet
      rw [pz_within, bd1_eq, ite01, if_neg c1]
    have e8 : fX8_sheet v1 v2 v3 c_finding m_forms m_sizes m_items = some (-2, c_finding, m_forms, m_sizes, m_items) := by
      unfold fX8_sheet
      rw [ih_sheet8, bd1_eq, ite01, if_neg c1]
    exact ⟨_, _, _, _, _, _, _, _, _, _, e7, e8, Rel_i.mpr ⟨⟨N, E, Z, r, hN, rfl, rfl, hT, hr1, hr, hrm, hrm2, hE, hE2, hZ, hZ2, rfl, hk, hs⟩, rfl, hS⟩⟩
theorem rl_lose (v1 : Int32) {c_room : Int32} {c_finding : Int32} {c_courseKnown : Int32} {c_settledByKnown : Int32} {c_text : jT1} {c_told : jT3} {c_others : jT3} {c_events : jT3} {c_seen : jT3} {c_course : jT11} {c_trial : jT11} {c_best : jB3} {c_sh0 : jS4} {c_sh1 : jS4} {c_sh2 : jS4} {c_sh3 : jS4} {c_settledBy : Nat → Int32} {c_views : Nat → Int32} {m_latest : Int32} {m_typed : Int32} {m_tenants : Int32} {m_room : Int32} {m_events : Int32} {m_gone : Int32} {m_sim : jT11} {m_sights : Int32} {m_drawn : Int32} {m_forms : Nat → Int32} {m_sizes : Nat → Int32} {m_items : Nat → Int32} {m_moved : Nat → Int32} {m_bytes : Nat → Int32} {m_tenant : Nat → Int32} {m_event : Nat → Int32} {m_sight : Nat → Int32} {m_rows : Nat → Int64} (h : Rel (c_room, c_finding, c_courseKnown, c_settledByKnown, c_text, c_told, c_others, c_events, c_seen, c_course, c_trial, c_best, c_sh0, c_sh1, c_sh2, c_sh3, c_settledBy, c_views) (m_latest, m_typed, m_tenants, m_room, m_events, m_gone, m_sim, m_sights, m_drawn, m_forms, m_sizes, m_items, m_moved, m_bytes, m_tenant, m_event, m_sight, m_rows)) : ∃ (r : Int32) (o_finding : Int32) (o_sh0_lost : Int32) (o_sh1_lost : Int32) (o_sh2_lost : Int32) (o_sh3_lost : Int32) (p_latest : Int32) (p_forms : Nat → Int32), fX7_lose v1 c_sh0.2.1 c_sh1.2.1 c_sh2.2.1 c_sh3.2.1 c_finding c_sh0.2.2.1 c_sh1.2.2.1 c_sh2.2.2.1 c_sh3.2.2.1 = some (r, o_finding, o_sh0_lost, o_sh1_lost, o_sh2_lost, o_sh3_lost) ∧ fX8_lose v1 m_sizes m_latest m_forms = some (r, p_latest, p_forms) ∧ Rel (c_room, o_finding, c_courseKnown, c_settledByKnown, c_text, c_told, c_others, c_events, c_seen, c_course, c_trial, c_best, (c_sh0.1, c_sh0.2.1, o_sh0_lost, c_sh0.2.2.2), (c_sh1.1, c_sh1.2.1, o_sh1_lost, c_sh1.2.2.2), (c_sh2.1, c_sh2.2.1, o_sh2_lost, c_sh2.2.2.2), (c_sh3.1, c_sh3.2.1, o_sh3_lost, c_sh3.2.2.2), c_settledBy, c_views) (p_latest, m_typed, m_tenants, m_room, m_events, m_gone, m_sim, m_sights, m_drawn, p_forms, m_sizes, m_items, m_moved, m_bytes, m_tenant, m_event, m_sight, m_rows) := by
  obtain ⟨⟨N, E, Z, r, hN, htx, hty, hT, hr1, hr, hrm, hrm2, hE, hE2, hZ, hZ2, hg, hk, hs⟩, hf, hS⟩ := Rel_i.mp h
  subst htx
  subst hty
  subst hg
  subst hf
  by_cases c1 : 0 ≤ v1 ∧ v1 ≤ 3
  · obtain ⟨i, hi3, e⟩ := vin (n := 3) (by omega) c1
    subst e
    have hi : i < 4 := by omega
    have e70 : fX7_lose (nI i) c_sh0.2.1 c_sh1.2.1 c_sh2.2.1 c_sh3.2.1 c_finding c_sh0.2.2.1 c_sh1.2.2.1 c_sh2.2.2.1 c_sh3.2.2.1 = (fun i => if (shG c_sh0 c_sh1 c_sh2 c_sh3 i).2.2.1 = 0 then some ((shG c_sh0 c_sh1 c_sh2 c_sh3 i).2.1, c_finding, (if 0 = i then 1 else (shG c_sh0 c_sh1 c_sh2 c_sh3 0).2.2.1), (if 1 = i then 1 else (shG c_sh0 c_sh1 c_sh2 c_sh3 1).2.2.1), (if 2 = i then 1 else (shG c_sh0 c_sh1 c_sh2 c_sh3 2).2.2.1), (if 3 = i then 1 else (shG c_sh0 c_sh1 c_sh2 c_sh3 3).2.2.1)) else bd2 (fX7_found 1 c_finding) (fun r f => some (r, f, c_sh0.2.2.1, c_sh1.2.2.1, c_sh2.2.2.1, c_sh3.2.2.1))) i := by
      unfold fX7_lose
      rw [pz_within, bd1_eq, ite01, if_pos c1]
      exact sw4_i (fun i => if (shG c_sh0 c_sh1 c_sh2 c_sh3 i).2.2.1 = 0 then some ((shG c_sh0 c_sh1 c_sh2 c_sh3 i).2.1, c_finding, (if 0 = i then 1 else (shG c_sh0 c_sh1 c_sh2 c_sh3 0).2.2.1), (if 1 = i then 1 else (shG c_sh0 c_sh1 c_sh2 c_sh3 1).2.2.1), (if 2 = i then 1 else (shG c_sh0 c_sh1 c_sh2 c_sh3 2).2.2.1), (if 3 = i then 1 else (shG c_sh0 c_sh1 c_sh2 c_sh3 3).2.2.1)) else bd2 (fX7_found 1 c_finding) (fun r f => some (r, f, c_sh0.2.2.1, c_sh1.2.2.1, c_sh2.2.2.1, c_sh3.2.2.1))) hi
    dsimp only at e70
    have hi' := hS i hi
    rcases hi' with ⟨a1, a2, a3, k, a4, a5, a6, a7⟩ | ⟨a1, a2⟩
    · rw [if_pos a1, a5] at e70
      have e8 : fX8_lose (nI i) m_sizes c_finding m_forms = some (nI k, c_finding, upd m_forms i (-1)) := by
        unfold fX8_lose
        rw [ih_sheet8, bd1_eq, ite01, if_pos c1, pz_rd hi (by omega), a3, if_pos (neg3 a2), pz_wr hi (by omega), pz_rd hi (by omega), a6]
      refine ⟨_, _, _, _, _, _, _, _, e70, e8, Rel_i.mpr ⟨⟨N, E, Z, r, hN, rfl, rfl, hT, hr1, hr, hrm, hrm2, hE, hE2, hZ, hZ2, rfl, hk, hs⟩, rfl, ?_⟩⟩
      intro j hj
      have ej : shG (c_sh0.1, c_sh0.2.1, (if 0 = i then 1 else (shG c_sh0 c_sh1 c_sh2 c_sh3 0).2.2.1), c_sh0.2.2.2) (c_sh1.1, c_sh1.2.1, (if 1 = i then 1 else (shG c_sh0 c_sh1 c_sh2 c_sh3 1).2.2.1), c_sh1.2.2.2) (c_sh2.1, c_sh2.2.1, (if 2 = i then 1 else (shG c_sh0 c_sh1 c_sh2 c_sh3 2).2.2.1), c_sh2.2.2.2) (c_sh3.1, c_sh3.2.1, (if 3 = i then 1 else (shG c_sh0 c_sh1 c_sh2 c_sh3 3).2.2.1), c_sh3.2.2.2) j = ((shG c_sh0 c_sh1 c_sh2 c_sh3 j).1, (shG c_sh0 c_sh1 c_sh2 c_sh3 j).2.1, (if j = i then 1 else (shG c_sh0 c_sh1 c_sh2 c_sh3 j).2.2.1), (shG c_sh0 c_sh1 c_sh2 c_sh3 j).2.2.2) := shG_U (fun j => ((shG c_sh0 c_sh1 c_sh2 c_sh3 j).1, (shG c_sh0 c_sh1 c_sh2 c_sh3 j).2.1, (if j = i then 1 else (shG c_sh0 c_sh1 c_sh2 c_sh3 j).2.2.1), (shG c_sh0 c_sh1 c_sh2 c_sh3 j).2.2.2)) hj
      rw [ej]
      by_cases ee : j = i
      · rw [if_pos ee]
        exact Or.inr ⟨by show ¬ (1 : Int32) = 0; decide, by rw [ee, pk_us]⟩
      · rw [if_neg ee]
        exact sR_o (hS j hj) (pk_un ee) rfl (fun x _ => rfl)
    · rw [if_neg a1] at e70
      have e7 : fX7_lose (nI i) c_sh0.2.1 c_sh1.2.1 c_sh2.2.1 c_sh3.2.1 c_finding c_sh0.2.2.1 c_sh1.2.2.1 c_sh2.2.2.1 c_sh3.2.2.1 = some (-10 - 1, 1, c_sh0.2.2.1, c_sh1.2.2.1, c_sh2.2.2.1, c_sh3.2.2.1) := e70
      have e8 : fX8_lose (nI i) m_sizes c_finding m_forms = some (-10 - 1, 1, m_forms) := by
        unfold fX8_lose fX8_finds
        rw [ih_sheet8, bd1_eq, ite01, if_pos c1, pz_rd hi (by omega), a2, if_neg (show ¬ (0 : Int32) ≤ -1 by decide), bd2_eq]
      exact ⟨_, _, _, _, _, _, _, _, e7, e8, Rel_i.mpr ⟨⟨N, E, Z, r, hN, rfl, rfl, hT, hr1, hr, hrm, hrm2, hE, hE2, hZ, hZ2, rfl, hk, hs⟩, rfl, hS⟩⟩
  · have e7 : fX7_lose v1 c_sh0.2.1 c_sh1.2.1 c_sh2.2.1 c_sh3.2.1 c_finding c_sh0.2.2.1 c_sh1.2.2.1 c_sh2.2.2.1 c_sh3.2.2.1 = some (-2, c_finding, c_sh0.2.2.1, c_sh1.2.2.1, c_sh2.2.2.1, c_sh3.2.2.1) := by
      unfold fX7_lose
      rw [pz_within, bd1_eq, ite01, if_neg c1]
    have e8 : fX8_lose v1 m_sizes c_finding m_forms = some (-2, c_finding, m_forms) := by
      unfold fX8_lose
      rw [ih_sheet8, bd1_eq, ite01, if_neg c1]
    exact ⟨_, _, _, _, _, _, _, _, e7, e8, Rel_i.mpr ⟨⟨N, E, Z, r, hN, rfl, rfl, hT, hr1, hr, hrm, hrm2, hE, hE2, hZ, hZ2, rfl, hk, hs⟩, rfl, hS⟩⟩
def cutV (f v : Int32) : Int32 := if f = 0 then Int8.toInt32 (Int32.toInt8 v) else if f = 1 then Int16.toInt32 (Int32.toInt16 v) else v
theorem cm_put {j : Nat} {v f : Int32} {it : Nat → Int32} (hj : j < 60) : fX4_put (nI j) v f it = some (upd it j (cutV f v)) := by
  unfold fX4_put cutV
  rw [pz_wr hj (by omega), pz_wr hj (by omega), pz_wr hj (by omega)]
  by_cases c : f = 0
  · rw [if_pos c, if_pos c]
  · rw [if_neg c, if_neg c]
    by_cases d : f = 1
    · rw [if_pos d, if_pos d]
    · rw [if_neg d, if_neg d]
theorem mm_cut (f v : Int32) : fX8_cut f v = some (cutV f v) := by
  unfold fX8_cut cutV
  simp only [sm_ite]
theorem lt_pred {k : Nat} (hk : k ≤ 60) (x : Int32) : (0 ≤ x ∧ x ≤ nI k - 1) ↔ (0 ≤ x ∧ x < nI k) := by
  have h1 : (nI k - (1 : Int32)).toInt = (k : Int) - 1 := pk_sub_toInt (a := k) (b := 1) (by omega) (by omega)
  rw [fa_le x, fa_lt x, h1, nI_toInt (by omega)]
  constructor
  · rintro ⟨a, b⟩; exact ⟨a, by omega⟩
  · rintro ⟨a, b⟩; exact ⟨a, by omega⟩
theorem flaw_both {i : Nat} {sh : jS4} {fo sz it : Nat → Int32} (la v2 v3 : Int32) (hi : i < 4) (h : sR i sh fo sz it) : ∃ f, fX4_flaw v2 v3 sh.1 sh.2.1 sh.2.2.1 = some f ∧ ((f = 0 ∧ fX8_lacks (nI i) v2 v3 fo sz la = some (0, la) ∧ sh.2.2.1 = 0 ∧ sh.1 = v2 ∧ fo i = sh.1 ∧ (sh.1 = 0 ∨ sh.1 = 1 ∨ sh.1 = 2) ∧ ∃ k j, k ≤ 60 ∧ sh.2.1 = nI k ∧ sz i = nI k ∧ j < k ∧ v3 = nI j ∧ ∀ x, x < k → sh.2.2.2 x = it (60 * i + x)) ∨ (¬ f = 0 ∧ ¬ (-10 - f : Int32) = 0 ∧ fX8_lacks (nI i) v2 v3 fo sz la = some (-10 - f, f))) := by
  unfold fX4_flaw fX8_lacks fX8_finds
  rcases h with ⟨a1, a2, a3, k, a4, a5, a6, a7⟩ | ⟨a1, a2⟩
  · rw [if_pos a1, pz_rd hi (by omega), a3, if_pos (neg3 a2), pz_rd hi (by omega), a3]
    by_cases c1 : sh.1 = v2
    · rw [if_pos c1, if_pos c1, pz_rd hi (by omega), a6, a5, pz_inL v3 0 (nI k - 1) _ _ (by decide) rfl, bd1_eq, ite01]
      by_cases c2 : 0 ≤ v3 ∧ v3 < nI k
      · obtain ⟨j, hj, e⟩ := vint (by omega) c2
        subst e
        rw [if_neg (nI_pos (by omega)), if_pos c2.2, if_pos ((lt_pred a4 _).mpr c2)]
        exact ⟨0, rfl, Or.inl ⟨rfl, rfl, a1, c1, rfl, a2, k, j, a4, rfl, rfl, hj, rfl, a7⟩⟩
      · rw [if_neg (fun q => c2 ((lt_pred a4 _).mp q)), bd2_eq]
        refine ⟨2, ?_, Or.inr ⟨by decide, by decide, rfl⟩⟩
        by_cases c3 : v3 < 0
        · rw [if_pos c3]
        · rw [if_neg c3, if_neg (fun q => c2 ⟨fa_of_nlt c3, q⟩)]
    · rw [if_neg c1, if_neg c1, bd2_eq]
      exact ⟨3, rfl, Or.inr ⟨by decide, by decide, rfl⟩⟩
  · rw [if_neg a1, pz_rd hi (by omega), a2, if_neg (show ¬ (0 : Int32) ≤ -1 by decide), bd2_eq]
    exact ⟨1, rfl, Or.inr ⟨by decide, by decide, rfl⟩⟩
theorem rl_lay (v1 : Int32) (v2 : Int32) (v3 : Int32) (v4 : Int32) {c_room : Int32} {c_finding : Int32} {c_courseKnown : Int32} {c_settledByKnown : Int32} {c_text : jT1} {c_told : jT3} {c_others : jT3} {c_events : jT3} {c_seen : jT3} {c_course : jT11} {c_trial : jT11} {c_best : jB3} {c_sh0 : jS4} {c_sh1 : jS4} {c_sh2 : jS4} {c_sh3 : jS4} {c_settledBy : Nat → Int32} {c_views : Nat → Int32} {m_latest : Int32} {m_typed : Int32} {m_tenants : Int32} {m_room : Int32} {m_events : Int32} {m_gone : Int32} {m_sim : jT11} {m_sights : Int32} {m_drawn : Int32} {m_forms : Nat → Int32} {m_sizes : Nat → Int32} {m_items : Nat → Int32} {m_moved : Nat → Int32} {m_bytes : Nat → Int32} {m_tenant : Nat → Int32} {m_event : Nat → Int32} {m_sight : Nat → Int32} {m_rows : Nat → Int64} (h : Rel (c_room, c_finding, c_courseKnown, c_settledByKnown, c_text, c_told, c_others, c_events, c_seen, c_course, c_trial, c_best, c_sh0, c_sh1, c_sh2, c_sh3, c_settledBy, c_views) (m_latest, m_typed, m_tenants, m_room, m_events, m_gone, m_sim, m_sights, m_drawn, m_forms, m_sizes, m_items, m_moved, m_bytes, m_tenant, m_event, m_sight, m_rows)) : ∃ (r : Int32) (o_finding : Int32) (o_sh0 : jS4) (o_sh1 : jS4) (o_sh2 : jS4) (o_sh3 : jS4) (p_latest : Int32) (p_items : Nat → Int32), fX7_lay v1 v2 v3 v4 c_finding c_sh0 c_sh1 c_sh2 c_sh3 = some (r, o_finding, o_sh0, o_sh1, o_sh2, o_sh3) ∧ fX8_lay v1 v2 v3 v4 m_forms m_sizes m_latest m_items = some (r, p_latest, p_items) ∧ Rel (c_room, o_finding, c_courseKnown, c_settledByKnown, c_text, c_told, c_others, c_events, c_seen, c_course, c_trial, c_best, o_sh0, o_sh1, o_sh2, o_sh3, c_settledBy, c_views) (p_latest, m_typed, m_tenants, m_room, m_events, m_gone, m_sim, m_sights, m_drawn, m_forms, m_sizes, p_items, m_moved, m_bytes, m_tenant, m_event, m_sight, m_rows) := by
  obtain ⟨⟨N, E, Z, r, hN, htx, hty, hT, hr1, hr, hrm, hrm2, hE, hE2, hZ, hZ2, hg, hk, hs⟩, hf, hS⟩ := Rel_i.mp h
  subst htx
  subst hty
  subst hg
  subst hf
  by_cases c1 : 0 ≤ v1 ∧ v1 ≤ 3
  · by_cases c2 : 0 ≤ v2 ∧ v2 ≤ 2
    · obtain ⟨i, hi3, e⟩ := vin (n := 3) (by omega) c1
      subst e
      have hi : i < 4 := by omega
      have e70 : fX7_lay (nI i) v2 v3 v4 c_finding c_sh0 c_sh1 c_sh2 c_sh3 = (fun i => bd1 (fX4_flaw v2 v3 (shG c_sh0 c_sh1 c_sh2 c_sh3 i).1 (shG c_sh0 c_sh1 c_sh2 c_sh3 i).2.1 (shG c_sh0 c_sh1 c_sh2 c_sh3 i).2.2.1) (fun r => if r = 0 then bd1 (fX4_put v3 v4 (shG c_sh0 c_sh1 c_sh2 c_sh3 i).1 (shG c_sh0 c_sh1 c_sh2 c_sh3 i).2.2.2) (fun it => some ((1 : Int32), c_finding, shU c_sh0 c_sh1 c_sh2 c_sh3 i ((shG c_sh0 c_sh1 c_sh2 c_sh3 i).1, (shG c_sh0 c_sh1 c_sh2 c_sh3 i).2.1, (shG c_sh0 c_sh1 c_sh2 c_sh3 i).2.2.1, it) 0, shU c_sh0 c_sh1 c_sh2 c_sh3 i ((shG c_sh0 c_sh1 c_sh2 c_sh3 i).1, (shG c_sh0 c_sh1 c_sh2 c_sh3 i).2.1, (shG c_sh0 c_sh1 c_sh2 c_sh3 i).2.2.1, it) 1, shU c_sh0 c_sh1 c_sh2 c_sh3 i ((shG c_sh0 c_sh1 c_sh2 c_sh3 i).1, (shG c_sh0 c_sh1 c_sh2 c_sh3 i).2.1, (shG c_sh0 c_sh1 c_sh2 c_sh3 i).2.2.1, it) 2, shU c_sh0 c_sh1 c_sh2 c_sh3 i ((shG c_sh0 c_sh1 c_sh2 c_sh3 i).1, (shG c_sh0 c_sh1 c_sh2 c_sh3 i).2.1, (shG c_sh0 c_sh1 c_sh2 c_sh3 i).2.2.1, it) 3)) else bd2 (fX7_found r c_finding) (fun r f => some (r, f, c_sh0, c_sh1, c_sh2, c_sh3)))) i := by
        unfold fX7_lay
        rw [pz_within, bd1_eq, ite01, if_pos c1, pz_within, bd1_eq, ite01, if_pos c2]
        exact sw4_i (fun i => bd1 (fX4_flaw v2 v3 (shG c_sh0 c_sh1 c_sh2 c_sh3 i).1 (shG c_sh0 c_sh1 c_sh2 c_sh3 i).2.1 (shG c_sh0 c_sh1 c_sh2 c_sh3 i).2.2.1) (fun r => if r = 0 then bd1 (fX4_put v3 v4 (shG c_sh0 c_sh1 c_sh2 c_sh3 i).1 (shG c_sh0 c_sh1 c_sh2 c_sh3 i).2.2.2) (fun it => some ((1 : Int32), c_finding, shU c_sh0 c_sh1 c_sh2 c_sh3 i ((shG c_sh0 c_sh1 c_sh2 c_sh3 i).1, (shG c_sh0 c_sh1 c_sh2 c_sh3 i).2.1, (shG c_sh0 c_sh1 c_sh2 c_sh3 i).2.2.1, it) 0, shU c_sh0 c_sh1 c_sh2 c_sh3 i ((shG c_sh0 c_sh1 c_sh2 c_sh3 i).1, (shG c_sh0 c_sh1 c_sh2 c_sh3 i).2.1, (shG c_sh0 c_sh1 c_sh2 c_sh3 i).2.2.1, it) 1, shU c_sh0 c_sh1 c_sh2 c_sh3 i ((shG c_sh0 c_sh1 c_sh2 c_sh3 i).1, (shG c_sh0 c_sh1 c_sh2 c_sh3 i).2.1, (shG c_sh0 c_sh1 c_sh2 c_sh3 i).2.2.1, it) 2, shU c_sh0 c_sh1 c_sh2 c_sh3 i ((shG c_sh0 c_sh1 c_sh2 c_sh3 i).1, (shG c_sh0 c_sh1 c_sh2 c_sh3 i).2.1, (shG c_sh0 c_sh1 c_sh2 c_sh3 i).2.2.1, it) 3)) else bd2 (fX7_found r c_finding) (fun r f => some (r, f, c_sh0, c_sh1, c_sh2, c_sh3)))) hi
      dsimp only at e70
      obtain ⟨f, ef, hf⟩ := flaw_both c_finding v2 v3 hi (hS i hi)
      rw [ef, bd1_eq] at e70
      have e80 : fX8_lay (nI i) v2 v3 v4 m_forms m_sizes c_finding m_items = bd2 (fX8_lacks (nI i) v2 v3 m_forms m_sizes c_finding) (fun r_3 c_latest_4 =>
          if r_3 = (0 : Int32) then bd1 (fX8_cut v2 v4) (fun r_5 => wrI 240 m_items (((60 : Int32) * nI i) + v3) r_5 (fun c_items_6 => some ((1 : Int32), c_latest_4, c_items_6))) else some (r_3, c_latest_4, m_items)) := by
        unfold fX8_lay
        rw [ih_sheet8, bd1_eq, ite01, if_pos c1, pz_inL v2 0 2 _ _ (by decide) (by decide), bd1_eq, ite01, if_pos c2]
      rcases hf with ⟨q0, q1, q2, q3, q4, q5, k, j, q6, q7, q8, q9, q10, q11⟩ | ⟨q0, q1, q2⟩
      · subst q0
        subst q10
        rw [if_pos rfl, cm_put (by omega), bd1_eq] at e70
        rw [q1, bd2_eq, if_pos rfl, mm_cut, bd1_eq, f60, pz_wr (by omega) (by omega)] at e80
        have hS' := RelS_u (i := i) (x := ((shG c_sh0 c_sh1 c_sh2 c_sh3 i).1, (shG c_sh0 c_sh1 c_sh2 c_sh3 i).2.1, (shG c_sh0 c_sh1 c_sh2 c_sh3 i).2.2.1, upd (shG c_sh0 c_sh1 c_sh2 c_sh3 i).2.2.2 j (cutV (shG c_sh0 c_sh1 c_sh2 c_sh3 i).1 v4))) (fo' := m_forms) (sz' := m_sizes) (it' := upd m_items (60 * i + j) (cutV v2 v4)) hS (Or.inl ⟨q2, q5, q4, k, q6, q7, q8, fun x hx => by
          show upd (shG c_sh0 c_sh1 c_sh2 c_sh3 i).2.2.2 j (cutV (shG c_sh0 c_sh1 c_sh2 c_sh3 i).1 v4) x = _
          rw [upd_at, upd_at, q3]
          by_cases e : x = j
          · rw [if_pos e, if_pos (by omega)]
          · rw [if_neg e, if_neg (by omega)]; exact q11 x hx⟩) (fun y hy hne => ⟨rfl, rfl, fun z hz => pk_un (by omega)⟩)
        exact ⟨_, _, _, _, _, _, _, _, e70, e80, Rel_i.mpr ⟨⟨N, E, Z, r, hN, rfl, rfl, hT, hr1, hr, hrm, hrm2, hE, hE2, hZ, hZ2, rfl, hk, hs⟩, rfl, hS'⟩⟩
      · rw [if_neg q0] at e70
        rw [q2, bd2_eq, if_neg q1] at e80
        have e7 : fX7_lay (nI i) v2 v3 v4 c_finding c_sh0 c_sh1 c_sh2 c_sh3 = some (-10 - f, f, c_sh0, c_sh1, c_sh2, c_sh3) := e70
        exact ⟨_, _, _, _, _, _, _, _, e7, e80, Rel_i.mpr ⟨⟨N, E, Z, r, hN, rfl, rfl, hT, hr1, hr, hrm, hrm2, hE, hE2, hZ, hZ2, rfl, hk, hs⟩, rfl, hS⟩⟩
    · have e7 : fX7_lay v1 v2 v3 v4 c_finding c_sh0 c_sh1 c_sh2 c_sh3 = some (-2, c_finding, c_sh0, c_sh1, c_sh2, c_sh3) := by
        unfold fX7_lay
        rw [pz_within, bd1_eq, ite01, if_pos c1, pz_within, bd1_eq, ite01, if_neg c2]
      have e8 : fX8_lay v1 v2 v3 v4 m_forms m_sizes c_finding m_items = some (-2, c_finding, m_items) := by
        unfold fX8_lay
        rw [ih_sheet8, bd1_eq, ite01, if_pos c1, pz_inL v2 0 2 _ _ (by decide) (by decide), bd1_eq, ite01, if_neg c2]
      exact ⟨_, _, _, _, _, _, _, _, e7, e8, Rel_i.mpr ⟨⟨N, E, Z, r, hN, rfl, rfl, hT, hr1, hr, hrm, hrm2, hE, hE2, hZ, hZ2, rfl, hk, hs⟩, rfl, hS⟩⟩
  · have e7 : fX7_lay v1 v2 v3 v4 c_finding c_sh0 c_sh1 c_sh2 c_sh3 = some (-2, c_finding, c_sh0, c_sh1, c_sh2, c_sh3) := by
      unfold fX7_lay
      rw [pz_within, bd1_eq, ite01, if_neg c1]
    have e8 : fX8_lay v1 v2 v3 v4 m_forms m_sizes c_finding m_items = some (-2, c_finding, m_items) := by
      unfold fX8_lay
      rw [ih_sheet8, bd1_eq, ite01, if_neg c1]
    exact ⟨_, _, _, _, _, _, _, _, e7, e8, Rel_i.mpr ⟨⟨N, E, Z, r, hN, rfl, rfl, hT, hr1, hr, hrm, hrm2, hE, hE2, hZ, hZ2, rfl, hk, hs⟩, rfl, hS⟩⟩
theorem rl_get (v1 : Int32) (v2 : Int32) (v3 : Int32) {c_room : Int32} {c_finding : Int32} {c_courseKnown : Int32} {c_settledByKnown : Int32} {c_text : jT1} {c_told : jT3} {c_others : jT3} {c_events : jT3} {c_seen : jT3} {c_course : jT11} {c_trial : jT11} {c_best : jB3} {c_sh0 : jS4} {c_sh1 : jS4} {c_sh2 : jS4} {c_sh3 : jS4} {c_settledBy : Nat → Int32} {c_views : Nat → Int32} {m_latest : Int32} {m_typed : Int32} {m_tenants : Int32} {m_room : Int32} {m_events : Int32} {m_gone : Int32} {m_sim : jT11} {m_sights : Int32} {m_drawn : Int32} {m_forms : Nat → Int32} {m_sizes : Nat → Int32} {m_items : Nat → Int32} {m_moved : Nat → Int32} {m_bytes : Nat → Int32} {m_tenant : Nat → Int32} {m_event : Nat → Int32} {m_sight : Nat → Int32} {m_rows : Nat → Int64} (h : Rel (c_room, c_finding, c_courseKnown, c_settledByKnown, c_text, c_told, c_others, c_events, c_seen, c_course, c_trial, c_best, c_sh0, c_sh1, c_sh2, c_sh3, c_settledBy, c_views) (m_latest, m_typed, m_tenants, m_room, m_events, m_gone, m_sim, m_sights, m_drawn, m_forms, m_sizes, m_items, m_moved, m_bytes, m_tenant, m_event, m_sight, m_rows)) : ∃ (r : Int32) (o_finding : Int32) (p_latest : Int32), fX7_get v1 v2 v3 c_sh0 c_sh1 c_sh2 c_sh3 c_finding = some (r, o_finding) ∧ fX8_get v1 v2 v3 m_forms m_sizes m_items m_latest = some (r, p_latest) ∧ Rel (c_room, o_finding, c_courseKnown, c_settledByKnown, c_text, c_told, c_others, c_events, c_seen, c_course, c_trial, c_best, c_sh0, c_sh1, c_sh2, c_sh3, c_settledBy, c_views) (p_latest, m_typed, m_tenants, m_room, m_events, m_gone, m_sim, m_sights, m_drawn, m_forms, m_sizes, m_items, m_moved, m_bytes, m_tenant, m_event, m_sight, m_rows) := by
  obtain ⟨⟨N, E, Z, r, hN, htx, hty, hT, hr1, hr, hrm, hrm2, hE, hE2, hZ, hZ2, hg, hk, hs⟩, hf, hS⟩ := Rel_i.mp h
  subst htx
  subst hty
  subst hg
  subst hf
  by_cases c1 : 0 ≤ v1 ∧ v1 ≤ 3
  · by_cases c2 : 0 ≤ v2 ∧ v2 ≤ 2
    · obtain ⟨i, hi3, e⟩ := vin (n := 3) (by omega) c1
      subst e
      have hi : i < 4 := by omega
      have e70 : fX7_get (nI i) v2 v3 c_sh0 c_sh1 c_sh2 c_sh3 c_finding = (fun i => bd1 (fX4_flaw v2 v3 (shG c_sh0 c_sh1 c_sh2 c_sh3 i).1 (shG c_sh0 c_sh1 c_sh2 c_sh3 i).2.1 (shG c_sh0 c_sh1 c_sh2 c_sh3 i).2.2.1) (fun r => if r = 0 then rdA 60 (shG c_sh0 c_sh1 c_sh2 c_sh3 i).2.2.2 v3 (fun v => some (v, c_finding)) else some ((-2147483648 : Int32), r))) i := by
        unfold fX7_get
        rw [pz_within, bd1_eq, ite01, if_pos c1, pz_within, bd1_eq, ite01, if_pos c2]
        exact sw4_i (fun i => bd1 (fX4_flaw v2 v3 (shG c_sh0 c_sh1 c_sh2 c_sh3 i).1 (shG c_sh0 c_sh1 c_sh2 c_sh3 i).2.1 (shG c_sh0 c_sh1 c_sh2 c_sh3 i).2.2.1) (fun r => if r = 0 then rdA 60 (shG c_sh0 c_sh1 c_sh2 c_sh3 i).2.2.2 v3 (fun v => some (v, c_finding)) else some ((-2147483648 : Int32), r))) hi
      dsimp only at e70
      obtain ⟨f, ef, hf⟩ := flaw_both c_finding v2 v3 hi (hS i hi)
      rw [ef, bd1_eq] at e70
      have e80 : fX8_get (nI i) v2 v3 m_forms m_sizes m_items c_finding = bd2 (fX8_lacks (nI i) v2 v3 m_forms m_sizes c_finding) (fun r_3 c_latest_4 =>
          if r_3 = (0 : Int32) then rdA 240 m_items (((60 : Int32) * nI i) + v3) (fun v_5 => some (v_5, c_latest_4)) else some ((-2147483648 : Int32), c_latest_4)) := by
        unfold fX8_get
        rw [ih_sheet8, bd1_eq, ite01, if_pos c1, pz_inL v2 0 2 _ _ (by decide) (by decide), bd1_eq, ite01, if_pos c2]
      rcases hf with ⟨q0, q1, q2, q3, q4, q5, k, j, q6, q7, q8, q9, q10, q11⟩ | ⟨q0, q1, q2⟩
      · subst q0
        subst q10
        rw [if_pos rfl, pz_rd (by omega) (by omega), q11 j q9] at e70
        rw [q1, bd2_eq, if_pos rfl, f60, pz_rd (by omega) (by omega)] at e80
        exact ⟨_, _, _, e70, e80, Rel_i.mpr ⟨⟨N, E, Z, r, hN, rfl, rfl, hT, hr1, hr, hrm, hrm2, hE, hE2, hZ, hZ2, rfl, hk, hs⟩, rfl, hS⟩⟩
      · rw [if_neg q0] at e70
        rw [q2, bd2_eq, if_neg q1] at e80
        exact ⟨_, _, _, e70, e80, Rel_i.mpr ⟨⟨N, E, Z, r, hN, rfl, rfl, hT, hr1, hr, hrm, hrm2, hE, hE2, hZ, hZ2, rfl, hk, hs⟩, rfl, hS⟩⟩
    · have e7 : fX7_get v1 v2 v3 c_sh0 c_sh1 c_sh2 c_sh3 c_finding = some (-2147483648, c_finding) := by
        unfold fX7_get
        rw [pz_within, bd1_eq, ite01, if_pos c1, pz_within, bd1_eq, ite01, if_neg c2]
      have e8 : fX8_get v1 v2 v3 m_forms m_sizes m_items c_finding = some (-2147483648, c_finding) := by
        unfold fX8_get
        rw [ih_sheet8, bd1_eq, ite01, if_pos c1, pz_inL v2 0 2 _ _ (by decide) (by decide), bd1_eq, ite01, if_neg c2]
      exact ⟨_, _, _, e7, e8, Rel_i.mpr ⟨⟨N, E, Z, r, hN, rfl, rfl, hT, hr1, hr, hrm, hrm2, hE, hE2, hZ, hZ2, rfl, hk, hs⟩, rfl, hS⟩⟩
  · have e7 : fX7_get v1 v2 v3 c_sh0 c_sh1 c_sh2 c_sh3 c_finding = some (-2147483648, c_finding) := by
      unfold fX7_get
      rw [pz_within, bd1_eq, ite01, if_neg c1]
    have e8 : fX8_get v1 v2 v3 m_forms m_sizes m_items c_finding = some (-2147483648, c_finding) := by
      unfold fX8_get
      rw [ih_sheet8, bd1_eq, ite01, if_neg c1]
    exact ⟨_, _, _, e7, e8, Rel_i.mpr ⟨⟨N, E, Z, r, hN, rfl, rfl, hT, hr1, hr, hrm, hrm2, hE, hE2, hZ, hZ2, rfl, hk, hs⟩, rfl, hS⟩⟩
