def sR (i : Nat) (sh : jS4) (fo sz it : Nat → Int32) : Prop :=
  (sh.2.2.1 = 0 ∧ (sh.1 = 0 ∨ sh.1 = 1 ∨ sh.1 = 2) ∧ fo i = sh.1 ∧ ∃ k, k ≤ 60 ∧ sh.2.1 = nI k ∧ sz i = nI k ∧ ∀ j, j < k → sh.2.2.2 j = it (60 * i + j)) ∨ (¬ sh.2.2.1 = 0 ∧ fo i = -1)
def shG (a b c d : jS4) (i : Nat) : jS4 := if i = 0 then a else if i = 1 then b else if i = 2 then c else d
def RelS (a b c d : jS4) (fo sz it : Nat → Int32) : Prop := ∀ i, i < 4 → sR i (shG a b c d i) fo sz it
def RelH (N : Nat) (E : sT) (Z : sZ) (r : Nat) (rm ck sk : Int32) (tx : jT1) (told ev se : jT3) (C : jT11) (sb : Nat → Int32) (ty rm2 en gone sg : Int32) (bs ev2 si : Nat → Int32) : Prop :=
  N ≤ 31 ∧ tx = (nI N, bs) ∧ ty = nI N ∧ InT3 (tx_T bs N) told ∧ 1 ≤ r ∧ r ≤ 8 ∧ rm = nI r ∧ rm2 = nI r ∧ InE3 E ev ∧ ME E en ev2 ∧ InZ Z se ∧ MZ Z sg si ∧ gone = 0 ∧ KC (tx_T bs N) E r ck C ∧ SBI (tx_T bs N) E r sk sb
def Rel (x : tSC) (y : tSM) : Prop :=
  (∃ N E Z r, RelH N E Z r x.1 x.2.2.1 x.2.2.2.1 x.2.2.2.2.1 x.2.2.2.2.2.1 x.2.2.2.2.2.2.2.1 x.2.2.2.2.2.2.2.2.1 x.2.2.2.2.2.2.2.2.2.1 x.2.2.2.2.2.2.2.2.2.2.2.2.2.2.2.2.1 y.2.1 y.2.2.2.1 y.2.2.2.2.1 y.2.2.2.2.2.1 y.2.2.2.2.2.2.2.1 y.2.2.2.2.2.2.2.2.2.2.2.2.2.1 y.2.2.2.2.2.2.2.2.2.2.2.2.2.2.2.1 y.2.2.2.2.2.2.2.2.2.2.2.2.2.2.2.2.1) ∧
  x.2.1 = y.1 ∧ RelS x.2.2.2.2.2.2.2.2.2.2.2.2.1 x.2.2.2.2.2.2.2.2.2.2.2.2.2.1 x.2.2.2.2.2.2.2.2.2.2.2.2.2.2.1 x.2.2.2.2.2.2.2.2.2.2.2.2.2.2.2.1 y.2.2.2.2.2.2.2.2.2.1 y.2.2.2.2.2.2.2.2.2.2.1 y.2.2.2.2.2.2.2.2.2.2.2.1
theorem Rel_i {c_room : Int32} {c_finding : Int32} {c_courseKnown : Int32} {c_settledByKnown : Int32} {c_text : jT1} {c_told : jT3} {c_others : jT3} {c_events : jT3} {c_seen : jT3} {c_course : jT11} {c_trial : jT11} {c_best : jB3} {c_sh0 : jS4} {c_sh1 : jS4} {c_sh2 : jS4} {c_sh3 : jS4} {c_settledBy : Nat → Int32} {c_views : Nat → Int32} {m_latest : Int32} {m_typed : Int32} {m_tenants : Int32} {m_room : Int32} {m_events : Int32} {m_gone : Int32} {m_sim : jT11} {m_sights : Int32} {m_drawn : Int32} {m_forms : Nat → Int32} {m_sizes : Nat → Int32} {m_items : Nat → Int32} {m_moved : Nat → Int32} {m_bytes : Nat → Int32} {m_tenant : Nat → Int32} {m_event : Nat → Int32} {m_sight : Nat → Int32} {m_rows : Nat → Int64} : Rel (c_room, c_finding, c_courseKnown, c_settledByKnown, c_text, c_told, c_others, c_events, c_seen, c_course, c_trial, c_best, c_sh0, c_sh1, c_sh2, c_sh3, c_settledBy, c_views) (m_latest, m_typed, m_tenants, m_room, m_events, m_gone, m_sim, m_sights, m_drawn, m_forms, m_sizes, m_items, m_moved, m_bytes, m_tenant, m_event, m_sight, m_rows) ↔ ((∃ N E Z r, RelH N E Z r c_room c_courseKnown c_settledByKnown c_text c_told c_events c_seen c_course c_settledBy m_typed m_room m_events m_gone m_sights m_bytes m_event m_sight) ∧ c_finding = m_latest ∧ RelS c_sh0 c_sh1 c_sh2 c_sh3 m_forms m_sizes m_items) := Iff.rfl
abbrev iSC : tSC := (2, 0, 0, 0, (0, (fun _ => 0)), (0, (fun _ => 0), (fun _ => 0), (fun _ => 0)), (0, (fun _ => 0), (fun _ => 0), (fun _ => 0)), (0, (fun _ => 0), (fun _ => 0), (fun _ => 0)), (0, (fun _ => 0), (fun _ => 0), (fun _ => 0)), (0, (fun _ => 0), (fun _ => 0), (fun _ => 0), (fun _ => 0), (fun _ => 0), (fun _ => 0), (fun _ => 0), (fun _ => 0), (fun _ => 0), (fun _ => 0), (fun _ => 0)), (0, (fun _ => 0), (fun _ => 0), (fun _ => 0), (fun _ => 0), (fun _ => 0), (fun _ => 0), (fun _ => 0), (fun _ => 0), (fun _ => 0), (fun _ => 0), (fun _ => 0)), (0, 0, 0), (0, 0, 1, (fun _ => 0)), (0, 0, 1, (fun _ => 0)), (0, 0, 1, (fun _ => 0)), (0, 0, 1, (fun _ => 0)), (fun _ => 0), (fun _ => 0))
abbrev iSM : tSM := (0, 0, 0, 2, 0, 0, (0, (fun _ => 0), (fun _ => 0), (fun _ => 0), (fun _ => 0), (fun _ => 0), (fun _ => 0), (fun _ => 0), (fun _ => 0), (fun _ => 0), (fun _ => 0), (fun _ => 0)), 0, 0, (upd (upd (upd (upd (fun _ => 0) 0 (-1)) 1 (-1)) 2 (-1)) 3 (-1)), (fun _ => 0), (fun _ => 0), (fun _ => 0), (fun _ => 0), (fun _ => 0), (fun _ => 0), (fun _ => 0), (fun _ => 0))
theorem rel_init : Rel iSC iSM := by
  have hE0 : InE3 (0, fun _ => 0, fun _ => 0, fun _ => 0) (0, (fun _ => 0), (fun _ => 0), (fun _ => 0)) := ⟨by decide, rfl, fun e he => absurd he (Nat.not_lt_zero e)⟩
  have hE1 : ME (0, fun _ => 0, fun _ => 0, fun _ => 0) 0 (fun _ => 0) := ⟨by decide, rfl, fun e he => absurd he (Nat.not_lt_zero e)⟩
  have hZ0 : InZ (0, fun _ => 0, fun _ => 0, fun _ => 0) (0, (fun _ => 0), (fun _ => 0), (fun _ => 0)) := ⟨by decide, rfl, fun e he => absurd he (Nat.not_lt_zero e)⟩
  have hZ1 : MZ (0, fun _ => 0, fun _ => 0, fun _ => 0) 0 (fun _ => 0) := ⟨by decide, rfl, fun e he => absurd he (Nat.not_lt_zero e)⟩
  have hn0 : tx_n (fun _ => 0) 0 = 0 := by decide
  have hT0 : InT3 (tx_T (fun _ => 0) 0) (0, (fun _ => 0), (fun _ => 0), (fun _ => 0)) := by
    refine ⟨?_, ?_, fun t ht => ?_⟩
    · show tx_n (fun _ => 0) 0 ≤ 8; rw [hn0]; omega
    · show (0 : Int32) = nI (tx_n (fun _ => 0) 0); rw [hn0]; rfl
    · have : t < tx_n (fun _ => 0) 0 := ht
      rw [hn0] at this
      omega
  refine Rel_i.mpr ⟨⟨0, (0, fun _ => 0, fun _ => 0, fun _ => 0), (0, fun _ => 0, fun _ => 0, fun _ => 0), 2, by omega, rfl, rfl, hT0, by omega, by omega, rfl, rfl, hE0, hE1, hZ0, hZ1, rfl, Or.inl rfl, Or.inl rfl⟩, rfl, fun i hi => Or.inr ?_⟩
  match i, hi with
  | 0, _ => exact ⟨by decide, by decide⟩
  | 1, _ => exact ⟨by decide, by decide⟩
  | 2, _ => exact ⟨by decide, by decide⟩
  | 3, _ => exact ⟨by decide, by decide⟩
theorem rl_at (v1 : Int32) (v2 : Int32) (v3 : Int32) {c_room : Int32} {c_finding : Int32} {c_courseKnown : Int32} {c_settledByKnown : Int32} {c_text : jT1} {c_told : jT3} {c_others : jT3} {c_events : jT3} {c_seen : jT3} {c_course : jT11} {c_trial : jT11} {c_best : jB3} {c_sh0 : jS4} {c_sh1 : jS4} {c_sh2 : jS4} {c_sh3 : jS4} {c_settledBy : Nat → Int32} {c_views : Nat → Int32} {m_latest : Int32} {m_typed : Int32} {m_tenants : Int32} {m_room : Int32} {m_events : Int32} {m_gone : Int32} {m_sim : jT11} {m_sights : Int32} {m_drawn : Int32} {m_forms : Nat → Int32} {m_sizes : Nat → Int32} {m_items : Nat → Int32} {m_moved : Nat → Int32} {m_bytes : Nat → Int32} {m_tenant : Nat → Int32} {m_event : Nat → Int32} {m_sight : Nat → Int32} {m_rows : Nat → Int64} (h : Rel (c_room, c_finding, c_courseKnown, c_settledByKnown, c_text, c_told, c_others, c_events, c_seen, c_course, c_trial, c_best, c_sh0, c_sh1, c_sh2, c_sh3, c_settledBy, c_views) (m_latest, m_typed, m_tenants, m_room, m_events, m_gone, m_sim, m_sights, m_drawn, m_forms, m_sizes, m_items, m_moved, m_bytes, m_tenant, m_event, m_sight, m_rows)) : ∃ (r : Int32) (o_courseKnown : Int32) (o_course : jT11) (p_tenants : Int32) (p_sim : jT11) (p_tenant : Nat → Int32), fX7_at v1 v2 v3 c_room c_told c_events c_courseKnown c_course = some (r, o_courseKnown, o_course) ∧ fX8_at v1 v2 v3 m_typed m_room m_events m_gone m_bytes m_event m_tenants m_sim m_tenant = some (r, p_tenants, p_sim, p_tenant) ∧ Rel (c_room, c_finding, o_courseKnown, c_settledByKnown, c_text, c_told, c_others, c_events, c_seen, o_course, c_trial, c_best, c_sh0, c_sh1, c_sh2, c_sh3, c_settledBy, c_views) (m_latest, m_typed, p_tenants, m_room, m_events, m_gone, p_sim, m_sights, m_drawn, m_forms, m_sizes, m_items, m_moved, m_bytes, p_tenant, m_event, m_sight, m_rows) := by
  obtain ⟨⟨N, E, Z, r, hN, htx, hty, hT, hr1, hr, hrm, hrm2, hE, hE2, hZ, hZ2, hg, hk, hs⟩, hf, hS⟩ := Rel_i.mp h
  subst htx
  subst hty
  subst hg
  obtain ⟨ck', C', e7, k'⟩ := c7_at hT hE hrm hk v1 v2 v3
  obtain ⟨tn', S', te', e8⟩ := m8_at (b := m_bytes) (tn := m_tenants) (S := m_sim) (te := m_tenant) hN hE2 hrm2 hr v1 v2 v3
  exact ⟨_, _, _, _, _, _, e7, e8, Rel_i.mpr ⟨⟨N, E, Z, r, hN, rfl, rfl, hT, hr1, hr, hrm, hrm2, hE, hE2, hZ, hZ2, rfl, k', hs⟩, hf, hS⟩⟩
theorem rl_live (v1 : Int32) (v2 : Int32) {c_room : Int32} {c_finding : Int32} {c_courseKnown : Int32} {c_settledByKnown : Int32} {c_text : jT1} {c_told : jT3} {c_others : jT3} {c_events : jT3} {c_seen : jT3} {c_course : jT11} {c_trial : jT11} {c_best : jB3} {c_sh0 : jS4} {c_sh1 : jS4} {c_sh2 : jS4} {c_sh3 : jS4} {c_settledBy : Nat → Int32} {c_views : Nat → Int32} {m_latest : Int32} {m_typed : Int32} {m_tenants : Int32} {m_room : Int32} {m_events : Int32} {m_gone : Int32} {m_sim : jT11} {m_sights : Int32} {m_drawn : Int32} {m_forms : Nat → Int32} {m_sizes : Nat → Int32} {m_items : Nat → Int32} {m_moved : Nat → Int32} {m_bytes : Nat → Int32} {m_tenant : Nat → Int32} {m_event : Nat → Int32} {m_sight : Nat → Int32} {m_rows : Nat → Int64} (h : Rel (c_room, c_finding, c_courseKnown, c_settledByKnown, c_text, c_told, c_others, c_events, c_seen, c_course, c_trial, c_best, c_sh0, c_sh1, c_sh2, c_sh3, c_settledBy, c_views) (m_latest, m_typed, m_tenants, m_room, m_events, m_gone, m_sim, m_sights, m_drawn, m_forms, m_sizes, m_items, m_moved, m_bytes, m_tenant, m_event, m_sight, m_rows)) : ∃ (r : Int32) (o_courseKnown : Int32) (o_course : jT11) (p_tenants : Int32) (p_sim : jT11) (p_tenant : Nat → Int32), fX7_live v1 v2 c_room c_told c_events c_courseKnown c_course = some (r, o_courseKnown, o_course) ∧ fX8_live v1 v2 m_typed m_room m_events m_gone m_bytes m_event m_tenants m_sim m_tenant = some (r, p_tenants, p_sim, p_tenant) ∧ Rel (c_room, c_finding, o_courseKnown, c_settledByKnown, c_text, c_told, c_others, c_events, c_seen, o_course, c_trial, c_best, c_sh0, c_sh1, c_sh2, c_sh3, c_settledBy, c_views) (m_latest, m_typed, p_tenants, m_room, m_events, m_gone, p_sim, m_sights, m_drawn, m_forms, m_sizes, m_items, m_moved, m_bytes, p_tenant, m_event, m_sight, m_rows) := by
  obtain ⟨⟨N, E, Z, r, hN, htx, hty, hT, hr1, hr, hrm, hrm2, hE, hE2, hZ, hZ2, hg, hk, hs⟩, hf, hS⟩ := Rel_i.mp h
  subst htx
  subst hty
  subst hg
  obtain ⟨ck', C', e7, k'⟩ := c7_live hT hE hrm hk v1 v2
  obtain ⟨tn', S', te', e8⟩ := m8_live (b := m_bytes) (tn := m_tenants) (S := m_sim) (te := m_tenant) hN hE2 hrm2 hr v1 v2
  exact ⟨_, _, _, _, _, _, e7, e8, Rel_i.mpr ⟨⟨N, E, Z, r, hN, rfl, rfl, hT, hr1, hr, hrm, hrm2, hE, hE2, hZ, hZ2, rfl, k', hs⟩, hf, hS⟩⟩
theorem rl_lift (v1 : Int32) {c_room : Int32} {c_finding : Int32} {c_courseKnown : Int32} {c_settledByKnown : Int32} {c_text : jT1} {c_told : jT3} {c_others : jT3} {c_events : jT3} {c_seen : jT3} {c_course : jT11} {c_trial : jT11} {c_best : jB3} {c_sh0 : jS4} {c_sh1 : jS4} {c_sh2 : jS4} {c_sh3 : jS4} {c_settledBy : Nat → Int32} {c_views : Nat → Int32} {m_latest : Int32} {m_typed : Int32} {m_tenants : Int32} {m_room : Int32} {m_events : Int32} {m_gone : Int32} {m_sim : jT11} {m_sights : Int32} {m_drawn : Int32} {m_forms : Nat → Int32} {m_sizes : Nat → Int32} {m_items : Nat → Int32} {m_moved : Nat → Int32} {m_bytes : Nat → Int32} {m_tenant : Nat → Int32} {m_event : Nat → Int32} {m_sight : Nat → Int32} {m_rows : Nat → Int64} (h : Rel (c_room, c_finding, c_courseKnown, c_settledByKnown, c_text, c_told, c_others, c_events, c_seen, c_course, c_trial, c_best, c_sh0, c_sh1, c_sh2, c_sh3, c_settledBy, c_views) (m_latest, m_typed, m_tenants, m_room, m_events, m_gone, m_sim, m_sights, m_drawn, m_forms, m_sizes, m_items, m_moved, m_bytes, m_tenant, m_event, m_sight, m_rows)) : ∃ (r : Int32) (o_courseKnown : Int32) (o_course : jT11) (p_tenants : Int32) (p_sim : jT11) (p_tenant : Nat → Int32), fX7_lift v1 c_room c_told c_events c_courseKnown c_course = some (r, o_courseKnown, o_course) ∧ fX8_lift v1 m_typed m_room m_events m_gone m_bytes m_event m_tenants m_sim m_tenant = some (r, p_tenants, p_sim, p_tenant) ∧ Rel (c_room, c_finding, o_courseKnown, c_settledByKnown, c_text, c_told, c_others, c_events, c_seen, o_course, c_trial, c_best, c_sh0, c_sh1, c_sh2, c_sh3, c_settledBy, c_views) (m_latest, m_typed, p_tenants, m_room, m_events, m_gone, p_sim, m_sights, m_drawn, m_forms, m_sizes, m_items, m_moved, m_bytes, p_tenant, m_event, m_sight, m_rows) := by
  obtain ⟨⟨N, E, Z, r, hN, htx, hty, hT, hr1, hr, hrm, hrm2, hE, hE2, hZ, hZ2, hg, hk, hs⟩, hf, hS⟩ := Rel_i.mp h
  subst htx
  subst hty
  subst hg
  obtain ⟨ck', C', e7, k'⟩ := c7_lift hT hE hrm hk v1
  obtain ⟨tn', S', te', e8⟩ := m8_lift (b := m_bytes) (tn := m_tenants) (S := m_sim) (te := m_tenant) hN hE2 hrm2 hr v1
  exact ⟨_, _, _, _, _, _, e7, e8, Rel_i.mpr ⟨⟨N, E, Z, r, hN, rfl, rfl, hT, hr1, hr, hrm, hrm2, hE, hE2, hZ, hZ2, rfl, k', hs⟩, hf, hS⟩⟩
theorem rl_ends (v1 : Int32) (v2 : Int32) {c_room : Int32} {c_finding : Int32} {c_courseKnown : Int32} {c_settledByKnown : Int32} {c_text : jT1} {c_told : jT3} {c_others : jT3} {c_events : jT3} {c_seen : jT3} {c_course : jT11} {c_trial : jT11} {c_best : jB3} {c_sh0 : jS4} {c_sh1 : jS4} {c_sh2 : jS4} {c_sh3 : jS4} {c_settledBy : Nat → Int32} {c_views : Nat → Int32} {m_latest : Int32} {m_typed : Int32} {m_tenants : Int32} {m_room : Int32} {m_events : Int32} {m_gone : Int32} {m_sim : jT11} {m_sights : Int32} {m_drawn : Int32} {m_forms : Nat → Int32} {m_sizes : Nat → Int32} {m_items : Nat → Int32} {m_moved : Nat → Int32} {m_bytes : Nat → Int32} {m_tenant : Nat → Int32} {m_event : Nat → Int32} {m_sight : Nat → Int32} {m_rows : Nat → Int64} (h : Rel (c_room, c_finding, c_courseKnown, c_settledByKnown, c_text, c_told, c_others, c_events, c_seen, c_course, c_trial, c_best, c_sh0, c_sh1, c_sh2, c_sh3, c_settledBy, c_views) (m_latest, m_typed, m_tenants, m_room, m_events, m_gone, m_sim, m_sights, m_drawn, m_forms, m_sizes, m_items, m_moved, m_bytes, m_tenant, m_event, m_sight, m_rows)) : ∃ (r : Int32) (o_courseKnown : Int32) (o_course : jT11) (p_tenants : Int32) (p_sim : jT11) (p_tenant : Nat → Int32), fX7_ends v1 v2 c_room c_told c_events c_courseKnown c_course = some (r, o_courseKnown, o_course) ∧ fX8_ends v1 v2 m_typed m_room m_events m_gone m_bytes m_event m_tenants m_sim m_tenant = some (r, p_tenants, p_sim, p_tenant) ∧ Rel (c_room, c_finding, o_courseKnown, c_settledByKnown, c_text, c_told, c_others, c_events, c_seen, o_course, c_trial, c_best, c_sh0, c_sh1, c_sh2, c_sh3, c_settledBy, c_views) (m_latest, m_typed, p_tenants, m_room, m_events, m_gone, p_sim, m_sights, m_drawn, m_forms, m_sizes, m_items, m_moved, m_bytes, p_tenant, m_event, m_sight, m_rows) := by
  obtain ⟨⟨N, E, Z, r, hN, htx, hty, hT, hr1, hr, hrm, hrm2, hE, hE2, hZ, hZ2, hg, hk, hs⟩, hf, hS⟩ := Rel_i.mp h
  subst htx
  subst hty
  subst hg
  obtain ⟨ck', C', e7, k'⟩ := c7_ends hT hE hrm hk v1 v2
  obtain ⟨tn', S', te', e8⟩ := m8_ends (b := m_bytes) (tn := m_tenants) (S := m_sim) (te := m_tenant) hN hE2 hrm2 hr v1 v2
  exact ⟨_, _, _, _, _, _, e7, e8, Rel_i.mpr ⟨⟨N, E, Z, r, hN, rfl, rfl, hT, hr1, hr, hrm, hrm2, hE, hE2, hZ, hZ2, rfl, k', hs⟩, hf, hS⟩⟩
theorem rl_sum (v1 : Int32) {c_room : Int32} {c_finding : Int32} {c_courseKnown : Int32} {c_settledByKnown : Int32} {c_text : jT1} {c_told : jT3} {c_others : jT3} {c_events : jT3} {c_seen : jT3} {c_course : jT11} {c_trial : jT11} {c_best : jB3} {c_sh0 : jS4} {c_sh1 : jS4} {c_sh2 : jS4} {c_sh3 : jS4} {c_settledBy : Nat → Int32} {c_views : Nat → Int32} {m_latest : Int32} {m_typed : Int32} {m_tenants : Int32} {m_room : Int32} {m_events : Int32} {m_gone : Int32} {m_sim : jT11} {m_sights : Int32} {m_drawn : Int32} {m_forms : Nat → Int32} {m_sizes : Nat → Int32} {m_items : Nat → Int32} {m_moved : Nat → Int32} {m_bytes : Nat → Int32} {m_tenant : Nat → Int32} {m_event : Nat → Int32} {m_sight : Nat → Int32} {m_rows : Nat → Int64} (h : Rel (c_room, c_finding, c_courseKnown, c_settledByKnown, c_text, c_told, c_others, c_events, c_seen, c_course, c_trial, c_best, c_sh0, c_sh1, c_sh2, c_sh3, c_settledBy, c_views) (m_latest, m_typed, m_tenants, m_room, m_events, m_gone, m_sim, m_sights, m_drawn, m_forms, m_sizes, m_items, m_moved, m_bytes, m_tenant, m_event, m_sight, m_rows)) : ∃ (r : Int32) (o_courseKnown : Int32) (o_course : jT11) (p_tenants : Int32) (p_sim : jT11) (p_tenant : Nat → Int32), fX7_sum v1 c_room c_told c_events c_courseKnown c_course = some (r, o_courseKnown, o_course) ∧ fX8_sum v1 m_typed m_room m_events m_gone m_bytes m_event m_tenants m_sim m_tenant = some (r, p_tenants, p_sim, p_tenant) ∧ Rel (c_room, c_finding, o_courseKnown, c_settledByKnown, c_text, c_told, c_others, c_events, c_seen, o_course, c_trial, c_best, c_sh0, c_sh1, c_sh2, c_sh3, c_settledBy, c_views) (m_latest, m_typed, p_tenants, m_room, m_events, m_gone, p_sim, m_sights, m_drawn, m_forms, m_sizes, m_items, m_moved, m_bytes, p_tenant, m_event, m_sight, m_rows) := by
  obtain ⟨⟨N, E, Z, r, hN, htx, hty, hT, hr1, hr, hrm, hrm2, hE, hE2, hZ, hZ2, hg, hk, hs⟩, hf, hS⟩ := Rel_i.mp h
  subst htx
  subst hty
  subst hg
  obtain ⟨ck', C', e7, k'⟩ := c7_sum hT hE hrm hk v1
  obtain ⟨tn', S', te', e8⟩ := m8_sum (b := m_bytes) (tn := m_tenants) (S := m_sim) (te := m_tenant) hN hE2 hrm2 hr v1
  exact ⟨_, _, _, _, _, _, e7, e8, Rel_i.mpr ⟨⟨N, E, Z, r, hN, rfl, rfl, hT, hr1, hr, hrm, hrm2, hE, hE2, hZ, hZ2, rfl, k', hs⟩, hf, hS⟩⟩
theorem rl_top {c_room : Int32} {c_finding : Int32} {c_courseKnown : Int32} {c_settledByKnown : Int32} {c_text : jT1} {c_told : jT3} {c_others : jT3} {c_events : jT3} {c_seen : jT3} {c_course : jT11} {c_trial : jT11} {c_best : jB3} {c_sh0 : jS4} {c_sh1 : jS4} {c_sh2 : jS4} {c_sh3 : jS4} {c_settledBy : Nat → Int32} {c_views : Nat → Int32} {m_latest : Int32} {m_typed : Int32} {m_tenants : Int32} {m_room : Int32} {m_events : Int32} {m_gone : Int32} {m_sim : jT11} {m_sights : Int32} {m_drawn : Int32} {m_forms : Nat → Int32} {m_sizes : Nat → Int32} {m_items : Nat → Int32} {m_moved : Nat → Int32} {m_bytes : Nat → Int32} {m_tenant : Nat → Int32} {m_event : Nat → Int32} {m_sight : Nat → Int32} {m_rows : Nat → Int64} (h : Rel (c_room, c_finding, c_courseKnown, c_settledByKnown, c_text, c_told, c_others, c_events, c_seen, c_course, c_trial, c_best, c_sh0, c_sh1, c_sh2, c_sh3, c_settledBy, c_views) (m_latest, m_typed, m_tenants, m_room, m_events, m_gone, m_sim, m_sights, m_drawn, m_forms, m_sizes, m_items, m_moved, m_bytes, m_tenant, m_event, m_sight, m_rows)) : ∃ (r : Int32) (o_courseKnown : Int32) (o_course : jT11) (p_tenants : Int32) (p_sim : jT11) (p_tenant : Nat → Int32), fX7_top c_room c_told c_events c_courseKnown c_course = some (r, o_courseKnown, o_course) ∧ fX8_top m_typed m_room m_events m_gone m_bytes m_event m_tenants m_sim m_tenant = some (r, p_tenants, p_sim, p_tenant) ∧ Rel (c_room, c_finding, o_courseKnown, c_settledByKnown, c_text, c_told, c_others, c_events, c_seen, o_course, c_trial, c_best, c_sh0, c_sh1, c_sh2, c_sh3, c_settledBy, c_views) (m_latest, m_typed, p_tenants, m_room, m_events, m_gone, p_sim, m_sights, m_drawn, m_forms, m_sizes, m_items, m_moved, m_bytes, p_tenant, m_event, m_sight, m_rows) := by
  obtain ⟨⟨N, E, Z, r, hN, htx, hty, hT, hr1, hr, hrm, hrm2, hE, hE2, hZ, hZ2, hg, hk, hs⟩, hf, hS⟩ := Rel_i.mp h
  subst htx
  subst hty
  subst hg
  obtain ⟨ck', C', e7, k'⟩ := c7_top hT hE hrm hk 
  obtain ⟨tn', S', te', e8⟩ := m8_top (b := m_bytes) (tn := m_tenants) (S := m_sim) (te := m_tenant) hN hE2 hrm2 hr 
  exact ⟨_, _, _, _, _, _, e7, e8, Rel_i.mpr ⟨⟨N, E, Z, r, hN, rfl, rfl, hT, hr1, hr, hrm, hrm2, hE, hE2, hZ, hZ2, rfl, k', hs⟩, hf, hS⟩⟩
theorem rl_heard {c_room : Int32} {c_finding : Int32} {c_courseKnown : Int32} {c_settledByKnown : Int32} {c_text : jT1} {c_told : jT3} {c_others : jT3} {c_events : jT3} {c_seen : jT3} {c_course : jT11} {c_trial : jT11} {c_best : jB3} {c_sh0 : jS4} {c_sh1 : jS4} {c_sh2 : jS4} {c_sh3 : jS4} {c_settledBy : Nat → Int32} {c_views : Nat → Int32} {m_latest : Int32} {m_typed : Int32} {m_tenants : Int32} {m_room : Int32} {m_events : Int32} {m_gone : Int32} {m_sim : jT11} {m_sights : Int32} {m_drawn : Int32} {m_forms : Nat → Int32} {m_sizes : Nat → Int32} {m_items : Nat → Int32} {m_moved : Nat → Int32} {m_bytes : Nat → Int32} {m_tenant : Nat → Int32} {m_event : Nat → Int32} {m_sight : Nat → Int32} {m_rows : Nat → Int64} (h : Rel (c_room, c_finding, c_courseKnown, c_settledByKnown, c_text, c_told, c_others, c_events, c_seen, c_course, c_trial, c_best, c_sh0, c_sh1, c_sh2, c_sh3, c_settledBy, c_views) (m_latest, m_typed, m_tenants, m_room, m_events, m_gone, m_sim, m_sights, m_drawn, m_forms, m_sizes, m_items, m_moved, m_bytes, m_tenant, m_event, m_sight, m_rows)) : ∃ (r : Int32) (o_courseKnown : Int32) (o_course : jT11) (p_tenants : Int32) (p_sim : jT11) (p_tenant : Nat → Int32), fX7_heard c_room c_told c_events c_courseKnown c_course = some (r, o_courseKnown, o_course) ∧ fX8_heard m_typed m_room m_events m_gone m_bytes m_event m_tenants m_sim m_tenant = some (r, p_tenants, p_sim, p_tenant) ∧ Rel (c_room, c_finding, o_courseKnown, c_settledByKnown, c_text, c_told, c_others, c_events, c_seen, o_course, c_trial, c_best, c_sh0, c_sh1, c_sh2, c_sh3, c_settledBy, c_views) (m_latest, m_typed, p_tenants, m_room, m_events, m_gone, p_sim, m_sights, m_drawn, m_forms, m_sizes, m_items, m_moved, m_bytes, p_tenant, m_event, m_sight, m_rows) := by
  obtain ⟨⟨N, E, Z, r, hN, htx, hty, hT, hr1, hr, hrm, hrm2, hE, hE2, hZ, hZ2, hg, hk, hs⟩, hf, hS⟩ := Rel_i.mp h
  subst htx
  subst hty
  subst hg
  obtain ⟨v, ck', C', e7, k', hv⟩ := c7_heard hT hE hrm hk
  obtain ⟨v', tn', S', te', e8, hv'⟩ := m8_heard (b := m_bytes) (tn := m_tenants) (S := m_sim) (te := m_tenant) hN hE2 hrm2 hr
  rw [IsHd_eq hv' hv] at e8
  exact ⟨_, _, _, _, _, _, e7, e8, Rel_i.mpr ⟨⟨N, E, Z, r, hN, rfl, rfl, hT, hr1, hr, hrm, hrm2, hE, hE2, hZ, hZ2, rfl, k', hs⟩, hf, hS⟩⟩
theorem rl_count (v1 : Int32) {c_room : Int32} {c_finding : Int32} {c_courseKnown : Int32} {c_settledByKnown : Int32} {c_text : jT1} {c_told : jT3} {c_others : jT3} {c_events : jT3} {c_seen : jT3} {c_course : jT11} {c_trial : jT11} {c_best : jB3} {c_sh0 : jS4} {c_sh1 : jS4} {c_sh2 : jS4} {c_sh3 : jS4} {c_settledBy : Nat → Int32} {c_views : Nat → Int32} {m_latest : Int32} {m_typed : Int32} {m_tenants : Int32} {m_room : Int32} {m_events : Int32} {m_gone : Int32} {m_sim : jT11} {m_sights : Int32} {m_drawn : Int32} {m_forms : Nat → Int32} {m_sizes : Nat → Int32} {m_items : Nat → Int32} {m_moved : Nat → Int32} {m_bytes : Nat → Int32} {m_tenant : Nat → Int32} {m_event : Nat → Int32} {m_sight : Nat → Int32} {m_rows : Nat → Int64} (h : Rel (c_room, c_finding, c_courseKnown, c_settledByKnown, c_text, c_told, c_others, c_events, c_seen, c_course, c_trial, c_best, c_sh0, c_sh1, c_sh2, c_sh3, c_settledBy, c_views) (m_latest, m_typed, m_tenants, m_room, m_events, m_gone, m_sim, m_sights, m_drawn, m_forms, m_sizes, m_items, m_moved, m_bytes, m_tenant, m_event, m_sight, m_rows)) : ∃ (r : Int32) (o_courseKnown : Int32) (o_course : jT11) (p_tenants : Int32) (p_sim : jT11) (p_tenant : Nat → Int32), fX7_count v1 c_room c_finding c_text.1 c_told c_events c_seen.1 c_courseKnown c_course = some (r, o_courseKnown, o_course) ∧ fX8_count v1 m_latest m_typed m_room m_events m_gone m_sights m_bytes m_event m_tenants m_sim m_tenant = some (r, p_tenants, p_sim, p_tenant) ∧ Rel (c_room, c_finding, o_courseKnown, c_settledByKnown, c_text, c_told, c_others, c_events, c_seen, o_course, c_trial, c_best, c_sh0, c_sh1, c_sh2, c_sh3, c_settledBy, c_views) (m_latest, m_typed, p_tenants, m_room, m_events, m_gone, p_sim, m_sights, m_drawn, m_forms, m_sizes, m_items, m_moved, m_bytes, p_tenant, m_event, m_sight, m_rows) := by
  obtain ⟨⟨N, E, Z, r, hN, htx, hty, hT, hr1, hr, hrm, hrm2, hE, hE2, hZ, hZ2, hg, hk, hs⟩, hf, hS⟩ := Rel_i.mp h
  subst htx
  subst hty
  subst hg
  obtain ⟨ck', C', e7, k'⟩ := c7_count (Z := Z) (N := N) (fi := c_finding) hT hE hrm hk v1
  obtain ⟨S', te', e8⟩ := m8_count (Z := Z) (fi := c_finding) (b := m_bytes) (tn := m_tenants) (S := m_sim) (te := m_tenant) hN hE2 hrm2 hr v1
  have z1 : c_seen.1 = nI Z.1 := hZ.2.1
  have z2 : m_sights = nI Z.1 := hZ2.2.1
  rw [← z1] at e7
  rw [← z2, hf] at e8
  rw [hf] at e7
  rw [hf]
  exact ⟨_, _, _, _, _, _, e7, e8, Rel_i.mpr ⟨⟨N, E, Z, r, hN, rfl, rfl, hT, hr1, hr, hrm, hrm2, hE, hE2, hZ, hZ2, rfl, k', hs⟩, rfl, hS⟩⟩
theorem rl_fault {c_room : Int32} {c_finding : Int32} {c_courseKnown : Int32} {c_settledByKnown : Int32} {c_text : jT1} {c_told : jT3} {c_others : jT3} {c_events : jT3} {c_seen : jT3} {c_course : jT11} {c_trial : jT11} {c_best : jB3} {c_sh0 : jS4} {c_sh1 : jS4} {c_sh2 : jS4} {c_sh3 : jS4} {c_settledBy : Nat → Int32} {c_views : Nat → Int32} {m_latest : Int32} {m_typed : Int32} {m_tenants : Int32} {m_room : Int32} {m_events : Int32} {m_gone : Int32} {m_sim : jT11} {m_sights : Int32} {m_drawn : Int32} {m_forms : Nat → Int32} {m_sizes : Nat → Int32} {m_items : Nat → Int32} {m_moved : Nat → Int32} {m_bytes : Nat → Int32} {m_tenant : Nat → Int32} {m_event : Nat → Int32} {m_sight : Nat → Int32} {m_rows : Nat → Int64} (h : Rel (c_room, c_finding, c_courseKnown, c_settledByKnown, c_text, c_told, c_others, c_events, c_seen, c_course, c_trial, c_best, c_sh0, c_sh1, c_sh2, c_sh3, c_settledBy, c_views) (m_latest, m_typed, m_tenants, m_room, m_events, m_gone, m_sim, m_sights, m_drawn, m_forms, m_sizes, m_items, m_moved, m_bytes, m_tenant, m_event, m_sight, m_rows)) : ∃ (r : Int32) (p_tenants : Int32) (p_tenant : Nat → Int32), fX7_fault c_text = some (r) ∧ fX8_fault m_typed m_bytes m_tenants m_tenant = some (r, p_tenants, p_tenant) ∧ Rel (c_room, c_finding, c_courseKnown, c_settledByKnown, c_text, c_told, c_others, c_events, c_seen, c_course, c_trial, c_best, c_sh0, c_sh1, c_sh2, c_sh3, c_settledBy, c_views) (m_latest, m_typed, p_tenants, m_room, m_events, m_gone, m_sim, m_sights, m_drawn, m_forms, m_sizes, m_items, m_moved, m_bytes, p_tenant, m_event, m_sight, m_rows) := by
  obtain ⟨⟨N, E, Z, r, hN, htx, hty, hT, hr1, hr, hrm, hrm2, hE, hE2, hZ, hZ2, hg, hk, hs⟩, hf, hS⟩ := Rel_i.mp h
  subst htx
  subst hty
  subst hg
  obtain ⟨te', e8', hT'⟩ := mm_reads (b := m_bytes) (te := m_tenant) (tn := m_tenants) hN
  have e7 : fX7_fault (nI N, m_bytes) = some (tx_fault m_bytes N) := by unfold fX7_fault; rw [cm_fault hN, bd1_eq]
  have e8 : fX8_fault (nI N) m_bytes m_tenants m_tenant = some (tx_fault m_bytes N, nI (tx_n m_bytes N), te') := by unfold fX8_fault; rw [e8', bd3_eq]
  exact ⟨_, _, _, e7, e8, Rel_i.mpr ⟨⟨N, E, Z, r, hN, rfl, rfl, hT, hr1, hr, hrm, hrm2, hE, hE2, hZ, hZ2, rfl, hk, hs⟩, hf, hS⟩⟩
theorem rl_tenant (v1 : Int32) (v2 : Int32) {c_room : Int32} {c_finding : Int32} {c_courseKnown : Int32} {c_settledByKnown : Int32} {c_text : jT1} {c_told : jT3} {c_others : jT3} {c_events : jT3} {c_seen : jT3} {c_course : jT11} {c_trial : jT11} {c_best : jB3} {c_sh0 : jS4} {c_sh1 : jS4} {c_sh2 : jS4} {c_sh3 : jS4} {c_settledBy : Nat → Int32} {c_views : Nat → Int32} {m_latest : Int32} {m_typed : Int32} {m_tenants : Int32} {m_room : Int32} {m_events : Int32} {m_gone : Int32} {m_sim : jT11} {m_sights : Int32} {m_drawn : Int32} {m_forms : Nat → Int32} {m_sizes : Nat → Int32} {m_items : Nat → Int32} {m_moved : Nat → Int32} {m_bytes : Nat → Int32} {m_tenant : Nat → Int32} {m_event : Nat → Int32} {m_sight : Nat → Int32} {m_rows : Nat → Int64} (h : Rel (c_room, c_finding, c_courseKnown, c_settledByKnown, c_text, c_told, c_others, c_events, c_seen, c_course, c_trial, c_best, c_sh0, c_sh1, c_sh2, c_sh3, c_settledBy, c_views) (m_latest, m_typed, m_tenants, m_room, m_events, m_gone, m_sim, m_sights, m_drawn, m_forms, m_sizes, m_items, m_moved, m_bytes, m_tenant, m_event, m_sight, m_rows)) : ∃ (r : Int32) (p_tenants : Int32) (p_tenant : Nat → Int32), fX7_tenant v1 v2 c_told = some (r) ∧ fX8_tenant v1 v2 m_typed m_bytes m_tenants m_tenant = some (r, p_tenants, p_tenant) ∧ Rel (c_room, c_finding, c_courseKnown, c_settledByKnown, c_text, c_told, c_others, c_events, c_seen, c_course, c_trial, c_best, c_sh0, c_sh1, c_sh2, c_sh3, c_settledBy, c_views) (m_latest, m_typed, p_tenants, m_room, m_events, m_gone, m_sim, m_sights, m_drawn, m_forms, m_sizes, m_items, m_moved, m_bytes, p_tenant, m_event, m_sight, m_rows) := by
  obtain ⟨⟨N, E, Z, r, hN, htx, hty, hT, hr1, hr, hrm, hrm2, hE, hE2, hZ, hZ2, hg, hk, hs⟩, hf, hS⟩ := Rel_i.mp h
  subst htx
  subst hty
  subst hg
  have e7 := c7_tenant hT v1 v2
  obtain ⟨tn', te', e8⟩ := m8_tenant (b := m_bytes) (tn := m_tenants) (te := m_tenant) hN v1 v2
  exact ⟨_, _, _, e7, e8, Rel_i.mpr ⟨⟨N, E, Z, r, hN, rfl, rfl, hT, hr1, hr, hrm, hrm2, hE, hE2, hZ, hZ2, rfl, hk, hs⟩, hf, hS⟩⟩
theorem rl_earn (v1 : Int32) (v2 : Int32) {c_room : Int32} {c_finding : Int32} {c_courseKnown : Int32} {c_settledByKnown : Int32} {c_text : jT1} {c_told : jT3} {c_others : jT3} {c_events : jT3} {c_seen : jT3} {c_course : jT11} {c_trial : jT11} {c_best : jB3} {c_sh0 : jS4} {c_sh1 : jS4} {c_sh2 : jS4} {c_sh3 : jS4} {c_settledBy : Nat → Int32} {c_views : Nat → Int32} {m_latest : Int32} {m_typed : Int32} {m_tenants : Int32} {m_room : Int32} {m_events : Int32} {m_gone : Int32} {m_sim : jT11} {m_sights : Int32} {m_drawn : Int32} {m_forms : Nat → Int32} {m_sizes : Nat → Int32} {m_items : Nat → Int32} {m_moved : Nat → Int32} {m_bytes : Nat → Int32} {m_tenant : Nat → Int32} {m_event : Nat → Int32} {m_sight : Nat → Int32} {m_rows : Nat → Int64} (h : Rel (c_room, c_finding, c_courseKnown, c_settledByKnown, c_text, c_told, c_others, c_events, c_seen, c_course, c_trial, c_best, c_sh0, c_sh1, c_sh2, c_sh3, c_settledBy, c_views) (m_latest, m_typed, m_tenants, m_room, m_events, m_gone, m_sim, m_sights, m_drawn, m_forms, m_sizes, m_items, m_moved, m_bytes, m_tenant, m_event, m_sight, m_rows)) : ∃ (r : Int32) (o_others : jT3) (o_trial : jT11) (o_best : jB3) (p_tenants : Int32) (p_sim : jT11) (p_tenant : Nat → Int32), fX7_earn v1 v2 c_room c_told c_events c_others c_trial c_best = some (r, o_others, o_trial, o_best) ∧ fX8_earn v1 v2 m_typed m_room m_events m_gone m_bytes m_event m_tenants m_sim m_tenant = some (r, p_tenants, p_sim, p_tenant) ∧ Rel (c_room, c_finding, c_courseKnown, c_settledByKnown, c_text, c_told, o_others, c_events, c_seen, c_course, o_trial, o_best, c_sh0, c_sh1, c_sh2, c_sh3, c_settledBy, c_views) (m_latest, m_typed, p_tenants, m_room, m_events, m_gone, p_sim, m_sights, m_drawn, m_forms, m_sizes, m_items, m_moved, m_bytes, p_tenant, m_event, m_sight, m_rows) := by
  obtain ⟨⟨N, E, Z, r, hN, htx, hty, hT, hr1, hr, hrm, hrm2, hE, hE2, hZ, hZ2, hg, hk, hs⟩, hf, hS⟩ := Rel_i.mp h
  subst htx
  subst hty
  subst hg
  obtain ⟨oth', tr', bs', e7⟩ := c7_earn (oth := c_others) (tr := c_trial) (bs := c_best) hT hE hrm v1 v2
  obtain ⟨tn', S', te', e8⟩ := m8_earn (b := m_bytes) (tn := m_tenants) (S := m_sim) (te := m_tenant) hN hE2 hrm2 hr v1 v2
  exact ⟨_, _, _, _, _, _, _, e7, e8, Rel_i.mpr ⟨⟨N, E, Z, r, hN, rfl, rfl, hT, hr1, hr, hrm, hrm2, hE, hE2, hZ, hZ2, rfl, hk, hs⟩, hf, hS⟩⟩
theorem rl_be (v1 : Int32) (v2 : Int32) {c_room : Int32} {c_finding : Int32} {c_courseKnown : Int32} {c_settledByKnown : Int32} {c_text : jT1} {c_told : jT3} {c_others : jT3} {c_events : jT3} {c_seen : jT3} {c_course : jT11} {c_trial : jT11} {c_best : jB3} {c_sh0 : jS4} {c_sh1 : jS4} {c_sh2 : jS4} {c_sh3 : jS4} {c_settledBy : Nat → Int32} {c_views : Nat → Int32} {m_latest : Int32} {m_typed : Int32} {m_tenants : Int32} {m_room : Int32} {m_events : Int32} {m_gone : Int32} {m_sim : jT11} {m_sights : Int32} {m_drawn : Int32} {m_forms : Nat → Int32} {m_sizes : Nat → Int32} {m_items : Nat → Int32} {m_moved : Nat → Int32} {m_bytes : Nat → Int32} {m_tenant : Nat → Int32} {m_event : Nat → Int32} {m_sight : Nat → Int32} {m_rows : Nat → Int64} (h : Rel (c_room, c_finding, c_courseKnown, c_settledByKnown, c_text, c_told, c_others, c_events, c_seen, c_course, c_trial, c_best, c_sh0, c_sh1, c_sh2, c_sh3, c_settledBy, c_views) (m_latest, m_typed, m_tenants, m_room, m_events, m_gone, m_sim, m_sights, m_drawn, m_forms, m_sizes, m_items, m_moved, m_bytes, m_tenant, m_event, m_sight, m_rows)) : ∃ (r : Int32) (o_others : jT3) (o_trial : jT11) (o_best : jB3) (p_tenants : Int32) (p_sim : jT11) (p_tenant : Nat → Int32), fX7_be v1 v2 c_room c_told c_events c_others c_trial c_best = some (r, o_others, o_trial, o_best) ∧ fX8_be v1 v2 m_typed m_room m_events m_gone m_bytes m_event m_tenants m_sim m_tenant = some (r, p_tenants, p_sim, p_tenant) ∧ Rel (c_room, c_finding, c_courseKnown, c_settledByKnown, c_text, c_told, o_others, c_events, c_seen, c_course, o_trial, o_best, c_sh0, c_sh1, c_sh2, c_sh3, c_settledBy, c_views) (m_latest, m_typed, p_tenants, m_room, m_events, m_gone, p_sim, m_sights, m_drawn, m_forms, m_sizes, m_items, m_moved, m_bytes, p_tenant, m_event, m_sight, m_rows) := by
  obtain ⟨⟨N, E, Z, r, hN, htx, hty, hT, hr1, hr, hrm, hrm2, hE, hE2, hZ, hZ2, hg, hk, hs⟩, hf, hS⟩ := Rel_i.mp h
  subst htx
  subst hty
  subst hg
  obtain ⟨oth', tr', bs', e7⟩ := c7_be (oth := c_others) (tr := c_trial) (bs := c_best) hT hE hrm v1 v2
  obtain ⟨tn', S', te', e8⟩ := m8_be (b := m_bytes) (tn := m_tenants) (S := m_sim) (te := m_tenant) hN hE2 hrm2 hr v1 v2
  exact ⟨_, _, _, _, _, _, _, e7, e8, Rel_i.mpr ⟨⟨N, E, Z, r, hN, rfl, rfl, hT, hr1, hr, hrm, hrm2, hE, hE2, hZ, hZ2, rfl, hk, hs⟩, hf, hS⟩⟩
theorem rl_widen (v1 : Int32) {c_room : Int32} {c_finding : Int32} {c_courseKnown : Int32} {c_settledByKnown : Int32} {c_text : jT1} {c_told : jT3} {c_others : jT3} {c_events : jT3} {c_seen : jT3} {c_course : jT11} {c_trial : jT11} {c_best : jB3} {c_sh0 : jS4} {c_sh1 : jS4} {c_sh2 : jS4} {c_sh3 : jS4} {c_settledBy : Nat → Int32} {c_views : Nat → Int32} {m_latest : Int32} {m_typed : Int32} {m_tenants : Int32} {m_room : Int32} {m_events : Int32} {m_gone : Int32} {m_sim : jT11} {m_sights : Int32} {m_drawn : Int32} {m_forms : Nat → Int32} {m_sizes : Nat → Int32} {m_items : Nat → Int32} {m_moved : Nat → Int32} {m_bytes : Nat → Int32} {m_tenant : Nat → Int32} {m_event : Nat → Int32} {m_sight : Nat → Int32} {m_rows : Nat → Int64} (h : Rel (c_room, c_finding, c_courseKnown, c_settledByKnown, c_text, c_told, c_others, c_events, c_seen, c_course, c_trial, c_best, c_sh0, c_sh1, c_sh2, c_sh3, c_settledBy, c_views) (m_latest, m_typed, m_tenants, m_room, m_events, m_gone, m_sim, m_sights, m_drawn, m_forms, m_sizes, m_items, m_moved, m_bytes, m_tenant, m_event, m_sight, m_rows)) : ∃ (r : Int32) (o_trial : jT11) (o_best : jB3) (p_tenants : Int32) (p_room : Int32) (p_sim : jT11) (p_tenant : Nat → Int32), fX7_widen v1 c_told c_events c_trial c_best = some (r, o_trial, o_best) ∧ fX8_widen v1 m_typed m_events m_gone m_bytes m_event m_tenants m_room m_sim m_tenant = some (r, p_tenants, p_room, p_sim, p_tenant) ∧ Rel (c_room, c_finding, c_courseKnown, c_settledByKnown, c_text, c_told, c_others, c_events, c_seen, c_course, o_trial, o_best, c_sh0, c_sh1, c_sh2, c_sh3, c_settledBy, c_views) (m_latest, m_typed, p_tenants, p_room, m_events, m_gone, p_sim, m_sights, m_drawn, m_forms, m_sizes, m_items, m_moved, m_bytes, p_tenant, m_event, m_sight, m_rows) := by
  obtain ⟨⟨N, E, Z, r, hN, htx, hty, hT, hr1, hr, hrm, hrm2, hE, hE2, hZ, hZ2, hg, hk, hs⟩, hf, hS⟩ := Rel_i.mp h
  subst htx
  subst hty
  subst hg
  obtain ⟨tr', bs', e7⟩ := c7_widen (tr := c_trial) (bs := c_best) hT hE v1
  obtain ⟨tn', S', te', e8⟩ := m8_widen (b := m_bytes) (tn := m_tenants) (S := m_sim) (te := m_tenant) hN hE2 hrm2 hr v1
  exact ⟨_, _, _, _, _, _, _, e7, e8, Rel_i.mpr ⟨⟨N, E, Z, r, hN, rfl, rfl, hT, hr1, hr, hrm, hrm2, hE, hE2, hZ, hZ2, rfl, hk, hs⟩, hf, hS⟩⟩
theorem rl_spare (v1 : Int32) {c_room : Int32} {c_finding : Int32} {c_courseKnown : Int32} {c_settledByKnown : Int32} {c_text : jT1} {c_told : jT3} {c_others : jT3} {c_events : jT3} {c_seen : jT3} {c_course : jT11} {c_trial : jT11} {c_best : jB3} {c_sh0 : jS4} {c_sh1 : jS4} {c_sh2 : jS4} {c_sh3 : jS4} {c_settledBy : Nat → Int32} {c_views : Nat → Int32} {m_latest : Int32} {m_typed : Int32} {m_tenants : Int32} {m_room : Int32} {m_events : Int32} {m_gone : Int32} {m_sim : jT11} {m_sights : Int32} {m_drawn : Int32} {m_forms : Nat → Int32} {m_sizes : Nat → Int32} {m_items : Nat → Int32} {m_moved : Nat → Int32} {m_bytes : Nat → Int32} {m_tenant : Nat → Int32} {m_event : Nat → Int32} {m_sight : Nat → Int32} {m_rows : Nat → Int64} (h : Rel (c_room, c_finding, c_courseKnown, c_settledByKnown, c_text, c_told, c_others, c_events, c_seen, c_course, c_trial, c_best, c_sh0, c_sh1, c_sh2, c_sh3, c_settledBy, c_views) (m_latest, m_typed, m_tenants, m_room, m_events, m_gone, m_sim, m_sights, m_drawn, m_forms, m_sizes, m_items, m_moved, m_bytes, m_tenant, m_event, m_sight, m_rows)) : ∃ (r : Int32) (o_settledByKnown : Int32) (o_trial : jT11) (o_settledBy : Nat → Int32) (p_tenants : Int32) (p_gone : Int32) (p_sim : jT11) (p_tenant : Nat → Int32), fX7_spare v1 c_room c_told c_events c_settledByKnown c_trial c_settledBy = some (r, o_settledByKnown, o_trial, o_settledBy) ∧ fX8_spare v1 m_typed m_room m_events m_bytes m_event m_tenants m_gone m_sim m_tenant = some (r, p_tenants, p_gone, p_sim, p_tenant) ∧ Rel (c_room, c_finding, c_courseKnown, o_settledByKnown, c_text, c_told, c_others, c_events, c_seen, c_course, o_trial, c_best, c_sh0, c_sh1, c_sh2, c_sh3, o_settledBy, c_views) (m_latest, m_typed, p_tenants, m_room, m_events, p_gone, p_sim, m_sights, m_drawn, m_forms, m_sizes, m_items, m_moved, m_bytes, p_tenant, m_event, m_sight, m_rows) := by
  obtain ⟨⟨N, E, Z, r, hN, htx, hty, hT, hr1, hr, hrm, hrm2, hE, hE2, hZ, hZ2, hg, hk, hs⟩, hf, hS⟩ := Rel_i.mp h
  subst htx
  subst hty
  subst hg
  obtain ⟨kn', tr', sb', e7, s'⟩ := c7_spare (tr := c_trial) hT hE hrm hs v1
  obtain ⟨tn', S', te', e8⟩ := m8_spare (b := m_bytes) (tn := m_tenants) (S := m_sim) (te := m_tenant) hN hE2 hrm2 hr v1
  exact ⟨_, _, _, _, _, _, _, _, e7, e8, Rel_i.mpr ⟨⟨N, E, Z, r, hN, rfl, rfl, hT, hr1, hr, hrm, hrm2, hE, hE2, hZ, hZ2, rfl, hk, s'⟩, hf, hS⟩⟩
theorem rl_never {c_room : Int32} {c_finding : Int32} {c_courseKnown : Int32} {c_settledByKnown : Int32} {c_text : jT1} {c_told : jT3} {c_others : jT3} {c_events : jT3} {c_seen : jT3} {c_course : jT11} {c_trial : jT11} {c_best : jB3} {c_sh0 : jS4} {c_sh1 : jS4} {c_sh2 : jS4} {c_sh3 : jS4} {c_settledBy : Nat → Int32} {c_views : Nat → Int32} {m_latest : Int32} {m_typed : Int32} {m_tenants : Int32} {m_room : Int32} {m_events : Int32} {m_gone : Int32} {m_sim : jT11} {m_sights : Int32} {m_drawn : Int32} {m_forms : Nat → Int32} {m_sizes : Nat → Int32} {m_items : Nat → Int32} {m_moved : Nat → Int32} {m_bytes : Nat → Int32} {m_tenant : Nat → Int32} {m_event : Nat → Int32} {m_sight : Nat → Int32} {m_rows : Nat → Int64} (h : Rel (c_room, c_finding, c_courseKnown, c_settledByKnown, c_text, c_told, c_others, c_events, c_seen, c_course, c_trial, c_best, c_sh0, c_sh1, c_sh2, c_sh3, c_settledBy, c_views) (m_latest, m_typed, m_tenants, m_room, m_events, m_gone, m_sim, m_sights, m_drawn, m_forms, m_sizes, m_items, m_moved, m_bytes, m_tenant, m_event, m_sight, m_rows)) : ∃ (r : Int32) (o_trial : jT11) (p_tenants : Int32) (p_gone : Int32) (p_sim : jT11) (p_tenant : Nat → Int32), fX7_never c_room c_told c_events c_seen c_trial = some (r, o_trial) ∧ fX8_never m_typed m_room m_events m_sights m_bytes m_event m_sight m_tenants m_gone m_sim m_tenant = some (r, p_tenants, p_gone, p_sim, p_tenant) ∧ Rel (c_room, c_finding, c_courseKnown, c_settledByKnown, c_text, c_told, c_others, c_events, c_seen, c_course, o_trial, c_best, c_sh0, c_sh1, c_sh2, c_sh3, c_settledBy, c_views) (m_latest, m_typed, p_tenants, m_room, m_events, p_gone, p_sim, m_sights, m_drawn, m_forms, m_sizes, m_items, m_moved, m_bytes, p_tenant, m_event, m_sight, m_rows) := by
  obtain ⟨⟨N, E, Z, r, hN, htx, hty, hT, hr1, hr, hrm, hrm2, hE, hE2, hZ, hZ2, hg, hk, hs⟩, hf, hS⟩ := Rel_i.mp h
  subst htx
  subst hty
  subst hg
  obtain ⟨tr', e7⟩ := c7_never (tr := c_trial) hT hE hZ hrm
  obtain ⟨tn', S', te', e8⟩ := m8_never (b := m_bytes) (tn := m_tenants) (S := m_sim) (te := m_tenant) hN hE2 hZ2 hrm2 hr
  exact ⟨_, _, _, _, _, _, e7, e8, Rel_i.mpr ⟨⟨N, E, Z, r, hN, rfl, rfl, hT, hr1, hr, hrm, hrm2, hE, hE2, hZ, hZ2, rfl, hk, hs⟩, hf, hS⟩⟩
theorem rl_was (v1 : Int32) (v2 : Int32) {c_room : Int32} {c_finding : Int32} {c_courseKnown : Int32} {c_settledByKnown : Int32} {c_text : jT1} {c_told : jT3} {c_others : jT3} {c_events : jT3} {c_seen : jT3} {c_course : jT11} {c_trial : jT11} {c_best : jB3} {c_sh0 : jS4} {c_sh1 : jS4} {c_sh2 : jS4} {c_sh3 : jS4} {c_settledBy : Nat → Int32} {c_views : Nat → Int32} {m_latest : Int32} {m_typed : Int32} {m_tenants : Int32} {m_room : Int32} {m_events : Int32} {m_gone : Int32} {m_sim : jT11} {m_sights : Int32} {m_drawn : Int32} {m_forms : Nat → Int32} {m_sizes : Nat → Int32} {m_items : Nat → Int32} {m_moved : Nat → Int32} {m_bytes : Nat → Int32} {m_tenant : Nat → Int32} {m_event : Nat → Int32} {m_sight : Nat → Int32} {m_rows : Nat → Int64} (h : Rel (c_room, c_finding, c_courseKnown, c_settledByKnown, c_text, c_told, c_others, c_events, c_seen, c_course, c_trial, c_best, c_sh0, c_sh1, c_sh2, c_sh3, c_settledBy, c_views) (m_latest, m_typed, m_tenants, m_room, m_events, m_gone, m_sim, m_sights, m_drawn, m_forms, m_sizes, m_items, m_moved, m_bytes, m_tenant, m_event, m_sight, m_rows)) : ∃ (r : Int32) (o_others : jT3) (o_trial : jT11) (o_views : Nat → Int32) (p_tenants : Int32) (p_sim : jT11) (p_tenant : Nat → Int32) (p_rows : Nat → Int64), fX7_was v1 v2 c_room c_told c_events c_seen c_others c_trial c_views = some (r, o_others, o_trial, o_views) ∧ fX8_was v1 v2 m_typed m_room m_events m_gone m_sights m_bytes m_event m_sight m_tenants m_sim m_tenant m_rows = some (r, p_tenants, p_sim, p_tenant, p_rows) ∧ Rel (c_room, c_finding, c_courseKnown, c_settledByKnown, c_text, c_told, o_others, c_events, c_seen, c_course, o_trial, c_best, c_sh0, c_sh1, c_sh2, c_sh3, c_settledBy, o_views) (m_latest, m_typed, p_tenants, m_room, m_events, m_gone, p_sim, m_sights, m_drawn, m_forms, m_sizes, m_items, m_moved, m_bytes, p_tenant, m_event, m_sight, p_rows) := by
  obtain ⟨⟨N, E, Z, r, hN, htx, hty, hT, hr1, hr, hrm, hrm2, hE, hE2, hZ, hZ2, hg, hk, hs⟩, hf, hS⟩ := Rel_i.mp h
  subst htx
  subst hty
  subst hg
  obtain ⟨oth', tr', vw', e7⟩ := c7_was (oth := c_others) (tr := c_trial) (vw := c_views) hT hE hZ hrm v1 v2
  obtain ⟨tn', S', te', ro', e8⟩ := m8_was (ro := m_rows) (b := m_bytes) (tn := m_tenants) (S := m_sim) (te := m_tenant) hN hE2 hZ2 hrm2 hr v1 v2
  exact ⟨_, _, _, _, _, _, _, _, e7, e8, Rel_i.mpr ⟨⟨N, E, Z, r, hN, rfl, rfl, hT, hr1, hr, hrm, hrm2, hE, hE2, hZ, hZ2, rfl, hk, hs⟩, hf, hS⟩⟩
theorem rl_ask (v1 : Int32) {c_room : Int32} {c_finding : Int32} {c_courseKnown : Int32} {c_settledByKnown : Int32} {c_text : jT1} {c_told : jT3} {c_others : jT3} {c_events : jT3} {c_seen : jT3} {c_course : jT11} {c_trial : jT11} {c_best : jB3} {c_sh0 : jS4} {c_sh1 : jS4} {c_sh2 : jS4} {c_sh3 : jS4} {c_settledBy : Nat → Int32} {c_views : Nat → Int32} {m_latest : Int32} {m_typed : Int32} {m_tenants : Int32} {m_room : Int32} {m_events : Int32} {m_gone : Int32} {m_sim : jT11} {m_sights : Int32} {m_drawn : Int32} {m_forms : Nat → Int32} {m_sizes : Nat → Int32} {m_items : Nat → Int32} {m_moved : Nat → Int32} {m_bytes : Nat → Int32} {m_tenant : Nat → Int32} {m_event : Nat → Int32} {m_sight : Nat → Int32} {m_rows : Nat → Int64} (h : Rel (c_room, c_finding, c_courseKnown, c_settledByKnown, c_text, c_told, c_others, c_events, c_seen, c_course, c_trial, c_best, c_sh0, c_sh1, c_sh2, c_sh3, c_settledBy, c_views) (m_latest, m_typed, m_tenants, m_room, m_events, m_gone, m_sim, m_sights, m_drawn, m_forms, m_sizes, m_items, m_moved, m_bytes, m_tenant, m_event, m_sight, m_rows)) : ∃ (r : Int32) (o_others : jT3) (o_trial : jT11) (o_views : Nat → Int32) (p_tenants : Int32) (p_sim : jT11) (p_tenant : Nat → Int32) (p_rows : Nat → Int64), fX7_ask v1 c_room c_told c_events c_seen c_others c_trial c_views = some (r, o_others, o_trial, o_views) ∧ fX8_ask v1 m_typed m_room m_events m_gone m_sights m_bytes m_event m_sight m_tenants m_sim m_tenant m_rows = some (r, p_tenants, p_sim, p_tenant, p_rows) ∧ Rel (c_room, c_finding, c_courseKnown, c_settledByKnown, c_text, c_told, o_others, c_events, c_seen, c_course, o_trial, c_best, c_sh0, c_sh1, c_sh2, c_sh3, c_settledBy, o_views) (m_latest, m_typed, p_tenants, m_room, m_events, m_gone, p_sim, m_sights, m_drawn, m_forms, m_sizes, m_items, m_moved, m_bytes, p_tenant, m_event, m_sight, p_rows) := by
  obtain ⟨⟨N, E, Z, r, hN, htx, hty, hT, hr1, hr, hrm, hrm2, hE, hE2, hZ, hZ2, hg, hk, hs⟩, hf, hS⟩ := Rel_i.mp h
  subst htx
  subst hty
  subst hg
  obtain ⟨oth', tr', vw', e7⟩ := c7_ask (oth := c_others) (tr := c_trial) (vw := c_views) hT hE hZ hrm v1
  obtain ⟨tn', S', te', ro', e8⟩ := m8_ask (ro := m_rows) (b := m_bytes) (tn := m_tenants) (S := m_sim) (te := m_tenant) hN hE2 hZ2 hrm2 hr v1
  exact ⟨_, _, _, _, _, _, _, _, e7, e8, Rel_i.mpr ⟨⟨N, E, Z, r, hN, rfl, rfl, hT, hr1, hr, hrm, hrm2, hE, hE2, hZ, hZ2, rfl, hk, hs⟩, hf, hS⟩⟩
theorem rl_chance (v1 : Int32) (v2 : Int32) (v3 : Int32) {c_room : Int32} {c_finding : Int32} {c_courseKnown : Int32} {c_settledByKnown : Int32} {c_text : jT1} {c_told : jT3} {c_others : jT3} {c_events : jT3} {c_seen : jT3} {c_course : jT11} {c_trial : jT11} {c_best : jB3} {c_sh0 : jS4} {c_sh1 : jS4} {c_sh2 : jS4} {c_sh3 : jS4} {c_settledBy : Nat → Int32} {c_views : Nat → Int32} {m_latest : Int32} {m_typed : Int32} {m_tenants : Int32} {m_room : Int32} {m_events : Int32} {m_gone : Int32} {m_sim : jT11} {m_sights : Int32} {m_drawn : Int32} {m_forms : Nat → Int32} {m_sizes : Nat → Int32} {m_items : Nat → Int32} {m_moved : Nat → Int32} {m_bytes : Nat → Int32} {m_tenant : Nat → Int32} {m_event : Nat → Int32} {m_sight : Nat → Int32} {m_rows : Nat → Int64} (h : Rel (c_room, c_finding, c_courseKnown, c_settledByKnown, c_text, c_told, c_others, c_events, c_seen, c_course, c_trial, c_best, c_sh0, c_sh1, c_sh2, c_sh3, c_settledBy, c_views) (m_latest, m_typed, m_tenants, m_room, m_events, m_gone, m_sim, m_sights, m_drawn, m_forms, m_sizes, m_items, m_moved, m_bytes, m_tenant, m_event, m_sight, m_rows)) : ∃ (r : Int64) (o_settledByKnown : Int32) (o_trial : jT11) (o_settledBy : Nat → Int32) (p_tenants : Int32) (p_gone : Int32) (p_sim : jT11) (p_tenant : Nat → Int32), fX7_chance v1 v2 v3 c_room c_told c_events c_settledByKnown c_trial c_settledBy = some (r, o_settledByKnown, o_trial, o_settledBy) ∧ fX8_chance v1 v2 v3 m_typed m_room m_events m_bytes m_event m_tenants m_gone m_sim m_tenant = some (r, p_tenants, p_gone, p_sim, p_tenant) ∧ Rel (c_room, c_finding, c_courseKnown, o_settledByKnown, c_text, c_told, c_others, c_events, c_seen, c_course, o_trial, c_best, c_sh0, c_sh1, c_sh2, c_sh3, o_settledBy, c_views) (m_latest, m_typed, p_tenants, m_room, m_events, p_gone, p_sim, m_sights, m_drawn, m_forms, m_sizes, m_items, m_moved, m_bytes, p_tenant, m_event, m_sight, m_rows) := by
  obtain ⟨⟨N, E, Z, r, hN, htx, hty, hT, hr1, hr, hrm, hrm2, hE, hE2, hZ, hZ2, hg, hk, hs⟩, hf, hS⟩ := Rel_i.mp h
  subst htx
  subst hty
  subst hg
  obtain ⟨kn', tr', sb', e7, s'⟩ := c7_chance (tr := c_trial) hT hE hrm hs v1 v2 v3
  obtain ⟨tn', S', te', e8⟩ := m8_chance (b := m_bytes) (tn := m_tenants) (S := m_sim) (te := m_tenant) hN hE2 hrm2 hr v1 v2 v3
  exact ⟨_, _, _, _, _, _, _, _, e7, e8, Rel_i.mpr ⟨⟨N, E, Z, r, hN, rfl, rfl, hT, hr1, hr, hrm, hrm2, hE, hE2, hZ, hZ2, rfl, hk, s'⟩, hf, hS⟩⟩
theorem rl_houses (v1 : Int32) (v2 : Int32) (v3 : Int32) {c_room : Int32} {c_finding : Int32} {c_courseKnown : Int32} {c_settledByKnown : Int32} {c_text : jT1} {c_told : jT3} {c_others : jT3} {c_events : jT3} {c_seen : jT3} {c_course : jT11} {c_trial : jT11} {c_best : jB3} {c_sh0 : jS4} {c_sh1 : jS4} {c_sh2 : jS4} {c_sh3 : jS4} {c_settledBy : Nat → Int32} {c_views : Nat → Int32} {m_latest : Int32} {m_typed : Int32} {m_tenants : Int32} {m_room : Int32} {m_events : Int32} {m_gone : Int32} {m_sim : jT11} {m_sights : Int32} {m_drawn : Int32} {m_forms : Nat → Int32} {m_sizes : Nat → Int32} {m_items : Nat → Int32} {m_moved : Nat → Int32} {m_bytes : Nat → Int32} {m_tenant : Nat → Int32} {m_event : Nat → Int32} {m_sight : Nat → Int32} {m_rows : Nat → Int64} (h : Rel (c_room, c_finding, c_courseKnown, c_settledByKnown, c_text, c_told, c_others, c_events, c_seen, c_course, c_trial, c_best, c_sh0, c_sh1, c_sh2, c_sh3, c_settledBy, c_views) (m_latest, m_typed, m_tenants, m_room, m_events, m_gone, m_sim, m_sights, m_drawn, m_forms, m_sizes, m_items, m_moved, m_bytes, m_tenant, m_event, m_sight, m_rows)) : ∃ (r : Int32) (o_others : jT3) (o_trial : jT11) (p_tenants : Int32) (p_sim : jT11) (p_drawn : Int32) (p_tenant : Nat → Int32), fX7_houses v1 v2 v3 c_room c_events c_others c_trial = some (r, o_others, o_trial) ∧ fX8_houses v1 v2 v3 m_typed m_room m_events m_gone m_bytes m_event m_tenants m_sim m_drawn m_tenant = some (r, p_tenants, p_sim, p_drawn, p_tenant) ∧ Rel (c_room, c_finding, c_courseKnown, c_settledByKnown, c_text, c_told, o_others, c_events, c_seen, c_course, o_trial, c_best, c_sh0, c_sh1, c_sh2, c_sh3, c_settledBy, c_views) (m_latest, m_typed, p_tenants, m_room, m_events, m_gone, p_sim, m_sights, p_drawn, m_forms, m_sizes, m_items, m_moved, m_bytes, p_tenant, m_event, m_sight, m_rows) := by
  obtain ⟨⟨N, E, Z, r, hN, htx, hty, hT, hr1, hr, hrm, hrm2, hE, hE2, hZ, hZ2, hg, hk, hs⟩, hf, hS⟩ := Rel_i.mp h
  subst htx
  subst hty
  subst hg
  obtain ⟨oth', tr', e7⟩ := c7_houses (oth := c_others) (tr := c_trial) hE hrm v1 v2 v3
  obtain ⟨tn', S', dr', te', e8⟩ := m8_houses (dr := m_drawn) (b := m_bytes) (tn := m_tenants) (S := m_sim) (te := m_tenant) hN hE2 hrm2 hr v1 v2 v3
  exact ⟨_, _, _, _, _, _, _, e7, e8, Rel_i.mpr ⟨⟨N, E, Z, r, hN, rfl, rfl, hT, hr1, hr, hrm, hrm2, hE, hE2, hZ, hZ2, rfl, hk, hs⟩, hf, hS⟩⟩
theorem rl_digest {c_room : Int32} {c_finding : Int32} {c_courseKnown : Int32} {c_settledByKnown : Int32} {c_text : jT1} {c_told : jT3} {c_others : jT3} {c_events : jT3} {c_seen : jT3} {c_course : jT11} {c_trial : jT11} {c_best : jB3} {c_sh0 : jS4} {c_sh1 : jS4} {c_sh2 : jS4} {c_sh3 : jS4} {c_settledBy : Nat → Int32} {c_views : Nat → Int32} {m_latest : Int32} {m_typed : Int32} {m_tenants : Int32} {m_room : Int32} {m_events : Int32} {m_gone : Int32} {m_sim : jT11} {m_sights : Int32} {m_drawn : Int32} {m_forms : Nat → Int32} {m_sizes : Nat → Int32} {m_items : Nat → Int32} {m_moved : Nat → Int32} {m_bytes : Nat → Int32} {m_tenant : Nat → Int32} {m_event : Nat → Int32} {m_sight : Nat → Int32} {m_rows : Nat → Int64} (h : Rel (c_room, c_finding, c_courseKnown, c_settledByKnown, c_text, c_told, c_others, c_events, c_seen, c_course, c_trial, c_best, c_sh0, c_sh1, c_sh2, c_sh3, c_settledBy, c_views) (m_latest, m_typed, m_tenants, m_room, m_events, m_gone, m_sim, m_sights, m_drawn, m_forms, m_sizes, m_items, m_moved, m_bytes, m_tenant, m_event, m_sight, m_rows)) : ∃ (r : Int64) (o_courseKnown : Int32) (o_settledByKnown : Int32) (o_others : jT3) (o_course : jT11) (o_trial : jT11) (o_best : jB3) (o_settledBy : Nat → Int32) (o_views : Nat → Int32) (p_tenants : Int32) (p_room : Int32) (p_gone : Int32) (p_sim : jT11) (p_drawn : Int32) (p_tenant : Nat → Int32) (p_rows : Nat → Int64), fX7_digest c_room c_finding c_text c_told c_events c_seen c_courseKnown c_settledByKnown c_others c_course c_trial c_best c_settledBy c_views = some (r, o_courseKnown, o_settledByKnown, o_others, o_course, o_trial, o_best, o_settledBy, o_views) ∧ fX8_digest m_latest m_typed m_events m_sights m_bytes m_event m_sight m_tenants m_room m_gone m_sim m_drawn m_tenant m_rows = some (r, p_tenants, p_room, p_gone, p_sim, p_drawn, p_tenant, p_rows) ∧ Rel (c_room, c_finding, o_courseKnown, o_settledByKnown, c_text, c_told, o_others, c_events, c_seen, o_course, o_trial, o_best, c_sh0, c_sh1, c_sh2, c_sh3, o_settledBy, o_views) (m_latest, m_typed, p_tenants, p_room, m_events, p_gone, p_sim, m_sights, p_drawn, m_forms, m_sizes, m_items, m_moved, m_bytes, p_tenant, m_event, m_sight, p_rows) := by
  obtain ⟨⟨N, E, Z, r, hN, htx, hty, hT, hr1, hr, hrm, hrm2, hE, hE2, hZ, hZ2, hg, hk, hs⟩, hf, hS⟩ := Rel_i.mp h
  subst htx
  subst hty
  subst hg
  obtain ⟨ck', kn', oth', C', tr', bs', sb', vw', e7, k', s'⟩ := cd_digest (Z := Z) (fi := c_finding) (oth := c_others) (tr := c_trial) (bs := c_best) (vw := c_views) hN hT hE hZ hrm hk hs
  obtain ⟨tn', S', dr', te', ro', e8⟩ := md_digest (Z := Z) (fi := c_finding) (dr := m_drawn) (ro := m_rows) (b := m_bytes) (tn := m_tenants) (S := m_sim) (te := m_tenant) hN hE2 hZ2 hrm2 hr
  rw [hf] at e7 e8
  rw [hf]
  exact ⟨_, _, _, _, _, _, _, _, _, _, _, _, _, _, _, _, e7, e8, Rel_i.mpr ⟨⟨N, E, Z, r, hN, rfl, rfl, hT, hr1, hr, hrm, hrm2, hE, hE2, hZ, hZ2, rfl, k', s'⟩, rfl, hS⟩⟩
theorem c7_tc {N : Nat} {b : Nat → Int32} {ck sk : Int32} {told : jT3} (hN : N ≤ 31) : ∃ told', fX7_textChanged (nI N, b) ck sk told = some (0, 0, told') ∧ InT3 (tx_T b N) told' := by
  obtain ⟨so', pd', wg', e, h⟩ := cm_take (b := b) (so := told.2.1) (pd := told.2.2.1) (wg := told.2.2.2) (sz := told.1) hN
  refine ⟨(nI (tx_n b N), so', pd', wg'), ?_, h⟩
  unfold fX7_textChanged fX7_houseChanged
  dsimp only
  rw [e, bd4_eq, bd2_eq]
theorem rl_type (v1 : Int32) {c_room : Int32} {c_finding : Int32} {c_courseKnown : Int32} {c_settledByKnown : Int32} {c_text : jT1} {c_told : jT3} {c_others : jT3} {c_events : jT3} {c_seen : jT3} {c_course : jT11} {c_trial : jT11} {c_best : jB3} {c_sh0 : jS4} {c_sh1 : jS4} {c_sh2 : jS4} {c_sh3 : jS4} {c_settledBy : Nat → Int32} {c_views : Nat → Int32} {m_latest : Int32} {m_typed : Int32} {m_tenants : Int32} {m_room : Int32} {m_events : Int32} {m_gone : Int32} {m_sim : jT11} {m_sights : Int32} {m_drawn : Int32} {m_forms : Nat → Int32} {m_sizes : Nat → Int32} {m_items : Nat → Int32} {m_moved : Nat → Int32} {m_bytes : Nat → Int32} {m_tenant : Nat → Int32} {m_event : Nat → Int32} {m_sight : Nat → Int32} {m_rows : Nat → Int64} (h : Rel (c_room, c_finding, c_courseKnown, c_settledByKnown, c_text, c_told, c_others, c_events, c_seen, c_course, c_trial, c_best, c_sh0, c_sh1, c_sh2, c_sh3, c_settledBy, c_views) (m_latest, m_typed, m_tenants, m_room, m_events, m_gone, m_sim, m_sights, m_drawn, m_forms, m_sizes, m_items, m_moved, m_bytes, m_tenant, m_event, m_sight, m_rows)) : ∃ (r : Int32) (o_courseKnown : Int32) (o_settledByKnown : Int32) (o_text : jT1) (o_told : jT3) (p_typed : Int32) (p_bytes : Nat → Int32), fX7_type v1 c_courseKnown c_settledByKnown c_text c_told = some (r, o_courseKnown, o_settledByKnown, o_text, o_told) ∧ fX8_type v1 m_typed m_bytes = some (r, p_typed, p_bytes) ∧ Rel (c_room, c_finding, o_courseKnown, o_settledByKnown, o_text, o_told, c_others, c_events, c_seen, c_course, c_trial, c_best, c_sh0, c_sh1, c_sh2, c_sh3, c_settledBy, c_views) (m_latest, p_typed, m_tenants, m_room, m_events, m_gone, m_sim, m_sights, m_drawn, m_forms, m_sizes, m_items, m_moved, p_bytes, m_tenant, m_event, m_sight, m_rows) := by
  obtain ⟨⟨N, E, Z, r, hN, htx, hty, hT, hr1, hr, hrm, hrm2, hE, hE2, hZ, hZ2, hg, hk, hs⟩, hf, hS⟩ := Rel_i.mp h
  subst htx
  subst hty
  subst hg
  by_cases c : 0 ≤ v1 ∧ v1 ≤ 255
  · by_cases d : N < 31
    · obtain ⟨told', e, hT'⟩ := c7_tc (N := N + 1) (b := upd m_bytes N v1) (ck := c_courseKnown) (sk := c_settledByKnown) (told := c_told) (by omega)
      have e7 : fX7_type v1 c_courseKnown c_settledByKnown (nI N, m_bytes) c_told = some (nI (N + 1), 0, 0, (nI (N + 1), upd m_bytes N v1), told') := by
        unfold fX7_type
        dsimp only
        rw [pz_within, bd1_eq, ite01, if_pos c, if_pos (show nI N < (31 : Int32) from nI_lt (b := 31) d (by omega)), pz_wr d (by omega), pz_nm, pz_1, e, bd3_eq]
      have e8 : fX8_type v1 (nI N) m_bytes = some (nI (N + 1), nI (N + 1), upd m_bytes N v1) := by
        unfold fX8_type
        rw [pz_inL v1 0 255 _ _ (by decide) (by decide), bd1_eq, ite01, if_pos c, if_neg (show ¬ nI N = (31 : Int32) from fun q => by have := (nI_eq (b := 31) (by omega) (by omega)).mp q; omega), pz_wr d (by omega), pz_nm, pz_1]
      exact ⟨_, _, _, _, _, _, _, e7, e8, Rel_i.mpr ⟨⟨N + 1, E, Z, r, by omega, rfl, rfl, hT', hr1, hr, hrm, hrm2, hE, hE2, hZ, hZ2, rfl, Or.inl rfl, Or.inl rfl⟩, hf, hS⟩⟩
    · have e7 : fX7_type v1 c_courseKnown c_settledByKnown (nI N, m_bytes) c_told = some (-4, c_courseKnown, c_settledByKnown, (nI N, m_bytes), c_told) := by
        unfold fX7_type
        dsimp only
        rw [pz_within, bd1_eq, ite01, if_pos c, if_neg (show ¬ nI N < (31 : Int32) from nI_nlt (b := 31) (by omega) (by omega))]
      have e8 : fX8_type v1 (nI N) m_bytes = some (-4, nI N, m_bytes) := by
        unfold fX8_type
        rw [pz_inL v1 0 255 _ _ (by decide) (by decide), bd1_eq, ite01, if_pos c, if_pos (show nI N = (31 : Int32) by rw [show N = 31 by omega]; rfl)]
      exact ⟨_, _, _, _, _, _, _, e7, e8, Rel_i.mpr ⟨⟨N, E, Z, r, hN, rfl, rfl, hT, hr1, hr, hrm, hrm2, hE, hE2, hZ, hZ2, rfl, hk, hs⟩, hf, hS⟩⟩
  · have e7 : fX7_type v1 c_courseKnown c_settledByKnown (nI N, m_bytes) c_told = some (-2, c_courseKnown, c_settledByKnown, (nI N, m_bytes), c_told) := by
      unfold fX7_type
      rw [pz_within, bd1_eq, ite01, if_neg c]
    have e8 : fX8_type v1 (nI N) m_bytes = some (-2, nI N, m_bytes) := by
      unfold fX8_type
      rw [pz_inL v1 0 255 _ _ (by decide) (by decide), bd1_eq, ite01, if_neg c]
    exact ⟨_, _, _, _, _, _, _, e7, e8, Rel_i.mpr ⟨⟨N, E, Z, r, hN, rfl, rfl, hT, hr1, hr, hrm, hrm2, hE, hE2, hZ, hZ2, rfl, hk, hs⟩, hf, hS⟩⟩
theorem rl_wipe {c_room : Int32} {c_finding : Int32} {c_courseKnown : Int32} {c_settledByKnown : Int32} {c_text : jT1} {c_told : jT3} {c_others : jT3} {c_events : jT3} {c_seen : jT3} {c_course : jT11} {c_trial : jT11} {c_best : jB3} {c_sh0 : jS4} {c_sh1 : jS4} {c_sh2 : jS4} {c_sh3 : jS4} {c_settledBy : Nat → Int32} {c_views : Nat → Int32} {m_latest : Int32} {m_typed : Int32} {m_tenants : Int32} {m_room : Int32} {m_events : Int32} {m_gone : Int32} {m_sim : jT11} {m_sights : Int32} {m_drawn : Int32} {m_forms : Nat → Int32} {m_sizes : Nat → Int32} {m_items : Nat → Int32} {m_moved : Nat → Int32} {m_bytes : Nat → Int32} {m_tenant : Nat → Int32} {m_event : Nat → Int32} {m_sight : Nat → Int32} {m_rows : Nat → Int64} (h : Rel (c_room, c_finding, c_courseKnown, c_settledByKnown, c_text, c_told, c_others, c_events, c_seen, c_course, c_trial, c_best, c_sh0, c_sh1, c_sh2, c_sh3, c_settledBy, c_views) (m_latest, m_typed, m_tenants, m_room, m_events, m_gone, m_sim, m_sights, m_drawn, m_forms, m_sizes, m_items, m_moved, m_bytes, m_tenant, m_event, m_sight, m_rows)) : ∃ (r : Int32) (o_courseKnown : Int32) (o_settledByKnown : Int32) (o_text : jT1) (o_told : jT3) (p_typed : Int32), fX7_wipe c_courseKnown c_settledByKnown c_text c_told = some (r, o_courseKnown, o_settledByKnown, o_text, o_told) ∧ fX8_wipe m_typed = some (r, p_typed) ∧ Rel (c_room, c_finding, o_courseKnown, o_settledByKnown, o_text, o_told, c_others, c_events, c_seen, c_course, c_trial, c_best, c_sh0, c_sh1, c_sh2, c_sh3, c_settledBy, c_views) (m_latest, p_typed, m_tenants, m_room, m_events, m_gone, m_sim, m_sights, m_drawn, m_forms, m_sizes, m_items, m_moved, m_bytes, m_tenant, m_event, m_sight, m_rows) := by
  obtain ⟨⟨N, E, Z, r, hN, htx, hty, hT, hr1, hr, hrm, hrm2, hE, hE2, hZ, hZ2, hg, hk, hs⟩, hf, hS⟩ := Rel_i.mp h
  subst htx
  subst hty
  subst hg
  obtain ⟨told', e, hT'⟩ := c7_tc (N := 0) (b := m_bytes) (ck := c_courseKnown) (sk := c_settledByKnown) (told := c_told) (by omega)
  have e' : fX7_textChanged ((0 : Int32), m_bytes) c_courseKnown c_settledByKnown c_told = some (0, 0, told') := e
  have e7 : fX7_wipe c_courseKnown c_settledByKnown (nI N, m_bytes) c_told = some (nI N, 0, 0, (0, m_bytes), told') := by
    unfold fX7_wipe
    dsimp only
    rw [e', bd3_eq]
  have e8 : fX8_wipe (nI N) = some (nI N, 0) := rfl
  exact ⟨_, _, _, _, _, _, e7, e8, Rel_i.mpr ⟨⟨0, E, Z, r, by omega, rfl, rfl, hT', hr1, hr, hrm, hrm2, hE, hE2, hZ, hZ2, rfl, Or.inl rfl, Or.inl rfl⟩, hf, hS⟩⟩
theorem rl_undo {c_room : Int32} {c_finding : Int32} {c_courseKnown : Int32} {c_settledByKnown : Int32} {c_text : jT1} {c_told : jT3} {c_others : jT3} {c_events : jT3} {c_seen : jT3} {c_course : jT11} {c_trial : jT11} {c_best : jB3} {c_sh0 : jS4} {c_sh1 : jS4} {c_sh2 : jS4} {c_sh3 : jS4} {c_settledBy : Nat → Int32} {c_views : Nat → Int32} {m_latest : Int32} {m_typed : Int32} {m_tenants : Int32} {m_room : Int32} {m_events : Int32} {m_gone : Int32} {m_sim : jT11} {m_sights : Int32} {m_drawn : Int32} {m_forms : Nat → Int32} {m_sizes : Nat → Int32} {m_items : Nat → Int32} {m_moved : Nat → Int32} {m_bytes : Nat → Int32} {m_tenant : Nat → Int32} {m_event : Nat → Int32} {m_sight : Nat → Int32} {m_rows : Nat → Int64} (h : Rel (c_room, c_finding, c_courseKnown, c_settledByKnown, c_text, c_told, c_others, c_events, c_seen, c_course, c_trial, c_best, c_sh0, c_sh1, c_sh2, c_sh3, c_settledBy, c_views) (m_latest, m_typed, m_tenants, m_room, m_events, m_gone, m_sim, m_sights, m_drawn, m_forms, m_sizes, m_items, m_moved, m_bytes, m_tenant, m_event, m_sight, m_rows)) : ∃ (r : Int32) (o_courseKnown : Int32) (o_settledByKnown : Int32) (o_text : jT1) (o_told : jT3) (p_typed : Int32), fX7_undo c_courseKnown c_settledByKnown c_text c_told = some (r, o_courseKnown, o_settledByKnown, o_text, o_told) ∧ fX8_undo m_typed = some (r, p_typed) ∧ Rel (c_room, c_finding, o_courseKnown, o_settledByKnown, o_text, o_told, c_others, c_events, c_seen, c_course, c_trial, c_best, c_sh0, c_sh1, c_sh2, c_sh3, c_settledBy, c_views) (m_latest, p_typed, m_tenants, m_room, m_events, m_gone, m_sim, m_sights, m_drawn, m_forms, m_sizes, m_items, m_moved, m_bytes, m_tenant, m_event, m_sight, m_rows) := by
  obtain ⟨⟨N, E, Z, r, hN, htx, hty, hT, hr1, hr, hrm, hrm2, hE, hE2, hZ, hZ2, hg, hk, hs⟩, hf, hS⟩ := Rel_i.mp h
  subst htx
  subst hty
  subst hg
  rcases Nat.eq_zero_or_pos N with d | d
  · subst d
    have e7 : fX7_undo c_courseKnown c_settledByKnown (nI 0, m_bytes) c_told = some (-3, c_courseKnown, c_settledByKnown, (nI 0, m_bytes), c_told) := by
      unfold fX7_undo
      rw [if_pos (show (nI 0, m_bytes).1 = (0 : Int32) from rfl)]
    have e8 : fX8_undo (nI 0) = some (-3, nI 0) := by
      unfold fX8_undo
      rw [if_pos (show nI 0 = (0 : Int32) from rfl)]
    exact ⟨_, _, _, _, _, _, e7, e8, Rel_i.mpr ⟨⟨0, E, Z, r, hN, rfl, rfl, hT, hr1, hr, hrm, hrm2, hE, hE2, hZ, hZ2, rfl, hk, hs⟩, hf, hS⟩⟩
  · obtain ⟨M, rfl⟩ : ∃ M, N = M + 1 := ⟨N - 1, by omega⟩
    obtain ⟨told', e, hT'⟩ := c7_tc (N := M) (b := m_bytes) (ck := c_courseKnown) (sk := c_settledByKnown) (told := c_told) (by omega)
    have e7 : fX7_undo c_courseKnown c_settledByKnown (nI (M + 1), m_bytes) c_told = some (nI M, 0, 0, (nI M, m_bytes), told') := by
      unfold fX7_undo
      dsimp only
      rw [if_neg (nI_ne0 (by omega) (by omega)), nI_pred, pz_nm, e, bd3_eq]
    have e8 : fX8_undo (nI (M + 1)) = some (nI M, nI M) := by
      unfold fX8_undo
      rw [if_neg (nI_ne0 (by omega) (by omega)), nI_pred, pz_nm]
    exact ⟨_, _, _, _, _, _, e7, e8, Rel_i.mpr ⟨⟨M, E, Z, r, by omega, rfl, rfl, hT', hr1, hr, hrm, hrm2, hE, hE2, hZ, hZ2, rfl, Or.inl rfl, Or.inl rfl⟩, hf, hS⟩⟩
theorem rl_room (v1 : Int32) {c_room : Int32} {c_finding : Int32} {c_courseKnown : Int32} {c_settledByKnown : Int32} {c_text : jT1} {c_told : jT3} {c_others : jT3} {c_events : jT3} {c_seen : jT3} {c_course : jT11} {c_trial : jT11} {c_best : jB3} {c_sh0 : jS4} {c_sh1 : jS4} {c_sh2 : jS4} {c_sh3 : jS4} {c_settledBy : Nat → Int32} {c_views : Nat → Int32} {m_latest : Int32} {m_typed : Int32} {m_tenants : Int32} {m_room : Int32} {m_events : Int32} {m_gone : Int32} {m_sim : jT11} {m_sights : Int32} {m_drawn : Int32} {m_forms : Nat → Int32} {m_sizes : Nat → Int32} {m_items : Nat → Int32} {m_moved : Nat → Int32} {m_bytes : Nat → Int32} {m_tenant : Nat → Int32} {m_event : Nat → Int32} {m_sight : Nat → Int32} {m_rows : Nat → Int64} (h : Rel (c_room, c_finding, c_courseKnown, c_settledByKnown, c_text, c_told, c_others, c_events, c_seen, c_course, c_trial, c_best, c_sh0, c_sh1, c_sh2, c_sh3, c_settledBy, c_views) (m_latest, m_typed, m_tenants, m_room, m_events, m_gone, m_sim, m_sights, m_drawn, m_forms, m_sizes, m_items, m_moved, m_bytes, m_tenant, m_event, m_sight, m_rows)) : ∃ (r : Int32) (o_room : Int32) (o_courseKnown : Int32) (o_settledByKnown : Int32) (p_room : Int32), fX7_room v1 c_room c_courseKnown c_settledByKnown = some (r, o_room, o_courseKnown, o_settledByKnown) ∧ fX8_room v1 m_room = some (r, p_room) ∧ Rel (o_room, c_finding, o_courseKnown, o_settledByKnown, c_text, c_told, c_others, c_events, c_seen, c_course, c_trial, c_best, c_sh0, c_sh1, c_sh2, c_sh3, c_settledBy, c_views) (m_latest, m_typed, m_tenants, p_room, m_events, m_gone, m_sim, m_sights, m_drawn, m_forms, m_sizes, m_items, m_moved, m_bytes, m_tenant, m_event, m_sight, m_rows) := by
  obtain ⟨⟨N, E, Z, r, hN, htx, hty, hT, hr1, hr, hrm, hrm2, hE, hE2, hZ, hZ2, hg, hk, hs⟩, hf, hS⟩ := Rel_i.mp h
  subst htx
  subst hty
  subst hg
  by_cases c : (1 : Int32) ≤ v1 ∧ v1 ≤ 8
  · have c0 : (0 : Int32) ≤ v1 ∧ v1 ≤ nI 8 := ⟨by
      have := c.1
      rw [fa_le] at this ⊢
      have e1 : (1 : Int32).toInt = 1 := by decide
      have e0 : (0 : Int32).toInt = 0 := by decide
      omega, c.2⟩
    obtain ⟨j, hj, e⟩ := vin (n := 8) (by omega) c0
    subst e
    have hj1 : 1 ≤ j := (nI_leI (a := 1) (by omega) (by omega)).mp c.1
    have e7 : fX7_room (nI j) c_room c_courseKnown c_settledByKnown = some (c_room, nI j, 0, 0) := by
      unfold fX7_room fX7_houseChanged
      rw [pz_within, bd1_eq, ite01, if_pos c, bd2_eq]
    have e8 : fX8_room (nI j) m_room = some (c_room, nI j) := by
      unfold fX8_room
      rw [pz_inL (nI j) 1 8 _ _ (by decide) (by decide), bd1_eq, ite01, if_pos c, hrm, hrm2]
    exact ⟨_, _, _, _, _, e7, e8, Rel_i.mpr ⟨⟨N, E, Z, j, hN, rfl, rfl, hT, hj1, hj, rfl, rfl, hE, hE2, hZ, hZ2, rfl, Or.inl rfl, Or.inl rfl⟩, hf, hS⟩⟩
  · have e7 : fX7_room v1 c_room c_courseKnown c_settledByKnown = some (-2, c_room, c_courseKnown, c_settledByKnown) := by
      unfold fX7_room
      rw [pz_within, bd1_eq, ite01, if_neg c]
    have e8 : fX8_room v1 m_room = some (-2, m_room) := by
      unfold fX8_room
      rw [pz_inL v1 1 8 _ _ (by decide) (by decide), bd1_eq, ite01, if_neg c]
    exact ⟨_, _, _, _, _, e7, e8, Rel_i.mpr ⟨⟨N, E, Z, r, hN, rfl, rfl, hT, hr1, hr, hrm, hrm2, hE, hE2, hZ, hZ2, rfl, hk, hs⟩, hf, hS⟩⟩
def sE_add (E : sT) (k m n : Nat) : sT := (E.1 + 1, fun e => if e = E.1 then k else E.2.1 e, fun e => if e = E.1 then m else E.2.2.1 e, fun e => if e = E.1 then n else E.2.2.2 e)
theorem InE_add {E : sT} {sz : Int32} {ki mo nu : Nat → Int32} {k m n : Nat} (h : InE E sz ki mo nu) (h8 : E.1 < 8) (hk : k ≤ 2) (hm : m ≤ 23) (hn : n ≤ 7) : InE (sE_add E k m n) (nI (E.1 + 1)) (upd ki E.1 (nI k)) (upd mo E.1 (nI m)) (upd nu E.1 (nI n)) := by
  refine ⟨?_, rfl, fun e he => ?_⟩
  · show E.1 + 1 ≤ 8; omega
  · have he' : e < E.1 + 1 := he
    unfold sE_add
    dsimp only
    rw [upd_at, upd_at, upd_at]
    by_cases c : e = E.1
    · rw [if_pos c, if_pos c, if_pos c, if_pos c, if_pos c, if_pos c]; exact ⟨rfl, rfl, rfl, hk, hm, hn⟩
    · rw [if_neg c, if_neg c, if_neg c, if_neg c, if_neg c, if_neg c]; exact h.2.2 e (by omega)
theorem ME_add {E : sT} {en : Int32} {ev : Nat → Int32} {k m n : Nat} (h : ME E en ev) (h8 : E.1 < 8) (hk : k ≤ 2) (hm : m ≤ 23) (hn : n ≤ 7) : ME (sE_add E k m n) (nI (E.1 + 1)) (upd (upd (upd ev (3 * E.1) (nI k)) (3 * E.1 + 1) (nI m)) (3 * E.1 + 2) (nI n)) := by
  refine ⟨?_, rfl, fun e he => ?_⟩
  · show E.1 + 1 ≤ 8; omega
  · have he' : e < E.1 + 1 := he
    unfold sE_add
    dsimp only
    by_cases c : e = E.1
    · subst c
      rw [if_pos rfl, if_pos rfl, if_pos rfl, pk_un (show 3 * E.1 ≠ 3 * E.1 + 2 by omega), pk_un (show 3 * E.1 ≠ 3 * E.1 + 1 by omega), pk_us, pk_un (show 3 * E.1 + 1 ≠ 3 * E.1 + 2 by omega), pk_us, pk_us]
      exact ⟨rfl, rfl, rfl, hk, hm, hn⟩
    · rw [if_neg c, if_neg c, if_neg c, pk_un (show 3 * e ≠ 3 * E.1 + 2 by omega), pk_un (show 3 * e ≠ 3 * E.1 + 1 by omega), pk_un (show 3 * e ≠ 3 * E.1 by omega), pk_un (show 3 * e + 1 ≠ 3 * E.1 + 2 by omega), pk_un (show 3 * e + 1 ≠ 3 * E.1 + 1 by omega), pk_un (show 3 * e + 1 ≠ 3 * E.1 by omega), pk_un (show 3 * e + 2 ≠ 3 * E.1 + 2 by omega), pk_un (show 3 * e + 2 ≠ 3 * E.1 + 1 by omega), pk_un (show 3 * e + 2 ≠ 3 * E.1 by omega)]
      exact h.2.2 e (by omega)
theorem ev_both {E : sT} {ck sk en : Int32} {ev : jT3} {ev2 : Nat → Int32} (hE : InE3 E ev) (hE2 : ME E en ev2) (a b c : Int32) : ∃ v ck' sk' ev' en' ev2' E', fX7_event a b c ck sk ev = some (v, ck', sk', ev') ∧ fX8_event a b c en ev2 = some (v, en', ev2') ∧ InE3 E' ev' ∧ ME E' en' ev2' ∧ ((v < 0 ∧ ck' = ck ∧ sk' = sk ∧ E' = E) ∨ (0 ≤ v ∧ ck' = 0 ∧ sk' = 0)) := by
  have hE1 : E.1 ≤ 8 := hE.1
  have hs1 : ev.1 = nI E.1 := hE.2.1
  have hs2 : en = nI E.1 := hE2.2.1
  have hcan : fX2_canBe a b c = some (if 0 ≤ a ∧ a ≤ 2 then (if 0 ≤ b ∧ b ≤ 23 then (if 0 ≤ c ∧ c ≤ 7 then 1 else 0) else 0) else 0) := by
    unfold fX2_canBe
    rw [pz_within, bd1_eq, ite01, ih_month7, bd1_eq, ite01, pz_within, bd1_eq, ite01]
    simp only [sm_ite]
  unfold fX7_event fX8_event
  rw [hcan, bd1_eq, pz_inL a 0 2 _ _ (by decide) (by decide), bd1_eq, ite01, ih_month8, bd1_eq, ite01, pz_inL c 0 7 _ _ (by decide) (by decide), bd1_eq, ite01]
  have bad : (-2 : Int32) < 0 := by decide
  by_cases c1 : 0 ≤ a ∧ a ≤ 2
  · rw [if_pos c1, if_pos c1]
    by_cases c2 : 0 ≤ b ∧ b ≤ 23
    · rw [if_pos c2, if_pos c2]
      by_cases c3 : 0 ≤ c ∧ c ≤ 7
      · rw [if_pos c3, if_pos c3, if_neg (show ¬ (1 : Int32) = 0 by decide)]
        by_cases d : E.1 < 8
        · obtain ⟨ka, la, e⟩ := vin (n := 2) (by omega) c1
          subst e
          obtain ⟨kb, lb, e⟩ := vin (n := 23) (by omega) c2
          subst e
          obtain ⟨kc, lc, e⟩ := vin (n := 7) (by omega) c3
          subst e
          have hA := InE_add hE d la lb lc
          have hB := ME_add hE2 d la lb lc
          unfold fX2_add fX7_houseChanged
          rw [hs1, if_pos (show nI E.1 < (8 : Int32) from nI_lt (b := 8) d (by omega)), pz_wr d (by omega), pz_wr d (by omega), pz_wr d (by omega), pz_nm, pz_1, bd4_eq, bd2_eq]
          rw [hs2, if_neg (show ¬ nI E.1 = (8 : Int32) from fun q => by have := (nI_eq (b := 8) (by omega) (by omega)).mp q; omega), mm_31, mm_32, mm_3, pz_wr (by omega) (by omega), pz_wr (by omega) (by omega), pz_wr (by omega) (by omega), pz_nm, pz_1]
          exact ⟨_, _, _, _, _, _, _, rfl, rfl, hA, hB, Or.inr ⟨nI_pos' (by omega), rfl, rfl⟩⟩
        · rw [hs1, if_neg (show ¬ nI E.1 < (8 : Int32) from nI_nlt (b := 8) (by omega) (by omega))]
          rw [hs2, if_pos (show nI E.1 = (8 : Int32) by rw [show E.1 = 8 by omega]; rfl)]
          exact ⟨_, _, _, _, _, _, E, rfl, rfl, hE, ⟨hE2.1, rfl, hE2.2.2⟩, Or.inl ⟨by decide, rfl, rfl, rfl⟩⟩
      · rw [if_neg c3, if_neg c3, if_pos rfl]
        exact ⟨_, _, _, _, _, _, E, rfl, rfl, hE, hE2, Or.inl ⟨bad, rfl, rfl, rfl⟩⟩
    · rw [if_neg c2, if_neg c2, if_pos rfl]
      exact ⟨_, _, _, _, _, _, E, rfl, rfl, hE, hE2, Or.inl ⟨bad, rfl, rfl, rfl⟩⟩
  · rw [if_neg c1, if_neg c1, if_pos rfl]
    exact ⟨_, _, _, _, _, _, E, rfl, rfl, hE, hE2, Or.inl ⟨bad, rfl, rfl, rfl⟩⟩
theorem rl_event (v1 : Int32) (v2 : Int32) (v3 : Int32) {c_room : Int32} {c_finding : Int32} {c_courseKnown : Int32} {c_settledByKnown : Int32} {c_text : jT1} {c_told : jT3} {c_others : jT3} {c_events : jT3} {c_seen : jT3} {c_course : jT11} {c_trial : jT11} {c_best : jB3} {c_sh0 : jS4} {c_sh1 : jS4} {c_sh2 : jS4} {c_sh3 : jS4} {c_settledBy : Nat → Int32} {c_views : Nat → Int32} {m_latest : Int32} {m_typed : Int32} {m_tenants : Int32} {m_room : Int32} {m_events : Int32} {m_gone : Int32} {m_sim : jT11} {m_sights : Int32} {m_drawn : Int32} {m_forms : Nat → Int32} {m_sizes : Nat → Int32} {m_items : Nat → Int32} {m_moved : Nat → Int32} {m_bytes : Nat → Int32} {m_tenant : Nat → Int32} {m_event : Nat → Int32} {m_sight : Nat → Int32} {m_rows : Nat → Int64} (h : Rel (c_room, c_finding, c_courseKnown, c_settledByKnown, c_text, c_told, c_others, c_events, c_seen, c_course, c_trial, c_best, c_sh0, c_sh1, c_sh2, c_sh3, c_settledBy, c_views) (m_latest, m_typed, m_tenants, m_room, m_events, m_gone, m_sim, m_sights, m_drawn, m_forms, m_sizes, m_items, m_moved, m_bytes, m_tenant, m_event, m_sight, m_rows)) : ∃ (r : Int32) (o_courseKnown : Int32) (o_settledByKnown : Int32) (o_events : jT3) (p_events : Int32) (p_event : Nat → Int32), fX7_event v1 v2 v3 c_courseKnown c_settledByKnown c_events = some (r, o_courseKnown, o_settledByKnown, o_events) ∧ fX8_event v1 v2 v3 m_events m_event = some (r, p_events, p_event) ∧ Rel (c_room, c_finding, o_courseKnown, o_settledByKnown, c_text, c_told, c_others, o_events, c_seen, c_course, c_trial, c_best, c_sh0, c_sh1, c_sh2, c_sh3, c_settledBy, c_views) (m_latest, m_typed, m_tenants, m_room, p_events, m_gone, m_sim, m_sights, m_drawn, m_forms, m_sizes, m_items, m_moved, m_bytes, m_tenant, p_event, m_sight, m_rows) := by
  obtain ⟨⟨N, E, Z, r, hN, htx, hty, hT, hr1, hr, hrm, hrm2, hE, hE2, hZ, hZ2, hg, hk, hs⟩, hf, hS⟩ := Rel_i.mp h
  subst htx
  subst hty
  subst hg
  obtain ⟨v, ck', sk', ev', en', ev2', E', e7, e8, hA, hB, q⟩ := ev_both (ck := c_courseKnown) (sk := c_settledByKnown) hE hE2 v1 v2 v3
  refine ⟨_, _, _, _, _, _, e7, e8, Rel_i.mpr ⟨⟨N, E', Z, r, hN, rfl, rfl, hT, hr1, hr, hrm, hrm2, hA, hB, hZ, hZ2, rfl, ?_, ?_⟩, hf, hS⟩⟩
  · rcases q with ⟨-, q1, q2, q3⟩ | ⟨-, q1, q2⟩
    · subst q1; subst q3; exact hk
    · exact Or.inl q1
  · rcases q with ⟨-, q1, q2, q3⟩ | ⟨-, q1, q2⟩
    · subst q2; subst q3; exact hs
    · exact Or.inl q2
theorem rl_back {c_room : Int32} {c_finding : Int32} {c_courseKnown : Int32} {c_settledByKnown : Int32} {c_text : jT1} {c_told : jT3} {c_others : jT3} {c_events : jT3} {c_seen : jT3} {c_course : jT11} {c_trial : jT11} {c_best : jB3} {c_sh0 : jS4} {c_sh1 : jS4} {c_sh2 : jS4} {c_sh3 : jS4} {c_settledBy : Nat → Int32} {c_views : Nat → Int32} {m_latest : Int32} {m_typed : Int32} {m_tenants : Int32} {m_room : Int32} {m_events : Int32} {m_gone : Int32} {m_sim : jT11} {m_sights : Int32} {m_drawn : Int32} {m_forms : Nat → Int32} {m_sizes : Nat → Int32} {m_items : Nat → Int32} {m_moved : Nat → Int32} {m_bytes : Nat → Int32} {m_tenant : Nat → Int32} {m_event : Nat → Int32} {m_sight : Nat → Int32} {m_rows : Nat → Int64} (h : Rel (c_room, c_finding, c_courseKnown, c_settledByKnown, c_text, c_told, c_others, c_events, c_seen, c_course, c_trial, c_best, c_sh0, c_sh1, c_sh2, c_sh3, c_settledBy, c_views) (m_latest, m_typed, m_tenants, m_room, m_events, m_gone, m_sim, m_sights, m_drawn, m_forms, m_sizes, m_items, m_moved, m_bytes, m_tenant, m_event, m_sight, m_rows)) : ∃ (r : Int32) (o_courseKnown : Int32) (o_settledByKnown : Int32) (o_events_size : Int32) (p_events : Int32), fX7_back c_courseKnown c_settledByKnown c_events.1 = some (r, o_courseKnown, o_settledByKnown, o_events_size) ∧ fX8_back m_events = some (r, p_events) ∧ Rel (c_room, c_finding, o_courseKnown, o_settledByKnown, c_text, c_told, c_others, (o_events_size, c_events.2.1, c_events.2.2.1, c_events.2.2.2), c_seen, c_course, c_trial, c_best, c_sh0, c_sh1, c_sh2, c_sh3, c_settledBy, c_views) (m_latest, m_typed, m_tenants, m_room, p_events, m_gone, m_sim, m_sights, m_drawn, m_forms, m_sizes, m_items, m_moved, m_bytes, m_tenant, m_event, m_sight, m_rows) := by
  obtain ⟨⟨N, E, Z, r, hN, htx, hty, hT, hr1, hr, hrm, hrm2, hE, hE2, hZ, hZ2, hg, hk, hs⟩, hf, hS⟩ := Rel_i.mp h
  subst htx
  subst hty
  subst hg
  have hE1 : E.1 ≤ 8 := hE.1
  have hs1 : c_events.1 = nI E.1 := hE.2.1
  have hs2 : m_events = nI E.1 := hE2.2.1
  rcases Nat.eq_zero_or_pos E.1 with d | d
  · have e7 : fX7_back c_courseKnown c_settledByKnown c_events.1 = some (-3, c_courseKnown, c_settledByKnown, c_events.1) := by
      unfold fX7_back
      rw [if_pos (by rw [hs1, d]; rfl)]
    have e8 : fX8_back m_events = some (-3, m_events) := by
      unfold fX8_back
      rw [if_pos (by rw [hs2, d]; rfl)]
    exact ⟨_, _, _, _, _, e7, e8, Rel_i.mpr ⟨⟨N, E, Z, r, hN, rfl, rfl, hT, hr1, hr, hrm, hrm2, hE, hE2, hZ, hZ2, rfl, hk, hs⟩, hf, hS⟩⟩
  · have e7 : fX7_back c_courseKnown c_settledByKnown c_events.1 = some (nI (E.1 - 1), 0, 0, nI (E.1 - 1)) := by
      unfold fX7_back fX7_houseChanged
      rw [hs1, if_neg (nI_ne0 d (by omega)), show nI E.1 - (1 : Int32) = nI (E.1 - 1) from pk_sub (b := 1) d, pz_nm, bd2_eq]
    have e8 : fX8_back m_events = some (nI (E.1 - 1), nI (E.1 - 1)) := by
      unfold fX8_back
      rw [hs2, if_neg (nI_ne0 d (by omega)), show nI E.1 - (1 : Int32) = nI (E.1 - 1) from pk_sub (b := 1) d, pz_nm]
    have hA : InE3 (E.1 - 1, E.2.1, E.2.2.1, E.2.2.2) (nI (E.1 - 1), c_events.2.1, c_events.2.2.1, c_events.2.2.2) := by
      refine ⟨?_, rfl, fun e he => ?_⟩
      · show E.1 - 1 ≤ 8; omega
      · have he' : e < E.1 - 1 := he
        exact hE.2.2 e (by omega)
    have hB : ME (E.1 - 1, E.2.1, E.2.2.1, E.2.2.2) (nI (E.1 - 1)) m_event := by
      refine ⟨?_, rfl, fun e he => ?_⟩
      · show E.1 - 1 ≤ 8; omega
      · have he' : e < E.1 - 1 := he
        exact hE2.2.2 e (by omega)
    exact ⟨_, _, _, _, _, e7, e8, Rel_i.mpr ⟨⟨N, (E.1 - 1, E.2.1, E.2.2.1, E.2.2.2), Z, r, hN, rfl, rfl, hT, hr1, hr, hrm, hrm2, hA, hB, hZ, hZ2, rfl, Or.inl rfl, Or.inl rfl⟩, hf, hS⟩⟩
theorem rl_seen (v1 : Int32) (v2 : Int32) (v3 : Int32) {c_room : Int32} {c_finding : Int32} {c_courseKnown : Int32} {c_settledByKnown : Int32} {c_text : jT1} {c_told : jT3} {c_others : jT3} {c_events : jT3} {c_seen : jT3} {c_course : jT11} {c_trial : jT11} {c_best : jB3} {c_sh0 : jS4} {c_sh1 : jS4} {c_sh2 : jS4} {c_sh3 : jS4} {c_settledBy : Nat → Int32} {c_views : Nat → Int32} {m_latest : Int32} {m_typed : Int32} {m_tenants : Int32} {m_room : Int32} {m_events : Int32} {m_gone : Int32} {m_sim : jT11} {m_sights : Int32} {m_drawn : Int32} {m_forms : Nat → Int32} {m_sizes : Nat → Int32} {m_items : Nat → Int32} {m_moved : Nat → Int32} {m_bytes : Nat → Int32} {m_tenant : Nat → Int32} {m_event : Nat → Int32} {m_sight : Nat → Int32} {m_rows : Nat → Int64} (h : Rel (c_room, c_finding, c_courseKnown, c_settledByKnown, c_text, c_told, c_others, c_events, c_seen, c_course, c_trial, c_best, c_sh0, c_sh1, c_sh2, c_sh3, c_settledBy, c_views) (m_latest, m_typed, m_tenants, m_room, m_events, m_gone, m_sim, m_sights, m_drawn, m_forms, m_sizes, m_items, m_moved, m_bytes, m_tenant, m_event, m_sight, m_rows)) : ∃ (r : Int32) (o_seen : jT3) (p_sights : Int32) (p_sight : Nat → Int32), fX7_seen v1 v2 v3 c_seen = some (r, o_seen) ∧ fX8_seen v1 v2 v3 m_sights m_sight = some (r, p_sights, p_sight) ∧ Rel (c_room, c_finding, c_courseKnown, c_settledByKnown, c_text, c_told, c_others, c_events, o_seen, c_course, c_trial, c_best, c_sh0, c_sh1, c_sh2, c_sh3, c_settledBy, c_views) (m_latest, m_typed, m_tenants, m_room, m_events, m_gone, m_sim, p_sights, m_drawn, m_forms, m_sizes, m_items, m_moved, m_bytes, m_tenant, m_event, p_sight, m_rows) := by
  obtain ⟨⟨N, E, Z, r, hN, htx, hty, hT, hr1, hr, hrm, hrm2, hE, hE2, hZ, hZ2, hg, hk, hs⟩, hf, hS⟩ := Rel_i.mp h
  subst htx
  subst hty
  subst hg
  have hZ1 : Z.1 ≤ 8 := hZ.1
  have hs1 : c_seen.1 = nI Z.1 := hZ.2.1
  have hs2 : m_sights = nI Z.1 := hZ2.2.1
  by_cases c1 : 0 ≤ v1 ∧ v1 ≤ 23
  · by_cases c2 : 0 ≤ v2 ∧ v2 ≤ 7
    · by_cases c3 : (-1 : Int32) ≤ v3 ∧ v3 ≤ 12
      · by_cases d : Z.1 < 8
        · obtain ⟨ka, la, e⟩ := vin (n := 23) (by omega) c1
          subst e
          obtain ⟨kb, lb, e⟩ := vin (n := 7) (by omega) c2
          subst e
          have e7 : fX7_seen (nI ka) (nI kb) v3 c_seen = some (nI (Z.1 + 1), (nI (Z.1 + 1), upd c_seen.2.1 Z.1 (nI ka), upd c_seen.2.2.1 Z.1 (nI kb), upd c_seen.2.2.2 Z.1 v3)) := by
            unfold fX7_seen fX3_add
            rw [ih_month7, bd1_eq, ite01, if_pos c1, pz_within, bd1_eq, ite01, if_pos c2, pz_within, bd1_eq, ite01, if_pos c3, hs1, if_pos (show nI Z.1 < (8 : Int32) from nI_lt (b := 8) d (by omega)), pz_wr d (by omega), pz_wr d (by omega), pz_wr d (by omega), pz_nm, pz_1, bd4_eq]
          have e8 : fX8_seen (nI ka) (nI kb) v3 m_sights m_sight = some (nI (Z.1 + 1), nI (Z.1 + 1), upd (upd (upd m_sight (3 * Z.1) (nI ka)) (3 * Z.1 + 1) (nI kb)) (3 * Z.1 + 2) v3) := by
            unfold fX8_seen
            rw [ih_month8, bd1_eq, ite01, if_pos c1, pz_inL (nI kb) 0 7 _ _ (by decide) (by decide), bd1_eq, ite01, if_pos c2, pz_inL v3 (-1) 12 _ _ (by decide) (by decide), bd1_eq, ite01, if_pos c3, hs2, if_neg (show ¬ nI Z.1 = (8 : Int32) from fun q => by have := (nI_eq (b := 8) (by omega) (by omega)).mp q; omega), mm_31, mm_32, mm_3, pz_wr (by omega) (by omega), pz_wr (by omega) (by omega), pz_wr (by omega) (by omega), pz_nm, pz_1]
          have hA : InZ (Z.1 + 1, fun e => if e = Z.1 then ka else Z.2.1 e, fun e => if e = Z.1 then kb else Z.2.2.1 e, fun e => if e = Z.1 then v3 else Z.2.2.2 e) (nI (Z.1 + 1), upd c_seen.2.1 Z.1 (nI ka), upd c_seen.2.2.1 Z.1 (nI kb), upd c_seen.2.2.2 Z.1 v3) := by
            refine ⟨?_, rfl, fun e he => ?_⟩
            · show Z.1 + 1 ≤ 8; omega
            · have he' : e < Z.1 + 1 := he
              dsimp only
              rw [upd_at, upd_at, upd_at]
              by_cases c : e = Z.1
              · rw [if_pos c, if_pos c, if_pos c, if_pos c, if_pos c, if_pos c]; exact ⟨rfl, rfl, rfl, la, lb⟩
              · rw [if_neg c, if_neg c, if_neg c, if_neg c, if_neg c, if_neg c]; exact hZ.2.2 e (by omega)
          have hB : MZ (Z.1 + 1, fun e => if e = Z.1 then ka else Z.2.1 e, fun e => if e = Z.1 then kb else Z.2.2.1 e, fun e => if e = Z.1 then v3 else Z.2.2.2 e) (nI (Z.1 + 1)) (upd (upd (upd m_sight (3 * Z.1) (nI ka)) (3 * Z.1 + 1) (nI kb)) (3 * Z.1 + 2) v3) := by
            refine ⟨?_, rfl, fun e he => ?_⟩
            · show Z.1 + 1 ≤ 8; omega
            · have he' : e < Z.1 + 1 := he
              dsimp only
              by_cases c : e = Z.1
              · subst c
                rw [if_pos rfl, if_pos rfl, if_pos rfl, pk_un (show 3 * Z.1 ≠ 3 * Z.1 + 2 by omega), pk_un (show 3 * Z.1 ≠ 3 * Z.1 + 1 by omega), pk_us, pk_un (show 3 * Z.1 + 1 ≠ 3 * Z.1 + 2 by omega), pk_us, pk_us]
                exact ⟨rfl, rfl, rfl, la, lb⟩
              · rw [if_neg c, if_neg c, if_neg c, pk_un (show 3 * e ≠ 3 * Z.1 + 2 by omega), pk_un (show 3 * e ≠ 3 * Z.1 + 1 by omega), pk_un (show 3 * e ≠ 3 * Z.1 by omega), pk_un (show 3 * e + 1 ≠ 3 * Z.1 + 2 by omega), pk_un (show 3 * e + 1 ≠ 3 * Z.1 + 1 by omega), pk_un (show 3 * e + 1 ≠ 3 * Z.1 by omega), pk_un (show 3 * e + 2 ≠ 3 * Z.1 + 2 by omega), pk_un (show 3 * e + 2 ≠ 3 * Z.1 + 1 by omega), pk_un (show 3 * e + 2 ≠ 3 * Z.1 by omega)]
                exact hZ2.2.2 e (by omega)
          exact ⟨_, _, _, _, e7, e8, Rel_i.mpr ⟨⟨N, E, _, r, hN, rfl, rfl, hT, hr1, hr, hrm, hrm2, hE, hE2, hA, hB, rfl, hk, hs⟩, hf, hS⟩⟩
        · have e7 : fX7_seen v1 v2 v3 c_seen = some (-4, c_seen) := by
            unfold fX7_seen
            rw [ih_month7, bd1_eq, ite01, if_pos c1, pz_within, bd1_eq, ite01, if_pos c2, pz_within, bd1_eq, ite01, if_pos c3, hs1, if_neg (show ¬ nI Z.1 < (8 : Int32) from nI_nlt (b := 8) (by omega) (by omega))]
          have e8 : fX8_seen v1 v2 v3 m_sights m_sight = some (-4, m_sights, m_sight) := by
            unfold fX8_seen
            rw [ih_month8, bd1_eq, ite01, if_pos c1, pz_inL v2 0 7 _ _ (by decide) (by decide), bd1_eq, ite01, if_pos c2, pz_inL v3 (-1) 12 _ _ (by decide) (by decide), bd1_eq, ite01, if_pos c3, if_pos (show m_sights = (8 : Int32) by rw [hs2, show Z.1 = 8 by omega]; rfl)]
          exact ⟨_, _, _, _, e7, e8, Rel_i.mpr ⟨⟨N, E, Z, r, hN, rfl, rfl, hT, hr1, hr, hrm, hrm2, hE, hE2, hZ, hZ2, rfl, hk, hs⟩, hf, hS⟩⟩
      · have e7 : fX7_seen v1 v2 v3 c_seen = some (-2, c_seen) := by
          unfold fX7_seen
          rw [ih_month7, bd1_eq, ite01, if_pos c1, pz_within, bd1_eq, ite01, if_pos c2, pz_within, bd1_eq, ite01, if_neg c3]
        have e8 : fX8_seen v1 v2 v3 m_sights m_sight = some (-2, m_sights, m_sight) := by
          unfold fX8_seen
          rw [ih_month8, bd1_eq, ite01, if_pos c1, pz_inL v2 0 7 _ _ (by decide) (by decide), bd1_eq, ite01, if_pos c2, pz_inL v3 (-1) 12 _ _ (by decide) (by decide), bd1_eq, ite01, if_neg c3]
        exact ⟨_, _, _, _, e7, e8, Rel_i.mpr ⟨⟨N, E, Z, r, hN, rfl, rfl, hT, hr1, hr, hrm, hrm2, hE, hE2, hZ, hZ2, rfl, hk, hs⟩, hf, hS⟩⟩
    · have e7 : fX7_seen v1 v2 v3 c_seen = some (-2, c_seen) := by
        unfold fX7_seen
        rw [ih_month7, bd1_eq, ite01, if_pos c1, pz_within, bd1_eq, ite01, if_neg c2]
      have e8 : fX8_seen v1 v2 v3 m_sights m_sight = some (-2, m_sights, m_sight) := by
        unfold fX8_seen
        rw [ih_month8, bd1_eq, ite01, if_pos c1, pz_inL v2 0 7 _ _ (by decide) (by decide), bd1_eq, ite01, if_neg c2]
      exact ⟨_, _, _, _, e7, e8, Rel_i.mpr ⟨⟨N, E, Z, r, hN, rfl, rfl, hT, hr1, hr, hrm, hrm2, hE, hE2, hZ, hZ2, rfl, hk, hs⟩, hf, hS⟩⟩
  · have e7 : fX7_seen v1 v2 v3 c_seen = some (-2, c_seen) := by
      unfold fX7_seen
      rw [ih_month7, bd1_eq, ite01, if_neg c1]
    have e8 : fX8_seen v1 v2 v3 m_sights m_sight = some (-2, m_sights, m_sight) := by
      unfold fX8_seen
      rw [ih_month8, bd1_eq, ite01, if_neg c1]
    exact ⟨_, _, _, _, e7, e8, Rel_i.mpr ⟨⟨N, E, Z, r, hN, rfl, rfl, hT, hr1, hr, hrm, hrm2, hE, hE2, hZ, hZ2, rfl, hk, hs⟩, hf, hS⟩⟩
theorem rl_forget {c_room : Int32} {c_finding : Int32} {c_courseKnown : Int32} {c_settledByKnown : Int32} {c_text : jT1} {c_told : jT3} {c_others : jT3} {c_events : jT3} {c_seen : jT3} {c_course : jT11} {c_trial : jT11} {c_best : jB3} {c_sh0 : jS4} {c_sh1 : jS4} {c_sh2 : jS4} {c_sh3 : jS4} {c_settledBy : Nat → Int32} {c_views : Nat → Int32} {m_latest : Int32} {m_typed : Int32} {m_tenants : Int32} {m_room : Int32} {m_events : Int32} {m_gone : Int32} {m_sim : jT11} {m_sights : Int32} {m_drawn : Int32} {m_forms : Nat → Int32} {m_sizes : Nat → Int32} {m_items : Nat → Int32} {m_moved : Nat → Int32} {m_bytes : Nat → Int32} {m_tenant : Nat → Int32} {m_event : Nat → Int32} {m_sight : Nat → Int32} {m_rows : Nat → Int64} (h : Rel (c_room, c_finding, c_courseKnown, c_settledByKnown, c_text, c_told, c_others, c_events, c_seen, c_course, c_trial, c_best, c_sh0, c_sh1, c_sh2, c_sh3, c_settledBy, c_views) (m_latest, m_typed, m_tenants, m_room, m_events, m_gone, m_sim, m_sights, m_drawn, m_forms, m_sizes, m_items, m_moved, m_bytes, m_tenant, m_event, m_sight, m_rows)) : ∃ (r : Int32) (o_seen_size : Int32) (p_sights : Int32), fX7_forget c_seen.1 = some (r, o_seen_size) ∧ fX8_forget m_sights = some (r, p_sights) ∧ Rel (c_room, c_finding, c_courseKnown, c_settledByKnown, c_text, c_told, c_others, c_events, (o_seen_size, c_seen.2.1, c_seen.2.2.1, c_seen.2.2.2), c_course, c_trial, c_best, c_sh0, c_sh1, c_sh2, c_sh3, c_settledBy, c_views) (m_latest, m_typed, m_tenants, m_room, m_events, m_gone, m_sim, p_sights, m_drawn, m_forms, m_sizes, m_items, m_moved, m_bytes, m_tenant, m_event, m_sight, m_rows) := by
  obtain ⟨⟨N, E, Z, r, hN, htx, hty, hT, hr1, hr, hrm, hrm2, hE, hE2, hZ, hZ2, hg, hk, hs⟩, hf, hS⟩ := Rel_i.mp h
  subst htx
  subst hty
  subst hg
  have hs1 : c_seen.1 = nI Z.1 := hZ.2.1
  have hs2 : m_sights = nI Z.1 := hZ2.2.1
  have e7 : fX7_forget c_seen.1 = some (nI Z.1, 0) := by unfold fX7_forget; rw [hs1]
  have e8 : fX8_forget m_sights = some (nI Z.1, 0) := by unfold fX8_forget; rw [hs2]
  have hA : InZ (0, Z.2.1, Z.2.2.1, Z.2.2.2) (0, c_seen.2.1, c_seen.2.2.1, c_seen.2.2.2) := ⟨by show 0 ≤ 8; omega, rfl, fun e he => absurd he (Nat.not_lt_zero e)⟩
  have hB : MZ (0, Z.2.1, Z.2.2.1, Z.2.2.2) 0 m_sight := ⟨by show 0 ≤ 8; omega, rfl, fun e he => absurd he (Nat.not_lt_zero e)⟩
  exact ⟨_, _, _, e7, e8, Rel_i.mpr ⟨⟨N, E, (0, Z.2.1, Z.2.2.1, Z.2.2.2), r, hN, rfl, rfl, hT, hr1, hr, hrm, hrm2, hE, hE2, hA, hB, rfl, hk, hs⟩, hf, hS⟩⟩
