set_option maxRecDepth 100000 in
set_option maxHeartbeats 4000000 in
theorem whole_start {p : Program} {e : Env} {s : State} {m : MethodId} {below : List Frame} {meth : Method} {c : Code} (l : Launch) (hflags : l.flags = flags0) {b L : Nat} {xs : Nat → Int32} (hL : L ≤ 3072) (C0 : lw_At p s m meth c b L xs) : W p l e room_1 s m #[Value.ref b] below meth c s.heap [] 0 0 (lw_Z below #[Value.ref b] s) (entryFrame m ([Value.ref b] : List Value).toArray 4) := by
  obtain ⟨hx, hb, hr, hml, hown, hts, hX, hbl, hlocks, hgv⟩ := C0
  have htw : ∀ w ∈ wsL_law, w.before #[Value.ref b] s = true := fun w h => hts w (wsL_law_in w h)
  obtain ⟨c0, iS0, hKn0⟩ := u_known (C := RX0) (T := TX0) (N := 3) (n := 3) htw inlX0 (htw (.instantiable RX0 3) mw_2_11)
  obtain ⟨c1, iS1, hKn1⟩ := u_known (C := RX1) (T := TX1) (N := 12) (n := 12) htw inlX1 (htw (.instantiable RX1 12) mw_2_6)
  obtain ⟨c2, iS2, hKn2⟩ := u_known (C := RX2) (T := TX2) (N := 4) (n := 4) htw inlX2 (htw (.instantiable RX2 4) mw_1_22)
  obtain ⟨c3, iS3, hKn3⟩ := u_known (C := RX3) (T := TX3) (N := 4) (n := 4) htw inlX3 (htw (.instantiable RX3 4) mw_2_2)
  obtain ⟨c4, iS4, hKn4⟩ := u_known (C := RX4) (T := TX4) (N := 4) (n := 4) htw inlX4 (htw (.instantiable RX4 4) mw_2_23)
  obtain ⟨c5, iS5, hKn5⟩ := u_known (C := RX5) (T := TX5) (N := 4) (n := 4) htw inlX5 (htw (.instantiable RX5 4) mw_1_17)
  obtain ⟨c6, iS6, hKn6⟩ := u_known (C := RX6) (T := TX6) (N := 2) (n := 2) htw inlX6 (htw (.instantiable RX6 2) mw_1_13)
  obtain ⟨c7, iS7, hKn7⟩ := u_known (C := RX7) (T := TX7) (N := 15) (n := 15) htw inlX7 (htw (.instantiable RX7 15) mw_1_1)
  obtain ⟨c8, iS8, hKn8⟩ := u_known (C := RX8) (T := TX8) (N := 29) (n := 29) htw inlX8 (htw (.instantiable RX8 29) mw_1_4)
  obtain ⟨cyI, kI, pI, fI1, fI2, fI3⟩ := Cond.arrayClass_spec (htw (.arrayClass .int) mw_2_16)
  obtain ⟨cyJ, kJ, pJ, fJ1, fJ2, fJ3⟩ := Cond.arrayClass_spec (htw (.arrayClass .long) mw_6_3)
  have hO : va_AO "FloorAbove$Sheet" s := va_AO.of (hts (.arrayOver (.object "FloorAbove$Sheet")) (by decide +kernel))
  obtain ⟨pS, cyS, kS, fS1, fS2, fS3, fS4, fS5⟩ := Cond.arrayOver_spec hO
  obtain ⟨dC, dI, hKc⟩ : ∃ (dC : Nat → ClassId) (dI : Nat → Nat → Nat), ∀ (k : Nat) (q : vw_C), vwCl[k]? = some q → u_Kn s q.1 q.2.1 q.2.2 (dC k) (dI k) := by
    refine ⟨fun k => match k with | 0 => c0 | 1 => c1 | 2 => c2 | 3 => c3 | 4 => c4 | 5 => c5 | 6 => c6 | 7 => c7 | _ => c8, fun k => match k with | 0 => iS0 | 1 => iS1 | 2 => iS2 | 3 => iS3 | 4 => iS4 | 5 => iS5 | 6 => iS6 | 7 => iS7 | _ => iS8, ?_⟩
    intro k q hq
    match k, hq with
    | 0, hq => cases hq; exact hKn0
    | 1, hq => cases hq; exact hKn1
    | 2, hq => cases hq; exact hKn2
    | 3, hq => cases hq; exact hKn3
    | 4, hq => cases hq; exact hKn4
    | 5, hq => cases hq; exact hKn5
    | 6, hq => cases hq; exact hKn6
    | 7, hq => cases hq; exact hKn7
    | 8, hq => cases hq; exact hKn8
    | k + 9, hq => simp [vwCl] at hq
  have hK : va_K (dC, dI) vwCl (tyz cyI cyJ cyS) s := by
    refine ⟨hKc, fun k q h => ?_⟩
    match k, h with
    | 0, h => cases h; exact ⟨fun n z => ⟨fun k h => (by cases h), kI, fI2, pI, fI3⟩, fI1⟩
    | 1, h => cases h; exact ⟨fun n z => ⟨fun k h => (by cases h), kJ, fJ2, pJ, fJ3⟩, fJ1⟩
    | 2, h => cases h; exact ⟨fun n z => ⟨fun k h => (by cases h), kS, fS3, pS, fS4⟩, ⟨kS, pS, fS3, fS4, fS1, fS5⟩⟩
    | k + 3, h => simp at h
  have hN : jN s := by
    intro q hq
    rcases List.mem_cons.mp hq with rfl | hq
    · exact va_Nw.of rfl (hts _ (by decide +kernel))
    rcases List.mem_cons.mp hq with rfl | hq
    · exact va_Nw.of rfl (hts _ (by decide +kernel))
    rcases List.mem_cons.mp hq with rfl | hq
    · exact va_Nw.of rfl (hts _ (by decide +kernel))
    rcases List.mem_cons.mp hq with rfl | hq
    · exact va_Nw.of rfl (hts _ (by decide +kernel))
    rcases List.mem_cons.mp hq with rfl | hq
    · exact va_Nw.of rfl (hts _ (by decide +kernel))
    rcases List.mem_cons.mp hq with rfl | hq
    · exact va_Nw.of rfl (hts _ (by decide +kernel))
    rcases List.mem_cons.mp hq with rfl | hq
    · exact va_Nw.of rfl (hts _ (by decide +kernel))
    rcases List.mem_cons.mp hq with rfl | hq
    · exact va_Nw.of rfl (hts _ (by decide +kernel))
    rcases List.mem_cons.mp hq with rfl | hq
    · exact va_Nw.of rfl (hts _ (by decide +kernel))
    exact absurd hq List.not_mem_nil
  have K : jK p s m #[Value.ref b] meth c (fun q : Nat => s.heap.size ≤ q) (dC, dI) vwCl (tyz cyI cyJ cyS) code 4 RL wsL_law ret := ⟨hx, hb, hml, hown, htw, hK, fun _ h => h, hr, hlocks, hN⟩
  obtain ⟨tD, G⟩ := jGt_of hts hgv (fun q hq => Nat.not_le.mpr hq)
  have hl := lv_entry ([.ref b]) (n := 4) (Nat.le_of_ble_eq_true rfl)
  rw [lg_entry_eq]
  refine (?_ : jw p l e room_1 s m #[Value.ref b] below meth c (lw_Z below #[Value.ref b] s) (fun q : Nat => s.heap.size ≤ q) (dC, dI) vwCl 4 0 0 0 [(0, .ref b)] [] []) s.heap [] _ (fun k q h => by simp at h) ⟨fun i j p q h => by simp at h, fun k q h => by simp at h⟩ va_S.rf hl
  refine j_new (cs' := 1) (ss' := 15) (C := RX7) (T := TX7) (N := 15) (ci := 7) (fs := [.null, .null, .null, .null, .null, .null, .null, .null, .null, .null, .null, .int (0 : Int32), .int (0 : Int32), .int (0 : Int32), .int (0 : Int32)]) K (fun z => [(z, .inr (7, [.null, .null, .null, .null, .null, .null, .null, .null, .null, .null, .null, .int (0 : Int32), .int (0 : Int32), .int (0 : Int32), .int (0 : Int32)]))]) inlX7 tyX7 tyX7_ok mw_1_0 mw_1_1 mw_1_2 rfl (fun j hj => by rcases (show j = 0 ∨ j = 1 ∨ j = 2 ∨ j = 3 ∨ j = 4 ∨ j = 5 ∨ j = 6 ∨ j = 7 ∨ j = 8 ∨ j = 9 ∨ j = 10 ∨ j = 11 ∨ j = 12 ∨ j = 13 ∨ j = 14 by omega) with rfl | rfl | rfl | rfl | rfl | rfl | rfl | rfl | rfl | rfl | rfl | rfl | rfl | rfl | rfl <;> rfl) ⟨Nat.le_of_ble_eq_true rfl, Nat.le_of_ble_eq_true rfl⟩ rfl rfl (fun _ => rfl) dL_law_0 rfl (fun q7 => ?_)
  refine j_dup K rfl dL_law_3 rfl ?_
  refine j_callI (cs' := 55) (ss' := 1897) (wr := []) (rest := [.ref q7]) K hO (ctX7_init l (dC, dI) cyI cyJ cyS q7) (gdN (fun _ h => h) mw_1_8) mw_1_6 mw_1_7 mw_1_2 rfl ⟨rfl, rfl⟩ rfl hzX7_init ⟨Nat.le_of_ble_eq_true rfl, Nat.le_of_ble_eq_true rfl, Nat.le_of_ble_eq_true rfl, Nat.le_of_ble_eq_true rfl⟩ [0] [] rfl rfl (by decide) (by decide) (by decide) rfl rfl rfl (Nat.le_of_ble_eq_true rfl) dL_law_4 rfl (fun ad7 => ?_)
  refine j_eqw (ws' := uFX7 cyI cyJ cyS q7 ad7) rfl ?_
  refine j_astore_n (lv' := [(1, .ref q7), (0, .ref b)]) K (by decide) rfl dL_law_7 rfl ?_
  refine j_new (cs' := 56) (ss' := 1926) (C := RX8) (T := TX8) (N := 29) (ci := 8) (fs := [.null, .null, .null, .null, .int (0 : Int32), .null, .int (0 : Int32), .int (0 : Int32), .null, .int (0 : Int32), .int (0 : Int32), .null, .int (0 : Int32), .null, .null, .null, .null, .null, .null, .null, .null, .null, .null, .null, .int (0 : Int32), .int (0 : Int32), .null, .null, .int (0 : Int32)]) K (fun z => uFX7 cyI cyJ cyS q7 ad7 ++ [(z, .inr (8, [.null, .null, .null, .null, .int (0 : Int32), .null, .int (0 : Int32), .int (0 : Int32), .null, .int (0 : Int32), .int (0 : Int32), .null, .int (0 : Int32), .null, .null, .null, .null, .null, .null, .null, .null, .null, .null, .null, .int (0 : Int32), .int (0 : Int32), .null, .null, .int (0 : Int32)]))]) inlX8 tyX8 tyX8_ok mw_1_3 mw_1_4 mw_1_5 rfl (fun j hj => by rcases (show j = 0 ∨ j = 1 ∨ j = 2 ∨ j = 3 ∨ j = 4 ∨ j = 5 ∨ j = 6 ∨ j = 7 ∨ j = 8 ∨ j = 9 ∨ j = 10 ∨ j = 11 ∨ j = 12 ∨ j = 13 ∨ j = 14 ∨ j = 15 ∨ j = 16 ∨ j = 17 ∨ j = 18 ∨ j = 19 ∨ j = 20 ∨ j = 21 ∨ j = 22 ∨ j = 23 ∨ j = 24 ∨ j = 25 ∨ j = 26 ∨ j = 27 ∨ j = 28 by omega) with rfl | rfl | rfl | rfl | rfl | rfl | rfl | rfl | rfl | rfl | rfl | rfl | rfl | rfl | rfl | rfl | rfl | rfl | rfl | rfl | rfl | rfl | rfl | rfl | rfl | rfl | rfl | rfl | rfl <;> rfl) ⟨Nat.le_of_ble_eq_true rfl, Nat.le_of_ble_eq_true rfl⟩ rfl rfl (fun _ => rfl) dL_law_8 rfl (fun q8 => ?_)
  refine j_dup K rfl dL_law_11 rfl ?_
  refine j_callI (cs' := 76) (ss' := 3222) (wr := (uFX7 cyI cyJ cyS q7 ad7)) (rest := [.ref q8]) K hO (ctX8_init l (dC, dI) cyI cyJ cyS q8) (gdN (fun _ h => h) mw_5_6) mw_5_4 mw_5_5 mw_1_5 rfl ⟨rfl, rfl⟩ rfl hzX8_init ⟨Nat.le_of_ble_eq_true rfl, Nat.le_of_ble_eq_true rfl, Nat.le_of_ble_eq_true rfl, Nat.le_of_ble_eq_true rfl⟩ [55] [0, 1, 2, 3, 4, 5, 6, 7, 8, 9, 10, 11, 12, 13, 14, 15, 16, 17, 18, 19, 20, 21, 22, 23, 24, 25, 26, 27, 28, 29, 30, 31, 32, 33, 34, 35, 36, 37, 38, 39, 40, 41, 42, 43, 44, 45, 46, 47, 48, 49, 50, 51, 52, 53, 54] rfl rfl (by decide) (by decide) (by decide) rfl rfl rfl (Nat.le_of_ble_eq_true rfl) dL_law_12 rfl (fun ad8 => ?_)
  refine j_eqw (ws' := uL cyI cyJ cyS (fun k => match k with | 0 => q7 | k + 1 => ad7 (k + 1)) (fun k => match k with | 0 => q8 | k + 1 => ad8 (k + 1)) 2 0 0 0 (0, (fun _ => 0)) (0, (fun _ => 0), (fun _ => 0), (fun _ => 0)) (0, (fun _ => 0), (fun _ => 0), (fun _ => 0)) (0, (fun _ => 0), (fun _ => 0), (fun _ => 0)) (0, (fun _ => 0), (fun _ => 0), (fun _ => 0)) (0, (fun _ => 0), (fun _ => 0), (fun _ => 0), (fun _ => 0), (fun _ => 0), (fun _ => 0), (fun _ => 0), (fun _ => 0), (fun _ => 0), (fun _ => 0), (fun _ => 0)) (0, (fun _ => 0), (fun _ => 0), (fun _ => 0), (fun _ => 0), (fun _ => 0), (fun _ => 0), (fun _ => 0), (fun _ => 0), (fun _ => 0), (fun _ => 0), (fun _ => 0)) (0, 0, 0) (0, 0, 1, (fun _ => 0)) (0, 0, 1, (fun _ => 0)) (0, 0, 1, (fun _ => 0)) (0, 0, 1, (fun _ => 0)) (fun _ => 0) (fun _ => 0) 0 0 0 2 0 0 (0, (fun _ => 0), (fun _ => 0), (fun _ => 0), (fun _ => 0), (fun _ => 0), (fun _ => 0), (fun _ => 0), (fun _ => 0), (fun _ => 0), (fun _ => 0), (fun _ => 0)) 0 0 (upd (upd (upd (upd (fun _ => 0) 0 (-1)) 1 (-1)) 2 (-1)) 3 (-1)) (fun _ => 0) (fun _ => 0) (fun _ => 0) (fun _ => 0) (fun _ => 0) (fun _ => 0) (fun _ => 0) (fun _ => 0)) rfl ?_
  refine j_astore_n (lv' := [(2, .ref q8), (1, .ref q7), (0, .ref b)]) K (by decide) rfl dL_law_15 rfl ?_
  refine j_iconst (v := (0 : Int32)) K (by decide) dL_law_16 rfl ?_
  refine j_istore_n (lv' := [(3, .int (0 : Int32)), (2, .ref q8), (1, .ref q7), (0, .ref b)]) K (by decide) rfl dL_law_17 rfl ?_
  refine j_sub [3, 2, 1, 0] (lv' := [(0, .ref b), (1, .ref q7), (2, .ref q8), (3, .int (0 : Int32))]) rfl ?_
  exact law_loop K tD G hX hbl hL (fun k => match k with | 0 => q7 | k + 1 => ad7 (k + 1)) (fun k => match k with | 0 => q8 | k + 1 => ad8 (k + 1)) (L + 1) 0 (Nat.zero_le L) (by omega) 0 nI_0.symm 2 0 0 0 (0, (fun _ => 0)) (0, (fun _ => 0), (fun _ => 0), (fun _ => 0)) (0, (fun _ => 0), (fun _ => 0), (fun _ => 0)) (0, (fun _ => 0), (fun _ => 0), (fun _ => 0)) (0, (fun _ => 0), (fun _ => 0), (fun _ => 0)) (0, (fun _ => 0), (fun _ => 0), (fun _ => 0), (fun _ => 0), (fun _ => 0), (fun _ => 0), (fun _ => 0), (fun _ => 0), (fun _ => 0), (fun _ => 0), (fun _ => 0)) (0, (fun _ => 0), (fun _ => 0), (fun _ => 0), (fun _ => 0), (fun _ => 0), (fun _ => 0), (fun _ => 0), (fun _ => 0), (fun _ => 0), (fun _ => 0), (fun _ => 0)) (0, 0, 0) (0, 0, 1, (fun _ => 0)) (0, 0, 1, (fun _ => 0)) (0, 0, 1, (fun _ => 0)) (0, 0, 1, (fun _ => 0)) (fun _ => 0) (fun _ => 0) 0 0 0 2 0 0 (0, (fun _ => 0), (fun _ => 0), (fun _ => 0), (fun _ => 0), (fun _ => 0), (fun _ => 0), (fun _ => 0), (fun _ => 0), (fun _ => 0), (fun _ => 0), (fun _ => 0)) 0 0 (upd (upd (upd (upd (fun _ => 0) 0 (-1)) 1 (-1)) 2 (-1)) 3 (-1)) (fun _ => 0) (fun _ => 0) (fun _ => 0) (fun _ => 0) (fun _ => 0) (fun _ => 0) (fun _ => 0) (fun _ => 0) rel_init
