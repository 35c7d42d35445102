/-- the static array DIGEST_MONTHS: nobody writes it; its place is t, what it holds is dmF -/
def dmF : Nat → Int32 := fun j => match j with | 0 => 0 | 1 => 6 | 2 => 13 | _ => 23
def jGt (t : Nat) (A : Nat → Prop) (U : State) : Prop := va_Z "FloorAbove" "DIGEST_MONTHS" "[I" (.ref t) A U U.heap ∧ va_T .int t 4 (fun j => .int (dmF j)) A U U.heap
theorem jGt_at {t : Nat} {A B : Nat → Prop} {s U : State} {H : Heap} (G : jGt t A s) (hvm : s.vm.Alike U.vm) (hU : U.heap = H) (hk : ∀ q : Nat, q < s.heap.size → ¬ A q → H[q]? = s.heap[q]?) (hB : ∀ q : Nat, B q → A q) : jGt t B U := by
  unfold jGt
  rw [hU]
  exact ⟨((va_Z.moved hvm G.1).kept hk).narrow hB, ((va_T.moved hvm G.2).kept hk).narrow hB⟩
theorem jGt_of {b : Nat} {s : State} {A : Nat → Prop} (hts : ∀ w ∈ lw_tbl, w.before #[Value.ref b] s = true) (hgv : (Jvm.Cond.and given_1 narrow_1).before #[Value.ref b] s = true) (hA : ∀ a : Nat, a < s.heap.size → ¬ A a) : ∃ t : Nat, jGt t A s := by
  have hs := flat_of_before _ hgv
  have h0 : (Cond.arrayOf (.static "FloorAbove" "DIGEST_MONTHS" "[I") .int).before #[Value.ref b] s = true := hs _ (by decide +kernel)
  have h1 : (Cond.eq (.length (.static "FloorAbove" "DIGEST_MONTHS" "[I")) (.int 4)).before #[Value.ref b] s = true := hs _ (by decide +kernel)
  have e0 : (Cond.eq (.elem (.static "FloorAbove" "DIGEST_MONTHS" "[I") (.int 0)) (.int 0)).before #[Value.ref b] s = true := hs _ (by decide +kernel)
  have e1 : (Cond.eq (.elem (.static "FloorAbove" "DIGEST_MONTHS" "[I") (.int 1)) (.int 6)).before #[Value.ref b] s = true := hs _ (by decide +kernel)
  have e2 : (Cond.eq (.elem (.static "FloorAbove" "DIGEST_MONTHS" "[I") (.int 2)) (.int 13)).before #[Value.ref b] s = true := hs _ (by decide +kernel)
  have e3 : (Cond.eq (.elem (.static "FloorAbove" "DIGEST_MONTHS" "[I") (.int 3)) (.int 23)).before #[Value.ref b] s = true := hs _ (by decide +kernel)
  have hel : ∀ j : Nat, j < 4 → (Term.elem (.static "FloorAbove" "DIGEST_MONTHS" "[I") (.int (Int32.ofNat j))).eval #[Value.ref b] s none [] s = some (.int (dmF j)) := by
    intro j hj
    rcases (show j = 0 ∨ j = 1 ∨ j = 2 ∨ j = 3 by omega) with rfl | rfl | rfl | rfl
    · exact va_eqt e0
    · exact va_eqt e1
    · exact va_eqt e2
    · exact va_eqt e3
  obtain ⟨t, ht, hT⟩ := va_Tof (A := A) (N := 4) (f := fun j => .int (dmF j)) (by decide) h0 (va_eqt h1) hel hA
  exact ⟨t, va_Zref (hts (.laysStatic "FloorAbove" "DIGEST_MONTHS" "[I") (by decide +kernel)) (hts (.initialized "FloorAbove") (by decide +kernel)) ht hA, hT⟩
section JSTAT
variable {p : Program} {l : Launch} {e : Env} {R : Room} {s : State} {m : MethodId} {args : Array Value} {below : List Frame} {meth : Method} {c : Code} {Q : State → Prop} {A : Nat → Prop} {D : va_G} {cl : List vw_C} {tys : List (ClassId × FieldType)} {cc : ByteArray} {nL cs ss pc pc' : Nat} {own : String} {Ts : List Cond} {ret : Option FieldType} {lv lv' : List (Nat × Value)} {st : List Value} {ws ws' : va_W}
def jCG (l : Launch) (y : MethodName) (wd : List Cond) (rm : Room) (D : va_G) (cl : List vw_C) (tys : List (ClassId × FieldType)) (av : List Value) (ws : va_W) (rv : Option Value) (ws' : va_W) : Prop :=
  ∀ sz t : Nat, Met l y wd rm (va_Pc av (fun U => jPre D cl tys ws sz U ∧ jGt t (va_A ws sz) U)) (jE D cl tys (va_A ws sz) rv ws') 0 0 (va_A ws sz)
theorem jblindG {D : va_G} {cl : List vw_C} {tys : List (ClassId × FieldType)} {av : List Value} {ws : va_W} {sz t : Nat} : FrameBlind (va_Pc av (fun U => jPre D cl tys ws sz U ∧ jGt t (va_A ws sz) U)) := fun a U g mk q => by
  obtain ⟨q0, ⟨q1, qP, qK, qD, qN⟩, qZ, qT⟩ := q
  exact ⟨q0, ⟨q1, qP, va_K.moved (u := U) (U := U.calling g mk a) (Vm.Alike.refl U.vm) qK, qD, jN_same (u := U) (U := U.calling g mk a) rfl qN⟩, va_Z.moved (u := U) (U := U.calling g mk a) (Vm.Alike.refl U.vm) qZ, va_T.moved (u := U) (U := U.calling g mk a) (Vm.Alike.refl U.vm) qT⟩
theorem jCG_of {y : MethodName} {wd wd' : List Cond} {rm : Room} {av : List Value} {rv : Option Value} (hy : plainName y.cls = true) (hw : wd = Cond.code y cc nL ret :: wd') (ho : y.cls = own) (hlen : (lg_sl av).length ≤ nL) (hlv : lv_args 0 av = lv)
    (body : ∀ (p : Program) (e : Env) (s : State) (m : MethodId) (args : Array Value) (below : List Frame) (meth : Method) (c : Code) (A : Nat → Prop), jK p s m args meth c A D cl tys cc nL own wd ret → ∀ tD : Nat, jGt tD A s → jw p l e rm s m args below meth c (jQ below args s A D cl tys 0 0 rv ws') A D cl nL 0 0 0 lv [] ws) : jCG l y wd rm D cl tys av ws rv ws' := by
  intro sz tD
  refine Met.ofW (cc := cc) (maxL := nL) (ret := ret) hy hw ?_
  intro p e s m args below meth c s₁ B hml hv
  obtain ⟨rfl, ⟨hsz, hP, hK, hD0, hN0⟩, hG⟩ := hv
  subst hsz
  subst ho
  have hb := body p e s m _ below meth c (va_A ws s.heap.size) ⟨B.exec, B.bytes, hml, findClass_of_methodNamed B.named, atoms_spec (ws := wd) B.pre, hK, fun q h => Or.inr h, B.returns, B.notSynchronized, hN0⟩ tD hG
  have hl := lv_entry av (n := nL) hlen
  rw [lg_entry_eq]
  rw [hlv] at hl
  exact hb s.heap [] _ hP hD0.self va_S.rf hl
theorem j_gets (K : jK p s m args meth c A D cl tys cc nL own Ts ret) {tD ix : Nat} (G : jGt tD A s) (hlk : Cond.fieldLink own ix "FloorAbove" "DIGEST_MONTHS" "[I" ∈ Ts) (hd : decode cc pc = .ok (.getstatic ix, 3)) (hp : pc + 3 = pc') (kk : jw p l e R s m args below meth c Q A D cl nL cs ss pc' lv (.ref tD :: st) ws) : jw p l e R s m args below meth c Q A D cl nL cs ss pc lv st ws := by
  subst hp
  exact fun H locs ls h1 h2 h3 h4 => va_gets K.1 K.2.1 G.1 h3 (jK_own K) (jK_ts K _ hlk) (fun _ h => h) hd (kk H locs ls h1 h2 h3 h4)
theorem j_tlen (K : jK p s m args meth c A D cl tys cc nL own Ts ret) {tD : Nat} (G : jGt tD A s) (hd : decode cc pc = .ok (.arraylength, 1)) (hp : pc + 1 = pc') (kk : jw p l e R s m args below meth c Q A D cl nL cs ss pc' lv (.int (nI 4) :: st) ws) : jw p l e R s m args below meth c Q A D cl nL cs ss pc lv (.ref tD :: st) ws := by
  subst hp
  exact fun H locs ls h1 h2 h3 h4 => va_tlen K.1 K.2.1 G.2 h3 rfl hd (kk H locs ls h1 h2 h3 h4)
theorem j_tald (K : jK p s m args meth c A D cl tys cc nL own Ts ret) {tD : Nat} (G : jGt tD A s) {i : Int32} (hd : decode cc pc = .ok (.iaload, 1)) (hp : pc + 1 = pc') {α : Type} {kf : Int32 → Option α} {o : α} (h : rdA 4 dmF i kf = some o) (kk : ∀ v : Int32, kf v = some o → jw p l e R s m args below meth c Q A D cl nL cs ss pc' lv (.int v :: st) ws) : jw p l e R s m args below meth c Q A D cl nL cs ss pc lv (.int i :: .ref tD :: st) ws := by
  subst hp
  obtain ⟨hi, hk⟩ := rdA_some h
  exact fun H locs ls h1 h2 h3 h4 => va_ti K.1 K.2.1 G.2 h3 hi rfl hd (kk _ hk H locs ls h1 h2 h3 h4)
theorem j_runG (K : jK p s m args meth c A D cl tys cc nL own Ts ret) {wc w1 : va_W} {rv : Option Value} {rest st0 : List Value} {a : Array Value} (isC : List Nat) (hnd : va_nd isC = true) (hC : isC.map (fun i => ws[i]?) = wc.map some) (pl : List (Option Nat)) (hok : jok isC pl 0 = true) (hw : jpk w1 ws pl 0 = ws'.map some) (hm' : ws'.map (·.1) = ws.map (·.1)) (hp : pc + 3 = pc')
    (hr : ∀ (H : Heap) (locs : List Loc) (ls : Array Slot), va_P D cl ws H → va_P D cl wc H → va_D (fun _ => True) wc → ls.size = nL → va_S A s.heap H locs → (∀ q : Nat, va_A wc H.size q → A q) → va_Run p l e R s m args below meth c H locs cs ss 0 0 (F0 m pc ls st0) rest (jE D cl tys (va_A wc H.size) rv w1 a) (va_A wc H.size))
    (kk : jw p l e R s m args below meth c Q A D cl nL cs ss pc' lv (rv.toList ++ rest) ws') : jw p l e R s m args below meth c Q A D cl nL cs ss pc lv st0 ws := by
  subst hp
  intro H locs ls hP hD hS hl
  have hPc : va_P D cl wc H := by
    intro k q hq
    have h1 : (isC.map (fun i => ws[i]?))[k]? = some (some q) := by rw [hC, List.getElem?_map, hq]; rfl
    rw [List.getElem?_map] at h1
    cases hi : isC[k]? with
    | none => rw [hi] at h1; cases h1
    | some i => rw [hi] at h1; exact hP i q (Option.some.inj h1)
  have hfree := va_free (wc := wc) hD hS (jK_A K) isC hC
  have hDc : va_D (fun _ => True) wc := (hD.sub isC hnd hC).weaken (fun _ _ _ _ => trivial)
  intro T hT X
  obtain ⟨v, st₀, t, T', L, h0, X', hL, e1, e2, ⟨⟨hv, hP1, -, hD1⟩, hz, hk⟩, st⟩ := hr H locs ls hP hPc hDc hl.1 hS hfree T hT X
  cases hv
  rw [h0] at hz hk
  rw [← e1] at hP1 hz hk
  obtain ⟨hP', hD'⟩ := jjoin hP hD isC hC pl hok hw hm' hk hP1
  obtain ⟨t2, a1, b1⟩ := kk T'.heap (locs ++ L) ls hP' hD'
    ⟨Nat.le_trans hS.1 hz, fun q h1 h2 => by
      rw [hk q (Nat.lt_of_lt_of_le h1 hS.1) (fun z => h2 (hfree q z))]; exact hS.2.1 q h1 h2, fun q hq => by
      rcases List.mem_append.mp hq with h | h
      · exact hS.2.2 q h
      · exact hfree _ (hL q h)⟩ hl T' rfl X'
  exact ⟨t2, st t2 a1, b1⟩
theorem j_callVG (K : jK p s m args meth c A D cl tys cc nL own Ts ret) {tD : Nat} (G : jGt tD A s) {y : MethodName} {wd wd' : List Cond} {rmc : Room} {C : String} {bytes : ByteArray} {maxL n b ix ci N : Nat} {rt : Option FieldType} {As rest st0 st1 : List Value} {wc w1 : va_W} {rv : Option Value} {fs : List Value} {T : u_T} (hM : jCG l y wd rmc D cl tys (.ref b :: As) wc rv w1) (hg : GoodIn Ts (wsV own ix C y wd)) (hcd : wd = Cond.code y bytes maxL rt :: wd') (hz : rmc.cells = 0 ∧ rmc.slots = 0)
    (hy : y.cls = C ∧ y.cls ≠ "java/lang/invoke/MethodHandle" ∧ y.cls ≠ "java/lang/invoke/VarHandle" ∧ (parseMethodDescriptor y.desc).map (fun d => d.parameters.length) = some n) (hR : rmc.frames + 1 ≤ R.frames ∧ 8 + (maxL + 11) + rmc.locals ≤ R.locals ∧ cs ≤ R.cells ∧ ss ≤ R.slots) (isC : List Nat) (hnd : va_nd isC = true) (hC : isC.map (fun i => ws[i]?) = wc.map some) (pl : List (Option Nat)) (hok : jok isC pl 0 = true) (hw : jpk w1 ws pl 0 = ws'.map some) (hm' : ws'.map (·.1) = ws.map (·.1))
    (q : Nat) (hb : ws[q]? = some (b, .inr (ci, fs))) (hcl : cl[ci]? = some (C, T, N)) (hn : As.length = n) (hst : st0 = As.reverse ++ .ref b :: rest) (hroom : (rest.map fun v => v.category).sum ≤ 8) (hd : decode cc pc = .ok (.invokevirtual ix, 3)) (hp : pc + 3 = pc') (hs1 : rv.toList ++ rest = st1) (kk : jw p l e R s m args below meth c Q A D cl nL cs ss pc' lv st1 ws') : jw p l e R s m args below meth c Q A D cl nL cs ss pc lv st0 ws := by
  subst hs1
  refine j_runG K (a := (Value.ref b :: As).toArray) isC hnd hC pl hok hw hm' hp (fun H locs ls hP hPc hDc hls hS hfree => ?_) kk
  exact va_runV (As := As) (rest := rest) (b := b) ⟨K.1, K.2.1, K.2.2.1, jK_own K, jK_ts K⟩ (hM H.size tD) (cwV n (jK_ts K) hg hcd hz.1 hz.2 hy ⟨hR.1, hR.2.1⟩) ⟨jblindG, va_recv (jK_K K) hP hcl hb, fun U hU hW => ⟨rfl, ⟨by rw [hU], by rw [hU]; exact hPc, va_K.moved hW.alike (jK_K K), hDc, jN_warm hW (jK_N K)⟩, jGt_at G hW.alike hU hS.2.1 hfree⟩⟩ rfl hn hls hst (lv_room hroom) hd ⟨hR.2.2.1, hR.2.2.2⟩
end JSTAT
