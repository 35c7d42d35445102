section CKIT
variable {p : Program} {l : Launch} {e : Env} {R : Room} {s : State} {m : MethodId} {args : Array Value} {below : List Frame} {meth : Method} {c : Code} {Q : State → Prop} {A : Nat → Prop} {D : va_G} {cl : List vw_C} {tys : List (ClassId × FieldType)} {cc : ByteArray} {nL cs ss cs' ss' pc pc' : Nat} {own : String} {Ts : List Cond} {ret : Option FieldType} {lv lv' : List (Nat × Value)} {st : List Value} {ws ws' : va_W}
def jEI (D : va_G) (cl : List vw_C) (tys : List (ClassId × FieldType)) (A : Nat → Prop) (WF : (Nat → Nat) → va_W) : Array Value → State → Outcome → State → Prop := fun _ st oc t => (oc = .returned none ∧ ∃ ad : Nat → Nat, va_P D cl (WF ad) t.heap ∧ va_K D cl tys t ∧ va_D A (WF ad)) ∧ va_F A st t
def jPrI (D : va_G) (cl : List vw_C) (tys : List (ClassId × FieldType)) (ws : va_W) (sz : Nat) (U : State) : Prop := jPre D cl tys ws sz U ∧ va_AO "FloorAbove$Sheet" U
def jCI (l : Launch) (y : MethodName) (wd : List Cond) (rm : Room) (D : va_G) (cl : List vw_C) (tys : List (ClassId × FieldType)) (h0 : Nat) (ws : va_W) (mc ms : Nat) (WF : (Nat → Nat) → va_W) : Prop :=
  ∀ sz : Nat, Met l y wd rm (va_Pc [.ref h0] (jPrI D cl tys ws sz)) (jEI D cl tys (va_A ws sz) WF) mc ms (va_A ws sz)
theorem jblindI {D : va_G} {cl : List vw_C} {tys : List (ClassId × FieldType)} {av : List Value} {ws : va_W} {sz : Nat} : FrameBlind (va_Pc av (jPrI D cl tys ws sz)) := fun a U g mk q => by
  obtain ⟨q0, ⟨q1, qP, qK, qD, qN⟩, qO⟩ := q
  exact ⟨q0, ⟨q1, qP, va_K.moved (u := U) (U := U.calling g mk a) (Vm.Alike.refl U.vm) qK, qD, jN_same (u := U) (U := U.calling g mk a) rfl qN⟩, va_AO.moved (u := U) (U := U.calling g mk a) (Vm.Alike.refl U.vm) qO⟩
theorem jCI_of {y : MethodName} {wd wd' : List Cond} {rm : Room} {h0 mc ms : Nat} {WF : (Nat → Nat) → va_W} (hy : plainName y.cls = true) (hw : wd = Cond.code y cc nL none :: wd') (ho : y.cls = own) (hn : y.name = "<init>") (hlen : (lg_sl [.ref h0]).length ≤ nL) (hlv : lv_args 0 [.ref h0] = lv)
    (body : ∀ (p : Program) (e : Env) (s : State) (m : MethodId) (args : Array Value) (below : List Frame) (meth : Method) (c : Code) (A : Nat → Prop), jK p s m args meth c A D cl tys cc nL own wd none → meth.name = "<init>" → va_AO "FloorAbove$Sheet" s → jw p l e rm s m args below meth c (MQ below (jEI D cl tys A WF) args s mc ms A) A D cl nL 0 0 0 lv [] ws) : jCI l y wd rm D cl tys h0 ws mc ms WF := by
  intro sz
  refine Met.ofW (cc := cc) (maxL := nL) (ret := none) hy hw ?_
  intro p e s m args below meth c s₁ B hml hv
  obtain ⟨rfl, ⟨hsz, hP, hK, hD0, hN0⟩, hO⟩ := hv
  subst hsz
  subst ho
  have hnm : meth.name = "<init>" := by rw [(name_of_methodNamed B.named B.method).1]; exact hn
  have hb := body p e s m _ below meth c (va_A ws s.heap.size) ⟨B.exec, B.bytes, hml, findClass_of_methodNamed B.named, atoms_spec (ws := wd) B.pre, hK, fun q h => Or.inr h, B.returns, B.notSynchronized, hN0⟩ hnm hO
  have hl := lv_entry [.ref h0] (n := nL) hlen
  rw [lg_entry_eq]
  rw [hlv] at hl
  exact hb s.heap [] _ hP hD0.self va_S.rf hl
theorem j_vretI {WF : (Nat → Nat) → va_W} (K : jK p s m args meth c A D cl tys cc nL own Ts none) (ad : Nat → Nat) (hw : ws = WF ad) (hd : decode cc pc = .ok (.return_, 1)) : jw p l e R s m args below meth c (MQ below (jEI D cl tys A WF) args s cs ss A) A D cl nL cs ss pc lv [] ws := by
  subst hw
  exact fun H locs ls h1 h2 h3 h4 => W.vret K.1 K.2.1 (jK_ret K) (fun t ht hW => ⟨⟨rfl, ad, by rw [ht]; exact h1, va_K.moved hW.alike (jK_K K), h2⟩, h3.F ht⟩) h3.2.2 hd (jK_locks K)
theorem j_obj (K : jK p s m args meth c A D cl tys cc nL own Ts ret) {ix a : Nat} (hl : Cond.methodLink own ix objectInit ∈ Ts) (hi : Cond.instanceMethod objectInit ∈ Ts) (hc : Cond.code objectInit ⟨#[0xb1]⟩ 1 none ∈ Ts) (hR : 1 ≤ R.frames ∧ (st.map fun v => v.category).sum + 12 ≤ R.locals) (hd : decode cc pc = .ok (.invokespecial ix, 3)) (hp : pc + 3 = pc') (kk : jw p l e R s m args below meth c Q A D cl nL cs ss pc' lv st ws) : jw p l e R s m args below meth c Q A D cl nL cs ss pc lv (.ref a :: st) ws := by
  subst hp
  exact fun H locs ls h1 h2 h3 h4 => W.objInit K.1 K.2.1 (jK_own K) (jK_ts K _ hl) (jK_ts K _ hi) (jK_ts K _ hc) rfl (by rw [K.2.2.1]; exact h4.1) rfl hd hR.1 (by show 2 * 0 + _ + 12 ≤ _; have := hR.2; omega) (kk H locs ls h1 h2 h3 h4)
theorem j_putF (K : jK p s m args meth c A D cl tys cc nL own Ts ret) {ref C : String} {T : u_T} {N ci ix a : Nat} {fs : List Value} {v : Value} {ty : FieldType} (hnm0 : meth.name = "<init>") (hin : ∀ w ∈ u_ws C T N, w ∈ Ts) (ty0 : Nat → FieldType) (hty : ∀ k, k < N → parseFieldDescriptor (T k).2.2.1 = some (ty0 k)) (hnm : ∀ a, a < N → ∀ b, b < N → a ≠ b → (T a).2.1 ≠ (T b).2.1) (q k : Nat) (hlink : Cond.fieldLink own ix ref (T k).2.1 (T k).2.2.1 ∈ Ts) (href : ref = (T k).1) (he : ws[q]? = some (a, .inr (ci, fs))) (hc : cl[ci]? = some (C, T, N)) (hk : k < N) (hfin : (T k).2.2.2 = true) (hdecl : (T k).1 = own) (hdp : parseFieldDescriptor (T k).2.2.1 = some ty) (hn : narrow ty v = v) (hfit : fits ty v = true) (hl : k < fs.length) (hw : ws.set q (a, .inr (ci, fs.set k v)) = ws') (hd : decode cc pc = .ok (.putfield ix, 3)) (hp : pc + 3 = pc') (kk : jw p l e R s m args below meth c Q A D cl nL cs ss pc' lv st ws') : jw p l e R s m args below meth c Q A D cl nL cs ss pc lv (v :: .ref a :: st) ws := by
  subst hp
  subst href
  exact fun H locs ls h1 h2 h3 h4 => va_putF K.1 K.2.1 (jK_ts K) hin ty0 hty hnm (jK_own K) (jK_K K) h1 h2 h3 q he hc k hk (jK_ts K _ hlink) (fun _ h9 => h9) hfin hnm0 hdecl hdp hn hfit hl hd (fun H1 locs1 g1 g2 g3 => kk H1 locs1 ls (by rw [← hw]; exact g1) (by rw [← hw]; exact g2) g3 h4)
theorem j_iastV (K : jK p s m args meth c A D cl tys cc nL own Ts ret) (q t : Nat) {a : Nat} {cA : ClassId} {n : Nat} {f : Nat → Int32} {i x : Int32} (ha : ws[q]? = some (a, .inl (cA, n, .inl f))) (ht : tys[t]? = some (cA, .int)) (hi : vp_in i n) (hw : ws.set q (a, .inl (cA, n, .inl (upd f i.toNatClampNeg x))) = ws') (hd : decode cc pc = .ok (.iastore, 1)) (hp : pc + 1 = pc') (kk : jw p l e R s m args below meth c Q A D cl nL cs ss pc' lv st ws') : jw p l e R s m args below meth c Q A D cl nL cs ss pc lv (.int x :: .int i :: .ref a :: st) ws := by
  subst hp
  exact fun H locs ls h1 h2 h3 h4 => va_iast K.1 K.2.1 (jK_K K) h1 h2 h3 q t ha ht hi hd (fun H1 locs1 g1 g2 g3 => kk H1 locs1 ls (by rw [← hw]; exact g1) (by rw [← hw]; exact g2) g3 h4)
theorem j_aast (K : jK p s m args meth c A D cl tys cc nL own Ts ret) (q t qk ci : Nat) {a v : Nat} {cA : ClassId} {r : vw_C} {n : Nat} {vs : List Value} {f : Nat → Option Nat} {i : Int32} (ha : ws[q]? = some (a, .inl (cA, n, .inr (.inr (.inr (.inr f)))))) (ht : tys[t]? = some (cA, .object r.1)) (hv : ws[qk]? = some (v, .inr (ci, vs))) (hc : cl[ci]? = some r) (hi : vp_in i n) (hw : ws.set q (a, .inl (cA, n, .inr (.inr (.inr (.inr (va_up f i.toNatClampNeg (some v))))))) = ws') (hd : decode cc pc = .ok (.aastore, 1)) (hp : pc + 1 = pc') (kk : jw p l e R s m args below meth c Q A D cl nL cs ss pc' lv st ws') : jw p l e R s m args below meth c Q A D cl nL cs ss pc lv (.ref v :: .int i :: .ref a :: st) ws := by
  subst hp
  exact fun H locs ls h1 h2 h3 h4 => va_astq K.1 K.2.1 (jK_K K) h1 h2 h3 q t qk ci ha ht hv hc hi hd (fun H1 locs1 g1 g2 g3 => kk H1 locs1 ls (by rw [← hw]; exact g1) (by rw [← hw]; exact g2) g3 h4)
theorem j_newI (K : jK p s m args meth c A D cl tys cc nL own Ts ret) (t : Nat) {cy : ClassId} {n : Int32} (N : Nat) (wf : Nat → va_W) (ht : tys[t]? = some (cy, .int)) (harr : Cond.arrayClass .int ∈ Ts) (hn : ¬ n < 0) (hN : n.toNatClampNeg = N) (hb : N * componentBytes .int ≤ 536870912) (hR : cs + 1 ≤ R.cells ∧ ss + N ≤ R.slots) (hcs : cs + 1 = cs') (hss : ss + N = ss') (hw : ∀ q, ws ++ [(q, .inl (cy, N, .inl (fun _ => 0)))] = wf q) (hd : decode cc pc = .ok (.newarray .int, 2)) (hp : pc + 2 = pc') (kk : ∀ q : Nat, jw p l e R s m args below meth c Q A D cl nL cs' ss' pc' lv (.ref q :: st) (wf q)) : jw p l e R s m args below meth c Q A D cl nL cs ss pc lv (.int n :: st) ws := by
  subst hp; subst hcs; subst hss
  refine fun H locs ls h1 h2 h3 h4 => va_newa (atype := .int) (ty := .int) (a0 := (N, .inl (fun _ => 0))) K.1 K.2.1 (jK_ts K _ harr) rfl (jK_K K) h1 h2 h3 (jK_A K) (fun cA => rfl) hn hN hb hR.1 hR.2 hd (fun q cA H1 k1 k2 k3 k4 => ?_)
  have e1 : s.vm.findClass ("[" ++ FieldType.int.toString) = some cA := (k1.2 tys.length (cA, .int) (by simp)).2
  have e2 : s.vm.findClass ("[" ++ FieldType.int.toString) = some cy := ((jK_K K).2 t _ ht).2
  have e3 : cA = cy := Option.some.inj (e1.symm.trans e2)
  subst e3
  exact kk q H1 locs ls (by rw [← hw]; exact k2) (by rw [← hw]; exact k3) k4 h4
theorem j_newL (K : jK p s m args meth c A D cl tys cc nL own Ts ret) (t : Nat) {cy : ClassId} {n : Int32} (N : Nat) (wf : Nat → va_W) (ht : tys[t]? = some (cy, .long)) (harr : Cond.arrayClass .long ∈ Ts) (hn : ¬ n < 0) (hN : n.toNatClampNeg = N) (hb : N * componentBytes .long ≤ 536870912) (hR : cs + 1 ≤ R.cells ∧ ss + N ≤ R.slots) (hcs : cs + 1 = cs') (hss : ss + N = ss') (hw : ∀ q, ws ++ [(q, .inl (cy, N, .inr (.inl (fun _ => 0))))] = wf q) (hd : decode cc pc = .ok (.newarray .long, 2)) (hp : pc + 2 = pc') (kk : ∀ q : Nat, jw p l e R s m args below meth c Q A D cl nL cs' ss' pc' lv (.ref q :: st) (wf q)) : jw p l e R s m args below meth c Q A D cl nL cs ss pc lv (.int n :: st) ws := by
  subst hp; subst hcs; subst hss
  refine fun H locs ls h1 h2 h3 h4 => va_newa (atype := .long) (ty := .long) (a0 := (N, .inr (.inl (fun _ => 0)))) K.1 K.2.1 (jK_ts K _ harr) rfl (jK_K K) h1 h2 h3 (jK_A K) (fun cA => rfl) hn hN hb hR.1 hR.2 hd (fun q cA H1 k1 k2 k3 k4 => ?_)
  have e1 : s.vm.findClass ("[" ++ FieldType.long.toString) = some cA := (k1.2 tys.length (cA, .long) (by simp)).2
  have e2 : s.vm.findClass ("[" ++ FieldType.long.toString) = some cy := ((jK_K K).2 t _ ht).2
  have e3 : cA = cy := Option.some.inj (e1.symm.trans e2)
  subst e3
  exact kk q H1 locs ls (by rw [← hw]; exact k2) (by rw [← hw]; exact k3) k4 h4
theorem j_newS (K : jK p s m args meth c A D cl tys cc nL own Ts ret) (t : Nat) {cy : ClassId} {C : String} {ix : Nat} {n : Int32} (N : Nat) (wf : Nat → va_W) (ht : tys[t]? = some (cy, .object C)) (hcl : Cond.classLink own ix C ∈ Ts) (hO : va_AO C s) (hn : ¬ n < 0) (hN : n.toNatClampNeg = N) (hb : N * 4 ≤ 536870912) (hR : cs + 1 ≤ R.cells ∧ ss + N ≤ R.slots) (hcs : cs + 1 = cs') (hss : ss + N = ss') (hw : ∀ q, ws ++ [(q, .inl (cy, N, .inr (.inr (.inr (.inr (fun _ => none))))))] = wf q) (hd : decode cc pc = .ok (.anewarray ix, 3)) (hp : pc + 3 = pc') (kk : ∀ q : Nat, jw p l e R s m args below meth c Q A D cl nL cs' ss' pc' lv (.ref q :: st) (wf q)) : jw p l e R s m args below meth c Q A D cl nL cs ss pc lv (.int n :: st) ws := by
  subst hp; subst hcs; subst hss
  refine fun H locs ls h1 h2 h3 h4 => va_newq K.1 K.2.1 (jK_own K) (jK_ts K _ hcl) hO (jK_K K) h1 h2 h3 (jK_A K) hn hN hb hR.1 hR.2 hd (fun q cA H1 k1 k2 k3 k4 => ?_)
  obtain ⟨_, _, -, -, -, e1⟩ := (k1.2 tys.length (cA, .object C) (by simp)).2
  obtain ⟨_, _, -, -, -, e2⟩ := ((jK_K K).2 t _ ht).2
  have e3 : cA = cy := Option.some.inj (e1.symm.trans e2)
  subst e3
  exact kk q H1 locs ls (by rw [← hw]; exact k2) (by rw [← hw]; exact k3) k4 h4
theorem j_new (K : jK p s m args meth c A D cl tys cc nL own Ts ret) {C : String} {T : u_T} {N ci ix : Nat} {fs : List Value} (wf : Nat → va_W) (hin : ∀ w ∈ u_ws C T N, w ∈ Ts) (ty : Nat → FieldType) (hty : ∀ k, k < N → parseFieldDescriptor (T k).2.2.1 = some (ty k)) (hcl : Cond.classLink own ix C ∈ Ts) (hinst : Cond.instantiable C N ∈ Ts) (hini : Cond.initialized C ∈ Ts) (hc : cl[ci]? = some (C, T, N)) (hfs : ∀ j, j < N → defaultValue (ty j) = vp_V fs j) (hR : cs + 1 ≤ R.cells ∧ ss + N ≤ R.slots) (hcs : cs + 1 = cs') (hss : ss + N = ss') (hw : ∀ q, ws ++ [(q, .inr (ci, fs))] = wf q) (hd : decode cc pc = .ok (.new ix, 3)) (hp : pc + 3 = pc') (kk : ∀ q : Nat, jw p l e R s m args below meth c Q A D cl nL cs' ss' pc' lv (.ref q :: st) (wf q)) : jw p l e R s m args below meth c Q A D cl nL cs ss pc lv st ws := by
  subst hp; subst hcs; subst hss
  exact fun H locs ls h1 h2 h3 h4 => va_new K.1 K.2.1 (jK_ts K) hin ty hty (jK_own K) (jK_ts K _ hcl) (jK_ts K _ hinst) (jK_ts K _ hini) (jK_K K) h1 h2 h3 (jK_A K) hc hfs hR.1 hR.2 hd (fun q H1 k2 k3 k4 => kk q H1 locs ls (by rw [← hw]; exact k2) (by rw [← hw]; exact k3) k4 h4)
theorem j_perm (is : List Nat) (hnd : va_nd is = true) (hs : is.map (fun i => ws[i]?) = ws'.map some) (kk : jw p l e R s m args below meth c Q A D cl nL cs ss pc lv st ws') : jw p l e R s m args below meth c Q A D cl nL cs ss pc lv st ws := by
  refine fun H locs ls h1 h2 h3 h4 => kk H locs ls (fun k q hq => ?_) (h2.sub is hnd hs) h3 h4
  have e1 : (is.map (fun i => ws[i]?))[k]? = some (some q) := by rw [hs, List.getElem?_map, hq]; rfl
  rw [List.getElem?_map] at e1
  cases hi : is[k]? with
  | none => rw [hi] at e1; cases e1
  | some i => rw [hi] at e1; exact h1 i q (Option.some.inj e1)
theorem j_icmp_geT (K : jK p s m args meth c A D cl tys cc nL own Ts ret) {x y : Int32} {off : Int} (hc : y ≤ x) (hd : decode cc pc = .ok (.if_icmp .ge off, 3)) (ht : (pc : Int) + off = (pc' : Int)) (kk : jw p l e R s m args below meth c Q A D cl nL cs ss pc' lv st ws) : jw p l e R s m args below meth c Q A D cl nL cs ss pc lv (.int y :: .int x :: st) ws := fun H locs ls h1 h2 h3 h4 => lv_icmp_ge K.1 K.2.1 hd ht (fun _ => kk H locs ls h1 h2 h3 h4) (fun q => absurd hc q)
theorem j_icmp_geF (K : jK p s m args meth c A D cl tys cc nL own Ts ret) {x y : Int32} {off : Int} {tgt : Nat} (hc : ¬ y ≤ x) (hd : decode cc pc = .ok (.if_icmp .ge off, 3)) (ht : (pc : Int) + off = (tgt : Int)) (hp : pc + 3 = pc') (kk : jw p l e R s m args below meth c Q A D cl nL cs ss pc' lv st ws) : jw p l e R s m args below meth c Q A D cl nL cs ss pc lv (.int y :: .int x :: st) ws := by
  subst hp
  exact fun H locs ls h1 h2 h3 h4 => lv_icmp_ge K.1 K.2.1 hd ht (fun q => absurd q hc) (fun _ => kk H locs ls h1 h2 h3 h4)
theorem j_runI (K : jK p s m args meth c A D cl tys cc nL own Ts ret) {wc wr : va_W} {WF : (Nat → Nat) → va_W} {mc ms : Nat} {rest st0 : List Value} {a : Array Value} (isC isR : List Nat) (hC : isC.map (fun i => ws[i]?) = wc.map some) (hRr : isR.map (fun i => ws[i]?) = wr.map some) (hnd : va_nd isR = true) (hndC : va_nd isC = true) (hdis : ∀ i ∈ isR, i ∉ isC) (hp : pc + 3 = pc') (hcs : cs + mc = cs') (hss : ss + ms = ss')
    (hr : ∀ (H : Heap) (locs : List Loc) (ls : Array Slot), va_P D cl wc H → va_D (fun _ => True) wc → ls.size = nL → va_Run p l e R s m args below meth c H locs cs ss mc ms (F0 m pc ls st0) rest (jEI D cl tys (va_A wc H.size) WF a) (va_A wc H.size))
    (kk : ∀ ad : Nat → Nat, jw p l e R s m args below meth c Q A D cl nL cs' ss' pc' lv rest (wr ++ WF ad)) : jw p l e R s m args below meth c Q A D cl nL cs ss pc lv st0 ws := by
  subst hp; subst hcs; subst hss
  intro H locs ls hP hD hS hl
  have hPc : va_P D cl wc H := by
    intro k q hq
    have h1 : (isC.map (fun i => ws[i]?))[k]? = some (some q) := by rw [hC, List.getElem?_map, hq]; rfl
    rw [List.getElem?_map] at h1
    cases hi : isC[k]? with
    | none => rw [hi] at h1; cases h1
    | some i => rw [hi] at h1; exact hP i q (Option.some.inj h1)
  have hfree := va_free (wc := wc) hD hS (jK_A K) isC hC
  have hDc : va_D (fun _ => True) wc := (hD.sub isC hndC hC).weaken (fun _ _ _ _ => trivial)
  intro T hT X
  obtain ⟨v, st₀, t, T', L, h0, X', hL, e1, e2, ⟨⟨hv, ad, hP1, -, hD1⟩, hz, hk⟩, st⟩ := hr H locs ls hPc hDc hl.1 T hT X
  cases hv
  rw [h0] at hz hk
  rw [← e1] at hP1 hz hk
  obtain ⟨hP', hD'⟩ := va_join hP hD isC isR hC hRr hnd hdis hk hfree hP1 hD1
  obtain ⟨t2, a1, b1⟩ := kk ad T'.heap (locs ++ L) ls hP' hD'
    ⟨Nat.le_trans hS.1 hz, fun q h1 h2 => by
      rw [hk q (Nat.lt_of_lt_of_le h1 hS.1) (fun z => h2 (hfree q z))]; exact hS.2.1 q h1 h2, fun q hq => by
      rcases List.mem_append.mp hq with h | h
      · exact hS.2.2 q h
      · exact hfree _ (hL q h)⟩ hl T' rfl X'
  exact ⟨t2, st t2 a1, b1⟩
theorem j_callIN (K : jK p s m args meth c A D cl tys cc nL own Ts ret) {y : MethodName} {wd wd' : List Cond} {rmc : Room} {host : String} {bytes : ByteArray} {maxL b ix mc ms : Nat} {rest st0 : List Value} {wc wr : va_W} {WF : (Nat → Nat) → va_W} (hO : va_AO "FloorAbove$Sheet" s) (hM : jCI l y wd rmc D cl tys b wc mc ms WF) (hg : GoodIn Ts wd) (hlk : (own, ix, y, host) ∈ nwX) (hinst : Cond.instanceMethod y ∈ Ts) (hini : Cond.initialized y.cls ∈ Ts) (hcd : wd = Cond.code y bytes maxL none :: wd') (hz : rmc.cells = mc ∧ rmc.slots = ms) (hnm : y.name = "<init>")
    (hy : y.cls ≠ "java/lang/invoke/MethodHandle" ∧ y.cls ≠ "java/lang/invoke/VarHandle" ∧ (parseMethodDescriptor y.desc).map (fun d => d.parameters.length) = some 0) (hR : rmc.frames + 1 ≤ R.frames ∧ 8 + (maxL + 11) + rmc.locals ≤ R.locals ∧ cs + mc ≤ R.cells ∧ ss + ms ≤ R.slots) (isC isR : List Nat) (hC : isC.map (fun i => ws[i]?) = wc.map some) (hRr : isR.map (fun i => ws[i]?) = wr.map some) (hnd : va_nd isR = true) (hndC : va_nd isC = true) (hdis : ∀ i ∈ isR, i ∉ isC) (hcs : cs + mc = cs') (hss : ss + ms = ss')
    (hst : st0 = .ref b :: rest) (hroom : (rest.map fun v => v.category).sum ≤ 8) (hd : decode cc pc = .ok (.invokespecial ix, 3)) (hp : pc + 3 = pc') (kk : ∀ ad : Nat → Nat, jw p l e R s m args below meth c Q A D cl nL cs' ss' pc' lv rest (wr ++ WF ad)) : jw p l e R s m args below meth c Q A D cl nL cs ss pc lv st0 ws := by
  refine j_runI K (a := (Value.ref b :: ([] : List Value)).toArray) isC isR hC hRr hnd hndC hdis hp hcs hss (fun H locs ls hPc hDc hls => ?_) kk
  exact va_runIN (As := []) (rest := rest) (b := b) ⟨K.1, K.2.1, K.2.2.1, jK_own K, jK_ts K⟩ (hM H.size) ⟨va_cnB 0 (jK_ts K) hg hcd hz.1 hz.2 (jK_N K _ hlk) (jK_ts K _ hini) hy ⟨hR.1, hR.2.1⟩, hnm, jK_ts K _ hinst⟩ ⟨jblindI, fun U hU hW => ⟨rfl, ⟨by rw [hU], by rw [hU]; exact hPc, va_K.moved hW.alike (jK_K K), hDc, jN_warm hW (jK_N K)⟩, va_AO.moved hW.alike hO⟩⟩ rfl rfl hls hst (lv_room hroom) hd ⟨hR.2.2.1, hR.2.2.2⟩
theorem j_callI (K : jK p s m args meth c A D cl tys cc nL own Ts ret) {y : MethodName} {wd wd' : List Cond} {rmc : Room} {bytes : ByteArray} {maxL b ix mc ms : Nat} {rest st0 : List Value} {wc wr : va_W} {WF : (Nat → Nat) → va_W} (hO : va_AO "FloorAbove$Sheet" s) (hM : jCI l y wd rmc D cl tys b wc mc ms WF) (hg : GoodIn Ts wd) (hlk : Cond.methodLink own ix y ∈ Ts) (hinst : Cond.instanceMethod y ∈ Ts) (hini : Cond.initialized y.cls ∈ Ts) (hcd : wd = Cond.code y bytes maxL none :: wd') (hz : rmc.cells = mc ∧ rmc.slots = ms) (hnm : y.name = "<init>")
    (hy : y.cls ≠ "java/lang/invoke/MethodHandle" ∧ y.cls ≠ "java/lang/invoke/VarHandle" ∧ (parseMethodDescriptor y.desc).map (fun d => d.parameters.length) = some 0) (hR : rmc.frames + 1 ≤ R.frames ∧ 8 + (maxL + 11) + rmc.locals ≤ R.locals ∧ cs + mc ≤ R.cells ∧ ss + ms ≤ R.slots) (isC isR : List Nat) (hC : isC.map (fun i => ws[i]?) = wc.map some) (hRr : isR.map (fun i => ws[i]?) = wr.map some) (hnd : va_nd isR = true) (hndC : va_nd isC = true) (hdis : ∀ i ∈ isR, i ∉ isC) (hcs : cs + mc = cs') (hss : ss + ms = ss')
    (hst : st0 = .ref b :: rest) (hroom : (rest.map fun v => v.category).sum ≤ 8) (hd : decode cc pc = .ok (.invokespecial ix, 3)) (hp : pc + 3 = pc') (kk : ∀ ad : Nat → Nat, jw p l e R s m args below meth c Q A D cl nL cs' ss' pc' lv rest (wr ++ WF ad)) : jw p l e R s m args below meth c Q A D cl nL cs ss pc lv st0 ws := by
  refine j_runI K (a := (Value.ref b :: ([] : List Value)).toArray) isC isR hC hRr hnd hndC hdis hp hcs hss (fun H locs ls hPc hDc hls => ?_) kk
  exact va_runI (As := []) (rest := rest) (b := b) ⟨K.1, K.2.1, K.2.2.1, jK_own K, jK_ts K⟩ (hM H.size) (cwI 0 (jK_ts K) hg hcd hz.1 hz.2 (jK_ts K _ hini) (jK_ts K _ hlk) (jK_ts K _ hinst) hnm hy ⟨hR.1, hR.2.1⟩) ⟨jblindI, fun U hU hW => ⟨rfl, ⟨by rw [hU], by rw [hU]; exact hPc, va_K.moved hW.alike (jK_K K), hDc, jN_warm hW (jK_N K)⟩, va_AO.moved hW.alike hO⟩⟩ rfl rfl hls hst (lv_room hroom) hd ⟨hR.2.2.1, hR.2.2.2⟩
end CKIT
