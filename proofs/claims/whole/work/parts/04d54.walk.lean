section GEN
variable {p : Program} {l : Launch} {e : Env} {s : State} {m : MethodId} {args : Array Value} {below : List Frame} {meth : Method} {c : Code} {A : Nat → Prop} {D : va_G} {cyI cyJ cyS : ClassId}
abbrev uX8_passes (cyI cyJ cyS : ClassId) (a0 : Nat → Nat) (c_latest : Int32) (c_typed : Int32) (c_tenants : Int32) (c_room : Int32) (c_events : Int32) (c_gone : Int32) (c_audit : Int32) (c_sights : Int32) (c_drawn : Int32) (c_tenant : Nat → Int32) (c_event : Nat → Int32) (c_floor : Nat → Int32) (c_before : Nat → Int32) (c_left : Nat → Int32) (c_settled : Nat → Int32) (c_fell : Nat → Int32) (c_past : Nat → Int32) (c_highest : Nat → Int32) (c_many : Nat → Int32) (c_floorBy : Nat → Int32) (c_leftBy : Nat → Int32) (c_fellBy : Nat → Int32) : va_W := [((a0 0), .inr (8, [.ref (a0 1), .ref (a0 2), .ref (a0 3), .ref (a0 4), .int c_latest, .ref (a0 5), .int c_typed, .int c_tenants, .ref (a0 6), .int c_room, .int c_events, .ref (a0 7), .int c_gone, .ref (a0 8), .ref (a0 9), .ref (a0 10), .ref (a0 11), .ref (a0 12), .ref (a0 13), .ref (a0 14), .ref (a0 15), .ref (a0 16), .ref (a0 17), .ref (a0 18), .int c_audit, .int c_sights, .ref (a0 19), .ref (a0 20), .int c_drawn])), ((a0 6), .inl (cyI, 24, .inl c_tenant)), ((a0 7), .inl (cyI, 24, .inl c_event)), ((a0 8), .inl (cyI, 8, .inl c_floor)), ((a0 9), .inl (cyI, 8, .inl c_before)), ((a0 10), .inl (cyI, 8, .inl c_left)), ((a0 11), .inl (cyI, 8, .inl c_settled)), ((a0 12), .inl (cyI, 8, .inl c_fell)), ((a0 13), .inl (cyI, 8, .inl c_past)), ((a0 14), .inl (cyI, 8, .inl c_highest)), ((a0 15), .inl (cyI, 13, .inl c_many)), ((a0 16), .inl (cyI, 192, .inl c_floorBy)), ((a0 17), .inl (cyI, 192, .inl c_leftBy)), ((a0 18), .inl (cyI, 192, .inl c_fellBy))]
abbrev rmX8_passes : Room := { frames := 3, cells := 0, slots := 0, locals := 70 }
abbrev wdX8_passes : List Cond := .code yX8_passes cX8_passes 4 none :: wsL_law
theorem hyX8_passes : yX8_passes.cls = RX8 ∧ yX8_passes.cls ≠ "java/lang/invoke/MethodHandle" ∧ yX8_passes.cls ≠ "java/lang/invoke/VarHandle" ∧ (parseMethodDescriptor yX8_passes.desc).map (fun d => d.parameters.length) = some 1 := by decide +kernel
set_option maxRecDepth 100000 in
set_option maxHeartbeats 4000000 in
theorem wX8_passes_227 (K : jK p s m args meth c A D vwCl (tyz cyI cyJ cyS) cX8_passes 4 RX8 wdX8_passes none) (a0 : Nat → Nat) (c_latest : Int32) (c_typed : Int32) (c_sights : Int32) (c_drawn : Int32) (i1 : Int32) (c_tenants : Int32) (c_room : Int32) (c_events : Int32) (c_gone : Int32) (c_tenant : Nat → Int32) (c_event : Nat → Int32) (o_sim : jT11)  (q_71 : jT11 → Int32 → Option (jT11)) (hq_71 : ∀ (c_sim : jT11) (i2 : Int32), q_71 c_sim i2 = some (o_sim) → jw p l e rmX8_passes s m args below meth c (jQ below args s A D vwCl (tyz cyI cyJ cyS) 0 0 none (uX8_passes cyI cyJ cyS a0 c_latest c_typed c_tenants c_room c_events c_gone o_sim.1 c_sights c_drawn c_tenant c_event o_sim.2.1 o_sim.2.2.1 o_sim.2.2.2.1 o_sim.2.2.2.2.1 o_sim.2.2.2.2.2.1 o_sim.2.2.2.2.2.2.1 o_sim.2.2.2.2.2.2.2.1 o_sim.2.2.2.2.2.2.2.2.1 o_sim.2.2.2.2.2.2.2.2.2.1 o_sim.2.2.2.2.2.2.2.2.2.2.1 o_sim.2.2.2.2.2.2.2.2.2.2.2)) A D vwCl 4 0 0 71 [(0, .ref (a0 0)), (1, .int i1), (2, .int i2)] [] (uX8_passes cyI cyJ cyS a0 c_latest c_typed c_tenants c_room c_events c_gone c_sim.1 c_sights c_drawn c_tenant c_event c_sim.2.1 c_sim.2.2.1 c_sim.2.2.2.1 c_sim.2.2.2.2.1 c_sim.2.2.2.2.2.1 c_sim.2.2.2.2.2.2.1 c_sim.2.2.2.2.2.2.2.1 c_sim.2.2.2.2.2.2.2.2.1 c_sim.2.2.2.2.2.2.2.2.2.1 c_sim.2.2.2.2.2.2.2.2.2.2.1 c_sim.2.2.2.2.2.2.2.2.2.2.2)) : ∀ (c_sim : jT11) (i2 : Int32) (t0 : Int32) (t1 : Int32), fX8_passes_227 i1 c_tenants c_room c_events c_gone c_tenant c_event q_71 c_sim i2 t0 t1 = some (o_sim) → jw p l e rmX8_passes s m args below meth c (jQ below args s A D vwCl (tyz cyI cyJ cyS) 0 0 none (uX8_passes cyI cyJ cyS a0 c_latest c_typed c_tenants c_room c_events c_gone o_sim.1 c_sights c_drawn c_tenant c_event o_sim.2.1 o_sim.2.2.1 o_sim.2.2.2.1 o_sim.2.2.2.2.1 o_sim.2.2.2.2.2.1 o_sim.2.2.2.2.2.2.1 o_sim.2.2.2.2.2.2.2.1 o_sim.2.2.2.2.2.2.2.2.1 o_sim.2.2.2.2.2.2.2.2.2.1 o_sim.2.2.2.2.2.2.2.2.2.2.1 o_sim.2.2.2.2.2.2.2.2.2.2.2)) A D vwCl 4 0 0 227 [(0, .ref (a0 0)), (1, .int i1), (2, .int i2)] [.int t0, .int t1, .ref (a0 18)] (uX8_passes cyI cyJ cyS a0 c_latest c_typed c_tenants c_room c_events c_gone c_sim.1 c_sights c_drawn c_tenant c_event c_sim.2.1 c_sim.2.2.1 c_sim.2.2.2.1 c_sim.2.2.2.2.1 c_sim.2.2.2.2.2.1 c_sim.2.2.2.2.2.2.1 c_sim.2.2.2.2.2.2.2.1 c_sim.2.2.2.2.2.2.2.2.1 c_sim.2.2.2.2.2.2.2.2.2.1 c_sim.2.2.2.2.2.2.2.2.2.2.1 c_sim.2.2.2.2.2.2.2.2.2.2.2) := by
  intro c_sim i2 t0 t1 h
  unfold fX8_passes_227 at h
  refine j_iast K 13 0 (fun z => (uX8_passes cyI cyJ cyS a0 c_latest c_typed c_tenants c_room c_events c_gone c_sim.1 c_sights c_drawn c_tenant c_event c_sim.2.1 c_sim.2.2.1 c_sim.2.2.2.1 c_sim.2.2.2.2.1 c_sim.2.2.2.2.2.1 c_sim.2.2.2.2.2.2.1 c_sim.2.2.2.2.2.2.2.1 c_sim.2.2.2.2.2.2.2.2.1 c_sim.2.2.2.2.2.2.2.2.2.1 c_sim.2.2.2.2.2.2.2.2.2.2.1 z)) rfl rfl (fun _ => rfl) dX8_passes_227 rfl h (fun c_fellBy_19 h => ?_)
  refine j_iincN (lf := fun z => [(2, .int z), (0, .ref (a0 0)), (1, .int i1)]) K (v := i2 + (1 : Int32)) (k := 2) rfl rfl (by decide) (fun _ => rfl) dX8_passes_228 rfl h (fun i2_20 h => ?_)
  refine j_goto (pc' := 71) K dX8_passes_231 (by decide) ?_
  refine j_sub [1, 2, 0] (lv' := [(0, .ref (a0 0)), (1, .int i1), (2, .int i2_20)]) rfl ?_
  exact hq_71 (c_sim.1, c_sim.2.1, c_sim.2.2.1, c_sim.2.2.2.1, c_sim.2.2.2.2.1, c_sim.2.2.2.2.2.1, c_sim.2.2.2.2.2.2.1, c_sim.2.2.2.2.2.2.2.1, c_sim.2.2.2.2.2.2.2.2.1, c_sim.2.2.2.2.2.2.2.2.2.1, c_sim.2.2.2.2.2.2.2.2.2.2.1, c_fellBy_19) i2_20 h
set_option maxRecDepth 100000 in
set_option maxHeartbeats 4000000 in
theorem wX8_passes_151 (K : jK p s m args meth c A D vwCl (tyz cyI cyJ cyS) cX8_passes 4 RX8 wdX8_passes none) (a0 : Nat → Nat) (c_latest : Int32) (c_typed : Int32) (c_sights : Int32) (c_drawn : Int32) (i1 : Int32) (c_tenants : Int32) (c_room : Int32) (c_events : Int32) (c_gone : Int32) (c_tenant : Nat → Int32) (c_event : Nat → Int32) (o_sim : jT11)  (q_71 : jT11 → Int32 → Option (jT11)) (hq_71 : ∀ (c_sim : jT11) (i2 : Int32), q_71 c_sim i2 = some (o_sim) → jw p l e rmX8_passes s m args below meth c (jQ below args s A D vwCl (tyz cyI cyJ cyS) 0 0 none (uX8_passes cyI cyJ cyS a0 c_latest c_typed c_tenants c_room c_events c_gone o_sim.1 c_sights c_drawn c_tenant c_event o_sim.2.1 o_sim.2.2.1 o_sim.2.2.2.1 o_sim.2.2.2.2.1 o_sim.2.2.2.2.2.1 o_sim.2.2.2.2.2.2.1 o_sim.2.2.2.2.2.2.2.1 o_sim.2.2.2.2.2.2.2.2.1 o_sim.2.2.2.2.2.2.2.2.2.1 o_sim.2.2.2.2.2.2.2.2.2.2.1 o_sim.2.2.2.2.2.2.2.2.2.2.2)) A D vwCl 4 0 0 71 [(0, .ref (a0 0)), (1, .int i1), (2, .int i2)] [] (uX8_passes cyI cyJ cyS a0 c_latest c_typed c_tenants c_room c_events c_gone c_sim.1 c_sights c_drawn c_tenant c_event c_sim.2.1 c_sim.2.2.1 c_sim.2.2.2.1 c_sim.2.2.2.2.1 c_sim.2.2.2.2.2.1 c_sim.2.2.2.2.2.2.1 c_sim.2.2.2.2.2.2.2.1 c_sim.2.2.2.2.2.2.2.2.1 c_sim.2.2.2.2.2.2.2.2.2.1 c_sim.2.2.2.2.2.2.2.2.2.2.1 c_sim.2.2.2.2.2.2.2.2.2.2.2)) : ∀ (c_sim : jT11) (i2 : Int32) (i3 : Int32) (t0 : Int32) (t1 : Int32) (t2 : Int32), fX8_passes_151 i1 c_tenants c_room c_events c_gone c_tenant c_event q_71 c_sim i2 i3 t0 t1 t2 = some (o_sim) → jw p l e rmX8_passes s m args below meth c (jQ below args s A D vwCl (tyz cyI cyJ cyS) 0 0 none (uX8_passes cyI cyJ cyS a0 c_latest c_typed c_tenants c_room c_events c_gone o_sim.1 c_sights c_drawn c_tenant c_event o_sim.2.1 o_sim.2.2.1 o_sim.2.2.2.1 o_sim.2.2.2.2.1 o_sim.2.2.2.2.2.1 o_sim.2.2.2.2.2.2.1 o_sim.2.2.2.2.2.2.2.1 o_sim.2.2.2.2.2.2.2.2.1 o_sim.2.2.2.2.2.2.2.2.2.1 o_sim.2.2.2.2.2.2.2.2.2.2.1 o_sim.2.2.2.2.2.2.2.2.2.2.2)) A D vwCl 4 0 0 151 [(0, .ref (a0 0)), (1, .int i1), (2, .int i2), (3, .int i3)] [.int t0, .int t1, .int t2, .ref (a0 13)] (uX8_passes cyI cyJ cyS a0 c_latest c_typed c_tenants c_room c_events c_gone c_sim.1 c_sights c_drawn c_tenant c_event c_sim.2.1 c_sim.2.2.1 c_sim.2.2.2.1 c_sim.2.2.2.2.1 c_sim.2.2.2.2.2.1 c_sim.2.2.2.2.2.2.1 c_sim.2.2.2.2.2.2.2.1 c_sim.2.2.2.2.2.2.2.2.1 c_sim.2.2.2.2.2.2.2.2.2.1 c_sim.2.2.2.2.2.2.2.2.2.2.1 c_sim.2.2.2.2.2.2.2.2.2.2.2) := by
  intro c_sim i2 i3 t0 t1 t2 h
  unfold fX8_passes_151 at h
  refine j_iadd K dX8_passes_151 rfl ?_
  refine j_iast K 8 0 (fun z => (uX8_passes cyI cyJ cyS a0 c_latest c_typed c_tenants c_room c_events c_gone c_sim.1 c_sights c_drawn c_tenant c_event c_sim.2.1 c_sim.2.2.1 c_sim.2.2.2.1 c_sim.2.2.2.2.1 c_sim.2.2.2.2.2.1 z c_sim.2.2.2.2.2.2.2.1 c_sim.2.2.2.2.2.2.2.2.1 c_sim.2.2.2.2.2.2.2.2.2.1 c_sim.2.2.2.2.2.2.2.2.2.2.1 c_sim.2.2.2.2.2.2.2.2.2.2.2)) rfl rfl (fun _ => rfl) dX8_passes_152 rfl h (fun c_past_10 h => ?_)
  refine j_aload_n K 0 rfl dX8_passes_153 rfl ?_
  refine j_getf (C := RX8) (T := TX8) (N := 29) (ci := 8) K icX8 0 19 (List.mem_cons_of_mem _ mw_5_21) rfl rfl rfl (by decide) rfl dX8_passes_154 rfl ?_
  refine j_iload_n K 2 rfl dX8_passes_157 rfl ?_
  refine j_aload_n K 0 rfl dX8_passes_158 rfl ?_
  refine j_getf (C := RX8) (T := TX8) (N := 29) (ci := 8) K icX8 0 13 (List.mem_cons_of_mem _ mw_5_15) rfl rfl rfl (by decide) rfl dX8_passes_159 rfl ?_
  refine j_iload_n K 2 rfl dX8_passes_162 rfl ?_
  refine j_iald K 3 0 rfl rfl dX8_passes_163 rfl h (fun v_11 h => ?_)
  refine j_aload_n K 0 rfl dX8_passes_164 rfl ?_
  refine j_getf (C := RX8) (T := TX8) (N := 29) (ci := 8) K icX8 0 19 (List.mem_cons_of_mem _ mw_5_21) rfl rfl rfl (by decide) rfl dX8_passes_165 rfl ?_
  refine j_iload_n K 2 rfl dX8_passes_168 rfl ?_
  refine j_iald K 9 0 rfl rfl dX8_passes_169 rfl h (fun v_12 h => ?_)
  obtain ⟨r_13, hc, h⟩ := bd1_some h
  refine j_callS (rest := [.int i2, .ref (a0 14)]) (st1 := [.int r_13, .int i2, .ref (a0 14)]) (ws' := (uX8_passes cyI cyJ cyS a0 c_latest c_typed c_tenants c_room c_events c_gone c_sim.1 c_sights c_drawn c_tenant c_event c_sim.2.1 c_sim.2.2.1 c_sim.2.2.2.1 c_sim.2.2.2.2.1 c_sim.2.2.2.2.2.1 c_past_10 c_sim.2.2.2.2.2.2.2.1 c_sim.2.2.2.2.2.2.2.2.1 c_sim.2.2.2.2.2.2.2.2.2.1 c_sim.2.2.2.2.2.2.2.2.2.2.1 c_sim.2.2.2.2.2.2.2.2.2.2.2)) K (ctX8_greater l D cyI cyJ cyS v_11 v_12 r_13 hc) (gdS mcL mw_19_4 mw_19_5 mw_1_5 mw_19_6) rfl ⟨rfl, rfl⟩ hzX8_greater ⟨Nat.le_of_ble_eq_true rfl, Nat.le_of_ble_eq_true rfl, Nat.le_of_ble_eq_true rfl, Nat.le_of_ble_eq_true rfl⟩ [] (by decide) rfl [none, none, none, none, none, none, none, none, none, none, none, none, none, none] (by decide) rfl rfl rfl rfl (Nat.le_of_ble_eq_true rfl) dX8_passes_170 rfl rfl ?_
  refine j_iast K 9 0 (fun z => (uX8_passes cyI cyJ cyS a0 c_latest c_typed c_tenants c_room c_events c_gone c_sim.1 c_sights c_drawn c_tenant c_event c_sim.2.1 c_sim.2.2.1 c_sim.2.2.2.1 c_sim.2.2.2.2.1 c_sim.2.2.2.2.2.1 c_past_10 z c_sim.2.2.2.2.2.2.2.2.1 c_sim.2.2.2.2.2.2.2.2.2.1 c_sim.2.2.2.2.2.2.2.2.2.2.1 c_sim.2.2.2.2.2.2.2.2.2.2.2)) rfl rfl (fun _ => rfl) dX8_passes_173 rfl h (fun c_highest_14 h => ?_)
  refine j_aload_n K 0 rfl dX8_passes_174 rfl ?_
  refine j_getf (C := RX8) (T := TX8) (N := 29) (ci := 8) K icX8 0 21 (List.mem_cons_of_mem _ mw_5_23) rfl rfl rfl (by decide) rfl dX8_passes_175 rfl ?_
  refine j_bipush (v := (8 : Int32)) K (by decide) dX8_passes_178 rfl ?_
  refine j_iload_n K 1 rfl dX8_passes_180 rfl ?_
  refine j_imul K dX8_passes_181 rfl ?_
  refine j_iload_n K 2 rfl dX8_passes_182 rfl ?_
  refine j_iadd K dX8_passes_183 rfl ?_
  refine j_aload_n K 0 rfl dX8_passes_184 rfl ?_
  refine j_getf (C := RX8) (T := TX8) (N := 29) (ci := 8) K icX8 0 13 (List.mem_cons_of_mem _ mw_5_15) rfl rfl rfl (by decide) rfl dX8_passes_185 rfl ?_
  refine j_iload_n K 2 rfl dX8_passes_188 rfl ?_
  refine j_iald K 3 0 rfl rfl dX8_passes_189 rfl h (fun v_15 h => ?_)
  refine j_iast K 11 0 (fun z => (uX8_passes cyI cyJ cyS a0 c_latest c_typed c_tenants c_room c_events c_gone c_sim.1 c_sights c_drawn c_tenant c_event c_sim.2.1 c_sim.2.2.1 c_sim.2.2.2.1 c_sim.2.2.2.2.1 c_sim.2.2.2.2.2.1 c_past_10 c_highest_14 c_sim.2.2.2.2.2.2.2.2.1 z c_sim.2.2.2.2.2.2.2.2.2.2.1 c_sim.2.2.2.2.2.2.2.2.2.2.2)) rfl rfl (fun _ => rfl) dX8_passes_190 rfl h (fun c_floorBy_16 h => ?_)
  refine j_aload_n K 0 rfl dX8_passes_191 rfl ?_
  refine j_getf (C := RX8) (T := TX8) (N := 29) (ci := 8) K icX8 0 22 (List.mem_cons_of_mem _ mw_6_0) rfl rfl rfl (by decide) rfl dX8_passes_192 rfl ?_
  refine j_bipush (v := (8 : Int32)) K (by decide) dX8_passes_195 rfl ?_
  refine j_iload_n K 1 rfl dX8_passes_197 rfl ?_
  refine j_imul K dX8_passes_198 rfl ?_
  refine j_iload_n K 2 rfl dX8_passes_199 rfl ?_
  refine j_iadd K dX8_passes_200 rfl ?_
  refine j_aload_n K 0 rfl dX8_passes_201 rfl ?_
  refine j_getf (C := RX8) (T := TX8) (N := 29) (ci := 8) K icX8 0 15 (List.mem_cons_of_mem _ mw_5_17) rfl rfl rfl (by decide) rfl dX8_passes_202 rfl ?_
  refine j_iload_n K 2 rfl dX8_passes_205 rfl ?_
  refine j_iald K 5 0 rfl rfl dX8_passes_206 rfl h (fun v_17 h => ?_)
  refine j_iast K 12 0 (fun z => (uX8_passes cyI cyJ cyS a0 c_latest c_typed c_tenants c_room c_events c_gone c_sim.1 c_sights c_drawn c_tenant c_event c_sim.2.1 c_sim.2.2.1 c_sim.2.2.2.1 c_sim.2.2.2.2.1 c_sim.2.2.2.2.2.1 c_past_10 c_highest_14 c_sim.2.2.2.2.2.2.2.2.1 c_floorBy_16 z c_sim.2.2.2.2.2.2.2.2.2.2.2)) rfl rfl (fun _ => rfl) dX8_passes_207 rfl h (fun c_leftBy_18 h => ?_)
  refine j_aload_n K 0 rfl dX8_passes_208 rfl ?_
  refine j_getf (C := RX8) (T := TX8) (N := 29) (ci := 8) K icX8 0 23 (List.mem_cons_of_mem _ mw_6_1) rfl rfl rfl (by decide) rfl dX8_passes_209 rfl ?_
  refine j_bipush (v := (8 : Int32)) K (by decide) dX8_passes_212 rfl ?_
  refine j_iload_n K 1 rfl dX8_passes_214 rfl ?_
  refine j_imul K dX8_passes_215 rfl ?_
  refine j_iload_n K 2 rfl dX8_passes_216 rfl ?_
  refine j_iadd K dX8_passes_217 rfl ?_
  refine j_iload_n K 3 rfl dX8_passes_218 rfl ?_
  refine j_if_eq (tgt := 226) K dX8_passes_219 (by decide) rfl h (fun h => ?_) (fun h => ?_)
  · refine j_iconst (v := (0 : Int32)) K (by decide) dX8_passes_226 rfl ?_
    refine j_sub [0, 1, 2] (lv' := [(0, .ref (a0 0)), (1, .int i1), (2, .int i2)]) rfl ?_
    exact wX8_passes_227 K a0 c_latest c_typed c_sights c_drawn i1 c_tenants c_room c_events c_gone c_tenant c_event o_sim q_71 hq_71 (c_sim.1, c_sim.2.1, c_sim.2.2.1, c_sim.2.2.2.1, c_sim.2.2.2.2.1, c_sim.2.2.2.2.2.1, c_past_10, c_highest_14, c_sim.2.2.2.2.2.2.2.2.1, c_floorBy_16, c_leftBy_18, c_sim.2.2.2.2.2.2.2.2.2.2.2) i2 (0 : Int32) (((8 : Int32) * i1) + i2) h
  · refine j_iconst (v := (1 : Int32)) K (by decide) dX8_passes_222 rfl ?_
    refine j_goto (pc' := 227) K dX8_passes_223 (by decide) ?_
    refine j_sub [0, 1, 2] (lv' := [(0, .ref (a0 0)), (1, .int i1), (2, .int i2)]) rfl ?_
    exact wX8_passes_227 K a0 c_latest c_typed c_sights c_drawn i1 c_tenants c_room c_events c_gone c_tenant c_event o_sim q_71 hq_71 (c_sim.1, c_sim.2.1, c_sim.2.2.1, c_sim.2.2.2.1, c_sim.2.2.2.2.1, c_sim.2.2.2.2.2.1, c_past_10, c_highest_14, c_sim.2.2.2.2.2.2.2.2.1, c_floorBy_16, c_leftBy_18, c_sim.2.2.2.2.2.2.2.2.2.2.2) i2 (1 : Int32) (((8 : Int32) * i1) + i2) h
set_option maxRecDepth 100000 in
set_option maxHeartbeats 4000000 in
theorem wX8_passes_118 (K : jK p s m args meth c A D vwCl (tyz cyI cyJ cyS) cX8_passes 4 RX8 wdX8_passes none) (a0 : Nat → Nat) (c_latest : Int32) (c_typed : Int32) (c_sights : Int32) (c_drawn : Int32) (i1 : Int32) (c_tenants : Int32) (c_room : Int32) (c_events : Int32) (c_gone : Int32) (c_tenant : Nat → Int32) (c_event : Nat → Int32) (o_sim : jT11)  (q_71 : jT11 → Int32 → Option (jT11)) (hq_71 : ∀ (c_sim : jT11) (i2 : Int32), q_71 c_sim i2 = some (o_sim) → jw p l e rmX8_passes s m args below meth c (jQ below args s A D vwCl (tyz cyI cyJ cyS) 0 0 none (uX8_passes cyI cyJ cyS a0 c_latest c_typed c_tenants c_room c_events c_gone o_sim.1 c_sights c_drawn c_tenant c_event o_sim.2.1 o_sim.2.2.1 o_sim.2.2.2.1 o_sim.2.2.2.2.1 o_sim.2.2.2.2.2.1 o_sim.2.2.2.2.2.2.1 o_sim.2.2.2.2.2.2.2.1 o_sim.2.2.2.2.2.2.2.2.1 o_sim.2.2.2.2.2.2.2.2.2.1 o_sim.2.2.2.2.2.2.2.2.2.2.1 o_sim.2.2.2.2.2.2.2.2.2.2.2)) A D vwCl 4 0 0 71 [(0, .ref (a0 0)), (1, .int i1), (2, .int i2)] [] (uX8_passes cyI cyJ cyS a0 c_latest c_typed c_tenants c_room c_events c_gone c_sim.1 c_sights c_drawn c_tenant c_event c_sim.2.1 c_sim.2.2.1 c_sim.2.2.2.1 c_sim.2.2.2.2.1 c_sim.2.2.2.2.2.1 c_sim.2.2.2.2.2.2.1 c_sim.2.2.2.2.2.2.2.1 c_sim.2.2.2.2.2.2.2.2.1 c_sim.2.2.2.2.2.2.2.2.2.1 c_sim.2.2.2.2.2.2.2.2.2.2.1 c_sim.2.2.2.2.2.2.2.2.2.2.2)) : ∀ (c_sim : jT11) (i2 : Int32) (i3 : Int32) (t0 : Int32) (t1 : Int32) (t2 : Int32), fX8_passes_118 i1 c_tenants c_room c_events c_gone c_tenant c_event q_71 c_sim i2 i3 t0 t1 t2 = some (o_sim) → jw p l e rmX8_passes s m args below meth c (jQ below args s A D vwCl (tyz cyI cyJ cyS) 0 0 none (uX8_passes cyI cyJ cyS a0 c_latest c_typed c_tenants c_room c_events c_gone o_sim.1 c_sights c_drawn c_tenant c_event o_sim.2.1 o_sim.2.2.1 o_sim.2.2.2.1 o_sim.2.2.2.2.1 o_sim.2.2.2.2.2.1 o_sim.2.2.2.2.2.2.1 o_sim.2.2.2.2.2.2.2.1 o_sim.2.2.2.2.2.2.2.2.1 o_sim.2.2.2.2.2.2.2.2.2.1 o_sim.2.2.2.2.2.2.2.2.2.2.1 o_sim.2.2.2.2.2.2.2.2.2.2.2)) A D vwCl 4 0 0 118 [(0, .ref (a0 0)), (1, .int i1), (2, .int i2), (3, .int i3)] [.int t0, .int t1, .int t2, .ref (a0 12)] (uX8_passes cyI cyJ cyS a0 c_latest c_typed c_tenants c_room c_events c_gone c_sim.1 c_sights c_drawn c_tenant c_event c_sim.2.1 c_sim.2.2.1 c_sim.2.2.2.1 c_sim.2.2.2.2.1 c_sim.2.2.2.2.2.1 c_sim.2.2.2.2.2.2.1 c_sim.2.2.2.2.2.2.2.1 c_sim.2.2.2.2.2.2.2.2.1 c_sim.2.2.2.2.2.2.2.2.2.1 c_sim.2.2.2.2.2.2.2.2.2.2.1 c_sim.2.2.2.2.2.2.2.2.2.2.2) := by
  intro c_sim i2 i3 t0 t1 t2 h
  unfold fX8_passes_118 at h
  refine j_iadd K dX8_passes_118 rfl ?_
  refine j_iast K 7 0 (fun z => (uX8_passes cyI cyJ cyS a0 c_latest c_typed c_tenants c_room c_events c_gone c_sim.1 c_sights c_drawn c_tenant c_event c_sim.2.1 c_sim.2.2.1 c_sim.2.2.2.1 c_sim.2.2.2.2.1 z c_sim.2.2.2.2.2.2.1 c_sim.2.2.2.2.2.2.2.1 c_sim.2.2.2.2.2.2.2.2.1 c_sim.2.2.2.2.2.2.2.2.2.1 c_sim.2.2.2.2.2.2.2.2.2.2.1 c_sim.2.2.2.2.2.2.2.2.2.2.2)) rfl rfl (fun _ => rfl) dX8_passes_119 rfl h (fun c_fell_8 h => ?_)
  refine j_aload_n K 0 rfl dX8_passes_120 rfl ?_
  refine j_getf (C := RX8) (T := TX8) (N := 29) (ci := 8) K icX8 0 18 (List.mem_cons_of_mem _ mw_5_20) rfl rfl rfl (by decide) rfl dX8_passes_121 rfl ?_
  refine j_iload_n K 2 rfl dX8_passes_124 rfl ?_
  refine j_dup2 K rfl rfl dX8_passes_125 rfl ?_
  refine j_iald K 8 0 rfl rfl dX8_passes_126 rfl h (fun v_9 h => ?_)
  refine j_iload_n K 3 rfl dX8_passes_127 rfl ?_
  refine j_if_eq (tgt := 150) K dX8_passes_128 (by decide) rfl h (fun h => ?_) (fun h => ?_)
  · refine j_iconst (v := (0 : Int32)) K (by decide) dX8_passes_150 rfl ?_
    refine j_sub [0, 1, 2, 3] (lv' := [(0, .ref (a0 0)), (1, .int i1), (2, .int i2), (3, .int i3)]) rfl ?_
    exact wX8_passes_151 K a0 c_latest c_typed c_sights c_drawn i1 c_tenants c_room c_events c_gone c_tenant c_event o_sim q_71 hq_71 (c_sim.1, c_sim.2.1, c_sim.2.2.1, c_sim.2.2.2.1, c_sim.2.2.2.2.1, c_fell_8, c_sim.2.2.2.2.2.2.1, c_sim.2.2.2.2.2.2.2.1, c_sim.2.2.2.2.2.2.2.2.1, c_sim.2.2.2.2.2.2.2.2.2.1, c_sim.2.2.2.2.2.2.2.2.2.2.1, c_sim.2.2.2.2.2.2.2.2.2.2.2) i2 i3 (0 : Int32) v_9 i2 h
  · refine j_aload_n K 0 rfl dX8_passes_131 rfl ?_
    refine j_aload_n K 0 rfl dX8_passes_132 rfl ?_
    refine j_getf (C := RX8) (T := TX8) (N := 29) (ci := 8) K icX8 0 13 (List.mem_cons_of_mem _ mw_5_15) rfl rfl rfl (by decide) rfl dX8_passes_133 rfl ?_
    refine j_iload_n K 2 rfl dX8_passes_136 rfl ?_
    refine j_iald K 3 0 rfl rfl dX8_passes_137 rfl h (fun v_21 h => ?_)
    refine j_aload_n K 0 rfl dX8_passes_138 rfl ?_
    refine j_getf (C := RX8) (T := TX8) (N := 29) (ci := 8) K icX8 0 14 (List.mem_cons_of_mem _ mw_5_16) rfl rfl rfl (by decide) rfl dX8_passes_139 rfl ?_
    refine j_iload_n K 2 rfl dX8_passes_142 rfl ?_
    refine j_iald K 4 0 rfl rfl dX8_passes_143 rfl h (fun v_22 h => ?_)
    obtain ⟨r_23, hc, h⟩ := bd1_some h
    refine j_callV (rest := [.int v_9, .int i2, .ref (a0 13)]) (st1 := [.int r_23, .int v_9, .int i2, .ref (a0 13)]) (ws' := (uX8_passes cyI cyJ cyS a0 c_latest c_typed c_tenants c_room c_events c_gone c_sim.1 c_sights c_drawn c_tenant c_event c_sim.2.1 c_sim.2.2.1 c_sim.2.2.2.1 c_sim.2.2.2.2.1 c_fell_8 c_sim.2.2.2.2.2.2.1 c_sim.2.2.2.2.2.2.2.1 c_sim.2.2.2.2.2.2.2.2.1 c_sim.2.2.2.2.2.2.2.2.2.1 c_sim.2.2.2.2.2.2.2.2.2.2.1 c_sim.2.2.2.2.2.2.2.2.2.2.2)) (T := TX8) (N := 29) (ci := 8) K (ctX8_between l D cyI cyJ cyS a0 v_21 v_22 c_latest c_typed c_room c_events c_gone c_sim.1 c_sights c_drawn c_tenants c_sim.2.1 r_23 hc) (gdV mcL mw_19_0 mw_19_1 mw_19_2 mw_1_5 mw_19_3) rfl ⟨rfl, rfl⟩ hyX8_between ⟨Nat.le_of_ble_eq_true rfl, Nat.le_of_ble_eq_true rfl, Nat.le_of_ble_eq_true rfl, Nat.le_of_ble_eq_true rfl⟩ [0, 3] (by decide) rfl [some 0, none, none, some 1, none, none, none, none, none, none, none, none, none, none] (by decide) rfl rfl 0 rfl rfl rfl rfl (Nat.le_of_ble_eq_true rfl) dX8_passes_144 rfl rfl ?_
    refine j_goto (pc' := 151) K dX8_passes_147 (by decide) ?_
    refine j_sub [0, 1, 2, 3] (lv' := [(0, .ref (a0 0)), (1, .int i1), (2, .int i2), (3, .int i3)]) rfl ?_
    exact wX8_passes_151 K a0 c_latest c_typed c_sights c_drawn i1 c_tenants c_room c_events c_gone c_tenant c_event o_sim q_71 hq_71 (c_sim.1, c_sim.2.1, c_sim.2.2.1, c_sim.2.2.2.1, c_sim.2.2.2.2.1, c_fell_8, c_sim.2.2.2.2.2.2.1, c_sim.2.2.2.2.2.2.2.1, c_sim.2.2.2.2.2.2.2.2.1, c_sim.2.2.2.2.2.2.2.2.2.1, c_sim.2.2.2.2.2.2.2.2.2.2.1, c_sim.2.2.2.2.2.2.2.2.2.2.2) i2 i3 r_23 v_9 i2 h
set_option maxRecDepth 100000 in
set_option maxHeartbeats 4000000 in
theorem wX8_passes_101 (K : jK p s m args meth c A D vwCl (tyz cyI cyJ cyS) cX8_passes 4 RX8 wdX8_passes none) (a0 : Nat → Nat) (c_latest : Int32) (c_typed : Int32) (c_sights : Int32) (c_drawn : Int32) (i1 : Int32) (c_tenants : Int32) (c_room : Int32) (c_events : Int32) (c_gone : Int32) (c_tenant : Nat → Int32) (c_event : Nat → Int32) (o_sim : jT11)  (q_71 : jT11 → Int32 → Option (jT11)) (hq_71 : ∀ (c_sim : jT11) (i2 : Int32), q_71 c_sim i2 = some (o_sim) → jw p l e rmX8_passes s m args below meth c (jQ below args s A D vwCl (tyz cyI cyJ cyS) 0 0 none (uX8_passes cyI cyJ cyS a0 c_latest c_typed c_tenants c_room c_events c_gone o_sim.1 c_sights c_drawn c_tenant c_event o_sim.2.1 o_sim.2.2.1 o_sim.2.2.2.1 o_sim.2.2.2.2.1 o_sim.2.2.2.2.2.1 o_sim.2.2.2.2.2.2.1 o_sim.2.2.2.2.2.2.2.1 o_sim.2.2.2.2.2.2.2.2.1 o_sim.2.2.2.2.2.2.2.2.2.1 o_sim.2.2.2.2.2.2.2.2.2.2.1 o_sim.2.2.2.2.2.2.2.2.2.2.2)) A D vwCl 4 0 0 71 [(0, .ref (a0 0)), (1, .int i1), (2, .int i2)] [] (uX8_passes cyI cyJ cyS a0 c_latest c_typed c_tenants c_room c_events c_gone c_sim.1 c_sights c_drawn c_tenant c_event c_sim.2.1 c_sim.2.2.1 c_sim.2.2.2.1 c_sim.2.2.2.2.1 c_sim.2.2.2.2.2.1 c_sim.2.2.2.2.2.2.1 c_sim.2.2.2.2.2.2.2.1 c_sim.2.2.2.2.2.2.2.2.1 c_sim.2.2.2.2.2.2.2.2.2.1 c_sim.2.2.2.2.2.2.2.2.2.2.1 c_sim.2.2.2.2.2.2.2.2.2.2.2)) : ∀ (c_sim : jT11) (i2 : Int32) (t0 : Int32), fX8_passes_101 i1 c_tenants c_room c_events c_gone c_tenant c_event q_71 c_sim i2 t0 = some (o_sim) → jw p l e rmX8_passes s m args below meth c (jQ below args s A D vwCl (tyz cyI cyJ cyS) 0 0 none (uX8_passes cyI cyJ cyS a0 c_latest c_typed c_tenants c_room c_events c_gone o_sim.1 c_sights c_drawn c_tenant c_event o_sim.2.1 o_sim.2.2.1 o_sim.2.2.2.1 o_sim.2.2.2.2.1 o_sim.2.2.2.2.2.1 o_sim.2.2.2.2.2.2.1 o_sim.2.2.2.2.2.2.2.1 o_sim.2.2.2.2.2.2.2.2.1 o_sim.2.2.2.2.2.2.2.2.2.1 o_sim.2.2.2.2.2.2.2.2.2.2.1 o_sim.2.2.2.2.2.2.2.2.2.2.2)) A D vwCl 4 0 0 101 [(0, .ref (a0 0)), (1, .int i1), (2, .int i2)] [.int t0] (uX8_passes cyI cyJ cyS a0 c_latest c_typed c_tenants c_room c_events c_gone c_sim.1 c_sights c_drawn c_tenant c_event c_sim.2.1 c_sim.2.2.1 c_sim.2.2.2.1 c_sim.2.2.2.2.1 c_sim.2.2.2.2.2.1 c_sim.2.2.2.2.2.2.1 c_sim.2.2.2.2.2.2.2.1 c_sim.2.2.2.2.2.2.2.2.1 c_sim.2.2.2.2.2.2.2.2.2.1 c_sim.2.2.2.2.2.2.2.2.2.2.1 c_sim.2.2.2.2.2.2.2.2.2.2.2) := by
  intro c_sim i2 t0 h
  unfold fX8_passes_101 at h
  refine j_istore_n (lv' := [(3, .int t0), (0, .ref (a0 0)), (1, .int i1), (2, .int i2)]) K (by decide) rfl dX8_passes_101 rfl ?_
  refine j_aload_n K 1 rfl dX8_passes_102 rfl ?_
  refine j_getf (C := RX8) (T := TX8) (N := 29) (ci := 8) K icX8 0 17 (List.mem_cons_of_mem _ mw_5_19) rfl rfl rfl (by decide) rfl dX8_passes_103 rfl ?_
  refine j_iload_n K 3 rfl dX8_passes_106 rfl ?_
  refine j_dup2 K rfl rfl dX8_passes_107 rfl ?_
  refine j_iald K 7 0 rfl rfl dX8_passes_108 rfl h (fun v_7 h => ?_)
  refine j_iload_n K 0 rfl dX8_passes_109 rfl ?_
  refine j_if_eq (tgt := 117) K dX8_passes_110 (by decide) rfl h (fun h => ?_) (fun h => ?_)
  · refine j_iconst (v := (0 : Int32)) K (by decide) dX8_passes_117 rfl ?_
    refine j_sub [1, 2, 3, 0] (lv' := [(0, .ref (a0 0)), (1, .int i1), (2, .int i2), (3, .int t0)]) rfl ?_
    exact wX8_passes_118 K a0 c_latest c_typed c_sights c_drawn i1 c_tenants c_room c_events c_gone c_tenant c_event o_sim q_71 hq_71 c_sim i2 t0 (0 : Int32) v_7 i2 h
  · refine j_iconst (v := (1 : Int32)) K (by decide) dX8_passes_113 rfl ?_
    refine j_goto (pc' := 118) K dX8_passes_114 (by decide) ?_
    refine j_sub [1, 2, 3, 0] (lv' := [(0, .ref (a0 0)), (1, .int i1), (2, .int i2), (3, .int t0)]) rfl ?_
    exact wX8_passes_118 K a0 c_latest c_typed c_sights c_drawn i1 c_tenants c_room c_events c_gone c_tenant c_event o_sim q_71 hq_71 c_sim i2 t0 (1 : Int32) v_7 i2 h
set_option maxRecDepth 100000 in
set_option maxHeartbeats 4000000 in
theorem wX8_passes_71 (K : jK p s m args meth c A D vwCl (tyz cyI cyJ cyS) cX8_passes 4 RX8 wdX8_passes none) (a0 : Nat → Nat) (c_latest : Int32) (c_typed : Int32) (c_sights : Int32) (c_drawn : Int32) (i1 : Int32) (c_tenants : Int32) (c_room : Int32) (c_events : Int32) (c_gone : Int32) (c_tenant : Nat → Int32) (c_event : Nat → Int32) (o_sim : jT11)   : ∀ (n : Nat) (c_sim : jT11) (i2 : Int32), fX8_passes_71 i1 c_tenants c_room c_events c_gone c_tenant c_event  n c_sim i2 = some (o_sim) → jw p l e rmX8_passes s m args below meth c (jQ below args s A D vwCl (tyz cyI cyJ cyS) 0 0 none (uX8_passes cyI cyJ cyS a0 c_latest c_typed c_tenants c_room c_events c_gone o_sim.1 c_sights c_drawn c_tenant c_event o_sim.2.1 o_sim.2.2.1 o_sim.2.2.2.1 o_sim.2.2.2.2.1 o_sim.2.2.2.2.2.1 o_sim.2.2.2.2.2.2.1 o_sim.2.2.2.2.2.2.2.1 o_sim.2.2.2.2.2.2.2.2.1 o_sim.2.2.2.2.2.2.2.2.2.1 o_sim.2.2.2.2.2.2.2.2.2.2.1 o_sim.2.2.2.2.2.2.2.2.2.2.2)) A D vwCl 4 0 0 71 [(0, .ref (a0 0)), (1, .int i1), (2, .int i2)] [] (uX8_passes cyI cyJ cyS a0 c_latest c_typed c_tenants c_room c_events c_gone c_sim.1 c_sights c_drawn c_tenant c_event c_sim.2.1 c_sim.2.2.1 c_sim.2.2.2.1 c_sim.2.2.2.2.1 c_sim.2.2.2.2.2.1 c_sim.2.2.2.2.2.2.1 c_sim.2.2.2.2.2.2.2.1 c_sim.2.2.2.2.2.2.2.2.1 c_sim.2.2.2.2.2.2.2.2.2.1 c_sim.2.2.2.2.2.2.2.2.2.2.1 c_sim.2.2.2.2.2.2.2.2.2.2.2) := by
  intro n
  induction n with
  | zero => intro c_sim i2 h; cases h
  | succ n ih =>
    intro c_sim i2 h
    have h : bX8_passes_71 i1 c_tenants c_room c_events c_gone c_tenant c_event  (fX8_passes_71 i1 c_tenants c_room c_events c_gone c_tenant c_event  n) c_sim i2 = some (o_sim) := h
    unfold bX8_passes_71 at h
    refine j_iload_n K 2 rfl dX8_passes_71 rfl ?_
    refine j_aload_n K 0 rfl dX8_passes_72 rfl ?_
    refine j_getf (C := RX8) (T := TX8) (N := 29) (ci := 8) K icX8 0 7 (List.mem_cons_of_mem _ mw_9_6) rfl rfl rfl (by decide) rfl dX8_passes_73 rfl ?_
    refine j_icmp_ge (tgt := 234) K dX8_passes_76 (by decide) rfl h (fun h => ?_) (fun h => ?_)
    · have h := Option.some.inj h
      subst h
      exact j_vret K dX8_passes_234
    · refine j_aload_n K 0 rfl dX8_passes_79 rfl ?_
      refine j_getf (C := RX8) (T := TX8) (N := 29) (ci := 8) K icX8 0 13 (List.mem_cons_of_mem _ mw_5_15) rfl rfl rfl (by decide) rfl dX8_passes_80 rfl ?_
      refine j_iload_n K 2 rfl dX8_passes_83 rfl ?_
      refine j_iald K 3 0 rfl rfl dX8_passes_84 rfl h (fun v_5 h => ?_)
      refine j_aload_n K 0 rfl dX8_passes_85 rfl ?_
      refine j_getf (C := RX8) (T := TX8) (N := 29) (ci := 8) K icX8 0 14 (List.mem_cons_of_mem _ mw_5_16) rfl rfl rfl (by decide) rfl dX8_passes_86 rfl ?_
      refine j_iload_n K 2 rfl dX8_passes_89 rfl ?_
      refine j_iald K 4 0 rfl rfl dX8_passes_90 rfl h (fun v_6 h => ?_)
      refine j_iconst (v := (2 : Int32)) K (by decide) dX8_passes_91 rfl ?_
      refine j_isub K dX8_passes_92 rfl ?_
      refine j_icmp_gt (tgt := 100) K dX8_passes_93 (by decide) rfl h (fun h => ?_) (fun h => ?_)
      · refine j_iconst (v := (0 : Int32)) K (by decide) dX8_passes_100 rfl ?_
        refine j_sub [0, 1, 2] (lv' := [(0, .ref (a0 0)), (1, .int i1), (2, .int i2)]) rfl ?_
        exact wX8_passes_101 K a0 c_latest c_typed c_sights c_drawn i1 c_tenants c_room c_events c_gone c_tenant c_event o_sim (fX8_passes_71 i1 c_tenants c_room c_events c_gone c_tenant c_event n) (fun z0 z1 hq => ih z0 z1 hq) c_sim i2 (0 : Int32) h
      · refine j_iconst (v := (1 : Int32)) K (by decide) dX8_passes_96 rfl ?_
        refine j_goto (pc' := 101) K dX8_passes_97 (by decide) ?_
        refine j_sub [0, 1, 2] (lv' := [(0, .ref (a0 0)), (1, .int i1), (2, .int i2)]) rfl ?_
        exact wX8_passes_101 K a0 c_latest c_typed c_sights c_drawn i1 c_tenants c_room c_events c_gone c_tenant c_event o_sim (fX8_passes_71 i1 c_tenants c_room c_events c_gone c_tenant c_event n) (fun z0 z1 hq => ih z0 z1 hq) c_sim i2 (1 : Int32) h
set_option maxRecDepth 100000 in
set_option maxHeartbeats 4000000 in
theorem wX8_passes_59 (K : jK p s m args meth c A D vwCl (tyz cyI cyJ cyS) cX8_passes 4 RX8 wdX8_passes none) (a0 : Nat → Nat) (c_latest : Int32) (c_typed : Int32) (c_sights : Int32) (c_drawn : Int32) (i1 : Int32) (c_tenants : Int32) (c_room : Int32) (c_events : Int32) (c_gone : Int32) (c_tenant : Nat → Int32) (c_event : Nat → Int32) (o_sim : jT11)  (q_35 : jT11 → Int32 → Option (jT11)) (hq_35 : ∀ (c_sim : jT11) (i2 : Int32), q_35 c_sim i2 = some (o_sim) → jw p l e rmX8_passes s m args below meth c (jQ below args s A D vwCl (tyz cyI cyJ cyS) 0 0 none (uX8_passes cyI cyJ cyS a0 c_latest c_typed c_tenants c_room c_events c_gone o_sim.1 c_sights c_drawn c_tenant c_event o_sim.2.1 o_sim.2.2.1 o_sim.2.2.2.1 o_sim.2.2.2.2.1 o_sim.2.2.2.2.2.1 o_sim.2.2.2.2.2.2.1 o_sim.2.2.2.2.2.2.2.1 o_sim.2.2.2.2.2.2.2.2.1 o_sim.2.2.2.2.2.2.2.2.2.1 o_sim.2.2.2.2.2.2.2.2.2.2.1 o_sim.2.2.2.2.2.2.2.2.2.2.2)) A D vwCl 4 0 0 35 [(0, .ref (a0 0)), (1, .int i1), (2, .int i2)] [] (uX8_passes cyI cyJ cyS a0 c_latest c_typed c_tenants c_room c_events c_gone c_sim.1 c_sights c_drawn c_tenant c_event c_sim.2.1 c_sim.2.2.1 c_sim.2.2.2.1 c_sim.2.2.2.2.1 c_sim.2.2.2.2.2.1 c_sim.2.2.2.2.2.2.1 c_sim.2.2.2.2.2.2.2.1 c_sim.2.2.2.2.2.2.2.2.1 c_sim.2.2.2.2.2.2.2.2.2.1 c_sim.2.2.2.2.2.2.2.2.2.2.1 c_sim.2.2.2.2.2.2.2.2.2.2.2)) : ∀ (c_sim : jT11) (i2 : Int32), fX8_passes_59 i1 c_tenants c_room c_events c_gone c_tenant c_event q_35 c_sim i2 = some (o_sim) → jw p l e rmX8_passes s m args below meth c (jQ below args s A D vwCl (tyz cyI cyJ cyS) 0 0 none (uX8_passes cyI cyJ cyS a0 c_latest c_typed c_tenants c_room c_events c_gone o_sim.1 c_sights c_drawn c_tenant c_event o_sim.2.1 o_sim.2.2.1 o_sim.2.2.2.1 o_sim.2.2.2.2.1 o_sim.2.2.2.2.2.1 o_sim.2.2.2.2.2.2.1 o_sim.2.2.2.2.2.2.2.1 o_sim.2.2.2.2.2.2.2.2.1 o_sim.2.2.2.2.2.2.2.2.2.1 o_sim.2.2.2.2.2.2.2.2.2.2.1 o_sim.2.2.2.2.2.2.2.2.2.2.2)) A D vwCl 4 0 0 59 [(0, .ref (a0 0)), (1, .int i1), (2, .int i2)] [] (uX8_passes cyI cyJ cyS a0 c_latest c_typed c_tenants c_room c_events c_gone c_sim.1 c_sights c_drawn c_tenant c_event c_sim.2.1 c_sim.2.2.1 c_sim.2.2.2.1 c_sim.2.2.2.2.1 c_sim.2.2.2.2.2.1 c_sim.2.2.2.2.2.2.1 c_sim.2.2.2.2.2.2.2.1 c_sim.2.2.2.2.2.2.2.2.1 c_sim.2.2.2.2.2.2.2.2.2.1 c_sim.2.2.2.2.2.2.2.2.2.2.1 c_sim.2.2.2.2.2.2.2.2.2.2.2) := by
  intro c_sim i2 h
  unfold fX8_passes_59 at h
  refine j_iincN (lf := fun z => [(2, .int z), (0, .ref (a0 0)), (1, .int i1)]) K (v := i2 + (1 : Int32)) (k := 2) rfl rfl (by decide) (fun _ => rfl) dX8_passes_59 rfl h (fun i2_25 h => ?_)
  refine j_goto (pc' := 35) K dX8_passes_62 (by decide) ?_
  refine j_sub [1, 2, 0] (lv' := [(0, .ref (a0 0)), (1, .int i1), (2, .int i2_25)]) rfl ?_
  exact hq_35 c_sim i2_25 h
set_option maxRecDepth 100000 in
set_option maxHeartbeats 4000000 in
theorem wX8_passes_35 (K : jK p s m args meth c A D vwCl (tyz cyI cyJ cyS) cX8_passes 4 RX8 wdX8_passes none) (a0 : Nat → Nat) (c_latest : Int32) (c_typed : Int32) (c_sights : Int32) (c_drawn : Int32) (i1 : Int32) (c_tenants : Int32) (c_room : Int32) (c_events : Int32) (c_gone : Int32) (c_tenant : Nat → Int32) (c_event : Nat → Int32) (o_sim : jT11)   : ∀ (n : Nat) (c_sim : jT11) (i2 : Int32), fX8_passes_35 i1 c_tenants c_room c_events c_gone c_tenant c_event  n c_sim i2 = some (o_sim) → jw p l e rmX8_passes s m args below meth c (jQ below args s A D vwCl (tyz cyI cyJ cyS) 0 0 none (uX8_passes cyI cyJ cyS a0 c_latest c_typed c_tenants c_room c_events c_gone o_sim.1 c_sights c_drawn c_tenant c_event o_sim.2.1 o_sim.2.2.1 o_sim.2.2.2.1 o_sim.2.2.2.2.1 o_sim.2.2.2.2.2.1 o_sim.2.2.2.2.2.2.1 o_sim.2.2.2.2.2.2.2.1 o_sim.2.2.2.2.2.2.2.2.1 o_sim.2.2.2.2.2.2.2.2.2.1 o_sim.2.2.2.2.2.2.2.2.2.2.1 o_sim.2.2.2.2.2.2.2.2.2.2.2)) A D vwCl 4 0 0 35 [(0, .ref (a0 0)), (1, .int i1), (2, .int i2)] [] (uX8_passes cyI cyJ cyS a0 c_latest c_typed c_tenants c_room c_events c_gone c_sim.1 c_sights c_drawn c_tenant c_event c_sim.2.1 c_sim.2.2.1 c_sim.2.2.2.1 c_sim.2.2.2.2.1 c_sim.2.2.2.2.2.1 c_sim.2.2.2.2.2.2.1 c_sim.2.2.2.2.2.2.2.1 c_sim.2.2.2.2.2.2.2.2.1 c_sim.2.2.2.2.2.2.2.2.2.1 c_sim.2.2.2.2.2.2.2.2.2.2.1 c_sim.2.2.2.2.2.2.2.2.2.2.2) := by
  intro n
  induction n with
  | zero => intro c_sim i2 h; cases h
  | succ n ih =>
    intro c_sim i2 h
    have h : bX8_passes_35 i1 c_tenants c_room c_events c_gone c_tenant c_event  (fX8_passes_35 i1 c_tenants c_room c_events c_gone c_tenant c_event  n) c_sim i2 = some (o_sim) := h
    unfold bX8_passes_35 at h
    refine j_iload_n K 2 rfl dX8_passes_35 rfl ?_
    refine j_aload_n K 0 rfl dX8_passes_36 rfl ?_
    refine j_getf (C := RX8) (T := TX8) (N := 29) (ci := 8) K icX8 0 7 (List.mem_cons_of_mem _ mw_9_6) rfl rfl rfl (by decide) rfl dX8_passes_37 rfl ?_
    refine j_icmp_ge (tgt := 65) K dX8_passes_40 (by decide) rfl h (fun h => ?_) (fun h => ?_)
    · refine j_aload_n K 0 rfl dX8_passes_65 rfl ?_
      obtain ⟨c_floor_3, c_many_4, hc, h⟩ := bd2_some h
      refine j_callV (rest := []) (st1 := []) (ws' := (uX8_passes cyI cyJ cyS a0 c_latest c_typed c_tenants c_room c_events c_gone c_sim.1 c_sights c_drawn c_tenant c_event c_floor_3 c_sim.2.2.1 c_sim.2.2.2.1 c_sim.2.2.2.2.1 c_sim.2.2.2.2.2.1 c_sim.2.2.2.2.2.2.1 c_sim.2.2.2.2.2.2.2.1 c_many_4 c_sim.2.2.2.2.2.2.2.2.2.1 c_sim.2.2.2.2.2.2.2.2.2.2.1 c_sim.2.2.2.2.2.2.2.2.2.2.2)) (T := TX8) (N := 29) (ci := 8) K (ctX8_gets l D cyI cyJ cyS a0 c_latest c_typed c_events c_gone c_sights c_drawn c_tenants c_room c_sim.1 c_sim.2.2.2.1 c_sim.2.2.2.2.1 c_sim.2.1 c_sim.2.2.2.2.2.2.2.2.1 c_floor_3 c_many_4 hc) (gdV mcL mw_18_16 mw_18_17 mw_18_18 mw_1_5 mw_18_19) rfl ⟨rfl, rfl⟩ hyX8_gets ⟨Nat.le_of_ble_eq_true rfl, Nat.le_of_ble_eq_true rfl, Nat.le_of_ble_eq_true rfl, Nat.le_of_ble_eq_true rfl⟩ [0, 3, 5, 6, 10] (by decide) rfl [some 0, none, none, some 1, none, some 2, some 3, none, none, none, some 4, none, none, none] (by decide) rfl rfl 0 rfl rfl rfl rfl (Nat.le_of_ble_eq_true rfl) dX8_passes_66 rfl rfl ?_
      refine j_iconst (v := (0 : Int32)) K (by decide) dX8_passes_69 rfl ?_
      refine j_istore_n (lv' := [(2, .int (0 : Int32)), (0, .ref (a0 0)), (1, .int i1)]) K (by decide) rfl dX8_passes_70 rfl ?_
      refine j_sub [1, 2, 0] (lv' := [(0, .ref (a0 0)), (1, .int i1), (2, .int (0 : Int32))]) rfl ?_
      exact wX8_passes_71 K a0 c_latest c_typed c_sights c_drawn i1 c_tenants c_room c_events c_gone c_tenant c_event o_sim jF (c_sim.1, c_floor_3, c_sim.2.2.1, c_sim.2.2.2.1, c_sim.2.2.2.2.1, c_sim.2.2.2.2.2.1, c_sim.2.2.2.2.2.2.1, c_sim.2.2.2.2.2.2.2.1, c_many_4, c_sim.2.2.2.2.2.2.2.2.2.1, c_sim.2.2.2.2.2.2.2.2.2.2.1, c_sim.2.2.2.2.2.2.2.2.2.2.2) (0 : Int32) h
    · refine j_aload_n K 0 rfl dX8_passes_43 rfl ?_
      refine j_getf (C := RX8) (T := TX8) (N := 29) (ci := 8) K icX8 0 16 (List.mem_cons_of_mem _ mw_5_18) rfl rfl rfl (by decide) rfl dX8_passes_44 rfl ?_
      refine j_iload_n K 2 rfl dX8_passes_47 rfl ?_
      refine j_iald K 6 0 rfl rfl dX8_passes_48 rfl h (fun v_24 h => ?_)
      refine j_iconst (v := (-1 : Int32)) K (by decide) dX8_passes_49 rfl ?_
      refine j_icmp_ne (tgt := 59) K dX8_passes_50 (by decide) rfl h (fun h => ?_) (fun h => ?_)
      · refine j_sub [0, 1, 2] (lv' := [(0, .ref (a0 0)), (1, .int i1), (2, .int i2)]) rfl ?_
        exact wX8_passes_59 K a0 c_latest c_typed c_sights c_drawn i1 c_tenants c_room c_events c_gone c_tenant c_event o_sim (fX8_passes_35 i1 c_tenants c_room c_events c_gone c_tenant c_event n) (fun z0 z1 hq => ih z0 z1 hq) c_sim i2 h
      · refine j_aload_n K 0 rfl dX8_passes_53 rfl ?_
        refine j_iload_n K 1 rfl dX8_passes_54 rfl ?_
        refine j_iload_n K 2 rfl dX8_passes_55 rfl ?_
        obtain ⟨c_floor_26, c_left_27, c_settled_28, hc, h⟩ := bd3_some h
        refine j_callV (rest := []) (st1 := []) (ws' := (uX8_passes cyI cyJ cyS a0 c_latest c_typed c_tenants c_room c_events c_gone c_sim.1 c_sights c_drawn c_tenant c_event c_floor_26 c_sim.2.2.1 c_left_27 c_settled_28 c_sim.2.2.2.2.2.1 c_sim.2.2.2.2.2.2.1 c_sim.2.2.2.2.2.2.2.1 c_sim.2.2.2.2.2.2.2.2.1 c_sim.2.2.2.2.2.2.2.2.2.1 c_sim.2.2.2.2.2.2.2.2.2.2.1 c_sim.2.2.2.2.2.2.2.2.2.2.2)) (T := TX8) (N := 29) (ci := 8) K (ctX8_pays l D cyI cyJ cyS a0 i1 i2 c_latest c_typed c_tenants c_room c_events c_gone c_sim.1 c_sights c_drawn c_tenant c_sim.2.2.1 c_sim.2.1 c_sim.2.2.2.1 c_sim.2.2.2.2.1 c_floor_26 c_left_27 c_settled_28 hc) (gdV mcL mw_18_9 mw_18_10 mw_18_11 mw_1_5 mw_18_12) rfl ⟨rfl, rfl⟩ hyX8_pays ⟨Nat.le_of_ble_eq_true rfl, Nat.le_of_ble_eq_true rfl, Nat.le_of_ble_eq_true rfl, Nat.le_of_ble_eq_true rfl⟩ [0, 1, 3, 4, 5, 6] (by decide) rfl [some 0, some 1, none, some 2, some 3, some 4, some 5, none, none, none, none, none, none, none] (by decide) rfl rfl 0 rfl rfl rfl rfl (Nat.le_of_ble_eq_true rfl) dX8_passes_56 rfl rfl ?_
        refine j_sub [0, 1, 2] (lv' := [(0, .ref (a0 0)), (1, .int i1), (2, .int i2)]) rfl ?_
        exact wX8_passes_59 K a0 c_latest c_typed c_sights c_drawn i1 c_tenants c_room c_events c_gone c_tenant c_event o_sim (fX8_passes_35 i1 c_tenants c_room c_events c_gone c_tenant c_event n) (fun z0 z1 hq => ih z0 z1 hq) (c_sim.1, c_floor_26, c_sim.2.2.1, c_left_27, c_settled_28, c_sim.2.2.2.2.2.1, c_sim.2.2.2.2.2.2.1, c_sim.2.2.2.2.2.2.2.1, c_sim.2.2.2.2.2.2.2.2.1, c_sim.2.2.2.2.2.2.2.2.2.1, c_sim.2.2.2.2.2.2.2.2.2.2.1, c_sim.2.2.2.2.2.2.2.2.2.2.2) i2 h
set_option maxRecDepth 100000 in
set_option maxHeartbeats 4000000 in
theorem wX8_passes_2 (K : jK p s m args meth c A D vwCl (tyz cyI cyJ cyS) cX8_passes 4 RX8 wdX8_passes none) (a0 : Nat → Nat) (c_latest : Int32) (c_typed : Int32) (c_sights : Int32) (c_drawn : Int32) (i1 : Int32) (c_tenants : Int32) (c_room : Int32) (c_events : Int32) (c_gone : Int32) (c_tenant : Nat → Int32) (c_event : Nat → Int32) (o_sim : jT11)   : ∀ (n : Nat) (c_sim : jT11) (i2 : Int32), fX8_passes_2 i1 c_tenants c_room c_events c_gone c_tenant c_event  n c_sim i2 = some (o_sim) → jw p l e rmX8_passes s m args below meth c (jQ below args s A D vwCl (tyz cyI cyJ cyS) 0 0 none (uX8_passes cyI cyJ cyS a0 c_latest c_typed c_tenants c_room c_events c_gone o_sim.1 c_sights c_drawn c_tenant c_event o_sim.2.1 o_sim.2.2.1 o_sim.2.2.2.1 o_sim.2.2.2.2.1 o_sim.2.2.2.2.2.1 o_sim.2.2.2.2.2.2.1 o_sim.2.2.2.2.2.2.2.1 o_sim.2.2.2.2.2.2.2.2.1 o_sim.2.2.2.2.2.2.2.2.2.1 o_sim.2.2.2.2.2.2.2.2.2.2.1 o_sim.2.2.2.2.2.2.2.2.2.2.2)) A D vwCl 4 0 0 2 [(0, .ref (a0 0)), (1, .int i1), (2, .int i2)] [] (uX8_passes cyI cyJ cyS a0 c_latest c_typed c_tenants c_room c_events c_gone c_sim.1 c_sights c_drawn c_tenant c_event c_sim.2.1 c_sim.2.2.1 c_sim.2.2.2.1 c_sim.2.2.2.2.1 c_sim.2.2.2.2.2.1 c_sim.2.2.2.2.2.2.1 c_sim.2.2.2.2.2.2.2.1 c_sim.2.2.2.2.2.2.2.2.1 c_sim.2.2.2.2.2.2.2.2.2.1 c_sim.2.2.2.2.2.2.2.2.2.2.1 c_sim.2.2.2.2.2.2.2.2.2.2.2) := by
  intro n
  induction n with
  | zero => intro c_sim i2 h; cases h
  | succ n ih =>
    intro c_sim i2 h
    have h : bX8_passes_2 i1 c_tenants c_room c_events c_gone c_tenant c_event  (fX8_passes_2 i1 c_tenants c_room c_events c_gone c_tenant c_event  n) c_sim i2 = some (o_sim) := h
    unfold bX8_passes_2 at h
    refine j_iload_n K 2 rfl dX8_passes_2 rfl ?_
    refine j_aload_n K 0 rfl dX8_passes_3 rfl ?_
    refine j_getf (C := RX8) (T := TX8) (N := 29) (ci := 8) K icX8 0 7 (List.mem_cons_of_mem _ mw_9_6) rfl rfl rfl (by decide) rfl dX8_passes_4 rfl ?_
    refine j_icmp_ge (tgt := 28) K dX8_passes_7 (by decide) rfl h (fun h => ?_) (fun h => ?_)
    · refine j_aload_n K 0 rfl dX8_passes_28 rfl ?_
      refine j_iload_n K 1 rfl dX8_passes_29 rfl ?_
      obtain ⟨c_audit_1, c_left_2, hc, h⟩ := bd2_some h
      refine j_callV (rest := []) (st1 := []) (ws' := (uX8_passes cyI cyJ cyS a0 c_latest c_typed c_tenants c_room c_events c_gone c_audit_1 c_sights c_drawn c_tenant c_event c_sim.2.1 c_sim.2.2.1 c_left_2 c_sim.2.2.2.2.1 c_sim.2.2.2.2.2.1 c_sim.2.2.2.2.2.2.1 c_sim.2.2.2.2.2.2.2.1 c_sim.2.2.2.2.2.2.2.2.1 c_sim.2.2.2.2.2.2.2.2.2.1 c_sim.2.2.2.2.2.2.2.2.2.2.1 c_sim.2.2.2.2.2.2.2.2.2.2.2)) (T := TX8) (N := 29) (ci := 8) K (ctX8_happens l D cyI cyJ cyS a0 i1 c_latest c_typed c_room c_sights c_drawn c_tenants c_events c_gone c_event c_sim.2.2.2.2.1 c_sim.1 c_sim.2.2.2.1 c_audit_1 c_left_2 hc) (gdV mcL mw_18_0 mw_18_1 mw_18_2 mw_1_5 mw_18_3) rfl ⟨rfl, rfl⟩ hyX8_happens ⟨Nat.le_of_ble_eq_true rfl, Nat.le_of_ble_eq_true rfl, Nat.le_of_ble_eq_true rfl, Nat.le_of_ble_eq_true rfl⟩ [0, 2, 5, 6] (by decide) rfl [some 0, none, some 1, none, none, some 2, some 3, none, none, none, none, none, none, none] (by decide) rfl rfl 0 rfl rfl rfl rfl (Nat.le_of_ble_eq_true rfl) dX8_passes_30 rfl rfl ?_
      refine j_iconst (v := (0 : Int32)) K (by decide) dX8_passes_33 rfl ?_
      refine j_istore_n (lv' := [(2, .int (0 : Int32)), (0, .ref (a0 0)), (1, .int i1)]) K (by decide) rfl dX8_passes_34 rfl ?_
      refine j_sub [1, 2, 0] (lv' := [(0, .ref (a0 0)), (1, .int i1), (2, .int (0 : Int32))]) rfl ?_
      exact wX8_passes_35 K a0 c_latest c_typed c_sights c_drawn i1 c_tenants c_room c_events c_gone c_tenant c_event o_sim jF (c_audit_1, c_sim.2.1, c_sim.2.2.1, c_left_2, c_sim.2.2.2.2.1, c_sim.2.2.2.2.2.1, c_sim.2.2.2.2.2.2.1, c_sim.2.2.2.2.2.2.2.1, c_sim.2.2.2.2.2.2.2.2.1, c_sim.2.2.2.2.2.2.2.2.2.1, c_sim.2.2.2.2.2.2.2.2.2.2.1, c_sim.2.2.2.2.2.2.2.2.2.2.2) (0 : Int32) h
    · refine j_aload_n K 0 rfl dX8_passes_10 rfl ?_
      refine j_getf (C := RX8) (T := TX8) (N := 29) (ci := 8) K icX8 0 14 (List.mem_cons_of_mem _ mw_5_16) rfl rfl rfl (by decide) rfl dX8_passes_11 rfl ?_
      refine j_iload_n K 2 rfl dX8_passes_14 rfl ?_
      refine j_aload_n K 0 rfl dX8_passes_15 rfl ?_
      refine j_getf (C := RX8) (T := TX8) (N := 29) (ci := 8) K icX8 0 13 (List.mem_cons_of_mem _ mw_5_15) rfl rfl rfl (by decide) rfl dX8_passes_16 rfl ?_
      refine j_iload_n K 2 rfl dX8_passes_19 rfl ?_
      refine j_iald K 3 0 rfl rfl dX8_passes_20 rfl h (fun v_29 h => ?_)
      refine j_iast K 4 0 (fun z => (uX8_passes cyI cyJ cyS a0 c_latest c_typed c_tenants c_room c_events c_gone c_sim.1 c_sights c_drawn c_tenant c_event c_sim.2.1 z c_sim.2.2.2.1 c_sim.2.2.2.2.1 c_sim.2.2.2.2.2.1 c_sim.2.2.2.2.2.2.1 c_sim.2.2.2.2.2.2.2.1 c_sim.2.2.2.2.2.2.2.2.1 c_sim.2.2.2.2.2.2.2.2.2.1 c_sim.2.2.2.2.2.2.2.2.2.2.1 c_sim.2.2.2.2.2.2.2.2.2.2.2)) rfl rfl (fun _ => rfl) dX8_passes_21 rfl h (fun c_before_30 h => ?_)
      refine j_iincN (lf := fun z => [(2, .int z), (0, .ref (a0 0)), (1, .int i1)]) K (v := i2 + (1 : Int32)) (k := 2) rfl rfl (by decide) (fun _ => rfl) dX8_passes_22 rfl h (fun i2_31 h => ?_)
      refine j_goto (pc' := 2) K dX8_passes_25 (by decide) ?_
      refine j_sub [1, 2, 0] (lv' := [(0, .ref (a0 0)), (1, .int i1), (2, .int i2_31)]) rfl ?_
      exact ih (c_sim.1, c_sim.2.1, c_before_30, c_sim.2.2.2.1, c_sim.2.2.2.2.1, c_sim.2.2.2.2.2.1, c_sim.2.2.2.2.2.2.1, c_sim.2.2.2.2.2.2.2.1, c_sim.2.2.2.2.2.2.2.2.1, c_sim.2.2.2.2.2.2.2.2.2.1, c_sim.2.2.2.2.2.2.2.2.2.2.1, c_sim.2.2.2.2.2.2.2.2.2.2.2) i2_31 h
set_option maxRecDepth 100000 in
set_option maxHeartbeats 4000000 in
theorem ctX8_passes (l : Launch) (D : va_G) (cyI cyJ cyS : ClassId) (a0 : Nat → Nat) (i1 : Int32) (c_latest : Int32) (c_typed : Int32) (c_sights : Int32) (c_drawn : Int32) (c_tenants : Int32) (c_room : Int32) (c_events : Int32) (c_gone : Int32) (c_tenant : Nat → Int32) (c_event : Nat → Int32) (c_sim : jT11) (o_sim : jT11) (h : fX8_passes i1 c_tenants c_room c_events c_gone c_tenant c_event c_sim = some (o_sim)) : jC l yX8_passes wdX8_passes rmX8_passes D vwCl (tyz cyI cyJ cyS) [.ref (a0 0), .int i1] (uX8_passes cyI cyJ cyS a0 c_latest c_typed c_tenants c_room c_events c_gone c_sim.1 c_sights c_drawn c_tenant c_event c_sim.2.1 c_sim.2.2.1 c_sim.2.2.2.1 c_sim.2.2.2.2.1 c_sim.2.2.2.2.2.1 c_sim.2.2.2.2.2.2.1 c_sim.2.2.2.2.2.2.2.1 c_sim.2.2.2.2.2.2.2.2.1 c_sim.2.2.2.2.2.2.2.2.2.1 c_sim.2.2.2.2.2.2.2.2.2.2.1 c_sim.2.2.2.2.2.2.2.2.2.2.2) none (uX8_passes cyI cyJ cyS a0 c_latest c_typed c_tenants c_room c_events c_gone o_sim.1 c_sights c_drawn c_tenant c_event o_sim.2.1 o_sim.2.2.1 o_sim.2.2.2.1 o_sim.2.2.2.2.1 o_sim.2.2.2.2.2.1 o_sim.2.2.2.2.2.2.1 o_sim.2.2.2.2.2.2.2.1 o_sim.2.2.2.2.2.2.2.2.1 o_sim.2.2.2.2.2.2.2.2.2.1 o_sim.2.2.2.2.2.2.2.2.2.2.1 o_sim.2.2.2.2.2.2.2.2.2.2.2) := by
  refine jC_of (cc := cX8_passes) (nL := 4) (ret := none) (own := RX8) (lv := [(0, .ref (a0 0)), (1, .int i1)]) (by decide) rfl rfl (Nat.le_of_ble_eq_true rfl) rfl ?_
  intro p e s m args below meth c A K
  unfold fX8_passes at h
  refine j_iconst (v := (0 : Int32)) K (by decide) dX8_passes_0 rfl ?_
  refine j_istore_n (lv' := [(2, .int (0 : Int32)), (0, .ref (a0 0)), (1, .int i1)]) K (by decide) rfl dX8_passes_1 rfl ?_
  refine j_sub [1, 2, 0] (lv' := [(0, .ref (a0 0)), (1, .int i1), (2, .int (0 : Int32))]) rfl ?_
  exact wX8_passes_2 K a0 c_latest c_typed c_sights c_drawn i1 c_tenants c_room c_events c_gone c_tenant c_event o_sim jF c_sim (0 : Int32) h
end GEN
