theorem rel_0 {h : gH} (h9 : RelH h) : ∃ fs : List Value, hg h 0 = some (.inr (8, fs)) := by
  obtain ⟨th, s, c, O, F2, we, ss, ke, i0, i1, S, lv, pl, mt, nt, zbk, znw, zta, zwe, zsg, zsd, zfo, zre, zma, zba, zbe, zev, zac, zwr, zsl, zwy, zim, zke, e, hR⟩ := h9
  subst e
  exact ⟨_, rfl⟩
theorem hp_52 {h : gH} (h9 : isHp h) : ∃ fs : List Value, hg h 52 = some (.inr (9, fs)) := by
  obtain ⟨nw, i0, i1, pd, lv, pl, mt, nt, m, e⟩ := h9
  subst e
  exact ⟨_, rfl⟩
section LawCalls
variable {E : gE} {y : MethodName} {cc : ByteArray} {nL : Nat} {ret : Option FieldType} {d kc ks mc ms pc : Nat} {L : List (Option Value)} {st : List Value} {h h1 : gH} {p : Program} {e : Env} {s : State} {m : MethodId} {args : Array Value} {below : List Frame} {meth : Method} {c : Code} {Z : State → Prop} {y2 : MethodName} {cc2 : ByteArray} {nL2 : Nat} {ret2 : Option FieldType} {idx n : Nat} {v : Value}
theorem gp_cV {a ci : Nat} {as fs : List Value} {T : u_T} {N : Nat} {st0 : List Value} (X : gX2 E y cc nL ret p s m meth c) (hd : decode cc pc = .ok (.invokevirtual idx, 3)) (hm : gmt y2 cc2 nL2 ret2 n) (hk : glk y.cls idx y2) (hi : Cond.instanceMethod y2 ∈ lw_tbl) (hs : Cond.selects y2.cls y2 y2 ∈ lw_tbl) (hci : vwCl[ci]? = some (y2.cls, T, N)) (hst : st0 = as.reverse ++ .ref a :: st) (hn : as.length = n) (ho : hg h a = some (.inr (ci, fs))) (hR : Ret E y2 cc2 nL2 ret2 d 0 0 (.ref a :: as) h (dt (some v) h1)) (h8 : Nat.ble ((st.map fun v => v.category).sum) 8 = true) (hc1 : Nat.ble (kc + 0) mc = true) (hs1 : Nat.ble (ks + 0) ms = true)
    (kk : GoP E p e s m args below meth c nL Z (d + 1) kc ks mc ms (pc + 3) L (v :: st) h1) : GoP E p e s m args below meth c nL Z (d + 1) kc ks mc ms pc L st0 h :=
  gp_callV X hd hm hk hi hs hci hst hn ho hR h8 hc1 hs1 fun r g q => by obtain ⟨rfl, rfl⟩ := q; exact kk
theorem gp_cQ {a ci : Nat} {as fs : List Value} {T : u_T} {N : Nat} {st0 : List Value} {R9 : gH → Prop} (X : gX2 E y cc nL ret p s m meth c) (hd : decode cc pc = .ok (.invokevirtual idx, 3)) (hm : gmt y2 cc2 nL2 ret2 n) (hk : glk y.cls idx y2) (hi : Cond.instanceMethod y2 ∈ lw_tbl) (hs : Cond.selects y2.cls y2 y2 ∈ lw_tbl) (hci : vwCl[ci]? = some (y2.cls, T, N)) (hst : st0 = as.reverse ++ .ref a :: st) (hn : as.length = n) (ho : hg h a = some (.inr (ci, fs))) (hR : Ret E y2 cc2 nL2 ret2 d 0 0 (.ref a :: as) h (fun r2 h2 => r2 = some v ∧ R9 h2)) (h8 : Nat.ble ((st.map fun v => v.category).sum) 8 = true) (hc1 : Nat.ble (kc + 0) mc = true) (hs1 : Nat.ble (ks + 0) ms = true)
    (kk : ∀ h2 : gH, R9 h2 → GoP E p e s m args below meth c nL Z (d + 1) kc ks mc ms (pc + 3) L (v :: st) h2) : GoP E p e s m args below meth c nL Z (d + 1) kc ks mc ms pc L st0 h :=
  gp_callV X hd hm hk hi hs hci hst hn ho hR h8 hc1 hs1 fun r g q => by obtain ⟨rfl, q2⟩ := q; exact kk g q2
end LawCalls
set_option maxRecDepth 100000 in
set_option maxHeartbeats 4000000 in
theorem lw_c0 {E : gE} {p : Program} {e : Env} {s : State} {m : MethodId} {args : Array Value} {below : List Frame} {meth : Method} {c : Code} {Z : State → Prop} {b N : Nat} {xs : Nat → Int32} (X : gX2 E yL_law cL_law 4 ret p s m meth c) (hX : va_X b N xs s s.heap) (hb : b < E.2.2.2) (h0 : s.heap.size = E.2.2.2) (hN : N ≤ 320) {i : Nat} (hi : i + 5 ≤ N) {h : gH} (hrel : RelH h) (kk : ∀ h2 : gH, RelH h2 → GoP E p e s m args below meth c 4 Z 10 65 1516 600000 7302250 1085 [some (.retAddr b), some (.ref 0), some (.ref 52), some (.int (nI i))] [] h2) : GoP E p e s m args below meth c 4 Z 10 65 1516 600000 7302250 172 [some (.retAddr b), some (.ref 0), some (.ref 52), some (.int (nI i))] [] h := by
  obtain ⟨fs, ho⟩ := rel_0 hrel
  obtain ⟨r, h1, hR8, hh1, hR9⟩ := (op_person : OpI yX8_person cX8_person 4 yX9_person cX9_person 4 [.int (xs (i + 1)), .int (xs (i + 2)), .int (xs (i + 3))]) E h hrel
  obtain ⟨fs9, ho9⟩ := hp_52 hh1
  refine gp_aload_n X dL_law_172 rfl ?_
  refine gp_script X dL_law_173 rfl ?_
  refine gp_iload_n X dL_law_174 rfl ?_
  refine gp_iconst (v := 1) X dL_law_175 (by decide) ?_
  refine gp_iadd X dL_law_176 ?_
  refine gp_topi_eq (nI_add i 1) ?_
  refine gp_sld (k := i + 1) X dL_law_177 hX hb h0 (by omega) hN ?_
  refine gp_script X dL_law_178 rfl ?_
  refine gp_iload_n X dL_law_179 rfl ?_
  refine gp_iconst (v := 2) X dL_law_180 (by decide) ?_
  refine gp_iadd X dL_law_181 ?_
  refine gp_topi_eq (nI_add i 2) ?_
  refine gp_sld (k := i + 2) X dL_law_182 hX hb h0 (by omega) hN ?_
  refine gp_script X dL_law_183 rfl ?_
  refine gp_iload_n X dL_law_184 rfl ?_
  refine gp_iconst (v := 3) X dL_law_185 (by decide) ?_
  refine gp_iadd X dL_law_186 ?_
  refine gp_topi_eq (nI_add i 3) ?_
  refine gp_sld (k := i + 3) X dL_law_187 hX hb h0 (by omega) hN ?_
  refine gp_cV (as := [_, _, _]) X dL_law_188 mX8_person kL_13 iX8_person sX8_person rfl rfl rfl ho hR8 rfl rfl rfl ?_
  refine gp_aload_n X dL_law_191 rfl ?_
  refine gp_script X dL_law_192 rfl ?_
  refine gp_iload_n X dL_law_193 rfl ?_
  refine gp_iconst (v := 1) X dL_law_194 (by decide) ?_
  refine gp_iadd X dL_law_195 ?_
  refine gp_topi_eq (nI_add i 1) ?_
  refine gp_sld (k := i + 1) X dL_law_196 hX hb h0 (by omega) hN ?_
  refine gp_script X dL_law_197 rfl ?_
  refine gp_iload_n X dL_law_198 rfl ?_
  refine gp_iconst (v := 2) X dL_law_199 (by decide) ?_
  refine gp_iadd X dL_law_200 ?_
  refine gp_topi_eq (nI_add i 2) ?_
  refine gp_sld (k := i + 2) X dL_law_201 hX hb h0 (by omega) hN ?_
  refine gp_script X dL_law_202 rfl ?_
  refine gp_iload_n X dL_law_203 rfl ?_
  refine gp_iconst (v := 3) X dL_law_204 (by decide) ?_
  refine gp_iadd X dL_law_205 ?_
  refine gp_topi_eq (nI_add i 3) ?_
  refine gp_sld (k := i + 3) X dL_law_206 hX hb h0 (by omega) hN ?_
  refine gp_cQ (as := [_, _, _]) X dL_law_207 mX9_person kL_17 iX9_person sX9_person rfl rfl rfl ho9 hR9 rfl rfl rfl (fun h2 hr2 => ?_)
  refine gp_icmp_eq (tgt := 1085) X dL_law_210 (by decide) (fun _ => ?_) (fun z9 => absurd rfl z9)
  exact kk h2 hr2
set_option maxRecDepth 100000 in
set_option maxHeartbeats 4000000 in
theorem lw_c1 {E : gE} {p : Program} {e : Env} {s : State} {m : MethodId} {args : Array Value} {below : List Frame} {meth : Method} {c : Code} {Z : State → Prop} {b N : Nat} {xs : Nat → Int32} (X : gX2 E yL_law cL_law 4 ret p s m meth c) (hX : va_X b N xs s s.heap) (hb : b < E.2.2.2) (h0 : s.heap.size = E.2.2.2) (hN : N ≤ 320) {i : Nat} (hi : i + 5 ≤ N) {h : gH} (hrel : RelH h) (kk : ∀ h2 : gH, RelH h2 → GoP E p e s m args below meth c 4 Z 10 65 1516 600000 7302250 1085 [some (.retAddr b), some (.ref 0), some (.ref 52), some (.int (nI i))] [] h2) : GoP E p e s m args below meth c 4 Z 10 65 1516 600000 7302250 215 [some (.retAddr b), some (.ref 0), some (.ref 52), some (.int (nI i))] [] h := by
  obtain ⟨fs, ho⟩ := rel_0 hrel
  obtain ⟨r, h1, hR8, hh1, hR9⟩ := (op_die : OpI yX8_die cX8_die 2 yX9_die cX9_die 3 [.int (xs (i + 1))]) E h hrel
  obtain ⟨fs9, ho9⟩ := hp_52 hh1
  refine gp_aload_n X dL_law_215 rfl ?_
  refine gp_script X dL_law_216 rfl ?_
  refine gp_iload_n X dL_law_217 rfl ?_
  refine gp_iconst (v := 1) X dL_law_218 (by decide) ?_
  refine gp_iadd X dL_law_219 ?_
  refine gp_topi_eq (nI_add i 1) ?_
  refine gp_sld (k := i + 1) X dL_law_220 hX hb h0 (by omega) hN ?_
  refine gp_cV (as := [_]) X dL_law_221 mX8_die kL_18 iX8_die sX8_die rfl rfl rfl ho hR8 rfl rfl rfl ?_
  refine gp_aload_n X dL_law_224 rfl ?_
  refine gp_script X dL_law_225 rfl ?_
  refine gp_iload_n X dL_law_226 rfl ?_
  refine gp_iconst (v := 1) X dL_law_227 (by decide) ?_
  refine gp_iadd X dL_law_228 ?_
  refine gp_topi_eq (nI_add i 1) ?_
  refine gp_sld (k := i + 1) X dL_law_229 hX hb h0 (by omega) hN ?_
  refine gp_cQ (as := [_]) X dL_law_230 mX9_die kL_22 iX9_die sX9_die rfl rfl rfl ho9 hR9 rfl rfl rfl (fun h2 hr2 => ?_)
  refine gp_icmp_eq (tgt := 1085) X dL_law_233 (by decide) (fun _ => ?_) (fun z9 => absurd rfl z9)
  exact kk h2 hr2
set_option maxRecDepth 100000 in
set_option maxHeartbeats 4000000 in
theorem lw_c2 {E : gE} {p : Program} {e : Env} {s : State} {m : MethodId} {args : Array Value} {below : List Frame} {meth : Method} {c : Code} {Z : State → Prop} {b N : Nat} {xs : Nat → Int32} (X : gX2 E yL_law cL_law 4 ret p s m meth c) (hX : va_X b N xs s s.heap) (hb : b < E.2.2.2) (h0 : s.heap.size = E.2.2.2) (hN : N ≤ 320) {i : Nat} (hi : i + 5 ≤ N) {h : gH} (hrel : RelH h) (kk : ∀ h2 : gH, RelH h2 → GoP E p e s m args below meth c 4 Z 10 65 1516 600000 7302250 1085 [some (.retAddr b), some (.ref 0), some (.ref 52), some (.int (nI i))] [] h2) : GoP E p e s m args below meth c 4 Z 10 65 1516 600000 7302250 238 [some (.retAddr b), some (.ref 0), some (.ref 52), some (.int (nI i))] [] h := by
  obtain ⟨fs, ho⟩ := rel_0 hrel
  obtain ⟨r, h1, hR8, hh1, hR9⟩ := (op_weight : OpI yX8_weight cX8_weight 4 yX9_weight cX9_weight 5 [.int (xs (i + 1)), .int (xs (i + 2))]) E h hrel
  obtain ⟨fs9, ho9⟩ := hp_52 hh1
  refine gp_aload_n X dL_law_238 rfl ?_
  refine gp_script X dL_law_239 rfl ?_
  refine gp_iload_n X dL_law_240 rfl ?_
  refine gp_iconst (v := 1) X dL_law_241 (by decide) ?_
  refine gp_iadd X dL_law_242 ?_
  refine gp_topi_eq (nI_add i 1) ?_
  refine gp_sld (k := i + 1) X dL_law_243 hX hb h0 (by omega) hN ?_
  refine gp_script X dL_law_244 rfl ?_
  refine gp_iload_n X dL_law_245 rfl ?_
  refine gp_iconst (v := 2) X dL_law_246 (by decide) ?_
  refine gp_iadd X dL_law_247 ?_
  refine gp_topi_eq (nI_add i 2) ?_
  refine gp_sld (k := i + 2) X dL_law_248 hX hb h0 (by omega) hN ?_
  refine gp_cV (as := [_, _]) X dL_law_249 mX8_weight kL_23 iX8_weight sX8_weight rfl rfl rfl ho hR8 rfl rfl rfl ?_
  refine gp_aload_n X dL_law_252 rfl ?_
  refine gp_script X dL_law_253 rfl ?_
  refine gp_iload_n X dL_law_254 rfl ?_
  refine gp_iconst (v := 1) X dL_law_255 (by decide) ?_
  refine gp_iadd X dL_law_256 ?_
  refine gp_topi_eq (nI_add i 1) ?_
  refine gp_sld (k := i + 1) X dL_law_257 hX hb h0 (by omega) hN ?_
  refine gp_script X dL_law_258 rfl ?_
  refine gp_iload_n X dL_law_259 rfl ?_
  refine gp_iconst (v := 2) X dL_law_260 (by decide) ?_
  refine gp_iadd X dL_law_261 ?_
  refine gp_topi_eq (nI_add i 2) ?_
  refine gp_sld (k := i + 2) X dL_law_262 hX hb h0 (by omega) hN ?_
  refine gp_cQ (as := [_, _]) X dL_law_263 mX9_weight kL_27 iX9_weight sX9_weight rfl rfl rfl ho9 hR9 rfl rfl rfl (fun h2 hr2 => ?_)
  refine gp_icmp_eq (tgt := 1085) X dL_law_266 (by decide) (fun _ => ?_) (fun z9 => absurd rfl z9)
  exact kk h2 hr2
set_option maxRecDepth 100000 in
set_option maxHeartbeats 4000000 in
theorem lw_c3 {E : gE} {p : Program} {e : Env} {s : State} {m : MethodId} {args : Array Value} {below : List Frame} {meth : Method} {c : Code} {Z : State → Prop} {b N : Nat} {xs : Nat → Int32} (X : gX2 E yL_law cL_law 4 ret p s m meth c) (hX : va_X b N xs s s.heap) (hb : b < E.2.2.2) (h0 : s.heap.size = E.2.2.2) (hN : N ≤ 320) {i : Nat} (hi : i + 5 ≤ N) {h : gH} (hrel : RelH h) (kk : ∀ h2 : gH, RelH h2 → GoP E p e s m args below meth c 4 Z 10 65 1516 600000 7302250 1085 [some (.retAddr b), some (.ref 0), some (.ref 52), some (.int (nI i))] [] h2) : GoP E p e s m args below meth c 4 Z 10 65 1516 600000 7302250 271 [some (.retAddr b), some (.ref 0), some (.ref 52), some (.int (nI i))] [] h := by
  obtain ⟨fs, ho⟩ := rel_0 hrel
  obtain ⟨r, h1, hR8, hh1, hR9⟩ := (op_say : OpI yX8_say cX8_say 2 yX9_say cX9_say 2 [.int (xs (i + 1))]) E h hrel
  obtain ⟨fs9, ho9⟩ := hp_52 hh1
  refine gp_aload_n X dL_law_271 rfl ?_
  refine gp_script X dL_law_272 rfl ?_
  refine gp_iload_n X dL_law_273 rfl ?_
  refine gp_iconst (v := 1) X dL_law_274 (by decide) ?_
  refine gp_iadd X dL_law_275 ?_
  refine gp_topi_eq (nI_add i 1) ?_
  refine gp_sld (k := i + 1) X dL_law_276 hX hb h0 (by omega) hN ?_
  refine gp_cV (as := [_]) X dL_law_277 mX8_say kL_28 iX8_say sX8_say rfl rfl rfl ho hR8 rfl rfl rfl ?_
  refine gp_aload_n X dL_law_280 rfl ?_
  refine gp_script X dL_law_281 rfl ?_
  refine gp_iload_n X dL_law_282 rfl ?_
  refine gp_iconst (v := 1) X dL_law_283 (by decide) ?_
  refine gp_iadd X dL_law_284 ?_
  refine gp_topi_eq (nI_add i 1) ?_
  refine gp_sld (k := i + 1) X dL_law_285 hX hb h0 (by omega) hN ?_
  refine gp_cQ (as := [_]) X dL_law_286 mX9_say kL_31 iX9_say sX9_say rfl rfl rfl ho9 hR9 rfl rfl rfl (fun h2 hr2 => ?_)
  refine gp_icmp_eq (tgt := 1085) X dL_law_289 (by decide) (fun _ => ?_) (fun z9 => absurd rfl z9)
  exact kk h2 hr2
set_option maxRecDepth 100000 in
set_option maxHeartbeats 4000000 in
theorem lw_c4 {E : gE} {p : Program} {e : Env} {s : State} {m : MethodId} {args : Array Value} {below : List Frame} {meth : Method} {c : Code} {Z : State → Prop} {b N : Nat} {xs : Nat → Int32} (X : gX2 E yL_law cL_law 4 ret p s m meth c) (hX : va_X b N xs s s.heap) (hb : b < E.2.2.2) (h0 : s.heap.size = E.2.2.2) (hN : N ≤ 320) {i : Nat} (hi : i + 5 ≤ N) {h : gH} (hrel : RelH h) (kk : ∀ h2 : gH, RelH h2 → GoP E p e s m args below meth c 4 Z 10 65 1516 600000 7302250 1085 [some (.retAddr b), some (.ref 0), some (.ref 52), some (.int (nI i))] [] h2) : GoP E p e s m args below meth c 4 Z 10 65 1516 600000 7302250 294 [some (.retAddr b), some (.ref 0), some (.ref 52), some (.int (nI i))] [] h := by
  obtain ⟨fs, ho⟩ := rel_0 hrel
  obtain ⟨r, h1, hR8, hh1, hR9⟩ := (op_wipe : OpI yX8_wipe cX8_wipe 2 yX9_wipe cX9_wipe 2 []) E h hrel
  obtain ⟨fs9, ho9⟩ := hp_52 hh1
  refine gp_aload_n X dL_law_294 rfl ?_
  refine gp_cV (as := []) X dL_law_295 mX8_wipe kL_32 iX8_wipe sX8_wipe rfl rfl rfl ho hR8 rfl rfl rfl ?_
  refine gp_aload_n X dL_law_298 rfl ?_
  refine gp_cQ (as := []) X dL_law_299 mX9_wipe kL_36 iX9_wipe sX9_wipe rfl rfl rfl ho9 hR9 rfl rfl rfl (fun h2 hr2 => ?_)
  refine gp_icmp_eq (tgt := 1085) X dL_law_302 (by decide) (fun _ => ?_) (fun z9 => absurd rfl z9)
  exact kk h2 hr2
set_option maxRecDepth 100000 in
set_option maxHeartbeats 4000000 in
theorem lw_c5 {E : gE} {p : Program} {e : Env} {s : State} {m : MethodId} {args : Array Value} {below : List Frame} {meth : Method} {c : Code} {Z : State → Prop} {b N : Nat} {xs : Nat → Int32} (X : gX2 E yL_law cL_law 4 ret p s m meth c) (hX : va_X b N xs s s.heap) (hb : b < E.2.2.2) (h0 : s.heap.size = E.2.2.2) (hN : N ≤ 320) {i : Nat} (hi : i + 5 ≤ N) {h : gH} (hrel : RelH h) (kk : ∀ h2 : gH, RelH h2 → GoP E p e s m args below meth c 4 Z 10 65 1516 600000 7302250 1085 [some (.retAddr b), some (.ref 0), some (.ref 52), some (.int (nI i))] [] h2) : GoP E p e s m args below meth c 4 Z 10 65 1516 600000 7302250 307 [some (.retAddr b), some (.ref 0), some (.ref 52), some (.int (nI i))] [] h := by
  obtain ⟨fs, ho⟩ := rel_0 hrel
  obtain ⟨r, h1, hR8, hh1, hR9⟩ := (op_fault : OpI yX8_fault cX8_fault 1 yX9_fault cX9_fault 1 []) E h hrel
  obtain ⟨fs9, ho9⟩ := hp_52 hh1
  refine gp_aload_n X dL_law_307 rfl ?_
  refine gp_cV (as := []) X dL_law_308 mX8_fault kL_37 iX8_fault sX8_fault rfl rfl rfl ho hR8 rfl rfl rfl ?_
  refine gp_aload_n X dL_law_311 rfl ?_
  refine gp_cQ (as := []) X dL_law_312 mX9_fault kL_40 iX9_fault sX9_fault rfl rfl rfl ho9 hR9 rfl rfl rfl (fun h2 hr2 => ?_)
  refine gp_icmp_eq (tgt := 1085) X dL_law_315 (by decide) (fun _ => ?_) (fun z9 => absurd rfl z9)
  exact kk h2 hr2
set_option maxRecDepth 100000 in
set_option maxHeartbeats 4000000 in
theorem lw_c6 {E : gE} {p : Program} {e : Env} {s : State} {m : MethodId} {args : Array Value} {below : List Frame} {meth : Method} {c : Code} {Z : State → Prop} {b N : Nat} {xs : Nat → Int32} (X : gX2 E yL_law cL_law 4 ret p s m meth c) (hX : va_X b N xs s s.heap) (hb : b < E.2.2.2) (h0 : s.heap.size = E.2.2.2) (hN : N ≤ 320) {i : Nat} (hi : i + 5 ≤ N) {h : gH} (hrel : RelH h) (kk : ∀ h2 : gH, RelH h2 → GoP E p e s m args below meth c 4 Z 10 65 1516 600000 7302250 1085 [some (.retAddr b), some (.ref 0), some (.ref 52), some (.int (nI i))] [] h2) : GoP E p e s m args below meth c 4 Z 10 65 1516 600000 7302250 320 [some (.retAddr b), some (.ref 0), some (.ref 52), some (.int (nI i))] [] h := by
  obtain ⟨fs, ho⟩ := rel_0 hrel
  obtain ⟨r, h1, hR8, hh1, hR9⟩ := (op_judge : OpI yX8_judge cX8_judge 2 yX9_judge cX9_judge 3 [.int (xs (i + 1))]) E h hrel
  obtain ⟨fs9, ho9⟩ := hp_52 hh1
  refine gp_aload_n X dL_law_320 rfl ?_
  refine gp_script X dL_law_321 rfl ?_
  refine gp_iload_n X dL_law_322 rfl ?_
  refine gp_iconst (v := 1) X dL_law_323 (by decide) ?_
  refine gp_iadd X dL_law_324 ?_
  refine gp_topi_eq (nI_add i 1) ?_
  refine gp_sld (k := i + 1) X dL_law_325 hX hb h0 (by omega) hN ?_
  refine gp_cV (as := [_]) X dL_law_326 mX8_judge kL_41 iX8_judge sX8_judge rfl rfl rfl ho hR8 rfl rfl rfl ?_
  refine gp_aload_n X dL_law_329 rfl ?_
  refine gp_script X dL_law_330 rfl ?_
  refine gp_iload_n X dL_law_331 rfl ?_
  refine gp_iconst (v := 1) X dL_law_332 (by decide) ?_
  refine gp_iadd X dL_law_333 ?_
  refine gp_topi_eq (nI_add i 1) ?_
  refine gp_sld (k := i + 1) X dL_law_334 hX hb h0 (by omega) hN ?_
  refine gp_cQ (as := [_]) X dL_law_335 mX9_judge kL_44 iX9_judge sX9_judge rfl rfl rfl ho9 hR9 rfl rfl rfl (fun h2 hr2 => ?_)
  refine gp_icmp_eq (tgt := 1085) X dL_law_338 (by decide) (fun _ => ?_) (fun z9 => absurd rfl z9)
  exact kk h2 hr2
set_option maxRecDepth 100000 in
set_option maxHeartbeats 4000000 in
theorem lw_c7 {E : gE} {p : Program} {e : Env} {s : State} {m : MethodId} {args : Array Value} {below : List Frame} {meth : Method} {c : Code} {Z : State → Prop} {b N : Nat} {xs : Nat → Int32} (X : gX2 E yL_law cL_law 4 ret p s m meth c) (hX : va_X b N xs s s.heap) (hb : b < E.2.2.2) (h0 : s.heap.size = E.2.2.2) (hN : N ≤ 320) {i : Nat} (hi : i + 5 ≤ N) {h : gH} (hrel : RelH h) (kk : ∀ h2 : gH, RelH h2 → GoP E p e s m args below meth c 4 Z 10 65 1516 600000 7302250 1085 [some (.retAddr b), some (.ref 0), some (.ref 52), some (.int (nI i))] [] h2) : GoP E p e s m args below meth c 4 Z 10 65 1516 600000 7302250 343 [some (.retAddr b), some (.ref 0), some (.ref 52), some (.int (nI i))] [] h := by
  obtain ⟨fs, ho⟩ := rel_0 hrel
  obtain ⟨r, h1, hR8, hh1, hR9⟩ := (op_done : OpI yX8_done cX8_done 1 yX9_done cX9_done 2 []) E h hrel
  obtain ⟨fs9, ho9⟩ := hp_52 hh1
  refine gp_aload_n X dL_law_343 rfl ?_
  refine gp_cV (as := []) X dL_law_344 mX8_done kL_45 iX8_done sX8_done rfl rfl rfl ho hR8 rfl rfl rfl ?_
  refine gp_aload_n X dL_law_347 rfl ?_
  refine gp_cQ (as := []) X dL_law_348 mX9_done kL_48 iX9_done sX9_done rfl rfl rfl ho9 hR9 rfl rfl rfl (fun h2 hr2 => ?_)
  refine gp_icmp_eq (tgt := 1085) X dL_law_351 (by decide) (fun _ => ?_) (fun z9 => absurd rfl z9)
  exact kk h2 hr2
set_option maxRecDepth 100000 in
set_option maxHeartbeats 4000000 in
theorem lw_c8 {E : gE} {p : Program} {e : Env} {s : State} {m : MethodId} {args : Array Value} {below : List Frame} {meth : Method} {c : Code} {Z : State → Prop} {b N : Nat} {xs : Nat → Int32} (X : gX2 E yL_law cL_law 4 ret p s m meth c) (hX : va_X b N xs s s.heap) (hb : b < E.2.2.2) (h0 : s.heap.size = E.2.2.2) (hN : N ≤ 320) {i : Nat} (hi : i + 5 ≤ N) {h : gH} (hrel : RelH h) (kk : ∀ h2 : gH, RelH h2 → GoP E p e s m args below meth c 4 Z 10 65 1516 600000 7302250 1085 [some (.retAddr b), some (.ref 0), some (.ref 52), some (.int (nI i))] [] h2) : GoP E p e s m args below meth c 4 Z 10 65 1516 600000 7302250 356 [some (.retAddr b), some (.ref 0), some (.ref 52), some (.int (nI i))] [] h := by
  obtain ⟨fs, ho⟩ := rel_0 hrel
  obtain ⟨r, h1, hR8, hh1, hR9⟩ := (op_state : OpI yX8_state cX8_state 3 yX9_state cX9_state 3 [.int (xs (i + 1)), .int (xs (i + 2))]) E h hrel
  obtain ⟨fs9, ho9⟩ := hp_52 hh1
  refine gp_aload_n X dL_law_356 rfl ?_
  refine gp_script X dL_law_357 rfl ?_
  refine gp_iload_n X dL_law_358 rfl ?_
  refine gp_iconst (v := 1) X dL_law_359 (by decide) ?_
  refine gp_iadd X dL_law_360 ?_
  refine gp_topi_eq (nI_add i 1) ?_
  refine gp_sld (k := i + 1) X dL_law_361 hX hb h0 (by omega) hN ?_
  refine gp_script X dL_law_362 rfl ?_
  refine gp_iload_n X dL_law_363 rfl ?_
  refine gp_iconst (v := 2) X dL_law_364 (by decide) ?_
  refine gp_iadd X dL_law_365 ?_
  refine gp_topi_eq (nI_add i 2) ?_
  refine gp_sld (k := i + 2) X dL_law_366 hX hb h0 (by omega) hN ?_
  refine gp_cV (as := [_, _]) X dL_law_367 mX8_state kL_49 iX8_state sX8_state rfl rfl rfl ho hR8 rfl rfl rfl ?_
  refine gp_aload_n X dL_law_370 rfl ?_
  refine gp_script X dL_law_371 rfl ?_
  refine gp_iload_n X dL_law_372 rfl ?_
  refine gp_iconst (v := 1) X dL_law_373 (by decide) ?_
  refine gp_iadd X dL_law_374 ?_
  refine gp_topi_eq (nI_add i 1) ?_
  refine gp_sld (k := i + 1) X dL_law_375 hX hb h0 (by omega) hN ?_
  refine gp_script X dL_law_376 rfl ?_
  refine gp_iload_n X dL_law_377 rfl ?_
  refine gp_iconst (v := 2) X dL_law_378 (by decide) ?_
  refine gp_iadd X dL_law_379 ?_
  refine gp_topi_eq (nI_add i 2) ?_
  refine gp_sld (k := i + 2) X dL_law_380 hX hb h0 (by omega) hN ?_
  refine gp_cQ (as := [_, _]) X dL_law_381 mX9_state kL_52 iX9_state sX9_state rfl rfl rfl ho9 hR9 rfl rfl rfl (fun h2 hr2 => ?_)
  refine gp_icmp_eq (tgt := 1085) X dL_law_384 (by decide) (fun _ => ?_) (fun z9 => absurd rfl z9)
  exact kk h2 hr2
set_option maxRecDepth 100000 in
set_option maxHeartbeats 4000000 in
theorem lw_c9 {E : gE} {p : Program} {e : Env} {s : State} {m : MethodId} {args : Array Value} {below : List Frame} {meth : Method} {c : Code} {Z : State → Prop} {b N : Nat} {xs : Nat → Int32} (X : gX2 E yL_law cL_law 4 ret p s m meth c) (hX : va_X b N xs s s.heap) (hb : b < E.2.2.2) (h0 : s.heap.size = E.2.2.2) (hN : N ≤ 320) {i : Nat} (hi : i + 5 ≤ N) {h : gH} (hrel : RelH h) (kk : ∀ h2 : gH, RelH h2 → GoP E p e s m args below meth c 4 Z 10 65 1516 600000 7302250 1085 [some (.retAddr b), some (.ref 0), some (.ref 52), some (.int (nI i))] [] h2) : GoP E p e s m args below meth c 4 Z 10 65 1516 600000 7302250 389 [some (.retAddr b), some (.ref 0), some (.ref 52), some (.int (nI i))] [] h := by
  obtain ⟨fs, ho⟩ := rel_0 hrel
  obtain ⟨r, h1, hR8, hh1, hR9⟩ := (op_behind : OpI yX8_behind cX8_behind 3 yX9_behind cX9_behind 3 [.int (xs (i + 1)), .int (xs (i + 2))]) E h hrel
  obtain ⟨fs9, ho9⟩ := hp_52 hh1
  refine gp_aload_n X dL_law_389 rfl ?_
  refine gp_script X dL_law_390 rfl ?_
  refine gp_iload_n X dL_law_391 rfl ?_
  refine gp_iconst (v := 1) X dL_law_392 (by decide) ?_
  refine gp_iadd X dL_law_393 ?_
  refine gp_topi_eq (nI_add i 1) ?_
  refine gp_sld (k := i + 1) X dL_law_394 hX hb h0 (by omega) hN ?_
  refine gp_script X dL_law_395 rfl ?_
  refine gp_iload_n X dL_law_396 rfl ?_
  refine gp_iconst (v := 2) X dL_law_397 (by decide) ?_
  refine gp_iadd X dL_law_398 ?_
  refine gp_topi_eq (nI_add i 2) ?_
  refine gp_sld (k := i + 2) X dL_law_399 hX hb h0 (by omega) hN ?_
  refine gp_cV (as := [_, _]) X dL_law_400 mX8_behind kL_53 iX8_behind sX8_behind rfl rfl rfl ho hR8 rfl rfl rfl ?_
  refine gp_aload_n X dL_law_403 rfl ?_
  refine gp_script X dL_law_404 rfl ?_
  refine gp_iload_n X dL_law_405 rfl ?_
  refine gp_iconst (v := 1) X dL_law_406 (by decide) ?_
  refine gp_iadd X dL_law_407 ?_
  refine gp_topi_eq (nI_add i 1) ?_
  refine gp_sld (k := i + 1) X dL_law_408 hX hb h0 (by omega) hN ?_
  refine gp_script X dL_law_409 rfl ?_
  refine gp_iload_n X dL_law_410 rfl ?_
  refine gp_iconst (v := 2) X dL_law_411 (by decide) ?_
  refine gp_iadd X dL_law_412 ?_
  refine gp_topi_eq (nI_add i 2) ?_
  refine gp_sld (k := i + 2) X dL_law_413 hX hb h0 (by omega) hN ?_
  refine gp_cQ (as := [_, _]) X dL_law_414 mX9_behind kL_56 iX9_behind sX9_behind rfl rfl rfl ho9 hR9 rfl rfl rfl (fun h2 hr2 => ?_)
  refine gp_icmp_eq (tgt := 1085) X dL_law_417 (by decide) (fun _ => ?_) (fun z9 => absurd rfl z9)
  exact kk h2 hr2
set_option maxRecDepth 100000 in
set_option maxHeartbeats 4000000 in
theorem lw_c10 {E : gE} {p : Program} {e : Env} {s : State} {m : MethodId} {args : Array Value} {below : List Frame} {meth : Method} {c : Code} {Z : State → Prop} {b N : Nat} {xs : Nat → Int32} (X : gX2 E yL_law cL_law 4 ret p s m meth c) (hX : va_X b N xs s s.heap) (hb : b < E.2.2.2) (h0 : s.heap.size = E.2.2.2) (hN : N ≤ 320) {i : Nat} (hi : i + 5 ≤ N) {h : gH} (hrel : RelH h) (kk : ∀ h2 : gH, RelH h2 → GoP E p e s m args below meth c 4 Z 10 65 1516 600000 7302250 1085 [some (.retAddr b), some (.ref 0), some (.ref 52), some (.int (nI i))] [] h2) : GoP E p e s m args below meth c 4 Z 10 65 1516 600000 7302250 422 [some (.retAddr b), some (.ref 0), some (.ref 52), some (.int (nI i))] [] h := by
  obtain ⟨fs, ho⟩ := rel_0 hrel
  obtain ⟨r, h1, hR8, hh1, hR9⟩ := (op_acts : OpI yX8_acts cX8_acts 2 yX9_acts cX9_acts 2 [.int (xs (i + 1))]) E h hrel
  obtain ⟨fs9, ho9⟩ := hp_52 hh1
  refine gp_aload_n X dL_law_422 rfl ?_
  refine gp_script X dL_law_423 rfl ?_
  refine gp_iload_n X dL_law_424 rfl ?_
  refine gp_iconst (v := 1) X dL_law_425 (by decide) ?_
  refine gp_iadd X dL_law_426 ?_
  refine gp_topi_eq (nI_add i 1) ?_
  refine gp_sld (k := i + 1) X dL_law_427 hX hb h0 (by omega) hN ?_
  refine gp_cV (as := [_]) X dL_law_428 mX8_acts kL_57 iX8_acts sX8_acts rfl rfl rfl ho hR8 rfl rfl rfl ?_
  refine gp_aload_n X dL_law_431 rfl ?_
  refine gp_script X dL_law_432 rfl ?_
  refine gp_iload_n X dL_law_433 rfl ?_
  refine gp_iconst (v := 1) X dL_law_434 (by decide) ?_
  refine gp_iadd X dL_law_435 ?_
  refine gp_topi_eq (nI_add i 1) ?_
  refine gp_sld (k := i + 1) X dL_law_436 hX hb h0 (by omega) hN ?_
  refine gp_cQ (as := [_]) X dL_law_437 mX9_acts kL_60 iX9_acts sX9_acts rfl rfl rfl ho9 hR9 rfl rfl rfl (fun h2 hr2 => ?_)
  refine gp_icmp_eq (tgt := 1085) X dL_law_440 (by decide) (fun _ => ?_) (fun z9 => absurd rfl z9)
  exact kk h2 hr2
set_option maxRecDepth 100000 in
set_option maxHeartbeats 4000000 in
theorem lw_c11 {E : gE} {p : Program} {e : Env} {s : State} {m : MethodId} {args : Array Value} {below : List Frame} {meth : Method} {c : Code} {Z : State → Prop} {b N : Nat} {xs : Nat → Int32} (X : gX2 E yL_law cL_law 4 ret p s m meth c) (hX : va_X b N xs s s.heap) (hb : b < E.2.2.2) (h0 : s.heap.size = E.2.2.2) (hN : N ≤ 320) {i : Nat} (hi : i + 5 ≤ N) {h : gH} (hrel : RelH h) (kk : ∀ h2 : gH, RelH h2 → GoP E p e s m args below meth c 4 Z 10 65 1516 600000 7302250 1085 [some (.retAddr b), some (.ref 0), some (.ref 52), some (.int (nI i))] [] h2) : GoP E p e s m args below meth c 4 Z 10 65 1516 600000 7302250 445 [some (.retAddr b), some (.ref 0), some (.ref 52), some (.int (nI i))] [] h := by
  obtain ⟨fs, ho⟩ := rel_0 hrel
  obtain ⟨r, h1, hR8, hh1, hR9⟩ := (op_owes : OpI yX8_owes cX8_owes 3 yX9_owes cX9_owes 3 [.int (xs (i + 1)), .int (xs (i + 2))]) E h hrel
  obtain ⟨fs9, ho9⟩ := hp_52 hh1
  refine gp_aload_n X dL_law_445 rfl ?_
  refine gp_script X dL_law_446 rfl ?_
  refine gp_iload_n X dL_law_447 rfl ?_
  refine gp_iconst (v := 1) X dL_law_448 (by decide) ?_
  refine gp_iadd X dL_law_449 ?_
  refine gp_topi_eq (nI_add i 1) ?_
  refine gp_sld (k := i + 1) X dL_law_450 hX hb h0 (by omega) hN ?_
  refine gp_script X dL_law_451 rfl ?_
  refine gp_iload_n X dL_law_452 rfl ?_
  refine gp_iconst (v := 2) X dL_law_453 (by decide) ?_
  refine gp_iadd X dL_law_454 ?_
  refine gp_topi_eq (nI_add i 2) ?_
  refine gp_sld (k := i + 2) X dL_law_455 hX hb h0 (by omega) hN ?_
  refine gp_cV (as := [_, _]) X dL_law_456 mX8_owes kL_61 iX8_owes sX8_owes rfl rfl rfl ho hR8 rfl rfl rfl ?_
  refine gp_aload_n X dL_law_459 rfl ?_
  refine gp_script X dL_law_460 rfl ?_
  refine gp_iload_n X dL_law_461 rfl ?_
  refine gp_iconst (v := 1) X dL_law_462 (by decide) ?_
  refine gp_iadd X dL_law_463 ?_
  refine gp_topi_eq (nI_add i 1) ?_
  refine gp_sld (k := i + 1) X dL_law_464 hX hb h0 (by omega) hN ?_
  refine gp_script X dL_law_465 rfl ?_
  refine gp_iload_n X dL_law_466 rfl ?_
  refine gp_iconst (v := 2) X dL_law_467 (by decide) ?_
  refine gp_iadd X dL_law_468 ?_
  refine gp_topi_eq (nI_add i 2) ?_
  refine gp_sld (k := i + 2) X dL_law_469 hX hb h0 (by omega) hN ?_
  refine gp_cQ (as := [_, _]) X dL_law_470 mX9_owes kL_64 iX9_owes sX9_owes rfl rfl rfl ho9 hR9 rfl rfl rfl (fun h2 hr2 => ?_)
  refine gp_icmp_eq (tgt := 1085) X dL_law_473 (by decide) (fun _ => ?_) (fun z9 => absurd rfl z9)
  exact kk h2 hr2
set_option maxRecDepth 100000 in
set_option maxHeartbeats 4000000 in
theorem lw_c12 {E : gE} {p : Program} {e : Env} {s : State} {m : MethodId} {args : Array Value} {below : List Frame} {meth : Method} {c : Code} {Z : State → Prop} {b N : Nat} {xs : Nat → Int32} (X : gX2 E yL_law cL_law 4 ret p s m meth c) (hX : va_X b N xs s s.heap) (hb : b < E.2.2.2) (h0 : s.heap.size = E.2.2.2) (hN : N ≤ 320) {i : Nat} (hi : i + 5 ≤ N) {h : gH} (hrel : RelH h) (kk : ∀ h2 : gH, RelH h2 → GoP E p e s m args below meth c 4 Z 10 65 1516 600000 7302250 1085 [some (.retAddr b), some (.ref 0), some (.ref 52), some (.int (nI i))] [] h2) : GoP E p e s m args below meth c 4 Z 10 65 1516 600000 7302250 478 [some (.retAddr b), some (.ref 0), some (.ref 52), some (.int (nI i))] [] h := by
  obtain ⟨fs, ho⟩ := rel_0 hrel
  obtain ⟨r, h1, hR8, hh1, hR9⟩ := (op_who : OpI yX8_who cX8_who 2 yX9_who cX9_who 5 [.int (xs (i + 1))]) E h hrel
  obtain ⟨fs9, ho9⟩ := hp_52 hh1
  refine gp_aload_n X dL_law_478 rfl ?_
  refine gp_script X dL_law_479 rfl ?_
  refine gp_iload_n X dL_law_480 rfl ?_
  refine gp_iconst (v := 1) X dL_law_481 (by decide) ?_
  refine gp_iadd X dL_law_482 ?_
  refine gp_topi_eq (nI_add i 1) ?_
  refine gp_sld (k := i + 1) X dL_law_483 hX hb h0 (by omega) hN ?_
  refine gp_cV (as := [_]) X dL_law_484 mX8_who kL_65 iX8_who sX8_who rfl rfl rfl ho hR8 rfl rfl rfl ?_
  refine gp_aload_n X dL_law_487 rfl ?_
  refine gp_script X dL_law_488 rfl ?_
  refine gp_iload_n X dL_law_489 rfl ?_
  refine gp_iconst (v := 1) X dL_law_490 (by decide) ?_
  refine gp_iadd X dL_law_491 ?_
  refine gp_topi_eq (nI_add i 1) ?_
  refine gp_sld (k := i + 1) X dL_law_492 hX hb h0 (by omega) hN ?_
  refine gp_cQ (as := [_]) X dL_law_493 mX9_who kL_68 iX9_who sX9_who rfl rfl rfl ho9 hR9 rfl rfl rfl (fun h2 hr2 => ?_)
  refine gp_icmp_eq (tgt := 1085) X dL_law_496 (by decide) (fun _ => ?_) (fun z9 => absurd rfl z9)
  exact kk h2 hr2
set_option maxRecDepth 100000 in
set_option maxHeartbeats 4000000 in
theorem lw_c13 {E : gE} {p : Program} {e : Env} {s : State} {m : MethodId} {args : Array Value} {below : List Frame} {meth : Method} {c : Code} {Z : State → Prop} {b N : Nat} {xs : Nat → Int32} (X : gX2 E yL_law cL_law 4 ret p s m meth c) (hX : va_X b N xs s s.heap) (hb : b < E.2.2.2) (h0 : s.heap.size = E.2.2.2) (hN : N ≤ 320) {i : Nat} (hi : i + 5 ≤ N) {h : gH} (hrel : RelH h) (kk : ∀ h2 : gH, RelH h2 → GoP E p e s m args below meth c 4 Z 10 65 1516 600000 7302250 1085 [some (.retAddr b), some (.ref 0), some (.ref 52), some (.int (nI i))] [] h2) : GoP E p e s m args below meth c 4 Z 10 65 1516 600000 7302250 501 [some (.retAddr b), some (.ref 0), some (.ref 52), some (.int (nI i))] [] h := by
  obtain ⟨fs, ho⟩ := rel_0 hrel
  obtain ⟨r, h1, hR8, hh1, hR9⟩ := (op_best : OpL yX8_best cX8_best 4 yX9_best cX9_best 4 [.int (xs (i + 1)), .int (xs (i + 2)), .int (xs (i + 3))]) E h hrel
  obtain ⟨fs9, ho9⟩ := hp_52 hh1
  refine gp_aload_n X dL_law_501 rfl ?_
  refine gp_script X dL_law_502 rfl ?_
  refine gp_iload_n X dL_law_503 rfl ?_
  refine gp_iconst (v := 1) X dL_law_504 (by decide) ?_
  refine gp_iadd X dL_law_505 ?_
  refine gp_topi_eq (nI_add i 1) ?_
  refine gp_sld (k := i + 1) X dL_law_506 hX hb h0 (by omega) hN ?_
  refine gp_script X dL_law_507 rfl ?_
  refine gp_iload_n X dL_law_508 rfl ?_
  refine gp_iconst (v := 2) X dL_law_509 (by decide) ?_
  refine gp_iadd X dL_law_510 ?_
  refine gp_topi_eq (nI_add i 2) ?_
  refine gp_sld (k := i + 2) X dL_law_511 hX hb h0 (by omega) hN ?_
  refine gp_script X dL_law_512 rfl ?_
  refine gp_iload_n X dL_law_513 rfl ?_
  refine gp_iconst (v := 3) X dL_law_514 (by decide) ?_
  refine gp_iadd X dL_law_515 ?_
  refine gp_topi_eq (nI_add i 3) ?_
  refine gp_sld (k := i + 3) X dL_law_516 hX hb h0 (by omega) hN ?_
  refine gp_cV (as := [_, _, _]) X dL_law_517 mX8_best kL_69 iX8_best sX8_best rfl rfl rfl ho hR8 rfl rfl rfl ?_
  refine gp_aload_n X dL_law_520 rfl ?_
  refine gp_script X dL_law_521 rfl ?_
  refine gp_iload_n X dL_law_522 rfl ?_
  refine gp_iconst (v := 1) X dL_law_523 (by decide) ?_
  refine gp_iadd X dL_law_524 ?_
  refine gp_topi_eq (nI_add i 1) ?_
  refine gp_sld (k := i + 1) X dL_law_525 hX hb h0 (by omega) hN ?_
  refine gp_script X dL_law_526 rfl ?_
  refine gp_iload_n X dL_law_527 rfl ?_
  refine gp_iconst (v := 2) X dL_law_528 (by decide) ?_
  refine gp_iadd X dL_law_529 ?_
  refine gp_topi_eq (nI_add i 2) ?_
  refine gp_sld (k := i + 2) X dL_law_530 hX hb h0 (by omega) hN ?_
  refine gp_script X dL_law_531 rfl ?_
  refine gp_iload_n X dL_law_532 rfl ?_
  refine gp_iconst (v := 3) X dL_law_533 (by decide) ?_
  refine gp_iadd X dL_law_534 ?_
  refine gp_topi_eq (nI_add i 3) ?_
  refine gp_sld (k := i + 3) X dL_law_535 hX hb h0 (by omega) hN ?_
  refine gp_cQ (as := [_, _, _]) X dL_law_536 mX9_best kL_73 iX9_best sX9_best rfl rfl rfl ho9 hR9 rfl rfl rfl (fun h2 hr2 => ?_)
  refine gp_lcmp X dL_law_539 ?_
  refine gp_topi_eq (x := 0) (lg_0.mpr rfl) ?_
  refine gp_if_eq (tgt := 1085) X dL_law_540 (by decide) (fun _ => ?_) (fun z9 => absurd rfl z9)
  exact kk h2 hr2
set_option maxRecDepth 100000 in
set_option maxHeartbeats 4000000 in
theorem lw_c14 {E : gE} {p : Program} {e : Env} {s : State} {m : MethodId} {args : Array Value} {below : List Frame} {meth : Method} {c : Code} {Z : State → Prop} {b N : Nat} {xs : Nat → Int32} (X : gX2 E yL_law cL_law 4 ret p s m meth c) (hX : va_X b N xs s s.heap) (hb : b < E.2.2.2) (h0 : s.heap.size = E.2.2.2) (hN : N ≤ 320) {i : Nat} (hi : i + 5 ≤ N) {h : gH} (hrel : RelH h) (kk : ∀ h2 : gH, RelH h2 → GoP E p e s m args below meth c 4 Z 10 65 1516 600000 7302250 1085 [some (.retAddr b), some (.ref 0), some (.ref 52), some (.int (nI i))] [] h2) : GoP E p e s m args below meth c 4 Z 10 65 1516 600000 7302250 545 [some (.retAddr b), some (.ref 0), some (.ref 52), some (.int (nI i))] [] h := by
  obtain ⟨fs, ho⟩ := rel_0 hrel
  obtain ⟨r, h1, hR8, hh1, hR9⟩ := (op_least : OpI yX8_least cX8_least 3 yX9_least cX9_least 3 [.int (xs (i + 1)), .int (xs (i + 2))]) E h hrel
  obtain ⟨fs9, ho9⟩ := hp_52 hh1
  refine gp_aload_n X dL_law_545 rfl ?_
  refine gp_script X dL_law_546 rfl ?_
  refine gp_iload_n X dL_law_547 rfl ?_
  refine gp_iconst (v := 1) X dL_law_548 (by decide) ?_
  refine gp_iadd X dL_law_549 ?_
  refine gp_topi_eq (nI_add i 1) ?_
  refine gp_sld (k := i + 1) X dL_law_550 hX hb h0 (by omega) hN ?_
  refine gp_script X dL_law_551 rfl ?_
  refine gp_iload_n X dL_law_552 rfl ?_
  refine gp_iconst (v := 2) X dL_law_553 (by decide) ?_
  refine gp_iadd X dL_law_554 ?_
  refine gp_topi_eq (nI_add i 2) ?_
  refine gp_sld (k := i + 2) X dL_law_555 hX hb h0 (by omega) hN ?_
  refine gp_cV (as := [_, _]) X dL_law_556 mX8_least kL_74 iX8_least sX8_least rfl rfl rfl ho hR8 rfl rfl rfl ?_
  refine gp_aload_n X dL_law_559 rfl ?_
  refine gp_script X dL_law_560 rfl ?_
  refine gp_iload_n X dL_law_561 rfl ?_
  refine gp_iconst (v := 1) X dL_law_562 (by decide) ?_
  refine gp_iadd X dL_law_563 ?_
  refine gp_topi_eq (nI_add i 1) ?_
  refine gp_sld (k := i + 1) X dL_law_564 hX hb h0 (by omega) hN ?_
  refine gp_script X dL_law_565 rfl ?_
  refine gp_iload_n X dL_law_566 rfl ?_
  refine gp_iconst (v := 2) X dL_law_567 (by decide) ?_
  refine gp_iadd X dL_law_568 ?_
  refine gp_topi_eq (nI_add i 2) ?_
  refine gp_sld (k := i + 2) X dL_law_569 hX hb h0 (by omega) hN ?_
  refine gp_cQ (as := [_, _]) X dL_law_570 mX9_least kL_77 iX9_least sX9_least rfl rfl rfl ho9 hR9 rfl rfl rfl (fun h2 hr2 => ?_)
  refine gp_icmp_eq (tgt := 1085) X dL_law_573 (by decide) (fun _ => ?_) (fun z9 => absurd rfl z9)
  exact kk h2 hr2
set_option maxRecDepth 100000 in
set_option maxHeartbeats 4000000 in
theorem lw_c15 {E : gE} {p : Program} {e : Env} {s : State} {m : MethodId} {args : Array Value} {below : List Frame} {meth : Method} {c : Code} {Z : State → Prop} {b N : Nat} {xs : Nat → Int32} (X : gX2 E yL_law cL_law 4 ret p s m meth c) (hX : va_X b N xs s s.heap) (hb : b < E.2.2.2) (h0 : s.heap.size = E.2.2.2) (hN : N ≤ 320) {i : Nat} (hi : i + 5 ≤ N) {h : gH} (hrel : RelH h) (kk : ∀ h2 : gH, RelH h2 → GoP E p e s m args below meth c 4 Z 10 65 1516 600000 7302250 1085 [some (.retAddr b), some (.ref 0), some (.ref 52), some (.int (nI i))] [] h2) : GoP E p e s m args below meth c 4 Z 10 65 1516 600000 7302250 578 [some (.retAddr b), some (.ref 0), some (.ref 52), some (.int (nI i))] [] h := by
  obtain ⟨fs, ho⟩ := rel_0 hrel
  obtain ⟨r, h1, hR8, hh1, hR9⟩ := (op_price : OpL yX8_price cX8_price 4 yX9_price cX9_price 4 [.int (xs (i + 1)), .int (xs (i + 2)), .int (xs (i + 3))]) E h hrel
  obtain ⟨fs9, ho9⟩ := hp_52 hh1
  refine gp_aload_n X dL_law_578 rfl ?_
  refine gp_script X dL_law_579 rfl ?_
  refine gp_iload_n X dL_law_580 rfl ?_
  refine gp_iconst (v := 1) X dL_law_581 (by decide) ?_
  refine gp_iadd X dL_law_582 ?_
  refine gp_topi_eq (nI_add i 1) ?_
  refine gp_sld (k := i + 1) X dL_law_583 hX hb h0 (by omega) hN ?_
  refine gp_script X dL_law_584 rfl ?_
  refine gp_iload_n X dL_law_585 rfl ?_
  refine gp_iconst (v := 2) X dL_law_586 (by decide) ?_
  refine gp_iadd X dL_law_587 ?_
  refine gp_topi_eq (nI_add i 2) ?_
  refine gp_sld (k := i + 2) X dL_law_588 hX hb h0 (by omega) hN ?_
  refine gp_script X dL_law_589 rfl ?_
  refine gp_iload_n X dL_law_590 rfl ?_
  refine gp_iconst (v := 3) X dL_law_591 (by decide) ?_
  refine gp_iadd X dL_law_592 ?_
  refine gp_topi_eq (nI_add i 3) ?_
  refine gp_sld (k := i + 3) X dL_law_593 hX hb h0 (by omega) hN ?_
  refine gp_cV (as := [_, _, _]) X dL_law_594 mX8_price kL_78 iX8_price sX8_price rfl rfl rfl ho hR8 rfl rfl rfl ?_
  refine gp_aload_n X dL_law_597 rfl ?_
  refine gp_script X dL_law_598 rfl ?_
  refine gp_iload_n X dL_law_599 rfl ?_
  refine gp_iconst (v := 1) X dL_law_600 (by decide) ?_
  refine gp_iadd X dL_law_601 ?_
  refine gp_topi_eq (nI_add i 1) ?_
  refine gp_sld (k := i + 1) X dL_law_602 hX hb h0 (by omega) hN ?_
  refine gp_script X dL_law_603 rfl ?_
  refine gp_iload_n X dL_law_604 rfl ?_
  refine gp_iconst (v := 2) X dL_law_605 (by decide) ?_
  refine gp_iadd X dL_law_606 ?_
  refine gp_topi_eq (nI_add i 2) ?_
  refine gp_sld (k := i + 2) X dL_law_607 hX hb h0 (by omega) hN ?_
  refine gp_script X dL_law_608 rfl ?_
  refine gp_iload_n X dL_law_609 rfl ?_
  refine gp_iconst (v := 3) X dL_law_610 (by decide) ?_
  refine gp_iadd X dL_law_611 ?_
  refine gp_topi_eq (nI_add i 3) ?_
  refine gp_sld (k := i + 3) X dL_law_612 hX hb h0 (by omega) hN ?_
  refine gp_cQ (as := [_, _, _]) X dL_law_613 mX9_price kL_81 iX9_price sX9_price rfl rfl rfl ho9 hR9 rfl rfl rfl (fun h2 hr2 => ?_)
  refine gp_lcmp X dL_law_616 ?_
  refine gp_topi_eq (x := 0) (lg_0.mpr rfl) ?_
  refine gp_if_eq (tgt := 1085) X dL_law_617 (by decide) (fun _ => ?_) (fun z9 => absurd rfl z9)
  exact kk h2 hr2
set_option maxRecDepth 100000 in
set_option maxHeartbeats 4000000 in
theorem lw_c16 {E : gE} {p : Program} {e : Env} {s : State} {m : MethodId} {args : Array Value} {below : List Frame} {meth : Method} {c : Code} {Z : State → Prop} {b N : Nat} {xs : Nat → Int32} (X : gX2 E yL_law cL_law 4 ret p s m meth c) (hX : va_X b N xs s s.heap) (hb : b < E.2.2.2) (h0 : s.heap.size = E.2.2.2) (hN : N ≤ 320) {i : Nat} (hi : i + 5 ≤ N) {h : gH} (hrel : RelH h) (kk : ∀ h2 : gH, RelH h2 → GoP E p e s m args below meth c 4 Z 10 65 1516 600000 7302250 1085 [some (.retAddr b), some (.ref 0), some (.ref 52), some (.int (nI i))] [] h2) : GoP E p e s m args below meth c 4 Z 10 65 1516 600000 7302250 622 [some (.retAddr b), some (.ref 0), some (.ref 52), some (.int (nI i))] [] h := by
  obtain ⟨fs, ho⟩ := rel_0 hrel
  obtain ⟨r, h1, hR8, hh1, hR9⟩ := (op_last : OpL yX8_last cX8_last 5 yX9_last cX9_last 5 [.int (xs (i + 1)), .int (xs (i + 2)), .int (xs (i + 3)), .int (xs (i + 4))]) E h hrel
  obtain ⟨fs9, ho9⟩ := hp_52 hh1
  refine gp_aload_n X dL_law_622 rfl ?_
  refine gp_script X dL_law_623 rfl ?_
  refine gp_iload_n X dL_law_624 rfl ?_
  refine gp_iconst (v := 1) X dL_law_625 (by decide) ?_
  refine gp_iadd X dL_law_626 ?_
  refine gp_topi_eq (nI_add i 1) ?_
  refine gp_sld (k := i + 1) X dL_law_627 hX hb h0 (by omega) hN ?_
  refine gp_script X dL_law_628 rfl ?_
  refine gp_iload_n X dL_law_629 rfl ?_
  refine gp_iconst (v := 2) X dL_law_630 (by decide) ?_
  refine gp_iadd X dL_law_631 ?_
  refine gp_topi_eq (nI_add i 2) ?_
  refine gp_sld (k := i + 2) X dL_law_632 hX hb h0 (by omega) hN ?_
  refine gp_script X dL_law_633 rfl ?_
  refine gp_iload_n X dL_law_634 rfl ?_
  refine gp_iconst (v := 3) X dL_law_635 (by decide) ?_
  refine gp_iadd X dL_law_636 ?_
  refine gp_topi_eq (nI_add i 3) ?_
  refine gp_sld (k := i + 3) X dL_law_637 hX hb h0 (by omega) hN ?_
  refine gp_script X dL_law_638 rfl ?_
  refine gp_iload_n X dL_law_639 rfl ?_
  refine gp_iconst (v := 4) X dL_law_640 (by decide) ?_
  refine gp_iadd X dL_law_641 ?_
  refine gp_topi_eq (nI_add i 4) ?_
  refine gp_sld (k := i + 4) X dL_law_642 hX hb h0 (by omega) hN ?_
  refine gp_cV (as := [_, _, _, _]) X dL_law_643 mX8_last kL_82 iX8_last sX8_last rfl rfl rfl ho hR8 rfl rfl rfl ?_
  refine gp_aload_n X dL_law_646 rfl ?_
  refine gp_script X dL_law_647 rfl ?_
  refine gp_iload_n X dL_law_648 rfl ?_
  refine gp_iconst (v := 1) X dL_law_649 (by decide) ?_
  refine gp_iadd X dL_law_650 ?_
  refine gp_topi_eq (nI_add i 1) ?_
  refine gp_sld (k := i + 1) X dL_law_651 hX hb h0 (by omega) hN ?_
  refine gp_script X dL_law_652 rfl ?_
  refine gp_iload_n X dL_law_653 rfl ?_
  refine gp_iconst (v := 2) X dL_law_654 (by decide) ?_
  refine gp_iadd X dL_law_655 ?_
  refine gp_topi_eq (nI_add i 2) ?_
  refine gp_sld (k := i + 2) X dL_law_656 hX hb h0 (by omega) hN ?_
  refine gp_script X dL_law_657 rfl ?_
  refine gp_iload_n X dL_law_658 rfl ?_
  refine gp_iconst (v := 3) X dL_law_659 (by decide) ?_
  refine gp_iadd X dL_law_660 ?_
  refine gp_topi_eq (nI_add i 3) ?_
  refine gp_sld (k := i + 3) X dL_law_661 hX hb h0 (by omega) hN ?_
  refine gp_script X dL_law_662 rfl ?_
  refine gp_iload_n X dL_law_663 rfl ?_
  refine gp_iconst (v := 4) X dL_law_664 (by decide) ?_
  refine gp_iadd X dL_law_665 ?_
  refine gp_topi_eq (nI_add i 4) ?_
  refine gp_sld (k := i + 4) X dL_law_666 hX hb h0 (by omega) hN ?_
  refine gp_cQ (as := [_, _, _, _]) X dL_law_667 mX9_last kL_86 iX9_last sX9_last rfl rfl rfl ho9 hR9 rfl rfl rfl (fun h2 hr2 => ?_)
  refine gp_lcmp X dL_law_670 ?_
  refine gp_topi_eq (x := 0) (lg_0.mpr rfl) ?_
  refine gp_if_eq (tgt := 1085) X dL_law_671 (by decide) (fun _ => ?_) (fun z9 => absurd rfl z9)
  exact kk h2 hr2
set_option maxRecDepth 100000 in
set_option maxHeartbeats 4000000 in
theorem lw_c17 {E : gE} {p : Program} {e : Env} {s : State} {m : MethodId} {args : Array Value} {below : List Frame} {meth : Method} {c : Code} {Z : State → Prop} {b N : Nat} {xs : Nat → Int32} (X : gX2 E yL_law cL_law 4 ret p s m meth c) (hX : va_X b N xs s s.heap) (hb : b < E.2.2.2) (h0 : s.heap.size = E.2.2.2) (hN : N ≤ 320) {i : Nat} (hi : i + 5 ≤ N) {h : gH} (hrel : RelH h) (kk : ∀ h2 : gH, RelH h2 → GoP E p e s m args below meth c 4 Z 10 65 1516 600000 7302250 1085 [some (.retAddr b), some (.ref 0), some (.ref 52), some (.int (nI i))] [] h2) : GoP E p e s m args below meth c 4 Z 10 65 1516 600000 7302250 676 [some (.retAddr b), some (.ref 0), some (.ref 52), some (.int (nI i))] [] h := by
  obtain ⟨fs, ho⟩ := rel_0 hrel
  obtain ⟨r, h1, hR8, hh1, hR9⟩ := (op_netted : OpI yX8_netted cX8_netted 2 yX9_netted cX9_netted 2 [.int (xs (i + 1))]) E h hrel
  obtain ⟨fs9, ho9⟩ := hp_52 hh1
  refine gp_aload_n X dL_law_676 rfl ?_
  refine gp_script X dL_law_677 rfl ?_
  refine gp_iload_n X dL_law_678 rfl ?_
  refine gp_iconst (v := 1) X dL_law_679 (by decide) ?_
  refine gp_iadd X dL_law_680 ?_
  refine gp_topi_eq (nI_add i 1) ?_
  refine gp_sld (k := i + 1) X dL_law_681 hX hb h0 (by omega) hN ?_
  refine gp_cV (as := [_]) X dL_law_682 mX8_netted kL_87 iX8_netted sX8_netted rfl rfl rfl ho hR8 rfl rfl rfl ?_
  refine gp_aload_n X dL_law_685 rfl ?_
  refine gp_script X dL_law_686 rfl ?_
  refine gp_iload_n X dL_law_687 rfl ?_
  refine gp_iconst (v := 1) X dL_law_688 (by decide) ?_
  refine gp_iadd X dL_law_689 ?_
  refine gp_topi_eq (nI_add i 1) ?_
  refine gp_sld (k := i + 1) X dL_law_690 hX hb h0 (by omega) hN ?_
  refine gp_cQ (as := [_]) X dL_law_691 mX9_netted kL_90 iX9_netted sX9_netted rfl rfl rfl ho9 hR9 rfl rfl rfl (fun h2 hr2 => ?_)
  refine gp_icmp_eq (tgt := 1085) X dL_law_694 (by decide) (fun _ => ?_) (fun z9 => absurd rfl z9)
  exact kk h2 hr2
set_option maxRecDepth 100000 in
set_option maxHeartbeats 4000000 in
theorem lw_c18 {E : gE} {p : Program} {e : Env} {s : State} {m : MethodId} {args : Array Value} {below : List Frame} {meth : Method} {c : Code} {Z : State → Prop} {b N : Nat} {xs : Nat → Int32} (X : gX2 E yL_law cL_law 4 ret p s m meth c) (hX : va_X b N xs s s.heap) (hb : b < E.2.2.2) (h0 : s.heap.size = E.2.2.2) (hN : N ≤ 320) {i : Nat} (hi : i + 5 ≤ N) {h : gH} (hrel : RelH h) (kk : ∀ h2 : gH, RelH h2 → GoP E p e s m args below meth c 4 Z 10 65 1516 600000 7302250 1085 [some (.retAddr b), some (.ref 0), some (.ref 52), some (.int (nI i))] [] h2) : GoP E p e s m args below meth c 4 Z 10 65 1516 600000 7302250 699 [some (.retAddr b), some (.ref 0), some (.ref 52), some (.int (nI i))] [] h := by
  obtain ⟨fs, ho⟩ := rel_0 hrel
  obtain ⟨r, h1, hR8, hh1, hR9⟩ := (op_hands : OpI yX8_hands cX8_hands 1 yX9_hands cX9_hands 6 []) E h hrel
  obtain ⟨fs9, ho9⟩ := hp_52 hh1
  refine gp_aload_n X dL_law_699 rfl ?_
  refine gp_cV (as := []) X dL_law_700 mX8_hands kL_91 iX8_hands sX8_hands rfl rfl rfl ho hR8 rfl rfl rfl ?_
  refine gp_aload_n X dL_law_703 rfl ?_
  refine gp_cQ (as := []) X dL_law_704 mX9_hands kL_94 iX9_hands sX9_hands rfl rfl rfl ho9 hR9 rfl rfl rfl (fun h2 hr2 => ?_)
  refine gp_icmp_eq (tgt := 1085) X dL_law_707 (by decide) (fun _ => ?_) (fun z9 => absurd rfl z9)
  exact kk h2 hr2
set_option maxRecDepth 100000 in
set_option maxHeartbeats 4000000 in
theorem lw_c19 {E : gE} {p : Program} {e : Env} {s : State} {m : MethodId} {args : Array Value} {below : List Frame} {meth : Method} {c : Code} {Z : State → Prop} {b N : Nat} {xs : Nat → Int32} (X : gX2 E yL_law cL_law 4 ret p s m meth c) (hX : va_X b N xs s s.heap) (hb : b < E.2.2.2) (h0 : s.heap.size = E.2.2.2) (hN : N ≤ 320) {i : Nat} (hi : i + 5 ≤ N) {h : gH} (hrel : RelH h) (kk : ∀ h2 : gH, RelH h2 → GoP E p e s m args below meth c 4 Z 10 65 1516 600000 7302250 1085 [some (.retAddr b), some (.ref 0), some (.ref 52), some (.int (nI i))] [] h2) : GoP E p e s m args below meth c 4 Z 10 65 1516 600000 7302250 712 [some (.retAddr b), some (.ref 0), some (.ref 52), some (.int (nI i))] [] h := by
  obtain ⟨fs, ho⟩ := rel_0 hrel
  obtain ⟨r, h1, hR8, hh1, hR9⟩ := (op_match : OpI yX8_match cX8_match 3 yX9_match cX9_match 3 [.int (xs (i + 1)), .int (xs (i + 2))]) E h hrel
  obtain ⟨fs9, ho9⟩ := hp_52 hh1
  refine gp_aload_n X dL_law_712 rfl ?_
  refine gp_script X dL_law_713 rfl ?_
  refine gp_iload_n X dL_law_714 rfl ?_
  refine gp_iconst (v := 1) X dL_law_715 (by decide) ?_
  refine gp_iadd X dL_law_716 ?_
  refine gp_topi_eq (nI_add i 1) ?_
  refine gp_sld (k := i + 1) X dL_law_717 hX hb h0 (by omega) hN ?_
  refine gp_script X dL_law_718 rfl ?_
  refine gp_iload_n X dL_law_719 rfl ?_
  refine gp_iconst (v := 2) X dL_law_720 (by decide) ?_
  refine gp_iadd X dL_law_721 ?_
  refine gp_topi_eq (nI_add i 2) ?_
  refine gp_sld (k := i + 2) X dL_law_722 hX hb h0 (by omega) hN ?_
  refine gp_cV (as := [_, _]) X dL_law_723 mX8_match kL_95 iX8_match sX8_match rfl rfl rfl ho hR8 rfl rfl rfl ?_
  refine gp_aload_n X dL_law_726 rfl ?_
  refine gp_script X dL_law_727 rfl ?_
  refine gp_iload_n X dL_law_728 rfl ?_
  refine gp_iconst (v := 1) X dL_law_729 (by decide) ?_
  refine gp_iadd X dL_law_730 ?_
  refine gp_topi_eq (nI_add i 1) ?_
  refine gp_sld (k := i + 1) X dL_law_731 hX hb h0 (by omega) hN ?_
  refine gp_script X dL_law_732 rfl ?_
  refine gp_iload_n X dL_law_733 rfl ?_
  refine gp_iconst (v := 2) X dL_law_734 (by decide) ?_
  refine gp_iadd X dL_law_735 ?_
  refine gp_topi_eq (nI_add i 2) ?_
  refine gp_sld (k := i + 2) X dL_law_736 hX hb h0 (by omega) hN ?_
  refine gp_cQ (as := [_, _]) X dL_law_737 mX9_match kL_98 iX9_match sX9_match rfl rfl rfl ho9 hR9 rfl rfl rfl (fun h2 hr2 => ?_)
  refine gp_icmp_eq (tgt := 1085) X dL_law_740 (by decide) (fun _ => ?_) (fun z9 => absurd rfl z9)
  exact kk h2 hr2
set_option maxRecDepth 100000 in
set_option maxHeartbeats 4000000 in
theorem lw_c20 {E : gE} {p : Program} {e : Env} {s : State} {m : MethodId} {args : Array Value} {below : List Frame} {meth : Method} {c : Code} {Z : State → Prop} {b N : Nat} {xs : Nat → Int32} (X : gX2 E yL_law cL_law 4 ret p s m meth c) (hX : va_X b N xs s s.heap) (hb : b < E.2.2.2) (h0 : s.heap.size = E.2.2.2) (hN : N ≤ 320) {i : Nat} (hi : i + 5 ≤ N) {h : gH} (hrel : RelH h) (kk : ∀ h2 : gH, RelH h2 → GoP E p e s m args below meth c 4 Z 10 65 1516 600000 7302250 1085 [some (.retAddr b), some (.ref 0), some (.ref 52), some (.int (nI i))] [] h2) : GoP E p e s m args below meth c 4 Z 10 65 1516 600000 7302250 745 [some (.retAddr b), some (.ref 0), some (.ref 52), some (.int (nI i))] [] h := by
  obtain ⟨fs, ho⟩ := rel_0 hrel
  obtain ⟨r, h1, hR8, hh1, hR9⟩ := (op_wrote : OpI yX8_wrote cX8_wrote 3 yX9_wrote cX9_wrote 3 [.int (xs (i + 1)), .int (xs (i + 2))]) E h hrel
  obtain ⟨fs9, ho9⟩ := hp_52 hh1
  refine gp_aload_n X dL_law_745 rfl ?_
  refine gp_script X dL_law_746 rfl ?_
  refine gp_iload_n X dL_law_747 rfl ?_
  refine gp_iconst (v := 1) X dL_law_748 (by decide) ?_
  refine gp_iadd X dL_law_749 ?_
  refine gp_topi_eq (nI_add i 1) ?_
  refine gp_sld (k := i + 1) X dL_law_750 hX hb h0 (by omega) hN ?_
  refine gp_script X dL_law_751 rfl ?_
  refine gp_iload_n X dL_law_752 rfl ?_
  refine gp_iconst (v := 2) X dL_law_753 (by decide) ?_
  refine gp_iadd X dL_law_754 ?_
  refine gp_topi_eq (nI_add i 2) ?_
  refine gp_sld (k := i + 2) X dL_law_755 hX hb h0 (by omega) hN ?_
  refine gp_cV (as := [_, _]) X dL_law_756 mX8_wrote kL_99 iX8_wrote sX8_wrote rfl rfl rfl ho hR8 rfl rfl rfl ?_
  refine gp_aload_n X dL_law_759 rfl ?_
  refine gp_script X dL_law_760 rfl ?_
  refine gp_iload_n X dL_law_761 rfl ?_
  refine gp_iconst (v := 1) X dL_law_762 (by decide) ?_
  refine gp_iadd X dL_law_763 ?_
  refine gp_topi_eq (nI_add i 1) ?_
  refine gp_sld (k := i + 1) X dL_law_764 hX hb h0 (by omega) hN ?_
  refine gp_script X dL_law_765 rfl ?_
  refine gp_iload_n X dL_law_766 rfl ?_
  refine gp_iconst (v := 2) X dL_law_767 (by decide) ?_
  refine gp_iadd X dL_law_768 ?_
  refine gp_topi_eq (nI_add i 2) ?_
  refine gp_sld (k := i + 2) X dL_law_769 hX hb h0 (by omega) hN ?_
  refine gp_cQ (as := [_, _]) X dL_law_770 mX9_wrote kL_102 iX9_wrote sX9_wrote rfl rfl rfl ho9 hR9 rfl rfl rfl (fun h2 hr2 => ?_)
  refine gp_icmp_eq (tgt := 1085) X dL_law_773 (by decide) (fun _ => ?_) (fun z9 => absurd rfl z9)
  exact kk h2 hr2
set_option maxRecDepth 100000 in
set_option maxHeartbeats 4000000 in
theorem lw_c21 {E : gE} {p : Program} {e : Env} {s : State} {m : MethodId} {args : Array Value} {below : List Frame} {meth : Method} {c : Code} {Z : State → Prop} {b N : Nat} {xs : Nat → Int32} (X : gX2 E yL_law cL_law 4 ret p s m meth c) (hX : va_X b N xs s s.heap) (hb : b < E.2.2.2) (h0 : s.heap.size = E.2.2.2) (hN : N ≤ 320) {i : Nat} (hi : i + 5 ≤ N) {h : gH} (hrel : RelH h) (kk : ∀ h2 : gH, RelH h2 → GoP E p e s m args below meth c 4 Z 10 65 1516 600000 7302250 1085 [some (.retAddr b), some (.ref 0), some (.ref 52), some (.int (nI i))] [] h2) : GoP E p e s m args below meth c 4 Z 10 65 1516 600000 7302250 778 [some (.retAddr b), some (.ref 0), some (.ref 52), some (.int (nI i))] [] h := by
  obtain ⟨fs, ho⟩ := rel_0 hrel
  obtain ⟨r, h1, hR8, hh1, hR9⟩ := (op_compare : OpI yX8_compare cX8_compare 4 yX9_compare cX9_compare 4 [.int (xs (i + 1))]) E h hrel
  obtain ⟨fs9, ho9⟩ := hp_52 hh1
  refine gp_aload_n X dL_law_778 rfl ?_
  refine gp_script X dL_law_779 rfl ?_
  refine gp_iload_n X dL_law_780 rfl ?_
  refine gp_iconst (v := 1) X dL_law_781 (by decide) ?_
  refine gp_iadd X dL_law_782 ?_
  refine gp_topi_eq (nI_add i 1) ?_
  refine gp_sld (k := i + 1) X dL_law_783 hX hb h0 (by omega) hN ?_
  refine gp_cV (as := [_]) X dL_law_784 mX8_compare kL_103 iX8_compare sX8_compare rfl rfl rfl ho hR8 rfl rfl rfl ?_
  refine gp_aload_n X dL_law_787 rfl ?_
  refine gp_script X dL_law_788 rfl ?_
  refine gp_iload_n X dL_law_789 rfl ?_
  refine gp_iconst (v := 1) X dL_law_790 (by decide) ?_
  refine gp_iadd X dL_law_791 ?_
  refine gp_topi_eq (nI_add i 1) ?_
  refine gp_sld (k := i + 1) X dL_law_792 hX hb h0 (by omega) hN ?_
  refine gp_cQ (as := [_]) X dL_law_793 mX9_compare kL_106 iX9_compare sX9_compare rfl rfl rfl ho9 hR9 rfl rfl rfl (fun h2 hr2 => ?_)
  refine gp_icmp_eq (tgt := 1085) X dL_law_796 (by decide) (fun _ => ?_) (fun z9 => absurd rfl z9)
  exact kk h2 hr2
set_option maxRecDepth 100000 in
set_option maxHeartbeats 4000000 in
theorem lw_c22 {E : gE} {p : Program} {e : Env} {s : State} {m : MethodId} {args : Array Value} {below : List Frame} {meth : Method} {c : Code} {Z : State → Prop} {b N : Nat} {xs : Nat → Int32} (X : gX2 E yL_law cL_law 4 ret p s m meth c) (hX : va_X b N xs s s.heap) (hb : b < E.2.2.2) (h0 : s.heap.size = E.2.2.2) (hN : N ≤ 320) {i : Nat} (hi : i + 5 ≤ N) {h : gH} (hrel : RelH h) (kk : ∀ h2 : gH, RelH h2 → GoP E p e s m args below meth c 4 Z 10 65 1516 600000 7302250 1085 [some (.retAddr b), some (.ref 0), some (.ref 52), some (.int (nI i))] [] h2) : GoP E p e s m args below meth c 4 Z 10 65 1516 600000 7302250 801 [some (.retAddr b), some (.ref 0), some (.ref 52), some (.int (nI i))] [] h := by
  obtain ⟨fs, ho⟩ := rel_0 hrel
  obtain ⟨r, h1, hR8, hh1, hR9⟩ := (op_blots : OpL yX8_blots cX8_blots 5 yX9_blots cX9_blots 5 [.int (xs (i + 1)), .int (xs (i + 2)), .int (xs (i + 3)), .int (xs (i + 4))]) E h hrel
  obtain ⟨fs9, ho9⟩ := hp_52 hh1
  refine gp_aload_n X dL_law_801 rfl ?_
  refine gp_script X dL_law_802 rfl ?_
  refine gp_iload_n X dL_law_803 rfl ?_
  refine gp_iconst (v := 1) X dL_law_804 (by decide) ?_
  refine gp_iadd X dL_law_805 ?_
  refine gp_topi_eq (nI_add i 1) ?_
  refine gp_sld (k := i + 1) X dL_law_806 hX hb h0 (by omega) hN ?_
  refine gp_script X dL_law_807 rfl ?_
  refine gp_iload_n X dL_law_808 rfl ?_
  refine gp_iconst (v := 2) X dL_law_809 (by decide) ?_
  refine gp_iadd X dL_law_810 ?_
  refine gp_topi_eq (nI_add i 2) ?_
  refine gp_sld (k := i + 2) X dL_law_811 hX hb h0 (by omega) hN ?_
  refine gp_script X dL_law_812 rfl ?_
  refine gp_iload_n X dL_law_813 rfl ?_
  refine gp_iconst (v := 3) X dL_law_814 (by decide) ?_
  refine gp_iadd X dL_law_815 ?_
  refine gp_topi_eq (nI_add i 3) ?_
  refine gp_sld (k := i + 3) X dL_law_816 hX hb h0 (by omega) hN ?_
  refine gp_script X dL_law_817 rfl ?_
  refine gp_iload_n X dL_law_818 rfl ?_
  refine gp_iconst (v := 4) X dL_law_819 (by decide) ?_
  refine gp_iadd X dL_law_820 ?_
  refine gp_topi_eq (nI_add i 4) ?_
  refine gp_sld (k := i + 4) X dL_law_821 hX hb h0 (by omega) hN ?_
  refine gp_cV (as := [_, _, _, _]) X dL_law_822 mX8_blots kL_107 iX8_blots sX8_blots rfl rfl rfl ho hR8 rfl rfl rfl ?_
  refine gp_aload_n X dL_law_825 rfl ?_
  refine gp_script X dL_law_826 rfl ?_
  refine gp_iload_n X dL_law_827 rfl ?_
  refine gp_iconst (v := 1) X dL_law_828 (by decide) ?_
  refine gp_iadd X dL_law_829 ?_
  refine gp_topi_eq (nI_add i 1) ?_
  refine gp_sld (k := i + 1) X dL_law_830 hX hb h0 (by omega) hN ?_
  refine gp_script X dL_law_831 rfl ?_
  refine gp_iload_n X dL_law_832 rfl ?_
  refine gp_iconst (v := 2) X dL_law_833 (by decide) ?_
  refine gp_iadd X dL_law_834 ?_
  refine gp_topi_eq (nI_add i 2) ?_
  refine gp_sld (k := i + 2) X dL_law_835 hX hb h0 (by omega) hN ?_
  refine gp_script X dL_law_836 rfl ?_
  refine gp_iload_n X dL_law_837 rfl ?_
  refine gp_iconst (v := 3) X dL_law_838 (by decide) ?_
  refine gp_iadd X dL_law_839 ?_
  refine gp_topi_eq (nI_add i 3) ?_
  refine gp_sld (k := i + 3) X dL_law_840 hX hb h0 (by omega) hN ?_
  refine gp_script X dL_law_841 rfl ?_
  refine gp_iload_n X dL_law_842 rfl ?_
  refine gp_iconst (v := 4) X dL_law_843 (by decide) ?_
  refine gp_iadd X dL_law_844 ?_
  refine gp_topi_eq (nI_add i 4) ?_
  refine gp_sld (k := i + 4) X dL_law_845 hX hb h0 (by omega) hN ?_
  refine gp_cQ (as := [_, _, _, _]) X dL_law_846 mX9_blots kL_110 iX9_blots sX9_blots rfl rfl rfl ho9 hR9 rfl rfl rfl (fun h2 hr2 => ?_)
  refine gp_lcmp X dL_law_849 ?_
  refine gp_topi_eq (x := 0) (lg_0.mpr rfl) ?_
  refine gp_if_eq (tgt := 1085) X dL_law_850 (by decide) (fun _ => ?_) (fun z9 => absurd rfl z9)
  exact kk h2 hr2
set_option maxRecDepth 100000 in
set_option maxHeartbeats 4000000 in
theorem lw_c23 {E : gE} {p : Program} {e : Env} {s : State} {m : MethodId} {args : Array Value} {below : List Frame} {meth : Method} {c : Code} {Z : State → Prop} {b N : Nat} {xs : Nat → Int32} (X : gX2 E yL_law cL_law 4 ret p s m meth c) (hX : va_X b N xs s s.heap) (hb : b < E.2.2.2) (h0 : s.heap.size = E.2.2.2) (hN : N ≤ 320) {i : Nat} (hi : i + 5 ≤ N) {h : gH} (hrel : RelH h) (kk : ∀ h2 : gH, RelH h2 → GoP E p e s m args below meth c 4 Z 10 65 1516 600000 7302250 1085 [some (.retAddr b), some (.ref 0), some (.ref 52), some (.int (nI i))] [] h2) : GoP E p e s m args below meth c 4 Z 10 65 1516 600000 7302250 855 [some (.retAddr b), some (.ref 0), some (.ref 52), some (.int (nI i))] [] h := by
  obtain ⟨fs, ho⟩ := rel_0 hrel
  by_cases hz : xs (i + 4) = 0
  · obtain ⟨r, h1, hR8, hh1, hR9⟩ := (op_seen : OpI yX8_seen cX8_seen 5 yX9_seen cX9_seen 5 [.int (xs (i + 1)), .int (xs (i + 2)), .int (xs (i + 3)), .int (b2i false)]) E h hrel
    obtain ⟨fs9, ho9⟩ := hp_52 hh1
    refine gp_aload_n X dL_law_855 rfl ?_
    refine gp_script X dL_law_856 rfl ?_
    refine gp_iload_n X dL_law_857 rfl ?_
    refine gp_iconst (v := 1) X dL_law_858 (by decide) ?_
    refine gp_iadd X dL_law_859 ?_
    refine gp_topi_eq (nI_add i 1) ?_
    refine gp_sld (k := i + 1) X dL_law_860 hX hb h0 (by omega) hN ?_
    refine gp_script X dL_law_861 rfl ?_
    refine gp_iload_n X dL_law_862 rfl ?_
    refine gp_iconst (v := 2) X dL_law_863 (by decide) ?_
    refine gp_iadd X dL_law_864 ?_
    refine gp_topi_eq (nI_add i 2) ?_
    refine gp_sld (k := i + 2) X dL_law_865 hX hb h0 (by omega) hN ?_
    refine gp_script X dL_law_866 rfl ?_
    refine gp_iload_n X dL_law_867 rfl ?_
    refine gp_iconst (v := 3) X dL_law_868 (by decide) ?_
    refine gp_iadd X dL_law_869 ?_
    refine gp_topi_eq (nI_add i 3) ?_
    refine gp_sld (k := i + 3) X dL_law_870 hX hb h0 (by omega) hN ?_
    refine gp_script X dL_law_871 rfl ?_
    refine gp_iload_n X dL_law_872 rfl ?_
    refine gp_iconst (v := 4) X dL_law_873 (by decide) ?_
    refine gp_iadd X dL_law_874 ?_
    refine gp_topi_eq (nI_add i 4) ?_
    refine gp_sld (k := i + 4) X dL_law_875 hX hb h0 (by omega) hN ?_
    refine gp_if_eq (tgt := 883) X dL_law_876 (by decide) (fun _ => ?_) (fun z9 => absurd hz z9)
    refine gp_iconst (v := 0) X dL_law_883 (by decide) ?_
    refine gp_cV (as := [_, _, _, _]) X dL_law_884 mX8_seen kL_111 iX8_seen sX8_seen rfl rfl rfl ho hR8 rfl rfl rfl ?_
    refine gp_aload_n X dL_law_887 rfl ?_
    refine gp_script X dL_law_888 rfl ?_
    refine gp_iload_n X dL_law_889 rfl ?_
    refine gp_iconst (v := 1) X dL_law_890 (by decide) ?_
    refine gp_iadd X dL_law_891 ?_
    refine gp_topi_eq (nI_add i 1) ?_
    refine gp_sld (k := i + 1) X dL_law_892 hX hb h0 (by omega) hN ?_
    refine gp_script X dL_law_893 rfl ?_
    refine gp_iload_n X dL_law_894 rfl ?_
    refine gp_iconst (v := 2) X dL_law_895 (by decide) ?_
    refine gp_iadd X dL_law_896 ?_
    refine gp_topi_eq (nI_add i 2) ?_
    refine gp_sld (k := i + 2) X dL_law_897 hX hb h0 (by omega) hN ?_
    refine gp_script X dL_law_898 rfl ?_
    refine gp_iload_n X dL_law_899 rfl ?_
    refine gp_iconst (v := 3) X dL_law_900 (by decide) ?_
    refine gp_iadd X dL_law_901 ?_
    refine gp_topi_eq (nI_add i 3) ?_
    refine gp_sld (k := i + 3) X dL_law_902 hX hb h0 (by omega) hN ?_
    refine gp_script X dL_law_903 rfl ?_
    refine gp_iload_n X dL_law_904 rfl ?_
    refine gp_iconst (v := 4) X dL_law_905 (by decide) ?_
    refine gp_iadd X dL_law_906 ?_
    refine gp_topi_eq (nI_add i 4) ?_
    refine gp_sld (k := i + 4) X dL_law_907 hX hb h0 (by omega) hN ?_
    refine gp_if_eq (tgt := 915) X dL_law_908 (by decide) (fun _ => ?_) (fun z9 => absurd hz z9)
    refine gp_iconst (v := 0) X dL_law_915 (by decide) ?_
    refine gp_cQ (as := [_, _, _, _]) X dL_law_916 mX9_seen kL_115 iX9_seen sX9_seen rfl rfl rfl ho9 hR9 rfl rfl rfl (fun h2 hr2 => ?_)
    refine gp_icmp_eq (tgt := 1085) X dL_law_919 (by decide) (fun _ => ?_) (fun z9 => absurd rfl z9)
    exact kk h2 hr2
  · obtain ⟨r, h1, hR8, hh1, hR9⟩ := (op_seen : OpI yX8_seen cX8_seen 5 yX9_seen cX9_seen 5 [.int (xs (i + 1)), .int (xs (i + 2)), .int (xs (i + 3)), .int (b2i true)]) E h hrel
    obtain ⟨fs9, ho9⟩ := hp_52 hh1
    refine gp_aload_n X dL_law_855 rfl ?_
    refine gp_script X dL_law_856 rfl ?_
    refine gp_iload_n X dL_law_857 rfl ?_
    refine gp_iconst (v := 1) X dL_law_858 (by decide) ?_
    refine gp_iadd X dL_law_859 ?_
    refine gp_topi_eq (nI_add i 1) ?_
    refine gp_sld (k := i + 1) X dL_law_860 hX hb h0 (by omega) hN ?_
    refine gp_script X dL_law_861 rfl ?_
    refine gp_iload_n X dL_law_862 rfl ?_
    refine gp_iconst (v := 2) X dL_law_863 (by decide) ?_
    refine gp_iadd X dL_law_864 ?_
    refine gp_topi_eq (nI_add i 2) ?_
    refine gp_sld (k := i + 2) X dL_law_865 hX hb h0 (by omega) hN ?_
    refine gp_script X dL_law_866 rfl ?_
    refine gp_iload_n X dL_law_867 rfl ?_
    refine gp_iconst (v := 3) X dL_law_868 (by decide) ?_
    refine gp_iadd X dL_law_869 ?_
    refine gp_topi_eq (nI_add i 3) ?_
    refine gp_sld (k := i + 3) X dL_law_870 hX hb h0 (by omega) hN ?_
    refine gp_script X dL_law_871 rfl ?_
    refine gp_iload_n X dL_law_872 rfl ?_
    refine gp_iconst (v := 4) X dL_law_873 (by decide) ?_
    refine gp_iadd X dL_law_874 ?_
    refine gp_topi_eq (nI_add i 4) ?_
    refine gp_sld (k := i + 4) X dL_law_875 hX hb h0 (by omega) hN ?_
    refine gp_if_eq (tgt := 883) X dL_law_876 (by decide) (fun z9 => absurd z9 hz) (fun _ => ?_)
    refine gp_iconst (v := 1) X dL_law_879 (by decide) ?_
    refine gp_goto (tgt := 884) X dL_law_880 (by decide) ?_
    refine gp_cV (as := [_, _, _, _]) X dL_law_884 mX8_seen kL_111 iX8_seen sX8_seen rfl rfl rfl ho hR8 rfl rfl rfl ?_
    refine gp_aload_n X dL_law_887 rfl ?_
    refine gp_script X dL_law_888 rfl ?_
    refine gp_iload_n X dL_law_889 rfl ?_
    refine gp_iconst (v := 1) X dL_law_890 (by decide) ?_
    refine gp_iadd X dL_law_891 ?_
    refine gp_topi_eq (nI_add i 1) ?_
    refine gp_sld (k := i + 1) X dL_law_892 hX hb h0 (by omega) hN ?_
    refine gp_script X dL_law_893 rfl ?_
    refine gp_iload_n X dL_law_894 rfl ?_
    refine gp_iconst (v := 2) X dL_law_895 (by decide) ?_
    refine gp_iadd X dL_law_896 ?_
    refine gp_topi_eq (nI_add i 2) ?_
    refine gp_sld (k := i + 2) X dL_law_897 hX hb h0 (by omega) hN ?_
    refine gp_script X dL_law_898 rfl ?_
    refine gp_iload_n X dL_law_899 rfl ?_
    refine gp_iconst (v := 3) X dL_law_900 (by decide) ?_
    refine gp_iadd X dL_law_901 ?_
    refine gp_topi_eq (nI_add i 3) ?_
    refine gp_sld (k := i + 3) X dL_law_902 hX hb h0 (by omega) hN ?_
    refine gp_script X dL_law_903 rfl ?_
    refine gp_iload_n X dL_law_904 rfl ?_
    refine gp_iconst (v := 4) X dL_law_905 (by decide) ?_
    refine gp_iadd X dL_law_906 ?_
    refine gp_topi_eq (nI_add i 4) ?_
    refine gp_sld (k := i + 4) X dL_law_907 hX hb h0 (by omega) hN ?_
    refine gp_if_eq (tgt := 915) X dL_law_908 (by decide) (fun z9 => absurd z9 hz) (fun _ => ?_)
    refine gp_iconst (v := 1) X dL_law_911 (by decide) ?_
    refine gp_goto (tgt := 916) X dL_law_912 (by decide) ?_
    refine gp_cQ (as := [_, _, _, _]) X dL_law_916 mX9_seen kL_115 iX9_seen sX9_seen rfl rfl rfl ho9 hR9 rfl rfl rfl (fun h2 hr2 => ?_)
    refine gp_icmp_eq (tgt := 1085) X dL_law_919 (by decide) (fun _ => ?_) (fun z9 => absurd rfl z9)
    exact kk h2 hr2
set_option maxRecDepth 100000 in
set_option maxHeartbeats 4000000 in
theorem lw_c24 {E : gE} {p : Program} {e : Env} {s : State} {m : MethodId} {args : Array Value} {below : List Frame} {meth : Method} {c : Code} {Z : State → Prop} {b N : Nat} {xs : Nat → Int32} (X : gX2 E yL_law cL_law 4 ret p s m meth c) (hX : va_X b N xs s s.heap) (hb : b < E.2.2.2) (h0 : s.heap.size = E.2.2.2) (hN : N ≤ 320) {i : Nat} (hi : i + 5 ≤ N) {h : gH} (hrel : RelH h) (kk : ∀ h2 : gH, RelH h2 → GoP E p e s m args below meth c 4 Z 10 65 1516 600000 7302250 1085 [some (.retAddr b), some (.ref 0), some (.ref 52), some (.int (nI i))] [] h2) : GoP E p e s m args below meth c 4 Z 10 65 1516 600000 7302250 924 [some (.retAddr b), some (.ref 0), some (.ref 52), some (.int (nI i))] [] h := by
  obtain ⟨fs, ho⟩ := rel_0 hrel
  obtain ⟨r, h1, hR8, hh1, hR9⟩ := (op_forget : OpI yX8_forget cX8_forget 2 yX9_forget cX9_forget 2 []) E h hrel
  obtain ⟨fs9, ho9⟩ := hp_52 hh1
  refine gp_aload_n X dL_law_924 rfl ?_
  refine gp_cV (as := []) X dL_law_925 mX8_forget kL_116 iX8_forget sX8_forget rfl rfl rfl ho hR8 rfl rfl rfl ?_
  refine gp_aload_n X dL_law_928 rfl ?_
  refine gp_cQ (as := []) X dL_law_929 mX9_forget kL_119 iX9_forget sX9_forget rfl rfl rfl ho9 hR9 rfl rfl rfl (fun h2 hr2 => ?_)
  refine gp_icmp_eq (tgt := 1085) X dL_law_932 (by decide) (fun _ => ?_) (fun z9 => absurd rfl z9)
  exact kk h2 hr2
set_option maxRecDepth 100000 in
set_option maxHeartbeats 4000000 in
theorem lw_c25 {E : gE} {p : Program} {e : Env} {s : State} {m : MethodId} {args : Array Value} {below : List Frame} {meth : Method} {c : Code} {Z : State → Prop} {b N : Nat} {xs : Nat → Int32} (X : gX2 E yL_law cL_law 4 ret p s m meth c) (hX : va_X b N xs s s.heap) (hb : b < E.2.2.2) (h0 : s.heap.size = E.2.2.2) (hN : N ≤ 320) {i : Nat} (hi : i + 5 ≤ N) {h : gH} (hrel : RelH h) (kk : ∀ h2 : gH, RelH h2 → GoP E p e s m args below meth c 4 Z 10 65 1516 600000 7302250 1085 [some (.retAddr b), some (.ref 0), some (.ref 52), some (.int (nI i))] [] h2) : GoP E p e s m args below meth c 4 Z 10 65 1516 600000 7302250 937 [some (.retAddr b), some (.ref 0), some (.ref 52), some (.int (nI i))] [] h := by
  obtain ⟨fs, ho⟩ := rel_0 hrel
  obtain ⟨r, h1, hR8, hh1, hR9⟩ := (op_signs : OpI yX8_signs cX8_signs 1 yX9_signs cX9_signs 1 []) E h hrel
  obtain ⟨fs9, ho9⟩ := hp_52 hh1
  refine gp_aload_n X dL_law_937 rfl ?_
  refine gp_cV (as := []) X dL_law_938 mX8_signs kL_120 iX8_signs sX8_signs rfl rfl rfl ho hR8 rfl rfl rfl ?_
  refine gp_aload_n X dL_law_941 rfl ?_
  refine gp_cQ (as := []) X dL_law_942 mX9_signs kL_123 iX9_signs sX9_signs rfl rfl rfl ho9 hR9 rfl rfl rfl (fun h2 hr2 => ?_)
  refine gp_icmp_eq (tgt := 1085) X dL_law_945 (by decide) (fun _ => ?_) (fun z9 => absurd rfl z9)
  exact kk h2 hr2
set_option maxRecDepth 100000 in
set_option maxHeartbeats 4000000 in
theorem lw_c26 {E : gE} {p : Program} {e : Env} {s : State} {m : MethodId} {args : Array Value} {below : List Frame} {meth : Method} {c : Code} {Z : State → Prop} {b N : Nat} {xs : Nat → Int32} (X : gX2 E yL_law cL_law 4 ret p s m meth c) (hX : va_X b N xs s s.heap) (hb : b < E.2.2.2) (h0 : s.heap.size = E.2.2.2) (hN : N ≤ 320) {i : Nat} (hi : i + 5 ≤ N) {h : gH} (hrel : RelH h) (kk : ∀ h2 : gH, RelH h2 → GoP E p e s m args below meth c 4 Z 10 65 1516 600000 7302250 1085 [some (.retAddr b), some (.ref 0), some (.ref 52), some (.int (nI i))] [] h2) : GoP E p e s m args below meth c 4 Z 10 65 1516 600000 7302250 950 [some (.retAddr b), some (.ref 0), some (.ref 52), some (.int (nI i))] [] h := by
  obtain ⟨fs, ho⟩ := rel_0 hrel
  obtain ⟨r, h1, hR8, hh1, hR9⟩ := (op_watch : OpI yX8_watch cX8_watch 3 yX9_watch cX9_watch 10 [.int (xs (i + 1))]) E h hrel
  obtain ⟨fs9, ho9⟩ := hp_52 hh1
  refine gp_aload_n X dL_law_950 rfl ?_
  refine gp_script X dL_law_951 rfl ?_
  refine gp_iload_n X dL_law_952 rfl ?_
  refine gp_iconst (v := 1) X dL_law_953 (by decide) ?_
  refine gp_iadd X dL_law_954 ?_
  refine gp_topi_eq (nI_add i 1) ?_
  refine gp_sld (k := i + 1) X dL_law_955 hX hb h0 (by omega) hN ?_
  refine gp_cV (as := [_]) X dL_law_956 mX8_watch kL_124 iX8_watch sX8_watch rfl rfl rfl ho hR8 rfl rfl rfl ?_
  refine gp_aload_n X dL_law_959 rfl ?_
  refine gp_script X dL_law_960 rfl ?_
  refine gp_iload_n X dL_law_961 rfl ?_
  refine gp_iconst (v := 1) X dL_law_962 (by decide) ?_
  refine gp_iadd X dL_law_963 ?_
  refine gp_topi_eq (nI_add i 1) ?_
  refine gp_sld (k := i + 1) X dL_law_964 hX hb h0 (by omega) hN ?_
  refine gp_cQ (as := [_]) X dL_law_965 mX9_watch kL_127 iX9_watch sX9_watch rfl rfl rfl ho9 hR9 rfl rfl rfl (fun h2 hr2 => ?_)
  refine gp_icmp_eq (tgt := 1085) X dL_law_968 (by decide) (fun _ => ?_) (fun z9 => absurd rfl z9)
  exact kk h2 hr2
set_option maxRecDepth 100000 in
set_option maxHeartbeats 4000000 in
theorem lw_c27 {E : gE} {p : Program} {e : Env} {s : State} {m : MethodId} {args : Array Value} {below : List Frame} {meth : Method} {c : Code} {Z : State → Prop} {b N : Nat} {xs : Nat → Int32} (X : gX2 E yL_law cL_law 4 ret p s m meth c) (hX : va_X b N xs s s.heap) (hb : b < E.2.2.2) (h0 : s.heap.size = E.2.2.2) (hN : N ≤ 320) {i : Nat} (hi : i + 5 ≤ N) {h : gH} (hrel : RelH h) (kk : ∀ h2 : gH, RelH h2 → GoP E p e s m args below meth c 4 Z 10 65 1516 600000 7302250 1085 [some (.retAddr b), some (.ref 0), some (.ref 52), some (.int (nI i))] [] h2) : GoP E p e s m args below meth c 4 Z 10 65 1516 600000 7302250 973 [some (.retAddr b), some (.ref 0), some (.ref 52), some (.int (nI i))] [] h := by
  obtain ⟨fs, ho⟩ := rel_0 hrel
  obtain ⟨r, h1, hR8, hh1, hR9⟩ := (op_book : OpI yX8_book cX8_book 5 yX9_book cX9_book 8 [.int (xs (i + 1)), .int (xs (i + 2)), .int (xs (i + 3))]) E h hrel
  obtain ⟨fs9, ho9⟩ := hp_52 hh1
  refine gp_aload_n X dL_law_973 rfl ?_
  refine gp_script X dL_law_974 rfl ?_
  refine gp_iload_n X dL_law_975 rfl ?_
  refine gp_iconst (v := 1) X dL_law_976 (by decide) ?_
  refine gp_iadd X dL_law_977 ?_
  refine gp_topi_eq (nI_add i 1) ?_
  refine gp_sld (k := i + 1) X dL_law_978 hX hb h0 (by omega) hN ?_
  refine gp_script X dL_law_979 rfl ?_
  refine gp_iload_n X dL_law_980 rfl ?_
  refine gp_iconst (v := 2) X dL_law_981 (by decide) ?_
  refine gp_iadd X dL_law_982 ?_
  refine gp_topi_eq (nI_add i 2) ?_
  refine gp_sld (k := i + 2) X dL_law_983 hX hb h0 (by omega) hN ?_
  refine gp_script X dL_law_984 rfl ?_
  refine gp_iload_n X dL_law_985 rfl ?_
  refine gp_iconst (v := 3) X dL_law_986 (by decide) ?_
  refine gp_iadd X dL_law_987 ?_
  refine gp_topi_eq (nI_add i 3) ?_
  refine gp_sld (k := i + 3) X dL_law_988 hX hb h0 (by omega) hN ?_
  refine gp_cV (as := [_, _, _]) X dL_law_989 mX8_book kL_128 iX8_book sX8_book rfl rfl rfl ho hR8 rfl rfl rfl ?_
  refine gp_aload_n X dL_law_992 rfl ?_
  refine gp_script X dL_law_993 rfl ?_
  refine gp_iload_n X dL_law_994 rfl ?_
  refine gp_iconst (v := 1) X dL_law_995 (by decide) ?_
  refine gp_iadd X dL_law_996 ?_
  refine gp_topi_eq (nI_add i 1) ?_
  refine gp_sld (k := i + 1) X dL_law_997 hX hb h0 (by omega) hN ?_
  refine gp_script X dL_law_998 rfl ?_
  refine gp_iload_n X dL_law_999 rfl ?_
  refine gp_iconst (v := 2) X dL_law_1000 (by decide) ?_
  refine gp_iadd X dL_law_1001 ?_
  refine gp_topi_eq (nI_add i 2) ?_
  refine gp_sld (k := i + 2) X dL_law_1002 hX hb h0 (by omega) hN ?_
  refine gp_script X dL_law_1003 rfl ?_
  refine gp_iload_n X dL_law_1004 rfl ?_
  refine gp_iconst (v := 3) X dL_law_1005 (by decide) ?_
  refine gp_iadd X dL_law_1006 ?_
  refine gp_topi_eq (nI_add i 3) ?_
  refine gp_sld (k := i + 3) X dL_law_1007 hX hb h0 (by omega) hN ?_
  refine gp_cQ (as := [_, _, _]) X dL_law_1008 mX9_book kL_131 iX9_book sX9_book rfl rfl rfl ho9 hR9 rfl rfl rfl (fun h2 hr2 => ?_)
  refine gp_icmp_eq (tgt := 1085) X dL_law_1011 (by decide) (fun _ => ?_) (fun z9 => absurd rfl z9)
  exact kk h2 hr2
set_option maxRecDepth 100000 in
set_option maxHeartbeats 4000000 in
theorem lw_c28 {E : gE} {p : Program} {e : Env} {s : State} {m : MethodId} {args : Array Value} {below : List Frame} {meth : Method} {c : Code} {Z : State → Prop} {b N : Nat} {xs : Nat → Int32} (X : gX2 E yL_law cL_law 4 ret p s m meth c) (hX : va_X b N xs s s.heap) (hb : b < E.2.2.2) (h0 : s.heap.size = E.2.2.2) (hN : N ≤ 320) {i : Nat} (hi : i + 5 ≤ N) {h : gH} (hrel : RelH h) (kk : ∀ h2 : gH, RelH h2 → GoP E p e s m args below meth c 4 Z 10 65 1516 600000 7302250 1085 [some (.retAddr b), some (.ref 0), some (.ref 52), some (.int (nI i))] [] h2) : GoP E p e s m args below meth c 4 Z 10 65 1516 600000 7302250 1016 [some (.retAddr b), some (.ref 0), some (.ref 52), some (.int (nI i))] [] h := by
  obtain ⟨fs, ho⟩ := rel_0 hrel
  obtain ⟨r, h1, hR8, hh1, hR9⟩ := (op_image : OpI yX8_image cX8_image 2 yX9_image cX9_image 4 [.int (xs (i + 1))]) E h hrel
  obtain ⟨fs9, ho9⟩ := hp_52 hh1
  refine gp_aload_n X dL_law_1016 rfl ?_
  refine gp_script X dL_law_1017 rfl ?_
  refine gp_iload_n X dL_law_1018 rfl ?_
  refine gp_iconst (v := 1) X dL_law_1019 (by decide) ?_
  refine gp_iadd X dL_law_1020 ?_
  refine gp_topi_eq (nI_add i 1) ?_
  refine gp_sld (k := i + 1) X dL_law_1021 hX hb h0 (by omega) hN ?_
  refine gp_cV (as := [_]) X dL_law_1022 mX8_image kL_132 iX8_image sX8_image rfl rfl rfl ho hR8 rfl rfl rfl ?_
  refine gp_aload_n X dL_law_1025 rfl ?_
  refine gp_script X dL_law_1026 rfl ?_
  refine gp_iload_n X dL_law_1027 rfl ?_
  refine gp_iconst (v := 1) X dL_law_1028 (by decide) ?_
  refine gp_iadd X dL_law_1029 ?_
  refine gp_topi_eq (nI_add i 1) ?_
  refine gp_sld (k := i + 1) X dL_law_1030 hX hb h0 (by omega) hN ?_
  refine gp_cQ (as := [_]) X dL_law_1031 mX9_image kL_135 iX9_image sX9_image rfl rfl rfl ho9 hR9 rfl rfl rfl (fun h2 hr2 => ?_)
  refine gp_icmp_eq (tgt := 1085) X dL_law_1034 (by decide) (fun _ => ?_) (fun z9 => absurd rfl z9)
  exact kk h2 hr2
set_option maxRecDepth 100000 in
set_option maxHeartbeats 4000000 in
theorem lw_c29 {E : gE} {p : Program} {e : Env} {s : State} {m : MethodId} {args : Array Value} {below : List Frame} {meth : Method} {c : Code} {Z : State → Prop} {b N : Nat} {xs : Nat → Int32} (X : gX2 E yL_law cL_law 4 ret p s m meth c) (hX : va_X b N xs s s.heap) (hb : b < E.2.2.2) (h0 : s.heap.size = E.2.2.2) (hN : N ≤ 320) {i : Nat} (hi : i + 5 ≤ N) {h : gH} (hrel : RelH h) (kk : ∀ h2 : gH, RelH h2 → GoP E p e s m args below meth c 4 Z 10 65 1516 600000 7302250 1085 [some (.retAddr b), some (.ref 0), some (.ref 52), some (.int (nI i))] [] h2) : GoP E p e s m args below meth c 4 Z 10 65 1516 600000 7302250 1039 [some (.retAddr b), some (.ref 0), some (.ref 52), some (.int (nI i))] [] h := by
  obtain ⟨fs, ho⟩ := rel_0 hrel
  obtain ⟨r, h1, hR8, hh1, hR9⟩ := (op_restore : OpI yX8_restore cX8_restore 2 yX9_restore cX9_restore 4 [.int (xs (i + 1))]) E h hrel
  obtain ⟨fs9, ho9⟩ := hp_52 hh1
  refine gp_aload_n X dL_law_1039 rfl ?_
  refine gp_script X dL_law_1040 rfl ?_
  refine gp_iload_n X dL_law_1041 rfl ?_
  refine gp_iconst (v := 1) X dL_law_1042 (by decide) ?_
  refine gp_iadd X dL_law_1043 ?_
  refine gp_topi_eq (nI_add i 1) ?_
  refine gp_sld (k := i + 1) X dL_law_1044 hX hb h0 (by omega) hN ?_
  refine gp_cV (as := [_]) X dL_law_1045 mX8_restore kL_136 iX8_restore sX8_restore rfl rfl rfl ho hR8 rfl rfl rfl ?_
  refine gp_aload_n X dL_law_1048 rfl ?_
  refine gp_script X dL_law_1049 rfl ?_
  refine gp_iload_n X dL_law_1050 rfl ?_
  refine gp_iconst (v := 1) X dL_law_1051 (by decide) ?_
  refine gp_iadd X dL_law_1052 ?_
  refine gp_topi_eq (nI_add i 1) ?_
  refine gp_sld (k := i + 1) X dL_law_1053 hX hb h0 (by omega) hN ?_
  refine gp_cQ (as := [_]) X dL_law_1054 mX9_restore kL_139 iX9_restore sX9_restore rfl rfl rfl ho9 hR9 rfl rfl rfl (fun h2 hr2 => ?_)
  refine gp_icmp_eq (tgt := 1085) X dL_law_1057 (by decide) (fun _ => ?_) (fun z9 => absurd rfl z9)
  exact kk h2 hr2
set_option maxRecDepth 100000 in
set_option maxHeartbeats 4000000 in
theorem lw_c30 {E : gE} {p : Program} {e : Env} {s : State} {m : MethodId} {args : Array Value} {below : List Frame} {meth : Method} {c : Code} {Z : State → Prop} {b N : Nat} {xs : Nat → Int32} (X : gX2 E yL_law cL_law 4 ret p s m meth c) (hX : va_X b N xs s s.heap) (hb : b < E.2.2.2) (h0 : s.heap.size = E.2.2.2) (hN : N ≤ 320) {i : Nat} (hi : i + 5 ≤ N) {h : gH} (hrel : RelH h) (kk : ∀ h2 : gH, RelH h2 → GoP E p e s m args below meth c 4 Z 10 65 1516 600000 7302250 1085 [some (.retAddr b), some (.ref 0), some (.ref 52), some (.int (nI i))] [] h2) : GoP E p e s m args below meth c 4 Z 10 65 1516 600000 7302250 1062 [some (.retAddr b), some (.ref 0), some (.ref 52), some (.int (nI i))] [] h := by
  obtain ⟨fs, ho⟩ := rel_0 hrel
  obtain ⟨r, h1, hR8, hh1, hR9⟩ := (op_told : OpI yX8_told cX8_told 2 yX9_told cX9_told 2 [.int (xs (i + 1))]) E h hrel
  obtain ⟨fs9, ho9⟩ := hp_52 hh1
  refine gp_aload_n X dL_law_1062 rfl ?_
  refine gp_script X dL_law_1063 rfl ?_
  refine gp_iload_n X dL_law_1064 rfl ?_
  refine gp_iconst (v := 1) X dL_law_1065 (by decide) ?_
  refine gp_iadd X dL_law_1066 ?_
  refine gp_topi_eq (nI_add i 1) ?_
  refine gp_sld (k := i + 1) X dL_law_1067 hX hb h0 (by omega) hN ?_
  refine gp_cV (as := [_]) X dL_law_1068 mX8_told kL_140 iX8_told sX8_told rfl rfl rfl ho hR8 rfl rfl rfl ?_
  refine gp_aload_n X dL_law_1071 rfl ?_
  refine gp_script X dL_law_1072 rfl ?_
  refine gp_iload_n X dL_law_1073 rfl ?_
  refine gp_iconst (v := 1) X dL_law_1074 (by decide) ?_
  refine gp_iadd X dL_law_1075 ?_
  refine gp_topi_eq (nI_add i 1) ?_
  refine gp_sld (k := i + 1) X dL_law_1076 hX hb h0 (by omega) hN ?_
  refine gp_cQ (as := [_]) X dL_law_1077 mX9_told kL_143 iX9_told sX9_told rfl rfl rfl ho9 hR9 rfl rfl rfl (fun h2 hr2 => ?_)
  refine gp_icmp_eq (tgt := 1085) X dL_law_1080 (by decide) (fun _ => ?_) (fun z9 => absurd rfl z9)
  exact kk h2 hr2
