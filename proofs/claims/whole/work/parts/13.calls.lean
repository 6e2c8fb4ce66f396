/-! calls: a callee's Ret is a row of the caller's walk -/
theorem calling_gK {E : gE} {U : State} {g : JFrame} {mk : MethodId} {a : Array Value} (h : gK E U) : gK E (U.calling g mk a) := gK.moved (s := U) (U := U.calling g mk a) (wh_rfl U) h
theorem pc_blind {E : gE} {as : List Value} {h : gH} : FrameBlind (va_Pc (as.map (gv E.2.2.2)) (fun U => gK E U ∧ E.2.2.2 ≤ U.heap.size ∧ gP E h U.heap U.heap)) := by
  intro a U g mk q
  obtain ⟨q0, q1, q2, q3⟩ := q
  exact ⟨q0, calling_gK q1, q2, q3⟩
theorem gP.self {E : gE} {h : gH} {H0 H : Heap} (hP : gP E h H0 H) : gP E h H H := ⟨hP.1, hP.2.1, fun _ _ => rfl⟩
theorem pc_at {E : gE} {as : List Value} {h : gH} {s U : State} {H : Heap} (hK : gK E s) (hP : gP E h s.heap H) (hU : U.heap = H) (hW : s.WarmedH U.vm) : va_Pc (as.map (gv E.2.2.2)) (fun U => gK E U ∧ E.2.2.2 ≤ U.heap.size ∧ gP E h U.heap U.heap) (as.map (gv E.2.2.2)).toArray U := by
  refine ⟨rfl, gK.moved hW hK, ?_, ?_⟩
  · rw [hU, hP.1]
    exact Nat.le_add_right _ _
  · rw [hU]
    exact hP.self
/-- a method as the tables have it: its code, its class -/
def gmt (y : MethodName) (cc : ByteArray) (nL : Nat) (ret : Option FieldType) (n : Nat) : Prop := Cond.code y cc nL ret ∈ lw_tbl ∧ Cond.initialized y.cls ∈ lw_tbl ∧ (y.cls ≠ "java/lang/invoke/MethodHandle" ∧ y.cls ≠ "java/lang/invoke/VarHandle") ∧ (parseMethodDescriptor y.desc).map (fun d => d.parameters.length) = some n ∧ nL ≤ 16
/-- the entry idx of own's pool is the method y -/
def glk (own : String) (idx : Nat) (y : MethodName) : Prop := Cond.methodLink own idx y ∈ lw_tbl ∨ ∃ host : String, Cond.methodLinkNest own idx y host ∈ lw_tbl
theorem params_n {y : MethodName} {n : Nat} (h : (parseMethodDescriptor y.desc).map (fun d => d.parameters.length) = some n) : ∀ sig, parseMethodDescriptor y.desc = some sig → n = sig.parameters.length := by
  intro sig hs
  rw [hs] at h
  exact (Option.some.inj h).symm
theorem code_keeps {y : MethodName} {cc : ByteArray} {nL : Nat} {ret : Option FieldType} {s : State} (hW0 : gW s) (hc : Cond.code y cc nL ret ∈ lw_tbl) : ∀ w ∈ [Cond.code y cc nL ret], ∀ (a' : Array Value) (U : State), s.WarmedH U.vm → w.before a' U = true := by
  intro w hw a' U hU
  rw [List.mem_singleton.mp hw]
  exact (gW.moved hU hW0).1 _ hc rfl a'
theorem g_callB {R : Room} {s : State} {args : Array Value} {own : String} {idx : Nat} {y : MethodName} {cc : ByteArray} {nL : Nat} {ret : Option FieldType} {n d mc ms : Nat} (hW0 : gW s) (hm : gmt y cc nL ret n) (hl : Cond.methodLink own idx y ∈ lw_tbl) (hR : d + 1 ≤ R.frames ∧ 35 * (d + 1) ≤ R.locals) : CallB R s args own idx y cc nL ret [Cond.code y cc nL ret] (gR d mc ms) mc ms n := by
  obtain ⟨h1, h2, h3, h4, h5⟩ := hm
  exact ⟨rfl, rfl, hR.1, by show 8 + (nL + 11) + 35 * d ≤ _; omega, code_keeps hW0 h1, List.mem_singleton.mpr rfl, hW0.1 _ h1 rfl args, hW0.1 _ h2 rfl args, h3, params_n h4, hW0.1 _ hl rfl args⟩
theorem g_callN {R : Room} {s : State} {args : Array Value} {own host : String} {idx : Nat} {y : MethodName} {cc : ByteArray} {nL : Nat} {ret : Option FieldType} {n d mc ms : Nat} (hW0 : gW s) (hm : gmt y cc nL ret n) (hl : Cond.methodLinkNest own idx y host ∈ lw_tbl) (hR : d + 1 ≤ R.frames ∧ 35 * (d + 1) ≤ R.locals) : va_CN R s args own idx y host cc nL ret [Cond.code y cc nL ret] (gR d mc ms) mc ms n := by
  obtain ⟨h1, h2, h3, h4, h5⟩ := hm
  exact ⟨⟨rfl, rfl, hR.1, by show 8 + (nL + 11) + 35 * d ≤ _; omega, code_keeps hW0 h1, List.mem_singleton.mpr rfl⟩, hW0.1 _ h1 rfl args, hW0.1 _ h2 rfl args, h3, params_n h4, va_Nw.use rfl (hW0.2.1 _ _ _ _ hl)⟩
section Run
variable {E : gE} {p : Program} {e : Env} {R : Room} {s : State} {m : MethodId} {args : Array Value} {below : List Frame} {meth : Method} {c : Code} {H : Heap} {locs : List Loc} {kc ks mc ms pc : Nat} {Z : State → Prop} {ls : Array Slot} {h : gH} {Q : Option Value → gH → Prop}
/-- behind a call -/
theorem g_run {st0 rest : List Value} {a : Array Value} (hr : va_Run p E.1 e R s m args below meth c H locs kc ks mc ms (F0 m pc ls st0) rest (gQ E Q a) (fun q => E.2.2.2 ≤ q)) (hP : gP E h s.heap H) (hl : ∀ q ∈ locs, E.2.2.2 ≤ q.base)
    (kk : ∀ (r : Option Value) (h2 : gH) (H2 : Heap) (locs2 : List Loc), Q r h2 → gP E h2 s.heap H2 → (∀ q ∈ locs2, E.2.2.2 ≤ q.base) → W p E.1 e R s m args below meth c H2 locs2 (kc + mc) (ks + ms) Z (F0 m (pc + 3) ls ((r.map (gv E.2.2.2)).toList ++ rest))) : W p E.1 e R s m args below meth c H locs kc ks Z (F0 m pc ls st0) := by
  intro T hT X
  obtain ⟨v, st₀, t, T', L2, h0, X', hL2, e1, e2, ⟨r, h2, hv, hq, hP2⟩, stp⟩ := hr T hT X
  cases hv
  obtain ⟨t2, a1, b1⟩ := kk r h2 T'.heap (locs ++ L2) hq (by
    rw [e1]
    exact ⟨hP2.1, hP2.2.1, fun q hq => by rw [hP2.2.2 q hq, h0]; exact hP.2.2 q hq⟩) (by
    intro q hq
    rcases List.mem_append.mp hq with h1 | h1
    · exact hl q h1
    · exact hL2 q h1) T' rfl X'
  exact ⟨t2, stp t2 a1, b1⟩
end Run
section Calls2
variable {E : gE} {y : MethodName} {cc : ByteArray} {nL : Nat} {ret : Option FieldType} {d kc ks mc ms pc : Nat} {L : List (Option Value)} {st : List Value} {h : gH} {Q Q2 : Option Value → gH → Prop} {y2 : MethodName} {cc2 : ByteArray} {nL2 : Nat} {ret2 : Option FieldType} {idx n mc2 ms2 : Nat}
theorem cat_map (b : Nat) (st : List Value) : ((st.map (gv b)).map fun v => v.category) = st.map fun v => v.category := by
  rw [List.map_map]
  exact List.map_congr_left fun v _ => gv_cat b v
theorem toL (b : Nat) (r : Option Value) (st : List Value) : (r.map (gv b)).toList ++ st.map (gv b) = (r.toList ++ st).map (gv b) := by
  cases r <;> rfl
/-- invokevirtual: receiver a (an object of the class ci), arguments as in their order; st is what lies below -/
theorem go_callV {a ci : Nat} {as fs : List Value} {T : u_T} {N : Nat} {st0 : List Value} (hd : decode cc pc = .ok (.invokevirtual idx, 3)) (hm : gmt y2 cc2 nL2 ret2 n) (hk : glk y.cls idx y2) (hi : Cond.instanceMethod y2 ∈ lw_tbl) (hs : Cond.selects y2.cls y2 y2 ∈ lw_tbl) (hci : vwCl[ci]? = some (y2.cls, T, N)) (hst : st0 = as.reverse ++ .ref a :: st) (hn : as.length = n) (ho : hg h a = some (.inr (ci, fs))) (hR : Ret E y2 cc2 nL2 ret2 d mc2 ms2 (.ref a :: as) h Q2) (h8 : Nat.ble ((st.map fun v => v.category).sum) 8 = true) (hc1 : Nat.ble (kc + mc2) mc = true) (hs1 : Nat.ble (ks + ms2) ms = true)
    (kk : ∀ (r : Option Value) (h2 : gH), Q2 r h2 → Go E y cc nL ret (d + 1) (kc + mc2) (ks + ms2) mc ms (pc + 3) L (r.toList ++ st) h2 Q) : Go E y cc nL ret (d + 1) kc ks mc ms pc L st0 h Q := by
  intro p e s m args below meth c H locs ls X hP hl hL
  have hKK := X.2.2.2.2.2.2.2.1
  have hrecv : ∃ cell : Cell, H[E.2.2.2 + a]? = some cell ∧ cell.vm.isStatics = false ∧ s.vm.findClass y2.cls = some cell.cls := va_recv (q := (y2.cls, T, N)) hKK.2 (hP.one ho) hci (q0 := 0) rfl
  have hW8 : 2 * (F0 m pc ls (st0.map (gv E.2.2.2))).monitorRoom + ((st.map (gv E.2.2.2)).map fun v => v.category).sum ≤ 8 := by
    rw [cat_map]
    exact lv_room (Nat.le_of_ble_eq_true h8)
  have hstk : (F0 m pc ls (st0.map (gv E.2.2.2))).stack = (as.map (gv E.2.2.2)).reverse ++ .ref (E.2.2.2 + a) :: st.map (gv E.2.2.2) := by
    subst hst
    show (as.reverse ++ .ref a :: st).map (gv E.2.2.2) = _
    rw [List.map_append, List.map_reverse]
    rfl
  have key : va_Run p E.1 e (gR (d + 1) mc ms) s m args below meth c H locs kc ks mc2 ms2 (F0 m pc ls (st0.map (gv E.2.2.2))) (st.map (gv E.2.2.2)) (gQ E Q2 ((Value.ref a :: as).map (gv E.2.2.2)).toArray) (fun q => E.2.2.2 ≤ q) := by
    rcases hk with hk | ⟨host, hk⟩
    · exact va_runV (C := y2.cls) (b := E.2.2.2 + a) (As := as.map (gv E.2.2.2)) ⟨X.1, X.2.1, X.2.2.1, X.2.2.2.2.2.1, fun w (hw : w ∈ ([] : List Cond)) => absurd hw List.not_mem_nil⟩ hR ⟨g_callB hKK.1 hm hk ⟨Nat.le_refl _, Nat.le_refl _⟩, hKK.1.1 _ hi rfl args, hKK.1.1 _ hs rfl args⟩ ⟨pc_blind, hrecv, fun U hU hW => pc_at (as := .ref a :: as) hKK hP hU hW⟩ rfl (by rw [List.length_map]; exact hn) hL.1 hstk hW8 hd ⟨Nat.le_of_ble_eq_true hc1, Nat.le_of_ble_eq_true hs1⟩
    · exact va_runVN (C := y2.cls) (b := E.2.2.2 + a) (As := as.map (gv E.2.2.2)) ⟨X.1, X.2.1, X.2.2.1, X.2.2.2.2.2.1, fun w (hw : w ∈ ([] : List Cond)) => absurd hw List.not_mem_nil⟩ hR ⟨g_callN hKK.1 hm hk ⟨Nat.le_refl _, Nat.le_refl _⟩, hKK.1.1 _ hi rfl args, hKK.1.1 _ hs rfl args⟩ ⟨pc_blind, hrecv, fun U hU hW => pc_at (as := .ref a :: as) hKK hP hU hW⟩ rfl (by rw [List.length_map]; exact hn) hL.1 hstk hW8 hd ⟨Nat.le_of_ble_eq_true hc1, Nat.le_of_ble_eq_true hs1⟩
  refine g_run key hP hl fun r h2 H2 locs2 hq hP2 hl2 => ?_
  rw [toL]
  exact kk r h2 hq p e s m args below meth c H2 locs2 ls X hP2 hl2 hL
theorem go_callS {as : List Value} {st0 : List Value} (hd : decode cc pc = .ok (.invokestatic idx, 3)) (hm : gmt y2 cc2 nL2 ret2 n) (hk : glk y.cls idx y2) (hi : Cond.static y2 ∈ lw_tbl) (hst : st0 = as.reverse ++ st) (hn : as.length = n) (hR : Ret E y2 cc2 nL2 ret2 d mc2 ms2 as h Q2) (h8 : Nat.ble ((st.map fun v => v.category).sum) 8 = true) (hc1 : Nat.ble (kc + mc2) mc = true) (hs1 : Nat.ble (ks + ms2) ms = true)
    (kk : ∀ (r : Option Value) (h2 : gH), Q2 r h2 → Go E y cc nL ret (d + 1) (kc + mc2) (ks + ms2) mc ms (pc + 3) L (r.toList ++ st) h2 Q) : Go E y cc nL ret (d + 1) kc ks mc ms pc L st0 h Q := by
  intro p e s m args below meth c H locs ls X hP hl hL
  have hKK := X.2.2.2.2.2.2.2.1
  have hW8 : 2 * (F0 m pc ls (st0.map (gv E.2.2.2))).monitorRoom + ((st.map (gv E.2.2.2)).map fun v => v.category).sum ≤ 8 := by
    rw [cat_map]
    exact lv_room (Nat.le_of_ble_eq_true h8)
  have hstk : (F0 m pc ls (st0.map (gv E.2.2.2))).stack = (as.map (gv E.2.2.2)).reverse ++ st.map (gv E.2.2.2) := by
    subst hst
    show (as.reverse ++ st).map (gv E.2.2.2) = _
    rw [List.map_append, List.map_reverse]
  have key : va_Run p E.1 e (gR (d + 1) mc ms) s m args below meth c H locs kc ks mc2 ms2 (F0 m pc ls (st0.map (gv E.2.2.2))) (st.map (gv E.2.2.2)) (gQ E Q2 (as.map (gv E.2.2.2)).toArray) (fun q => E.2.2.2 ≤ q) := by
    rcases hk with hk | ⟨host, hk⟩
    · exact va_runS (As := as.map (gv E.2.2.2)) ⟨X.1, X.2.1, X.2.2.1, X.2.2.2.2.2.1, fun w (hw : w ∈ ([] : List Cond)) => absurd hw List.not_mem_nil⟩ hR ⟨g_callB hKK.1 hm hk ⟨Nat.le_refl _, Nat.le_refl _⟩, hKK.1.1 _ hi rfl args⟩ ⟨pc_blind, fun U hU hW => pc_at (as := as) hKK hP hU hW⟩ rfl (by rw [List.length_map]; exact hn) hL.1 hstk hW8 hd ⟨Nat.le_of_ble_eq_true hc1, Nat.le_of_ble_eq_true hs1⟩
    · exact va_runSN (As := as.map (gv E.2.2.2)) ⟨X.1, X.2.1, X.2.2.1, X.2.2.2.2.2.1, fun w (hw : w ∈ ([] : List Cond)) => absurd hw List.not_mem_nil⟩ hR ⟨g_callN hKK.1 hm hk ⟨Nat.le_refl _, Nat.le_refl _⟩, hKK.1.1 _ hi rfl args, trivial⟩ ⟨pc_blind, fun U hU hW => pc_at (as := as) hKK hP hU hW⟩ rfl (by rw [List.length_map]; exact hn) hL.1 hstk hW8 hd ⟨Nat.le_of_ble_eq_true hc1, Nat.le_of_ble_eq_true hs1⟩
  refine g_run key hP hl fun r h2 H2 locs2 hq hP2 hl2 => ?_
  rw [toL]
  exact kk r h2 hq p e s m args below meth c H2 locs2 ls X hP2 hl2 hL
theorem go_callI {a : Nat} {as : List Value} {st0 : List Value} (hd : decode cc pc = .ok (.invokespecial idx, 3)) (hm : gmt y2 cc2 nL2 none n) (hk : glk y.cls idx y2) (hi : Cond.instanceMethod y2 ∈ lw_tbl) (hnm : y2.name = "<init>") (hst : st0 = as.reverse ++ .ref a :: st) (hn : as.length = n) (hR : Ret E y2 cc2 nL2 none d mc2 ms2 (.ref a :: as) h Q2) (h8 : Nat.ble ((st.map fun v => v.category).sum) 8 = true) (hc1 : Nat.ble (kc + mc2) mc = true) (hs1 : Nat.ble (ks + ms2) ms = true)
    (kk : ∀ (r : Option Value) (h2 : gH), Q2 r h2 → Go E y cc nL ret (d + 1) (kc + mc2) (ks + ms2) mc ms (pc + 3) L (r.toList ++ st) h2 Q) : Go E y cc nL ret (d + 1) kc ks mc ms pc L st0 h Q := by
  intro p e s m args below meth c H locs ls X hP hl hL
  have hKK := X.2.2.2.2.2.2.2.1
  have hW8 : 2 * (F0 m pc ls (st0.map (gv E.2.2.2))).monitorRoom + ((st.map (gv E.2.2.2)).map fun v => v.category).sum ≤ 8 := by
    rw [cat_map]
    exact lv_room (Nat.le_of_ble_eq_true h8)
  have hstk : (F0 m pc ls (st0.map (gv E.2.2.2))).stack = (as.map (gv E.2.2.2)).reverse ++ .ref (E.2.2.2 + a) :: st.map (gv E.2.2.2) := by
    subst hst
    show (as.reverse ++ .ref a :: st).map (gv E.2.2.2) = _
    rw [List.map_append, List.map_reverse]
    rfl
  have key : va_Run p E.1 e (gR (d + 1) mc ms) s m args below meth c H locs kc ks mc2 ms2 (F0 m pc ls (st0.map (gv E.2.2.2))) (st.map (gv E.2.2.2)) (gQ E Q2 ((Value.ref a :: as).map (gv E.2.2.2)).toArray) (fun q => E.2.2.2 ≤ q) := by
    rcases hk with hk | ⟨host, hk⟩
    · exact va_runI (b := E.2.2.2 + a) (As := as.map (gv E.2.2.2)) ⟨X.1, X.2.1, X.2.2.1, X.2.2.2.2.2.1, fun w (hw : w ∈ ([] : List Cond)) => absurd hw List.not_mem_nil⟩ hR ⟨g_callB hKK.1 hm hk ⟨Nat.le_refl _, Nat.le_refl _⟩, hnm, hKK.1.1 _ hi rfl args⟩ ⟨pc_blind, fun U hU hW => pc_at (as := .ref a :: as) hKK hP hU hW⟩ rfl (by rw [List.length_map]; exact hn) hL.1 hstk hW8 hd ⟨Nat.le_of_ble_eq_true hc1, Nat.le_of_ble_eq_true hs1⟩
    · exact va_runIN (b := E.2.2.2 + a) (As := as.map (gv E.2.2.2)) ⟨X.1, X.2.1, X.2.2.1, X.2.2.2.2.2.1, fun w (hw : w ∈ ([] : List Cond)) => absurd hw List.not_mem_nil⟩ hR ⟨g_callN hKK.1 hm hk ⟨Nat.le_refl _, Nat.le_refl _⟩, hnm, hKK.1.1 _ hi rfl args⟩ ⟨pc_blind, fun U hU hW => pc_at (as := .ref a :: as) hKK hP hU hW⟩ rfl (by rw [List.length_map]; exact hn) hL.1 hstk hW8 hd ⟨Nat.le_of_ble_eq_true hc1, Nat.le_of_ble_eq_true hs1⟩
  refine g_run key hP hl fun r h2 H2 locs2 hq hP2 hl2 => ?_
  rw [toL]
  exact kk r h2 hq p e s m args below meth c H2 locs2 ls X hP2 hl2 hL
/-- Object's own constructor -/
theorem go_objInit {a : Nat} (hd : decode cc pc = .ok (.invokespecial idx, 3)) (hk : Cond.methodLink y.cls idx Lib.objectInit ∈ lw_tbl) (hi : Cond.instanceMethod Lib.objectInit ∈ lw_tbl) (hc : Cond.code Lib.objectInit ⟨#[0xb1]⟩ 1 none ∈ lw_tbl) (h8 : Nat.ble ((st.map fun v => v.category).sum) 8 = true) (kk : Go E y cc nL ret (d + 1) kc ks mc ms (pc + 3) L st h Q) : Go E y cc nL ret (d + 1) kc ks mc ms pc L (.ref a :: st) h Q := by
  intro p e s m args below meth c H locs ls X hP hl hL
  have hKK := X.2.2.2.2.2.2.2.1
  refine W.objInit X.1 X.2.1 X.2.2.2.2.2.1 (hKK.1.1 _ hk rfl args) (hKK.1.1 _ hi rfl args) (hKK.1.1 _ hc rfl args) rfl (by show ls.size = _; rw [hL.1, X.2.2.1]) rfl hd (by show 1 ≤ d + 1; omega) ?_ (kk p e s m args below meth c H locs ls X hP hl hL)
  have h9 : (st.map fun v => v.category).sum ≤ 8 := Nat.le_of_ble_eq_true h8
  show 2 * 0 + ((st.map (gv E.2.2.2)).map fun v => v.category).sum + 12 ≤ 35 * (d + 1)
  rw [cat_map]
  omega
end Calls2
