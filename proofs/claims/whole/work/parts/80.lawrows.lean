/-- what stands at the law's entry -/
def gX2 (E : gE) (y : MethodName) (cc : ByteArray) (nL : Nat) (ret : Option FieldType) (p : Program) (s : State) (m : MethodId) (meth : Method) (c : Code) : Prop :=
  p.tables.exec = Jvm.exec ∧ c.code = cc ∧ c.maxLocals = nL ∧ meth.sig.returnType = ret ∧ meth.locks = false ∧ s.vm.findClass y.cls = some m.cls ∧ True ∧ gK E s ∧ E.2.2.2 ≤ s.heap.size
/-- ONE run: from pc, locals L, stack st, world h it comes to Z -/
def GoP (E : gE) (p : Program) (e : Env) (s : State) (m : MethodId) (args : Array Value) (below : List Frame) (meth : Method) (c : Code) (nL : Nat) (Z : State → Prop) (d kc ks mc ms pc : Nat) (L : List (Option Value)) (st : List Value) (h : gH) : Prop :=
  ∀ (H : Heap) (locs : List Loc) (ls : Array Slot), gP E h s.heap H → (∀ q ∈ locs, E.2.2.2 ≤ q.base) → gL E.2.2.2 nL ls L → W p E.1 e (gR d mc ms) s m args below meth c H locs kc ks Z (F0 m pc ls (st.map (gv E.2.2.2)))
section LawRows
variable {E : gE} {y : MethodName} {cc : ByteArray} {nL : Nat} {ret : Option FieldType} {d kc ks mc ms pc : Nat} {L : List (Option Value)} {st : List Value} {h : gH} {p : Program} {e : Env} {s : State} {m : MethodId} {args : Array Value} {below : List Frame} {meth : Method} {c : Code} {Z : State → Prop} (X : gX2 E y cc nL ret p s m meth c)
variable {Q2 : Option Value → gH → Prop} {y2 : MethodName} {cc2 : ByteArray} {nL2 : Nat} {ret2 : Option FieldType} {idx n mc2 ms2 : Nat}
theorem gp_iadd {a b : Int32} (X : gX2 E y cc nL ret p s m meth c) (hd : decode cc pc = .ok (.iadd, 1)) (k : GoP E p e s m args below meth c nL Z d kc ks mc ms (pc + 1) L (.int (a + b) :: st) h) : GoP E p e s m args below meth c nL Z d kc ks mc ms pc L (.int b :: .int a :: st) h := by
  intro H locs ls hP hl hL
  exact lv_iadd X.1 X.2.1 hd (k H locs ls hP hl hL)
theorem gp_isub {a b : Int32} (X : gX2 E y cc nL ret p s m meth c) (hd : decode cc pc = .ok (.isub, 1)) (k : GoP E p e s m args below meth c nL Z d kc ks mc ms (pc + 1) L (.int (a - b) :: st) h) : GoP E p e s m args below meth c nL Z d kc ks mc ms pc L (.int b :: .int a :: st) h := by
  intro H locs ls hP hl hL
  exact lv_isub X.1 X.2.1 hd (k H locs ls hP hl hL)
theorem gp_iand {a b : Int32} (X : gX2 E y cc nL ret p s m meth c) (hd : decode cc pc = .ok (.iand, 1)) (k : GoP E p e s m args below meth c nL Z d kc ks mc ms (pc + 1) L (.int (a &&& b) :: st) h) : GoP E p e s m args below meth c nL Z d kc ks mc ms pc L (.int b :: .int a :: st) h := by
  intro H locs ls hP hl hL
  exact lv_iand X.1 X.2.1 hd (k H locs ls hP hl hL)
theorem gp_iconst {n : Int} {v : Int32} (X : gX2 E y cc nL ret p s m meth c) (hd : decode cc pc = .ok (.iconst n, 1)) (hv : Int32.ofInt n = v) (k : GoP E p e s m args below meth c nL Z d kc ks mc ms (pc + 1) L (.int v :: st) h) : GoP E p e s m args below meth c nL Z d kc ks mc ms pc L st h := by
  intro H locs ls hP hl hL
  exact lv_iconst X.1 X.2.1 hd hv (k H locs ls hP hl hL)
theorem gp_bipush {n : Int} {v : Int32} (X : gX2 E y cc nL ret p s m meth c) (hd : decode cc pc = .ok (.bipush n, 2)) (hv : (Int8.ofInt n).toInt32 = v) (k : GoP E p e s m args below meth c nL Z d kc ks mc ms (pc + 2) L (.int v :: st) h) : GoP E p e s m args below meth c nL Z d kc ks mc ms pc L st h := by
  intro H locs ls hP hl hL
  exact lv_bipush X.1 X.2.1 hd hv (k H locs ls hP hl hL)
theorem gp_dup {v : Value} (X : gX2 E y cc nL ret p s m meth c) (hd : decode cc pc = .ok (.dup, 1)) (hc : v.category = 1) (k : GoP E p e s m args below meth c nL Z d kc ks mc ms (pc + 1) L (v :: v :: st) h) : GoP E p e s m args below meth c nL Z d kc ks mc ms pc L (v :: st) h := by
  intro H locs ls hP hl hL
  exact lv_dup X.1 X.2.1 hd (by rw [gv_cat]; exact hc) (k H locs ls hP hl hL)
theorem gp_iload_n {j : Fin 4} {x : Int32} (X : gX2 E y cc nL ret p s m meth c) (hd : decode cc pc = .ok (.iload_n j, 1)) (hx : lgt L (j : Nat) = some (.int x)) (k : GoP E p e s m args below meth c nL Z d kc ks mc ms (pc + 1) L (.int x :: st) h) : GoP E p e s m args below meth c nL Z d kc ks mc ms pc L st h := by
  intro H locs ls hP hl hL
  exact lv_iload_n X.1 X.2.1 hd rfl (hL.2.2 _ _ hx) (k H locs ls hP hl hL)
theorem gp_aload_n {j : Fin 4} {x : Nat} (X : gX2 E y cc nL ret p s m meth c) (hd : decode cc pc = .ok (.aload_n j, 1)) (hx : lgt L (j : Nat) = some (.ref x)) (k : GoP E p e s m args below meth c nL Z d kc ks mc ms (pc + 1) L (.ref x :: st) h) : GoP E p e s m args below meth c nL Z d kc ks mc ms pc L st h := by
  intro H locs ls hP hl hL
  exact lv_aload_n X.1 X.2.1 hd rfl (hL.2.2 _ _ hx) (k H locs ls hP hl hL)
theorem gp_astore_n {j : Fin 4} {x : Nat} {L' : List (Option Value)} (X : gX2 E y cc nL ret p s m meth c) (hd : decode cc pc = .ok (.astore_n j, 1)) (hj : Nat.blt (j : Nat) nL = true) (h2 : lno2 L (j : Nat) = true) (hs : lset L (j : Nat) (some (.ref x)) = L') (k : GoP E p e s m args below meth c nL Z d kc ks mc ms (pc + 1) L' st h) : GoP E p e s m args below meth c nL Z d kc ks mc ms pc L (.ref x :: st) h := by
  intro H locs ls hP hl hL
  refine lv_astore_n X.1 X.2.1 hd rfl hL.has (Nat.blt_eq ▸ hj) rfl fun ls' hL' => ?_
  subst hs
  exact (k H locs ls' hP hl (gL.set1 (v := .ref x) h2 hL'))
theorem gp_istore_n {j : Fin 4} {x : Int32} {L' : List (Option Value)} (X : gX2 E y cc nL ret p s m meth c) (hd : decode cc pc = .ok (.istore_n j, 1)) (hj : Nat.blt (j : Nat) nL = true) (h2 : lno2 L (j : Nat) = true) (hs : lset L (j : Nat) (some (.int x)) = L') (k : GoP E p e s m args below meth c nL Z d kc ks mc ms (pc + 1) L' st h) : GoP E p e s m args below meth c nL Z d kc ks mc ms pc L (.int x :: st) h := by
  intro H locs ls hP hl hL
  refine lv_istore_n X.1 X.2.1 hd rfl hL.has (Nat.blt_eq ▸ hj) rfl fun ls' hL' => ?_
  subst hs
  exact (k H locs ls' hP hl (gL.set1 (v := .int x) h2 hL'))
theorem gp_iinc {j : Nat} {n : Int} {x v : Int32} {L' : List (Option Value)} (X : gX2 E y cc nL ret p s m meth c) (hd : decode cc pc = .ok (.iinc j n, 3)) (hx : lgt L j = some (.int x)) (hv : x + Int32.ofInt n = v) (hj : Nat.blt j nL = true) (h2 : lno2 L j = true) (hs : lset L j (some (.int v)) = L') (k : GoP E p e s m args below meth c nL Z d kc ks mc ms (pc + 3) L' st h) : GoP E p e s m args below meth c nL Z d kc ks mc ms pc L st h := by
  intro H locs ls hP hl hL
  have hm : (j, Value.int x) ∈ lprs E.2.2.2 L := lprs_mem.mpr ⟨.int x, hx, rfl⟩
  obtain ⟨q, hq⟩ := List.getElem?_of_mem hm
  refine lv_iinc X.1 X.2.1 hd hL.has hq hv (Nat.blt_eq ▸ hj) rfl fun ls' hL' => ?_
  subst hs
  exact (k H locs ls' hP hl (gL.set1 (v := .int v) h2 hL'))
theorem gp_icmp_eq {x z : Int32} {off : Int} {tgt : Nat} (X : gX2 E y cc nL ret p s m meth c) (hd : decode cc pc = .ok (.if_icmp .eq off, 3)) (ht : (pc : Int) + off = (tgt : Int)) (kt : x = z → GoP E p e s m args below meth c nL Z d kc ks mc ms tgt L st h) (kf : ¬ x = z → GoP E p e s m args below meth c nL Z d kc ks mc ms (pc + 3) L st h) : GoP E p e s m args below meth c nL Z d kc ks mc ms pc L (.int z :: .int x :: st) h := by
  intro H locs ls hP hl hL
  exact lv_icmp_eq X.1 X.2.1 hd ht (fun q => kt q H locs ls hP hl hL) (fun q => kf q H locs ls hP hl hL)
theorem gp_icmp_gt {x z : Int32} {off : Int} {tgt : Nat} (X : gX2 E y cc nL ret p s m meth c) (hd : decode cc pc = .ok (.if_icmp .gt off, 3)) (ht : (pc : Int) + off = (tgt : Int)) (kt : z < x → GoP E p e s m args below meth c nL Z d kc ks mc ms tgt L st h) (kf : ¬ z < x → GoP E p e s m args below meth c nL Z d kc ks mc ms (pc + 3) L st h) : GoP E p e s m args below meth c nL Z d kc ks mc ms pc L (.int z :: .int x :: st) h := by
  intro H locs ls hP hl hL
  exact lv_icmp_gt X.1 X.2.1 hd ht (fun q => kt q H locs ls hP hl hL) (fun q => kf q H locs ls hP hl hL)
theorem gp_if_eq {x : Int32} {off : Int} {tgt : Nat} (X : gX2 E y cc nL ret p s m meth c) (hd : decode cc pc = .ok (.ifCond .eq off, 3)) (ht : (pc : Int) + off = (tgt : Int)) (kt : x = 0 → GoP E p e s m args below meth c nL Z d kc ks mc ms tgt L st h) (kf : ¬ x = 0 → GoP E p e s m args below meth c nL Z d kc ks mc ms (pc + 3) L st h) : GoP E p e s m args below meth c nL Z d kc ks mc ms pc L (.int x :: st) h := by
  intro H locs ls hP hl hL
  exact lv_if_eq X.1 X.2.1 hd ht (fun q => kt q H locs ls hP hl hL) (fun q => kf q H locs ls hP hl hL)
theorem gp_goto {off : Int} {tgt : Nat} (X : gX2 E y cc nL ret p s m meth c) (hd : decode cc pc = .ok (.goto off, 3)) (ht : (pc : Int) + off = (tgt : Int)) (k : GoP E p e s m args below meth c nL Z d kc ks mc ms tgt L st h) : GoP E p e s m args below meth c nL Z d kc ks mc ms pc L st h := by
  intro H locs ls hP hl hL
  exact lv_goto X.1 X.2.1 hd ht (k H locs ls hP hl hL)
theorem gp_tableIn {dflt lo hi : Int} {offs : Array Int} {len : Nat} {x : Int32} {off : Int} {tgt : Nat} (X : gX2 E y cc nL ret p s m meth c) (hd : decode cc pc = .ok (.tableswitch dflt lo hi offs, len)) (h1 : ¬ x.toInt < lo) (h2 : ¬ hi < x.toInt) (ho : offs[(x.toInt - lo).toNat]? = some off) (ht : (pc : Int) + off = (tgt : Int)) (k : GoP E p e s m args below meth c nL Z d kc ks mc ms tgt L st h) : GoP E p e s m args below meth c nL Z d kc ks mc ms pc L (.int x :: st) h := by
  intro H locs ls hP hl hL
  exact lv_tableIn X.1 X.2.1 hd h1 h2 ho ht (k H locs ls hP hl hL)
theorem gp_tableOut {dflt lo hi : Int} {offs : Array Int} {len : Nat} {x : Int32} {tgt : Nat} (X : gX2 E y cc nL ret p s m meth c) (hd : decode cc pc = .ok (.tableswitch dflt lo hi offs, len)) (hx : x.toInt < lo ∨ hi < x.toInt) (ht : (pc : Int) + dflt = (tgt : Int)) (k : GoP E p e s m args below meth c nL Z d kc ks mc ms tgt L st h) : GoP E p e s m args below meth c nL Z d kc ks mc ms pc L (.int x :: st) h := by
  intro H locs ls hP hl hL
  exact lv_tableOut X.1 X.2.1 hd hx ht (k H locs ls hP hl hL)
theorem gp_lcmp {a b : Int64} (X : gX2 E y cc nL ret p s m meth c) (hd : decode cc pc = .ok (.lcmp, 1)) (k : GoP E p e s m args below meth c nL Z d kc ks mc ms (pc + 1) L (.int (lg_cmp a b) :: st) h) : GoP E p e s m args below meth c nL Z d kc ks mc ms pc L (.long b :: .long a :: st) h := by
  intro H locs ls hP hl hL
  exact W.lcmp X.1 X.2.1 hd (k H locs ls hP hl hL)
theorem gp_new {idx ci N : Nat} {C : String} {T : u_T} {ty : Nat → FieldType} {fs : List Value} {st' : List Value} (X : gX2 E y cc nL ret p s m meth c) (hd : decode cc pc = .ok (.new idx, 3)) (hcl : gcl ci C T N ty) (hl1 : Cond.classLink y.cls idx C ∈ lw_tbl) (hl2 : Cond.instantiable C N ∈ lw_tbl) (hl3 : Cond.initialized C ∈ lw_tbl) (hfs : ∀ b j, j < N → defaultValue (ty j) = vp_V (fs.map (gv b)) j) (hc1 : Nat.ble (kc + 1) mc = true) (hs1 : Nat.ble (ks + N) ms = true) (kk : GoP E p e s m args below meth c nL Z d (kc + 1) (ks + N) mc ms (pc + 3) L (.ref h.length :: st) (h ++ [.inr (ci, fs)])) : GoP E p e s m args below meth c nL Z d kc ks mc ms pc L st h := by
  intro H locs ls hP hl hL
  obtain ⟨hc, hin, hty, hnm⟩ := hcl
  have hKK := X.2.2.2.2.2.2.2.1
  have hts : ∀ w ∈ u_ws C T N, w.before args s = true := fun w hw => hKK.1.1 w (hin w hw) (u_ws_good w hw) args
  have hKn := hKK.2.1 ci _ hc
  refine W.newcK X.1 X.2.1 X.2.2.2.2.2.1 (hKK.1.1 _ hl1 rfl args) (hKK.1.1 _ hl2 rfl args) (hKK.1.1 _ hl3 rfl args) rfl hd (Nat.le_of_ble_eq_true hc1) (Nat.le_of_ble_eq_true hs1) hKn.2.1 hP.1 fun H1 kC hkC e1 z1 o1 => ?_
  refine kk H1 locs ls (hP.push ⟨_, hc, (u_born ty hts (fun w hw => hw) hKn hkC e1 hty).to (hfs E.2.2.2)⟩ (by rw [z1, hP.1]) (fun q hq => o1 q (by rw [← hP.1]; exact hq))) hl hL
theorem gp_callV {a ci : Nat} {as fs : List Value} {T : u_T} {N : Nat} {st0 : List Value} (X : gX2 E y cc nL ret p s m meth c) (hd : decode cc pc = .ok (.invokevirtual idx, 3)) (hm : gmt y2 cc2 nL2 ret2 n) (hk : glk y.cls idx y2) (hi : Cond.instanceMethod y2 ∈ lw_tbl) (hs : Cond.selects y2.cls y2 y2 ∈ lw_tbl) (hci : vwCl[ci]? = some (y2.cls, T, N)) (hst : st0 = as.reverse ++ .ref a :: st) (hn : as.length = n) (ho : hg h a = some (.inr (ci, fs))) (hR : Ret E y2 cc2 nL2 ret2 d mc2 ms2 (.ref a :: as) h Q2) (h8 : Nat.ble ((st.map fun v => v.category).sum) 8 = true) (hc1 : Nat.ble (kc + mc2) mc = true) (hs1 : Nat.ble (ks + ms2) ms = true)
    (kk : ∀ (r : Option Value) (h2 : gH), Q2 r h2 → GoP E p e s m args below meth c nL Z (d + 1) (kc + mc2) (ks + ms2) mc ms (pc + 3) L (r.toList ++ st) h2) : GoP E p e s m args below meth c nL Z (d + 1) kc ks mc ms pc L st0 h := by
  intro H locs ls hP hl hL
  have hKK := X.2.2.2.2.2.2.2.1
  have hrecv : ∃ cell : Cell, H[E.2.2.2 + a]? = some cell ∧ cell.vm.isStatics = false ∧ s.vm.findClass y2.cls = some cell.cls := va_recv (q := (y2.cls, T, N)) hKK.2 (hP.one ho) hci (q0 := 0) rfl
  have hW8 : 2 * (F0 m pc ls (st0.map (gv E.2.2.2))).monitorRoom + ((st.map (gv E.2.2.2)).map fun v => v.category).sum ≤ 8 := by
    rw [cat_map]
    exact lv_room (Nat.le_of_ble_eq_true h8)
  have hstk : (F0 m pc ls (st0.map (gv E.2.2.2))).stack = (as.map (gv E.2.2.2)).reverse ++ .ref (E.2.2.2 + a) :: st.map (gv E.2.2.2) := by
    subst hst
    show (as.reverse ++ .ref a :: st).map (gv E.2.2.2) = _
    rw [List.map_append, List.map_reverse]
    rfl
  have key : va_Run p E.1 e (gR (d + 1) mc ms) s m args below meth c H locs kc ks mc2 ms2 (F0 m pc ls (st0.map (gv E.2.2.2))) (st.map (gv E.2.2.2)) (gQ E Q2 ((Value.ref a :: as).map (gv E.2.2.2)).toArray) (fun q => E.2.2.2 ≤ q) := by
    rcases hk with hk | ⟨host, hk⟩
    · exact va_runV (C := y2.cls) (b := E.2.2.2 + a) (As := as.map (gv E.2.2.2)) ⟨X.1, X.2.1, X.2.2.1, X.2.2.2.2.2.1, fun w (hw : w ∈ ([] : List Cond)) => absurd hw List.not_mem_nil⟩ hR ⟨g_callB hKK.1 hm hk ⟨Nat.le_refl _, Nat.le_refl _⟩, hKK.1.1 _ hi rfl args, hKK.1.1 _ hs rfl args⟩ ⟨pc_blind, hrecv, fun U hU hW => pc_at (as := .ref a :: as) hKK hP hU hW⟩ rfl (by rw [List.length_map]; exact hn) hL.1 hstk hW8 hd ⟨Nat.le_of_ble_eq_true hc1, Nat.le_of_ble_eq_true hs1⟩
    · exact va_runVN (C := y2.cls) (b := E.2.2.2 + a) (As := as.map (gv E.2.2.2)) ⟨X.1, X.2.1, X.2.2.1, X.2.2.2.2.2.1, fun w (hw : w ∈ ([] : List Cond)) => absurd hw List.not_mem_nil⟩ hR ⟨g_callN hKK.1 hm hk ⟨Nat.le_refl _, Nat.le_refl _⟩, hKK.1.1 _ hi rfl args, hKK.1.1 _ hs rfl args⟩ ⟨pc_blind, hrecv, fun U hU hW => pc_at (as := .ref a :: as) hKK hP hU hW⟩ rfl (by rw [List.length_map]; exact hn) hL.1 hstk hW8 hd ⟨Nat.le_of_ble_eq_true hc1, Nat.le_of_ble_eq_true hs1⟩
  refine g_run key hP hl fun r h2 H2 locs2 hq hP2 hl2 => ?_
  rw [toL]
  exact kk r h2 hq H2 locs2 ls hP2 hl2 hL
theorem gp_callI {a : Nat} {as : List Value} {st0 : List Value} (X : gX2 E y cc nL ret p s m meth c) (hd : decode cc pc = .ok (.invokespecial idx, 3)) (hm : gmt y2 cc2 nL2 none n) (hk : glk y.cls idx y2) (hi : Cond.instanceMethod y2 ∈ lw_tbl) (hnm : y2.name = "<init>") (hst : st0 = as.reverse ++ .ref a :: st) (hn : as.length = n) (hR : Ret E y2 cc2 nL2 none d mc2 ms2 (.ref a :: as) h Q2) (h8 : Nat.ble ((st.map fun v => v.category).sum) 8 = true) (hc1 : Nat.ble (kc + mc2) mc = true) (hs1 : Nat.ble (ks + ms2) ms = true)
    (kk : ∀ (r : Option Value) (h2 : gH), Q2 r h2 → GoP E p e s m args below meth c nL Z (d + 1) (kc + mc2) (ks + ms2) mc ms (pc + 3) L (r.toList ++ st) h2) : GoP E p e s m args below meth c nL Z (d + 1) kc ks mc ms pc L st0 h := by
  intro H locs ls hP hl hL
  have hKK := X.2.2.2.2.2.2.2.1
  have hW8 : 2 * (F0 m pc ls (st0.map (gv E.2.2.2))).monitorRoom + ((st.map (gv E.2.2.2)).map fun v => v.category).sum ≤ 8 := by
    rw [cat_map]
    exact lv_room (Nat.le_of_ble_eq_true h8)
  have hstk : (F0 m pc ls (st0.map (gv E.2.2.2))).stack = (as.map (gv E.2.2.2)).reverse ++ .ref (E.2.2.2 + a) :: st.map (gv E.2.2.2) := by
    subst hst
    show (as.reverse ++ .ref a :: st).map (gv E.2.2.2) = _
    rw [List.map_append, List.map_reverse]
    rfl
  have key : va_Run p E.1 e (gR (d + 1) mc ms) s m args below meth c H locs kc ks mc2 ms2 (F0 m pc ls (st0.map (gv E.2.2.2))) (st.map (gv E.2.2.2)) (gQ E Q2 ((Value.ref a :: as).map (gv E.2.2.2)).toArray) (fun q => E.2.2.2 ≤ q) := by
    rcases hk with hk | ⟨host, hk⟩
    · exact va_runI (b := E.2.2.2 + a) (As := as.map (gv E.2.2.2)) ⟨X.1, X.2.1, X.2.2.1, X.2.2.2.2.2.1, fun w (hw : w ∈ ([] : List Cond)) => absurd hw List.not_mem_nil⟩ hR ⟨g_callB hKK.1 hm hk ⟨Nat.le_refl _, Nat.le_refl _⟩, hnm, hKK.1.1 _ hi rfl args⟩ ⟨pc_blind, fun U hU hW => pc_at (as := .ref a :: as) hKK hP hU hW⟩ rfl (by rw [List.length_map]; exact hn) hL.1 hstk hW8 hd ⟨Nat.le_of_ble_eq_true hc1, Nat.le_of_ble_eq_true hs1⟩
    · exact va_runIN (b := E.2.2.2 + a) (As := as.map (gv E.2.2.2)) ⟨X.1, X.2.1, X.2.2.1, X.2.2.2.2.2.1, fun w (hw : w ∈ ([] : List Cond)) => absurd hw List.not_mem_nil⟩ hR ⟨g_callN hKK.1 hm hk ⟨Nat.le_refl _, Nat.le_refl _⟩, hnm, hKK.1.1 _ hi rfl args⟩ ⟨pc_blind, fun U hU hW => pc_at (as := .ref a :: as) hKK hP hU hW⟩ rfl (by rw [List.length_map]; exact hn) hL.1 hstk hW8 hd ⟨Nat.le_of_ble_eq_true hc1, Nat.le_of_ble_eq_true hs1⟩
  refine g_run key hP hl fun r h2 H2 locs2 hq hP2 hl2 => ?_
  rw [toL]
  exact kk r h2 hq H2 locs2 ls hP2 hl2 hL
theorem gp_topi_eq {a x : Int32} (e9 : a = x) (k : GoP E p e s m args below meth c nL Z d kc ks mc ms pc L (.int x :: st) h) : GoP E p e s m args below meth c nL Z d kc ks mc ms pc L (.int a :: st) h := e9 ▸ k
theorem gp_heap {h2 : gH} (e9 : h = h2) (k : GoP E p e s m args below meth c nL Z d kc ks mc ms pc L st h2) : GoP E p e s m args below meth c nL Z d kc ks mc ms pc L st h := e9 ▸ k
theorem gp_script {j : Fin 4} {b : Nat} (X : gX2 E y cc nL ret p s m meth c) (hd : decode cc pc = .ok (.aload_n j, 1)) (hx : lgt L (j : Nat) = some (.retAddr b)) (k : GoP E p e s m args below meth c nL Z d kc ks mc ms (pc + 1) L (.retAddr b :: st) h) : GoP E p e s m args below meth c nL Z d kc ks mc ms pc L st h := by
  intro H locs ls hP hl hL
  exact lv_aload_n X.1 X.2.1 hd rfl (hL.2.2 _ _ hx) (k H locs ls hP hl hL)
theorem gp_S {b : Nat} {H0 H : Heap} {locs : List Loc} (hP : gP E h H0 H) (hb : b < E.2.2.2) (hl : ∀ q ∈ locs, E.2.2.2 ≤ q.base) (h0 : H0.size = E.2.2.2) : va_S (fun q => E.2.2.2 ≤ q) H0 H locs :=
  ⟨by rw [hP.1, h0]; exact Nat.le_add_right _ _, fun q h1 h2 => hP.2.2 q (by omega), hl⟩
theorem gp_sld {b N k : Nat} {xs : Nat → Int32} (X : gX2 E y cc nL ret p s m meth c) (hd : decode cc pc = .ok (.iaload, 1)) (hX : va_X b N xs s s.heap) (hb : b < E.2.2.2) (h0 : s.heap.size = E.2.2.2) (hk : k < N) (hN : N ≤ 320) (kk : GoP E p e s m args below meth c nL Z d kc ks mc ms (pc + 1) L (.int (xs k) :: st) h) : GoP E p e s m args below meth c nL Z d kc ks mc ms pc L (.int (nI k) :: .retAddr b :: st) h := by
  intro H locs ls hP hl hL
  refine va_sld X.1 X.2.1 hX (by rw [h0]; exact hb) (Nat.not_le.mpr hb) (gp_S hP hb hl h0) (vp_in_nI hk (by omega)) hd ?_
  rw [nI_clamp (by omega)]
  exact kk H locs ls hP hl hL
theorem gp_slen {b N : Nat} {xs : Nat → Int32} (X : gX2 E y cc nL ret p s m meth c) (hd : decode cc pc = .ok (.arraylength, 1)) (hX : va_X b N xs s s.heap) (hb : b < E.2.2.2) (h0 : s.heap.size = E.2.2.2) (kk : GoP E p e s m args below meth c nL Z d kc ks mc ms (pc + 1) L (.int (nI N) :: st) h) : GoP E p e s m args below meth c nL Z d kc ks mc ms pc L (.retAddr b :: st) h := by
  intro H locs ls hP hl hL
  exact va_slen X.1 X.2.1 hX (by rw [h0]; exact hb) (Nat.not_le.mpr hb) (gp_S hP hb hl h0) hd (kk H locs ls hP hl hL)
end LawRows
