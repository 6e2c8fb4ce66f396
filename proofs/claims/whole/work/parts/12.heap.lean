/-! the heap's instructions -/
theorem u_ws_good {C : String} {T : u_T} {N : Nat} : ∀ w ∈ u_ws C T N, goodWord w = true := by
  intro w hw
  obtain ⟨k, -, rfl⟩ := List.mem_map.mp hw
  unfold u_lay
  split <;> rfl
/-- a class: its number, name, fields, their types; what the tables say of it -/
def gcl (ci : Nat) (C : String) (T : u_T) (N : Nat) (ty : Nat → FieldType) : Prop := vwCl[ci]? = some (C, T, N) ∧ (∀ w ∈ u_ws C T N, w ∈ lw_tbl) ∧ (∀ k, k < N → parseFieldDescriptor (T k).2.2.1 = some (ty k)) ∧ (∀ a, a < N → ∀ b, b < N → a ≠ b → (T a).2.1 ≠ (T b).2.1)
/-- the entry idx of own's pool is the field k of the class ci -/
def gfd (own : String) (idx ci k : Nat) (ty : FieldType) (fin : Bool) : Prop := ∃ (C : String) (T : u_T) (N : Nat) (ty0 : Nat → FieldType), gcl ci C T N ty0 ∧ k < N ∧ ty0 k = ty ∧ (T k).2.2.2 = fin ∧ (T k).1 = C ∧ Cond.fieldLink own idx C (T k).2.1 (T k).2.2.1 ∈ lw_tbl
theorem gP.one {E : gE} {h : gH} {H0 H : Heap} {a : Nat} {c : gC} (hP : gP E h H0 H) (ho : hg h a = some c) : va_P E.2.1 vwCl [(E.2.2.2 + a, gx E c)] H := by
  intro k q hk
  have hz : k < 1 := (List.getElem?_eq_some_iff.mp hk).1
  rw [show k = 0 by omega] at hk
  cases hk
  exact hP.2.1 a c ho
theorem gP.put {E : gE} {h : gH} {H0 H H1 : Heap} {a : Nat} {c c2 : gC} (hP : gP E h H0 H) (ho : hg h a = some c) (hc : va_at E.2.1 vwCl (E.2.2.2 + a, gx E c2) H1) (z : H1.size = H.size) (oq : ∀ q : Nat, q ≠ E.2.2.2 + a → H1[q]? = H[q]?) : gP E (hs h a c2) H0 H1 := by
  refine ⟨by rw [z, hs_len]; exact hP.1, fun k d hk => ?_, fun q hq => by rw [oq q (by omega)]; exact hP.2.2 q hq⟩
  rcases hg_hs h a c2 k d hk with ⟨rfl, rfl⟩ | ⟨h1, h2⟩
  · exact hc
  · exact (hP.2.1 k d h2).kept (oq _ (by show E.2.2.2 + k ≠ _; omega))
theorem gP.push {E : gE} {h : gH} {H0 H H1 : Heap} {c : gC} (hP : gP E h H0 H) (hc : va_at E.2.1 vwCl (E.2.2.2 + h.length, gx E c) H1) (z : H1.size = H.size + 1) (oq : ∀ q : Nat, q < H.size → H1[q]? = H[q]?) : gP E (h ++ [c]) H0 H1 := by
  refine ⟨by rw [z, hP.1]; simp; omega, fun k d hk => ?_, fun q hq => by rw [oq q (by rw [hP.1]; omega)]; exact hP.2.2 q hq⟩
  rcases hg_app h c k d hk with ⟨rfl, rfl⟩ | ⟨h1, h2⟩
  · exact hc
  · exact (hP.2.1 k d h2).kept (oq _ (hP.2.1 k d h2).lt)
theorem locs_put {b a i : Nat} {locs : List Loc} (h : ∀ q ∈ locs, b ≤ q.base) : ∀ q ∈ locs ++ [⟨b + a, i⟩], b ≤ q.base := by
  intro q hq
  rcases List.mem_append.mp hq with h1 | h1
  · exact h q h1
  · rw [List.mem_singleton.mp h1]
    exact Nat.le_add_right b a
section Heap
variable {E : gE} {y : MethodName} {cc : ByteArray} {nL : Nat} {ret : Option FieldType} {d kc ks mc ms pc : Nat} {L : List (Option Value)} {st : List Value} {h : gH} {Q : Option Value → gH → Prop}
theorem go_get {idx ci k a : Nat} {ty : FieldType} {fin : Bool} {fs : List Value} {v : Value} (hd : decode cc pc = .ok (.getfield idx, 3)) (hf : gfd y.cls idx ci k ty fin) (ho : hg h a = some (.inr (ci, fs))) (hv : fs[k]? = some v) (kk : Go E y cc nL ret d kc ks mc ms (pc + 3) L (v :: st) h Q) : Go E y cc nL ret d kc ks mc ms pc L (.ref a :: st) h Q := by
  intro p e s m args below meth c H locs ls X hP hl hL
  obtain ⟨C, T, N, ty0, ⟨hc, hin, hty, hnm⟩, hk, e1, e2, e3, hlk⟩ := hf
  have hK := X.2.2.2.2.2.2.2.1
  have hPw := hP.one ho
  refine va_get (D := E.2.1) (v := gv E.2.2.2 v) X.1 X.2.1 (fun w hw => hK.1.1 w (hin w hw) (u_ws_good w hw) args) (fun w hw => hw) X.2.2.2.2.2.1 hK.2 hPw 0 rfl hc k hk (hK.1.1 _ hlk rfl args) (fun x hx => by rw [e3] at hx; exact hx) ?_ hd (kk p e s m args below meth c H locs ls X hP hl hL)
  show (fs.map (gv E.2.2.2))[k]? = _
  rw [List.getElem?_map, hv]
  rfl
theorem go_put {idx ci k a : Nat} {ty : FieldType} {fs : List Value} {v : Value} (hd : decode cc pc = .ok (.putfield idx, 3)) (hf : gfd y.cls idx ci k ty false) (hn : ∀ b, narrow ty (gv b v) = gv b v) (hfit : ∀ b, fits ty (gv b v) = true) (ho : hg h a = some (.inr (ci, fs))) (hlen : Nat.blt k fs.length = true) (kk : Go E y cc nL ret d kc ks mc ms (pc + 3) L st (hs h a (.inr (ci, fs.set k v))) Q) : Go E y cc nL ret d kc ks mc ms pc L (v :: .ref a :: st) h Q := by
  intro p e s m args below meth c H locs ls X hP hl hL
  obtain ⟨C, T, N, ty0, ⟨hc, hin, hty, hnm⟩, hk, e1, e2, e3, hlk⟩ := hf
  have hKK := X.2.2.2.2.2.2.2.1
  have hK := hKK.2
  have hts : ∀ w ∈ u_ws C T N, w.before args s = true := fun w hw => hKK.1.1 w (hin w hw) (u_ws_good w hw) args
  have hap := va_apart (own := C) hts (fun w hw => hw) ty0 hty hnm hK hc
  obtain ⟨r, h1, cell, q1, q2, q3, q4⟩ := hP.2.1 a _ ho
  have hr : r = (C, T, N) := Option.some.inj (h1.symm.trans hc)
  subst hr
  obtain ⟨hS, hfc, kC, hkC, hkind⟩ := hK.1 ci _ hc
  obtain ⟨cf, kf, fi, f, hi, hsl⟩ := hS k hk
  have hlay := hts _ (u_in_lay hk)
  unfold u_lay at hlay
  rw [if_neg (by rw [e2]; decide)] at hlay
  have hst := (u_facts hfc hkC (u_lays hts (fun w hw => hw) hk) hi).1
  have h6 := u_store hfc hkC hkind hlay hi ((hty k hk).trans (by rw [e1])) (hn E.2.2.2) (hfit E.2.2.2)
  refine W.putK X.1 X.2.1 (f := f) (ref := C) ⟨X.2.2.2.2.2.1, hKK.1.1 _ hlk rfl args, ⟨cf, kf, fi, by rw [e3] at hi; exact hi⟩, hst⟩ (by rw [q2]; exact h6) q1 q3 (by rw [hsl]; exact k2_hasslot (q4 k hk)) rfl rfl hd fun H' g1 g2 g3 => ?_
  rw [hsl] at g1 ⊢
  have hlt : k < (fs.map (gv E.2.2.2)).length := by rw [List.length_map]; exact Nat.blt_eq ▸ hlen
  refine kk p e s m args below meth c H' _ ls X (hP.put ho ?_ g2 g3) (locs_put hl) hL
  refine ⟨_, hc, t_OB.to (V := updV (vp_V (fs.map (gv E.2.2.2))) k (gv E.2.2.2 v)) ⟨_, g1, q2, q3, t_set q4 hap hk _⟩ (fun j _ => ?_)⟩
  show _ = vp_V ((fs.set k v).map (gv E.2.2.2)) j
  rw [List.map_set]
  exact vp_updV_set hlt _ j
theorem go_putF {idx ci k a : Nat} {ty : FieldType} {fs : List Value} {v : Value} (hd : decode cc pc = .ok (.putfield idx, 3)) (hf : gfd y.cls idx ci k ty true) (hy : y.name = "<init>") (hw : ∃ T N, vwCl[ci]? = some (y.cls, T, N)) (hn : ∀ b, narrow ty (gv b v) = gv b v) (hfit : ∀ b, fits ty (gv b v) = true) (ho : hg h a = some (.inr (ci, fs))) (hlen : Nat.blt k fs.length = true) (kk : Go E y cc nL ret d kc ks mc ms (pc + 3) L st (hs h a (.inr (ci, fs.set k v))) Q) : Go E y cc nL ret d kc ks mc ms pc L (v :: .ref a :: st) h Q := by
  intro p e s m args below meth c H locs ls X hP hl hL
  obtain ⟨C, T, N, ty0, ⟨hc, hin, hty, hnm⟩, hk, e1, e2, e3, hlk⟩ := hf
  have hCy : C = y.cls := by
    obtain ⟨T', N', h9⟩ := hw
    have := Option.some.inj (hc.symm.trans h9)
    exact congrArg Prod.fst this
  have hKK := X.2.2.2.2.2.2.2.1
  have hK := hKK.2
  have hts : ∀ w ∈ u_ws C T N, w.before args s = true := fun w hw => hKK.1.1 w (hin w hw) (u_ws_good w hw) args
  have hap := va_apart (own := C) hts (fun w hw => hw) ty0 hty hnm hK hc
  obtain ⟨r, h1, cell, q1, q2, q3, q4⟩ := hP.2.1 a _ ho
  have hr : r = (C, T, N) := Option.some.inj (h1.symm.trans hc)
  subst hr
  obtain ⟨hS, hfc, kC, hkC, hkind⟩ := hK.1 ci _ hc
  obtain ⟨cf, kf, fi, f, hi, hsl⟩ := hS k hk
  have hlay := hts _ (u_in_lay hk)
  unfold u_lay at hlay
  rw [if_pos e2] at hlay
  have hst := (u_facts hfc hkC (u_lays hts (fun w hw => hw) hk) hi).1
  have hcf : m.cls = cf := by
    obtain ⟨_, _, c', _, _, _, -, -, hf', -, -, -, hown2, -⟩ := Cond.laysFinal_spec hlay
    have e9 : c' = cf := by have := hi.symm.trans hf'; simp at this; exact this.1.symm
    rw [e3, hCy] at hown2
    rw [← e9]
    exact Option.some.inj (X.2.2.2.2.2.1.symm.trans hown2)
  have h6 := u_fits hfc hkC hkind (Or.inr hlay) hi ((hty k hk).trans (by rw [e1])) (hn E.2.2.2) (hfit E.2.2.2)
  refine W.putFinK X.1 X.2.1 (ref := C) X.2.2.2.2.2.1 (hKK.1.1 _ hlk rfl args) (by rw [e3] at hi; exact hi) hst hcf (X.2.2.2.2.2.2.1.trans hy) (by rw [q2]; exact h6) q1 q3 (by rw [hsl]; exact k2_hasslot (q4 k hk)) rfl rfl hd fun H' g1 g2 g3 => ?_
  rw [hsl] at g1 ⊢
  have hlt : k < (fs.map (gv E.2.2.2)).length := by rw [List.length_map]; exact Nat.blt_eq ▸ hlen
  refine kk p e s m args below meth c H' _ ls X (hP.put ho ?_ g2 g3) (locs_put hl) hL
  refine ⟨_, hc, t_OB.to (V := updV (vp_V (fs.map (gv E.2.2.2))) k (gv E.2.2.2 v)) ⟨_, g1, q2, q3, t_set q4 hap hk _⟩ (fun j _ => ?_)⟩
  show _ = vp_V ((fs.set k v).map (gv E.2.2.2)) j
  rw [List.map_set]
  exact vp_updV_set hlt _ j
/-! arrays -/
theorem go_iald {a n : Nat} {f : Nat → Int32} {i : Int32} (hd : decode cc pc = .ok (.iaload, 1)) (ho : hg h a = some (.inl (0, n, .inl f))) (hi : vp_in i n) (kk : Go E y cc nL ret d kc ks mc ms (pc + 1) L (.int (f i.toNatClampNeg) :: st) h Q) : Go E y cc nL ret d kc ks mc ms pc L (.int i :: .ref a :: st) h Q := by
  intro p e s m args below meth c H locs ls X hP hl hL
  exact va_iald (D := E.2.1) X.1 X.2.1 X.2.2.2.2.2.2.2.1.2 (hP.one ho) 0 0 rfl rfl hi hd (kk p e s m args below meth c H locs ls X hP hl hL)
theorem go_lald {a n : Nat} {f : Nat → Int64} {i : Int32} (hd : decode cc pc = .ok (.laload, 1)) (ho : hg h a = some (.inl (1, n, .inr (.inl f)))) (hi : vp_in i n) (kk : Go E y cc nL ret d kc ks mc ms (pc + 1) L (.long (f i.toNatClampNeg) :: st) h Q) : Go E y cc nL ret d kc ks mc ms pc L (.int i :: .ref a :: st) h Q := by
  intro p e s m args below meth c H locs ls X hP hl hL
  exact va_lald (D := E.2.1) X.1 X.2.1 X.2.2.2.2.2.2.2.1.2 (hP.one ho) 0 1 rfl rfl hi hd (kk p e s m args below meth c H locs ls X hP hl hL)
theorem go_zald {a n : Nat} {f : Nat → Int32} {i : Int32} (hd : decode cc pc = .ok (.baload, 1)) (ho : hg h a = some (.inl (2, n, .inl f))) (hi : vp_in i n) (kk : Go E y cc nL ret d kc ks mc ms (pc + 1) L (.int (f i.toNatClampNeg) :: st) h Q) : Go E y cc nL ret d kc ks mc ms pc L (.int i :: .ref a :: st) h Q := by
  intro p e s m args below meth c H locs ls X hP hl hL
  exact va_zald (D := E.2.1) X.1 X.2.1 X.2.2.2.2.2.2.2.1.2 (hP.one ho) 0 2 rfl rfl hi hd (kk p e s m args below meth c H locs ls X hP hl hL)
theorem go_aald {a n : Nat} {f : Nat → Option Nat} {i : Int32} {q : Nat} (hd : decode cc pc = .ok (.aaload, 1)) (ho : hg h a = some (.inl (3, n, .inr (.inr (.inr (.inr f)))))) (hi : vp_in i n) (hq : f i.toNatClampNeg = some q) (kk : Go E y cc nL ret d kc ks mc ms (pc + 1) L (.ref q :: st) h Q) : Go E y cc nL ret d kc ks mc ms pc L (.int i :: .ref a :: st) h Q := by
  intro p e s m args below meth c H locs ls X hP hl hL
  refine va_aldq (D := E.2.1) X.1 X.2.1 X.2.2.2.2.2.2.2.1.2 (hP.one ho) 0 3 rfl rfl hi hd ?_
  show W _ _ _ _ _ _ _ _ _ _ _ _ _ _ _ (F0 m (pc + 1) ls (va_rf (gr E.2.2.2 (f i.toNatClampNeg)) :: st.map (gv E.2.2.2)))
  rw [hq]
  exact kk p e s m args below meth c H locs ls X hP hl hL
theorem go_alen {a t n : Nat} {f : (Nat → Int32) ⊕ (Nat → Int64) ⊕ (Nat → UInt32) ⊕ (Nat → UInt64) ⊕ (Nat → Option Nat)} {v : Int32} (hd : decode cc pc = .ok (.arraylength, 1)) (ho : hg h a = some (.inl (0, n, f))) (hv : Int32.ofNat n = v) (kk : Go E y cc nL ret d kc ks mc ms (pc + 1) L (.int v :: st) h Q) : Go E y cc nL ret d kc ks mc ms pc L (.ref a :: st) h Q := by
  intro p e s m args below meth c H locs ls X hP hl hL
  exact va_alen (D := E.2.1) X.1 X.2.1 X.2.2.2.2.2.2.2.1.2 (hP.one ho) 0 0 rfl (ty := .int) rfl hv hd (kk p e s m args below meth c H locs ls X hP hl hL)
theorem upd_V {f : Nat → Int32} {i : Nat} {x : Int32} : updV (fun j => Value.int (f j)) i (.int x) = fun j => Value.int (upd f i x j) := by
  funext q
  by_cases hq : q = i
  · subst hq
    simp [updV, upd]
  · simp [updV, upd, hq]
theorem upd_VL {f : Nat → Int64} {i : Nat} {x : Int64} : updV (fun j => Value.long (f j)) i (.long x) = fun j => Value.long (vp_updL f i x j) := by
  funext q
  by_cases hq : q = i
  · subst hq
    simp [updV, vp_updL]
  · simp [updV, vp_updL, hq]
theorem go_iast {a n : Nat} {f : Nat → Int32} {i x : Int32} (hd : decode cc pc = .ok (.iastore, 1)) (ho : hg h a = some (.inl (0, n, .inl f))) (hi : vp_in i n) (kk : Go E y cc nL ret d kc ks mc ms (pc + 1) L st (hs h a (.inl (0, n, .inl (upd f i.toNatClampNeg x)))) Q) : Go E y cc nL ret d kc ks mc ms pc L (.int x :: .int i :: .ref a :: st) h Q := by
  intro p e s m args below meth c H locs ls X hP hl hL
  have hc : H[E.2.2.2 + a]? = some (arrV (E.2.2.1 0) n (fun j => .int (f j))) := hP.2.1 a _ ho
  refine W.iast X.1 X.2.1 hc ((X.2.2.2.2.2.2.2.1.2.2 0 (E.2.2.1 0, .int) rfl).1 n (fun j => .int (f j))) (fun q => by cases q) (by rw [arrV_size]; exact hi) rfl rfl hd fun H1 g1 g2 g3 => ?_
  refine kk p e s m args below meth c H1 _ ls X (hP.put ho ?_ g2 g3) (locs_put hl) hL
  show H1[E.2.2.2 + a]? = some (arrV (E.2.2.1 0) n (fun j => .int (upd f i.toNatClampNeg x j)))
  rw [g1, arrV_store, upd_V]
theorem go_last {a n : Nat} {f : Nat → Int64} {i : Int32} {x : Int64} (hd : decode cc pc = .ok (.lastore, 1)) (ho : hg h a = some (.inl (1, n, .inr (.inl f)))) (hi : vp_in i n) (kk : Go E y cc nL ret d kc ks mc ms (pc + 1) L st (hs h a (.inl (1, n, .inr (.inl (vp_updL f i.toNatClampNeg x))))) Q) : Go E y cc nL ret d kc ks mc ms pc L (.long x :: .int i :: .ref a :: st) h Q := by
  intro p e s m args below meth c H locs ls X hP hl hL
  have hc : H[E.2.2.2 + a]? = some (arrV (E.2.2.1 1) n (fun j => .long (f j))) := hP.2.1 a _ ho
  refine W.last X.1 X.2.1 hc ((X.2.2.2.2.2.2.2.1.2.2 1 (E.2.2.1 1, .long) rfl).1 n (fun j => .long (f j))) (fun q => by cases q) (by rw [arrV_size]; exact hi) rfl rfl hd fun H1 g1 g2 g3 => ?_
  refine kk p e s m args below meth c H1 _ ls X (hP.put ho ?_ g2 g3) (locs_put hl) hL
  show H1[E.2.2.2 + a]? = some (arrV (E.2.2.1 1) n (fun j => .long (vp_updL f i.toNatClampNeg x j)))
  rw [g1, arrV_store, upd_VL]
theorem go_zast {a n : Nat} {f : Nat → Int32} {i x : Int32} (hd : decode cc pc = .ok (.bastore, 1)) (ho : hg h a = some (.inl (2, n, .inl f))) (hi : vp_in i n) (hx : narrow .boolean (.int x) = .int x) (kk : Go E y cc nL ret d kc ks mc ms (pc + 1) L st (hs h a (.inl (2, n, .inl (upd f i.toNatClampNeg x)))) Q) : Go E y cc nL ret d kc ks mc ms pc L (.int x :: .int i :: .ref a :: st) h Q := by
  intro p e s m args below meth c H locs ls X hP hl hL
  have hc : H[E.2.2.2 + a]? = some (arrV (E.2.2.1 2) n (fun j => .int (f j))) := hP.2.1 a _ ho
  refine W.zast X.1 X.2.1 hc ((X.2.2.2.2.2.2.2.1.2.2 2 (E.2.2.1 2, .boolean) rfl).1 n (fun j => .int (f j))) (fun q => by cases q) (by rw [arrV_size]; exact hi) rfl rfl hd fun H1 g1 g2 g3 => ?_
  rw [hx] at g1
  refine kk p e s m args below meth c H1 _ ls X (hP.put ho ?_ g2 g3) (locs_put hl) hL
  show H1[E.2.2.2 + a]? = some (arrV (E.2.2.1 2) n (fun j => .int (upd f i.toNatClampNeg x j)))
  rw [g1, arrV_store, upd_V]
theorem upd_VQ {b : Nat} {f : Nat → Option Nat} {i x : Nat} : updV (fun j => va_rf (gr b (f j))) i (.ref (b + x)) = fun j => va_rf (gr b (va_up f i (some x) j)) := by
  funext q
  by_cases hq : q = i
  · subst hq
    simp [updV, va_up, gr, va_rf]
  · simp [updV, va_up, hq]
theorem go_aast {a n v ci : Nat} {f : Nat → Option Nat} {i : Int32} {vs : List Value} {T : u_T} {N : Nat} (hd : decode cc pc = .ok (.aastore, 1)) (ho : hg h a = some (.inl (3, n, .inr (.inr (.inr (.inr f)))))) (hv : hg h v = some (.inr (ci, vs))) (hci : vwCl[ci]? = some ("SignedSheets$World", T, N)) (hi : vp_in i n) (kk : Go E y cc nL ret d kc ks mc ms (pc + 1) L st (hs h a (.inl (3, n, .inr (.inr (.inr (.inr (va_up f i.toNatClampNeg (some v)))))))) Q) : Go E y cc nL ret d kc ks mc ms pc L (.ref v :: .int i :: .ref a :: st) h Q := by
  intro p e s m args below meth c H locs ls X hP hl hL
  have hK := X.2.2.2.2.2.2.2.1.2
  have hc : H[E.2.2.2 + a]? = some (arrV (E.2.2.1 3) n (fun j => va_rf (gr E.2.2.2 (f j)))) := hP.2.1 a _ ho
  have hlt : i.toNatClampNeg < n := Nat.not_le.mp fun q => hi (Or.inr q)
  have h0 : ¬ i < 0 := fun q => hi (Or.inl q)
  obtain ⟨r', hr', cellV, g1, g2, g3, -⟩ := hP.2.1 v _ hv
  have hcls := (hK.1 ci _ hci).2
  obtain ⟨kA, comp, k1, k2, k3, -⟩ := (hK.2 3 (E.2.2.1 3, .object "SignedSheets$World") rfl).2
  have hcomp : comp = E.2.1.1 ci := Option.some.inj (k3.symm.trans hcls.1)
  subst hcomp
  obtain ⟨kC, hkC, -⟩ := id hcls.2
  refine W.aast X.1 X.2.1 hc (fun q h => by cases h) (fun h => by cases h) k1 k2 rfl hkC ⟨h0, by rw [arrV_size]; exact hlt⟩ g1 (fun q h => by rw [g3] at h; cases h) (by rw [g2]; exact hkC) (by rw [g2]; exact va_assign hcls) rfl rfl hd fun H1 e1 z oq => ?_
  refine kk p e s m args below meth c H1 _ ls X (hP.put ho ?_ z oq) (locs_put hl) hL
  show H1[E.2.2.2 + a]? = some (arrV (E.2.2.1 3) n (fun j => va_rf (gr E.2.2.2 (va_up f i.toNatClampNeg (some v) j))))
  rw [e1, arrV_store, upd_VQ]
/-! making -/
theorem go_new {idx ci N : Nat} {C : String} {T : u_T} {ty : Nat → FieldType} {fs : List Value} {st' : List Value} (hd : decode cc pc = .ok (.new idx, 3)) (hcl : gcl ci C T N ty) (hl1 : Cond.classLink y.cls idx C ∈ lw_tbl) (hl2 : Cond.instantiable C N ∈ lw_tbl) (hl3 : Cond.initialized C ∈ lw_tbl) (hfs : ∀ b j, j < N → defaultValue (ty j) = vp_V (fs.map (gv b)) j) (hc1 : Nat.ble (kc + 1) mc = true) (hs1 : Nat.ble (ks + N) ms = true) (kk : Go E y cc nL ret d (kc + 1) (ks + N) mc ms (pc + 3) L (.ref h.length :: st) (h ++ [.inr (ci, fs)]) Q) : Go E y cc nL ret d kc ks mc ms pc L st h Q := by
  intro p e s m args below meth c H locs ls X hP hl hL
  obtain ⟨hc, hin, hty, hnm⟩ := hcl
  have hKK := X.2.2.2.2.2.2.2.1
  have hts : ∀ w ∈ u_ws C T N, w.before args s = true := fun w hw => hKK.1.1 w (hin w hw) (u_ws_good w hw) args
  have hKn := hKK.2.1 ci _ hc
  refine W.newcK X.1 X.2.1 X.2.2.2.2.2.1 (hKK.1.1 _ hl1 rfl args) (hKK.1.1 _ hl2 rfl args) (hKK.1.1 _ hl3 rfl args) rfl hd (Nat.le_of_ble_eq_true hc1) (Nat.le_of_ble_eq_true hs1) hKn.2.1 hP.1 fun H1 kC hkC e1 z1 o1 => ?_
  refine kk p e s m args below meth c H1 locs ls X (hP.push ⟨_, hc, (u_born ty hts (fun w hw => hw) hKn hkC e1 hty).to (hfs E.2.2.2)⟩ (by rw [z1, hP.1]) (fun q hq => o1 q (by rw [← hP.1]; exact hq))) hl hL
theorem go_newi {n : Int32} {N : Nat} (hd : decode cc pc = .ok (.newarray .int, 2)) (hn : ¬ n < 0) (hN : n.toNatClampNeg = N) (hb : Nat.ble N 100000 = true) (hw : Cond.arrayClass .int ∈ lw_tbl) (hc1 : Nat.ble (kc + 1) mc = true) (hs1 : Nat.ble (ks + N) ms = true) (kk : Go E y cc nL ret d (kc + 1) (ks + N) mc ms (pc + 2) L (.ref h.length :: st) (h ++ [.inl (0, N, .inl (fun _ => 0))]) Q) : Go E y cc nL ret d kc ks mc ms pc L (.int n :: st) h Q := by
  intro p e s m args below meth c H locs ls X hP hl hL
  have hKK := X.2.2.2.2.2.2.2.1
  have hb' : N ≤ 100000 := Nat.le_of_ble_eq_true hb
  refine va_newaK X.1 X.2.1 (atype := .int) (hKK.1.1 _ hw rfl args) rfl hd rfl hn hN (by show N * 4 ≤ _; omega) (Nat.le_of_ble_eq_true hc1) (Nat.le_of_ble_eq_true hs1) hP.1 fun H1 cA e1 z1 o1 hA hf => ?_
  have hcA : cA = E.2.2.1 0 := Option.some.inj (hf.symm.trans (hKK.2.2 0 (E.2.2.1 0, .int) rfl).2)
  subst hcA
  exact kk p e s m args below meth c H1 locs ls X (hP.push (c := .inl (0, N, .inl (fun _ => 0))) e1 (by rw [z1, hP.1]) (fun q hq => o1 q (by rw [← hP.1]; exact hq))) hl hL
theorem go_newl {n : Int32} {N : Nat} (hd : decode cc pc = .ok (.newarray .long, 2)) (hn : ¬ n < 0) (hN : n.toNatClampNeg = N) (hb : Nat.ble N 100000 = true) (hw : Cond.arrayClass .long ∈ lw_tbl) (hc1 : Nat.ble (kc + 1) mc = true) (hs1 : Nat.ble (ks + N) ms = true) (kk : Go E y cc nL ret d (kc + 1) (ks + N) mc ms (pc + 2) L (.ref h.length :: st) (h ++ [.inl (1, N, .inr (.inl (fun _ => 0)))]) Q) : Go E y cc nL ret d kc ks mc ms pc L (.int n :: st) h Q := by
  intro p e s m args below meth c H locs ls X hP hl hL
  have hKK := X.2.2.2.2.2.2.2.1
  have hb' : N ≤ 100000 := Nat.le_of_ble_eq_true hb
  refine va_newaK X.1 X.2.1 (atype := .long) (hKK.1.1 _ hw rfl args) rfl hd rfl hn hN (by show N * 8 ≤ _; omega) (Nat.le_of_ble_eq_true hc1) (Nat.le_of_ble_eq_true hs1) hP.1 fun H1 cA e1 z1 o1 hA hf => ?_
  have hcA : cA = E.2.2.1 1 := Option.some.inj (hf.symm.trans (hKK.2.2 1 (E.2.2.1 1, .long) rfl).2)
  subst hcA
  exact kk p e s m args below meth c H1 locs ls X (hP.push (c := .inl (1, N, .inr (.inl (fun _ => 0)))) e1 (by rw [z1, hP.1]) (fun q hq => o1 q (by rw [← hP.1]; exact hq))) hl hL
theorem go_newz {n : Int32} {N : Nat} (hd : decode cc pc = .ok (.newarray .boolean, 2)) (hn : ¬ n < 0) (hN : n.toNatClampNeg = N) (hb : Nat.ble N 100000 = true) (hw : Cond.arrayClass .boolean ∈ lw_tbl) (hc1 : Nat.ble (kc + 1) mc = true) (hs1 : Nat.ble (ks + N) ms = true) (kk : Go E y cc nL ret d (kc + 1) (ks + N) mc ms (pc + 2) L (.ref h.length :: st) (h ++ [.inl (2, N, .inl (fun _ => 0))]) Q) : Go E y cc nL ret d kc ks mc ms pc L (.int n :: st) h Q := by
  intro p e s m args below meth c H locs ls X hP hl hL
  have hKK := X.2.2.2.2.2.2.2.1
  have hb' : N ≤ 100000 := Nat.le_of_ble_eq_true hb
  refine va_newaK X.1 X.2.1 (atype := .boolean) (hKK.1.1 _ hw rfl args) rfl hd rfl hn hN (by show N * 1 ≤ _; omega) (Nat.le_of_ble_eq_true hc1) (Nat.le_of_ble_eq_true hs1) hP.1 fun H1 cA e1 z1 o1 hA hf => ?_
  have hcA : cA = E.2.2.1 2 := Option.some.inj (hf.symm.trans (hKK.2.2 2 (E.2.2.1 2, .boolean) rfl).2)
  subst hcA
  exact kk p e s m args below meth c H1 locs ls X (hP.push (c := .inl (2, N, .inl (fun _ => 0))) e1 (by rw [z1, hP.1]) (fun q hq => o1 q (by rw [← hP.1]; exact hq))) hl hL
theorem go_newq {idx : Nat} {n : Int32} {N : Nat} (hd : decode cc pc = .ok (.anewarray idx, 3)) (hn : ¬ n < 0) (hN : n.toNatClampNeg = N) (hb : Nat.ble N 100000 = true) (hw : Cond.classLink y.cls idx "SignedSheets$World" ∈ lw_tbl) (hc1 : Nat.ble (kc + 1) mc = true) (hs1 : Nat.ble (ks + N) ms = true) (kk : Go E y cc nL ret d (kc + 1) (ks + N) mc ms (pc + 3) L (.ref h.length :: st) (h ++ [.inl (3, N, .inr (.inr (.inr (.inr (fun _ => none)))))]) Q) : Go E y cc nL ret d kc ks mc ms pc L (.int n :: st) h Q := by
  intro p e s m args below meth c H locs ls X hP hl hL
  have hKK := X.2.2.2.2.2.2.2.1
  have hb' : N ≤ 100000 := Nat.le_of_ble_eq_true hb
  subst hN
  refine W.anew X.1 X.2.1 X.2.2.2.2.2.1 (hKK.1.1 _ hw rfl args) (va_AO.use hKK.1.2.2) rfl hd rfl hn (by omega) (Nat.le_of_ble_eq_true hc1) (Nat.le_of_ble_eq_true hs1) fun cA kA comp f1 f2 f3 f4 => ?_
  have hcA : cA = E.2.2.1 3 := by
    obtain ⟨kA', comp', -, -, -, h4⟩ := (hKK.2.2 3 (E.2.2.1 3, .object "SignedSheets$World") rfl).2
    exact Option.some.inj (f1.symm.trans h4)
  subst hcA
  generalize hH1 : H.push ({ cls := E.2.2.1 3, slots := Array.replicate n.toNatClampNeg .null, vm := .none } : Cell) = H1
  have z1 : H1.size = H.size + 1 := by rw [← hH1, Array.size_push]
  have e1 : H1[H.size]? = some (arrV (E.2.2.1 3) n.toNatClampNeg (fun _ => .null)) := by rw [← hH1, Array.getElem?_push_size, ← arrV_new]
  have o1 : ∀ q : Nat, q < H.size → H1[q]? = H[q]? := fun q hq => by rw [← hH1, Array.getElem?_push, if_neg (Nat.ne_of_lt hq)]
  rw [hP.1] at e1 ⊢
  exact kk p e s m args below meth c H1 locs ls X (hP.push (c := .inl (3, n.toNatClampNeg, .inr (.inr (.inr (.inr (fun _ => none)))))) e1 z1 o1) hl hL
end Heap
