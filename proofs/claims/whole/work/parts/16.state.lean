/-! THE STATE. Folk: there, year, sheets, tail, worth, forged, debts -/
abbrev FolkS : Type := Int32 × Int32 × (Nat → Int32) × (Nat → Int32) × (Nat → Int32) × (Nat → Int32) × (Nat → Int32)
/-- folk, weight, sightOffer, sightSigned, sights, kept -/
abbrev WorldS : Type := FolkS × (Nat → Int32) × (Nat → Int32) × (Nat → Int32) × Int32 × Int32
/-- sign, count -/
abbrev PadS : Type := (Nat → Int32) × Int32
/-- kind, doer, number, other, length -/
abbrev ActS : Type := Int32 × Int32 × Int32 × Int32 × Int32
/-- after, act, acts, badAct, why, signed, bareAct -/
abbrev LivesS : Type := FolkS × ActS × Int32 × Int32 × Int32 × Int32 × Int32
/-- values, scales, known -/
abbrev PlanS : Type := (Nat → Int64) × (Nat → Int64) × Int32
/-- slips, ways, tailOfAct -/
abbrev MatS : Type := (Nat → Int32) × (Nat → Int32) × (Nat → Int32)
/-- sums, circles -/
abbrev NetS : Type := (Nat → Int32) × (Nat → Int32)
/-- the model: book now there tail weight sights sight said pad signed forgeries reason many bare best evens act wrote slips ways image isKept -/
abbrev ModS : Type := (Nat → Int32) × (Nat → Int32) × Int32 × (Nat → Int32) × (Nat → Int32) × Int32 × (Nat → Int32) × Int32 × (Nat → Int32) × Int32 × Int32 × Int32 × Int32 × Int32 × (Nat → Int64) × (Nat → Int32) × (Nat → Int32) × (Nat → Int32) × Int32 × Int32 × (Nat → Int32) × (Nat → Int32)
def imq (j : Nat) : Option Nat := if j = 0 then some 12 else if j = 1 then some 22 else none
/-- the whole world: 52 cells of the class (0 .. 51), 13 of the model (52 .. 64) -/
def hp (nw i0 i1 : WorldS) (pd : PadS) (lv : LivesS) (pl : PlanS) (mt : MatS) (nt : NetS) (m : ModS) : gH := [.inr (8, [.ref 1, .ref 11, .ref 32, .ref 34, .ref 42, .ref 45, .ref 49]),
  .inr (7, [.ref 2, .ref 8, .ref 9, .ref 10, .int nw.2.2.2.2.1, .int nw.2.2.2.2.2]),
  .inr (1, [.int nw.1.1, .int nw.1.2.1, .ref 3, .ref 4, .ref 5, .ref 6, .ref 7]),
  .inl (0, 6, .inl nw.1.2.2.1),
  .inl (0, 6, .inl nw.1.2.2.2.1),
  .inl (0, 6, .inl nw.1.2.2.2.2.1),
  .inl (0, 6, .inl nw.1.2.2.2.2.2.1),
  .inl (0, 36, .inl nw.1.2.2.2.2.2.2),
  .inl (0, 10, .inl nw.2.1),
  .inl (0, 8, .inl nw.2.2.1),
  .inl (2, 8, .inl nw.2.2.2.1),
  .inl (3, 2, .inr (.inr (.inr (.inr imq)))),
  .inr (7, [.ref 13, .ref 19, .ref 20, .ref 21, .int i0.2.2.2.2.1, .int i0.2.2.2.2.2]),
  .inr (1, [.int i0.1.1, .int i0.1.2.1, .ref 14, .ref 15, .ref 16, .ref 17, .ref 18]),
  .inl (0, 6, .inl i0.1.2.2.1),
  .inl (0, 6, .inl i0.1.2.2.2.1),
  .inl (0, 6, .inl i0.1.2.2.2.2.1),
  .inl (0, 6, .inl i0.1.2.2.2.2.2.1),
  .inl (0, 36, .inl i0.1.2.2.2.2.2.2),
  .inl (0, 10, .inl i0.2.1),
  .inl (0, 8, .inl i0.2.2.1),
  .inl (2, 8, .inl i0.2.2.2.1),
  .inr (7, [.ref 23, .ref 29, .ref 30, .ref 31, .int i1.2.2.2.2.1, .int i1.2.2.2.2.2]),
  .inr (1, [.int i1.1.1, .int i1.1.2.1, .ref 24, .ref 25, .ref 26, .ref 27, .ref 28]),
  .inl (0, 6, .inl i1.1.2.2.1),
  .inl (0, 6, .inl i1.1.2.2.2.1),
  .inl (0, 6, .inl i1.1.2.2.2.2.1),
  .inl (0, 6, .inl i1.1.2.2.2.2.2.1),
  .inl (0, 36, .inl i1.1.2.2.2.2.2.2),
  .inl (0, 10, .inl i1.2.1),
  .inl (0, 8, .inl i1.2.2.1),
  .inl (2, 8, .inl i1.2.2.2.1),
  .inr (5, [.ref 33, .int pd.2]),
  .inl (0, 60, .inl pd.1),
  .inr (2, [.ref 35, .ref 41, .int lv.2.2.1, .int lv.2.2.2.1, .int lv.2.2.2.2.1, .int lv.2.2.2.2.2.1, .int lv.2.2.2.2.2.2]),
  .inr (1, [.int lv.1.1, .int lv.1.2.1, .ref 36, .ref 37, .ref 38, .ref 39, .ref 40]),
  .inl (0, 6, .inl lv.1.2.2.1),
  .inl (0, 6, .inl lv.1.2.2.2.1),
  .inl (0, 6, .inl lv.1.2.2.2.2.1),
  .inl (0, 6, .inl lv.1.2.2.2.2.2.1),
  .inl (0, 36, .inl lv.1.2.2.2.2.2.2),
  .inr (0, [.int lv.2.1.1, .int lv.2.1.2.1, .int lv.2.1.2.2.1, .int lv.2.1.2.2.2.1, .int lv.2.1.2.2.2.2]),
  .inr (6, [.ref 43, .ref 44, .int pl.2.2]),
  .inl (1, 90, .inr (.inl pl.1)),
  .inl (1, 9, .inr (.inl pl.2.1)),
  .inr (3, [.ref 46, .ref 47, .ref 48]),
  .inl (0, 64, .inl mt.1),
  .inl (0, 64, .inl mt.2.1),
  .inl (0, 6, .inl mt.2.2),
  .inr (4, [.ref 50, .ref 51]),
  .inl (0, 64, .inl nt.1),
  .inl (0, 64, .inl nt.2),
  .inr (9, [.ref 53, .ref 54, .int m.2.2.1, .ref 55, .ref 56, .int m.2.2.2.2.2.1, .ref 57, .int m.2.2.2.2.2.2.2.1, .ref 58, .int m.2.2.2.2.2.2.2.2.2.1, .int m.2.2.2.2.2.2.2.2.2.2.1, .int m.2.2.2.2.2.2.2.2.2.2.2.1, .int m.2.2.2.2.2.2.2.2.2.2.2.2.1, .int m.2.2.2.2.2.2.2.2.2.2.2.2.2.1, .ref 59, .ref 60, .ref 61, .ref 62, .int m.2.2.2.2.2.2.2.2.2.2.2.2.2.2.2.2.2.2.1, .int m.2.2.2.2.2.2.2.2.2.2.2.2.2.2.2.2.2.2.2.1, .ref 63, .ref 64]),
  .inl (0, 61, .inl m.1),
  .inl (0, 61, .inl m.2.1),
  .inl (0, 6, .inl m.2.2.2.1),
  .inl (0, 10, .inl m.2.2.2.2.1),
  .inl (0, 32, .inl m.2.2.2.2.2.2.1),
  .inl (0, 60, .inl m.2.2.2.2.2.2.2.2.1),
  .inl (1, 110, .inr (.inl m.2.2.2.2.2.2.2.2.2.2.2.2.2.2.1)),
  .inl (0, 64, .inl m.2.2.2.2.2.2.2.2.2.2.2.2.2.2.2.1),
  .inl (0, 6, .inl m.2.2.2.2.2.2.2.2.2.2.2.2.2.2.2.2.1),
  .inl (0, 6, .inl m.2.2.2.2.2.2.2.2.2.2.2.2.2.2.2.2.2.1),
  .inl (0, 260, .inl m.2.2.2.2.2.2.2.2.2.2.2.2.2.2.2.2.2.2.2.2.1),
  .inl (2, 2, .inl m.2.2.2.2.2.2.2.2.2.2.2.2.2.2.2.2.2.2.2.2.2)]
abbrev m_book (m : ModS) : Nat → Int32 := m.1
abbrev m_now (m : ModS) : Nat → Int32 := m.2.1
abbrev m_there (m : ModS) : Int32 := m.2.2.1
abbrev m_tail (m : ModS) : Nat → Int32 := m.2.2.2.1
abbrev m_weight (m : ModS) : Nat → Int32 := m.2.2.2.2.1
abbrev m_sights (m : ModS) : Int32 := m.2.2.2.2.2.1
abbrev m_sight (m : ModS) : Nat → Int32 := m.2.2.2.2.2.2.1
abbrev m_said (m : ModS) : Int32 := m.2.2.2.2.2.2.2.1
abbrev m_pad (m : ModS) : Nat → Int32 := m.2.2.2.2.2.2.2.2.1
abbrev m_signed (m : ModS) : Int32 := m.2.2.2.2.2.2.2.2.2.1
abbrev m_forgeries (m : ModS) : Int32 := m.2.2.2.2.2.2.2.2.2.2.1
abbrev m_reason (m : ModS) : Int32 := m.2.2.2.2.2.2.2.2.2.2.2.1
abbrev m_many (m : ModS) : Int32 := m.2.2.2.2.2.2.2.2.2.2.2.2.1
abbrev m_bare (m : ModS) : Int32 := m.2.2.2.2.2.2.2.2.2.2.2.2.2.1
abbrev m_best (m : ModS) : Nat → Int64 := m.2.2.2.2.2.2.2.2.2.2.2.2.2.2.1
abbrev m_evens (m : ModS) : Nat → Int32 := m.2.2.2.2.2.2.2.2.2.2.2.2.2.2.2.1
abbrev m_act (m : ModS) : Nat → Int32 := m.2.2.2.2.2.2.2.2.2.2.2.2.2.2.2.2.1
abbrev m_wrote (m : ModS) : Nat → Int32 := m.2.2.2.2.2.2.2.2.2.2.2.2.2.2.2.2.2.1
abbrev m_slips (m : ModS) : Int32 := m.2.2.2.2.2.2.2.2.2.2.2.2.2.2.2.2.2.2.1
abbrev m_ways (m : ModS) : Int32 := m.2.2.2.2.2.2.2.2.2.2.2.2.2.2.2.2.2.2.2.1
abbrev m_image (m : ModS) : Nat → Int32 := m.2.2.2.2.2.2.2.2.2.2.2.2.2.2.2.2.2.2.2.2.1
abbrev m_isKept (m : ModS) : Nat → Int32 := m.2.2.2.2.2.2.2.2.2.2.2.2.2.2.2.2.2.2.2.2.2
def dt (r : Option Value) (h : gH) : Option Value → gH → Prop := fun r2 h2 => r2 = r ∧ h2 = h
def b2i (b : Bool) : Int32 := if b then 1 else 0
theorem b2i_nar (b : Bool) : narrow .boolean (.int (b2i b)) = .int (b2i b) := by cases b <;> rfl
theorem b2i_0 {b : Bool} : b2i b = 0 ↔ b = false := by cases b <;> decide
theorem b2i_n0 {b : Bool} : ¬ b2i b = 0 ↔ b = true := by cases b <;> decide
section Det
variable {E : gE} {y : MethodName} {cc : ByteArray} {nL : Nat} {ret : Option FieldType} {d kc ks mc ms pc : Nat} {L : List (Option Value)} {st : List Value} {h h2 : gH} {Q : Option Value → gH → Prop} {y2 : MethodName} {cc2 : ByteArray} {nL2 : Nat} {ret2 : Option FieldType} {idx n : Nat} {v : Value}
theorem go_cV {a ci : Nat} {as fs : List Value} {T : u_T} {N : Nat} {st0 : List Value} (hd : decode cc pc = .ok (.invokevirtual idx, 3)) (hm : gmt y2 cc2 nL2 ret2 n) (hk : glk y.cls idx y2) (hi : Cond.instanceMethod y2 ∈ lw_tbl) (hs : Cond.selects y2.cls y2 y2 ∈ lw_tbl) (hst : st0 = as.reverse ++ .ref a :: st) (hn : as.length = n) (ho : hg h a = some (.inr (ci, fs))) (hci : vwCl[ci]? = some (y2.cls, T, N)) (hR : Ret E y2 cc2 nL2 ret2 d 0 0 (.ref a :: as) h (dt (some v) h2)) (h8 : Nat.ble ((st.map fun v => v.category).sum) 8 = true) (hc1 : Nat.ble kc mc = true) (hs1 : Nat.ble ks ms = true) (kk : Go E y cc nL ret (d + 1) kc ks mc ms (pc + 3) L (v :: st) h2 Q) : Go E y cc nL ret (d + 1) kc ks mc ms pc L st0 h Q :=
  go_callV hd hm hk hi hs hci hst hn ho hR h8 hc1 hs1 fun r g q => by obtain ⟨rfl, rfl⟩ := q; exact kk
theorem go_cVv {a ci : Nat} {as fs : List Value} {T : u_T} {N : Nat} {st0 : List Value} (hd : decode cc pc = .ok (.invokevirtual idx, 3)) (hm : gmt y2 cc2 nL2 ret2 n) (hk : glk y.cls idx y2) (hi : Cond.instanceMethod y2 ∈ lw_tbl) (hs : Cond.selects y2.cls y2 y2 ∈ lw_tbl) (hst : st0 = as.reverse ++ .ref a :: st) (hn : as.length = n) (ho : hg h a = some (.inr (ci, fs))) (hci : vwCl[ci]? = some (y2.cls, T, N)) (hR : Ret E y2 cc2 nL2 ret2 d 0 0 (.ref a :: as) h (dt none h2)) (h8 : Nat.ble ((st.map fun v => v.category).sum) 8 = true) (hc1 : Nat.ble kc mc = true) (hs1 : Nat.ble ks ms = true) (kk : Go E y cc nL ret (d + 1) kc ks mc ms (pc + 3) L st h2 Q) : Go E y cc nL ret (d + 1) kc ks mc ms pc L st0 h Q :=
  go_callV hd hm hk hi hs hci hst hn ho hR h8 hc1 hs1 fun r g q => by obtain ⟨rfl, rfl⟩ := q; exact kk
theorem go_cS {as : List Value} {st0 : List Value} (hd : decode cc pc = .ok (.invokestatic idx, 3)) (hm : gmt y2 cc2 nL2 ret2 n) (hk : glk y.cls idx y2) (hi : Cond.static y2 ∈ lw_tbl) (hst : st0 = as.reverse ++ st) (hn : as.length = n) (hR : Ret E y2 cc2 nL2 ret2 d 0 0 as h (dt (some v) h2)) (h8 : Nat.ble ((st.map fun v => v.category).sum) 8 = true) (hc1 : Nat.ble kc mc = true) (hs1 : Nat.ble ks ms = true) (kk : Go E y cc nL ret (d + 1) kc ks mc ms (pc + 3) L (v :: st) h2 Q) : Go E y cc nL ret (d + 1) kc ks mc ms pc L st0 h Q :=
  go_callS hd hm hk hi hst hn hR h8 hc1 hs1 fun r g q => by obtain ⟨rfl, rfl⟩ := q; exact kk
theorem go_bif_eq {b : Bool} {off : Int} {tgt : Nat} (hd : decode cc pc = .ok (.ifCond .eq off, 3)) (ht : (pc : Int) + off = (tgt : Int)) (kt : b = false → Go E y cc nL ret d kc ks mc ms tgt L st h Q) (kf : b = true → Go E y cc nL ret d kc ks mc ms (pc + 3) L st h Q) : Go E y cc nL ret d kc ks mc ms pc L (.int (b2i b) :: st) h Q :=
  go_if_eq hd ht (fun q => kt (b2i_0.mp q)) (fun q => kf (b2i_n0.mp q))
theorem go_bif_ne {b : Bool} {off : Int} {tgt : Nat} (hd : decode cc pc = .ok (.ifCond .ne off, 3)) (ht : (pc : Int) + off = (tgt : Int)) (kt : b = true → Go E y cc nL ret d kc ks mc ms tgt L st h Q) (kf : b = false → Go E y cc nL ret d kc ks mc ms (pc + 3) L st h Q) : Go E y cc nL ret d kc ks mc ms pc L (.int (b2i b) :: st) h Q :=
  go_if_ne hd ht (fun q => kt (b2i_n0.mp q)) (fun q => kf (b2i_0.mp q))
end Det
section Det2
variable {E : gE} {y : MethodName} {cc : ByteArray} {nL : Nat} {ret : Option FieldType} {d kc ks mc ms pc : Nat} {L : List (Option Value)} {st : List Value} {h : gH} {Q : Option Value → gH → Prop}
theorem go_ialdN {a n : Nat} {f : Nat → Int32} (k : Nat) (hd : decode cc pc = .ok (.iaload, 1)) (ho : hg h a = some (.inl (0, n, .inl f))) (hk : k < n) (hn : Nat.blt n 2147483648 = true) (kk : Go E y cc nL ret d kc ks mc ms (pc + 1) L (.int (f k) :: st) h Q) : Go E y cc nL ret d kc ks mc ms pc L (.int (nI k) :: .ref a :: st) h Q := by
  have hn2 : n < 2 ^ 31 := Nat.blt_eq ▸ hn
  refine go_iald hd ho (vp_in_nI hk hn2) ?_
  rw [nI_clamp (Nat.lt_trans hk hn2)]
  exact kk
theorem go_zaldN {a n : Nat} {f : Nat → Int32} (k : Nat) (hd : decode cc pc = .ok (.baload, 1)) (ho : hg h a = some (.inl (2, n, .inl f))) (hk : k < n) (hn : Nat.blt n 2147483648 = true) (kk : Go E y cc nL ret d kc ks mc ms (pc + 1) L (.int (f k) :: st) h Q) : Go E y cc nL ret d kc ks mc ms pc L (.int (nI k) :: .ref a :: st) h Q := by
  have hn2 : n < 2 ^ 31 := Nat.blt_eq ▸ hn
  refine go_zald hd ho (vp_in_nI hk hn2) ?_
  rw [nI_clamp (Nat.lt_trans hk hn2)]
  exact kk
theorem go_laldN {a n : Nat} {f : Nat → Int64} (k : Nat) (hd : decode cc pc = .ok (.laload, 1)) (ho : hg h a = some (.inl (1, n, .inr (.inl f)))) (hk : k < n) (hn : Nat.blt n 2147483648 = true) (kk : Go E y cc nL ret d kc ks mc ms (pc + 1) L (.long (f k) :: st) h Q) : Go E y cc nL ret d kc ks mc ms pc L (.int (nI k) :: .ref a :: st) h Q := by
  have hn2 : n < 2 ^ 31 := Nat.blt_eq ▸ hn
  refine go_lald hd ho (vp_in_nI hk hn2) ?_
  rw [nI_clamp (Nat.lt_trans hk hn2)]
  exact kk
theorem go_iastN {a n : Nat} {f : Nat → Int32} {x : Int32} (k : Nat) (hd : decode cc pc = .ok (.iastore, 1)) (ho : hg h a = some (.inl (0, n, .inl f))) (hk : k < n) (hn : Nat.blt n 2147483648 = true) (kk : Go E y cc nL ret d kc ks mc ms (pc + 1) L st (hs h a (.inl (0, n, .inl (upd f k x)))) Q) : Go E y cc nL ret d kc ks mc ms pc L (.int x :: .int (nI k) :: .ref a :: st) h Q := by
  have hn2 : n < 2 ^ 31 := Nat.blt_eq ▸ hn
  refine go_iast hd ho (vp_in_nI hk hn2) ?_
  rw [nI_clamp (Nat.lt_trans hk hn2)]
  exact kk
theorem go_zastN {a n : Nat} {f : Nat → Int32} {x : Int32} (k : Nat) (hd : decode cc pc = .ok (.bastore, 1)) (ho : hg h a = some (.inl (2, n, .inl f))) (hk : k < n) (hn : Nat.blt n 2147483648 = true) (hx : narrow .boolean (.int x) = .int x) (kk : Go E y cc nL ret d kc ks mc ms (pc + 1) L st (hs h a (.inl (2, n, .inl (upd f k x)))) Q) : Go E y cc nL ret d kc ks mc ms pc L (.int x :: .int (nI k) :: .ref a :: st) h Q := by
  have hn2 : n < 2 ^ 31 := Nat.blt_eq ▸ hn
  refine go_zast hd ho (vp_in_nI hk hn2) hx ?_
  rw [nI_clamp (Nat.lt_trans hk hn2)]
  exact kk
theorem go_lastN {a n : Nat} {f : Nat → Int64} {x : Int64} (k : Nat) (hd : decode cc pc = .ok (.lastore, 1)) (ho : hg h a = some (.inl (1, n, .inr (.inl f)))) (hk : k < n) (hn : Nat.blt n 2147483648 = true) (kk : Go E y cc nL ret d kc ks mc ms (pc + 1) L st (hs h a (.inl (1, n, .inr (.inl (vp_updL f k x))))) Q) : Go E y cc nL ret d kc ks mc ms pc L (.long x :: .int (nI k) :: .ref a :: st) h Q := by
  have hn2 : n < 2 ^ 31 := Nat.blt_eq ▸ hn
  refine go_last hd ho (vp_in_nI hk hn2) ?_
  rw [nI_clamp (Nat.lt_trans hk hn2)]
  exact kk
end Det2
abbrev fy (F : FolkS) : Int32 := F.2.1
abbrev fs_ (F : FolkS) : Nat → Int32 := F.2.2.1
abbrev ft (F : FolkS) : Nat → Int32 := F.2.2.2.1
abbrev fw (F : FolkS) : Nat → Int32 := F.2.2.2.2.1
abbrev fg (F : FolkS) : Nat → Int32 := F.2.2.2.2.2.1
abbrev fd (F : FolkS) : Nat → Int32 := F.2.2.2.2.2.2
abbrev fTh (F : FolkS) (t : Int32) : FolkS := (t, F.2)
abbrev fYr (F : FolkS) (t : Int32) : FolkS := (F.1, t, F.2.2)
abbrev fSh (F : FolkS) (f : Nat → Int32) : FolkS := (F.1, F.2.1, f, F.2.2.2)
abbrev fTa (F : FolkS) (f : Nat → Int32) : FolkS := (F.1, F.2.1, F.2.2.1, f, F.2.2.2.2)
abbrev fWo (F : FolkS) (f : Nat → Int32) : FolkS := (F.1, F.2.1, F.2.2.1, F.2.2.2.1, f, F.2.2.2.2.2)
abbrev fFo (F : FolkS) (f : Nat → Int32) : FolkS := (F.1, F.2.1, F.2.2.1, F.2.2.2.1, F.2.2.2.2.1, f, F.2.2.2.2.2.2)
abbrev fDe (F : FolkS) (f : Nat → Int32) : FolkS := (F.1, F.2.1, F.2.2.1, F.2.2.2.1, F.2.2.2.2.1, F.2.2.2.2.2.1, f)
def sumI (f : Nat → Int32) : Nat → Int32
  | 0 => 0
  | n + 1 => sumI f n + f n
theorem lit_le {k n : Nat} (h : n ≤ k) (hk : k < 2 ^ 31) : (OfNat.ofNat n : Int32) ≤ nI k := nI_le h hk
theorem lit_nle {k n : Nat} (h : k < n) (hn : n < 2 ^ 31) : ¬ (OfNat.ofNat n : Int32) ≤ nI k := nI_ge h hn
