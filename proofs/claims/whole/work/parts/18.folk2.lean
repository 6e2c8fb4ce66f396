/-! an array's contents count below its length alone -/
theorem arrV_ext {c : ClassId} {n : Nat} {f g : Nat → Value} (h : ∀ j, j < n → f j = g j) : arrV c n f = arrV c n g := by
  unfold arrV
  congr 1
  apply Array.ext
  · simp
  · intro j h1 h2
    simp at h1
    simp [h j h1]
theorem gP.ext {E : gE} {h : gH} {H0 H : Heap} {a t n : Nat} {f g : Nat → Int32} (hP : gP E h H0 H) (ho : hg h a = some (.inl (t, n, .inl f))) (e : ∀ j, j < n → f j = g j) : gP E (hs h a (.inl (t, n, .inl g))) H0 H := by
  refine hP.put ho ?_ rfl (fun _ _ => rfl)
  have h1 : H[E.2.2.2 + a]? = some (arrV (E.2.2.1 t) n (fun j => .int (f j))) := hP.2.1 a _ ho
  show H[E.2.2.2 + a]? = some (arrV (E.2.2.1 t) n (fun j => .int (g j)))
  rw [h1, arrV_ext (fun j hj => by rw [e j hj])]
theorem gP.extL {E : gE} {h : gH} {H0 H : Heap} {a t n : Nat} {f g : Nat → Int64} (hP : gP E h H0 H) (ho : hg h a = some (.inl (t, n, .inr (.inl f)))) (e : ∀ j, j < n → f j = g j) : gP E (hs h a (.inl (t, n, .inr (.inl g)))) H0 H := by
  refine hP.put ho ?_ rfl (fun _ _ => rfl)
  have h1 : H[E.2.2.2 + a]? = some (arrV (E.2.2.1 t) n (fun j => .long (f j))) := hP.2.1 a _ ho
  show H[E.2.2.2 + a]? = some (arrV (E.2.2.1 t) n (fun j => .long (g j)))
  rw [h1, arrV_ext (fun j hj => by rw [e j hj])]
section Ext
variable {E : gE} {y : MethodName} {cc : ByteArray} {nL : Nat} {ret : Option FieldType} {d kc ks mc ms pc : Nat} {L : List (Option Value)} {st : List Value} {h : gH} {Q : Option Value → gH → Prop}
theorem go_ext {a t n : Nat} {f : Nat → Int32} (g : Nat → Int32) (ho : hg h a = some (.inl (t, n, .inl f))) (e : ∀ j, j < n → f j = g j) (k : Go E y cc nL ret d kc ks mc ms pc L st (hs h a (.inl (t, n, .inl g))) Q) : Go E y cc nL ret d kc ks mc ms pc L st h Q := by
  intro p e2 s m args below meth c H locs ls X hP hl hL
  exact k p e2 s m args below meth c H locs ls X (hP.ext ho e) hl hL
theorem go_extL {a t n : Nat} {f : Nat → Int64} (g : Nat → Int64) (ho : hg h a = some (.inl (t, n, .inr (.inl f)))) (e : ∀ j, j < n → f j = g j) (k : Go E y cc nL ret d kc ks mc ms pc L st (hs h a (.inl (t, n, .inr (.inl g)))) Q) : Go E y cc nL ret d kc ks mc ms pc L st h Q := by
  intro p e2 s m args below meth c H locs ls X hP hl hL
  exact k p e2 s m args below meth c H locs ls X (hP.extL ho e) hl hL
theorem hs_hs : ∀ (h : gH) (a : Nat) (c c2 : gC), hs (hs h a c) a c2 = hs h a c2
  | [], _, _, _ => rfl
  | x :: t, 0, _, _ => rfl
  | x :: t, n + 1, c, c2 => by simp [hs, hs_hs t n c c2]
theorem hg_same : ∀ (h : gH) (a : Nat) (c c2 : gC), hg h a = some c2 → hg (hs h a c) a = some c
  | [], _, _, _, e => by simp [hg] at e
  | x :: t, 0, _, _, _ => rfl
  | x :: t, n + 1, c, c2, e => hg_same t n c c2 e
/-- a whole array copied -/
theorem go_copyF {idx a0 a n1 : Nat} {f g : Nat → Int32} {n : Int32} (hd : decode cc pc = .ok (.invokestatic idx, 3)) (hk : Cond.methodLink y.cls idx arraycopyName ∈ lw_tbl) (ho0 : hg h a0 = some (.inl (0, n1, .inl f))) (ho1 : hg h a = some (.inl (0, n1, .inl g))) (h3 : ¬ n < 0) (hn : n.toNatClampNeg = n1) (h8 : Nat.ble ((st.map fun v => v.category).sum) 8 = true)
    (kk : Go E y cc nL ret (d + 1) kc ks mc ms (pc + 3) L st (hs h a (.inl (0, n1, .inl f))) Q) : Go E y cc nL ret (d + 1) kc ks mc ms pc L (.int n :: .int 0 :: .ref a :: .int 0 :: .ref a0 :: st) h Q := by
  have z : (0 : Int32).toNatClampNeg = 0 := by decide
  refine go_copyi hd hk ncopy tcopy zsys ho0 ho1 (by decide) (by decide) h3 (by rw [z, hn]; omega) (by rw [z, hn]; omega) h8 ?_
  refine go_ext f (hg_same _ _ _ _ ho1) (fun j hj => ?_) (by rw [hs_hs]; exact kk)
  rw [z, hn, pk_cpy_in (by omega) (by omega)]
  congr 1
  omega
end Ext
theorem nI6 {a b : Nat} : nI a * 6 + nI b = nI (a * 6 + b) := by rw [show (6 : Int32) = nI 6 from rfl, pk_mul, nI_add]
def orB (c : Nat → Bool) : Nat → Int32
  | 0 => 0
  | n + 1 => if c n then orB c n ||| ((1 : Int32) <<< (nI n &&& 31)) else orB c n
def bareB (F : FolkS) (k : Nat) : Bool := hasB F.1 (nI k) && decide (fs_ F k = 0)
def honB (F : FolkS) (k : Nat) : Bool := hasB F.1 (nI k) && decide (fg F k = 0)
def richF (F : FolkS) : Nat → Int32 × Int32
  | 0 => (-6, -1)
  | n + 1 => if hasB F.1 (nI n) && decide ((richF F n).2 < fw F n) then (nI n, fw F n) else richF F n
theorem rich_no1 {F : FolkS} {n : Nat} (h : hasB F.1 (nI n) = false) : richF F (n + 1) = richF F n := by
  simp only [richF, h, Bool.false_and, Bool.false_eq_true, if_false]
theorem rich_no2 {F : FolkS} {n : Nat} (h : fw F n ≤ (richF F n).2) : richF F (n + 1) = richF F n := by
  have h2 : decide ((richF F n).2 < fw F n) = false := decide_eq_false (Int32.not_lt.mpr h)
  rw [richF, h2, Bool.and_false]
  rfl
theorem rich_yes {F : FolkS} {n : Nat} (h : hasB F.1 (nI n) = true) (h2 : ¬ fw F n ≤ (richF F n).2) : richF F (n + 1) = (nI n, fw F n) := by
  have h3 : decide ((richF F n).2 < fw F n) = true := decide_eq_true (Int32.not_le.mp h2)
  rw [richF, h, h3]
  rfl
def netF (F : FolkS) (k : Nat) : Int32 := sumI (fun q => fd F (q * 6 + k) - fd F (k * 6 + q)) 6
def leaveD (de : Nat → Int32) (p : Nat) : Nat → (Nat → Int32)
  | 0 => de
  | n + 1 => upd (upd (leaveD de p n) (p * 6 + n) 0) (n * 6 + p) 0
def enterF (F : FolkS) (k : Nat) (s t : Int32) : FolkS := (F.1 ||| ((1 : Int32) <<< (nI k &&& 31)), F.2.1, upd (fs_ F) k s, upd (ft F) k t, F.2.2.2.2)
def leaveF (F : FolkS) (k : Nat) : FolkS := (F.1 &&& (((1 : Int32) <<< (nI k &&& 31)) ^^^ (-1)), F.2.1, upd (fs_ F) k 0, upd (ft F) k 0, upd (fw F) k 0, upd (fg F) k 0, leaveD (fd F) k 6)
def earnF (F : FolkS) (k : Nat) (g : Int32) : FolkS := fWo F (upd (fw F) k (mnI 9999 (fw F k + g)))
def signF (F : FolkS) (k : Nat) (g : Int32) : FolkS := earnF (fSh F (upd (fs_ F) k (fs_ F k - 1))) k g
def forgeF (F : FolkS) (k : Nat) (g : Int32) : FolkS := earnF (fFo F (upd (fg F) k (fg F k + 1))) k g
def takeF (F : FolkS) (a : Nat) (n : Int32) : FolkS := fSh F (upd (fs_ F) a (fs_ F a - n))
def giveF (F : FolkS) (b : Nat) (n : Int32) : FolkS := fSh F (upd (fs_ F) b (mnI 400 (fs_ F b + n)))
def moveF (F : FolkS) (a b : Nat) (n : Int32) : FolkS := giveF (takeF F a n) b n
def oweF (F : FolkS) (a b : Nat) (n : Int32) : FolkS := fDe F (upd (fd F) (a * 6 + b) (fd F (a * 6 + b) + n))
def holdF (F : FolkS) (k : Nat) (w : Int32) : Int32 := if ¬ w = 0 then (if ¬ w = 1 then fg F k else fw F k) else fs_ F k
set_option maxRecDepth 100000 in
set_option maxHeartbeats 4000000 in
theorem rX1_debt_n {E : gE} {d : Nat} {nw i0 i1 : WorldS} {pd : PadS} {lv : LivesS} {pl : PlanS} {mt : MatS} {nt : NetS} {m : ModS} {a b : Nat} (ha : a < 6) (hb : b < 6) : Ret E yX1_debt cX1_debt 3 (some .int) d 0 0 [.ref 2, .int (nI a), .int (nI b)] (hp nw i0 i1 pd lv pl mt nt m) (dt (some (.int (fd (nw.1) (a * 6 + b)))) (hp nw i0 i1 pd lv pl mt nt m)) := by
  refine ret_of_go (L := [_, _, _]) (by decide) (Nat.le_of_ble_eq_true rfl) rfl ?_
  refine go_aload_n dX1_debt_0 rfl ?_
  refine go_get dX1_debt_1 fX1_24 rfl rfl ?_
  refine go_iload_n dX1_debt_4 rfl ?_
  refine go_bipush (v := 6) dX1_debt_5 (by decide) ?_
  refine go_imul dX1_debt_7 ?_
  refine go_iload_n dX1_debt_8 rfl ?_
  refine go_iadd dX1_debt_9 ?_
  refine go_topi_eq nI6 ?_
  refine go_ialdN (a * 6 + b) dX1_debt_10 rfl (by omega) rfl ?_
  refine go_iret dX1_debt_11 rfl rfl ?_
  exact ⟨rfl, rfl⟩
set_option maxRecDepth 100000 in
set_option maxHeartbeats 4000000 in
theorem rX1_holding_n {E : gE} {d : Nat} {nw i0 i1 : WorldS} {pd : PadS} {lv : LivesS} {pl : PlanS} {mt : MatS} {nt : NetS} {m : ModS} {k : Nat} {w : Int32} (hk : k < 6) : Ret E yX1_holding cX1_holding 3 (some .int) d 0 0 [.ref 2, .int (nI k), .int w] (hp nw i0 i1 pd lv pl mt nt m) (dt (some (.int (holdF nw.1 k w))) (hp nw i0 i1 pd lv pl mt nt m)) := by
  refine ret_of_go (L := [_, _, _]) (by decide) (Nat.le_of_ble_eq_true rfl) rfl ?_
  refine go_iload_n dX1_holding_0 rfl ?_
  refine go_if_ne (tgt := 11) dX1_holding_1 (by decide) (fun q1 => ?_) (fun q1 => ?_)
  · refine go_iload_n dX1_holding_11 rfl ?_
    refine go_iconst (v := 1) dX1_holding_12 (by decide) ?_
    refine go_icmp_ne (tgt := 25) dX1_holding_13 (by decide) (fun q13 => ?_) (fun q13 => ?_)
    · refine go_aload_n dX1_holding_25 rfl ?_
      refine go_get dX1_holding_26 fX1_21 rfl rfl ?_
      refine go_iload_n dX1_holding_29 rfl ?_
      refine go_ialdN (k) dX1_holding_30 rfl (hk) rfl ?_
      refine go_iret dX1_holding_31 rfl rfl ?_
      exact ⟨by first | (simp only [holdF, *, not_true, not_false_iff, if_true, if_false]; done) | (subst_vars; rfl), rfl⟩
    · refine go_aload_n dX1_holding_16 rfl ?_
      refine go_get dX1_holding_17 fX1_18 rfl rfl ?_
      refine go_iload_n dX1_holding_20 rfl ?_
      refine go_ialdN (k) dX1_holding_21 rfl (hk) rfl ?_
      refine go_goto (tgt := 31) dX1_holding_22 (by decide) ?_
      refine go_iret dX1_holding_31 rfl rfl ?_
      exact ⟨by first | (simp only [holdF, *, not_true, not_false_iff, if_true, if_false]; done) | (subst_vars; rfl), rfl⟩
  · refine go_aload_n dX1_holding_4 rfl ?_
    refine go_get dX1_holding_5 fX1_9 rfl rfl ?_
    refine go_iload_n dX1_holding_8 rfl ?_
    refine go_ialdN (k) dX1_holding_9 rfl (hk) rfl ?_
    refine go_iret dX1_holding_10 rfl rfl ?_
    exact ⟨by first | (simp only [holdF, *, not_true, not_false_iff, if_true, if_false]; done) | (subst_vars; rfl), rfl⟩
set_option maxRecDepth 100000 in
set_option maxHeartbeats 4000000 in
theorem rX1_debt_a {E : gE} {d : Nat} {nw i0 i1 : WorldS} {pd : PadS} {lv : LivesS} {pl : PlanS} {mt : MatS} {nt : NetS} {m : ModS} {a b : Nat} (ha : a < 6) (hb : b < 6) : Ret E yX1_debt cX1_debt 3 (some .int) d 0 0 [.ref 35, .int (nI a), .int (nI b)] (hp nw i0 i1 pd lv pl mt nt m) (dt (some (.int (fd (lv.1) (a * 6 + b)))) (hp nw i0 i1 pd lv pl mt nt m)) := by
  refine ret_of_go (L := [_, _, _]) (by decide) (Nat.le_of_ble_eq_true rfl) rfl ?_
  refine go_aload_n dX1_debt_0 rfl ?_
  refine go_get dX1_debt_1 fX1_24 rfl rfl ?_
  refine go_iload_n dX1_debt_4 rfl ?_
  refine go_bipush (v := 6) dX1_debt_5 (by decide) ?_
  refine go_imul dX1_debt_7 ?_
  refine go_iload_n dX1_debt_8 rfl ?_
  refine go_iadd dX1_debt_9 ?_
  refine go_topi_eq nI6 ?_
  refine go_ialdN (a * 6 + b) dX1_debt_10 rfl (by omega) rfl ?_
  refine go_iret dX1_debt_11 rfl rfl ?_
  exact ⟨rfl, rfl⟩
set_option maxRecDepth 100000 in
set_option maxHeartbeats 4000000 in
theorem rX1_holding_a {E : gE} {d : Nat} {nw i0 i1 : WorldS} {pd : PadS} {lv : LivesS} {pl : PlanS} {mt : MatS} {nt : NetS} {m : ModS} {k : Nat} {w : Int32} (hk : k < 6) : Ret E yX1_holding cX1_holding 3 (some .int) d 0 0 [.ref 35, .int (nI k), .int w] (hp nw i0 i1 pd lv pl mt nt m) (dt (some (.int (holdF lv.1 k w))) (hp nw i0 i1 pd lv pl mt nt m)) := by
  refine ret_of_go (L := [_, _, _]) (by decide) (Nat.le_of_ble_eq_true rfl) rfl ?_
  refine go_iload_n dX1_holding_0 rfl ?_
  refine go_if_ne (tgt := 11) dX1_holding_1 (by decide) (fun q1 => ?_) (fun q1 => ?_)
  · refine go_iload_n dX1_holding_11 rfl ?_
    refine go_iconst (v := 1) dX1_holding_12 (by decide) ?_
    refine go_icmp_ne (tgt := 25) dX1_holding_13 (by decide) (fun q13 => ?_) (fun q13 => ?_)
    · refine go_aload_n dX1_holding_25 rfl ?_
      refine go_get dX1_holding_26 fX1_21 rfl rfl ?_
      refine go_iload_n dX1_holding_29 rfl ?_
      refine go_ialdN (k) dX1_holding_30 rfl (hk) rfl ?_
      refine go_iret dX1_holding_31 rfl rfl ?_
      exact ⟨by first | (simp only [holdF, *, not_true, not_false_iff, if_true, if_false]; done) | (subst_vars; rfl), rfl⟩
    · refine go_aload_n dX1_holding_16 rfl ?_
      refine go_get dX1_holding_17 fX1_18 rfl rfl ?_
      refine go_iload_n dX1_holding_20 rfl ?_
      refine go_ialdN (k) dX1_holding_21 rfl (hk) rfl ?_
      refine go_goto (tgt := 31) dX1_holding_22 (by decide) ?_
      refine go_iret dX1_holding_31 rfl rfl ?_
      exact ⟨by first | (simp only [holdF, *, not_true, not_false_iff, if_true, if_false]; done) | (subst_vars; rfl), rfl⟩
  · refine go_aload_n dX1_holding_4 rfl ?_
    refine go_get dX1_holding_5 fX1_9 rfl rfl ?_
    refine go_iload_n dX1_holding_8 rfl ?_
    refine go_ialdN (k) dX1_holding_9 rfl (hk) rfl ?_
    refine go_iret dX1_holding_10 rfl rfl ?_
    exact ⟨by first | (simp only [holdF, *, not_true, not_false_iff, if_true, if_false]; done) | (subst_vars; rfl), rfl⟩
set_option maxRecDepth 100000 in
set_option maxHeartbeats 4000000 in
theorem rX1_count_n {E : gE} {d : Nat} {nw i0 i1 : WorldS} {pd : PadS} {lv : LivesS} {pl : PlanS} {mt : MatS} {nt : NetS} {m : ModS} : Ret E yX1_count cX1_count 1 (some .int) (d + 1) 0 0 [.ref 2] (hp nw i0 i1 pd lv pl mt nt m) (dt (some (.int (bcF nw.1.1))) (hp nw i0 i1 pd lv pl mt nt m)) := by
  refine ret_of_go (L := [_]) (by decide) (Nat.le_of_ble_eq_true rfl) rfl ?_
  refine go_aload_n dX1_count_0 rfl ?_
  refine go_get dX1_count_1 fX1_31 rfl rfl ?_
  refine go_cS (as := [_]) dX1_count_4 mJ6_bitCount_0f7a4 kX1_35 tJ6_bitCount_0f7a4 rfl rfl (rJ6_bitCount_0f7a4) rfl rfl rfl ?_
  refine go_iret dX1_count_7 rfl rfl ?_
  exact ⟨rfl, rfl⟩
set_option maxRecDepth 100000 in
set_option maxHeartbeats 4000000 in
theorem rX1_enter_n {E : gE} {d : Nat} {nw i0 i1 : WorldS} {pd : PadS} {lv : LivesS} {pl : PlanS} {mt : MatS} {nt : NetS} {m : ModS} {k : Nat} {s t : Int32} (hk : k < 6) : Ret E yX1_enter cX1_enter 4 none d 0 0 [.ref 2, .int (nI k), .int s, .int t] (hp nw i0 i1 pd lv pl mt nt m) (dt none (hp (enterF nw.1 k s t, nw.2) i0 i1 pd lv pl mt nt m)) := by
  refine ret_of_go (L := [_, _, _, _]) (by decide) (Nat.le_of_ble_eq_true rfl) rfl ?_
  refine go_aload_n dX1_enter_0 rfl ?_
  refine go_dup dX1_enter_1 rfl ?_
  refine go_get dX1_enter_2 fX1_31 rfl rfl ?_
  refine go_iconst (v := 1) dX1_enter_5 (by decide) ?_
  refine go_iload_n dX1_enter_6 rfl ?_
  refine go_ishl dX1_enter_7 ?_
  refine go_ior dX1_enter_8 ?_
  refine go_put dX1_enter_9 fX1_31 (fun _ => rfl) (fun _ => rfl) rfl rfl ?_
  refine go_aload_n dX1_enter_12 rfl ?_
  refine go_get dX1_enter_13 fX1_9 rfl rfl ?_
  refine go_iload_n dX1_enter_16 rfl ?_
  refine go_iload_n dX1_enter_17 rfl ?_
  refine go_iastN (k) dX1_enter_18 rfl (hk) rfl ?_
  refine go_aload_n dX1_enter_19 rfl ?_
  refine go_get dX1_enter_20 fX1_15 rfl rfl ?_
  refine go_iload_n dX1_enter_23 rfl ?_
  refine go_iload_n dX1_enter_24 rfl ?_
  refine go_iastN (k) dX1_enter_25 rfl (hk) rfl ?_
  refine go_vret dX1_enter_26 rfl rfl ?_
  exact ⟨rfl, rfl⟩
set_option maxRecDepth 100000 in
set_option maxHeartbeats 4000000 in
theorem rX1_leave_n {E : gE} {d : Nat} {nw i0 i1 : WorldS} {pd : PadS} {lv : LivesS} {pl : PlanS} {mt : MatS} {nt : NetS} {m : ModS} {k : Nat} (hk : k < 6) : Ret E yX1_leave cX1_leave 3 none d 0 0 [.ref 2, .int (nI k)] (hp nw i0 i1 pd lv pl mt nt m) (dt none (hp (leaveF nw.1 k, nw.2) i0 i1 pd lv pl mt nt m)) := by
  refine ret_of_go (L := [_, _, _]) (by decide) (Nat.le_of_ble_eq_true rfl) rfl ?_
  have key : ∀ (n j : Nat), j + n = 6 → Go E yX1_leave cX1_leave 3 none d 0 0 0 0 44 [some (.ref 2), some (.int (nI k)), some (.int (nI j))] [] (hp ((nw.1.1 &&& (((1 : Int32) <<< (nI k &&& 31)) ^^^ (-1)), nw.1.2.1, upd (fs_ nw.1) k 0, upd (ft nw.1) k 0, upd (fw nw.1) k 0, upd (fg nw.1) k 0, leaveD (fd nw.1) k j), nw.2) i0 i1 pd lv pl mt nt m) (dt none (hp (leaveF nw.1 k, nw.2) i0 i1 pd lv pl mt nt m)) := by
    intro n
    induction n with
    | zero =>
      intro j hj
      obtain rfl : j = 6 := by omega
      refine go_iload_n dX1_leave_44 rfl ?_
      refine go_bipush (v := 6) dX1_leave_45 (by decide) ?_
      refine go_icmp_ge (tgt := 80) dX1_leave_47 (by decide) (fun q47 => ?_) (fun q => absurd (nI_le (a := 6) (b := 6) (by decide) (by decide)) q)
      refine go_vret dX1_leave_80 rfl rfl ?_
      exact ⟨rfl, rfl⟩
    | succ n ih =>
      intro j hj
      refine go_iload_n dX1_leave_44 rfl ?_
      refine go_bipush (v := 6) dX1_leave_45 (by decide) ?_
      refine go_icmp_ge (tgt := 80) dX1_leave_47 (by decide) (fun q => absurd q (nI_ge (a := j) (b := 6) (by omega) (by decide))) (fun q47 => ?_)
      refine go_aload_n dX1_leave_50 rfl ?_
      refine go_get dX1_leave_51 fX1_24 rfl rfl ?_
      refine go_iload_n dX1_leave_54 rfl ?_
      refine go_bipush (v := 6) dX1_leave_55 (by decide) ?_
      refine go_imul dX1_leave_57 ?_
      refine go_iload_n dX1_leave_58 rfl ?_
      refine go_iadd dX1_leave_59 ?_
      refine go_topi_eq nI6 ?_
      refine go_iconst (v := 0) dX1_leave_60 (by decide) ?_
      refine go_iastN (k * 6 + j) dX1_leave_61 rfl (by omega) rfl ?_
      refine go_aload_n dX1_leave_62 rfl ?_
      refine go_get dX1_leave_63 fX1_24 rfl rfl ?_
      refine go_iload_n dX1_leave_66 rfl ?_
      refine go_bipush (v := 6) dX1_leave_67 (by decide) ?_
      refine go_imul dX1_leave_69 ?_
      refine go_iload_n dX1_leave_70 rfl ?_
      refine go_iadd dX1_leave_71 ?_
      refine go_topi_eq nI6 ?_
      refine go_iconst (v := 0) dX1_leave_72 (by decide) ?_
      refine go_iastN (j * 6 + k) dX1_leave_73 rfl (by omega) rfl ?_
      refine go_iinc (v := nI (j + 1)) (L' := [_, _, _]) dX1_leave_74 rfl (nI_1 j) rfl rfl rfl ?_
      refine go_goto (tgt := 44) dX1_leave_77 (by decide) ?_
      exact ih (j + 1) (by omega)
  refine go_aload_n dX1_leave_0 rfl ?_
  refine go_dup dX1_leave_1 rfl ?_
  refine go_get dX1_leave_2 fX1_31 rfl rfl ?_
  refine go_iconst (v := 1) dX1_leave_5 (by decide) ?_
  refine go_iload_n dX1_leave_6 rfl ?_
  refine go_ishl dX1_leave_7 ?_
  refine go_iconst (v := (-1)) dX1_leave_8 (by decide) ?_
  refine go_ixor dX1_leave_9 ?_
  refine go_iand dX1_leave_10 ?_
  refine go_put dX1_leave_11 fX1_31 (fun _ => rfl) (fun _ => rfl) rfl rfl ?_
  refine go_aload_n dX1_leave_14 rfl ?_
  refine go_get dX1_leave_15 fX1_9 rfl rfl ?_
  refine go_iload_n dX1_leave_18 rfl ?_
  refine go_iconst (v := 0) dX1_leave_19 (by decide) ?_
  refine go_iastN (k) dX1_leave_20 rfl (hk) rfl ?_
  refine go_aload_n dX1_leave_21 rfl ?_
  refine go_get dX1_leave_22 fX1_15 rfl rfl ?_
  refine go_iload_n dX1_leave_25 rfl ?_
  refine go_iconst (v := 0) dX1_leave_26 (by decide) ?_
  refine go_iastN (k) dX1_leave_27 rfl (hk) rfl ?_
  refine go_aload_n dX1_leave_28 rfl ?_
  refine go_get dX1_leave_29 fX1_18 rfl rfl ?_
  refine go_iload_n dX1_leave_32 rfl ?_
  refine go_iconst (v := 0) dX1_leave_33 (by decide) ?_
  refine go_iastN (k) dX1_leave_34 rfl (hk) rfl ?_
  refine go_aload_n dX1_leave_35 rfl ?_
  refine go_get dX1_leave_36 fX1_21 rfl rfl ?_
  refine go_iload_n dX1_leave_39 rfl ?_
  refine go_iconst (v := 0) dX1_leave_40 (by decide) ?_
  refine go_iastN (k) dX1_leave_41 rfl (hk) rfl ?_
  refine go_iconst (v := 0) dX1_leave_42 (by decide) ?_
  refine go_istore_n (L' := [_, _, _]) dX1_leave_43 rfl rfl rfl ?_
  exact key 6 0 rfl
set_option maxRecDepth 100000 in
set_option maxHeartbeats 4000000 in
theorem rX1_net_n {E : gE} {d : Nat} {nw i0 i1 : WorldS} {pd : PadS} {lv : LivesS} {pl : PlanS} {mt : MatS} {nt : NetS} {m : ModS} {p : Nat} (hp6 : p < 6) : Ret E yX1_net cX1_net 4 (some .int) (d + 1) 0 0 [.ref 2, .int (nI p)] (hp nw i0 i1 pd lv pl mt nt m) (dt (some (.int (netF nw.1 p))) (hp nw i0 i1 pd lv pl mt nt m)) := by
  refine ret_of_go (L := [_, _, _, _]) (by decide) (Nat.le_of_ble_eq_true rfl) rfl ?_
  have key : ∀ (n k : Nat) (acc : Int32), k + n = 6 → acc = sumI (fun q => fd (nw.1) (q * 6 + p) - fd (nw.1) (p * 6 + q)) k → Go E yX1_net cX1_net 4 (some .int) (d + 1) 0 0 0 0 4 [some (.ref 2), some (.int (nI p)), some (.int acc), some (.int (nI k))] [] (hp nw i0 i1 pd lv pl mt nt m) (dt (some (.int (netF nw.1 p))) (hp nw i0 i1 pd lv pl mt nt m)) := by
    intro n
    induction n with
    | zero =>
      intro k acc hk ha
      obtain rfl : k = 6 := by omega
      refine go_iload_n dX1_net_4 rfl ?_
      refine go_bipush (v := 6) dX1_net_5 (by decide) ?_
      refine go_icmp_ge (tgt := 32) dX1_net_7 (by decide) (fun q7 => ?_) (fun q => absurd (nI_le (a := 6) (b := 6) (by decide) (by decide)) q)
      refine go_iload_n dX1_net_32 rfl ?_
      refine go_iret dX1_net_33 rfl rfl ?_
      exact ⟨by rw [ha]; rfl, rfl⟩
    | succ n ih =>
      intro k acc hk ha
      refine go_iload_n dX1_net_4 rfl ?_
      refine go_bipush (v := 6) dX1_net_5 (by decide) ?_
      refine go_icmp_ge (tgt := 32) dX1_net_7 (by decide) (fun q => absurd q (nI_ge (a := k) (b := 6) (by omega) (by decide))) (fun q7 => ?_)
      refine go_iload_n dX1_net_10 rfl ?_
      refine go_aload_n dX1_net_11 rfl ?_
      refine go_iload_n dX1_net_12 rfl ?_
      refine go_iload_n dX1_net_13 rfl ?_
      refine go_cV (as := [_, _]) dX1_net_14 mX1_debt kX1_50 iX1_debt sX1_debt rfl rfl rfl rfl (rX1_debt_n (a := k) (b := p) (by omega) hp6) rfl rfl rfl ?_
      refine go_aload_n dX1_net_17 rfl ?_
      refine go_iload_n dX1_net_18 rfl ?_
      refine go_iload_n dX1_net_19 rfl ?_
      refine go_cV (as := [_, _]) dX1_net_20 mX1_debt kX1_50 iX1_debt sX1_debt rfl rfl rfl rfl (rX1_debt_n (a := p) (b := k) hp6 (by omega)) rfl rfl rfl ?_
      refine go_isub dX1_net_23 ?_
      refine go_iadd dX1_net_24 ?_
      refine go_istore_n (L' := [_, _, _, _]) dX1_net_25 rfl rfl rfl ?_
      refine go_iinc (v := nI (k + 1)) (L' := [_, _, _, _]) dX1_net_26 rfl (nI_1 k) rfl rfl rfl ?_
      refine go_goto (tgt := 4) dX1_net_29 (by decide) ?_
      exact ih (k + 1) _ (by omega) (by rw [ha]; rfl)
  refine go_iconst (v := 0) dX1_net_0 (by decide) ?_
  refine go_istore_n (L' := [_, _, _, _]) dX1_net_1 rfl rfl rfl ?_
  refine go_iconst (v := 0) dX1_net_2 (by decide) ?_
  refine go_istore_n (L' := [_, _, _, _]) dX1_net_3 rfl rfl rfl ?_
  exact key 6 0 0 rfl rfl
set_option maxRecDepth 100000 in
set_option maxHeartbeats 4000000 in
theorem rX1_bare_a {E : gE} {d : Nat} {nw i0 i1 : WorldS} {pd : PadS} {lv : LivesS} {pl : PlanS} {mt : MatS} {nt : NetS} {m : ModS} : Ret E yX1_bare cX1_bare 3 (some .int) (d + 2) 0 0 [.ref 35] (hp nw i0 i1 pd lv pl mt nt m) (dt (some (.int (orB (bareB lv.1) 6))) (hp nw i0 i1 pd lv pl mt nt m)) := by
  refine ret_of_go (L := [_, _, _]) (by decide) (Nat.le_of_ble_eq_true rfl) rfl ?_
  have key : ∀ (n k : Nat) (acc : Int32), k + n = 6 → acc = orB (bareB lv.1) k → Go E yX1_bare cX1_bare 3 (some .int) (d + 2) 0 0 0 0 4 [some (.ref 35), some (.int acc), some (.int (nI k))] [] (hp nw i0 i1 pd lv pl mt nt m) (dt (some (.int (orB (bareB lv.1) 6))) (hp nw i0 i1 pd lv pl mt nt m)) := by
    intro n
    induction n with
    | zero =>
      intro k acc hk ha
      obtain rfl : k = 6 := by omega
      refine go_iload_n dX1_bare_4 rfl ?_
      refine go_bipush (v := 6) dX1_bare_5 (by decide) ?_
      refine go_icmp_ge (tgt := 39) dX1_bare_7 (by decide) (fun q7 => ?_) (fun q => absurd (nI_le (a := 6) (b := 6) (by decide) (by decide)) q)
      refine go_iload_n dX1_bare_39 rfl ?_
      refine go_iret dX1_bare_40 rfl rfl ?_
      exact ⟨by rw [ha], rfl⟩
    | succ n ih =>
      intro k acc hk ha
      refine go_iload_n dX1_bare_4 rfl ?_
      refine go_bipush (v := 6) dX1_bare_5 (by decide) ?_
      refine go_icmp_ge (tgt := 39) dX1_bare_7 (by decide) (fun q => absurd q (nI_ge (a := k) (b := 6) (by omega) (by decide))) (fun q7 => ?_)
      refine go_aload_n dX1_bare_10 rfl ?_
      refine go_iload_n dX1_bare_11 rfl ?_
      refine go_cV (as := [_]) dX1_bare_12 mX1_has kX1_63 iX1_has sX1_has rfl rfl rfl rfl (rX1_has_a) rfl rfl rfl ?_
      refine go_bif_eq (tgt := 33) dX1_bare_15 (by decide) (fun q15 => ?_) (fun q15 => ?_)
      · refine go_iinc (v := nI (k + 1)) (L' := [_, _, _]) dX1_bare_33 rfl (nI_1 k) rfl rfl rfl ?_
        refine go_goto (tgt := 4) dX1_bare_36 (by decide) ?_
        exact ih (k + 1) _ (by omega) (by rw [ha]; simp [orB, bareB, *])
      · refine go_aload_n dX1_bare_18 rfl ?_
        refine go_get dX1_bare_19 fX1_9 rfl rfl ?_
        refine go_iload_n dX1_bare_22 rfl ?_
        refine go_ialdN (k) dX1_bare_23 rfl (by omega) rfl ?_
        refine go_if_ne (tgt := 33) dX1_bare_24 (by decide) (fun q24 => ?_) (fun q24 => ?_)
        · refine go_iinc (v := nI (k + 1)) (L' := [_, _, _]) dX1_bare_33 rfl (nI_1 k) rfl rfl rfl ?_
          refine go_goto (tgt := 4) dX1_bare_36 (by decide) ?_
          exact ih (k + 1) _ (by omega) (by rw [ha]; simp [orB, bareB, *])
        · refine go_iload_n dX1_bare_27 rfl ?_
          refine go_iconst (v := 1) dX1_bare_28 (by decide) ?_
          refine go_iload_n dX1_bare_29 rfl ?_
          refine go_ishl dX1_bare_30 ?_
          refine go_ior dX1_bare_31 ?_
          refine go_istore_n (L' := [_, _, _]) dX1_bare_32 rfl rfl rfl ?_
          refine go_iinc (v := nI (k + 1)) (L' := [_, _, _]) dX1_bare_33 rfl (nI_1 k) rfl rfl rfl ?_
          refine go_goto (tgt := 4) dX1_bare_36 (by decide) ?_
          exact ih (k + 1) _ (by omega) (by rw [ha]; simp [orB, bareB, *])
  refine go_iconst (v := 0) dX1_bare_0 (by decide) ?_
  refine go_istore_n (L' := [_, _, _]) dX1_bare_1 rfl rfl rfl ?_
  refine go_iconst (v := 0) dX1_bare_2 (by decide) ?_
  refine go_istore_n (L' := [_, _, _]) dX1_bare_3 rfl rfl rfl ?_
  exact key 6 0 0 rfl rfl
set_option maxRecDepth 100000 in
set_option maxHeartbeats 4000000 in
theorem rX1_honest_n {E : gE} {d : Nat} {nw i0 i1 : WorldS} {pd : PadS} {lv : LivesS} {pl : PlanS} {mt : MatS} {nt : NetS} {m : ModS} : Ret E yX1_honest cX1_honest 3 (some .int) (d + 2) 0 0 [.ref 2] (hp nw i0 i1 pd lv pl mt nt m) (dt (some (.int (orB (honB nw.1) 6))) (hp nw i0 i1 pd lv pl mt nt m)) := by
  refine ret_of_go (L := [_, _, _]) (by decide) (Nat.le_of_ble_eq_true rfl) rfl ?_
  have key : ∀ (n k : Nat) (acc : Int32), k + n = 6 → acc = orB (honB nw.1) k → Go E yX1_honest cX1_honest 3 (some .int) (d + 2) 0 0 0 0 4 [some (.ref 2), some (.int acc), some (.int (nI k))] [] (hp nw i0 i1 pd lv pl mt nt m) (dt (some (.int (orB (honB nw.1) 6))) (hp nw i0 i1 pd lv pl mt nt m)) := by
    intro n
    induction n with
    | zero =>
      intro k acc hk ha
      obtain rfl : k = 6 := by omega
      refine go_iload_n dX1_honest_4 rfl ?_
      refine go_bipush (v := 6) dX1_honest_5 (by decide) ?_
      refine go_icmp_ge (tgt := 39) dX1_honest_7 (by decide) (fun q7 => ?_) (fun q => absurd (nI_le (a := 6) (b := 6) (by decide) (by decide)) q)
      refine go_iload_n dX1_honest_39 rfl ?_
      refine go_iret dX1_honest_40 rfl rfl ?_
      exact ⟨by rw [ha], rfl⟩
    | succ n ih =>
      intro k acc hk ha
      refine go_iload_n dX1_honest_4 rfl ?_
      refine go_bipush (v := 6) dX1_honest_5 (by decide) ?_
      refine go_icmp_ge (tgt := 39) dX1_honest_7 (by decide) (fun q => absurd q (nI_ge (a := k) (b := 6) (by omega) (by decide))) (fun q7 => ?_)
      refine go_aload_n dX1_honest_10 rfl ?_
      refine go_iload_n dX1_honest_11 rfl ?_
      refine go_cV (as := [_]) dX1_honest_12 mX1_has kX1_63 iX1_has sX1_has rfl rfl rfl rfl (rX1_has_n) rfl rfl rfl ?_
      refine go_bif_eq (tgt := 33) dX1_honest_15 (by decide) (fun q15 => ?_) (fun q15 => ?_)
      · refine go_iinc (v := nI (k + 1)) (L' := [_, _, _]) dX1_honest_33 rfl (nI_1 k) rfl rfl rfl ?_
        refine go_goto (tgt := 4) dX1_honest_36 (by decide) ?_
        exact ih (k + 1) _ (by omega) (by rw [ha]; simp [orB, honB, *])
      · refine go_aload_n dX1_honest_18 rfl ?_
        refine go_get dX1_honest_19 fX1_21 rfl rfl ?_
        refine go_iload_n dX1_honest_22 rfl ?_
        refine go_ialdN (k) dX1_honest_23 rfl (by omega) rfl ?_
        refine go_if_ne (tgt := 33) dX1_honest_24 (by decide) (fun q24 => ?_) (fun q24 => ?_)
        · refine go_iinc (v := nI (k + 1)) (L' := [_, _, _]) dX1_honest_33 rfl (nI_1 k) rfl rfl rfl ?_
          refine go_goto (tgt := 4) dX1_honest_36 (by decide) ?_
          exact ih (k + 1) _ (by omega) (by rw [ha]; simp [orB, honB, *])
        · refine go_iload_n dX1_honest_27 rfl ?_
          refine go_iconst (v := 1) dX1_honest_28 (by decide) ?_
          refine go_iload_n dX1_honest_29 rfl ?_
          refine go_ishl dX1_honest_30 ?_
          refine go_ior dX1_honest_31 ?_
          refine go_istore_n (L' := [_, _, _]) dX1_honest_32 rfl rfl rfl ?_
          refine go_iinc (v := nI (k + 1)) (L' := [_, _, _]) dX1_honest_33 rfl (nI_1 k) rfl rfl rfl ?_
          refine go_goto (tgt := 4) dX1_honest_36 (by decide) ?_
          exact ih (k + 1) _ (by omega) (by rw [ha]; simp [orB, honB, *])
  refine go_iconst (v := 0) dX1_honest_0 (by decide) ?_
  refine go_istore_n (L' := [_, _, _]) dX1_honest_1 rfl rfl rfl ?_
  refine go_iconst (v := 0) dX1_honest_2 (by decide) ?_
  refine go_istore_n (L' := [_, _, _]) dX1_honest_3 rfl rfl rfl ?_
  exact key 6 0 0 rfl rfl
set_option maxRecDepth 100000 in
set_option maxHeartbeats 4000000 in
theorem rX1_richest_n {E : gE} {d : Nat} {nw i0 i1 : WorldS} {pd : PadS} {lv : LivesS} {pl : PlanS} {mt : MatS} {nt : NetS} {m : ModS} : Ret E yX1_richest cX1_richest 4 (some .int) (d + 2) 0 0 [.ref 2] (hp nw i0 i1 pd lv pl mt nt m) (dt (some (.int (richF nw.1 6).1)) (hp nw i0 i1 pd lv pl mt nt m)) := by
  refine ret_of_go (L := [_, _, _, _]) (by decide) (Nat.le_of_ble_eq_true rfl) rfl ?_
  have key : ∀ (n k : Nat) (fo mo : Int32), k + n = 6 → fo = (richF nw.1 k).1 → mo = (richF nw.1 k).2 → Go E yX1_richest cX1_richest 4 (some .int) (d + 2) 0 0 0 0 7 [some (.ref 2), some (.int fo), some (.int mo), some (.int (nI k))] [] (hp nw i0 i1 pd lv pl mt nt m) (dt (some (.int (richF nw.1 6).1)) (hp nw i0 i1 pd lv pl mt nt m)) := by
    intro n
    induction n with
    | zero =>
      intro k fo mo hk h1 h2
      obtain rfl : k = 6 := by omega
      refine go_iload_n dX1_richest_7 rfl ?_
      refine go_bipush (v := 6) dX1_richest_8 (by decide) ?_
      refine go_icmp_ge (tgt := 46) dX1_richest_10 (by decide) (fun q10 => ?_) (fun q => absurd (nI_le (a := 6) (b := 6) (by decide) (by decide)) q)
      refine go_iload_n dX1_richest_46 rfl ?_
      refine go_iret dX1_richest_47 rfl rfl ?_
      exact ⟨by rw [h1], rfl⟩
    | succ n ih =>
      intro k fo mo hk h1 h2
      refine go_iload_n dX1_richest_7 rfl ?_
      refine go_bipush (v := 6) dX1_richest_8 (by decide) ?_
      refine go_icmp_ge (tgt := 46) dX1_richest_10 (by decide) (fun q => absurd q (nI_ge (a := k) (b := 6) (by omega) (by decide))) (fun q10 => ?_)
      refine go_aload_n dX1_richest_13 rfl ?_
      refine go_iload_n dX1_richest_14 rfl ?_
      refine go_cV (as := [_]) dX1_richest_15 mX1_has kX1_63 iX1_has sX1_has rfl rfl rfl rfl (rX1_has_n) rfl rfl rfl ?_
      refine go_bif_eq (tgt := 40) dX1_richest_18 (by decide) (fun q18 => ?_) (fun q18 => ?_)
      · refine go_iinc (v := nI (k + 1)) (L' := [_, _, _, _]) dX1_richest_40 rfl (nI_1 k) rfl rfl rfl ?_
        refine go_goto (tgt := 7) dX1_richest_43 (by decide) ?_
        exact ih (k + 1) _ _ (by omega) (by first | (rw [rich_no1 q18]; exact h1) | (rw [rich_no2 (by rw [← h2]; exact q28)]; exact h1) | (rw [rich_yes q18 (by rw [← h2]; exact q28)])) (by first | (rw [rich_no1 q18]; exact h2) | (rw [rich_no2 (by rw [← h2]; exact q28)]; exact h2) | (rw [rich_yes q18 (by rw [← h2]; exact q28)]))
      · refine go_aload_n dX1_richest_21 rfl ?_
        refine go_get dX1_richest_22 fX1_18 rfl rfl ?_
        refine go_iload_n dX1_richest_25 rfl ?_
        refine go_ialdN (k) dX1_richest_26 rfl (by omega) rfl ?_
        refine go_iload_n dX1_richest_27 rfl ?_
        refine go_icmp_le (tgt := 40) dX1_richest_28 (by decide) (fun q28 => ?_) (fun q28 => ?_)
        · refine go_iinc (v := nI (k + 1)) (L' := [_, _, _, _]) dX1_richest_40 rfl (nI_1 k) rfl rfl rfl ?_
          refine go_goto (tgt := 7) dX1_richest_43 (by decide) ?_
          exact ih (k + 1) _ _ (by omega) (by first | (rw [rich_no1 q18]; exact h1) | (rw [rich_no2 (by rw [← h2]; exact q28)]; exact h1) | (rw [rich_yes q18 (by rw [← h2]; exact q28)])) (by first | (rw [rich_no1 q18]; exact h2) | (rw [rich_no2 (by rw [← h2]; exact q28)]; exact h2) | (rw [rich_yes q18 (by rw [← h2]; exact q28)]))
        · refine go_iload_n dX1_richest_31 rfl ?_
          refine go_istore_n (L' := [_, _, _, _]) dX1_richest_32 rfl rfl rfl ?_
          refine go_aload_n dX1_richest_33 rfl ?_
          refine go_get dX1_richest_34 fX1_18 rfl rfl ?_
          refine go_iload_n dX1_richest_37 rfl ?_
          refine go_ialdN (k) dX1_richest_38 rfl (by omega) rfl ?_
          refine go_istore_n (L' := [_, _, _, _]) dX1_richest_39 rfl rfl rfl ?_
          refine go_iinc (v := nI (k + 1)) (L' := [_, _, _, _]) dX1_richest_40 rfl (nI_1 k) rfl rfl rfl ?_
          refine go_goto (tgt := 7) dX1_richest_43 (by decide) ?_
          exact ih (k + 1) _ _ (by omega) (by first | (rw [rich_no1 q18]; exact h1) | (rw [rich_no2 (by rw [← h2]; exact q28)]; exact h1) | (rw [rich_yes q18 (by rw [← h2]; exact q28)])) (by first | (rw [rich_no1 q18]; exact h2) | (rw [rich_no2 (by rw [← h2]; exact q28)]; exact h2) | (rw [rich_yes q18 (by rw [← h2]; exact q28)]))
  refine go_bipush (v := (-6)) dX1_richest_0 (by decide) ?_
  refine go_istore_n (L' := [_, _, _, _]) dX1_richest_2 rfl rfl rfl ?_
  refine go_iconst (v := (-1)) dX1_richest_3 (by decide) ?_
  refine go_istore_n (L' := [_, _, _, _]) dX1_richest_4 rfl rfl rfl ?_
  refine go_iconst (v := 0) dX1_richest_5 (by decide) ?_
  refine go_istore_n (L' := [_, _, _, _]) dX1_richest_6 rfl rfl rfl ?_
  exact key 6 0 _ _ rfl rfl rfl
set_option maxRecDepth 100000 in
set_option maxHeartbeats 4000000 in
theorem rX1_earn_a {E : gE} {d : Nat} {nw i0 i1 : WorldS} {pd : PadS} {lv : LivesS} {pl : PlanS} {mt : MatS} {nt : NetS} {m : ModS} {k : Nat} {g : Int32} (hk : k < 6) : Ret E yX1_earn cX1_earn 3 none (d + 1) 0 0 [.ref 35, .int (nI k), .int g] (hp nw i0 i1 pd lv pl mt nt m) (dt none (hp nw i0 i1 pd (earnF lv.1 k g, lv.2) pl mt nt m)) := by
  refine ret_of_go (L := [_, _, _]) (by decide) (Nat.le_of_ble_eq_true rfl) rfl ?_
  refine go_aload_n dX1_earn_0 rfl ?_
  refine go_get dX1_earn_1 fX1_18 rfl rfl ?_
  refine go_iload_n dX1_earn_4 rfl ?_
  refine go_sipush (v := 9999) dX1_earn_5 (by decide) ?_
  refine go_aload_n dX1_earn_8 rfl ?_
  refine go_get dX1_earn_9 fX1_18 rfl rfl ?_
  refine go_iload_n dX1_earn_12 rfl ?_
  refine go_ialdN (k) dX1_earn_13 rfl (hk) rfl ?_
  refine go_iload_n dX1_earn_14 rfl ?_
  refine go_iadd dX1_earn_15 ?_
  refine go_mmin dX1_earn_16 mkX1_58 rfl rfl rfl ?_
  refine go_iastN (k) dX1_earn_19 rfl (hk) rfl ?_
  refine go_vret dX1_earn_20 rfl rfl ?_
  exact ⟨rfl, rfl⟩
set_option maxRecDepth 100000 in
set_option maxHeartbeats 4000000 in
theorem rX1_signAct_a {E : gE} {d : Nat} {nw i0 i1 : WorldS} {pd : PadS} {lv : LivesS} {pl : PlanS} {mt : MatS} {nt : NetS} {m : ModS} {k : Nat} {g : Int32} (hk : k < 6) : Ret E yX1_signAct cX1_signAct 3 none (d + 2) 0 0 [.ref 35, .int (nI k), .int g] (hp nw i0 i1 pd lv pl mt nt m) (dt none (hp nw i0 i1 pd (signF lv.1 k g, lv.2) pl mt nt m)) := by
  refine ret_of_go (L := [_, _, _]) (by decide) (Nat.le_of_ble_eq_true rfl) rfl ?_
  refine go_aload_n dX1_signAct_0 rfl ?_
  refine go_get dX1_signAct_1 fX1_9 rfl rfl ?_
  refine go_iload_n dX1_signAct_4 rfl ?_
  refine go_dup2 dX1_signAct_5 rfl rfl ?_
  refine go_ialdN (k) dX1_signAct_6 rfl (hk) rfl ?_
  refine go_iconst (v := 1) dX1_signAct_7 (by decide) ?_
  refine go_isub dX1_signAct_8 ?_
  refine go_iastN (k) dX1_signAct_9 rfl (hk) rfl ?_
  refine go_heap (h2 := (hp nw i0 i1 pd (fSh lv.1 (upd (fs_ lv.1) k (fs_ lv.1 k - 1)), lv.2) pl mt nt m)) rfl ?_
  refine go_aload_n dX1_signAct_10 rfl ?_
  refine go_iload_n dX1_signAct_11 rfl ?_
  refine go_iload_n dX1_signAct_12 rfl ?_
  refine go_cVv (as := [_, _]) dX1_signAct_13 mX1_earn kX1_54 iX1_earn sX1_earn rfl rfl rfl rfl (rX1_earn_a hk) rfl rfl rfl ?_
  refine go_vret dX1_signAct_16 rfl rfl ?_
  exact ⟨rfl, rfl⟩
set_option maxRecDepth 100000 in
set_option maxHeartbeats 4000000 in
theorem rX1_forgeAct_a {E : gE} {d : Nat} {nw i0 i1 : WorldS} {pd : PadS} {lv : LivesS} {pl : PlanS} {mt : MatS} {nt : NetS} {m : ModS} {k : Nat} {g : Int32} (hk : k < 6) : Ret E yX1_forgeAct cX1_forgeAct 3 none (d + 2) 0 0 [.ref 35, .int (nI k), .int g] (hp nw i0 i1 pd lv pl mt nt m) (dt none (hp nw i0 i1 pd (forgeF lv.1 k g, lv.2) pl mt nt m)) := by
  refine ret_of_go (L := [_, _, _]) (by decide) (Nat.le_of_ble_eq_true rfl) rfl ?_
  refine go_aload_n dX1_forgeAct_0 rfl ?_
  refine go_get dX1_forgeAct_1 fX1_21 rfl rfl ?_
  refine go_iload_n dX1_forgeAct_4 rfl ?_
  refine go_dup2 dX1_forgeAct_5 rfl rfl ?_
  refine go_ialdN (k) dX1_forgeAct_6 rfl (hk) rfl ?_
  refine go_iconst (v := 1) dX1_forgeAct_7 (by decide) ?_
  refine go_iadd dX1_forgeAct_8 ?_
  refine go_iastN (k) dX1_forgeAct_9 rfl (hk) rfl ?_
  refine go_heap (h2 := (hp nw i0 i1 pd (fFo lv.1 (upd (fg lv.1) k (fg lv.1 k + 1)), lv.2) pl mt nt m)) rfl ?_
  refine go_aload_n dX1_forgeAct_10 rfl ?_
  refine go_iload_n dX1_forgeAct_11 rfl ?_
  refine go_iload_n dX1_forgeAct_12 rfl ?_
  refine go_cVv (as := [_, _]) dX1_forgeAct_13 mX1_earn kX1_54 iX1_earn sX1_earn rfl rfl rfl rfl (rX1_earn_a hk) rfl rfl rfl ?_
  refine go_vret dX1_forgeAct_16 rfl rfl ?_
  exact ⟨rfl, rfl⟩
set_option maxRecDepth 100000 in
set_option maxHeartbeats 4000000 in
theorem rX1_move_a {E : gE} {d : Nat} {nw i0 i1 : WorldS} {pd : PadS} {lv : LivesS} {pl : PlanS} {mt : MatS} {nt : NetS} {m : ModS} {a b : Nat} {n : Int32} (ha : a < 6) (hb : b < 6) : Ret E yX1_move cX1_move 4 none (d + 1) 0 0 [.ref 35, .int (nI a), .int (nI b), .int n] (hp nw i0 i1 pd lv pl mt nt m) (dt none (hp nw i0 i1 pd (moveF lv.1 a b n, lv.2) pl mt nt m)) := by
  refine ret_of_go (L := [_, _, _, _]) (by decide) (Nat.le_of_ble_eq_true rfl) rfl ?_
  refine go_aload_n dX1_move_0 rfl ?_
  refine go_get dX1_move_1 fX1_9 rfl rfl ?_
  refine go_iload_n dX1_move_4 rfl ?_
  refine go_dup2 dX1_move_5 rfl rfl ?_
  refine go_ialdN (a) dX1_move_6 rfl (ha) rfl ?_
  refine go_iload_n dX1_move_7 rfl ?_
  refine go_isub dX1_move_8 ?_
  refine go_iastN (a) dX1_move_9 rfl (ha) rfl ?_
  refine go_aload_n dX1_move_10 rfl ?_
  refine go_get dX1_move_11 fX1_9 rfl rfl ?_
  refine go_iload_n dX1_move_14 rfl ?_
  refine go_sipush (v := 400) dX1_move_15 (by decide) ?_
  refine go_aload_n dX1_move_18 rfl ?_
  refine go_get dX1_move_19 fX1_9 rfl rfl ?_
  refine go_iload_n dX1_move_22 rfl ?_
  refine go_ialdN (b) dX1_move_23 rfl (hb) rfl ?_
  refine go_iload_n dX1_move_24 rfl ?_
  refine go_iadd dX1_move_25 ?_
  refine go_mmin dX1_move_26 mkX1_58 rfl rfl rfl ?_
  refine go_iastN (b) dX1_move_29 rfl (hb) rfl ?_
  refine go_vret dX1_move_30 rfl rfl ?_
  exact ⟨rfl, rfl⟩
set_option maxRecDepth 100000 in
set_option maxHeartbeats 4000000 in
theorem rX1_owe_a {E : gE} {d : Nat} {nw i0 i1 : WorldS} {pd : PadS} {lv : LivesS} {pl : PlanS} {mt : MatS} {nt : NetS} {m : ModS} {a b : Nat} {n : Int32} (ha : a < 6) (hb : b < 6) : Ret E yX1_owe cX1_owe 4 none d 0 0 [.ref 35, .int (nI a), .int (nI b), .int n] (hp nw i0 i1 pd lv pl mt nt m) (dt none (hp nw i0 i1 pd (oweF lv.1 a b n, lv.2) pl mt nt m)) := by
  refine ret_of_go (L := [_, _, _, _]) (by decide) (Nat.le_of_ble_eq_true rfl) rfl ?_
  refine go_aload_n dX1_owe_0 rfl ?_
  refine go_get dX1_owe_1 fX1_24 rfl rfl ?_
  refine go_iload_n dX1_owe_4 rfl ?_
  refine go_bipush (v := 6) dX1_owe_5 (by decide) ?_
  refine go_imul dX1_owe_7 ?_
  refine go_iload_n dX1_owe_8 rfl ?_
  refine go_iadd dX1_owe_9 ?_
  refine go_topi_eq nI6 ?_
  refine go_dup2 dX1_owe_10 rfl rfl ?_
  refine go_ialdN (a * 6 + b) dX1_owe_11 rfl (by omega) rfl ?_
  refine go_iload_n dX1_owe_12 rfl ?_
  refine go_iadd dX1_owe_13 ?_
  refine go_iastN (a * 6 + b) dX1_owe_14 rfl (by omega) rfl ?_
  refine go_vret dX1_owe_15 rfl rfl ?_
  exact ⟨rfl, rfl⟩
set_option maxRecDepth 100000 in
set_option maxHeartbeats 4000000 in
theorem rX1_worthOfAll_a {E : gE} {d : Nat} {nw i0 i1 : WorldS} {pd : PadS} {lv : LivesS} {pl : PlanS} {mt : MatS} {nt : NetS} {m : ModS} : Ret E yX1_worthOfAll cX1_worthOfAll 3 (some .int) d 0 0 [.ref 35] (hp nw i0 i1 pd lv pl mt nt m) (dt (some (.int (sumI (fw lv.1) 6))) (hp nw i0 i1 pd lv pl mt nt m)) := by
  refine ret_of_go (L := [_, _, _]) (by decide) (Nat.le_of_ble_eq_true rfl) rfl ?_
  have key : ∀ (n k : Nat) (acc : Int32), k + n = 6 → acc = sumI (fw lv.1) k → Go E yX1_worthOfAll cX1_worthOfAll 3 (some .int) d 0 0 0 0 4 [some (.ref 35), some (.int acc), some (.int (nI k))] [] (hp nw i0 i1 pd lv pl mt nt m) (dt (some (.int (sumI (fw lv.1) 6))) (hp nw i0 i1 pd lv pl mt nt m)) := by
    intro n
    induction n with
    | zero =>
      intro k acc hk ha
      obtain rfl : k = 6 := by omega
      refine go_iload_n dX1_worthOfAll_4 rfl ?_
      refine go_bipush (v := 6) dX1_worthOfAll_5 (by decide) ?_
      refine go_icmp_ge (tgt := 25) dX1_worthOfAll_7 (by decide) (fun q7 => ?_) (fun q => absurd (nI_le (a := 6) (b := 6) (by decide) (by decide)) q)
      refine go_iload_n dX1_worthOfAll_25 rfl ?_
      refine go_iret dX1_worthOfAll_26 rfl rfl ?_
      exact ⟨by rw [ha], rfl⟩
    | succ n ih =>
      intro k acc hk ha
      refine go_iload_n dX1_worthOfAll_4 rfl ?_
      refine go_bipush (v := 6) dX1_worthOfAll_5 (by decide) ?_
      refine go_icmp_ge (tgt := 25) dX1_worthOfAll_7 (by decide) (fun q => absurd q (nI_ge (a := k) (b := 6) (by omega) (by decide))) (fun q7 => ?_)
      refine go_iload_n dX1_worthOfAll_10 rfl ?_
      refine go_aload_n dX1_worthOfAll_11 rfl ?_
      refine go_get dX1_worthOfAll_12 fX1_18 rfl rfl ?_
      refine go_iload_n dX1_worthOfAll_15 rfl ?_
      refine go_ialdN (k) dX1_worthOfAll_16 rfl (by omega) rfl ?_
      refine go_iadd dX1_worthOfAll_17 ?_
      refine go_istore_n (L' := [_, _, _]) dX1_worthOfAll_18 rfl rfl rfl ?_
      refine go_iinc (v := nI (k + 1)) (L' := [_, _, _]) dX1_worthOfAll_19 rfl (nI_1 k) rfl rfl rfl ?_
      refine go_goto (tgt := 4) dX1_worthOfAll_22 (by decide) ?_
      exact ih (k + 1) _ (by omega) (by rw [ha]; rfl)
  refine go_iconst (v := 0) dX1_worthOfAll_0 (by decide) ?_
  refine go_istore_n (L' := [_, _, _]) dX1_worthOfAll_1 rfl rfl rfl ?_
  refine go_iconst (v := 0) dX1_worthOfAll_2 (by decide) ?_
  refine go_istore_n (L' := [_, _, _]) dX1_worthOfAll_3 rfl rfl rfl ?_
  exact key 6 0 0 rfl rfl
set_option maxRecDepth 100000 in
set_option maxHeartbeats 4000000 in
theorem rX1_copyFrom_an {E : gE} {d : Nat} {nw i0 i1 : WorldS} {pd : PadS} {lv : LivesS} {pl : PlanS} {mt : MatS} {nt : NetS} {m : ModS} : Ret E yX1_copyFrom cX1_copyFrom 2 none (d + 1) 0 0 [.ref 35, .ref 2] (hp nw i0 i1 pd lv pl mt nt m) (dt none (hp nw i0 i1 pd (nw.1, lv.2) pl mt nt m)) := by
  refine ret_of_go (L := [_, _]) (by decide) (Nat.le_of_ble_eq_true rfl) rfl ?_
  refine go_aload_n dX1_copyFrom_0 rfl ?_
  refine go_aload_n dX1_copyFrom_1 rfl ?_
  refine go_get dX1_copyFrom_2 fX1_31 rfl rfl ?_
  refine go_put dX1_copyFrom_5 fX1_31 (fun _ => rfl) (fun _ => rfl) rfl rfl ?_
  refine go_aload_n dX1_copyFrom_8 rfl ?_
  refine go_aload_n dX1_copyFrom_9 rfl ?_
  refine go_get dX1_copyFrom_10 fX1_41 rfl rfl ?_
  refine go_put dX1_copyFrom_13 fX1_41 (fun _ => rfl) (fun _ => rfl) rfl rfl ?_
  refine go_aload_n dX1_copyFrom_16 rfl ?_
  refine go_get dX1_copyFrom_17 fX1_9 rfl rfl ?_
  refine go_iconst (v := 0) dX1_copyFrom_20 (by decide) ?_
  refine go_aload_n dX1_copyFrom_21 rfl ?_
  refine go_get dX1_copyFrom_22 fX1_9 rfl rfl ?_
  refine go_iconst (v := 0) dX1_copyFrom_25 (by decide) ?_
  refine go_bipush (v := 6) dX1_copyFrom_26 (by decide) ?_
  refine go_copyF dX1_copyFrom_28 kX1_44 rfl rfl (by decide) (by decide) rfl ?_
  refine go_aload_n dX1_copyFrom_31 rfl ?_
  refine go_get dX1_copyFrom_32 fX1_15 rfl rfl ?_
  refine go_iconst (v := 0) dX1_copyFrom_35 (by decide) ?_
  refine go_aload_n dX1_copyFrom_36 rfl ?_
  refine go_get dX1_copyFrom_37 fX1_15 rfl rfl ?_
  refine go_iconst (v := 0) dX1_copyFrom_40 (by decide) ?_
  refine go_bipush (v := 6) dX1_copyFrom_41 (by decide) ?_
  refine go_copyF dX1_copyFrom_43 kX1_44 rfl rfl (by decide) (by decide) rfl ?_
  refine go_aload_n dX1_copyFrom_46 rfl ?_
  refine go_get dX1_copyFrom_47 fX1_18 rfl rfl ?_
  refine go_iconst (v := 0) dX1_copyFrom_50 (by decide) ?_
  refine go_aload_n dX1_copyFrom_51 rfl ?_
  refine go_get dX1_copyFrom_52 fX1_18 rfl rfl ?_
  refine go_iconst (v := 0) dX1_copyFrom_55 (by decide) ?_
  refine go_bipush (v := 6) dX1_copyFrom_56 (by decide) ?_
  refine go_copyF dX1_copyFrom_58 kX1_44 rfl rfl (by decide) (by decide) rfl ?_
  refine go_aload_n dX1_copyFrom_61 rfl ?_
  refine go_get dX1_copyFrom_62 fX1_21 rfl rfl ?_
  refine go_iconst (v := 0) dX1_copyFrom_65 (by decide) ?_
  refine go_aload_n dX1_copyFrom_66 rfl ?_
  refine go_get dX1_copyFrom_67 fX1_21 rfl rfl ?_
  refine go_iconst (v := 0) dX1_copyFrom_70 (by decide) ?_
  refine go_bipush (v := 6) dX1_copyFrom_71 (by decide) ?_
  refine go_copyF dX1_copyFrom_73 kX1_44 rfl rfl (by decide) (by decide) rfl ?_
  refine go_aload_n dX1_copyFrom_76 rfl ?_
  refine go_get dX1_copyFrom_77 fX1_24 rfl rfl ?_
  refine go_iconst (v := 0) dX1_copyFrom_80 (by decide) ?_
  refine go_aload_n dX1_copyFrom_81 rfl ?_
  refine go_get dX1_copyFrom_82 fX1_24 rfl rfl ?_
  refine go_iconst (v := 0) dX1_copyFrom_85 (by decide) ?_
  refine go_bipush (v := 36) dX1_copyFrom_86 (by decide) ?_
  refine go_copyF dX1_copyFrom_88 kX1_44 rfl rfl (by decide) (by decide) rfl ?_
  refine go_vret dX1_copyFrom_91 rfl rfl ?_
  exact ⟨rfl, rfl⟩
set_option maxRecDepth 100000 in
set_option maxHeartbeats 4000000 in
theorem rX1_copyFrom_na {E : gE} {d : Nat} {nw i0 i1 : WorldS} {pd : PadS} {lv : LivesS} {pl : PlanS} {mt : MatS} {nt : NetS} {m : ModS} : Ret E yX1_copyFrom cX1_copyFrom 2 none (d + 1) 0 0 [.ref 2, .ref 35] (hp nw i0 i1 pd lv pl mt nt m) (dt none (hp (lv.1, nw.2) i0 i1 pd lv pl mt nt m)) := by
  refine ret_of_go (L := [_, _]) (by decide) (Nat.le_of_ble_eq_true rfl) rfl ?_
  refine go_aload_n dX1_copyFrom_0 rfl ?_
  refine go_aload_n dX1_copyFrom_1 rfl ?_
  refine go_get dX1_copyFrom_2 fX1_31 rfl rfl ?_
  refine go_put dX1_copyFrom_5 fX1_31 (fun _ => rfl) (fun _ => rfl) rfl rfl ?_
  refine go_aload_n dX1_copyFrom_8 rfl ?_
  refine go_aload_n dX1_copyFrom_9 rfl ?_
  refine go_get dX1_copyFrom_10 fX1_41 rfl rfl ?_
  refine go_put dX1_copyFrom_13 fX1_41 (fun _ => rfl) (fun _ => rfl) rfl rfl ?_
  refine go_aload_n dX1_copyFrom_16 rfl ?_
  refine go_get dX1_copyFrom_17 fX1_9 rfl rfl ?_
  refine go_iconst (v := 0) dX1_copyFrom_20 (by decide) ?_
  refine go_aload_n dX1_copyFrom_21 rfl ?_
  refine go_get dX1_copyFrom_22 fX1_9 rfl rfl ?_
  refine go_iconst (v := 0) dX1_copyFrom_25 (by decide) ?_
  refine go_bipush (v := 6) dX1_copyFrom_26 (by decide) ?_
  refine go_copyF dX1_copyFrom_28 kX1_44 rfl rfl (by decide) (by decide) rfl ?_
  refine go_aload_n dX1_copyFrom_31 rfl ?_
  refine go_get dX1_copyFrom_32 fX1_15 rfl rfl ?_
  refine go_iconst (v := 0) dX1_copyFrom_35 (by decide) ?_
  refine go_aload_n dX1_copyFrom_36 rfl ?_
  refine go_get dX1_copyFrom_37 fX1_15 rfl rfl ?_
  refine go_iconst (v := 0) dX1_copyFrom_40 (by decide) ?_
  refine go_bipush (v := 6) dX1_copyFrom_41 (by decide) ?_
  refine go_copyF dX1_copyFrom_43 kX1_44 rfl rfl (by decide) (by decide) rfl ?_
  refine go_aload_n dX1_copyFrom_46 rfl ?_
  refine go_get dX1_copyFrom_47 fX1_18 rfl rfl ?_
  refine go_iconst (v := 0) dX1_copyFrom_50 (by decide) ?_
  refine go_aload_n dX1_copyFrom_51 rfl ?_
  refine go_get dX1_copyFrom_52 fX1_18 rfl rfl ?_
  refine go_iconst (v := 0) dX1_copyFrom_55 (by decide) ?_
  refine go_bipush (v := 6) dX1_copyFrom_56 (by decide) ?_
  refine go_copyF dX1_copyFrom_58 kX1_44 rfl rfl (by decide) (by decide) rfl ?_
  refine go_aload_n dX1_copyFrom_61 rfl ?_
  refine go_get dX1_copyFrom_62 fX1_21 rfl rfl ?_
  refine go_iconst (v := 0) dX1_copyFrom_65 (by decide) ?_
  refine go_aload_n dX1_copyFrom_66 rfl ?_
  refine go_get dX1_copyFrom_67 fX1_21 rfl rfl ?_
  refine go_iconst (v := 0) dX1_copyFrom_70 (by decide) ?_
  refine go_bipush (v := 6) dX1_copyFrom_71 (by decide) ?_
  refine go_copyF dX1_copyFrom_73 kX1_44 rfl rfl (by decide) (by decide) rfl ?_
  refine go_aload_n dX1_copyFrom_76 rfl ?_
  refine go_get dX1_copyFrom_77 fX1_24 rfl rfl ?_
  refine go_iconst (v := 0) dX1_copyFrom_80 (by decide) ?_
  refine go_aload_n dX1_copyFrom_81 rfl ?_
  refine go_get dX1_copyFrom_82 fX1_24 rfl rfl ?_
  refine go_iconst (v := 0) dX1_copyFrom_85 (by decide) ?_
  refine go_bipush (v := 36) dX1_copyFrom_86 (by decide) ?_
  refine go_copyF dX1_copyFrom_88 kX1_44 rfl rfl (by decide) (by decide) rfl ?_
  refine go_vret dX1_copyFrom_91 rfl rfl ?_
  exact ⟨rfl, rfl⟩
set_option maxRecDepth 100000 in
set_option maxHeartbeats 4000000 in
theorem rX1_copyFrom_0n {E : gE} {d : Nat} {nw i0 i1 : WorldS} {pd : PadS} {lv : LivesS} {pl : PlanS} {mt : MatS} {nt : NetS} {m : ModS} : Ret E yX1_copyFrom cX1_copyFrom 2 none (d + 1) 0 0 [.ref 13, .ref 2] (hp nw i0 i1 pd lv pl mt nt m) (dt none (hp nw (nw.1, i0.2) i1 pd lv pl mt nt m)) := by
  refine ret_of_go (L := [_, _]) (by decide) (Nat.le_of_ble_eq_true rfl) rfl ?_
  refine go_aload_n dX1_copyFrom_0 rfl ?_
  refine go_aload_n dX1_copyFrom_1 rfl ?_
  refine go_get dX1_copyFrom_2 fX1_31 rfl rfl ?_
  refine go_put dX1_copyFrom_5 fX1_31 (fun _ => rfl) (fun _ => rfl) rfl rfl ?_
  refine go_aload_n dX1_copyFrom_8 rfl ?_
  refine go_aload_n dX1_copyFrom_9 rfl ?_
  refine go_get dX1_copyFrom_10 fX1_41 rfl rfl ?_
  refine go_put dX1_copyFrom_13 fX1_41 (fun _ => rfl) (fun _ => rfl) rfl rfl ?_
  refine go_aload_n dX1_copyFrom_16 rfl ?_
  refine go_get dX1_copyFrom_17 fX1_9 rfl rfl ?_
  refine go_iconst (v := 0) dX1_copyFrom_20 (by decide) ?_
  refine go_aload_n dX1_copyFrom_21 rfl ?_
  refine go_get dX1_copyFrom_22 fX1_9 rfl rfl ?_
  refine go_iconst (v := 0) dX1_copyFrom_25 (by decide) ?_
  refine go_bipush (v := 6) dX1_copyFrom_26 (by decide) ?_
  refine go_copyF dX1_copyFrom_28 kX1_44 rfl rfl (by decide) (by decide) rfl ?_
  refine go_aload_n dX1_copyFrom_31 rfl ?_
  refine go_get dX1_copyFrom_32 fX1_15 rfl rfl ?_
  refine go_iconst (v := 0) dX1_copyFrom_35 (by decide) ?_
  refine go_aload_n dX1_copyFrom_36 rfl ?_
  refine go_get dX1_copyFrom_37 fX1_15 rfl rfl ?_
  refine go_iconst (v := 0) dX1_copyFrom_40 (by decide) ?_
  refine go_bipush (v := 6) dX1_copyFrom_41 (by decide) ?_
  refine go_copyF dX1_copyFrom_43 kX1_44 rfl rfl (by decide) (by decide) rfl ?_
  refine go_aload_n dX1_copyFrom_46 rfl ?_
  refine go_get dX1_copyFrom_47 fX1_18 rfl rfl ?_
  refine go_iconst (v := 0) dX1_copyFrom_50 (by decide) ?_
  refine go_aload_n dX1_copyFrom_51 rfl ?_
  refine go_get dX1_copyFrom_52 fX1_18 rfl rfl ?_
  refine go_iconst (v := 0) dX1_copyFrom_55 (by decide) ?_
  refine go_bipush (v := 6) dX1_copyFrom_56 (by decide) ?_
  refine go_copyF dX1_copyFrom_58 kX1_44 rfl rfl (by decide) (by decide) rfl ?_
  refine go_aload_n dX1_copyFrom_61 rfl ?_
  refine go_get dX1_copyFrom_62 fX1_21 rfl rfl ?_
  refine go_iconst (v := 0) dX1_copyFrom_65 (by decide) ?_
  refine go_aload_n dX1_copyFrom_66 rfl ?_
  refine go_get dX1_copyFrom_67 fX1_21 rfl rfl ?_
  refine go_iconst (v := 0) dX1_copyFrom_70 (by decide) ?_
  refine go_bipush (v := 6) dX1_copyFrom_71 (by decide) ?_
  refine go_copyF dX1_copyFrom_73 kX1_44 rfl rfl (by decide) (by decide) rfl ?_
  refine go_aload_n dX1_copyFrom_76 rfl ?_
  refine go_get dX1_copyFrom_77 fX1_24 rfl rfl ?_
  refine go_iconst (v := 0) dX1_copyFrom_80 (by decide) ?_
  refine go_aload_n dX1_copyFrom_81 rfl ?_
  refine go_get dX1_copyFrom_82 fX1_24 rfl rfl ?_
  refine go_iconst (v := 0) dX1_copyFrom_85 (by decide) ?_
  refine go_bipush (v := 36) dX1_copyFrom_86 (by decide) ?_
  refine go_copyF dX1_copyFrom_88 kX1_44 rfl rfl (by decide) (by decide) rfl ?_
  refine go_vret dX1_copyFrom_91 rfl rfl ?_
  exact ⟨rfl, rfl⟩
set_option maxRecDepth 100000 in
set_option maxHeartbeats 4000000 in
theorem rX1_copyFrom_1n {E : gE} {d : Nat} {nw i0 i1 : WorldS} {pd : PadS} {lv : LivesS} {pl : PlanS} {mt : MatS} {nt : NetS} {m : ModS} : Ret E yX1_copyFrom cX1_copyFrom 2 none (d + 1) 0 0 [.ref 23, .ref 2] (hp nw i0 i1 pd lv pl mt nt m) (dt none (hp nw i0 (nw.1, i1.2) pd lv pl mt nt m)) := by
  refine ret_of_go (L := [_, _]) (by decide) (Nat.le_of_ble_eq_true rfl) rfl ?_
  refine go_aload_n dX1_copyFrom_0 rfl ?_
  refine go_aload_n dX1_copyFrom_1 rfl ?_
  refine go_get dX1_copyFrom_2 fX1_31 rfl rfl ?_
  refine go_put dX1_copyFrom_5 fX1_31 (fun _ => rfl) (fun _ => rfl) rfl rfl ?_
  refine go_aload_n dX1_copyFrom_8 rfl ?_
  refine go_aload_n dX1_copyFrom_9 rfl ?_
  refine go_get dX1_copyFrom_10 fX1_41 rfl rfl ?_
  refine go_put dX1_copyFrom_13 fX1_41 (fun _ => rfl) (fun _ => rfl) rfl rfl ?_
  refine go_aload_n dX1_copyFrom_16 rfl ?_
  refine go_get dX1_copyFrom_17 fX1_9 rfl rfl ?_
  refine go_iconst (v := 0) dX1_copyFrom_20 (by decide) ?_
  refine go_aload_n dX1_copyFrom_21 rfl ?_
  refine go_get dX1_copyFrom_22 fX1_9 rfl rfl ?_
  refine go_iconst (v := 0) dX1_copyFrom_25 (by decide) ?_
  refine go_bipush (v := 6) dX1_copyFrom_26 (by decide) ?_
  refine go_copyF dX1_copyFrom_28 kX1_44 rfl rfl (by decide) (by decide) rfl ?_
  refine go_aload_n dX1_copyFrom_31 rfl ?_
  refine go_get dX1_copyFrom_32 fX1_15 rfl rfl ?_
  refine go_iconst (v := 0) dX1_copyFrom_35 (by decide) ?_
  refine go_aload_n dX1_copyFrom_36 rfl ?_
  refine go_get dX1_copyFrom_37 fX1_15 rfl rfl ?_
  refine go_iconst (v := 0) dX1_copyFrom_40 (by decide) ?_
  refine go_bipush (v := 6) dX1_copyFrom_41 (by decide) ?_
  refine go_copyF dX1_copyFrom_43 kX1_44 rfl rfl (by decide) (by decide) rfl ?_
  refine go_aload_n dX1_copyFrom_46 rfl ?_
  refine go_get dX1_copyFrom_47 fX1_18 rfl rfl ?_
  refine go_iconst (v := 0) dX1_copyFrom_50 (by decide) ?_
  refine go_aload_n dX1_copyFrom_51 rfl ?_
  refine go_get dX1_copyFrom_52 fX1_18 rfl rfl ?_
  refine go_iconst (v := 0) dX1_copyFrom_55 (by decide) ?_
  refine go_bipush (v := 6) dX1_copyFrom_56 (by decide) ?_
  refine go_copyF dX1_copyFrom_58 kX1_44 rfl rfl (by decide) (by decide) rfl ?_
  refine go_aload_n dX1_copyFrom_61 rfl ?_
  refine go_get dX1_copyFrom_62 fX1_21 rfl rfl ?_
  refine go_iconst (v := 0) dX1_copyFrom_65 (by decide) ?_
  refine go_aload_n dX1_copyFrom_66 rfl ?_
  refine go_get dX1_copyFrom_67 fX1_21 rfl rfl ?_
  refine go_iconst (v := 0) dX1_copyFrom_70 (by decide) ?_
  refine go_bipush (v := 6) dX1_copyFrom_71 (by decide) ?_
  refine go_copyF dX1_copyFrom_73 kX1_44 rfl rfl (by decide) (by decide) rfl ?_
  refine go_aload_n dX1_copyFrom_76 rfl ?_
  refine go_get dX1_copyFrom_77 fX1_24 rfl rfl ?_
  refine go_iconst (v := 0) dX1_copyFrom_80 (by decide) ?_
  refine go_aload_n dX1_copyFrom_81 rfl ?_
  refine go_get dX1_copyFrom_82 fX1_24 rfl rfl ?_
  refine go_iconst (v := 0) dX1_copyFrom_85 (by decide) ?_
  refine go_bipush (v := 36) dX1_copyFrom_86 (by decide) ?_
  refine go_copyF dX1_copyFrom_88 kX1_44 rfl rfl (by decide) (by decide) rfl ?_
  refine go_vret dX1_copyFrom_91 rfl rfl ?_
  exact ⟨rfl, rfl⟩
set_option maxRecDepth 100000 in
set_option maxHeartbeats 4000000 in
theorem rX1_copyFrom_n0 {E : gE} {d : Nat} {nw i0 i1 : WorldS} {pd : PadS} {lv : LivesS} {pl : PlanS} {mt : MatS} {nt : NetS} {m : ModS} : Ret E yX1_copyFrom cX1_copyFrom 2 none (d + 1) 0 0 [.ref 2, .ref 13] (hp nw i0 i1 pd lv pl mt nt m) (dt none (hp (i0.1, nw.2) i0 i1 pd lv pl mt nt m)) := by
  refine ret_of_go (L := [_, _]) (by decide) (Nat.le_of_ble_eq_true rfl) rfl ?_
  refine go_aload_n dX1_copyFrom_0 rfl ?_
  refine go_aload_n dX1_copyFrom_1 rfl ?_
  refine go_get dX1_copyFrom_2 fX1_31 rfl rfl ?_
  refine go_put dX1_copyFrom_5 fX1_31 (fun _ => rfl) (fun _ => rfl) rfl rfl ?_
  refine go_aload_n dX1_copyFrom_8 rfl ?_
  refine go_aload_n dX1_copyFrom_9 rfl ?_
  refine go_get dX1_copyFrom_10 fX1_41 rfl rfl ?_
  refine go_put dX1_copyFrom_13 fX1_41 (fun _ => rfl) (fun _ => rfl) rfl rfl ?_
  refine go_aload_n dX1_copyFrom_16 rfl ?_
  refine go_get dX1_copyFrom_17 fX1_9 rfl rfl ?_
  refine go_iconst (v := 0) dX1_copyFrom_20 (by decide) ?_
  refine go_aload_n dX1_copyFrom_21 rfl ?_
  refine go_get dX1_copyFrom_22 fX1_9 rfl rfl ?_
  refine go_iconst (v := 0) dX1_copyFrom_25 (by decide) ?_
  refine go_bipush (v := 6) dX1_copyFrom_26 (by decide) ?_
  refine go_copyF dX1_copyFrom_28 kX1_44 rfl rfl (by decide) (by decide) rfl ?_
  refine go_aload_n dX1_copyFrom_31 rfl ?_
  refine go_get dX1_copyFrom_32 fX1_15 rfl rfl ?_
  refine go_iconst (v := 0) dX1_copyFrom_35 (by decide) ?_
  refine go_aload_n dX1_copyFrom_36 rfl ?_
  refine go_get dX1_copyFrom_37 fX1_15 rfl rfl ?_
  refine go_iconst (v := 0) dX1_copyFrom_40 (by decide) ?_
  refine go_bipush (v := 6) dX1_copyFrom_41 (by decide) ?_
  refine go_copyF dX1_copyFrom_43 kX1_44 rfl rfl (by decide) (by decide) rfl ?_
  refine go_aload_n dX1_copyFrom_46 rfl ?_
  refine go_get dX1_copyFrom_47 fX1_18 rfl rfl ?_
  refine go_iconst (v := 0) dX1_copyFrom_50 (by decide) ?_
  refine go_aload_n dX1_copyFrom_51 rfl ?_
  refine go_get dX1_copyFrom_52 fX1_18 rfl rfl ?_
  refine go_iconst (v := 0) dX1_copyFrom_55 (by decide) ?_
  refine go_bipush (v := 6) dX1_copyFrom_56 (by decide) ?_
  refine go_copyF dX1_copyFrom_58 kX1_44 rfl rfl (by decide) (by decide) rfl ?_
  refine go_aload_n dX1_copyFrom_61 rfl ?_
  refine go_get dX1_copyFrom_62 fX1_21 rfl rfl ?_
  refine go_iconst (v := 0) dX1_copyFrom_65 (by decide) ?_
  refine go_aload_n dX1_copyFrom_66 rfl ?_
  refine go_get dX1_copyFrom_67 fX1_21 rfl rfl ?_
  refine go_iconst (v := 0) dX1_copyFrom_70 (by decide) ?_
  refine go_bipush (v := 6) dX1_copyFrom_71 (by decide) ?_
  refine go_copyF dX1_copyFrom_73 kX1_44 rfl rfl (by decide) (by decide) rfl ?_
  refine go_aload_n dX1_copyFrom_76 rfl ?_
  refine go_get dX1_copyFrom_77 fX1_24 rfl rfl ?_
  refine go_iconst (v := 0) dX1_copyFrom_80 (by decide) ?_
  refine go_aload_n dX1_copyFrom_81 rfl ?_
  refine go_get dX1_copyFrom_82 fX1_24 rfl rfl ?_
  refine go_iconst (v := 0) dX1_copyFrom_85 (by decide) ?_
  refine go_bipush (v := 36) dX1_copyFrom_86 (by decide) ?_
  refine go_copyF dX1_copyFrom_88 kX1_44 rfl rfl (by decide) (by decide) rfl ?_
  refine go_vret dX1_copyFrom_91 rfl rfl ?_
  exact ⟨rfl, rfl⟩
set_option maxRecDepth 100000 in
set_option maxHeartbeats 4000000 in
theorem rX1_copyFrom_n1 {E : gE} {d : Nat} {nw i0 i1 : WorldS} {pd : PadS} {lv : LivesS} {pl : PlanS} {mt : MatS} {nt : NetS} {m : ModS} : Ret E yX1_copyFrom cX1_copyFrom 2 none (d + 1) 0 0 [.ref 2, .ref 23] (hp nw i0 i1 pd lv pl mt nt m) (dt none (hp (i1.1, nw.2) i0 i1 pd lv pl mt nt m)) := by
  refine ret_of_go (L := [_, _]) (by decide) (Nat.le_of_ble_eq_true rfl) rfl ?_
  refine go_aload_n dX1_copyFrom_0 rfl ?_
  refine go_aload_n dX1_copyFrom_1 rfl ?_
  refine go_get dX1_copyFrom_2 fX1_31 rfl rfl ?_
  refine go_put dX1_copyFrom_5 fX1_31 (fun _ => rfl) (fun _ => rfl) rfl rfl ?_
  refine go_aload_n dX1_copyFrom_8 rfl ?_
  refine go_aload_n dX1_copyFrom_9 rfl ?_
  refine go_get dX1_copyFrom_10 fX1_41 rfl rfl ?_
  refine go_put dX1_copyFrom_13 fX1_41 (fun _ => rfl) (fun _ => rfl) rfl rfl ?_
  refine go_aload_n dX1_copyFrom_16 rfl ?_
  refine go_get dX1_copyFrom_17 fX1_9 rfl rfl ?_
  refine go_iconst (v := 0) dX1_copyFrom_20 (by decide) ?_
  refine go_aload_n dX1_copyFrom_21 rfl ?_
  refine go_get dX1_copyFrom_22 fX1_9 rfl rfl ?_
  refine go_iconst (v := 0) dX1_copyFrom_25 (by decide) ?_
  refine go_bipush (v := 6) dX1_copyFrom_26 (by decide) ?_
  refine go_copyF dX1_copyFrom_28 kX1_44 rfl rfl (by decide) (by decide) rfl ?_
  refine go_aload_n dX1_copyFrom_31 rfl ?_
  refine go_get dX1_copyFrom_32 fX1_15 rfl rfl ?_
  refine go_iconst (v := 0) dX1_copyFrom_35 (by decide) ?_
  refine go_aload_n dX1_copyFrom_36 rfl ?_
  refine go_get dX1_copyFrom_37 fX1_15 rfl rfl ?_
  refine go_iconst (v := 0) dX1_copyFrom_40 (by decide) ?_
  refine go_bipush (v := 6) dX1_copyFrom_41 (by decide) ?_
  refine go_copyF dX1_copyFrom_43 kX1_44 rfl rfl (by decide) (by decide) rfl ?_
  refine go_aload_n dX1_copyFrom_46 rfl ?_
  refine go_get dX1_copyFrom_47 fX1_18 rfl rfl ?_
  refine go_iconst (v := 0) dX1_copyFrom_50 (by decide) ?_
  refine go_aload_n dX1_copyFrom_51 rfl ?_
  refine go_get dX1_copyFrom_52 fX1_18 rfl rfl ?_
  refine go_iconst (v := 0) dX1_copyFrom_55 (by decide) ?_
  refine go_bipush (v := 6) dX1_copyFrom_56 (by decide) ?_
  refine go_copyF dX1_copyFrom_58 kX1_44 rfl rfl (by decide) (by decide) rfl ?_
  refine go_aload_n dX1_copyFrom_61 rfl ?_
  refine go_get dX1_copyFrom_62 fX1_21 rfl rfl ?_
  refine go_iconst (v := 0) dX1_copyFrom_65 (by decide) ?_
  refine go_aload_n dX1_copyFrom_66 rfl ?_
  refine go_get dX1_copyFrom_67 fX1_21 rfl rfl ?_
  refine go_iconst (v := 0) dX1_copyFrom_70 (by decide) ?_
  refine go_bipush (v := 6) dX1_copyFrom_71 (by decide) ?_
  refine go_copyF dX1_copyFrom_73 kX1_44 rfl rfl (by decide) (by decide) rfl ?_
  refine go_aload_n dX1_copyFrom_76 rfl ?_
  refine go_get dX1_copyFrom_77 fX1_24 rfl rfl ?_
  refine go_iconst (v := 0) dX1_copyFrom_80 (by decide) ?_
  refine go_aload_n dX1_copyFrom_81 rfl ?_
  refine go_get dX1_copyFrom_82 fX1_24 rfl rfl ?_
  refine go_iconst (v := 0) dX1_copyFrom_85 (by decide) ?_
  refine go_bipush (v := 36) dX1_copyFrom_86 (by decide) ?_
  refine go_copyF dX1_copyFrom_88 kX1_44 rfl rfl (by decide) (by decide) rfl ?_
  refine go_vret dX1_copyFrom_91 rfl rfl ?_
  exact ⟨rfl, rfl⟩
