section Ops
variable {E : gE} {y : MethodName} {cc : ByteArray} {nL : Nat} {ret : Option FieldType} {d kc ks mc ms pc : Nat} {L : List (Option Value)} {st : List Value} {h : gH} {Q : Option Value → gH → Prop}
theorem go_iadd {a b : Int32} (hd : decode cc pc = .ok (.iadd, 1)) (k : Go E y cc nL ret d kc ks mc ms (pc + 1) L (.int (a + b) :: st) h Q) : Go E y cc nL ret d kc ks mc ms pc L (.int b :: .int a :: st) h Q := by
  intro p e s m args below meth c H locs ls X hP hl hL
  exact lv_iadd X.1 X.2.1 hd (k p e s m args below meth c H locs ls X hP hl hL)
theorem go_isub {a b : Int32} (hd : decode cc pc = .ok (.isub, 1)) (k : Go E y cc nL ret d kc ks mc ms (pc + 1) L (.int (a - b) :: st) h Q) : Go E y cc nL ret d kc ks mc ms pc L (.int b :: .int a :: st) h Q := by
  intro p e s m args below meth c H locs ls X hP hl hL
  exact lv_isub X.1 X.2.1 hd (k p e s m args below meth c H locs ls X hP hl hL)
theorem go_imul {a b : Int32} (hd : decode cc pc = .ok (.imul, 1)) (k : Go E y cc nL ret d kc ks mc ms (pc + 1) L (.int (a * b) :: st) h Q) : Go E y cc nL ret d kc ks mc ms pc L (.int b :: .int a :: st) h Q := by
  intro p e s m args below meth c H locs ls X hP hl hL
  exact lv_imul X.1 X.2.1 hd (k p e s m args below meth c H locs ls X hP hl hL)
theorem go_iand {a b : Int32} (hd : decode cc pc = .ok (.iand, 1)) (k : Go E y cc nL ret d kc ks mc ms (pc + 1) L (.int (a &&& b) :: st) h Q) : Go E y cc nL ret d kc ks mc ms pc L (.int b :: .int a :: st) h Q := by
  intro p e s m args below meth c H locs ls X hP hl hL
  exact lv_iand X.1 X.2.1 hd (k p e s m args below meth c H locs ls X hP hl hL)
theorem go_ior {a b : Int32} (hd : decode cc pc = .ok (.ior, 1)) (k : Go E y cc nL ret d kc ks mc ms (pc + 1) L (.int (a ||| b) :: st) h Q) : Go E y cc nL ret d kc ks mc ms pc L (.int b :: .int a :: st) h Q := by
  intro p e s m args below meth c H locs ls X hP hl hL
  exact lv_ior X.1 X.2.1 hd (k p e s m args below meth c H locs ls X hP hl hL)
theorem go_ixor {a b : Int32} (hd : decode cc pc = .ok (.ixor, 1)) (k : Go E y cc nL ret d kc ks mc ms (pc + 1) L (.int (a ^^^ b) :: st) h Q) : Go E y cc nL ret d kc ks mc ms pc L (.int b :: .int a :: st) h Q := by
  intro p e s m args below meth c H locs ls X hP hl hL
  exact lv_ixor X.1 X.2.1 hd (k p e s m args below meth c H locs ls X hP hl hL)
theorem go_ladd {a b : Int64} (hd : decode cc pc = .ok (.ladd, 1)) (k : Go E y cc nL ret d kc ks mc ms (pc + 1) L (.long (a + b) :: st) h Q) : Go E y cc nL ret d kc ks mc ms pc L (.long b :: .long a :: st) h Q := by
  intro p e s m args below meth c H locs ls X hP hl hL
  exact lv_ladd X.1 X.2.1 hd (k p e s m args below meth c H locs ls X hP hl hL)
theorem go_lsub {a b : Int64} (hd : decode cc pc = .ok (.lsub, 1)) (k : Go E y cc nL ret d kc ks mc ms (pc + 1) L (.long (a - b) :: st) h Q) : Go E y cc nL ret d kc ks mc ms pc L (.long b :: .long a :: st) h Q := by
  intro p e s m args below meth c H locs ls X hP hl hL
  exact lv_lsub X.1 X.2.1 hd (k p e s m args below meth c H locs ls X hP hl hL)
theorem go_lmul {a b : Int64} (hd : decode cc pc = .ok (.lmul, 1)) (k : Go E y cc nL ret d kc ks mc ms (pc + 1) L (.long (a * b) :: st) h Q) : Go E y cc nL ret d kc ks mc ms pc L (.long b :: .long a :: st) h Q := by
  intro p e s m args below meth c H locs ls X hP hl hL
  exact lv_lmul X.1 X.2.1 hd (k p e s m args below meth c H locs ls X hP hl hL)
theorem go_idiv {a b : Int32} (hd : decode cc pc = .ok (.idiv, 1)) (hne : ¬ b = 0) (k : Go E y cc nL ret d kc ks mc ms (pc + 1) L (.int (a / b) :: st) h Q) : Go E y cc nL ret d kc ks mc ms pc L (.int b :: .int a :: st) h Q := by
  intro p e s m args below meth c H locs ls X hP hl hL
  exact lv_idiv X.1 X.2.1 hd hne (k p e s m args below meth c H locs ls X hP hl hL)
theorem go_irem {a b : Int32} (hd : decode cc pc = .ok (.irem, 1)) (hne : ¬ b = 0) (k : Go E y cc nL ret d kc ks mc ms (pc + 1) L (.int (a - a / b * b) :: st) h Q) : Go E y cc nL ret d kc ks mc ms pc L (.int b :: .int a :: st) h Q := by
  intro p e s m args below meth c H locs ls X hP hl hL
  exact lv_irem X.1 X.2.1 hd hne (k p e s m args below meth c H locs ls X hP hl hL)
theorem go_ldiv {a b : Int64} (hd : decode cc pc = .ok (.ldiv, 1)) (hne : ¬ b = 0) (k : Go E y cc nL ret d kc ks mc ms (pc + 1) L (.long (a / b) :: st) h Q) : Go E y cc nL ret d kc ks mc ms pc L (.long b :: .long a :: st) h Q := by
  intro p e s m args below meth c H locs ls X hP hl hL
  exact lv_ldiv X.1 X.2.1 hd hne (k p e s m args below meth c H locs ls X hP hl hL)
theorem go_lrem {a b : Int64} (hd : decode cc pc = .ok (.lrem, 1)) (hne : ¬ b = 0) (k : Go E y cc nL ret d kc ks mc ms (pc + 1) L (.long (a - a / b * b) :: st) h Q) : Go E y cc nL ret d kc ks mc ms pc L (.long b :: .long a :: st) h Q := by
  intro p e s m args below meth c H locs ls X hP hl hL
  exact lv_lrem X.1 X.2.1 hd hne (k p e s m args below meth c H locs ls X hP hl hL)
theorem go_ineg {a : Int32} (hd : decode cc pc = .ok (.ineg, 1)) (k : Go E y cc nL ret d kc ks mc ms (pc + 1) L (.int (-a) :: st) h Q) : Go E y cc nL ret d kc ks mc ms pc L (.int a :: st) h Q := by
  intro p e s m args below meth c H locs ls X hP hl hL
  exact lv_ineg X.1 X.2.1 hd (k p e s m args below meth c H locs ls X hP hl hL)
theorem go_ishl {a b : Int32} (hd : decode cc pc = .ok (.ishl, 1)) (k : Go E y cc nL ret d kc ks mc ms (pc + 1) L (.int (a <<< (b &&& 31)) :: st) h Q) : Go E y cc nL ret d kc ks mc ms pc L (.int b :: .int a :: st) h Q := by
  intro p e s m args below meth c H locs ls X hP hl hL
  exact lv_ishl X.1 X.2.1 hd (k p e s m args below meth c H locs ls X hP hl hL)
theorem go_ishr {a b : Int32} (hd : decode cc pc = .ok (.ishr, 1)) (k : Go E y cc nL ret d kc ks mc ms (pc + 1) L (.int (a >>> (b &&& 31)) :: st) h Q) : Go E y cc nL ret d kc ks mc ms pc L (.int b :: .int a :: st) h Q := by
  intro p e s m args below meth c H locs ls X hP hl hL
  exact lv_ishr X.1 X.2.1 hd (k p e s m args below meth c H locs ls X hP hl hL)
theorem go_iushr {a b : Int32} (hd : decode cc pc = .ok (.iushr, 1)) (k : Go E y cc nL ret d kc ks mc ms (pc + 1) L (.int (a.toUInt32 >>> (b.toUInt32 &&& Int32.toUInt32 31)).toInt32 :: st) h Q) : Go E y cc nL ret d kc ks mc ms pc L (.int b :: .int a :: st) h Q := by
  intro p e s m args below meth c H locs ls X hP hl hL
  exact lv_iushr X.1 X.2.1 hd rfl (k p e s m args below meth c H locs ls X hP hl hL)
theorem go_i2l {a : Int32} (hd : decode cc pc = .ok (.i2l, 1)) (k : Go E y cc nL ret d kc ks mc ms (pc + 1) L (.long a.toInt64 :: st) h Q) : Go E y cc nL ret d kc ks mc ms pc L (.int a :: st) h Q := by
  intro p e s m args below meth c H locs ls X hP hl hL
  exact lv_i2l X.1 X.2.1 hd rfl (k p e s m args below meth c H locs ls X hP hl hL)
theorem go_lcmp {a b : Int64} (hd : decode cc pc = .ok (.lcmp, 1)) (k : Go E y cc nL ret d kc ks mc ms (pc + 1) L (.int (lg_cmp a b) :: st) h Q) : Go E y cc nL ret d kc ks mc ms pc L (.long b :: .long a :: st) h Q := by
  intro p e s m args below meth c H locs ls X hP hl hL
  exact W.lcmp X.1 X.2.1 hd (k p e s m args below meth c H locs ls X hP hl hL)
theorem go_iconst {n : Int} {v : Int32} (hd : decode cc pc = .ok (.iconst n, 1)) (hv : Int32.ofInt n = v) (k : Go E y cc nL ret d kc ks mc ms (pc + 1) L (.int v :: st) h Q) : Go E y cc nL ret d kc ks mc ms pc L st h Q := by
  intro p e s m args below meth c H locs ls X hP hl hL
  exact lv_iconst X.1 X.2.1 hd hv (k p e s m args below meth c H locs ls X hP hl hL)
theorem go_bipush {n : Int} {v : Int32} (hd : decode cc pc = .ok (.bipush n, 2)) (hv : (Int8.ofInt n).toInt32 = v) (k : Go E y cc nL ret d kc ks mc ms (pc + 2) L (.int v :: st) h Q) : Go E y cc nL ret d kc ks mc ms pc L st h Q := by
  intro p e s m args below meth c H locs ls X hP hl hL
  exact lv_bipush X.1 X.2.1 hd hv (k p e s m args below meth c H locs ls X hP hl hL)
theorem go_sipush {n : Int} {v : Int32} (hd : decode cc pc = .ok (.sipush n, 3)) (hv : (Int16.ofInt n).toInt32 = v) (k : Go E y cc nL ret d kc ks mc ms (pc + 3) L (.int v :: st) h Q) : Go E y cc nL ret d kc ks mc ms pc L st h Q := by
  intro p e s m args below meth c H locs ls X hP hl hL
  exact lv_sipush X.1 X.2.1 hd hv (k p e s m args below meth c H locs ls X hP hl hL)
theorem go_lconst {n : Fin 2} {v : Int64} (hd : decode cc pc = .ok (.lconst n, 1)) (hv : Int64.ofNat (n : Nat) = v) (k : Go E y cc nL ret d kc ks mc ms (pc + 1) L (.long v :: st) h Q) : Go E y cc nL ret d kc ks mc ms pc L st h Q := by
  intro p e s m args below meth c H locs ls X hP hl hL
  exact lv_lconst X.1 X.2.1 hd hv (k p e s m args below meth c H locs ls X hP hl hL)
theorem go_dup {v : Value} (hd : decode cc pc = .ok (.dup, 1)) (hc : v.category = 1) (k : Go E y cc nL ret d kc ks mc ms (pc + 1) L (v :: v :: st) h Q) : Go E y cc nL ret d kc ks mc ms pc L (v :: st) h Q := by
  intro p e s m args below meth c H locs ls X hP hl hL
  exact lv_dup X.1 X.2.1 hd (by rw [gv_cat]; exact hc) (k p e s m args below meth c H locs ls X hP hl hL)
theorem go_pop {v : Value} (hd : decode cc pc = .ok (.pop, 1)) (hc : v.category = 1) (k : Go E y cc nL ret d kc ks mc ms (pc + 1) L st h Q) : Go E y cc nL ret d kc ks mc ms pc L (v :: st) h Q := by
  intro p e s m args below meth c H locs ls X hP hl hL
  exact lv_pop X.1 X.2.1 hd (by rw [gv_cat]; exact hc) (k p e s m args below meth c H locs ls X hP hl hL)
theorem go_dup2 {v w : Value} (hd : decode cc pc = .ok (.dup2, 1)) (hc : v.category = 1) (hc2 : w.category = 1) (k : Go E y cc nL ret d kc ks mc ms (pc + 1) L (v :: w :: v :: w :: st) h Q) : Go E y cc nL ret d kc ks mc ms pc L (v :: w :: st) h Q := by
  intro p e s m args below meth c H locs ls X hP hl hL
  exact lv_dup2_11 X.1 X.2.1 hd (by rw [gv_cat]; exact hc) (by rw [gv_cat]; exact hc2) (k p e s m args below meth c H locs ls X hP hl hL)
theorem go_iload_n {j : Fin 4} {x : Int32} (hd : decode cc pc = .ok (.iload_n j, 1)) (hx : lgt L (j : Nat) = some (.int x)) (k : Go E y cc nL ret d kc ks mc ms (pc + 1) L (.int x :: st) h Q) : Go E y cc nL ret d kc ks mc ms pc L st h Q := by
  intro p e s m args below meth c H locs ls X hP hl hL
  exact lv_iload_n X.1 X.2.1 hd rfl (hL.2.2 _ _ hx) (k p e s m args below meth c H locs ls X hP hl hL)
theorem go_iload {j : Nat} {x : Int32} (hd : decode cc pc = .ok (.iload j, 2)) (hx : lgt L j = some (.int x)) (k : Go E y cc nL ret d kc ks mc ms (pc + 2) L (.int x :: st) h Q) : Go E y cc nL ret d kc ks mc ms pc L st h Q := by
  intro p e s m args below meth c H locs ls X hP hl hL
  exact lv_iload X.1 X.2.1 hd (hL.2.2 _ _ hx) (k p e s m args below meth c H locs ls X hP hl hL)
theorem go_lload_n {j : Fin 4} {x : Int64} (hd : decode cc pc = .ok (.lload_n j, 1)) (hx : lgt L (j : Nat) = some (.long x)) (k : Go E y cc nL ret d kc ks mc ms (pc + 1) L (.long x :: st) h Q) : Go E y cc nL ret d kc ks mc ms pc L st h Q := by
  intro p e s m args below meth c H locs ls X hP hl hL
  exact lv_lload_n X.1 X.2.1 hd rfl (hL.2.2 _ _ hx) (k p e s m args below meth c H locs ls X hP hl hL)
theorem go_lload {j : Nat} {x : Int64} (hd : decode cc pc = .ok (.lload j, 2)) (hx : lgt L j = some (.long x)) (k : Go E y cc nL ret d kc ks mc ms (pc + 2) L (.long x :: st) h Q) : Go E y cc nL ret d kc ks mc ms pc L st h Q := by
  intro p e s m args below meth c H locs ls X hP hl hL
  exact lv_lload X.1 X.2.1 hd (hL.2.2 _ _ hx) (k p e s m args below meth c H locs ls X hP hl hL)
theorem go_aload_n {j : Fin 4} {x : Nat} (hd : decode cc pc = .ok (.aload_n j, 1)) (hx : lgt L (j : Nat) = some (.ref x)) (k : Go E y cc nL ret d kc ks mc ms (pc + 1) L (.ref x :: st) h Q) : Go E y cc nL ret d kc ks mc ms pc L st h Q := by
  intro p e s m args below meth c H locs ls X hP hl hL
  exact lv_aload_n X.1 X.2.1 hd rfl (hL.2.2 _ _ hx) (k p e s m args below meth c H locs ls X hP hl hL)
theorem go_aload {j : Nat} {x : Nat} (hd : decode cc pc = .ok (.aload j, 2)) (hx : lgt L j = some (.ref x)) (k : Go E y cc nL ret d kc ks mc ms (pc + 2) L (.ref x :: st) h Q) : Go E y cc nL ret d kc ks mc ms pc L st h Q := by
  intro p e s m args below meth c H locs ls X hP hl hL
  exact lv_aload X.1 X.2.1 hd (hL.2.2 _ _ hx) (k p e s m args below meth c H locs ls X hP hl hL)
theorem go_istore_n {j : Fin 4} {x : Int32} {L' : List (Option Value)} (hd : decode cc pc = .ok (.istore_n j, 1)) (hj : Nat.blt (j : Nat) nL = true) (h2 : lno2 L (j : Nat) = true) (hs : lset L (j : Nat) (some (.int x)) = L') (k : Go E y cc nL ret d kc ks mc ms (pc + 1) L' st h Q) : Go E y cc nL ret d kc ks mc ms pc L (.int x :: st) h Q := by
  intro p e s m args below meth c H locs ls X hP hl hL
  refine lv_istore_n X.1 X.2.1 hd rfl hL.has (Nat.blt_eq ▸ hj) rfl fun ls' hL' => ?_
  subst hs
  exact (k p e s m args below meth c H locs ls' X hP hl (gL.set1 (v := .int x) h2 hL'))
theorem go_istore {j : Nat} {x : Int32} {L' : List (Option Value)} (hd : decode cc pc = .ok (.istore j, 2)) (hj : Nat.blt j nL = true) (h2 : lno2 L j = true) (hs : lset L j (some (.int x)) = L') (k : Go E y cc nL ret d kc ks mc ms (pc + 2) L' st h Q) : Go E y cc nL ret d kc ks mc ms pc L (.int x :: st) h Q := by
  intro p e s m args below meth c H locs ls X hP hl hL
  refine lv_istore X.1 X.2.1 hd hL.has (Nat.blt_eq ▸ hj) rfl fun ls' hL' => ?_
  subst hs
  exact (k p e s m args below meth c H locs ls' X hP hl (gL.set1 (v := .int x) h2 hL'))
theorem go_astore_n {j : Fin 4} {x : Nat} {L' : List (Option Value)} (hd : decode cc pc = .ok (.astore_n j, 1)) (hj : Nat.blt (j : Nat) nL = true) (h2 : lno2 L (j : Nat) = true) (hs : lset L (j : Nat) (some (.ref x)) = L') (k : Go E y cc nL ret d kc ks mc ms (pc + 1) L' st h Q) : Go E y cc nL ret d kc ks mc ms pc L (.ref x :: st) h Q := by
  intro p e s m args below meth c H locs ls X hP hl hL
  refine lv_astore_n X.1 X.2.1 hd rfl hL.has (Nat.blt_eq ▸ hj) rfl fun ls' hL' => ?_
  subst hs
  exact (k p e s m args below meth c H locs ls' X hP hl (gL.set1 (v := .ref x) h2 hL'))
theorem go_astore {j : Nat} {x : Nat} {L' : List (Option Value)} (hd : decode cc pc = .ok (.astore j, 2)) (hj : Nat.blt j nL = true) (h2 : lno2 L j = true) (hs : lset L j (some (.ref x)) = L') (k : Go E y cc nL ret d kc ks mc ms (pc + 2) L' st h Q) : Go E y cc nL ret d kc ks mc ms pc L (.ref x :: st) h Q := by
  intro p e s m args below meth c H locs ls X hP hl hL
  refine lv_astore X.1 X.2.1 hd hL.has (Nat.blt_eq ▸ hj) rfl fun ls' hL' => ?_
  subst hs
  exact (k p e s m args below meth c H locs ls' X hP hl (gL.set1 (v := .ref x) h2 hL'))
theorem go_lstore_n {j : Fin 4} {x : Int64} {L' : List (Option Value)} (hd : decode cc pc = .ok (.lstore_n j, 1)) (hj : Nat.blt ((j : Nat) + 1) nL = true) (h2 : lno2 L (j : Nat) = true) (hs : lset (lset L (j : Nat) (some (.long x))) ((j : Nat) + 1) none = L') (k : Go E y cc nL ret d kc ks mc ms (pc + 1) L' st h Q) : Go E y cc nL ret d kc ks mc ms pc L (.long x :: st) h Q := by
  intro p e s m args below meth c H locs ls X hP hl hL
  refine lv_lstore_n X.1 X.2.1 hd rfl hL.has (Nat.blt_eq ▸ hj) rfl fun ls' hL' => ?_
  subst hs
  exact (k p e s m args below meth c H locs ls' X hP hl (gL.set2 (v := .long x) h2 hL'))
theorem go_lstore {j : Nat} {x : Int64} {L' : List (Option Value)} (hd : decode cc pc = .ok (.lstore j, 2)) (hj : Nat.blt (j + 1) nL = true) (h2 : lno2 L j = true) (hs : lset (lset L j (some (.long x))) (j + 1) none = L') (k : Go E y cc nL ret d kc ks mc ms (pc + 2) L' st h Q) : Go E y cc nL ret d kc ks mc ms pc L (.long x :: st) h Q := by
  intro p e s m args below meth c H locs ls X hP hl hL
  refine lv_lstore X.1 X.2.1 hd hL.has (Nat.blt_eq ▸ hj) rfl fun ls' hL' => ?_
  subst hs
  exact (k p e s m args below meth c H locs ls' X hP hl (gL.set2 (v := .long x) h2 hL'))
theorem go_iinc {j : Nat} {n : Int} {x v : Int32} {L' : List (Option Value)} (hd : decode cc pc = .ok (.iinc j n, 3)) (hx : lgt L j = some (.int x)) (hv : x + Int32.ofInt n = v) (hj : Nat.blt j nL = true) (h2 : lno2 L j = true) (hs : lset L j (some (.int v)) = L') (k : Go E y cc nL ret d kc ks mc ms (pc + 3) L' st h Q) : Go E y cc nL ret d kc ks mc ms pc L st h Q := by
  intro p e s m args below meth c H locs ls X hP hl hL
  have hm : (j, Value.int x) ∈ lprs E.2.2.2 L := lprs_mem.mpr ⟨.int x, hx, rfl⟩
  obtain ⟨q, hq⟩ := List.getElem?_of_mem hm
  refine lv_iinc X.1 X.2.1 hd hL.has hq hv (Nat.blt_eq ▸ hj) rfl fun ls' hL' => ?_
  subst hs
  exact (k p e s m args below meth c H locs ls' X hP hl (gL.set1 (v := .int v) h2 hL'))
theorem go_icmp_eq {x z : Int32} {off : Int} {tgt : Nat} (hd : decode cc pc = .ok (.if_icmp .eq off, 3)) (ht : (pc : Int) + off = (tgt : Int)) (kt : x = z → Go E y cc nL ret d kc ks mc ms tgt L st h Q) (kf : ¬ x = z → Go E y cc nL ret d kc ks mc ms (pc + 3) L st h Q) : Go E y cc nL ret d kc ks mc ms pc L (.int z :: .int x :: st) h Q := by
  intro p e s m args below meth c H locs ls X hP hl hL
  exact lv_icmp_eq X.1 X.2.1 hd ht (fun q => kt q p e s m args below meth c H locs ls X hP hl hL) (fun q => kf q p e s m args below meth c H locs ls X hP hl hL)
theorem go_if_eq {x : Int32} {off : Int} {tgt : Nat} (hd : decode cc pc = .ok (.ifCond .eq off, 3)) (ht : (pc : Int) + off = (tgt : Int)) (kt : x = 0 → Go E y cc nL ret d kc ks mc ms tgt L st h Q) (kf : ¬ x = 0 → Go E y cc nL ret d kc ks mc ms (pc + 3) L st h Q) : Go E y cc nL ret d kc ks mc ms pc L (.int x :: st) h Q := by
  intro p e s m args below meth c H locs ls X hP hl hL
  exact lv_if_eq X.1 X.2.1 hd ht (fun q => kt q p e s m args below meth c H locs ls X hP hl hL) (fun q => kf q p e s m args below meth c H locs ls X hP hl hL)
theorem go_icmp_ne {x z : Int32} {off : Int} {tgt : Nat} (hd : decode cc pc = .ok (.if_icmp .ne off, 3)) (ht : (pc : Int) + off = (tgt : Int)) (kt : ¬ x = z → Go E y cc nL ret d kc ks mc ms tgt L st h Q) (kf : x = z → Go E y cc nL ret d kc ks mc ms (pc + 3) L st h Q) : Go E y cc nL ret d kc ks mc ms pc L (.int z :: .int x :: st) h Q := by
  intro p e s m args below meth c H locs ls X hP hl hL
  exact lv_icmp_ne X.1 X.2.1 hd ht (fun q => kt q p e s m args below meth c H locs ls X hP hl hL) (fun q => kf q p e s m args below meth c H locs ls X hP hl hL)
theorem go_if_ne {x : Int32} {off : Int} {tgt : Nat} (hd : decode cc pc = .ok (.ifCond .ne off, 3)) (ht : (pc : Int) + off = (tgt : Int)) (kt : ¬ x = 0 → Go E y cc nL ret d kc ks mc ms tgt L st h Q) (kf : x = 0 → Go E y cc nL ret d kc ks mc ms (pc + 3) L st h Q) : Go E y cc nL ret d kc ks mc ms pc L (.int x :: st) h Q := by
  intro p e s m args below meth c H locs ls X hP hl hL
  exact lv_if_ne X.1 X.2.1 hd ht (fun q => kt q p e s m args below meth c H locs ls X hP hl hL) (fun q => kf q p e s m args below meth c H locs ls X hP hl hL)
theorem go_icmp_lt {x z : Int32} {off : Int} {tgt : Nat} (hd : decode cc pc = .ok (.if_icmp .lt off, 3)) (ht : (pc : Int) + off = (tgt : Int)) (kt : x < z → Go E y cc nL ret d kc ks mc ms tgt L st h Q) (kf : ¬ x < z → Go E y cc nL ret d kc ks mc ms (pc + 3) L st h Q) : Go E y cc nL ret d kc ks mc ms pc L (.int z :: .int x :: st) h Q := by
  intro p e s m args below meth c H locs ls X hP hl hL
  exact lv_icmp_lt X.1 X.2.1 hd ht (fun q => kt q p e s m args below meth c H locs ls X hP hl hL) (fun q => kf q p e s m args below meth c H locs ls X hP hl hL)
theorem go_if_lt {x : Int32} {off : Int} {tgt : Nat} (hd : decode cc pc = .ok (.ifCond .lt off, 3)) (ht : (pc : Int) + off = (tgt : Int)) (kt : x < 0 → Go E y cc nL ret d kc ks mc ms tgt L st h Q) (kf : ¬ x < 0 → Go E y cc nL ret d kc ks mc ms (pc + 3) L st h Q) : Go E y cc nL ret d kc ks mc ms pc L (.int x :: st) h Q := by
  intro p e s m args below meth c H locs ls X hP hl hL
  exact lv_if_lt X.1 X.2.1 hd ht (fun q => kt q p e s m args below meth c H locs ls X hP hl hL) (fun q => kf q p e s m args below meth c H locs ls X hP hl hL)
theorem go_icmp_ge {x z : Int32} {off : Int} {tgt : Nat} (hd : decode cc pc = .ok (.if_icmp .ge off, 3)) (ht : (pc : Int) + off = (tgt : Int)) (kt : z ≤ x → Go E y cc nL ret d kc ks mc ms tgt L st h Q) (kf : ¬ z ≤ x → Go E y cc nL ret d kc ks mc ms (pc + 3) L st h Q) : Go E y cc nL ret d kc ks mc ms pc L (.int z :: .int x :: st) h Q := by
  intro p e s m args below meth c H locs ls X hP hl hL
  exact lv_icmp_ge X.1 X.2.1 hd ht (fun q => kt q p e s m args below meth c H locs ls X hP hl hL) (fun q => kf q p e s m args below meth c H locs ls X hP hl hL)
theorem go_if_ge {x : Int32} {off : Int} {tgt : Nat} (hd : decode cc pc = .ok (.ifCond .ge off, 3)) (ht : (pc : Int) + off = (tgt : Int)) (kt : 0 ≤ x → Go E y cc nL ret d kc ks mc ms tgt L st h Q) (kf : ¬ 0 ≤ x → Go E y cc nL ret d kc ks mc ms (pc + 3) L st h Q) : Go E y cc nL ret d kc ks mc ms pc L (.int x :: st) h Q := by
  intro p e s m args below meth c H locs ls X hP hl hL
  exact lv_if_ge X.1 X.2.1 hd ht (fun q => kt q p e s m args below meth c H locs ls X hP hl hL) (fun q => kf q p e s m args below meth c H locs ls X hP hl hL)
theorem go_icmp_gt {x z : Int32} {off : Int} {tgt : Nat} (hd : decode cc pc = .ok (.if_icmp .gt off, 3)) (ht : (pc : Int) + off = (tgt : Int)) (kt : z < x → Go E y cc nL ret d kc ks mc ms tgt L st h Q) (kf : ¬ z < x → Go E y cc nL ret d kc ks mc ms (pc + 3) L st h Q) : Go E y cc nL ret d kc ks mc ms pc L (.int z :: .int x :: st) h Q := by
  intro p e s m args below meth c H locs ls X hP hl hL
  exact lv_icmp_gt X.1 X.2.1 hd ht (fun q => kt q p e s m args below meth c H locs ls X hP hl hL) (fun q => kf q p e s m args below meth c H locs ls X hP hl hL)
theorem go_if_gt {x : Int32} {off : Int} {tgt : Nat} (hd : decode cc pc = .ok (.ifCond .gt off, 3)) (ht : (pc : Int) + off = (tgt : Int)) (kt : 0 < x → Go E y cc nL ret d kc ks mc ms tgt L st h Q) (kf : ¬ 0 < x → Go E y cc nL ret d kc ks mc ms (pc + 3) L st h Q) : Go E y cc nL ret d kc ks mc ms pc L (.int x :: st) h Q := by
  intro p e s m args below meth c H locs ls X hP hl hL
  exact lv_if_gt X.1 X.2.1 hd ht (fun q => kt q p e s m args below meth c H locs ls X hP hl hL) (fun q => kf q p e s m args below meth c H locs ls X hP hl hL)
theorem go_icmp_le {x z : Int32} {off : Int} {tgt : Nat} (hd : decode cc pc = .ok (.if_icmp .le off, 3)) (ht : (pc : Int) + off = (tgt : Int)) (kt : x ≤ z → Go E y cc nL ret d kc ks mc ms tgt L st h Q) (kf : ¬ x ≤ z → Go E y cc nL ret d kc ks mc ms (pc + 3) L st h Q) : Go E y cc nL ret d kc ks mc ms pc L (.int z :: .int x :: st) h Q := by
  intro p e s m args below meth c H locs ls X hP hl hL
  exact lv_icmp_le X.1 X.2.1 hd ht (fun q => kt q p e s m args below meth c H locs ls X hP hl hL) (fun q => kf q p e s m args below meth c H locs ls X hP hl hL)
theorem go_if_le {x : Int32} {off : Int} {tgt : Nat} (hd : decode cc pc = .ok (.ifCond .le off, 3)) (ht : (pc : Int) + off = (tgt : Int)) (kt : x ≤ 0 → Go E y cc nL ret d kc ks mc ms tgt L st h Q) (kf : ¬ x ≤ 0 → Go E y cc nL ret d kc ks mc ms (pc + 3) L st h Q) : Go E y cc nL ret d kc ks mc ms pc L (.int x :: st) h Q := by
  intro p e s m args below meth c H locs ls X hP hl hL
  exact lv_if_le X.1 X.2.1 hd ht (fun q => kt q p e s m args below meth c H locs ls X hP hl hL) (fun q => kf q p e s m args below meth c H locs ls X hP hl hL)
theorem go_goto {off : Int} {tgt : Nat} (hd : decode cc pc = .ok (.goto off, 3)) (ht : (pc : Int) + off = (tgt : Int)) (k : Go E y cc nL ret d kc ks mc ms tgt L st h Q) : Go E y cc nL ret d kc ks mc ms pc L st h Q := by
  intro p e s m args below meth c H locs ls X hP hl hL
  exact lv_goto X.1 X.2.1 hd ht (k p e s m args below meth c H locs ls X hP hl hL)
theorem go_tableIn {dflt lo hi : Int} {offs : Array Int} {len : Nat} {x : Int32} {off : Int} {tgt : Nat} (hd : decode cc pc = .ok (.tableswitch dflt lo hi offs, len)) (h1 : ¬ x.toInt < lo) (h2 : ¬ hi < x.toInt) (ho : offs[(x.toInt - lo).toNat]? = some off) (ht : (pc : Int) + off = (tgt : Int)) (k : Go E y cc nL ret d kc ks mc ms tgt L st h Q) : Go E y cc nL ret d kc ks mc ms pc L (.int x :: st) h Q := by
  intro p e s m args below meth c H locs ls X hP hl hL
  exact lv_tableIn X.1 X.2.1 hd h1 h2 ho ht (k p e s m args below meth c H locs ls X hP hl hL)
theorem go_tableOut {dflt lo hi : Int} {offs : Array Int} {len : Nat} {x : Int32} {tgt : Nat} (hd : decode cc pc = .ok (.tableswitch dflt lo hi offs, len)) (hx : x.toInt < lo ∨ hi < x.toInt) (ht : (pc : Int) + dflt = (tgt : Int)) (k : Go E y cc nL ret d kc ks mc ms tgt L st h Q) : Go E y cc nL ret d kc ks mc ms pc L (.int x :: st) h Q := by
  intro p e s m args below meth c H locs ls X hP hl hL
  exact lv_tableOut X.1 X.2.1 hd hx ht (k p e s m args below meth c H locs ls X hP hl hL)
theorem go_lookup {dflt : Int} {ps : Array (Int × Int)} {len : Nat} {x : Int32} {off : Int} {tgt : Nat} (hd : decode cc pc = .ok (.lookupswitch dflt ps, len)) (hp : (ps.toList.zip (ps.toList.drop 1)).all (fun (a, next) => a.1 < next.1) = true) (ho : Op.lookupswitch.offset ps.toList dflt x.toInt = off) (ht : (pc : Int) + off = (tgt : Int)) (k : Go E y cc nL ret d kc ks mc ms tgt L st h Q) : Go E y cc nL ret d kc ks mc ms pc L (.int x :: st) h Q := by
  intro p e s m args below meth c H locs ls X hP hl hL
  exact lv_lookup X.1 X.2.1 hd hp ho ht (k p e s m args below meth c H locs ls X hP hl hL)
theorem go_ldc {j : Nat} {v : Int32} (hd : decode cc pc = .ok (.ldc j, 2)) (hw : Cond.constant y.cls j v ∈ lw_tbl) (k : Go E y cc nL ret d kc ks mc ms (pc + 2) L (.int v :: st) h Q) : Go E y cc nL ret d kc ks mc ms pc L st h Q := by
  intro p e s m args below meth c H locs ls X hP hl hL
  exact lv_ldc X.1 X.2.1 X.2.2.2.2.2.1 (X.2.2.2.2.2.2.2.1.1.1 _ hw rfl _) hd (k p e s m args below meth c H locs ls X hP hl hL)
theorem go_ldc_w {j : Nat} {v : Int32} (hd : decode cc pc = .ok (.ldc_w j, 3)) (hw : Cond.constant y.cls j v ∈ lw_tbl) (k : Go E y cc nL ret d kc ks mc ms (pc + 3) L (.int v :: st) h Q) : Go E y cc nL ret d kc ks mc ms pc L st h Q := by
  intro p e s m args below meth c H locs ls X hP hl hL
  exact lv_ldcw X.1 X.2.1 X.2.2.2.2.2.1 (X.2.2.2.2.2.2.2.1.1.1 _ hw rfl _) hd (k p e s m args below meth c H locs ls X hP hl hL)
theorem go_ldc2_w {j : Nat} {v : Int64} (hd : decode cc pc = .ok (.ldc2_w j, 3)) (hw : Cond.constantLong y.cls j v ∈ lw_tbl) (k : Go E y cc nL ret d kc ks mc ms (pc + 3) L (.long v :: st) h Q) : Go E y cc nL ret d kc ks mc ms pc L st h Q := by
  intro p e s m args below meth c H locs ls X hP hl hL
  exact lv_ldc2 X.1 X.2.1 X.2.2.2.2.2.1 (X.2.2.2.2.2.2.2.1.1.1 _ hw rfl _) hd (k p e s m args below meth c H locs ls X hP hl hL)
theorem go_topi {a : Int32} (k : ∀ x : Int32, x = a → Go E y cc nL ret d kc ks mc ms pc L (.int x :: st) h Q) : Go E y cc nL ret d kc ks mc ms pc L (.int a :: st) h Q := k a rfl
theorem go_topl {a : Int64} (k : ∀ x : Int64, x = a → Go E y cc nL ret d kc ks mc ms pc L (.long x :: st) h Q) : Go E y cc nL ret d kc ks mc ms pc L (.long a :: st) h Q := k a rfl
theorem go_topi_eq {a x : Int32} (e : a = x) (k : Go E y cc nL ret d kc ks mc ms pc L (.int x :: st) h Q) : Go E y cc nL ret d kc ks mc ms pc L (.int a :: st) h Q := e ▸ k
theorem go_topl_eq {a x : Int64} (e : a = x) (k : Go E y cc nL ret d kc ks mc ms pc L (.long x :: st) h Q) : Go E y cc nL ret d kc ks mc ms pc L (.long a :: st) h Q := e ▸ k
theorem go_heap {h2 : gH} (e : h = h2) (k : Go E y cc nL ret d kc ks mc ms pc L st h2 Q) : Go E y cc nL ret d kc ks mc ms pc L st h Q := e ▸ k
theorem go_conseq {Q2 : Option Value → gH → Prop} (k : Go E y cc nL ret d kc ks mc ms pc L st h Q2) (hq : ∀ r h, Q2 r h → Q r h) : Go E y cc nL ret d kc ks mc ms pc L st h Q := by
  intro p e s m args below meth c H locs ls X hP hl hL
  intro T hT X1
  obtain ⟨t, a1, oc, b1, b2, ⟨r, h2, c1, c2, c3⟩, b4⟩ := k p e s m args below meth c H locs ls X hP hl hL T hT X1
  exact ⟨t, a1, oc, b1, b2, ⟨r, h2, c1, hq r h2 c2, c3⟩, b4⟩
theorem go_iret {v : Int32} (hd : decode cc pc = .ok (.ireturn, 1)) (hc : Nat.ble kc mc = true) (hs : Nat.ble ks ms = true) (hq : Q (some (.int v)) h) : Go E y cc nL (some .int) d kc ks mc ms pc L [.int v] h Q := by
  intro p e s m args below meth c H locs ls X hP hl hL
  refine W.widen (k := mc) (n := ms) (Nat.le_of_ble_eq_true hc) (Nat.le_of_ble_eq_true hs) ?_
  exact W.iret X.1 X.2.1 X.2.2.2.1 (fun t ht hW => ⟨(some (.int v)), h, rfl, hq, by rw [ht]; exact hP⟩) hl hd X.2.2.2.2.1
theorem go_zret {v : Int32} (hd : decode cc pc = .ok (.ireturn, 1)) (hn : narrow .boolean (.int v) = .int v) (hc : Nat.ble kc mc = true) (hs : Nat.ble ks ms = true) (hq : Q (some (.int v)) h) : Go E y cc nL (some .boolean) d kc ks mc ms pc L [.int v] h Q := by
  intro p e s m args below meth c H locs ls X hP hl hL
  refine W.widen (k := mc) (n := ms) (Nat.le_of_ble_eq_true hc) (Nat.le_of_ble_eq_true hs) ?_
  exact W.zret X.1 X.2.1 X.2.2.2.1 hn (fun t ht hW => ⟨(some (.int v)), h, rfl, hq, by rw [ht]; exact hP⟩) hl hd X.2.2.2.2.1
theorem go_lret {v : Int64} (hd : decode cc pc = .ok (.lreturn, 1)) (hc : Nat.ble kc mc = true) (hs : Nat.ble ks ms = true) (hq : Q (some (.long v)) h) : Go E y cc nL (some .long) d kc ks mc ms pc L [.long v] h Q := by
  intro p e s m args below meth c H locs ls X hP hl hL
  refine W.widen (k := mc) (n := ms) (Nat.le_of_ble_eq_true hc) (Nat.le_of_ble_eq_true hs) ?_
  exact W.lret X.1 X.2.1 X.2.2.2.1 (fun t ht hW => ⟨(some (.long v)), h, rfl, hq, by rw [ht]; exact hP⟩) hl hd X.2.2.2.2.1
theorem go_vret (hd : decode cc pc = .ok (.return_, 1)) (hc : Nat.ble kc mc = true) (hs : Nat.ble ks ms = true) (hq : Q none h) : Go E y cc nL none d kc ks mc ms pc L [] h Q := by
  intro p e s m args below meth c H locs ls X hP hl hL
  refine W.widen (k := mc) (n := ms) (Nat.le_of_ble_eq_true hc) (Nat.le_of_ble_eq_true hs) ?_
  exact W.vret X.1 X.2.1 X.2.2.2.1 (fun t ht hW => ⟨none, h, rfl, hq, by rw [ht]; exact hP⟩) hl hd X.2.2.2.2.1
end Ops
