/-! System.arraycopy of ints -/
theorem nn_i32 (z : Int32) (hz : ¬ z < 0) : z.toInt = (z.toNatClampNeg : Int) := by
  have hz0 : (0 : Int) ≤ z.toInt := by
    have := Int32.not_lt.mp hz
    simpa using Int32.le_iff_toInt_le.mp this
  show z.toInt = ((z.toInt.toNat : Nat) : Int)
  omega
theorem go_copyi {E : gE} {y : MethodName} {cc : ByteArray} {nL : Nat} {ret : Option FieldType} {d kc ks mc ms pc : Nat} {L : List (Option Value)} {st : List Value} {h : gH} {Q : Option Value → gH → Prop} {idx a0 a n0 n1 : Nat} {f g : Nat → Int32} {sp dp n : Int32}
    (hd : decode cc pc = .ok (.invokestatic idx, 3)) (hk : Cond.methodLink y.cls idx arraycopyName ∈ lw_tbl) (hw1 : Cond.native arraycopyName ∈ lw_tbl) (hw2 : Cond.static arraycopyName ∈ lw_tbl) (hw3 : Cond.initialized "java/lang/System" ∈ lw_tbl)
    (ho0 : hg h a0 = some (.inl (0, n0, .inl f))) (ho1 : hg h a = some (.inl (0, n1, .inl g))) (h1 : ¬ sp < 0) (h2 : ¬ dp < 0) (h3 : ¬ n < 0) (h4 : sp.toNatClampNeg + n.toNatClampNeg ≤ n0) (h5 : dp.toNatClampNeg + n.toNatClampNeg ≤ n1) (h8 : Nat.ble ((st.map fun v => v.category).sum) 8 = true)
    (kk : Go E y cc nL ret (d + 1) kc ks mc ms (pc + 3) L st (hs h a (.inl (0, n1, .inl (va_cpy f g sp.toNatClampNeg dp.toNatClampNeg n.toNatClampNeg)))) Q) : Go E y cc nL ret (d + 1) kc ks mc ms pc L (.int n :: .int dp :: .ref a :: .int sp :: .ref a0 :: st) h Q := by
  intro p e s m args below meth c H locs ls X hP hl hL
  have hKK := X.2.2.2.2.2.2.2.1
  have hA := (hKK.2.2 0 (E.2.2.1 0, .int) rfl).1
  intro T hT X1
  have hc0 : H[E.2.2.2 + a0]? = some (vp_cell (E.2.2.1 0) (n0, .inl f)) := hP.2.1 a0 _ ho0
  have hc1 : H[E.2.2.2 + a]? = some (vp_cell (E.2.2.1 0) (n1, .inl g)) := hP.2.1 a _ ho1
  obtain ⟨-, k0, hk0, cm0, hkk0⟩ := hA n0 (fun j => .int (f j))
  obtain ⟨-, k1, hk1, cm1, hkk1⟩ := hA n1 (fun j => .int (g j))
  have h9 : (st.map fun v => v.category).sum ≤ 8 := Nat.le_of_ble_eq_true h8
  have h10 : nativeFrameWords "java/lang/System" "arraycopy" 5 + 11 ≤ 27 := by decide +kernel
  obtain ⟨vm', X', step⟩ := X1.arraycopy X.1 X.2.2.2.2.2.1 (hKK.1.1 _ hk rfl args) (hKK.1.1 _ hw1 rfl args) (hKK.1.1 _ hw2 rfl args) (hKK.1.1 _ hw3 rfl args) (src := E.2.2.2 + a0) (dst := E.2.2.2 + a) (cs := vp_cell (E.2.2.1 0) (n0, .inl f)) (cd := vp_cell (E.2.2.1 0) (n1, .inl g)) (srcPos := sp) (destPos := dp) (n := n) (by rw [hT]; exact hc0) (by rw [hT]; exact hc1)
    (fun _ h => by cases h) (fun _ h => by cases h) (fun h => by cases h) (fun h => by cases h) hk0 hk1 hkk0 hkk1 (by simp [refKind]) h1 h2 h3
    (by rw [nn_i32 sp h1, nn_i32 n h3]; show ¬ _ > ((arrV (E.2.2.1 0) n0 (fun j => .int (f j))).slots.size : Int); rw [arrV_size]; omega)
    (by rw [nn_i32 dp h2, nn_i32 n h3]; show ¬ _ > ((arrV (E.2.2.1 0) n1 (fun j => .int (g j))).slots.size : Int); rw [arrV_size]; omega)
    (fun vm₁ _ i hi => by
      have e1 : (vp_cell (E.2.2.1 0) (n0, .inl f)).slots.getD (sp.toNatClampNeg + i) .null = .int (f (sp.toNatClampNeg + i)) := by
        show (arrV (E.2.2.1 0) n0 (fun j => .int (f j))).slots.getD _ _ = _
        rw [Array.getD_eq_getD_getElem?, arrV_read _ _ (by omega)]
        rfl
      refine ⟨?_, ?_⟩
      · rw [e1]
        rfl
      · rw [e1]
        exact trivial)
    (g := F0 m pc ls (.int n :: .int dp :: .ref (E.2.2.2 + a) :: .int sp :: .ref (E.2.2.2 + a0) :: st.map (gv E.2.2.2))) rfl (by show ls.size = _; rw [hL.1, X.2.2.1]) (rest := st.map (gv E.2.2.2)) rfl (by rw [X.2.1]; exact hd) (by show 1 ≤ d + 1; omega) (by show 2 * 0 + ((st.map (gv E.2.2.2)).map fun v => v.category).sum + _ ≤ 35 * (d + 1); rw [cat_map]; omega)
  have e1 : copied (vp_cell (E.2.2.1 0) (n0, .inl f)) (vp_cell (E.2.2.1 0) (n1, .inl g)) sp dp n = vp_cell (E.2.2.1 0) (n1, .inl (va_cpy f g sp.toNatClampNeg dp.toNatClampNeg n.toNatClampNeg)) := va_copied (fun z => .int z) (E.2.2.1 0) (E.2.2.1 0) f g h4
  rw [e1] at X' step
  have hlt : E.2.2.2 + a < H.size := (Array.getElem?_eq_some_iff.mp hc1).1
  have oq : ∀ q : Nat, q ≠ E.2.2.2 + a → (H.setIfInBounds (E.2.2.2 + a) (vp_cell (E.2.2.1 0) (n1, .inl (va_cpy f g sp.toNatClampNeg dp.toNatClampNeg n.toNatClampNeg))))[q]? = H[q]? := fun q hq => by simp [Array.getElem?_setIfInBounds, Ne.symm hq]
  have hheap : ((T.setVm vm').setCell (E.2.2.2 + a) (vp_cell (E.2.2.1 0) (n1, .inl (va_cpy f g sp.toNatClampNeg dp.toNatClampNeg n.toNatClampNeg)))).heap = H.setIfInBounds (E.2.2.2 + a) (vp_cell (E.2.2.1 0) (n1, .inl (va_cpy f g sp.toNatClampNeg dp.toNatClampNeg n.toNatClampNeg))) := by rw [← hT]; rfl
  obtain ⟨t, a1, b1⟩ := kk p e s m args below meth c _ _ ls X (hP.put ho1 (c2 := .inl (0, n1, .inl (va_cpy f g sp.toNatClampNeg dp.toNatClampNeg n.toNatClampNeg))) (show (H.setIfInBounds (E.2.2.2 + a) _)[E.2.2.2 + a]? = some _ by simp [Array.getElem?_setIfInBounds, hlt]; rfl) (by simp) oq) (fun q hq => by
      rcases List.mem_append.mp hq with h6 | h6
      · exact hl q h6
      · obtain ⟨z, -, hz⟩ := List.mem_map.mp h6
        rw [← hz]
        exact Nat.le_add_right _ _) hL _ hheap X'
  exact ⟨t, step t a1, b1⟩
