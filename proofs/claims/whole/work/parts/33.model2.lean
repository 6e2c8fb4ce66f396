set_option maxRecDepth 100000 in
set_option maxHeartbeats 4000000 in
theorem rX9_isLetter {E : gE} {d : Nat} {x : Int32} {h : gH} : Ret E yX9_isLetter cX9_isLetter 1 (some .boolean) (d + 1) 0 0 [.int x] h (dt (some (.int (b2i (letB x)))) h) := by
  refine ret_of_go (L := [_]) (by decide) (Nat.le_of_ble_eq_true rfl) rfl ?_
  refine go_iload_n dX9_isLetter_0 rfl ?_
  refine go_bipush (v := 65) dX9_isLetter_1 (by decide) ?_
  refine go_bipush (v := 70) dX9_isLetter_3 (by decide) ?_
  refine go_cS (as := [_, _, _]) dX9_isLetter_5 mX9_in kX9_48 tX9_in rfl rfl (rX9_in) rfl rfl rfl ?_
  refine go_zret dX9_isLetter_8 (b2i_nar _) rfl rfl ?_
  exact ⟨rfl, rfl⟩
set_option maxRecDepth 100000 in
set_option maxHeartbeats 4000000 in
theorem rX9_isDigit {E : gE} {d : Nat} {x : Int32} {h : gH} : Ret E yX9_isDigit cX9_isDigit 1 (some .boolean) (d + 1) 0 0 [.int x] h (dt (some (.int (b2i (digB x)))) h) := by
  refine ret_of_go (L := [_]) (by decide) (Nat.le_of_ble_eq_true rfl) rfl ?_
  refine go_iload_n dX9_isDigit_0 rfl ?_
  refine go_bipush (v := 49) dX9_isDigit_1 (by decide) ?_
  refine go_bipush (v := 57) dX9_isDigit_3 (by decide) ?_
  refine go_cS (as := [_, _, _]) dX9_isDigit_5 mX9_in kX9_48 tX9_in rfl rfl (rX9_in) rfl rfl rfl ?_
  refine go_zret dX9_isDigit_8 (b2i_nar _) rfl rfl ?_
  exact ⟨rfl, rfl⟩
set_option maxRecDepth 100000 in
set_option maxHeartbeats 4000000 in
theorem rX9_passes {E : gE} {d : Nat} {x : Int32} {h : gH} : Ret E yX9_passes cX9_passes 1 (some .boolean) d 0 0 [.int x] h (dt (some (.int (b2i (two x)))) h) := by
  refine ret_of_go (L := [_]) (by decide) (Nat.le_of_ble_eq_true rfl) rfl ?_
  refine go_iload_n dX9_passes_0 rfl ?_
  refine go_bipush (v := 62) dX9_passes_1 (by decide) ?_
  refine go_icmp_eq (tgt := 18) dX9_passes_3 (by decide) (fun q3 => ?_) (fun q3 => ?_)
  · refine go_iconst (v := 1) dX9_passes_18 (by decide) ?_
    refine go_goto (tgt := 23) dX9_passes_19 (by decide) ?_
    refine go_zret dX9_passes_23 (by decide) rfl rfl ?_
    exact ⟨by simp_all [two, b2i], rfl⟩
  · refine go_iload_n dX9_passes_6 rfl ?_
    refine go_bipush (v := 61) dX9_passes_7 (by decide) ?_
    refine go_icmp_eq (tgt := 18) dX9_passes_9 (by decide) (fun q9 => ?_) (fun q9 => ?_)
    · refine go_iconst (v := 1) dX9_passes_18 (by decide) ?_
      refine go_goto (tgt := 23) dX9_passes_19 (by decide) ?_
      refine go_zret dX9_passes_23 (by decide) rfl rfl ?_
      exact ⟨by simp_all [two, b2i], rfl⟩
    · refine go_iload_n dX9_passes_12 rfl ?_
      refine go_bipush (v := 60) dX9_passes_13 (by decide) ?_
      refine go_icmp_ne (tgt := 22) dX9_passes_15 (by decide) (fun q15 => ?_) (fun q15 => ?_)
      · refine go_iconst (v := 0) dX9_passes_22 (by decide) ?_
        refine go_zret dX9_passes_23 (by decide) rfl rfl ?_
        exact ⟨by simp_all [two, b2i], rfl⟩
      · refine go_iconst (v := 1) dX9_passes_18 (by decide) ?_
        refine go_goto (tgt := 23) dX9_passes_19 (by decide) ?_
        refine go_zret dX9_passes_23 (by decide) rfl rfl ?_
        exact ⟨by simp_all [two, b2i], rfl⟩
theorem dig_rng {x : Int32} (h : digB x = true) : 49 ≤ x.toInt ∧ x.toInt ≤ 57 := by
  simp only [digB, isInB, Bool.and_eq_true, decide_eq_true_eq, Int32.le_iff_toInt_le] at h
  exact h
theorem let_rng {x : Int32} (h : letB x = true) : 65 ≤ x.toInt ∧ x.toInt ≤ 70 := by
  simp only [letB, isInB, Bool.and_eq_true, decide_eq_true_eq, Int32.le_iff_toInt_le] at h
  exact h
theorem i32_ne {x y : Int32} (h : x.toInt ≠ y.toInt) : ¬ x = y := fun e => h (by rw [e])
theorem dig_ne {x : Int32} (h : digB x = true) : ¬ x = 33 ∧ ¬ x = 42 ∧ two x = false := by
  have h1 := dig_rng h
  have a33 : ¬ x = 33 := i32_ne (by show x.toInt ≠ 33; omega)
  have a42 : ¬ x = 42 := i32_ne (by show x.toInt ≠ 42; omega)
  have a62 : ¬ x = 62 := i32_ne (by show x.toInt ≠ 62; omega)
  have a61 : ¬ x = 61 := i32_ne (by show x.toInt ≠ 61; omega)
  have a60 : ¬ x = 60 := i32_ne (by show x.toInt ≠ 60; omega)
  exact ⟨a33, a42, by simp [two, a62, a61, a60]⟩
theorem let_ne {x : Int32} (h : letB x = true) : ¬ x = 46 := i32_ne (by have := let_rng h; show x.toInt ≠ 46; omega)
set_option maxRecDepth 100000 in
set_option maxHeartbeats 4000000 in
theorem ft_0l {E : gE} {d : Nat} {j : Nat} {x : Int32} {h : gH} {a4 a5 : Option Value} {Q : Option Value → gH → Prop} (h1 : letB x = true) (kk : ∀ b4 b5 : Option Value, Go E yX9_faultOf cX9_faultOf 6 (some .int) (d + 3) 0 0 0 0 172 [some (.ref 52), some (.int (nI 1)), some (.int (nI j)), some (.int x), b4, b5] [] h Q) : Go E yX9_faultOf cX9_faultOf 6 (some .int) (d + 3) 0 0 0 0 19 [some (.ref 52), some (.int (nI 0)), some (.int (nI j)), some (.int x), a4, a5] [] h Q := by
  refine go_iload_n dX9_faultOf_19 rfl ?_
  refine go_if_ne (tgt := 44) dX9_faultOf_20 (by decide) (fun zq => absurd rfl zq) (fun q20 => ?_)
  refine go_iload_n dX9_faultOf_23 rfl ?_
  refine go_cS (as := [_]) dX9_faultOf_24 mX9_isLetter kX9_71 tX9_isLetter rfl rfl (rX9_isLetter) rfl rfl rfl ?_
  refine go_bn_t (tgt := 36) dX9_faultOf_27 (by decide) h1 ?_
  refine go_iconst (v := 1) dX9_faultOf_36 (by decide) ?_
  refine go_goto (tgt := 99) dX9_faultOf_37 (by decide) ?_
  refine go_istore (L' := [_, _, _, _, _, _]) dX9_faultOf_99 rfl rfl rfl ?_
  refine go_iload dX9_faultOf_101 rfl ?_
  refine go_if_ne (tgt := 108) dX9_faultOf_103 (by decide) (fun q103 => ?_) (fun zq => absurd zq (by decide))
  refine go_iload_n dX9_faultOf_108 rfl ?_
  refine go_iconst (v := 3) dX9_faultOf_109 (by decide) ?_
  refine go_icmp_ne (tgt := 117) dX9_faultOf_110 (by decide) (fun q110 => ?_) (fun zq => absurd zq (by decide))
  refine go_iconst (v := 0) dX9_faultOf_117 (by decide) ?_
  refine go_istore (L' := [_, _, _, _, _, _]) dX9_faultOf_118 rfl rfl rfl ?_
  refine go_iload_n dX9_faultOf_120 rfl ?_
  refine go_if_ne (tgt := 135) dX9_faultOf_121 (by decide) (fun zq => absurd rfl zq) (fun q121 => ?_)
  refine go_iload_n dX9_faultOf_124 rfl ?_
  refine go_cS (as := [_]) dX9_faultOf_125 mX9_isLetter kX9_71 tX9_isLetter rfl rfl (rX9_isLetter) rfl rfl rfl ?_
  refine go_be_t dX9_faultOf_128 h1 ?_
  refine go_iconst (v := 1) dX9_faultOf_131 (by decide) ?_
  refine go_goto (tgt := 137) dX9_faultOf_132 (by decide) ?_
  refine go_istore (L' := [_, _, _, _, _, _]) dX9_faultOf_137 rfl rfl rfl ?_
  refine go_iload_n dX9_faultOf_139 rfl ?_
  refine go_iconst (v := 1) dX9_faultOf_140 (by decide) ?_
  refine go_icmp_ne (tgt := 169) dX9_faultOf_141 (by decide) (fun q141 => ?_) (fun zq => absurd zq (by decide))
  refine go_iload dX9_faultOf_169 rfl ?_
  refine go_istore_n (L' := [_, _, _, _, _, _]) dX9_faultOf_171 rfl rfl rfl ?_
  exact kk _ _
set_option maxRecDepth 100000 in
set_option maxHeartbeats 4000000 in
theorem ft_0d {E : gE} {d : Nat} {j : Nat} {h : gH} {a4 a5 : Option Value} {Q : Option Value → gH → Prop} (kk : ∀ b4 b5 : Option Value, Go E yX9_faultOf cX9_faultOf 6 (some .int) (d + 3) 0 0 0 0 172 [some (.ref 52), some (.int (nI 0)), some (.int (nI j)), some (.int 46), b4, b5] [] h Q) : Go E yX9_faultOf cX9_faultOf 6 (some .int) (d + 3) 0 0 0 0 19 [some (.ref 52), some (.int (nI 0)), some (.int (nI j)), some (.int 46), a4, a5] [] h Q := by
  refine go_iload_n dX9_faultOf_19 rfl ?_
  refine go_if_ne (tgt := 44) dX9_faultOf_20 (by decide) (fun zq => absurd rfl zq) (fun q20 => ?_)
  refine go_iload_n dX9_faultOf_23 rfl ?_
  refine go_cS (as := [_]) dX9_faultOf_24 mX9_isLetter kX9_71 tX9_isLetter rfl rfl (rX9_isLetter) rfl rfl rfl ?_
  refine go_bn_f dX9_faultOf_27 (by decide) ?_
  refine go_iload_n dX9_faultOf_30 rfl ?_
  refine go_bipush (v := 46) dX9_faultOf_31 (by decide) ?_
  refine go_icmp_ne (tgt := 40) dX9_faultOf_33 (by decide) (fun zq => absurd rfl zq) (fun q33 => ?_)
  refine go_iconst (v := 1) dX9_faultOf_36 (by decide) ?_
  refine go_goto (tgt := 99) dX9_faultOf_37 (by decide) ?_
  refine go_istore (L' := [_, _, _, _, _, _]) dX9_faultOf_99 rfl rfl rfl ?_
  refine go_iload dX9_faultOf_101 rfl ?_
  refine go_if_ne (tgt := 108) dX9_faultOf_103 (by decide) (fun q103 => ?_) (fun zq => absurd zq (by decide))
  refine go_iload_n dX9_faultOf_108 rfl ?_
  refine go_iconst (v := 3) dX9_faultOf_109 (by decide) ?_
  refine go_icmp_ne (tgt := 117) dX9_faultOf_110 (by decide) (fun q110 => ?_) (fun zq => absurd zq (by decide))
  refine go_iconst (v := 0) dX9_faultOf_117 (by decide) ?_
  refine go_istore (L' := [_, _, _, _, _, _]) dX9_faultOf_118 rfl rfl rfl ?_
  refine go_iload_n dX9_faultOf_120 rfl ?_
  refine go_if_ne (tgt := 135) dX9_faultOf_121 (by decide) (fun zq => absurd rfl zq) (fun q121 => ?_)
  refine go_iload_n dX9_faultOf_124 rfl ?_
  refine go_cS (as := [_]) dX9_faultOf_125 mX9_isLetter kX9_71 tX9_isLetter rfl rfl (rX9_isLetter) rfl rfl rfl ?_
  refine go_be_f (tgt := 135) dX9_faultOf_128 (by decide) (by decide) ?_
  refine go_iload dX9_faultOf_135 rfl ?_
  refine go_istore (L' := [_, _, _, _, _, _]) dX9_faultOf_137 rfl rfl rfl ?_
  refine go_iload_n dX9_faultOf_139 rfl ?_
  refine go_iconst (v := 1) dX9_faultOf_140 (by decide) ?_
  refine go_icmp_ne (tgt := 169) dX9_faultOf_141 (by decide) (fun q141 => ?_) (fun zq => absurd zq (by decide))
  refine go_iload dX9_faultOf_169 rfl ?_
  refine go_istore_n (L' := [_, _, _, _, _, _]) dX9_faultOf_171 rfl rfl rfl ?_
  exact kk _ _
set_option maxRecDepth 100000 in
set_option maxHeartbeats 4000000 in
theorem ft_0n {E : gE} {d : Nat} {j : Nat} {x : Int32} {h : gH} {a4 a5 : Option Value} {Q : Option Value → gH → Prop} (h1 : letB x = false) (h2 : ¬ x = 46) (kk : Q (some (.int (nI j))) h) : Go E yX9_faultOf cX9_faultOf 6 (some .int) (d + 3) 0 0 0 0 19 [some (.ref 52), some (.int (nI 0)), some (.int (nI j)), some (.int x), a4, a5] [] h Q := by
  refine go_iload_n dX9_faultOf_19 rfl ?_
  refine go_if_ne (tgt := 44) dX9_faultOf_20 (by decide) (fun zq => absurd rfl zq) (fun q20 => ?_)
  refine go_iload_n dX9_faultOf_23 rfl ?_
  refine go_cS (as := [_]) dX9_faultOf_24 mX9_isLetter kX9_71 tX9_isLetter rfl rfl (rX9_isLetter) rfl rfl rfl ?_
  refine go_bn_f dX9_faultOf_27 h1 ?_
  refine go_iload_n dX9_faultOf_30 rfl ?_
  refine go_bipush (v := 46) dX9_faultOf_31 (by decide) ?_
  refine go_icmp_ne (tgt := 40) dX9_faultOf_33 (by decide) (fun q33 => ?_) (fun zq => absurd zq h2)
  refine go_iconst (v := 0) dX9_faultOf_40 (by decide) ?_
  refine go_goto (tgt := 99) dX9_faultOf_41 (by decide) ?_
  refine go_istore (L' := [_, _, _, _, _, _]) dX9_faultOf_99 rfl rfl rfl ?_
  refine go_iload dX9_faultOf_101 rfl ?_
  refine go_if_ne (tgt := 108) dX9_faultOf_103 (by decide) (fun zq => absurd rfl zq) (fun q103 => ?_)
  refine go_iload_n dX9_faultOf_106 rfl ?_
  refine go_iret dX9_faultOf_107 rfl rfl ?_
  exact kk
set_option maxRecDepth 100000 in
set_option maxHeartbeats 4000000 in
theorem ft_1d {E : gE} {d : Nat} {j : Nat} {x : Int32} {h : gH} {a4 a5 : Option Value} {Q : Option Value → gH → Prop} (h1 : digB x = true) (kk : ∀ b4 b5 : Option Value, Go E yX9_faultOf cX9_faultOf 6 (some .int) (d + 3) 0 0 0 0 172 [some (.ref 52), some (.int (nI 0)), some (.int (nI j)), some (.int x), b4, b5] [] h Q) : Go E yX9_faultOf cX9_faultOf 6 (some .int) (d + 3) 0 0 0 0 19 [some (.ref 52), some (.int (nI 1)), some (.int (nI j)), some (.int x), a4, a5] [] h Q := by
  refine go_iload_n dX9_faultOf_19 rfl ?_
  refine go_if_ne (tgt := 44) dX9_faultOf_20 (by decide) (fun q20 => ?_) (fun zq => absurd zq (by decide))
  refine go_iload_n dX9_faultOf_44 rfl ?_
  refine go_iconst (v := 1) dX9_faultOf_45 (by decide) ?_
  refine go_icmp_ne (tgt := 83) dX9_faultOf_46 (by decide) (fun zq => absurd rfl zq) (fun q46 => ?_)
  refine go_iload_n dX9_faultOf_49 rfl ?_
  refine go_cS (as := [_]) dX9_faultOf_50 mX9_isDigit kX9_74 tX9_isDigit rfl rfl (rX9_isDigit) rfl rfl rfl ?_
  refine go_bn_t (tgt := 75) dX9_faultOf_53 (by decide) h1 ?_
  refine go_iconst (v := 1) dX9_faultOf_75 (by decide) ?_
  refine go_goto (tgt := 99) dX9_faultOf_76 (by decide) ?_
  refine go_istore (L' := [_, _, _, _, _, _]) dX9_faultOf_99 rfl rfl rfl ?_
  refine go_iload dX9_faultOf_101 rfl ?_
  refine go_if_ne (tgt := 108) dX9_faultOf_103 (by decide) (fun q103 => ?_) (fun zq => absurd zq (by decide))
  refine go_iload_n dX9_faultOf_108 rfl ?_
  refine go_iconst (v := 3) dX9_faultOf_109 (by decide) ?_
  refine go_icmp_ne (tgt := 117) dX9_faultOf_110 (by decide) (fun q110 => ?_) (fun zq => absurd zq (by decide))
  refine go_iconst (v := 0) dX9_faultOf_117 (by decide) ?_
  refine go_istore (L' := [_, _, _, _, _, _]) dX9_faultOf_118 rfl rfl rfl ?_
  refine go_iload_n dX9_faultOf_120 rfl ?_
  refine go_if_ne (tgt := 135) dX9_faultOf_121 (by decide) (fun q121 => ?_) (fun zq => absurd zq (by decide))
  refine go_iload dX9_faultOf_135 rfl ?_
  refine go_istore (L' := [_, _, _, _, _, _]) dX9_faultOf_137 rfl rfl rfl ?_
  refine go_iload_n dX9_faultOf_139 rfl ?_
  refine go_iconst (v := 1) dX9_faultOf_140 (by decide) ?_
  refine go_icmp_ne (tgt := 169) dX9_faultOf_141 (by decide) (fun zq => absurd rfl zq) (fun q141 => ?_)
  refine go_iload_n dX9_faultOf_144 rfl ?_
  refine go_bipush (v := 33) dX9_faultOf_145 (by decide) ?_
  refine go_icmp_ne (tgt := 154) dX9_faultOf_147 (by decide) (fun q147 => ?_) (fun zq => absurd zq (dig_ne h1).1)
  refine go_iload_n dX9_faultOf_154 rfl ?_
  refine go_cS (as := [_]) dX9_faultOf_155 mX9_passes kX9_77 tX9_passes rfl rfl (rX9_passes) rfl rfl rfl ?_
  refine go_be_f (tgt := 165) dX9_faultOf_158 (by decide) (dig_ne h1).2.2 ?_
  refine go_iconst (v := 0) dX9_faultOf_165 (by decide) ?_
  refine go_goto (tgt := 171) dX9_faultOf_166 (by decide) ?_
  refine go_istore_n (L' := [_, _, _, _, _, _]) dX9_faultOf_171 rfl rfl rfl ?_
  exact kk _ _
set_option maxRecDepth 100000 in
set_option maxHeartbeats 4000000 in
theorem ft_1f {E : gE} {d : Nat} {j : Nat} {h : gH} {a4 a5 : Option Value} {Q : Option Value → gH → Prop} (kk : ∀ b4 b5 : Option Value, Go E yX9_faultOf cX9_faultOf 6 (some .int) (d + 3) 0 0 0 0 172 [some (.ref 52), some (.int (nI 2)), some (.int (nI j)), some (.int 33), b4, b5] [] h Q) : Go E yX9_faultOf cX9_faultOf 6 (some .int) (d + 3) 0 0 0 0 19 [some (.ref 52), some (.int (nI 1)), some (.int (nI j)), some (.int 33), a4, a5] [] h Q := by
  refine go_iload_n dX9_faultOf_19 rfl ?_
  refine go_if_ne (tgt := 44) dX9_faultOf_20 (by decide) (fun q20 => ?_) (fun zq => absurd zq (by decide))
  refine go_iload_n dX9_faultOf_44 rfl ?_
  refine go_iconst (v := 1) dX9_faultOf_45 (by decide) ?_
  refine go_icmp_ne (tgt := 83) dX9_faultOf_46 (by decide) (fun zq => absurd rfl zq) (fun q46 => ?_)
  refine go_iload_n dX9_faultOf_49 rfl ?_
  refine go_cS (as := [_]) dX9_faultOf_50 mX9_isDigit kX9_74 tX9_isDigit rfl rfl (rX9_isDigit) rfl rfl rfl ?_
  refine go_bn_f dX9_faultOf_53 (by decide) ?_
  refine go_iload_n dX9_faultOf_56 rfl ?_
  refine go_bipush (v := 33) dX9_faultOf_57 (by decide) ?_
  refine go_icmp_eq (tgt := 75) dX9_faultOf_59 (by decide) (fun q59 => ?_) (fun zq => absurd rfl zq)
  refine go_iconst (v := 1) dX9_faultOf_75 (by decide) ?_
  refine go_goto (tgt := 99) dX9_faultOf_76 (by decide) ?_
  refine go_istore (L' := [_, _, _, _, _, _]) dX9_faultOf_99 rfl rfl rfl ?_
  refine go_iload dX9_faultOf_101 rfl ?_
  refine go_if_ne (tgt := 108) dX9_faultOf_103 (by decide) (fun q103 => ?_) (fun zq => absurd zq (by decide))
  refine go_iload_n dX9_faultOf_108 rfl ?_
  refine go_iconst (v := 3) dX9_faultOf_109 (by decide) ?_
  refine go_icmp_ne (tgt := 117) dX9_faultOf_110 (by decide) (fun q110 => ?_) (fun zq => absurd zq (by decide))
  refine go_iconst (v := 0) dX9_faultOf_117 (by decide) ?_
  refine go_istore (L' := [_, _, _, _, _, _]) dX9_faultOf_118 rfl rfl rfl ?_
  refine go_iload_n dX9_faultOf_120 rfl ?_
  refine go_if_ne (tgt := 135) dX9_faultOf_121 (by decide) (fun q121 => ?_) (fun zq => absurd zq (by decide))
  refine go_iload dX9_faultOf_135 rfl ?_
  refine go_istore (L' := [_, _, _, _, _, _]) dX9_faultOf_137 rfl rfl rfl ?_
  refine go_iload_n dX9_faultOf_139 rfl ?_
  refine go_iconst (v := 1) dX9_faultOf_140 (by decide) ?_
  refine go_icmp_ne (tgt := 169) dX9_faultOf_141 (by decide) (fun zq => absurd rfl zq) (fun q141 => ?_)
  refine go_iload_n dX9_faultOf_144 rfl ?_
  refine go_bipush (v := 33) dX9_faultOf_145 (by decide) ?_
  refine go_icmp_ne (tgt := 154) dX9_faultOf_147 (by decide) (fun zq => absurd rfl zq) (fun q147 => ?_)
  refine go_iconst (v := 2) dX9_faultOf_150 (by decide) ?_
  refine go_goto (tgt := 171) dX9_faultOf_151 (by decide) ?_
  refine go_istore_n (L' := [_, _, _, _, _, _]) dX9_faultOf_171 rfl rfl rfl ?_
  exact kk _ _
set_option maxRecDepth 100000 in
set_option maxHeartbeats 4000000 in
theorem ft_1b {E : gE} {d : Nat} {j : Nat} {h : gH} {a4 a5 : Option Value} {Q : Option Value → gH → Prop} (kk : ∀ b4 b5 : Option Value, Go E yX9_faultOf cX9_faultOf 6 (some .int) (d + 3) 0 0 0 0 172 [some (.ref 52), some (.int (nI 0)), some (.int (nI j)), some (.int 42), b4, b5] [] h Q) : Go E yX9_faultOf cX9_faultOf 6 (some .int) (d + 3) 0 0 0 0 19 [some (.ref 52), some (.int (nI 1)), some (.int (nI j)), some (.int 42), a4, a5] [] h Q := by
  refine go_iload_n dX9_faultOf_19 rfl ?_
  refine go_if_ne (tgt := 44) dX9_faultOf_20 (by decide) (fun q20 => ?_) (fun zq => absurd zq (by decide))
  refine go_iload_n dX9_faultOf_44 rfl ?_
  refine go_iconst (v := 1) dX9_faultOf_45 (by decide) ?_
  refine go_icmp_ne (tgt := 83) dX9_faultOf_46 (by decide) (fun zq => absurd rfl zq) (fun q46 => ?_)
  refine go_iload_n dX9_faultOf_49 rfl ?_
  refine go_cS (as := [_]) dX9_faultOf_50 mX9_isDigit kX9_74 tX9_isDigit rfl rfl (rX9_isDigit) rfl rfl rfl ?_
  refine go_bn_f dX9_faultOf_53 (by decide) ?_
  refine go_iload_n dX9_faultOf_56 rfl ?_
  refine go_bipush (v := 33) dX9_faultOf_57 (by decide) ?_
  refine go_icmp_eq (tgt := 75) dX9_faultOf_59 (by decide) (fun zq => absurd zq (by decide)) (fun q59 => ?_)
  refine go_iload_n dX9_faultOf_62 rfl ?_
  refine go_bipush (v := 42) dX9_faultOf_63 (by decide) ?_
  refine go_icmp_eq (tgt := 75) dX9_faultOf_65 (by decide) (fun q65 => ?_) (fun zq => absurd rfl zq)
  refine go_iconst (v := 1) dX9_faultOf_75 (by decide) ?_
  refine go_goto (tgt := 99) dX9_faultOf_76 (by decide) ?_
  refine go_istore (L' := [_, _, _, _, _, _]) dX9_faultOf_99 rfl rfl rfl ?_
  refine go_iload dX9_faultOf_101 rfl ?_
  refine go_if_ne (tgt := 108) dX9_faultOf_103 (by decide) (fun q103 => ?_) (fun zq => absurd zq (by decide))
  refine go_iload_n dX9_faultOf_108 rfl ?_
  refine go_iconst (v := 3) dX9_faultOf_109 (by decide) ?_
  refine go_icmp_ne (tgt := 117) dX9_faultOf_110 (by decide) (fun q110 => ?_) (fun zq => absurd zq (by decide))
  refine go_iconst (v := 0) dX9_faultOf_117 (by decide) ?_
  refine go_istore (L' := [_, _, _, _, _, _]) dX9_faultOf_118 rfl rfl rfl ?_
  refine go_iload_n dX9_faultOf_120 rfl ?_
  refine go_if_ne (tgt := 135) dX9_faultOf_121 (by decide) (fun q121 => ?_) (fun zq => absurd zq (by decide))
  refine go_iload dX9_faultOf_135 rfl ?_
  refine go_istore (L' := [_, _, _, _, _, _]) dX9_faultOf_137 rfl rfl rfl ?_
  refine go_iload_n dX9_faultOf_139 rfl ?_
  refine go_iconst (v := 1) dX9_faultOf_140 (by decide) ?_
  refine go_icmp_ne (tgt := 169) dX9_faultOf_141 (by decide) (fun zq => absurd rfl zq) (fun q141 => ?_)
  refine go_iload_n dX9_faultOf_144 rfl ?_
  refine go_bipush (v := 33) dX9_faultOf_145 (by decide) ?_
  refine go_icmp_ne (tgt := 154) dX9_faultOf_147 (by decide) (fun q147 => ?_) (fun zq => absurd zq (by decide))
  refine go_iload_n dX9_faultOf_154 rfl ?_
  refine go_cS (as := [_]) dX9_faultOf_155 mX9_passes kX9_77 tX9_passes rfl rfl (rX9_passes) rfl rfl rfl ?_
  refine go_be_f (tgt := 165) dX9_faultOf_158 (by decide) (by decide) ?_
  refine go_iconst (v := 0) dX9_faultOf_165 (by decide) ?_
  refine go_goto (tgt := 171) dX9_faultOf_166 (by decide) ?_
  refine go_istore_n (L' := [_, _, _, _, _, _]) dX9_faultOf_171 rfl rfl rfl ?_
  exact kk _ _
set_option maxRecDepth 100000 in
set_option maxHeartbeats 4000000 in
theorem ft_1p62 {E : gE} {d : Nat} {j : Nat} {h : gH} {a4 a5 : Option Value} {Q : Option Value → gH → Prop} (kk : ∀ b4 b5 : Option Value, Go E yX9_faultOf cX9_faultOf 6 (some .int) (d + 3) 0 0 0 0 172 [some (.ref 52), some (.int (nI 3)), some (.int (nI j)), some (.int 62), b4, b5] [] h Q) : Go E yX9_faultOf cX9_faultOf 6 (some .int) (d + 3) 0 0 0 0 19 [some (.ref 52), some (.int (nI 1)), some (.int (nI j)), some (.int 62), a4, a5] [] h Q := by
  refine go_iload_n dX9_faultOf_19 rfl ?_
  refine go_if_ne (tgt := 44) dX9_faultOf_20 (by decide) (fun q20 => ?_) (fun zq => absurd zq (by decide))
  refine go_iload_n dX9_faultOf_44 rfl ?_
  refine go_iconst (v := 1) dX9_faultOf_45 (by decide) ?_
  refine go_icmp_ne (tgt := 83) dX9_faultOf_46 (by decide) (fun zq => absurd rfl zq) (fun q46 => ?_)
  refine go_iload_n dX9_faultOf_49 rfl ?_
  refine go_cS (as := [_]) dX9_faultOf_50 mX9_isDigit kX9_74 tX9_isDigit rfl rfl (rX9_isDigit) rfl rfl rfl ?_
  refine go_bn_f dX9_faultOf_53 (by decide) ?_
  refine go_iload_n dX9_faultOf_56 rfl ?_
  refine go_bipush (v := 33) dX9_faultOf_57 (by decide) ?_
  refine go_icmp_eq (tgt := 75) dX9_faultOf_59 (by decide) (fun zq => absurd zq (by decide)) (fun q59 => ?_)
  refine go_iload_n dX9_faultOf_62 rfl ?_
  refine go_bipush (v := 42) dX9_faultOf_63 (by decide) ?_
  refine go_icmp_eq (tgt := 75) dX9_faultOf_65 (by decide) (fun zq => absurd zq (by decide)) (fun q65 => ?_)
  refine go_iload_n dX9_faultOf_68 rfl ?_
  refine go_cS (as := [_]) dX9_faultOf_69 mX9_passes kX9_77 tX9_passes rfl rfl (rX9_passes) rfl rfl rfl ?_
  refine go_be_t dX9_faultOf_72 (by decide) ?_
  refine go_iconst (v := 1) dX9_faultOf_75 (by decide) ?_
  refine go_goto (tgt := 99) dX9_faultOf_76 (by decide) ?_
  refine go_istore (L' := [_, _, _, _, _, _]) dX9_faultOf_99 rfl rfl rfl ?_
  refine go_iload dX9_faultOf_101 rfl ?_
  refine go_if_ne (tgt := 108) dX9_faultOf_103 (by decide) (fun q103 => ?_) (fun zq => absurd zq (by decide))
  refine go_iload_n dX9_faultOf_108 rfl ?_
  refine go_iconst (v := 3) dX9_faultOf_109 (by decide) ?_
  refine go_icmp_ne (tgt := 117) dX9_faultOf_110 (by decide) (fun q110 => ?_) (fun zq => absurd zq (by decide))
  refine go_iconst (v := 0) dX9_faultOf_117 (by decide) ?_
  refine go_istore (L' := [_, _, _, _, _, _]) dX9_faultOf_118 rfl rfl rfl ?_
  refine go_iload_n dX9_faultOf_120 rfl ?_
  refine go_if_ne (tgt := 135) dX9_faultOf_121 (by decide) (fun q121 => ?_) (fun zq => absurd zq (by decide))
  refine go_iload dX9_faultOf_135 rfl ?_
  refine go_istore (L' := [_, _, _, _, _, _]) dX9_faultOf_137 rfl rfl rfl ?_
  refine go_iload_n dX9_faultOf_139 rfl ?_
  refine go_iconst (v := 1) dX9_faultOf_140 (by decide) ?_
  refine go_icmp_ne (tgt := 169) dX9_faultOf_141 (by decide) (fun zq => absurd rfl zq) (fun q141 => ?_)
  refine go_iload_n dX9_faultOf_144 rfl ?_
  refine go_bipush (v := 33) dX9_faultOf_145 (by decide) ?_
  refine go_icmp_ne (tgt := 154) dX9_faultOf_147 (by decide) (fun q147 => ?_) (fun zq => absurd zq (by decide))
  refine go_iload_n dX9_faultOf_154 rfl ?_
  refine go_cS (as := [_]) dX9_faultOf_155 mX9_passes kX9_77 tX9_passes rfl rfl (rX9_passes) rfl rfl rfl ?_
  refine go_be_t dX9_faultOf_158 (by decide) ?_
  refine go_iconst (v := 3) dX9_faultOf_161 (by decide) ?_
  refine go_goto (tgt := 171) dX9_faultOf_162 (by decide) ?_
  refine go_istore_n (L' := [_, _, _, _, _, _]) dX9_faultOf_171 rfl rfl rfl ?_
  exact kk _ _
set_option maxRecDepth 100000 in
set_option maxHeartbeats 4000000 in
theorem ft_1p61 {E : gE} {d : Nat} {j : Nat} {h : gH} {a4 a5 : Option Value} {Q : Option Value → gH → Prop} (kk : ∀ b4 b5 : Option Value, Go E yX9_faultOf cX9_faultOf 6 (some .int) (d + 3) 0 0 0 0 172 [some (.ref 52), some (.int (nI 3)), some (.int (nI j)), some (.int 61), b4, b5] [] h Q) : Go E yX9_faultOf cX9_faultOf 6 (some .int) (d + 3) 0 0 0 0 19 [some (.ref 52), some (.int (nI 1)), some (.int (nI j)), some (.int 61), a4, a5] [] h Q := by
  refine go_iload_n dX9_faultOf_19 rfl ?_
  refine go_if_ne (tgt := 44) dX9_faultOf_20 (by decide) (fun q20 => ?_) (fun zq => absurd zq (by decide))
  refine go_iload_n dX9_faultOf_44 rfl ?_
  refine go_iconst (v := 1) dX9_faultOf_45 (by decide) ?_
  refine go_icmp_ne (tgt := 83) dX9_faultOf_46 (by decide) (fun zq => absurd rfl zq) (fun q46 => ?_)
  refine go_iload_n dX9_faultOf_49 rfl ?_
  refine go_cS (as := [_]) dX9_faultOf_50 mX9_isDigit kX9_74 tX9_isDigit rfl rfl (rX9_isDigit) rfl rfl rfl ?_
  refine go_bn_f dX9_faultOf_53 (by decide) ?_
  refine go_iload_n dX9_faultOf_56 rfl ?_
  refine go_bipush (v := 33) dX9_faultOf_57 (by decide) ?_
  refine go_icmp_eq (tgt := 75) dX9_faultOf_59 (by decide) (fun zq => absurd zq (by decide)) (fun q59 => ?_)
  refine go_iload_n dX9_faultOf_62 rfl ?_
  refine go_bipush (v := 42) dX9_faultOf_63 (by decide) ?_
  refine go_icmp_eq (tgt := 75) dX9_faultOf_65 (by decide) (fun zq => absurd zq (by decide)) (fun q65 => ?_)
  refine go_iload_n dX9_faultOf_68 rfl ?_
  refine go_cS (as := [_]) dX9_faultOf_69 mX9_passes kX9_77 tX9_passes rfl rfl (rX9_passes) rfl rfl rfl ?_
  refine go_be_t dX9_faultOf_72 (by decide) ?_
  refine go_iconst (v := 1) dX9_faultOf_75 (by decide) ?_
  refine go_goto (tgt := 99) dX9_faultOf_76 (by decide) ?_
  refine go_istore (L' := [_, _, _, _, _, _]) dX9_faultOf_99 rfl rfl rfl ?_
  refine go_iload dX9_faultOf_101 rfl ?_
  refine go_if_ne (tgt := 108) dX9_faultOf_103 (by decide) (fun q103 => ?_) (fun zq => absurd zq (by decide))
  refine go_iload_n dX9_faultOf_108 rfl ?_
  refine go_iconst (v := 3) dX9_faultOf_109 (by decide) ?_
  refine go_icmp_ne (tgt := 117) dX9_faultOf_110 (by decide) (fun q110 => ?_) (fun zq => absurd zq (by decide))
  refine go_iconst (v := 0) dX9_faultOf_117 (by decide) ?_
  refine go_istore (L' := [_, _, _, _, _, _]) dX9_faultOf_118 rfl rfl rfl ?_
  refine go_iload_n dX9_faultOf_120 rfl ?_
  refine go_if_ne (tgt := 135) dX9_faultOf_121 (by decide) (fun q121 => ?_) (fun zq => absurd zq (by decide))
  refine go_iload dX9_faultOf_135 rfl ?_
  refine go_istore (L' := [_, _, _, _, _, _]) dX9_faultOf_137 rfl rfl rfl ?_
  refine go_iload_n dX9_faultOf_139 rfl ?_
  refine go_iconst (v := 1) dX9_faultOf_140 (by decide) ?_
  refine go_icmp_ne (tgt := 169) dX9_faultOf_141 (by decide) (fun zq => absurd rfl zq) (fun q141 => ?_)
  refine go_iload_n dX9_faultOf_144 rfl ?_
  refine go_bipush (v := 33) dX9_faultOf_145 (by decide) ?_
  refine go_icmp_ne (tgt := 154) dX9_faultOf_147 (by decide) (fun q147 => ?_) (fun zq => absurd zq (by decide))
  refine go_iload_n dX9_faultOf_154 rfl ?_
  refine go_cS (as := [_]) dX9_faultOf_155 mX9_passes kX9_77 tX9_passes rfl rfl (rX9_passes) rfl rfl rfl ?_
  refine go_be_t dX9_faultOf_158 (by decide) ?_
  refine go_iconst (v := 3) dX9_faultOf_161 (by decide) ?_
  refine go_goto (tgt := 171) dX9_faultOf_162 (by decide) ?_
  refine go_istore_n (L' := [_, _, _, _, _, _]) dX9_faultOf_171 rfl rfl rfl ?_
  exact kk _ _
set_option maxRecDepth 100000 in
set_option maxHeartbeats 4000000 in
theorem ft_1p60 {E : gE} {d : Nat} {j : Nat} {h : gH} {a4 a5 : Option Value} {Q : Option Value → gH → Prop} (kk : ∀ b4 b5 : Option Value, Go E yX9_faultOf cX9_faultOf 6 (some .int) (d + 3) 0 0 0 0 172 [some (.ref 52), some (.int (nI 3)), some (.int (nI j)), some (.int 60), b4, b5] [] h Q) : Go E yX9_faultOf cX9_faultOf 6 (some .int) (d + 3) 0 0 0 0 19 [some (.ref 52), some (.int (nI 1)), some (.int (nI j)), some (.int 60), a4, a5] [] h Q := by
  refine go_iload_n dX9_faultOf_19 rfl ?_
  refine go_if_ne (tgt := 44) dX9_faultOf_20 (by decide) (fun q20 => ?_) (fun zq => absurd zq (by decide))
  refine go_iload_n dX9_faultOf_44 rfl ?_
  refine go_iconst (v := 1) dX9_faultOf_45 (by decide) ?_
  refine go_icmp_ne (tgt := 83) dX9_faultOf_46 (by decide) (fun zq => absurd rfl zq) (fun q46 => ?_)
  refine go_iload_n dX9_faultOf_49 rfl ?_
  refine go_cS (as := [_]) dX9_faultOf_50 mX9_isDigit kX9_74 tX9_isDigit rfl rfl (rX9_isDigit) rfl rfl rfl ?_
  refine go_bn_f dX9_faultOf_53 (by decide) ?_
  refine go_iload_n dX9_faultOf_56 rfl ?_
  refine go_bipush (v := 33) dX9_faultOf_57 (by decide) ?_
  refine go_icmp_eq (tgt := 75) dX9_faultOf_59 (by decide) (fun zq => absurd zq (by decide)) (fun q59 => ?_)
  refine go_iload_n dX9_faultOf_62 rfl ?_
  refine go_bipush (v := 42) dX9_faultOf_63 (by decide) ?_
  refine go_icmp_eq (tgt := 75) dX9_faultOf_65 (by decide) (fun zq => absurd zq (by decide)) (fun q65 => ?_)
  refine go_iload_n dX9_faultOf_68 rfl ?_
  refine go_cS (as := [_]) dX9_faultOf_69 mX9_passes kX9_77 tX9_passes rfl rfl (rX9_passes) rfl rfl rfl ?_
  refine go_be_t dX9_faultOf_72 (by decide) ?_
  refine go_iconst (v := 1) dX9_faultOf_75 (by decide) ?_
  refine go_goto (tgt := 99) dX9_faultOf_76 (by decide) ?_
  refine go_istore (L' := [_, _, _, _, _, _]) dX9_faultOf_99 rfl rfl rfl ?_
  refine go_iload dX9_faultOf_101 rfl ?_
  refine go_if_ne (tgt := 108) dX9_faultOf_103 (by decide) (fun q103 => ?_) (fun zq => absurd zq (by decide))
  refine go_iload_n dX9_faultOf_108 rfl ?_
  refine go_iconst (v := 3) dX9_faultOf_109 (by decide) ?_
  refine go_icmp_ne (tgt := 117) dX9_faultOf_110 (by decide) (fun q110 => ?_) (fun zq => absurd zq (by decide))
  refine go_iconst (v := 0) dX9_faultOf_117 (by decide) ?_
  refine go_istore (L' := [_, _, _, _, _, _]) dX9_faultOf_118 rfl rfl rfl ?_
  refine go_iload_n dX9_faultOf_120 rfl ?_
  refine go_if_ne (tgt := 135) dX9_faultOf_121 (by decide) (fun q121 => ?_) (fun zq => absurd zq (by decide))
  refine go_iload dX9_faultOf_135 rfl ?_
  refine go_istore (L' := [_, _, _, _, _, _]) dX9_faultOf_137 rfl rfl rfl ?_
  refine go_iload_n dX9_faultOf_139 rfl ?_
  refine go_iconst (v := 1) dX9_faultOf_140 (by decide) ?_
  refine go_icmp_ne (tgt := 169) dX9_faultOf_141 (by decide) (fun zq => absurd rfl zq) (fun q141 => ?_)
  refine go_iload_n dX9_faultOf_144 rfl ?_
  refine go_bipush (v := 33) dX9_faultOf_145 (by decide) ?_
  refine go_icmp_ne (tgt := 154) dX9_faultOf_147 (by decide) (fun q147 => ?_) (fun zq => absurd zq (by decide))
  refine go_iload_n dX9_faultOf_154 rfl ?_
  refine go_cS (as := [_]) dX9_faultOf_155 mX9_passes kX9_77 tX9_passes rfl rfl (rX9_passes) rfl rfl rfl ?_
  refine go_be_t dX9_faultOf_158 (by decide) ?_
  refine go_iconst (v := 3) dX9_faultOf_161 (by decide) ?_
  refine go_goto (tgt := 171) dX9_faultOf_162 (by decide) ?_
  refine go_istore_n (L' := [_, _, _, _, _, _]) dX9_faultOf_171 rfl rfl rfl ?_
  exact kk _ _
set_option maxRecDepth 100000 in
set_option maxHeartbeats 4000000 in
theorem ft_1n {E : gE} {d : Nat} {j : Nat} {x : Int32} {h : gH} {a4 a5 : Option Value} {Q : Option Value → gH → Prop} (h1 : digB x = false) (h2 : ¬ x = 33) (h3 : ¬ x = 42) (h4 : two x = false) (kk : Q (some (.int (nI j))) h) : Go E yX9_faultOf cX9_faultOf 6 (some .int) (d + 3) 0 0 0 0 19 [some (.ref 52), some (.int (nI 1)), some (.int (nI j)), some (.int x), a4, a5] [] h Q := by
  refine go_iload_n dX9_faultOf_19 rfl ?_
  refine go_if_ne (tgt := 44) dX9_faultOf_20 (by decide) (fun q20 => ?_) (fun zq => absurd zq (by decide))
  refine go_iload_n dX9_faultOf_44 rfl ?_
  refine go_iconst (v := 1) dX9_faultOf_45 (by decide) ?_
  refine go_icmp_ne (tgt := 83) dX9_faultOf_46 (by decide) (fun zq => absurd rfl zq) (fun q46 => ?_)
  refine go_iload_n dX9_faultOf_49 rfl ?_
  refine go_cS (as := [_]) dX9_faultOf_50 mX9_isDigit kX9_74 tX9_isDigit rfl rfl (rX9_isDigit) rfl rfl rfl ?_
  refine go_bn_f dX9_faultOf_53 h1 ?_
  refine go_iload_n dX9_faultOf_56 rfl ?_
  refine go_bipush (v := 33) dX9_faultOf_57 (by decide) ?_
  refine go_icmp_eq (tgt := 75) dX9_faultOf_59 (by decide) (fun zq => absurd zq h2) (fun q59 => ?_)
  refine go_iload_n dX9_faultOf_62 rfl ?_
  refine go_bipush (v := 42) dX9_faultOf_63 (by decide) ?_
  refine go_icmp_eq (tgt := 75) dX9_faultOf_65 (by decide) (fun zq => absurd zq h3) (fun q65 => ?_)
  refine go_iload_n dX9_faultOf_68 rfl ?_
  refine go_cS (as := [_]) dX9_faultOf_69 mX9_passes kX9_77 tX9_passes rfl rfl (rX9_passes) rfl rfl rfl ?_
  refine go_be_f (tgt := 79) dX9_faultOf_72 (by decide) h4 ?_
  refine go_iconst (v := 0) dX9_faultOf_79 (by decide) ?_
  refine go_goto (tgt := 99) dX9_faultOf_80 (by decide) ?_
  refine go_istore (L' := [_, _, _, _, _, _]) dX9_faultOf_99 rfl rfl rfl ?_
  refine go_iload dX9_faultOf_101 rfl ?_
  refine go_if_ne (tgt := 108) dX9_faultOf_103 (by decide) (fun zq => absurd rfl zq) (fun q103 => ?_)
  refine go_iload_n dX9_faultOf_106 rfl ?_
  refine go_iret dX9_faultOf_107 rfl rfl ?_
  exact kk
set_option maxRecDepth 100000 in
set_option maxHeartbeats 4000000 in
theorem ft_2d {E : gE} {d : Nat} {j : Nat} {x : Int32} {h : gH} {a4 a5 : Option Value} {Q : Option Value → gH → Prop} (h1 : digB x = true) (kk : ∀ b4 b5 : Option Value, Go E yX9_faultOf cX9_faultOf 6 (some .int) (d + 3) 0 0 0 0 172 [some (.ref 52), some (.int (nI 0)), some (.int (nI j)), some (.int x), b4, b5] [] h Q) : Go E yX9_faultOf cX9_faultOf 6 (some .int) (d + 3) 0 0 0 0 19 [some (.ref 52), some (.int (nI 2)), some (.int (nI j)), some (.int x), a4, a5] [] h Q := by
  refine go_iload_n dX9_faultOf_19 rfl ?_
  refine go_if_ne (tgt := 44) dX9_faultOf_20 (by decide) (fun q20 => ?_) (fun zq => absurd zq (by decide))
  refine go_iload_n dX9_faultOf_44 rfl ?_
  refine go_iconst (v := 1) dX9_faultOf_45 (by decide) ?_
  refine go_icmp_ne (tgt := 83) dX9_faultOf_46 (by decide) (fun q46 => ?_) (fun zq => absurd zq (by decide))
  refine go_iload_n dX9_faultOf_83 rfl ?_
  refine go_iconst (v := 4) dX9_faultOf_84 (by decide) ?_
  refine go_icmp_ne (tgt := 95) dX9_faultOf_85 (by decide) (fun q85 => ?_) (fun zq => absurd zq (by decide))
  refine go_iload_n dX9_faultOf_95 rfl ?_
  refine go_cS (as := [_]) dX9_faultOf_96 mX9_isDigit kX9_74 tX9_isDigit rfl rfl (rX9_isDigit) rfl rfl rfl ?_
  refine go_topi_eq (x := 1) (by rw [h1]; rfl) ?_
  refine go_istore (L' := [_, _, _, _, _, _]) dX9_faultOf_99 rfl rfl rfl ?_
  refine go_iload dX9_faultOf_101 rfl ?_
  refine go_if_ne (tgt := 108) dX9_faultOf_103 (by decide) (fun q103 => ?_) (fun zq => absurd zq (by decide))
  refine go_iload_n dX9_faultOf_108 rfl ?_
  refine go_iconst (v := 3) dX9_faultOf_109 (by decide) ?_
  refine go_icmp_ne (tgt := 117) dX9_faultOf_110 (by decide) (fun q110 => ?_) (fun zq => absurd zq (by decide))
  refine go_iconst (v := 0) dX9_faultOf_117 (by decide) ?_
  refine go_istore (L' := [_, _, _, _, _, _]) dX9_faultOf_118 rfl rfl rfl ?_
  refine go_iload_n dX9_faultOf_120 rfl ?_
  refine go_if_ne (tgt := 135) dX9_faultOf_121 (by decide) (fun q121 => ?_) (fun zq => absurd zq (by decide))
  refine go_iload dX9_faultOf_135 rfl ?_
  refine go_istore (L' := [_, _, _, _, _, _]) dX9_faultOf_137 rfl rfl rfl ?_
  refine go_iload_n dX9_faultOf_139 rfl ?_
  refine go_iconst (v := 1) dX9_faultOf_140 (by decide) ?_
  refine go_icmp_ne (tgt := 169) dX9_faultOf_141 (by decide) (fun q141 => ?_) (fun zq => absurd zq (by decide))
  refine go_iload dX9_faultOf_169 rfl ?_
  refine go_istore_n (L' := [_, _, _, _, _, _]) dX9_faultOf_171 rfl rfl rfl ?_
  exact kk _ _
set_option maxRecDepth 100000 in
set_option maxHeartbeats 4000000 in
theorem ft_2n {E : gE} {d : Nat} {j : Nat} {x : Int32} {h : gH} {a4 a5 : Option Value} {Q : Option Value → gH → Prop} (h1 : digB x = false) (kk : Q (some (.int (nI j))) h) : Go E yX9_faultOf cX9_faultOf 6 (some .int) (d + 3) 0 0 0 0 19 [some (.ref 52), some (.int (nI 2)), some (.int (nI j)), some (.int x), a4, a5] [] h Q := by
  refine go_iload_n dX9_faultOf_19 rfl ?_
  refine go_if_ne (tgt := 44) dX9_faultOf_20 (by decide) (fun q20 => ?_) (fun zq => absurd zq (by decide))
  refine go_iload_n dX9_faultOf_44 rfl ?_
  refine go_iconst (v := 1) dX9_faultOf_45 (by decide) ?_
  refine go_icmp_ne (tgt := 83) dX9_faultOf_46 (by decide) (fun q46 => ?_) (fun zq => absurd zq (by decide))
  refine go_iload_n dX9_faultOf_83 rfl ?_
  refine go_iconst (v := 4) dX9_faultOf_84 (by decide) ?_
  refine go_icmp_ne (tgt := 95) dX9_faultOf_85 (by decide) (fun q85 => ?_) (fun zq => absurd zq (by decide))
  refine go_iload_n dX9_faultOf_95 rfl ?_
  refine go_cS (as := [_]) dX9_faultOf_96 mX9_isDigit kX9_74 tX9_isDigit rfl rfl (rX9_isDigit) rfl rfl rfl ?_
  refine go_topi_eq (x := 0) (by rw [h1]; rfl) ?_
  refine go_istore (L' := [_, _, _, _, _, _]) dX9_faultOf_99 rfl rfl rfl ?_
  refine go_iload dX9_faultOf_101 rfl ?_
  refine go_if_ne (tgt := 108) dX9_faultOf_103 (by decide) (fun zq => absurd rfl zq) (fun q103 => ?_)
  refine go_iload_n dX9_faultOf_106 rfl ?_
  refine go_iret dX9_faultOf_107 rfl rfl ?_
  exact kk
set_option maxRecDepth 100000 in
set_option maxHeartbeats 4000000 in
theorem ft_3d {E : gE} {d : Nat} {j : Nat} {x : Int32} {h : gH} {a4 a5 : Option Value} {Q : Option Value → gH → Prop} (h1 : digB x = true) (kk : ∀ b4 b5 : Option Value, Go E yX9_faultOf cX9_faultOf 6 (some .int) (d + 3) 0 0 0 0 172 [some (.ref 52), some (.int (nI 4)), some (.int (nI j)), some (.int x), b4, b5] [] h Q) : Go E yX9_faultOf cX9_faultOf 6 (some .int) (d + 3) 0 0 0 0 19 [some (.ref 52), some (.int (nI 3)), some (.int (nI j)), some (.int x), a4, a5] [] h Q := by
  refine go_iload_n dX9_faultOf_19 rfl ?_
  refine go_if_ne (tgt := 44) dX9_faultOf_20 (by decide) (fun q20 => ?_) (fun zq => absurd zq (by decide))
  refine go_iload_n dX9_faultOf_44 rfl ?_
  refine go_iconst (v := 1) dX9_faultOf_45 (by decide) ?_
  refine go_icmp_ne (tgt := 83) dX9_faultOf_46 (by decide) (fun q46 => ?_) (fun zq => absurd zq (by decide))
  refine go_iload_n dX9_faultOf_83 rfl ?_
  refine go_iconst (v := 4) dX9_faultOf_84 (by decide) ?_
  refine go_icmp_ne (tgt := 95) dX9_faultOf_85 (by decide) (fun q85 => ?_) (fun zq => absurd zq (by decide))
  refine go_iload_n dX9_faultOf_95 rfl ?_
  refine go_cS (as := [_]) dX9_faultOf_96 mX9_isDigit kX9_74 tX9_isDigit rfl rfl (rX9_isDigit) rfl rfl rfl ?_
  refine go_topi_eq (x := 1) (by rw [h1]; rfl) ?_
  refine go_istore (L' := [_, _, _, _, _, _]) dX9_faultOf_99 rfl rfl rfl ?_
  refine go_iload dX9_faultOf_101 rfl ?_
  refine go_if_ne (tgt := 108) dX9_faultOf_103 (by decide) (fun q103 => ?_) (fun zq => absurd zq (by decide))
  refine go_iload_n dX9_faultOf_108 rfl ?_
  refine go_iconst (v := 3) dX9_faultOf_109 (by decide) ?_
  refine go_icmp_ne (tgt := 117) dX9_faultOf_110 (by decide) (fun zq => absurd rfl zq) (fun q110 => ?_)
  refine go_iconst (v := 4) dX9_faultOf_113 (by decide) ?_
  refine go_goto (tgt := 118) dX9_faultOf_114 (by decide) ?_
  refine go_istore (L' := [_, _, _, _, _, _]) dX9_faultOf_118 rfl rfl rfl ?_
  refine go_iload_n dX9_faultOf_120 rfl ?_
  refine go_if_ne (tgt := 135) dX9_faultOf_121 (by decide) (fun q121 => ?_) (fun zq => absurd zq (by decide))
  refine go_iload dX9_faultOf_135 rfl ?_
  refine go_istore (L' := [_, _, _, _, _, _]) dX9_faultOf_137 rfl rfl rfl ?_
  refine go_iload_n dX9_faultOf_139 rfl ?_
  refine go_iconst (v := 1) dX9_faultOf_140 (by decide) ?_
  refine go_icmp_ne (tgt := 169) dX9_faultOf_141 (by decide) (fun q141 => ?_) (fun zq => absurd zq (by decide))
  refine go_iload dX9_faultOf_169 rfl ?_
  refine go_istore_n (L' := [_, _, _, _, _, _]) dX9_faultOf_171 rfl rfl rfl ?_
  exact kk _ _
set_option maxRecDepth 100000 in
set_option maxHeartbeats 4000000 in
theorem ft_3n {E : gE} {d : Nat} {j : Nat} {x : Int32} {h : gH} {a4 a5 : Option Value} {Q : Option Value → gH → Prop} (h1 : digB x = false) (kk : Q (some (.int (nI j))) h) : Go E yX9_faultOf cX9_faultOf 6 (some .int) (d + 3) 0 0 0 0 19 [some (.ref 52), some (.int (nI 3)), some (.int (nI j)), some (.int x), a4, a5] [] h Q := by
  refine go_iload_n dX9_faultOf_19 rfl ?_
  refine go_if_ne (tgt := 44) dX9_faultOf_20 (by decide) (fun q20 => ?_) (fun zq => absurd zq (by decide))
  refine go_iload_n dX9_faultOf_44 rfl ?_
  refine go_iconst (v := 1) dX9_faultOf_45 (by decide) ?_
  refine go_icmp_ne (tgt := 83) dX9_faultOf_46 (by decide) (fun q46 => ?_) (fun zq => absurd zq (by decide))
  refine go_iload_n dX9_faultOf_83 rfl ?_
  refine go_iconst (v := 4) dX9_faultOf_84 (by decide) ?_
  refine go_icmp_ne (tgt := 95) dX9_faultOf_85 (by decide) (fun q85 => ?_) (fun zq => absurd zq (by decide))
  refine go_iload_n dX9_faultOf_95 rfl ?_
  refine go_cS (as := [_]) dX9_faultOf_96 mX9_isDigit kX9_74 tX9_isDigit rfl rfl (rX9_isDigit) rfl rfl rfl ?_
  refine go_topi_eq (x := 0) (by rw [h1]; rfl) ?_
  refine go_istore (L' := [_, _, _, _, _, _]) dX9_faultOf_99 rfl rfl rfl ?_
  refine go_iload dX9_faultOf_101 rfl ?_
  refine go_if_ne (tgt := 108) dX9_faultOf_103 (by decide) (fun zq => absurd rfl zq) (fun q103 => ?_)
  refine go_iload_n dX9_faultOf_106 rfl ?_
  refine go_iret dX9_faultOf_107 rfl rfl ?_
  exact kk
set_option maxRecDepth 100000 in
set_option maxHeartbeats 4000000 in
theorem ft_4l {E : gE} {d : Nat} {j : Nat} {x : Int32} {h : gH} {a4 a5 : Option Value} {Q : Option Value → gH → Prop} (h1 : letB x = true) (kk : ∀ b4 b5 : Option Value, Go E yX9_faultOf cX9_faultOf 6 (some .int) (d + 3) 0 0 0 0 172 [some (.ref 52), some (.int (nI 0)), some (.int (nI j)), some (.int x), b4, b5] [] h Q) : Go E yX9_faultOf cX9_faultOf 6 (some .int) (d + 3) 0 0 0 0 19 [some (.ref 52), some (.int (nI 4)), some (.int (nI j)), some (.int x), a4, a5] [] h Q := by
  refine go_iload_n dX9_faultOf_19 rfl ?_
  refine go_if_ne (tgt := 44) dX9_faultOf_20 (by decide) (fun q20 => ?_) (fun zq => absurd zq (by decide))
  refine go_iload_n dX9_faultOf_44 rfl ?_
  refine go_iconst (v := 1) dX9_faultOf_45 (by decide) ?_
  refine go_icmp_ne (tgt := 83) dX9_faultOf_46 (by decide) (fun q46 => ?_) (fun zq => absurd zq (by decide))
  refine go_iload_n dX9_faultOf_83 rfl ?_
  refine go_iconst (v := 4) dX9_faultOf_84 (by decide) ?_
  refine go_icmp_ne (tgt := 95) dX9_faultOf_85 (by decide) (fun zq => absurd rfl zq) (fun q85 => ?_)
  refine go_iload_n dX9_faultOf_88 rfl ?_
  refine go_cS (as := [_]) dX9_faultOf_89 mX9_isLetter kX9_71 tX9_isLetter rfl rfl (rX9_isLetter) rfl rfl rfl ?_
  refine go_goto (tgt := 99) dX9_faultOf_92 (by decide) ?_
  refine go_topi_eq (x := 1) (by rw [h1]; rfl) ?_
  refine go_istore (L' := [_, _, _, _, _, _]) dX9_faultOf_99 rfl rfl rfl ?_
  refine go_iload dX9_faultOf_101 rfl ?_
  refine go_if_ne (tgt := 108) dX9_faultOf_103 (by decide) (fun q103 => ?_) (fun zq => absurd zq (by decide))
  refine go_iload_n dX9_faultOf_108 rfl ?_
  refine go_iconst (v := 3) dX9_faultOf_109 (by decide) ?_
  refine go_icmp_ne (tgt := 117) dX9_faultOf_110 (by decide) (fun q110 => ?_) (fun zq => absurd zq (by decide))
  refine go_iconst (v := 0) dX9_faultOf_117 (by decide) ?_
  refine go_istore (L' := [_, _, _, _, _, _]) dX9_faultOf_118 rfl rfl rfl ?_
  refine go_iload_n dX9_faultOf_120 rfl ?_
  refine go_if_ne (tgt := 135) dX9_faultOf_121 (by decide) (fun q121 => ?_) (fun zq => absurd zq (by decide))
  refine go_iload dX9_faultOf_135 rfl ?_
  refine go_istore (L' := [_, _, _, _, _, _]) dX9_faultOf_137 rfl rfl rfl ?_
  refine go_iload_n dX9_faultOf_139 rfl ?_
  refine go_iconst (v := 1) dX9_faultOf_140 (by decide) ?_
  refine go_icmp_ne (tgt := 169) dX9_faultOf_141 (by decide) (fun q141 => ?_) (fun zq => absurd zq (by decide))
  refine go_iload dX9_faultOf_169 rfl ?_
  refine go_istore_n (L' := [_, _, _, _, _, _]) dX9_faultOf_171 rfl rfl rfl ?_
  exact kk _ _
set_option maxRecDepth 100000 in
set_option maxHeartbeats 4000000 in
theorem ft_4n {E : gE} {d : Nat} {j : Nat} {x : Int32} {h : gH} {a4 a5 : Option Value} {Q : Option Value → gH → Prop} (h1 : letB x = false) (kk : Q (some (.int (nI j))) h) : Go E yX9_faultOf cX9_faultOf 6 (some .int) (d + 3) 0 0 0 0 19 [some (.ref 52), some (.int (nI 4)), some (.int (nI j)), some (.int x), a4, a5] [] h Q := by
  refine go_iload_n dX9_faultOf_19 rfl ?_
  refine go_if_ne (tgt := 44) dX9_faultOf_20 (by decide) (fun q20 => ?_) (fun zq => absurd zq (by decide))
  refine go_iload_n dX9_faultOf_44 rfl ?_
  refine go_iconst (v := 1) dX9_faultOf_45 (by decide) ?_
  refine go_icmp_ne (tgt := 83) dX9_faultOf_46 (by decide) (fun q46 => ?_) (fun zq => absurd zq (by decide))
  refine go_iload_n dX9_faultOf_83 rfl ?_
  refine go_iconst (v := 4) dX9_faultOf_84 (by decide) ?_
  refine go_icmp_ne (tgt := 95) dX9_faultOf_85 (by decide) (fun zq => absurd rfl zq) (fun q85 => ?_)
  refine go_iload_n dX9_faultOf_88 rfl ?_
  refine go_cS (as := [_]) dX9_faultOf_89 mX9_isLetter kX9_71 tX9_isLetter rfl rfl (rX9_isLetter) rfl rfl rfl ?_
  refine go_goto (tgt := 99) dX9_faultOf_92 (by decide) ?_
  refine go_topi_eq (x := 0) (by rw [h1]; rfl) ?_
  refine go_istore (L' := [_, _, _, _, _, _]) dX9_faultOf_99 rfl rfl rfl ?_
  refine go_iload dX9_faultOf_101 rfl ?_
  refine go_if_ne (tgt := 108) dX9_faultOf_103 (by decide) (fun zq => absurd rfl zq) (fun q103 => ?_)
  refine go_iload_n dX9_faultOf_106 rfl ?_
  refine go_iret dX9_faultOf_107 rfl rfl ?_
  exact kk
set_option maxRecDepth 100000 in
set_option maxHeartbeats 4000000 in
theorem rX9_faultOf {E : gE} {d : Nat} {nw i0 i1 : WorldS} {pd : PadS} {lv : LivesS} {pl : PlanS} {mt : MatS} {nt : NetS} {m : ModS} {c : Nat} (hc : c ≤ 60) : Ret E yX9_faultOf cX9_faultOf 6 (some .int) (d + 3) 0 0 [.ref 52] (hp nw i0 i1 pd lv pl mt nt (s_said m (nI c))) (dt (some (.int (ffR (m_pad m) c 0 0))) (hp nw i0 i1 pd lv pl mt nt (s_said m (nI c)))) := by
  refine ret_of_go (L := [_, _, _, _, _, _]) (by decide) (Nat.le_of_ble_eq_true rfl) rfl ?_
  have key : ∀ (n j t : Nat) (a3 a4 a5 : Option Value), j + n = c → t ≤ 4 → is2 a3 = false → ffR (m_pad m) n j t = ffR (m_pad m) c 0 0 → Go E yX9_faultOf cX9_faultOf 6 (some .int) (d + 3) 0 0 0 0 4 [some (.ref 52), some (.int (nI t)), some (.int (nI j)), a3, a4, a5] [] (hp nw i0 i1 pd lv pl mt nt (s_said m (nI c))) (dt (some (.int (ffR (m_pad m) c 0 0))) (hp nw i0 i1 pd lv pl mt nt (s_said m (nI c)))) := by
    intro n
    induction n with
    | zero =>
      intro j t a3 a4 a5 hj ht i3 hf
      obtain rfl : j = c := by omega
      rw [ffR] at hf
      by_cases h0 : t = 0
      · subst h0
        refine go_iload_n dX9_faultOf_4 rfl ?_
        refine go_aload_n dX9_faultOf_5 rfl ?_
        refine go_get dX9_faultOf_6 fX9_68 rfl rfl ?_
        refine go_icmp_ge (tgt := 178) dX9_faultOf_9 (by decide) (fun q9 => ?_) (fun zq => absurd (nI_le (Nat.le_refl _) (by omega)) zq)
        refine go_iload_n dX9_faultOf_178 rfl ?_
        refine go_if_ne (tgt := 187) dX9_faultOf_179 (by decide) (fun zq => absurd rfl zq) (fun q179 => ?_)
        refine go_bipush (v := (-6)) dX9_faultOf_182 (by decide) ?_
        refine go_goto (tgt := 191) dX9_faultOf_184 (by decide) ?_
        refine go_iret dX9_faultOf_191 rfl rfl ?_
        exact ⟨by rw [← hf]; rfl, rfl⟩
      · rw [if_neg h0] at hf
        refine go_iload_n dX9_faultOf_4 rfl ?_
        refine go_aload_n dX9_faultOf_5 rfl ?_
        refine go_get dX9_faultOf_6 fX9_68 rfl rfl ?_
        refine go_icmp_ge (tgt := 178) dX9_faultOf_9 (by decide) (fun q9 => ?_) (fun zq => absurd (nI_le (Nat.le_refl _) (by omega)) zq)
        refine go_iload_n dX9_faultOf_178 rfl ?_
        refine go_if_ne (tgt := 187) dX9_faultOf_179 (by decide) (fun q179 => ?_) (fun zq => absurd zq (nI_ne0 (by omega) (by omega)))
        refine go_aload_n dX9_faultOf_187 rfl ?_
        refine go_get dX9_faultOf_188 fX9_68 rfl rfl ?_
        refine go_iret dX9_faultOf_191 rfl rfl ?_
        exact ⟨by rw [← hf], rfl⟩
    | succ n ih =>
      intro j t a3 a4 a5 hj ht i3 hf
      rw [ffR] at hf
      have go2 : ∀ (u : Nat) (x : Int32) (b4 b5 : Option Value), u ≤ 4 → abO t (m_pad m j) = some u → Go E yX9_faultOf cX9_faultOf 6 (some .int) (d + 3) 0 0 0 0 172 [some (.ref 52), some (.int (nI u)), some (.int (nI j)), some (.int x), b4, b5] [] (hp nw i0 i1 pd lv pl mt nt (s_said m (nI c))) (dt (some (.int (ffR (m_pad m) c 0 0))) (hp nw i0 i1 pd lv pl mt nt (s_said m (nI c)))) := by
        intro u x b4 b5 hu h9
        rw [h9] at hf
        refine go_iinc (v := nI (j + 1)) (L' := [_, _, _, _, _, _]) dX9_faultOf_172 rfl (nI_1 j) rfl rfl rfl ?_
        refine go_goto (tgt := 4) dX9_faultOf_175 (by decide) ?_
        exact ih (j + 1) u _ _ _ (by omega) hu rfl hf
      have stop : abO t (m_pad m j) = none → dt (some (.int (ffR (m_pad m) c 0 0))) (hp nw i0 i1 pd lv pl mt nt (s_said m (nI c))) (some (.int (nI j))) (hp nw i0 i1 pd lv pl mt nt (s_said m (nI c))) := by
        intro h9
        rw [h9] at hf
        exact ⟨by rw [← hf], rfl⟩
      refine go_iload_n dX9_faultOf_4 rfl ?_
      refine go_aload_n dX9_faultOf_5 rfl ?_
      refine go_get dX9_faultOf_6 fX9_68 rfl rfl ?_
      refine go_icmp_ge (tgt := 178) dX9_faultOf_9 (by decide) (fun zq => absurd zq (nI_ge (a := j) (b := c) (by omega) (by omega))) (fun q9 => ?_)
      refine go_aload_n dX9_faultOf_12 rfl ?_
      refine go_get dX9_faultOf_13 fX9_25 rfl rfl ?_
      refine go_iload_n dX9_faultOf_16 rfl ?_
      refine go_ialdN (j) dX9_faultOf_17 rfl (by omega) rfl ?_
      refine go_istore_n (L' := [_, _, _, _, _, _]) dX9_faultOf_18 rfl rfl rfl ?_
      show Go E yX9_faultOf cX9_faultOf 6 (some .int) (d + 3) 0 0 0 0 19 [some (.ref 52), some (.int (nI t)), some (.int (nI j)), some (.int (m_pad m j)), a4, a5] [] (hp nw i0 i1 pd lv pl mt nt (s_said m (nI c))) (dt (some (.int (ffR (m_pad m) c 0 0))) (hp nw i0 i1 pd lv pl mt nt (s_said m (nI c))))
      generalize m_pad m j = x at hf go2 stop ⊢
      obtain ⟨rfl⟩ | ⟨rfl⟩ | ⟨rfl⟩ | ⟨rfl⟩ | ⟨rfl⟩ : t = 0 ∨ t = 1 ∨ t = 2 ∨ t = 3 ∨ t = 4 := by omega
      · by_cases h1 : letB x = true
        · exact ft_0l h1 (fun b4 b5 => go2 1 _ b4 b5 (by decide) (by simp only [abO]; rw [if_neg (let_ne h1), if_pos h1]))
        · rw [Bool.not_eq_true] at h1
          by_cases h2 : x = 46
          · subst h2
            exact ft_0d (fun b4 b5 => go2 0 _ b4 b5 (by decide) rfl)
          · exact ft_0n h1 h2 (stop (by simp only [abO]; rw [if_neg h2, if_neg (by rw [h1]; decide)]))
      · by_cases h1 : digB x = true
        · exact ft_1d h1 (fun b4 b5 => go2 0 _ b4 b5 (by decide) (by simp only [abO, abD]; rw [h1]; rfl))
        · rw [Bool.not_eq_true] at h1
          by_cases g33 : x = 33
          · subst g33
            exact ft_1f (fun b4 b5 => go2 2 _ b4 b5 (by decide) rfl)
          · skip
            by_cases g42 : x = 42
            · subst g42
              exact ft_1b (fun b4 b5 => go2 0 _ b4 b5 (by decide) rfl)
            · skip
              by_cases g62 : x = 62
              · subst g62
                exact ft_1p62 (fun b4 b5 => go2 3 _ b4 b5 (by decide) rfl)
              · skip
                by_cases g61 : x = 61
                · subst g61
                  exact ft_1p61 (fun b4 b5 => go2 3 _ b4 b5 (by decide) rfl)
                · skip
                  by_cases g60 : x = 60
                  · subst g60
                    exact ft_1p60 (fun b4 b5 => go2 3 _ b4 b5 (by decide) rfl)
                  · skip
                    exact ft_1n h1 g33 g42 (by simp [two, g62, g61, g60]) (stop (by simp only [abO, abD]; simp [h1, g33, g42, g62, g61, g60]))
      · by_cases h1 : digB x = true
        · exact ft_2d h1 (fun b4 b5 => go2 0 _ b4 b5 (by decide) (by simp only [abO]; rw [if_pos h1]))
        · rw [Bool.not_eq_true] at h1
          exact ft_2n h1 (stop (by simp only [abO]; rw [if_neg (by rw [h1]; decide)]))
      · by_cases h1 : digB x = true
        · exact ft_3d h1 (fun b4 b5 => go2 4 _ b4 b5 (by decide) (by simp only [abO]; rw [if_pos h1]))
        · rw [Bool.not_eq_true] at h1
          exact ft_3n h1 (stop (by simp only [abO]; rw [if_neg (by rw [h1]; decide)]))
      · by_cases h1 : letB x = true
        · exact ft_4l h1 (fun b4 b5 => go2 0 _ b4 b5 (by decide) (by simp only [abO]; rw [if_pos h1]))
        · rw [Bool.not_eq_true] at h1
          exact ft_4n h1 (stop (by simp only [abO]; rw [if_neg (by rw [h1]; decide)]))
  refine go_iconst (v := 0) dX9_faultOf_0 (by decide) ?_
  refine go_istore_n (L' := [_, _, _, _, _, _]) dX9_faultOf_1 rfl rfl rfl ?_
  refine go_iconst (v := 0) dX9_faultOf_2 (by decide) ?_
  refine go_istore_n (L' := [_, _, _, _, _, _]) dX9_faultOf_3 rfl rfl rfl ?_
  exact key c 0 0 _ _ _ (by omega) (by omega) rfl rfl
set_option maxRecDepth 100000 in
set_option maxHeartbeats 4000000 in
theorem rX9_fault_1 {E : gE} {d : Nat} {nw i0 i1 : WorldS} {pd : PadS} {lv : LivesS} {pl : PlanS} {mt : MatS} {nt : NetS} {m : ModS} {c : Nat} (hc : c ≤ 60) : Ret E yX9_fault cX9_fault 1 (some .int) (d + 4) 0 0 [.ref 52] (hp nw i0 i1 pd lv pl mt nt (s_said m (nI c))) (dt (some (.int (ffR (m_pad m) c 0 0))) (hp nw i0 i1 pd lv pl mt nt (s_said m (nI c)))) := by
  refine ret_of_go (L := [_]) (by decide) (Nat.le_of_ble_eq_true rfl) rfl ?_
  refine go_aload_n dX9_fault_0 rfl ?_
  refine go_cV (as := []) dX9_fault_1 mX9_faultOf kX9_80 iX9_faultOf sX9_faultOf rfl rfl rfl rfl (rX9_faultOf hc) rfl rfl rfl ?_
  refine go_iret dX9_fault_4 rfl rfl ?_
  exact ⟨rfl, rfl⟩
