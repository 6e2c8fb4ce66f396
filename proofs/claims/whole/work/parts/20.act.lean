def lenR (S : Nat → Int32) (c j : Nat) : Nat := if sg S c j = 46 then 1 else if digB (sg S c (j + 1)) then 2 else if sg S c (j + 1) = 33 then 3 else if sg S c (j + 1) = 42 then 2 else 4
/-- the ACT at the place j: kind, doer, number, other, length -/
def actR (S : Nat → Int32) (c j : Nat) : ActS :=
  if sg S c j = 46 then (46, sg S c j - 65, 1, sg S c j - 65, 1)
  else if digB (sg S c (j + 1)) then (49, sg S c j - 65, sg S c (j + 1) - 48, sg S c j - 65, 2)
  else if sg S c (j + 1) = 33 then (sg S c (j + 1), sg S c j - 65, sg S c (j + 2) - 48, sg S c j - 65, 3)
  else if sg S c (j + 1) = 42 then (sg S c (j + 1), sg S c j - 65, 1, sg S c j - 65, 2)
  else (sg S c (j + 1), sg S c j - 65, sg S c (j + 2) - 48, sg S c (j + 3) - 65, 4)
theorem actR_len (S : Nat → Int32) (c j : Nat) : (actR S c j).2.2.2.2 = nI (lenR S c j) := by
  unfold actR lenR
  repeat' split
  all_goals rfl
theorem lenR_in (S : Nat → Int32) (c j : Nat) : 1 ≤ lenR S c j ∧ lenR S c j ≤ 4 := by
  unfold lenR
  repeat' split
  all_goals omega
def two (k : Int32) : Bool := decide (k = 62) || decide (k = 61) || decide (k = 60)
def needF (a : ActS) : Int32 := if ¬ a.1 = 33 then (if two a.1 then a.2.2.1 else 1) else 0
def obsF (a : ActS) (F : FolkS) : Int32 :=
  if a.1 = 46 then (if F.2.1 < 99 then 0 else 4)
  else if hasB F.1 a.2.1 && hasB F.1 a.2.2.2.1 then
    if two a.1 && decide (a.2.1 = a.2.2.2.1) then 2
    else if needF a ≤ fs_ F (if a.1 = 60 then a.2.2.2.1 else a.2.1).toNatClampNeg then
      (if a.1 = 61 then (if fd F (a.2.2.2.1.toNatClampNeg * 6 + a.2.1.toNatClampNeg) + a.2.2.1 ≤ 99 then 0 else 5) else 0)
    else 3
  else 1
def appF (a : ActS) (F : FolkS) : FolkS :=
  if a.1 = 33 then forgeF F a.2.1.toNatClampNeg a.2.2.1
  else if a.1 = 42 then takeF F a.2.1.toNatClampNeg 1
  else if a.1 = 49 then signF F a.2.1.toNatClampNeg a.2.2.1
  else if a.1 = 60 then moveF F a.2.2.2.1.toNatClampNeg a.2.1.toNatClampNeg a.2.2.1
  else if a.1 = 61 then oweF (moveF F a.2.1.toNatClampNeg a.2.2.2.1.toNatClampNeg a.2.2.1) a.2.2.2.1.toNatClampNeg a.2.1.toNatClampNeg a.2.2.1
  else if a.1 = 62 then moveF F a.2.1.toNatClampNeg a.2.2.2.1.toNatClampNeg a.2.2.1
  else fYr F (F.2.1 + 1)
theorem has_nI {t x : Int32} (h : hasB t x = true) : ∃ k : Nat, k < 6 ∧ x = nI k := by
  simp only [hasB, isInB, Bool.and_eq_true, decide_eq_true_eq] at h
  obtain ⟨k, hk, e⟩ := nI_of2 (n := 5) (M := 5) (by decide) (Int32.not_lt.mpr h.1.1) h.1.2
  exact ⟨k, by omega, e⟩
theorem obs_has {a : ActS} {F : FolkS} (h : obsF a F = 0) : a.1 = 46 ∨ (hasB F.1 a.2.1 = true ∧ hasB F.1 a.2.2.2.1 = true) := by
  unfold obsF at h
  by_cases h1 : a.1 = 46
  · exact Or.inl h1
  · rw [if_neg h1] at h
    by_cases h2 : (hasB F.1 a.2.1 && hasB F.1 a.2.2.2.1) = true
    · rw [Bool.and_eq_true] at h2
      exact Or.inr h2
    · rw [if_neg h2] at h
      exact absurd h (by decide)
set_option maxRecDepth 100000 in
set_option maxHeartbeats 4000000 in
theorem rX0_read {E : gE} {d : Nat} {nw i0 i1 : WorldS} {lv : LivesS} {pl : PlanS} {mt : MatS} {nt : NetS} {m : ModS} {S : Nat → Int32} {c : Nat} {j : Nat} (hc : c ≤ 60) (hj : j ≤ 100) : Ret E yX0_read cX0_read 3 none (d + 2) 0 0 [.ref 41, .ref 32, .int (nI j)] (hp nw i0 i1 (S, nI c) lv pl mt nt m) (dt none (hp nw i0 i1 (S, nI c) (lv.1, actR S c j, lv.2.2) pl mt nt m)) := by
  refine ret_of_go (L := [_, _, _]) (by decide) (Nat.le_of_ble_eq_true rfl) rfl ?_
  refine go_aload_n dX0_read_0 rfl ?_
  refine go_aload_n dX0_read_1 rfl ?_
  refine go_iload_n dX0_read_2 rfl ?_
  refine go_cV (as := [_]) dX0_read_3 mX5_signAt kX0_9 iX5_signAt sX5_signAt rfl rfl rfl rfl (rX5_signAt (j := j) hc (by omega)) rfl rfl rfl ?_
  refine go_bipush (v := 65) dX0_read_6 (by decide) ?_
  refine go_isub dX0_read_8 ?_
  refine go_put dX0_read_9 fX0_15 (fun _ => rfl) (fun _ => rfl) rfl rfl ?_
  refine go_aload_n dX0_read_12 rfl ?_
  refine go_aload_n dX0_read_13 rfl ?_
  refine go_get dX0_read_14 fX0_15 rfl rfl ?_
  refine go_put dX0_read_17 fX0_21 (fun _ => rfl) (fun _ => rfl) rfl rfl ?_
  refine go_aload_n dX0_read_20 rfl ?_
  refine go_iconst (v := 1) dX0_read_21 (by decide) ?_
  refine go_put dX0_read_22 fX0_24 (fun _ => rfl) (fun _ => rfl) rfl rfl ?_
  refine go_aload_n dX0_read_25 rfl ?_
  refine go_aload_n dX0_read_26 rfl ?_
  refine go_iload_n dX0_read_27 rfl ?_
  refine go_iconst (v := 1) dX0_read_28 (by decide) ?_
  refine go_iadd dX0_read_29 ?_
  refine go_heap (h2 := (hp nw i0 i1 (S, nI c) (lv.1, (lv.2.1.1, sg S c j - 65, 1, sg S c j - 65, lv.2.1.2.2.2.2), lv.2.2) pl mt nt m)) rfl ?_
  refine go_topi_eq (nI_1 j) ?_
  refine go_cV (as := [_]) dX0_read_30 mX5_signAt kX0_9 iX5_signAt sX5_signAt rfl rfl rfl rfl (rX5_signAt (j := j + 1) hc (by omega)) rfl rfl rfl ?_
  refine go_put dX0_read_33 fX0_27 (fun _ => rfl) (fun _ => rfl) rfl rfl ?_
  refine go_aload_n dX0_read_36 rfl ?_
  refine go_iconst (v := 2) dX0_read_37 (by decide) ?_
  refine go_put dX0_read_38 fX0_30 (fun _ => rfl) (fun _ => rfl) rfl rfl ?_
  refine go_aload_n dX0_read_41 rfl ?_
  refine go_iload_n dX0_read_42 rfl ?_
  refine go_heap (h2 := (hp nw i0 i1 (S, nI c) (lv.1, (sg S c (j + 1), sg S c j - 65, 1, sg S c j - 65, 2), lv.2.2) pl mt nt m)) rfl ?_
  refine go_cV (as := [_]) dX0_read_43 mX5_signAt kX0_9 iX5_signAt sX5_signAt rfl rfl rfl rfl (rX5_signAt (j := j) hc (by omega)) rfl rfl rfl ?_
  refine go_bipush (v := 46) dX0_read_46 (by decide) ?_
  refine go_icmp_ne (tgt := 65) dX0_read_48 (by decide) (fun q48 => ?_) (fun q48 => ?_)
  · refine go_aload_n dX0_read_65 rfl ?_
    refine go_get dX0_read_66 fX0_27 rfl rfl ?_
    refine go_cS (as := [_]) dX0_read_69 mX5_isDigit kX0_33 tX5_isDigit rfl rfl (rX5_isDigit) rfl rfl rfl ?_
    refine go_bif_eq (tgt := 95) dX0_read_72 (by decide) (fun q72 => ?_) (fun q72 => ?_)
    · refine go_aload_n dX0_read_95 rfl ?_
      refine go_get dX0_read_96 fX0_27 rfl rfl ?_
      refine go_bipush (v := 33) dX0_read_99 (by decide) ?_
      refine go_icmp_ne (tgt := 126) dX0_read_101 (by decide) (fun q101 => ?_) (fun q101 => ?_)
      · refine go_aload_n dX0_read_126 rfl ?_
        refine go_get dX0_read_127 fX0_27 rfl rfl ?_
        refine go_bipush (v := 42) dX0_read_130 (by decide) ?_
        refine go_icmp_eq (tgt := 168) dX0_read_132 (by decide) (fun q132 => ?_) (fun q132 => ?_)
        · refine go_vret dX0_read_168 rfl rfl ?_
          exact ⟨rfl, by unfold actR; dsimp only at *; (repeat' split) <;> first | rfl | (exfalso; simp_all; done)⟩
        · refine go_aload_n dX0_read_135 rfl ?_
          refine go_aload_n dX0_read_136 rfl ?_
          refine go_iload_n dX0_read_137 rfl ?_
          refine go_iconst (v := 2) dX0_read_138 (by decide) ?_
          refine go_iadd dX0_read_139 ?_
          refine go_topi_eq (nI_add j 2) ?_
          refine go_cV (as := [_]) dX0_read_140 mX5_signAt kX0_9 iX5_signAt sX5_signAt rfl rfl rfl rfl (rX5_signAt (j := j + 2) hc (by omega)) rfl rfl rfl ?_
          refine go_bipush (v := 48) dX0_read_143 (by decide) ?_
          refine go_isub dX0_read_145 ?_
          refine go_put dX0_read_146 fX0_24 (fun _ => rfl) (fun _ => rfl) rfl rfl ?_
          refine go_aload_n dX0_read_149 rfl ?_
          refine go_aload_n dX0_read_150 rfl ?_
          refine go_iload_n dX0_read_151 rfl ?_
          refine go_iconst (v := 3) dX0_read_152 (by decide) ?_
          refine go_iadd dX0_read_153 ?_
          refine go_heap (h2 := (hp nw i0 i1 (S, nI c) (lv.1, (sg S c (j + 1), sg S c j - 65, sg S c (j + 2) - 48, sg S c j - 65, 2), lv.2.2) pl mt nt m)) rfl ?_
          refine go_topi_eq (nI_add j 3) ?_
          refine go_cV (as := [_]) dX0_read_154 mX5_signAt kX0_9 iX5_signAt sX5_signAt rfl rfl rfl rfl (rX5_signAt (j := j + 3) hc (by omega)) rfl rfl rfl ?_
          refine go_bipush (v := 65) dX0_read_157 (by decide) ?_
          refine go_isub dX0_read_159 ?_
          refine go_put dX0_read_160 fX0_21 (fun _ => rfl) (fun _ => rfl) rfl rfl ?_
          refine go_aload_n dX0_read_163 rfl ?_
          refine go_iconst (v := 4) dX0_read_164 (by decide) ?_
          refine go_put dX0_read_165 fX0_30 (fun _ => rfl) (fun _ => rfl) rfl rfl ?_
          refine go_vret dX0_read_168 rfl rfl ?_
          exact ⟨rfl, by unfold actR; dsimp only at *; (repeat' split) <;> first | rfl | (exfalso; simp_all; done)⟩
      · refine go_aload_n dX0_read_104 rfl ?_
        refine go_aload_n dX0_read_105 rfl ?_
        refine go_iload_n dX0_read_106 rfl ?_
        refine go_iconst (v := 2) dX0_read_107 (by decide) ?_
        refine go_iadd dX0_read_108 ?_
        refine go_topi_eq (nI_add j 2) ?_
        refine go_cV (as := [_]) dX0_read_109 mX5_signAt kX0_9 iX5_signAt sX5_signAt rfl rfl rfl rfl (rX5_signAt (j := j + 2) hc (by omega)) rfl rfl rfl ?_
        refine go_bipush (v := 48) dX0_read_112 (by decide) ?_
        refine go_isub dX0_read_114 ?_
        refine go_put dX0_read_115 fX0_24 (fun _ => rfl) (fun _ => rfl) rfl rfl ?_
        refine go_aload_n dX0_read_118 rfl ?_
        refine go_iconst (v := 3) dX0_read_119 (by decide) ?_
        refine go_put dX0_read_120 fX0_30 (fun _ => rfl) (fun _ => rfl) rfl rfl ?_
        refine go_goto (tgt := 168) dX0_read_123 (by decide) ?_
        refine go_vret dX0_read_168 rfl rfl ?_
        exact ⟨rfl, by unfold actR; dsimp only at *; (repeat' split) <;> first | rfl | (exfalso; simp_all; done)⟩
    · refine go_aload_n dX0_read_75 rfl ?_
      refine go_aload_n dX0_read_76 rfl ?_
      refine go_get dX0_read_77 fX0_27 rfl rfl ?_
      refine go_bipush (v := 48) dX0_read_80 (by decide) ?_
      refine go_isub dX0_read_82 ?_
      refine go_put dX0_read_83 fX0_24 (fun _ => rfl) (fun _ => rfl) rfl rfl ?_
      refine go_aload_n dX0_read_86 rfl ?_
      refine go_bipush (v := 49) dX0_read_87 (by decide) ?_
      refine go_put dX0_read_89 fX0_27 (fun _ => rfl) (fun _ => rfl) rfl rfl ?_
      refine go_goto (tgt := 168) dX0_read_92 (by decide) ?_
      refine go_vret dX0_read_168 rfl rfl ?_
      exact ⟨rfl, by unfold actR; dsimp only at *; (repeat' split) <;> first | rfl | (exfalso; simp_all; done)⟩
  · refine go_aload_n dX0_read_51 rfl ?_
    refine go_bipush (v := 46) dX0_read_52 (by decide) ?_
    refine go_put dX0_read_54 fX0_27 (fun _ => rfl) (fun _ => rfl) rfl rfl ?_
    refine go_aload_n dX0_read_57 rfl ?_
    refine go_iconst (v := 1) dX0_read_58 (by decide) ?_
    refine go_put dX0_read_59 fX0_30 (fun _ => rfl) (fun _ => rfl) rfl rfl ?_
    refine go_goto (tgt := 168) dX0_read_62 (by decide) ?_
    refine go_vret dX0_read_168 rfl rfl ?_
    exact ⟨rfl, by unfold actR; dsimp only at *; (repeat' split) <;> first | rfl | (exfalso; simp_all; done)⟩
set_option maxRecDepth 100000 in
set_option maxHeartbeats 4000000 in
theorem rX0_isOfTwo {E : gE} {d : Nat} {nw i0 i1 : WorldS} {pd : PadS} {lv : LivesS} {pl : PlanS} {mt : MatS} {nt : NetS} {m : ModS} : Ret E yX0_isOfTwo cX0_isOfTwo 1 (some .boolean) d 0 0 [.ref 41] (hp nw i0 i1 pd lv pl mt nt m) (dt (some (.int (b2i (two lv.2.1.1)))) (hp nw i0 i1 pd lv pl mt nt m)) := by
  refine ret_of_go (L := [_]) (by decide) (Nat.le_of_ble_eq_true rfl) rfl ?_
  refine go_aload_n dX0_isOfTwo_0 rfl ?_
  refine go_get dX0_isOfTwo_1 fX0_27 rfl rfl ?_
  refine go_bipush (v := 62) dX0_isOfTwo_4 (by decide) ?_
  refine go_icmp_eq (tgt := 27) dX0_isOfTwo_6 (by decide) (fun q6 => ?_) (fun q6 => ?_)
  · refine go_iconst (v := 1) dX0_isOfTwo_27 (by decide) ?_
    refine go_goto (tgt := 32) dX0_isOfTwo_28 (by decide) ?_
    refine go_zret dX0_isOfTwo_32 (by decide) rfl rfl ?_
    exact ⟨by simp_all [two, b2i], rfl⟩
  · refine go_aload_n dX0_isOfTwo_9 rfl ?_
    refine go_get dX0_isOfTwo_10 fX0_27 rfl rfl ?_
    refine go_bipush (v := 61) dX0_isOfTwo_13 (by decide) ?_
    refine go_icmp_eq (tgt := 27) dX0_isOfTwo_15 (by decide) (fun q15 => ?_) (fun q15 => ?_)
    · refine go_iconst (v := 1) dX0_isOfTwo_27 (by decide) ?_
      refine go_goto (tgt := 32) dX0_isOfTwo_28 (by decide) ?_
      refine go_zret dX0_isOfTwo_32 (by decide) rfl rfl ?_
      exact ⟨by simp_all [two, b2i], rfl⟩
    · refine go_aload_n dX0_isOfTwo_18 rfl ?_
      refine go_get dX0_isOfTwo_19 fX0_27 rfl rfl ?_
      refine go_bipush (v := 60) dX0_isOfTwo_22 (by decide) ?_
      refine go_icmp_ne (tgt := 31) dX0_isOfTwo_24 (by decide) (fun q24 => ?_) (fun q24 => ?_)
      · refine go_iconst (v := 0) dX0_isOfTwo_31 (by decide) ?_
        refine go_zret dX0_isOfTwo_32 (by decide) rfl rfl ?_
        exact ⟨by simp_all [two, b2i], rfl⟩
      · refine go_iconst (v := 1) dX0_isOfTwo_27 (by decide) ?_
        refine go_goto (tgt := 32) dX0_isOfTwo_28 (by decide) ?_
        refine go_zret dX0_isOfTwo_32 (by decide) rfl rfl ?_
        exact ⟨by simp_all [two, b2i], rfl⟩
set_option maxRecDepth 100000 in
set_option maxHeartbeats 4000000 in
theorem rX0_sheetsNeeded {E : gE} {d : Nat} {nw i0 i1 : WorldS} {pd : PadS} {lv : LivesS} {pl : PlanS} {mt : MatS} {nt : NetS} {m : ModS} : Ret E yX0_sheetsNeeded cX0_sheetsNeeded 1 (some .int) (d + 1) 0 0 [.ref 41] (hp nw i0 i1 pd lv pl mt nt m) (dt (some (.int (needF lv.2.1))) (hp nw i0 i1 pd lv pl mt nt m)) := by
  refine ret_of_go (L := [_]) (by decide) (Nat.le_of_ble_eq_true rfl) rfl ?_
  refine go_aload_n dX0_sheetsNeeded_0 rfl ?_
  refine go_get dX0_sheetsNeeded_1 fX0_27 rfl rfl ?_
  refine go_bipush (v := 33) dX0_sheetsNeeded_4 (by decide) ?_
  refine go_icmp_ne (tgt := 11) dX0_sheetsNeeded_6 (by decide) (fun q6 => ?_) (fun q6 => ?_)
  · refine go_aload_n dX0_sheetsNeeded_11 rfl ?_
    refine go_cV (as := []) dX0_sheetsNeeded_12 mX0_isOfTwo kX0_45 iX0_isOfTwo sX0_isOfTwo rfl rfl rfl rfl (rX0_isOfTwo) rfl rfl rfl ?_
    refine go_bif_eq (tgt := 25) dX0_sheetsNeeded_15 (by decide) (fun q15 => ?_) (fun q15 => ?_)
    · refine go_iconst (v := 1) dX0_sheetsNeeded_25 (by decide) ?_
      refine go_iret dX0_sheetsNeeded_26 rfl rfl ?_
      exact ⟨by simp only [needF, *, not_true, not_false_iff, if_true, if_false, Bool.false_eq_true], rfl⟩
    · refine go_aload_n dX0_sheetsNeeded_18 rfl ?_
      refine go_get dX0_sheetsNeeded_19 fX0_24 rfl rfl ?_
      refine go_goto (tgt := 26) dX0_sheetsNeeded_22 (by decide) ?_
      refine go_iret dX0_sheetsNeeded_26 rfl rfl ?_
      exact ⟨by simp only [needF, *, not_true, not_false_iff, if_true, if_false, Bool.false_eq_true], rfl⟩
  · refine go_iconst (v := 0) dX0_sheetsNeeded_9 (by decide) ?_
    refine go_iret dX0_sheetsNeeded_10 rfl rfl ?_
    exact ⟨by simp only [needF, *, not_true, not_false_iff, if_true, if_false, Bool.false_eq_true], rfl⟩
