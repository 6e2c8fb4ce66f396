def letB (x : Int32) : Bool := isInB x 65 70
def digB (x : Int32) : Bool := isInB x 49 57
def sg (S : Nat → Int32) (c j : Nat) : Int32 := if j < c then S j else 0
def oI (t : Option Nat) : Int32 := match t with
  | none => -1
  | some k => nI k
/-- behind a PERSON's letter -/
def abD (x : Int32) : Option Nat := if digB x || decide (x = 42) then some 0 else if x = 33 then some 2 else if x = 62 then some 3 else if x = 61 then some 3 else if x = 60 then some 3 else none
def abO (t : Nat) (x : Int32) : Option Nat := match t with
  | 0 => if x = 46 then some 0 else if letB x then some 1 else none
  | 1 => abD x
  | 2 => if digB x then some 0 else none
  | 3 => if digB x then some 4 else none
  | _ => if letB x then some 0 else none
def ffR (S : Nat → Int32) : Nat → Nat → Nat → Int32
  | 0, j, t => if t = 0 then -6 else nI j
  | n + 1, j, t => match abO t (S j) with
    | none => nI j
    | some u => ffR S n (j + 1) u
theorem abD_le {x : Int32} {u : Nat} (h : abD x = some u) : u ≤ 4 := by
  unfold abD at h
  repeat' split at h
  all_goals simp at h
  all_goals omega
theorem abO_le {t : Nat} {x : Int32} {u : Nat} (h : abO t x = some u) : u ≤ 4 := by
  unfold abO at h
  split at h
  · repeat' split at h
    all_goals simp at h
    all_goals omega
  · exact abD_le h
  all_goals
    split at h
    all_goals simp at h
    all_goals omega
set_option maxRecDepth 100000 in
set_option maxHeartbeats 4000000 in
theorem rX5_isLetter {E : gE} {d : Nat} {x : Int32} {h : gH} : Ret E yX5_isLetter cX5_isLetter 1 (some .boolean) (d + 1) 0 0 [.int x] h (dt (some (.int (b2i (letB x)))) h) := by
  refine ret_of_go (L := [_]) (by decide) (Nat.le_of_ble_eq_true rfl) rfl ?_
  refine go_iload_n dX5_isLetter_0 rfl ?_
  refine go_bipush (v := 65) dX5_isLetter_1 (by decide) ?_
  refine go_bipush (v := 70) dX5_isLetter_3 (by decide) ?_
  refine go_cS (as := [_, _, _]) dX5_isLetter_5 mX8_isIn kX5_34 tX8_isIn rfl rfl (rX8_isIn) rfl rfl rfl ?_
  refine go_zret dX5_isLetter_8 (b2i_nar _) rfl rfl ?_
  exact ⟨rfl, rfl⟩
set_option maxRecDepth 100000 in
set_option maxHeartbeats 4000000 in
theorem rX5_isDigit {E : gE} {d : Nat} {x : Int32} {h : gH} : Ret E yX5_isDigit cX5_isDigit 1 (some .boolean) (d + 1) 0 0 [.int x] h (dt (some (.int (b2i (digB x)))) h) := by
  refine ret_of_go (L := [_]) (by decide) (Nat.le_of_ble_eq_true rfl) rfl ?_
  refine go_iload_n dX5_isDigit_0 rfl ?_
  refine go_bipush (v := 49) dX5_isDigit_1 (by decide) ?_
  refine go_bipush (v := 57) dX5_isDigit_3 (by decide) ?_
  refine go_cS (as := [_, _, _]) dX5_isDigit_5 mX8_isIn kX5_34 tX8_isIn rfl rfl (rX8_isIn) rfl rfl rfl ?_
  refine go_zret dX5_isDigit_8 (b2i_nar _) rfl rfl ?_
  exact ⟨rfl, rfl⟩
set_option maxRecDepth 100000 in
set_option maxHeartbeats 4000000 in
theorem rX5_awaitedBehindDeed {E : gE} {d : Nat} {x : Int32} {h : gH} : Ret E yX5_awaitedBehindDeed cX5_awaitedBehindDeed 1 (some .int) (d + 2) 0 0 [.int x] h (dt (some (.int (oI (abD x)))) h) := by
  refine ret_of_go (L := [_]) (by decide) (Nat.le_of_ble_eq_true rfl) rfl ?_
  refine go_iload_n dX5_awaitedBehindDeed_0 rfl ?_
  refine go_cS (as := [_]) dX5_awaitedBehindDeed_1 mX5_isDigit kX5_31 tX5_isDigit rfl rfl (rX5_isDigit) rfl rfl rfl ?_
  refine go_bif_ne (tgt := 13) dX5_awaitedBehindDeed_4 (by decide) (fun q4 => ?_) (fun q4 => ?_)
  · refine go_iconst (v := 0) dX5_awaitedBehindDeed_13 (by decide) ?_
    refine go_iret dX5_awaitedBehindDeed_14 rfl rfl ?_
    exact ⟨by first | (simp only [abD, oI, *, Bool.true_or, Bool.false_or, Bool.or_true, decide_true, decide_false, if_true, if_false, Bool.false_eq_true]; done) | (simp only [abD, oI, *, Bool.true_or, Bool.false_or, Bool.or_true, decide_true, decide_false, if_true, if_false, Bool.false_eq_true]; rfl) | (subst_vars; rfl), rfl⟩
  · refine go_iload_n dX5_awaitedBehindDeed_7 rfl ?_
    refine go_bipush (v := 42) dX5_awaitedBehindDeed_8 (by decide) ?_
    refine go_icmp_ne (tgt := 15) dX5_awaitedBehindDeed_10 (by decide) (fun q10 => ?_) (fun q10 => ?_)
    · refine go_iload_n dX5_awaitedBehindDeed_15 rfl ?_
      refine go_bipush (v := 33) dX5_awaitedBehindDeed_16 (by decide) ?_
      refine go_icmp_ne (tgt := 23) dX5_awaitedBehindDeed_18 (by decide) (fun q18 => ?_) (fun q18 => ?_)
      · refine go_iload_n dX5_awaitedBehindDeed_23 rfl ?_
        refine go_bipush (v := 62) dX5_awaitedBehindDeed_24 (by decide) ?_
        refine go_icmp_eq (tgt := 41) dX5_awaitedBehindDeed_26 (by decide) (fun q26 => ?_) (fun q26 => ?_)
        · refine go_iconst (v := 3) dX5_awaitedBehindDeed_41 (by decide) ?_
          refine go_goto (tgt := 46) dX5_awaitedBehindDeed_42 (by decide) ?_
          refine go_iret dX5_awaitedBehindDeed_46 rfl rfl ?_
          exact ⟨by first | (simp only [abD, oI, *, Bool.true_or, Bool.false_or, Bool.or_true, decide_true, decide_false, if_true, if_false, Bool.false_eq_true]; done) | (simp only [abD, oI, *, Bool.true_or, Bool.false_or, Bool.or_true, decide_true, decide_false, if_true, if_false, Bool.false_eq_true]; rfl) | (subst_vars; rfl), rfl⟩
        · refine go_iload_n dX5_awaitedBehindDeed_29 rfl ?_
          refine go_bipush (v := 61) dX5_awaitedBehindDeed_30 (by decide) ?_
          refine go_icmp_eq (tgt := 41) dX5_awaitedBehindDeed_32 (by decide) (fun q32 => ?_) (fun q32 => ?_)
          · refine go_iconst (v := 3) dX5_awaitedBehindDeed_41 (by decide) ?_
            refine go_goto (tgt := 46) dX5_awaitedBehindDeed_42 (by decide) ?_
            refine go_iret dX5_awaitedBehindDeed_46 rfl rfl ?_
            exact ⟨by first | (simp only [abD, oI, *, Bool.true_or, Bool.false_or, Bool.or_true, decide_true, decide_false, if_true, if_false, Bool.false_eq_true]; done) | (simp only [abD, oI, *, Bool.true_or, Bool.false_or, Bool.or_true, decide_true, decide_false, if_true, if_false, Bool.false_eq_true]; rfl) | (subst_vars; rfl), rfl⟩
          · refine go_iload_n dX5_awaitedBehindDeed_35 rfl ?_
            refine go_bipush (v := 60) dX5_awaitedBehindDeed_36 (by decide) ?_
            refine go_icmp_ne (tgt := 45) dX5_awaitedBehindDeed_38 (by decide) (fun q38 => ?_) (fun q38 => ?_)
            · refine go_iconst (v := (-1)) dX5_awaitedBehindDeed_45 (by decide) ?_
              refine go_iret dX5_awaitedBehindDeed_46 rfl rfl ?_
              exact ⟨by first | (simp only [abD, oI, *, Bool.true_or, Bool.false_or, Bool.or_true, decide_true, decide_false, if_true, if_false, Bool.false_eq_true]; done) | (simp only [abD, oI, *, Bool.true_or, Bool.false_or, Bool.or_true, decide_true, decide_false, if_true, if_false, Bool.false_eq_true]; rfl) | (subst_vars; rfl), rfl⟩
            · refine go_iconst (v := 3) dX5_awaitedBehindDeed_41 (by decide) ?_
              refine go_goto (tgt := 46) dX5_awaitedBehindDeed_42 (by decide) ?_
              refine go_iret dX5_awaitedBehindDeed_46 rfl rfl ?_
              exact ⟨by first | (simp only [abD, oI, *, Bool.true_or, Bool.false_or, Bool.or_true, decide_true, decide_false, if_true, if_false, Bool.false_eq_true]; done) | (simp only [abD, oI, *, Bool.true_or, Bool.false_or, Bool.or_true, decide_true, decide_false, if_true, if_false, Bool.false_eq_true]; rfl) | (subst_vars; rfl), rfl⟩
      · refine go_iconst (v := 2) dX5_awaitedBehindDeed_21 (by decide) ?_
        refine go_iret dX5_awaitedBehindDeed_22 rfl rfl ?_
        exact ⟨by first | (simp only [abD, oI, *, Bool.true_or, Bool.false_or, Bool.or_true, decide_true, decide_false, if_true, if_false, Bool.false_eq_true]; done) | (simp only [abD, oI, *, Bool.true_or, Bool.false_or, Bool.or_true, decide_true, decide_false, if_true, if_false, Bool.false_eq_true]; rfl) | (subst_vars; rfl), rfl⟩
    · refine go_iconst (v := 0) dX5_awaitedBehindDeed_13 (by decide) ?_
      refine go_iret dX5_awaitedBehindDeed_14 rfl rfl ?_
      exact ⟨by first | (simp only [abD, oI, *, Bool.true_or, Bool.false_or, Bool.or_true, decide_true, decide_false, if_true, if_false, Bool.false_eq_true]; done) | (simp only [abD, oI, *, Bool.true_or, Bool.false_or, Bool.or_true, decide_true, decide_false, if_true, if_false, Bool.false_eq_true]; rfl) | (subst_vars; rfl), rfl⟩
set_option maxRecDepth 100000 in
set_option maxHeartbeats 4000000 in
theorem rX5_awaitedBehind {E : gE} {d : Nat} {t : Nat} {x : Int32} {h : gH} (ht : t ≤ 4) : Ret E yX5_awaitedBehind cX5_awaitedBehind 2 (some .int) (d + 3) 0 0 [.int (nI t), .int x] h (dt (some (.int (oI (abO t x)))) h) := by
  refine ret_of_go (L := [_, _]) (by decide) (Nat.le_of_ble_eq_true rfl) rfl ?_
  obtain ⟨rfl⟩ | ⟨rfl⟩ | ⟨rfl⟩ | ⟨rfl⟩ | ⟨rfl⟩ : t = 0 ∨ t = 1 ∨ t = 2 ∨ t = 3 ∨ t = 4 := by omega
  · refine go_iload_n dX5_awaitedBehind_0 rfl ?_
    refine go_tableIn (off := 31) (tgt := 32) dX5_awaitedBehind_1 (by decide) (by decide) (by decide) (by decide) ?_
    refine go_iload_n dX5_awaitedBehind_32 rfl ?_
    refine go_bipush (v := 46) dX5_awaitedBehind_33 (by decide) ?_
    refine go_icmp_ne (tgt := 42) dX5_awaitedBehind_35 (by decide) (fun q35 => ?_) (fun q35 => ?_)
    · refine go_iload_n dX5_awaitedBehind_42 rfl ?_
      refine go_cS (as := [_]) dX5_awaitedBehind_43 mX5_isLetter kX5_23 tX5_isLetter rfl rfl (rX5_isLetter) rfl rfl rfl ?_
      refine go_bif_eq (tgt := 53) dX5_awaitedBehind_46 (by decide) (fun q46 => ?_) (fun q46 => ?_)
      · refine go_iconst (v := (-1)) dX5_awaitedBehind_53 (by decide) ?_
        refine go_iret dX5_awaitedBehind_54 rfl rfl ?_
        exact ⟨by first | (simp only [abO, oI, *, if_true, if_false, Bool.false_eq_true]; done) | (simp only [abO, oI, *, if_true, if_false, Bool.false_eq_true]; rfl) | (subst_vars; rfl) | rfl, rfl⟩
      · refine go_iconst (v := 1) dX5_awaitedBehind_49 (by decide) ?_
        refine go_goto (tgt := 54) dX5_awaitedBehind_50 (by decide) ?_
        refine go_iret dX5_awaitedBehind_54 rfl rfl ?_
        exact ⟨by first | (simp only [abO, oI, *, if_true, if_false, Bool.false_eq_true]; done) | (simp only [abO, oI, *, if_true, if_false, Bool.false_eq_true]; rfl) | (subst_vars; rfl) | rfl, rfl⟩
    · refine go_iconst (v := 0) dX5_awaitedBehind_38 (by decide) ?_
      refine go_goto (tgt := 54) dX5_awaitedBehind_39 (by decide) ?_
      refine go_iret dX5_awaitedBehind_54 rfl rfl ?_
      exact ⟨by first | (simp only [abO, oI, *, if_true, if_false, Bool.false_eq_true]; done) | (simp only [abO, oI, *, if_true, if_false, Bool.false_eq_true]; rfl) | (subst_vars; rfl) | rfl, rfl⟩
  · refine go_iload_n dX5_awaitedBehind_0 rfl ?_
    refine go_tableIn (off := 54) (tgt := 55) dX5_awaitedBehind_1 (by decide) (by decide) (by decide) (by decide) ?_
    refine go_iload_n dX5_awaitedBehind_55 rfl ?_
    refine go_cS (as := [_]) dX5_awaitedBehind_56 mX5_awaitedBehindDeed kX5_27 tX5_awaitedBehindDeed rfl rfl (rX5_awaitedBehindDeed) rfl rfl rfl ?_
    refine go_iret dX5_awaitedBehind_59 rfl rfl ?_
    exact ⟨by first | (simp only [abO, oI, *, if_true, if_false, Bool.false_eq_true]; done) | (simp only [abO, oI, *, if_true, if_false, Bool.false_eq_true]; rfl) | (subst_vars; rfl) | rfl, rfl⟩
  · refine go_iload_n dX5_awaitedBehind_0 rfl ?_
    refine go_tableIn (off := 59) (tgt := 60) dX5_awaitedBehind_1 (by decide) (by decide) (by decide) (by decide) ?_
    refine go_iload_n dX5_awaitedBehind_60 rfl ?_
    refine go_cS (as := [_]) dX5_awaitedBehind_61 mX5_isDigit kX5_31 tX5_isDigit rfl rfl (rX5_isDigit) rfl rfl rfl ?_
    refine go_bif_eq (tgt := 71) dX5_awaitedBehind_64 (by decide) (fun q64 => ?_) (fun q64 => ?_)
    · refine go_iconst (v := (-1)) dX5_awaitedBehind_71 (by decide) ?_
      refine go_iret dX5_awaitedBehind_72 rfl rfl ?_
      exact ⟨by first | (simp only [abO, oI, *, if_true, if_false, Bool.false_eq_true]; done) | (simp only [abO, oI, *, if_true, if_false, Bool.false_eq_true]; rfl) | (subst_vars; rfl) | rfl, rfl⟩
    · refine go_iconst (v := 0) dX5_awaitedBehind_67 (by decide) ?_
      refine go_goto (tgt := 72) dX5_awaitedBehind_68 (by decide) ?_
      refine go_iret dX5_awaitedBehind_72 rfl rfl ?_
      exact ⟨by first | (simp only [abO, oI, *, if_true, if_false, Bool.false_eq_true]; done) | (simp only [abO, oI, *, if_true, if_false, Bool.false_eq_true]; rfl) | (subst_vars; rfl) | rfl, rfl⟩
  · refine go_iload_n dX5_awaitedBehind_0 rfl ?_
    refine go_tableIn (off := 72) (tgt := 73) dX5_awaitedBehind_1 (by decide) (by decide) (by decide) (by decide) ?_
    refine go_iload_n dX5_awaitedBehind_73 rfl ?_
    refine go_cS (as := [_]) dX5_awaitedBehind_74 mX5_isDigit kX5_31 tX5_isDigit rfl rfl (rX5_isDigit) rfl rfl rfl ?_
    refine go_bif_eq (tgt := 84) dX5_awaitedBehind_77 (by decide) (fun q77 => ?_) (fun q77 => ?_)
    · refine go_iconst (v := (-1)) dX5_awaitedBehind_84 (by decide) ?_
      refine go_iret dX5_awaitedBehind_85 rfl rfl ?_
      exact ⟨by first | (simp only [abO, oI, *, if_true, if_false, Bool.false_eq_true]; done) | (simp only [abO, oI, *, if_true, if_false, Bool.false_eq_true]; rfl) | (subst_vars; rfl) | rfl, rfl⟩
    · refine go_iconst (v := 4) dX5_awaitedBehind_80 (by decide) ?_
      refine go_goto (tgt := 85) dX5_awaitedBehind_81 (by decide) ?_
      refine go_iret dX5_awaitedBehind_85 rfl rfl ?_
      exact ⟨by first | (simp only [abO, oI, *, if_true, if_false, Bool.false_eq_true]; done) | (simp only [abO, oI, *, if_true, if_false, Bool.false_eq_true]; rfl) | (subst_vars; rfl) | rfl, rfl⟩
  · refine go_iload_n dX5_awaitedBehind_0 rfl ?_
    refine go_tableOut (tgt := 86) dX5_awaitedBehind_1 (by decide) (by decide) ?_
    refine go_iload_n dX5_awaitedBehind_86 rfl ?_
    refine go_cS (as := [_]) dX5_awaitedBehind_87 mX5_isLetter kX5_23 tX5_isLetter rfl rfl (rX5_isLetter) rfl rfl rfl ?_
    refine go_bif_eq (tgt := 97) dX5_awaitedBehind_90 (by decide) (fun q90 => ?_) (fun q90 => ?_)
    · refine go_iconst (v := (-1)) dX5_awaitedBehind_97 (by decide) ?_
      refine go_iret dX5_awaitedBehind_98 rfl rfl ?_
      exact ⟨by first | (simp only [abO, oI, *, if_true, if_false, Bool.false_eq_true]; done) | (simp only [abO, oI, *, if_true, if_false, Bool.false_eq_true]; rfl) | (subst_vars; rfl) | rfl, rfl⟩
    · refine go_iconst (v := 0) dX5_awaitedBehind_93 (by decide) ?_
      refine go_goto (tgt := 98) dX5_awaitedBehind_94 (by decide) ?_
      refine go_iret dX5_awaitedBehind_98 rfl rfl ?_
      exact ⟨by first | (simp only [abO, oI, *, if_true, if_false, Bool.false_eq_true]; done) | (simp only [abO, oI, *, if_true, if_false, Bool.false_eq_true]; rfl) | (subst_vars; rfl) | rfl, rfl⟩
set_option maxRecDepth 100000 in
set_option maxHeartbeats 4000000 in
theorem rX5_add {E : gE} {d : Nat} {nw i0 i1 : WorldS} {lv : LivesS} {pl : PlanS} {mt : MatS} {nt : NetS} {m : ModS} {S : Nat → Int32} {c : Nat} {x : Int32} (hc : c < 60) : Ret E yX5_add cX5_add 2 none d 0 0 [.ref 32, .int x] (hp nw i0 i1 (S, nI c) lv pl mt nt m) (dt none (hp nw i0 i1 (upd S c x, nI (c + 1)) lv pl mt nt m)) := by
  refine ret_of_go (L := [_, _]) (by decide) (Nat.le_of_ble_eq_true rfl) rfl ?_
  refine go_aload_n dX5_add_0 rfl ?_
  refine go_get dX5_add_1 fX5_9 rfl rfl ?_
  refine go_aload_n dX5_add_4 rfl ?_
  refine go_get dX5_add_5 fX5_15 rfl rfl ?_
  refine go_iload_n dX5_add_8 rfl ?_
  refine go_iastN (c) dX5_add_9 rfl (hc) rfl ?_
  refine go_aload_n dX5_add_10 rfl ?_
  refine go_dup dX5_add_11 rfl ?_
  refine go_get dX5_add_12 fX5_15 rfl rfl ?_
  refine go_iconst (v := 1) dX5_add_15 (by decide) ?_
  refine go_iadd dX5_add_16 ?_
  refine go_topi_eq (nI_1 c) ?_
  refine go_put dX5_add_17 fX5_15 (fun _ => rfl) (fun _ => rfl) rfl rfl ?_
  refine go_vret dX5_add_20 rfl rfl ?_
  exact ⟨rfl, rfl⟩
set_option maxRecDepth 100000 in
set_option maxHeartbeats 4000000 in
theorem rX5_signAt {E : gE} {d : Nat} {nw i0 i1 : WorldS} {lv : LivesS} {pl : PlanS} {mt : MatS} {nt : NetS} {m : ModS} {S : Nat → Int32} {c : Nat} {j : Nat} (hc : c ≤ 60) (hj2 : j ≤ 1000) : Ret E yX5_signAt cX5_signAt 2 (some .int) d 0 0 [.ref 32, .int (nI j)] (hp nw i0 i1 (S, nI c) lv pl mt nt m) (dt (some (.int (sg S c j))) (hp nw i0 i1 (S, nI c) lv pl mt nt m)) := by
  refine ret_of_go (L := [_, _]) (by decide) (Nat.le_of_ble_eq_true rfl) rfl ?_
  by_cases hj : j < c
  · refine go_iload_n dX5_signAt_0 rfl ?_
    refine go_if_lt (tgt := 21) dX5_signAt_1 (by decide) (fun q => absurd q (nI_pos (by omega))) (fun q1 => ?_)
    refine go_iload_n dX5_signAt_4 rfl ?_
    refine go_aload_n dX5_signAt_5 rfl ?_
    refine go_get dX5_signAt_6 fX5_15 rfl rfl ?_
    refine go_icmp_ge (tgt := 21) dX5_signAt_9 (by decide) (fun q => absurd q (nI_ge hj (by omega))) (fun q9 => ?_)
    refine go_aload_n dX5_signAt_12 rfl ?_
    refine go_get dX5_signAt_13 fX5_9 rfl rfl ?_
    refine go_iload_n dX5_signAt_16 rfl ?_
    refine go_ialdN (j) dX5_signAt_17 rfl (by omega) rfl ?_
    refine go_goto (tgt := 22) dX5_signAt_18 (by decide) ?_
    refine go_iret dX5_signAt_22 rfl rfl ?_
    exact ⟨by rw [sg, if_pos hj], rfl⟩
  · refine go_iload_n dX5_signAt_0 rfl ?_
    refine go_if_lt (tgt := 21) dX5_signAt_1 (by decide) (fun q => absurd q (nI_pos (by omega))) (fun q1 => ?_)
    refine go_iload_n dX5_signAt_4 rfl ?_
    refine go_aload_n dX5_signAt_5 rfl ?_
    refine go_get dX5_signAt_6 fX5_15 rfl rfl ?_
    refine go_icmp_ge (tgt := 21) dX5_signAt_9 (by decide) (fun q9 => ?_) (fun q => absurd (nI_le (Nat.not_lt.mp hj) (by omega)) q)
    refine go_iconst (v := 0) dX5_signAt_21 (by decide) ?_
    refine go_iret dX5_signAt_22 rfl rfl ?_
    exact ⟨by rw [sg, if_neg hj], rfl⟩
theorem nI_nm1 {u : Nat} (h : u ≤ 4) : ¬ nI u = -1 := by
  obtain ⟨rfl⟩ | ⟨rfl⟩ | ⟨rfl⟩ | ⟨rfl⟩ | ⟨rfl⟩ : u = 0 ∨ u = 1 ∨ u = 2 ∨ u = 3 ∨ u = 4 := by omega
  all_goals decide
set_option maxRecDepth 100000 in
set_option maxHeartbeats 4000000 in
theorem rX5_firstFault {E : gE} {d : Nat} {nw i0 i1 : WorldS} {lv : LivesS} {pl : PlanS} {mt : MatS} {nt : NetS} {m : ModS} {S : Nat → Int32} {c : Nat} (hc : c ≤ 60) : Ret E yX5_firstFault cX5_firstFault 3 (some .int) (d + 4) 0 0 [.ref 32] (hp nw i0 i1 (S, nI c) lv pl mt nt m) (dt (some (.int (ffR S c 0 0))) (hp nw i0 i1 (S, nI c) lv pl mt nt m)) := by
  refine ret_of_go (L := [_, _, _]) (by decide) (Nat.le_of_ble_eq_true rfl) rfl ?_
  have key : ∀ (n j t : Nat), j + n = c → t ≤ 4 → ffR S n j t = ffR S c 0 0 → Go E yX5_firstFault cX5_firstFault 3 (some .int) (d + 4) 0 0 0 0 4 [some (.ref 32), some (.int (nI t)), some (.int (nI j))] [] (hp nw i0 i1 (S, nI c) lv pl mt nt m) (dt (some (.int (ffR S c 0 0))) (hp nw i0 i1 (S, nI c) lv pl mt nt m)) := by
    intro n
    induction n with
    | zero =>
      intro j t hj ht hf
      obtain rfl : j = c := by omega
      rw [ffR] at hf
      by_cases h0 : t = 0
      · subst h0
        refine go_iload_n dX5_firstFault_4 rfl ?_
        refine go_aload_n dX5_firstFault_5 rfl ?_
        refine go_get dX5_firstFault_6 fX5_15 rfl rfl ?_
        refine go_icmp_ge (tgt := 36) dX5_firstFault_9 (by decide) (fun q9 => ?_) (fun q => absurd (nI_le (Nat.le_refl _) (by omega)) q)
        refine go_iload_n dX5_firstFault_36 rfl ?_
        refine go_if_ne (tgt := 45) dX5_firstFault_37 (by decide) (fun q => absurd rfl q) (fun q37 => ?_)
        refine go_bipush (v := (-6)) dX5_firstFault_40 (by decide) ?_
        refine go_goto (tgt := 49) dX5_firstFault_42 (by decide) ?_
        refine go_iret dX5_firstFault_49 rfl rfl ?_
        exact ⟨by rw [← hf]; rfl, rfl⟩
      · rw [if_neg h0] at hf
        refine go_iload_n dX5_firstFault_4 rfl ?_
        refine go_aload_n dX5_firstFault_5 rfl ?_
        refine go_get dX5_firstFault_6 fX5_15 rfl rfl ?_
        refine go_icmp_ge (tgt := 36) dX5_firstFault_9 (by decide) (fun q9 => ?_) (fun q => absurd (nI_le (Nat.le_refl _) (by omega)) q)
        refine go_iload_n dX5_firstFault_36 rfl ?_
        refine go_if_ne (tgt := 45) dX5_firstFault_37 (by decide) (fun q37 => ?_) (fun q => absurd q (nI_ne0 (by omega) (by omega)))
        refine go_aload_n dX5_firstFault_45 rfl ?_
        refine go_get dX5_firstFault_46 fX5_15 rfl rfl ?_
        refine go_iret dX5_firstFault_49 rfl rfl ?_
        exact ⟨by rw [← hf], rfl⟩
    | succ n ih =>
      intro j t hj ht hf
      rw [ffR] at hf
      cases hu : abO t (S j) with
      | none =>
        rw [hu] at hf
        refine go_iload_n dX5_firstFault_4 rfl ?_
        refine go_aload_n dX5_firstFault_5 rfl ?_
        refine go_get dX5_firstFault_6 fX5_15 rfl rfl ?_
        refine go_icmp_ge (tgt := 36) dX5_firstFault_9 (by decide) (fun q => absurd q (nI_ge (a := j) (b := c) (by omega) (by omega))) (fun q9 => ?_)
        refine go_iload_n dX5_firstFault_12 rfl ?_
        refine go_aload_n dX5_firstFault_13 rfl ?_
        refine go_get dX5_firstFault_14 fX5_9 rfl rfl ?_
        refine go_iload_n dX5_firstFault_17 rfl ?_
        refine go_ialdN (j) dX5_firstFault_18 rfl (by omega) rfl ?_
        refine go_cS (as := [_, _]) dX5_firstFault_19 mX5_awaitedBehind kX5_19 tX5_awaitedBehind rfl rfl (rX5_awaitedBehind ht) rfl rfl rfl ?_
        rw [hu]
        refine go_istore_n (L' := [_, _, _]) dX5_firstFault_22 rfl rfl rfl ?_
        refine go_iload_n dX5_firstFault_23 rfl ?_
        refine go_iconst (v := (-1)) dX5_firstFault_24 (by decide) ?_
        refine go_icmp_ne (tgt := 30) dX5_firstFault_25 (by decide) (fun q => absurd rfl q) (fun q25 => ?_)
        refine go_iload_n dX5_firstFault_28 rfl ?_
        refine go_iret dX5_firstFault_29 rfl rfl ?_
        exact ⟨by rw [← hf], rfl⟩
      | some u =>
        rw [hu] at hf
        refine go_iload_n dX5_firstFault_4 rfl ?_
        refine go_aload_n dX5_firstFault_5 rfl ?_
        refine go_get dX5_firstFault_6 fX5_15 rfl rfl ?_
        refine go_icmp_ge (tgt := 36) dX5_firstFault_9 (by decide) (fun q => absurd q (nI_ge (a := j) (b := c) (by omega) (by omega))) (fun q9 => ?_)
        refine go_iload_n dX5_firstFault_12 rfl ?_
        refine go_aload_n dX5_firstFault_13 rfl ?_
        refine go_get dX5_firstFault_14 fX5_9 rfl rfl ?_
        refine go_iload_n dX5_firstFault_17 rfl ?_
        refine go_ialdN (j) dX5_firstFault_18 rfl (by omega) rfl ?_
        refine go_cS (as := [_, _]) dX5_firstFault_19 mX5_awaitedBehind kX5_19 tX5_awaitedBehind rfl rfl (rX5_awaitedBehind ht) rfl rfl rfl ?_
        rw [hu]
        refine go_istore_n (L' := [_, _, _]) dX5_firstFault_22 rfl rfl rfl ?_
        refine go_iload_n dX5_firstFault_23 rfl ?_
        refine go_iconst (v := (-1)) dX5_firstFault_24 (by decide) ?_
        refine go_icmp_ne (tgt := 30) dX5_firstFault_25 (by decide) (fun q25 => ?_) (fun q => absurd q (nI_nm1 (abO_le hu)))
        refine go_iinc (v := nI (j + 1)) (L' := [_, _, _]) dX5_firstFault_30 rfl (nI_1 j) rfl rfl rfl ?_
        refine go_goto (tgt := 4) dX5_firstFault_33 (by decide) ?_
        exact ih (j + 1) u (by omega) (abO_le hu) hf
  refine go_iconst (v := 0) dX5_firstFault_0 (by decide) ?_
  refine go_istore_n (L' := [_, _, _]) dX5_firstFault_1 rfl rfl rfl ?_
  refine go_iconst (v := 0) dX5_firstFault_2 (by decide) ?_
  refine go_istore_n (L' := [_, _, _]) dX5_firstFault_3 rfl rfl rfl ?_
  exact key c 0 0 (by omega) (by omega) rfl
