set_option maxRecDepth 100000 in
set_option maxHeartbeats 4000000 in
theorem rX9_told_0 {E : gE} {d : Nat} {nw i0 i1 : WorldS} {pd : PadS} {lv : LivesS} {pl : PlanS} {mt : MatS} {nt : NetS} {zbk znw zta zwe zsg zpa zev zac zwr zim zke : Nat → Int32} {zth zsi zsa zsd zfo zre zma zba zsl zwy : Int32} {zbe : Nat → Int64} : Ret E yX9_told cX9_told 2 (some .int) (d + 2) 0 0 [.ref 52, .int 0] (hp nw i0 i1 pd lv pl mt nt (zbk, znw, zth, zta, zwe, zsi, zsg, zsa, zpa, zsd, zfo, zre, zma, zba, zbe, zev, zac, zwr, zsl, zwy, zim, zke)) (dt (some (.int zsa)) (hp nw i0 i1 pd lv pl mt nt (zbk, znw, zth, zta, zwe, zsi, zsg, zsa, zpa, zsd, zfo, zre, zma, zba, zbe, zev, zac, zwr, zsl, zwy, zim, zke))) := by
  refine ret_of_go (L := [_, _]) (by decide) (Nat.le_of_ble_eq_true rfl) rfl ?_
  refine go_iload_n dX9_told_0 rfl ?_
  refine go_bipush (v := 20) dX9_told_1 (by decide) ?_
  refine go_icmp_lt (tgt := 32) dX9_told_3 (by decide) (fun q3 => ?_) (fun zq => absurd (by decide) zq)
  refine go_iload_n dX9_told_32 rfl ?_
  refine go_bipush (v := 10) dX9_told_33 (by decide) ?_
  refine go_icmp_lt (tgt := 64) dX9_told_35 (by decide) (fun q35 => ?_) (fun zq => absurd (by decide) zq)
  refine go_iload_n dX9_told_64 rfl ?_
  refine go_tableIn (x := 0) (tgt := 92) dX9_told_65 (by decide) (by decide) rfl (by decide) ?_
  refine go_aload_n dX9_told_92 rfl ?_
  refine go_get dX9_told_93 fX9_68 rfl rfl ?_
  refine go_iret dX9_told_96 rfl rfl ?_
  exact ⟨rfl, rfl⟩
set_option maxRecDepth 100000 in
set_option maxHeartbeats 4000000 in
theorem rX9_told_1 {E : gE} {d : Nat} {nw i0 i1 : WorldS} {pd : PadS} {lv : LivesS} {pl : PlanS} {mt : MatS} {nt : NetS} {zbk znw zta zwe zsg zpa zev zac zwr zim zke : Nat → Int32} {zth zsi zsa zsd zfo zre zma zba zsl zwy : Int32} {zbe : Nat → Int64} : Ret E yX9_told cX9_told 2 (some .int) (d + 2) 0 0 [.ref 52, .int 1] (hp nw i0 i1 pd lv pl mt nt (zbk, znw, zth, zta, zwe, zsi, zsg, zsa, zpa, zsd, zfo, zre, zma, zba, zbe, zev, zac, zwr, zsl, zwy, zim, zke)) (dt (some (.int zth)) (hp nw i0 i1 pd lv pl mt nt (zbk, znw, zth, zta, zwe, zsi, zsg, zsa, zpa, zsd, zfo, zre, zma, zba, zbe, zev, zac, zwr, zsl, zwy, zim, zke))) := by
  refine ret_of_go (L := [_, _]) (by decide) (Nat.le_of_ble_eq_true rfl) rfl ?_
  refine go_iload_n dX9_told_0 rfl ?_
  refine go_bipush (v := 20) dX9_told_1 (by decide) ?_
  refine go_icmp_lt (tgt := 32) dX9_told_3 (by decide) (fun q3 => ?_) (fun zq => absurd (by decide) zq)
  refine go_iload_n dX9_told_32 rfl ?_
  refine go_bipush (v := 10) dX9_told_33 (by decide) ?_
  refine go_icmp_lt (tgt := 64) dX9_told_35 (by decide) (fun q35 => ?_) (fun zq => absurd (by decide) zq)
  refine go_iload_n dX9_told_64 rfl ?_
  refine go_tableIn (x := 1) (tgt := 97) dX9_told_65 (by decide) (by decide) rfl (by decide) ?_
  refine go_aload_n dX9_told_97 rfl ?_
  refine go_get dX9_told_98 fX9_52 rfl rfl ?_
  refine go_iret dX9_told_101 rfl rfl ?_
  exact ⟨rfl, rfl⟩
set_option maxRecDepth 100000 in
set_option maxHeartbeats 4000000 in
theorem rX9_told_2 {E : gE} {d : Nat} {nw i0 i1 : WorldS} {pd : PadS} {lv : LivesS} {pl : PlanS} {mt : MatS} {nt : NetS} {zbk znw zta zwe zsg zpa zev zac zwr zim zke : Nat → Int32} {zth zsi zsa zsd zfo zre zma zba zsl zwy : Int32} {zbe : Nat → Int64} : Ret E yX9_told cX9_told 2 (some .int) (d + 2) 0 0 [.ref 52, .int 2] (hp nw i0 i1 pd lv pl mt nt (zbk, znw, zth, zta, zwe, zsi, zsg, zsa, zpa, zsd, zfo, zre, zma, zba, zbe, zev, zac, zwr, zsl, zwy, zim, zke)) (dt (some (.int (zbk 60))) (hp nw i0 i1 pd lv pl mt nt (zbk, znw, zth, zta, zwe, zsi, zsg, zsa, zpa, zsd, zfo, zre, zma, zba, zbe, zev, zac, zwr, zsl, zwy, zim, zke))) := by
  refine ret_of_go (L := [_, _]) (by decide) (Nat.le_of_ble_eq_true rfl) rfl ?_
  refine go_iload_n dX9_told_0 rfl ?_
  refine go_bipush (v := 20) dX9_told_1 (by decide) ?_
  refine go_icmp_lt (tgt := 32) dX9_told_3 (by decide) (fun q3 => ?_) (fun zq => absurd (by decide) zq)
  refine go_iload_n dX9_told_32 rfl ?_
  refine go_bipush (v := 10) dX9_told_33 (by decide) ?_
  refine go_icmp_lt (tgt := 64) dX9_told_35 (by decide) (fun q35 => ?_) (fun zq => absurd (by decide) zq)
  refine go_iload_n dX9_told_64 rfl ?_
  refine go_tableIn (x := 2) (tgt := 102) dX9_told_65 (by decide) (by decide) rfl (by decide) ?_
  refine go_aload_n dX9_told_102 rfl ?_
  refine go_get dX9_told_103 fX9_7 rfl rfl ?_
  refine go_bipush (v := nI 60) dX9_told_106 rfl ?_
  refine go_ialdN (60) dX9_told_108 rfl (by decide) rfl ?_
  refine go_iret dX9_told_109 rfl rfl ?_
  exact ⟨rfl, rfl⟩
set_option maxRecDepth 100000 in
set_option maxHeartbeats 4000000 in
theorem rX9_told_3 {E : gE} {d : Nat} {nw i0 i1 : WorldS} {pd : PadS} {lv : LivesS} {pl : PlanS} {mt : MatS} {nt : NetS} {zbk znw zta zwe zsg zpa zev zac zwr zim zke : Nat → Int32} {zth zsi zsa zsd zfo zre zma zba zsl zwy : Int32} {zbe : Nat → Int64} : Ret E yX9_told cX9_told 2 (some .int) (d + 2) 0 0 [.ref 52, .int 3] (hp nw i0 i1 pd lv pl mt nt (zbk, znw, zth, zta, zwe, zsi, zsg, zsa, zpa, zsd, zfo, zre, zma, zba, zbe, zev, zac, zwr, zsl, zwy, zim, zke)) (dt (some (.int zsi)) (hp nw i0 i1 pd lv pl mt nt (zbk, znw, zth, zta, zwe, zsi, zsg, zsa, zpa, zsd, zfo, zre, zma, zba, zbe, zev, zac, zwr, zsl, zwy, zim, zke))) := by
  refine ret_of_go (L := [_, _]) (by decide) (Nat.le_of_ble_eq_true rfl) rfl ?_
  refine go_iload_n dX9_told_0 rfl ?_
  refine go_bipush (v := 20) dX9_told_1 (by decide) ?_
  refine go_icmp_lt (tgt := 32) dX9_told_3 (by decide) (fun q3 => ?_) (fun zq => absurd (by decide) zq)
  refine go_iload_n dX9_told_32 rfl ?_
  refine go_bipush (v := 10) dX9_told_33 (by decide) ?_
  refine go_icmp_lt (tgt := 64) dX9_told_35 (by decide) (fun q35 => ?_) (fun zq => absurd (by decide) zq)
  refine go_iload_n dX9_told_64 rfl ?_
  refine go_tableOut (x := 3) (tgt := 110) dX9_told_65 (Or.inr (by decide)) (by decide) ?_
  refine go_iload_n dX9_told_110 rfl ?_
  refine go_iconst (v := 3) dX9_told_111 (by decide) ?_
  refine go_icmp_ne (tgt := 122) dX9_told_112 (by decide) (fun zq => absurd rfl zq) (fun q112 => ?_)
  refine go_aload_n dX9_told_115 rfl ?_
  refine go_get dX9_told_116 fX9_183 rfl rfl ?_
  refine go_goto (tgt := 124) dX9_told_119 (by decide) ?_
  refine go_iret dX9_told_124 rfl rfl ?_
  exact ⟨rfl, rfl⟩
theorem nI_m10 (k : Nat) : nI (k + 10) - 10 = nI k := by
  rw [show (10 : Int32) = nI 10 from rfl, pk_sub (by omega), Nat.add_sub_cancel]
theorem nI_m20 (k : Nat) : nI (k + 20) - 20 = nI k := by
  rw [show (20 : Int32) = nI 20 from rfl, pk_sub (by omega), Nat.add_sub_cancel]
set_option maxRecDepth 100000 in
set_option maxHeartbeats 4000000 in
theorem rX9_told_4 {E : gE} {d : Nat} {nw i0 i1 : WorldS} {pd : PadS} {lv : LivesS} {pl : PlanS} {mt : MatS} {nt : NetS} {zbk znw zta zwe zsg zpa zev zac zwr zim zke : Nat → Int32} {zth zsi zsa zsd zfo zre zma zba zsl zwy : Int32} {zbe : Nat → Int64} {k : Nat} (hk1 : 1 ≤ k) (hk : k ≤ 9) : Ret E yX9_told cX9_told 2 (some .int) (d + 2) 0 0 [.ref 52, .int (nI (k + 10))] (hp nw i0 i1 pd lv pl mt nt (zbk, znw, zth, zta, zwe, zsi, zsg, zsa, zpa, zsd, zfo, zre, zma, zba, zbe, zev, zac, zwr, zsl, zwy, zim, zke)) (dt (some (.int (zwe k))) (hp nw i0 i1 pd lv pl mt nt (zbk, znw, zth, zta, zwe, zsi, zsg, zsa, zpa, zsd, zfo, zre, zma, zba, zbe, zev, zac, zwr, zsl, zwy, zim, zke))) := by
  refine ret_of_go (L := [_, _]) (by decide) (Nat.le_of_ble_eq_true rfl) rfl ?_
  refine go_iload_n dX9_told_0 rfl ?_
  refine go_bipush (v := 20) dX9_told_1 (by decide) ?_
  refine go_icmp_lt (tgt := 32) dX9_told_3 (by decide) (fun q3 => ?_) (fun zq => absurd ((nIlt (b := 20) (by omega) (by decide)).mpr (by omega)) zq)
  refine go_iload_n dX9_told_32 rfl ?_
  refine go_bipush (v := 10) dX9_told_33 (by decide) ?_
  refine go_icmp_lt (tgt := 64) dX9_told_35 (by decide) (fun zq => absurd zq (fun z => absurd ((nIlt (b := 10) (by omega) (by decide)).mp z) (by omega))) (fun q35 => ?_)
  refine go_iload_n dX9_told_38 rfl ?_
  refine go_bipush (v := 11) dX9_told_39 (by decide) ?_
  refine go_bipush (v := 19) dX9_told_41 (by decide) ?_
  refine go_cS (as := [_, _, _]) dX9_told_43 mX9_in kX9_48 tX9_in rfl rfl (rX9_in) rfl rfl rfl ?_
  refine go_be_t dX9_told_46 (inB_of (k := k + 10) (a := 11) (b := 19) (by omega) (by omega) (by decide)) ?_
  refine go_aload_n dX9_told_49 rfl ?_
  refine go_get dX9_told_50 fX9_19 rfl rfl ?_
  refine go_iload_n dX9_told_53 rfl ?_
  refine go_bipush (v := 10) dX9_told_54 (by decide) ?_
  refine go_isub dX9_told_56 ?_
  refine go_topi_eq (nI_m10 k) ?_
  refine go_ialdN (k) dX9_told_57 rfl (by omega) rfl ?_
  refine go_goto (tgt := 63) dX9_told_58 (by decide) ?_
  refine go_iret dX9_told_63 rfl rfl ?_
  exact ⟨rfl, rfl⟩
set_option maxRecDepth 100000 in
set_option maxHeartbeats 4000000 in
theorem rX9_told_5 {E : gE} {d : Nat} {nw i0 i1 : WorldS} {pd : PadS} {lv : LivesS} {pl : PlanS} {mt : MatS} {nt : NetS} {zbk znw zta zwe zsg zpa zev zac zwr zim zke : Nat → Int32} {zth zsi zsa zsd zfo zre zma zba zsl zwy : Int32} {zbe : Nat → Int64} {k : Nat} (hk : k < 6) (h5 : hasB zth (nI k) = true) : Ret E yX9_told cX9_told 2 (some .int) (d + 2) 0 0 [.ref 52, .int (nI (k + 20))] (hp nw i0 i1 pd lv pl mt nt (zbk, znw, zth, zta, zwe, zsi, zsg, zsa, zpa, zsd, zfo, zre, zma, zba, zbe, zev, zac, zwr, zsl, zwy, zim, zke)) (dt (some (.int (zta k))) (hp nw i0 i1 pd lv pl mt nt (zbk, znw, zth, zta, zwe, zsi, zsg, zsa, zpa, zsd, zfo, zre, zma, zba, zbe, zev, zac, zwr, zsl, zwy, zim, zke))) := by
  refine ret_of_go (L := [_, _]) (by decide) (Nat.le_of_ble_eq_true rfl) rfl ?_
  refine go_iload_n dX9_told_0 rfl ?_
  refine go_bipush (v := 20) dX9_told_1 (by decide) ?_
  refine go_icmp_lt (tgt := 32) dX9_told_3 (by decide) (fun zq => absurd zq (fun z => absurd ((nIlt (b := 20) (by omega) (by decide)).mp z) (by omega))) (fun q3 => ?_)
  refine go_aload_n dX9_told_6 rfl ?_
  refine go_iload_n dX9_told_7 rfl ?_
  refine go_bipush (v := 20) dX9_told_8 (by decide) ?_
  refine go_isub dX9_told_10 ?_
  refine go_topi_eq (nI_m20 k) ?_
  refine go_cV (as := [_]) dX9_told_11 mX9_isThere kX9_64 iX9_isThere sX9_isThere rfl rfl rfl rfl (rX9_isThere) rfl rfl rfl ?_
  refine go_be_t dX9_told_14 h5 ?_
  refine go_aload_n dX9_told_17 rfl ?_
  refine go_get dX9_told_18 fX9_16 rfl rfl ?_
  refine go_iload_n dX9_told_21 rfl ?_
  refine go_bipush (v := 20) dX9_told_22 (by decide) ?_
  refine go_isub dX9_told_24 ?_
  refine go_topi_eq (nI_m20 k) ?_
  refine go_ialdN (k) dX9_told_25 rfl (by omega) rfl ?_
  refine go_goto (tgt := 31) dX9_told_26 (by decide) ?_
  refine go_iret dX9_told_31 rfl rfl ?_
  exact ⟨rfl, rfl⟩
set_option maxRecDepth 100000 in
set_option maxHeartbeats 4000000 in
theorem rX9_told_6 {E : gE} {d : Nat} {nw i0 i1 : WorldS} {pd : PadS} {lv : LivesS} {pl : PlanS} {mt : MatS} {nt : NetS} {zbk znw zta zwe zsg zpa zev zac zwr zim zke : Nat → Int32} {zth zsi zsa zsd zfo zre zma zba zsl zwy : Int32} {zbe : Nat → Int64} {k : Nat} (hk : k < 6) (h5 : hasB zth (nI k) = false) : Ret E yX9_told cX9_told 2 (some .int) (d + 2) 0 0 [.ref 52, .int (nI (k + 20))] (hp nw i0 i1 pd lv pl mt nt (zbk, znw, zth, zta, zwe, zsi, zsg, zsa, zpa, zsd, zfo, zre, zma, zba, zbe, zev, zac, zwr, zsl, zwy, zim, zke)) (dt (some (.int (-2))) (hp nw i0 i1 pd lv pl mt nt (zbk, znw, zth, zta, zwe, zsi, zsg, zsa, zpa, zsd, zfo, zre, zma, zba, zbe, zev, zac, zwr, zsl, zwy, zim, zke))) := by
  refine ret_of_go (L := [_, _]) (by decide) (Nat.le_of_ble_eq_true rfl) rfl ?_
  refine go_iload_n dX9_told_0 rfl ?_
  refine go_bipush (v := 20) dX9_told_1 (by decide) ?_
  refine go_icmp_lt (tgt := 32) dX9_told_3 (by decide) (fun zq => absurd zq (fun z => absurd ((nIlt (b := 20) (by omega) (by decide)).mp z) (by omega))) (fun q3 => ?_)
  refine go_aload_n dX9_told_6 rfl ?_
  refine go_iload_n dX9_told_7 rfl ?_
  refine go_bipush (v := 20) dX9_told_8 (by decide) ?_
  refine go_isub dX9_told_10 ?_
  refine go_topi_eq (nI_m20 k) ?_
  refine go_cV (as := [_]) dX9_told_11 mX9_isThere kX9_64 iX9_isThere sX9_isThere rfl rfl rfl rfl (rX9_isThere) rfl rfl rfl ?_
  refine go_be_f (tgt := 29) dX9_told_14 (by decide) h5 ?_
  refine go_bipush (v := (-2)) dX9_told_29 (by decide) ?_
  refine go_iret dX9_told_31 rfl rfl ?_
  exact ⟨rfl, rfl⟩
theorem has_far {t w : Int32} (h : ¬ w < 20) (h5 : isInB w 20 25 = false) : hasB t (w - 20) = false := by
  have h1 : isInB (w - 20) 0 5 = false := by
    simp only [isInB, Bool.and_eq_false_iff, decide_eq_false_iff_not, Int32.le_iff_toInt_le] at h5 ⊢
    rw [Int32.lt_iff_toInt_lt] at h
    have e20 : (20 : Int32).toInt = 20 := rfl
    have e25 : (25 : Int32).toInt = 25 := rfl
    have e0 : (0 : Int32).toInt = 0 := rfl
    have e5 : (5 : Int32).toInt = 5 := rfl
    have hm := Int32.toInt_lt w
    have hl := Int32.le_toInt w
    have e : (w - 20).toInt = w.toInt - 20 := i_sub (by omega) (by omega)
    omega
  rw [hasB, h1, Bool.false_and]
theorem tab_out {w : Int32} (h0 : ¬ w = 0) (h1 : ¬ w = 1) (h2 : ¬ w = 2) : w.toInt < 0 ∨ 2 < w.toInt := by
  rw [← Int32.toInt_inj] at h0 h1 h2
  have e0 : (0 : Int32).toInt = 0 := rfl
  have e1 : (1 : Int32).toInt = 1 := rfl
  have e2 : (2 : Int32).toInt = 2 := rfl
  omega
set_option maxRecDepth 100000 in
set_option maxHeartbeats 4000000 in
theorem rX9_told_7 {E : gE} {d : Nat} {nw i0 i1 : WorldS} {pd : PadS} {lv : LivesS} {pl : PlanS} {mt : MatS} {nt : NetS} {zbk znw zta zwe zsg zpa zev zac zwr zim zke : Nat → Int32} {zth zsi zsa zsd zfo zre zma zba zsl zwy : Int32} {zbe : Nat → Int64} {w : Int32} (h0 : ¬ w = 0) (h1 : ¬ w = 1) (h2 : ¬ w = 2) (h3 : ¬ w = 3) (h4 : isInB w 11 19 = false) (h5 : isInB w 20 25 = false) : Ret E yX9_told cX9_told 2 (some .int) (d + 2) 0 0 [.ref 52, .int w] (hp nw i0 i1 pd lv pl mt nt (zbk, znw, zth, zta, zwe, zsi, zsg, zsa, zpa, zsd, zfo, zre, zma, zba, zbe, zev, zac, zwr, zsl, zwy, zim, zke)) (dt (some (.int (-2))) (hp nw i0 i1 pd lv pl mt nt (zbk, znw, zth, zta, zwe, zsi, zsg, zsa, zpa, zsd, zfo, zre, zma, zba, zbe, zev, zac, zwr, zsl, zwy, zim, zke))) := by
  refine ret_of_go (L := [_, _]) (by decide) (Nat.le_of_ble_eq_true rfl) rfl ?_
  refine go_iload_n dX9_told_0 rfl ?_
  refine go_bipush (v := 20) dX9_told_1 (by decide) ?_
  refine go_icmp_lt (tgt := 32) dX9_told_3 (by decide) (fun q3 => ?_) (fun q3 => ?_)
  · refine go_iload_n dX9_told_32 rfl ?_
    refine go_bipush (v := 10) dX9_told_33 (by decide) ?_
    refine go_icmp_lt (tgt := 64) dX9_told_35 (by decide) (fun q35 => ?_) (fun q35 => ?_)
    · refine go_iload_n dX9_told_64 rfl ?_
      refine go_tableOut (tgt := 110) dX9_told_65 (tab_out h0 h1 h2) (by decide) ?_
      refine go_iload_n dX9_told_110 rfl ?_
      refine go_iconst (v := 3) dX9_told_111 (by decide) ?_
      refine go_icmp_ne (tgt := 122) dX9_told_112 (by decide) (fun q112 => ?_) (fun zq => absurd zq h3)
      refine go_bipush (v := (-2)) dX9_told_122 (by decide) ?_
      refine go_iret dX9_told_124 rfl rfl ?_
      exact ⟨rfl, rfl⟩
    · refine go_iload_n dX9_told_38 rfl ?_
      refine go_bipush (v := 11) dX9_told_39 (by decide) ?_
      refine go_bipush (v := 19) dX9_told_41 (by decide) ?_
      refine go_cS (as := [_, _, _]) dX9_told_43 mX9_in kX9_48 tX9_in rfl rfl (rX9_in) rfl rfl rfl ?_
      refine go_be_f (tgt := 61) dX9_told_46 (by decide) h4 ?_
      refine go_bipush (v := (-2)) dX9_told_61 (by decide) ?_
      refine go_iret dX9_told_63 rfl rfl ?_
      exact ⟨rfl, rfl⟩
  · refine go_aload_n dX9_told_6 rfl ?_
    refine go_iload_n dX9_told_7 rfl ?_
    refine go_bipush (v := 20) dX9_told_8 (by decide) ?_
    refine go_isub dX9_told_10 ?_
    refine go_cV (as := [_]) dX9_told_11 mX9_isThere kX9_64 iX9_isThere sX9_isThere rfl rfl rfl rfl (rX9_isThere) rfl rfl rfl ?_
    refine go_be_f (tgt := 29) dX9_told_14 (by decide) (has_far q3 h5) ?_
    refine go_bipush (v := (-2)) dX9_told_29 (by decide) ?_
    refine go_iret dX9_told_31 rfl rfl ?_
    exact ⟨rfl, rfl⟩
