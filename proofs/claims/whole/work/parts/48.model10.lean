/-- the least worth to sign, w on, of the worths that are left -/
def loR (V : Nat → Int64) (one : Int64) (a b : Nat) : Nat → Nat → Int32
  | 0, _ => -6
  | n + 1, w => if V b ≤ (nI w).toInt64 * one + V a then nI w else loR V one a b n (w + 1)
theorem lg_nlt {x y : Int64} : lg_cmp x y < 0 ↔ ¬ y ≤ x := lg_lt
set_option maxRecDepth 100000 in
set_option maxHeartbeats 4000000 in
theorem rX9_leastOf_0a {E : gE} {d : Nat} {nw i0 i1 : WorldS} {pd : PadS} {lv : LivesS} {pl : PlanS} {mt : MatS} {nt : NetS} {zbk znw zta zwe zsg zpa zev zac zwr zim zke : Nat → Int32} {zth zsi zsa zsd zfo zre zma zba zsl zwy : Int32} {zbe : Nat → Int64} {q : Int32} : Ret E yX9_leastOf cX9_leastOf 6 (some .int) (d + 1) 0 0 [.ref 52, .int 0, .int q] (hp nw i0 i1 pd lv pl mt nt (zbk, znw, zth, zta, zwe, zsi, zsg, zsa, zpa, zsd, zfo, zre, zma, zba, zbe, zev, zac, zwr, zsl, zwy, zim, zke)) (dt (some (.int (-6))) (hp nw i0 i1 pd lv pl mt nt (zbk, znw, zth, zta, zwe, zsi, zsg, zsa, zpa, zsd, zfo, zre, zma, zba, zbe, zev, zac, zwr, zsl, zwy, zim, zke))) := by
  refine ret_of_go (L := [_, _, _, _, _, _]) (by decide) (Nat.le_of_ble_eq_true rfl) rfl ?_
  refine go_iload_n dX9_leastOf_0 rfl ?_
  refine go_if_eq (tgt := 8) dX9_leastOf_1 (by decide) (fun q1 => ?_) (fun zq => absurd rfl zq)
  refine go_bipush (v := (-6)) dX9_leastOf_8 (by decide) ?_
  refine go_iret dX9_leastOf_10 rfl rfl ?_
  exact ⟨rfl, rfl⟩
set_option maxRecDepth 100000 in
set_option maxHeartbeats 4000000 in
theorem rX9_leastOf_0b {E : gE} {d : Nat} {nw i0 i1 : WorldS} {pd : PadS} {lv : LivesS} {pl : PlanS} {mt : MatS} {nt : NetS} {zbk znw zta zwe zsg zpa zev zac zwr zim zke : Nat → Int32} {zth zsi zsa zsd zfo zre zma zba zsl zwy : Int32} {zbe : Nat → Int64} {p : Int32} : Ret E yX9_leastOf cX9_leastOf 6 (some .int) (d + 1) 0 0 [.ref 52, .int p, .int 0] (hp nw i0 i1 pd lv pl mt nt (zbk, znw, zth, zta, zwe, zsi, zsg, zsa, zpa, zsd, zfo, zre, zma, zba, zbe, zev, zac, zwr, zsl, zwy, zim, zke)) (dt (some (.int (-6))) (hp nw i0 i1 pd lv pl mt nt (zbk, znw, zth, zta, zwe, zsi, zsg, zsa, zpa, zsd, zfo, zre, zma, zba, zbe, zev, zac, zwr, zsl, zwy, zim, zke))) := by
  refine ret_of_go (L := [_, _, _, _, _, _]) (by decide) (Nat.le_of_ble_eq_true rfl) rfl ?_
  refine go_iload_n dX9_leastOf_0 rfl ?_
  refine go_if_eq (tgt := 8) dX9_leastOf_1 (by decide) (fun q1 => ?_) (fun q1 => ?_)
  · refine go_bipush (v := (-6)) dX9_leastOf_8 (by decide) ?_
    refine go_iret dX9_leastOf_10 rfl rfl ?_
    exact ⟨rfl, rfl⟩
  · refine go_iload_n dX9_leastOf_4 rfl ?_
    refine go_if_ne (tgt := 11) dX9_leastOf_5 (by decide) (fun zq => absurd rfl zq) (fun q5 => ?_)
    refine go_bipush (v := (-6)) dX9_leastOf_8 (by decide) ?_
    refine go_iret dX9_leastOf_10 rfl rfl ?_
    exact ⟨rfl, rfl⟩
set_option maxRecDepth 100000 in
set_option maxHeartbeats 4000000 in
theorem rX9_leastOf_1 {E : gE} {d : Nat} {nw i0 i1 : WorldS} {pd : PadS} {lv : LivesS} {pl : PlanS} {mt : MatS} {nt : NetS} {zbk znw zta zwe zsg zpa zev zac zwr zim zke : Nat → Int32} {zth zsi zsa zsd zfo zre zma zba zsl zwy : Int32} {zbe : Nat → Int64} {p q : Nat} (hp9 : p < 9) (hq8 : q < 8) : Ret E yX9_leastOf cX9_leastOf 6 (some .int) (d + 1) 0 0 [.ref 52, .int (nI (p + 1)), .int (nI (q + 1))] (hp nw i0 i1 pd lv pl mt nt (zbk, znw, zth, zta, zwe, zsi, zsg, zsa, zpa, zsd, zfo, zre, zma, zba, zbe, zev, zac, zwr, zsl, zwy, zim, zke)) (dt (some (.int (loR zbe (pwL (wsumF zwe).toInt64 q) (11 * p + q) (11 * (p + 1) + q) 9 1))) (hp nw i0 i1 pd lv pl mt nt (zbk, znw, zth, zta, zwe, zsi, zsg, zsa, zpa, zsd, zfo, zre, zma, zba, zbe, zev, zac, zwr, zsl, zwy, zim, zke))) := by
  refine ret_of_go (L := [_, _, _, _, _, _]) (by decide) (Nat.le_of_ble_eq_true rfl) rfl ?_
  have key : ∀ (n w : Nat), w + n = 10 → loR zbe (pwL (wsumF zwe).toInt64 q) (11 * p + q) (11 * (p + 1) + q) 9 1 = loR zbe (pwL (wsumF zwe).toInt64 q) (11 * p + q) (11 * (p + 1) + q) n w → Go E yX9_leastOf cX9_leastOf 6 (some .int) (d + 1) 0 0 0 0 26 [some (.ref 52), some (.int (nI (p + 1))), some (.int (nI (q + 1))), some (.long (pwL (wsumF zwe).toInt64 q)), none, some (.int (nI w))] [] (hp nw i0 i1 pd lv pl mt nt (zbk, znw, zth, zta, zwe, zsi, zsg, zsa, zpa, zsd, zfo, zre, zma, zba, zbe, zev, zac, zwr, zsl, zwy, zim, zke)) (dt (some (.int (loR zbe (pwL (wsumF zwe).toInt64 q) (11 * p + q) (11 * (p + 1) + q) 9 1))) (hp nw i0 i1 pd lv pl mt nt (zbk, znw, zth, zta, zwe, zsi, zsg, zsa, zpa, zsd, zfo, zre, zma, zba, zbe, zev, zac, zwr, zsl, zwy, zim, zke))) := by
    intro n
    induction n with
    | zero =>
      intro w hw he
      obtain rfl : w = 10 := by omega
      refine go_iload dX9_leastOf_26 rfl ?_
      refine go_bipush (v := 10) dX9_leastOf_28 (by decide) ?_
      refine go_icmp_ge (tgt := 80) dX9_leastOf_30 (by decide) (fun q30 => ?_) (fun zq => absurd (nI_le (a := 10) (b := 10) (by decide) (by decide)) zq)
      refine go_bipush (v := (-6)) dX9_leastOf_80 (by decide) ?_
      refine go_iret dX9_leastOf_82 rfl rfl ?_
      exact ⟨by rw [he]; rfl, rfl⟩
    | succ n ih =>
      intro w hw he
      refine go_iload dX9_leastOf_26 rfl ?_
      refine go_bipush (v := 10) dX9_leastOf_28 (by decide) ?_
      refine go_icmp_ge (tgt := 80) dX9_leastOf_30 (by decide) (fun zq => absurd zq (nI_ge (a := w) (b := 10) (by omega) (by decide))) (fun q30 => ?_)
      refine go_iload dX9_leastOf_33 rfl ?_
      refine go_i2l dX9_leastOf_35 ?_
      refine go_lload_n dX9_leastOf_36 rfl ?_
      refine go_lmul dX9_leastOf_37 ?_
      refine go_aload_n dX9_leastOf_38 rfl ?_
      refine go_get dX9_leastOf_39 fX9_28 rfl rfl ?_
      refine go_bipush (v := 11) dX9_leastOf_42 (by decide) ?_
      refine go_iload_n dX9_leastOf_44 rfl ?_
      refine go_iconst (v := 1) dX9_leastOf_45 (by decide) ?_
      refine go_isub dX9_leastOf_46 ?_
      refine go_imul dX9_leastOf_47 ?_
      refine go_iload_n dX9_leastOf_48 rfl ?_
      refine go_iadd dX9_leastOf_49 ?_
      refine go_iconst (v := 1) dX9_leastOf_50 (by decide) ?_
      refine go_isub dX9_leastOf_51 ?_
      refine go_topi_eq (nb1 p q) ?_
      refine go_laldN (11 * p + q) dX9_leastOf_52 rfl (by omega) rfl ?_
      refine go_ladd dX9_leastOf_53 ?_
      refine go_aload_n dX9_leastOf_54 rfl ?_
      refine go_get dX9_leastOf_55 fX9_28 rfl rfl ?_
      refine go_bipush (v := 11) dX9_leastOf_58 (by decide) ?_
      refine go_iload_n dX9_leastOf_60 rfl ?_
      refine go_imul dX9_leastOf_61 ?_
      refine go_iload_n dX9_leastOf_62 rfl ?_
      refine go_iadd dX9_leastOf_63 ?_
      refine go_iconst (v := 1) dX9_leastOf_64 (by decide) ?_
      refine go_isub dX9_leastOf_65 ?_
      refine go_topi_eq (nb2 (p + 1) q) ?_
      refine go_laldN (11 * (p + 1) + q) dX9_leastOf_66 rfl (by omega) rfl ?_
      refine go_lcmp dX9_leastOf_67 ?_
      refine go_if_lt (tgt := 74) dX9_leastOf_68 (by decide) (fun q68 => ?_) (fun q68 => ?_)
      · refine go_iinc (v := nI (w + 1)) (L' := [_, _, _, _, _, _]) dX9_leastOf_74 rfl (nI_1 w) rfl rfl rfl ?_
        refine go_goto (tgt := 26) dX9_leastOf_77 (by decide) ?_
        exact ih (w + 1) (by omega) (by rw [he, loR, if_neg (lg_lt.mp q68)])
      · refine go_iload dX9_leastOf_71 rfl ?_
        refine go_iret dX9_leastOf_73 rfl rfl ?_
        exact ⟨by rw [he, loR, if_pos (Decidable.byContradiction fun z => q68 (lg_lt.mpr z))], rfl⟩
  refine go_iload_n dX9_leastOf_0 rfl ?_
  refine go_if_eq (tgt := 8) dX9_leastOf_1 (by decide) (fun zq => absurd zq (nI_nz9 (by omega))) (fun q1 => ?_)
  refine go_iload_n dX9_leastOf_4 rfl ?_
  refine go_if_ne (tgt := 11) dX9_leastOf_5 (by decide) (fun q5 => ?_) (fun zq => absurd zq (nI_nz9 (by omega)))
  refine go_aload_n dX9_leastOf_11 rfl ?_
  refine go_cV (as := []) dX9_leastOf_12 mX9_weights kX9_135 iX9_weights sX9_weights rfl rfl rfl rfl (rX9_weights) rfl rfl rfl ?_
  refine go_i2l dX9_leastOf_15 ?_
  refine go_iload_n dX9_leastOf_16 rfl ?_
  refine go_iconst (v := 1) dX9_leastOf_17 (by decide) ?_
  refine go_isub dX9_leastOf_18 ?_
  refine go_topi_eq (x := nI q) (nI_pred q) ?_
  refine go_cS (as := [_, _]) dX9_leastOf_19 mX9_power kX9_140 tX9_power rfl rfl (rX9_power (n := q) (by omega)) rfl rfl rfl ?_
  refine go_lstore_n (L' := [_, _, _, _, _, _]) dX9_leastOf_22 rfl rfl rfl ?_
  refine go_iconst (v := 1) dX9_leastOf_23 (by decide) ?_
  refine go_istore (L' := [_, _, _, _, _, _]) dX9_leastOf_24 rfl rfl rfl ?_
  exact key 9 1 rfl rfl
set_option maxRecDepth 100000 in
set_option maxHeartbeats 4000000 in
theorem rX9_best_1 {E : gE} {d : Nat} {nw i0 i1 : WorldS} {pd : PadS} {lv : LivesS} {pl : PlanS} {mt : MatS} {nt : NetS} {zbk znw zta zwe zsg zpa zev zac zwr zim zke : Nat → Int32} {zth zsi zsa zsd zfo zre zma zba zsl zwy : Int32} {zbe : Nat → Int64} {n q w : Int32} (h1 : isInB n 0 9 = false) : Ret E yX9_best cX9_best 4 (some .long) (d + 2) 0 0 [.ref 52, .int n, .int q, .int w] (hp nw i0 i1 pd lv pl mt nt (zbk, znw, zth, zta, zwe, zsi, zsg, zsa, zpa, zsd, zfo, zre, zma, zba, zbe, zev, zac, zwr, zsl, zwy, zim, zke)) (dt (some (.long (-1000000000000000002))) (hp nw i0 i1 pd lv pl mt nt (zbk, znw, zth, zta, zwe, zsi, zsg, zsa, zpa, zsd, zfo, zre, zma, zba, zbe, zev, zac, zwr, zsl, zwy, zim, zke))) := by
  refine ret_of_go (L := [_, _, _, _]) (by decide) (Nat.le_of_ble_eq_true rfl) rfl ?_
  refine go_iload_n dX9_best_0 rfl ?_
  refine go_iconst (v := 0) dX9_best_1 (by decide) ?_
  refine go_bipush (v := 9) dX9_best_2 (by decide) ?_
  refine go_cS (as := [_, _, _]) dX9_best_4 mX9_in kX9_48 tX9_in rfl rfl (rX9_in) rfl rfl rfl ?_
  refine go_be_f (tgt := 29) dX9_best_7 (by decide) h1 ?_
  refine go_ldc2_w dX9_best_29 nX9_144 ?_
  refine go_lret dX9_best_32 rfl rfl ?_
  exact ⟨rfl, rfl⟩
set_option maxRecDepth 100000 in
set_option maxHeartbeats 4000000 in
theorem rX9_best_2 {E : gE} {d : Nat} {nw i0 i1 : WorldS} {pd : PadS} {lv : LivesS} {pl : PlanS} {mt : MatS} {nt : NetS} {zbk znw zta zwe zsg zpa zev zac zwr zim zke : Nat → Int32} {zth zsi zsa zsd zfo zre zma zba zsl zwy : Int32} {zbe : Nat → Int64} {n q w : Int32} (h1 : isInB n 0 9 = true) (h2 : isInB q 0 8 = false) : Ret E yX9_best cX9_best 4 (some .long) (d + 2) 0 0 [.ref 52, .int n, .int q, .int w] (hp nw i0 i1 pd lv pl mt nt (zbk, znw, zth, zta, zwe, zsi, zsg, zsa, zpa, zsd, zfo, zre, zma, zba, zbe, zev, zac, zwr, zsl, zwy, zim, zke)) (dt (some (.long (-1000000000000000002))) (hp nw i0 i1 pd lv pl mt nt (zbk, znw, zth, zta, zwe, zsi, zsg, zsa, zpa, zsd, zfo, zre, zma, zba, zbe, zev, zac, zwr, zsl, zwy, zim, zke))) := by
  refine ret_of_go (L := [_, _, _, _]) (by decide) (Nat.le_of_ble_eq_true rfl) rfl ?_
  refine go_iload_n dX9_best_0 rfl ?_
  refine go_iconst (v := 0) dX9_best_1 (by decide) ?_
  refine go_bipush (v := 9) dX9_best_2 (by decide) ?_
  refine go_cS (as := [_, _, _]) dX9_best_4 mX9_in kX9_48 tX9_in rfl rfl (rX9_in) rfl rfl rfl ?_
  refine go_be_t dX9_best_7 h1 ?_
  refine go_iload_n dX9_best_10 rfl ?_
  refine go_iconst (v := 0) dX9_best_11 (by decide) ?_
  refine go_bipush (v := 8) dX9_best_12 (by decide) ?_
  refine go_cS (as := [_, _, _]) dX9_best_14 mX9_in kX9_48 tX9_in rfl rfl (rX9_in) rfl rfl rfl ?_
  refine go_be_f (tgt := 29) dX9_best_17 (by decide) h2 ?_
  refine go_ldc2_w dX9_best_29 nX9_144 ?_
  refine go_lret dX9_best_32 rfl rfl ?_
  exact ⟨rfl, rfl⟩
set_option maxRecDepth 100000 in
set_option maxHeartbeats 4000000 in
theorem rX9_best_3 {E : gE} {d : Nat} {nw i0 i1 : WorldS} {pd : PadS} {lv : LivesS} {pl : PlanS} {mt : MatS} {nt : NetS} {zbk znw zta zwe zsg zpa zev zac zwr zim zke : Nat → Int32} {zth zsi zsa zsd zfo zre zma zba zsl zwy : Int32} {zbe : Nat → Int64} {n q w : Int32} (h1 : isInB n 0 9 = true) (h2 : isInB q 0 8 = true) (h3 : isInB w 0 1 = false) : Ret E yX9_best cX9_best 4 (some .long) (d + 2) 0 0 [.ref 52, .int n, .int q, .int w] (hp nw i0 i1 pd lv pl mt nt (zbk, znw, zth, zta, zwe, zsi, zsg, zsa, zpa, zsd, zfo, zre, zma, zba, zbe, zev, zac, zwr, zsl, zwy, zim, zke)) (dt (some (.long (-1000000000000000002))) (hp nw i0 i1 pd lv pl mt nt (zbk, znw, zth, zta, zwe, zsi, zsg, zsa, zpa, zsd, zfo, zre, zma, zba, zbe, zev, zac, zwr, zsl, zwy, zim, zke))) := by
  refine ret_of_go (L := [_, _, _, _]) (by decide) (Nat.le_of_ble_eq_true rfl) rfl ?_
  refine go_iload_n dX9_best_0 rfl ?_
  refine go_iconst (v := 0) dX9_best_1 (by decide) ?_
  refine go_bipush (v := 9) dX9_best_2 (by decide) ?_
  refine go_cS (as := [_, _, _]) dX9_best_4 mX9_in kX9_48 tX9_in rfl rfl (rX9_in) rfl rfl rfl ?_
  refine go_be_t dX9_best_7 h1 ?_
  refine go_iload_n dX9_best_10 rfl ?_
  refine go_iconst (v := 0) dX9_best_11 (by decide) ?_
  refine go_bipush (v := 8) dX9_best_12 (by decide) ?_
  refine go_cS (as := [_, _, _]) dX9_best_14 mX9_in kX9_48 tX9_in rfl rfl (rX9_in) rfl rfl rfl ?_
  refine go_be_t dX9_best_17 h2 ?_
  refine go_iload_n dX9_best_20 rfl ?_
  refine go_iconst (v := 0) dX9_best_21 (by decide) ?_
  refine go_iconst (v := 1) dX9_best_22 (by decide) ?_
  refine go_cS (as := [_, _, _]) dX9_best_23 mX9_in kX9_48 tX9_in rfl rfl (rX9_in) rfl rfl rfl ?_
  refine go_bn_f dX9_best_26 h3 ?_
  refine go_ldc2_w dX9_best_29 nX9_144 ?_
  refine go_lret dX9_best_32 rfl rfl ?_
  exact ⟨rfl, rfl⟩
set_option maxRecDepth 100000 in
set_option maxHeartbeats 4000000 in
theorem rX9_best_4 {E : gE} {d : Nat} {nw i0 i1 : WorldS} {pd : PadS} {lv : LivesS} {pl : PlanS} {mt : MatS} {nt : NetS} {zbk znw zta zwe zsg zpa zev zac zwr zim zke : Nat → Int32} {zth zsi zsa zsd zfo zre zma zba zsl zwy : Int32} {zbe : Nat → Int64} {n q : Nat} {w : Int32} (hn : n ≤ 9) (hq : q ≤ 8) (h3 : isInB w 0 1 = true) {g : Int64} {n0 : Nat} (hgd : gdR n0 ((lbM zwe (wsumF zwe).toInt64 zbe 8) (11 * n + q)) (pwL (wsumF zwe).toInt64 q) = some g) (hg : ¬ g = 0) : Ret E yX9_best cX9_best 4 (some .long) (d + 2) 0 0 [.ref 52, .int (nI n), .int (nI q), .int w] (hp nw i0 i1 pd lv pl mt nt (zbk, znw, zth, zta, zwe, zsi, zsg, zsa, zpa, zsd, zfo, zre, zma, zba, zbe, zev, zac, zwr, zsl, zwy, zim, zke)) (dt (some (.long (if w = 0 then ((lbM zwe (wsumF zwe).toInt64 zbe 8) (11 * n + q)) / g else (pwL (wsumF zwe).toInt64 q) / g))) (hp nw i0 i1 pd lv pl mt nt (zbk, znw, zth, zta, zwe, zsi, zsg, zsa, zpa, zsd, zfo, zre, zma, zba, (lbM zwe (wsumF zwe).toInt64 zbe 8), zev, zac, zwr, zsl, zwy, zim, zke))) := by
  refine ret_of_go (L := [_, _, _, _]) (by decide) (Nat.le_of_ble_eq_true rfl) rfl ?_
  refine go_iload_n dX9_best_0 rfl ?_
  refine go_iconst (v := 0) dX9_best_1 (by decide) ?_
  refine go_bipush (v := 9) dX9_best_2 (by decide) ?_
  refine go_cS (as := [_, _, _]) dX9_best_4 mX9_in kX9_48 tX9_in rfl rfl (rX9_in) rfl rfl rfl ?_
  refine go_be_t dX9_best_7 (inB_of (k := n) (a := 0) (b := 9) (by omega) (by omega) (by decide)) ?_
  refine go_iload_n dX9_best_10 rfl ?_
  refine go_iconst (v := 0) dX9_best_11 (by decide) ?_
  refine go_bipush (v := 8) dX9_best_12 (by decide) ?_
  refine go_cS (as := [_, _, _]) dX9_best_14 mX9_in kX9_48 tX9_in rfl rfl (rX9_in) rfl rfl rfl ?_
  refine go_be_t dX9_best_17 (inB_of (k := q) (a := 0) (b := 8) (by omega) (by omega) (by decide)) ?_
  refine go_iload_n dX9_best_20 rfl ?_
  refine go_iconst (v := 0) dX9_best_21 (by decide) ?_
  refine go_iconst (v := 1) dX9_best_22 (by decide) ?_
  refine go_cS (as := [_, _, _]) dX9_best_23 mX9_in kX9_48 tX9_in rfl rfl (rX9_in) rfl rfl rfl ?_
  refine go_bn_t (tgt := 33) dX9_best_26 (by decide) h3 ?_
  refine go_aload_n dX9_best_33 rfl ?_
  refine go_cVv (as := []) dX9_best_34 mX9_layBest kX9_146 iX9_layBest sX9_layBest rfl rfl rfl rfl (rX9_layBest (m := (zbk, znw, zth, zta, zwe, zsi, zsg, zsa, zpa, zsd, zfo, zre, zma, zba, zbe, zev, zac, zwr, zsl, zwy, zim, zke))) rfl rfl rfl ?_
  refine go_aload_n dX9_best_37 rfl ?_
  refine go_get dX9_best_38 fX9_28 rfl rfl ?_
  refine go_bipush (v := 11) dX9_best_41 (by decide) ?_
  refine go_iload_n dX9_best_43 rfl ?_
  refine go_imul dX9_best_44 ?_
  refine go_iload_n dX9_best_45 rfl ?_
  refine go_iadd dX9_best_46 ?_
  refine go_topi_eq (nb3 n q) ?_
  refine go_laldN (11 * n + q) dX9_best_47 rfl (by omega) rfl ?_
  refine go_aload_n dX9_best_48 rfl ?_
  refine go_cV (as := []) dX9_best_49 mX9_weights kX9_135 iX9_weights sX9_weights rfl rfl rfl rfl (rX9_weights) rfl rfl rfl ?_
  refine go_i2l dX9_best_52 ?_
  refine go_iload_n dX9_best_53 rfl ?_
  refine go_cS (as := [_, _]) dX9_best_54 mX9_power kX9_140 tX9_power rfl rfl (rX9_power (n := q) (by omega)) rfl rfl rfl ?_
  refine go_iload_n dX9_best_57 rfl ?_
  refine go_cS (as := [_, _, _]) dX9_best_58 mX9_part kX9_149 tX9_part rfl rfl (rX9_part hgd hg) rfl rfl rfl ?_
  refine go_lret dX9_best_61 rfl rfl ?_
  exact ⟨rfl, rfl⟩
set_option maxRecDepth 100000 in
set_option maxHeartbeats 4000000 in
theorem rX9_price_1 {E : gE} {d : Nat} {nw i0 i1 : WorldS} {pd : PadS} {lv : LivesS} {pl : PlanS} {mt : MatS} {nt : NetS} {zbk znw zta zwe zsg zpa zev zac zwr zim zke : Nat → Int32} {zth zsi zsa zsd zfo zre zma zba zsl zwy : Int32} {zbe : Nat → Int64} {n q w : Int32} (h1 : isInB n 0 8 = false) : Ret E yX9_price cX9_price 4 (some .long) (d + 2) 0 0 [.ref 52, .int n, .int q, .int w] (hp nw i0 i1 pd lv pl mt nt (zbk, znw, zth, zta, zwe, zsi, zsg, zsa, zpa, zsd, zfo, zre, zma, zba, zbe, zev, zac, zwr, zsl, zwy, zim, zke)) (dt (some (.long (-1000000000000000002))) (hp nw i0 i1 pd lv pl mt nt (zbk, znw, zth, zta, zwe, zsi, zsg, zsa, zpa, zsd, zfo, zre, zma, zba, zbe, zev, zac, zwr, zsl, zwy, zim, zke))) := by
  refine ret_of_go (L := [_, _, _, _]) (by decide) (Nat.le_of_ble_eq_true rfl) rfl ?_
  refine go_iload_n dX9_price_0 rfl ?_
  refine go_iconst (v := 0) dX9_price_1 (by decide) ?_
  refine go_bipush (v := 8) dX9_price_2 (by decide) ?_
  refine go_cS (as := [_, _, _]) dX9_price_4 mX9_in kX9_48 tX9_in rfl rfl (rX9_in) rfl rfl rfl ?_
  refine go_be_f (tgt := 29) dX9_price_7 (by decide) h1 ?_
  refine go_ldc2_w dX9_price_29 nX9_144 ?_
  refine go_lret dX9_price_32 rfl rfl ?_
  exact ⟨rfl, rfl⟩
set_option maxRecDepth 100000 in
set_option maxHeartbeats 4000000 in
theorem rX9_price_2 {E : gE} {d : Nat} {nw i0 i1 : WorldS} {pd : PadS} {lv : LivesS} {pl : PlanS} {mt : MatS} {nt : NetS} {zbk znw zta zwe zsg zpa zev zac zwr zim zke : Nat → Int32} {zth zsi zsa zsd zfo zre zma zba zsl zwy : Int32} {zbe : Nat → Int64} {n q w : Int32} (h1 : isInB n 0 8 = true) (h2 : isInB q 0 8 = false) : Ret E yX9_price cX9_price 4 (some .long) (d + 2) 0 0 [.ref 52, .int n, .int q, .int w] (hp nw i0 i1 pd lv pl mt nt (zbk, znw, zth, zta, zwe, zsi, zsg, zsa, zpa, zsd, zfo, zre, zma, zba, zbe, zev, zac, zwr, zsl, zwy, zim, zke)) (dt (some (.long (-1000000000000000002))) (hp nw i0 i1 pd lv pl mt nt (zbk, znw, zth, zta, zwe, zsi, zsg, zsa, zpa, zsd, zfo, zre, zma, zba, zbe, zev, zac, zwr, zsl, zwy, zim, zke))) := by
  refine ret_of_go (L := [_, _, _, _]) (by decide) (Nat.le_of_ble_eq_true rfl) rfl ?_
  refine go_iload_n dX9_price_0 rfl ?_
  refine go_iconst (v := 0) dX9_price_1 (by decide) ?_
  refine go_bipush (v := 8) dX9_price_2 (by decide) ?_
  refine go_cS (as := [_, _, _]) dX9_price_4 mX9_in kX9_48 tX9_in rfl rfl (rX9_in) rfl rfl rfl ?_
  refine go_be_t dX9_price_7 h1 ?_
  refine go_iload_n dX9_price_10 rfl ?_
  refine go_iconst (v := 0) dX9_price_11 (by decide) ?_
  refine go_bipush (v := 8) dX9_price_12 (by decide) ?_
  refine go_cS (as := [_, _, _]) dX9_price_14 mX9_in kX9_48 tX9_in rfl rfl (rX9_in) rfl rfl rfl ?_
  refine go_be_f (tgt := 29) dX9_price_17 (by decide) h2 ?_
  refine go_ldc2_w dX9_price_29 nX9_144 ?_
  refine go_lret dX9_price_32 rfl rfl ?_
  exact ⟨rfl, rfl⟩
set_option maxRecDepth 100000 in
set_option maxHeartbeats 4000000 in
theorem rX9_price_3 {E : gE} {d : Nat} {nw i0 i1 : WorldS} {pd : PadS} {lv : LivesS} {pl : PlanS} {mt : MatS} {nt : NetS} {zbk znw zta zwe zsg zpa zev zac zwr zim zke : Nat → Int32} {zth zsi zsa zsd zfo zre zma zba zsl zwy : Int32} {zbe : Nat → Int64} {n q w : Int32} (h1 : isInB n 0 8 = true) (h2 : isInB q 0 8 = true) (h3 : isInB w 0 1 = false) : Ret E yX9_price cX9_price 4 (some .long) (d + 2) 0 0 [.ref 52, .int n, .int q, .int w] (hp nw i0 i1 pd lv pl mt nt (zbk, znw, zth, zta, zwe, zsi, zsg, zsa, zpa, zsd, zfo, zre, zma, zba, zbe, zev, zac, zwr, zsl, zwy, zim, zke)) (dt (some (.long (-1000000000000000002))) (hp nw i0 i1 pd lv pl mt nt (zbk, znw, zth, zta, zwe, zsi, zsg, zsa, zpa, zsd, zfo, zre, zma, zba, zbe, zev, zac, zwr, zsl, zwy, zim, zke))) := by
  refine ret_of_go (L := [_, _, _, _]) (by decide) (Nat.le_of_ble_eq_true rfl) rfl ?_
  refine go_iload_n dX9_price_0 rfl ?_
  refine go_iconst (v := 0) dX9_price_1 (by decide) ?_
  refine go_bipush (v := 8) dX9_price_2 (by decide) ?_
  refine go_cS (as := [_, _, _]) dX9_price_4 mX9_in kX9_48 tX9_in rfl rfl (rX9_in) rfl rfl rfl ?_
  refine go_be_t dX9_price_7 h1 ?_
  refine go_iload_n dX9_price_10 rfl ?_
  refine go_iconst (v := 0) dX9_price_11 (by decide) ?_
  refine go_bipush (v := 8) dX9_price_12 (by decide) ?_
  refine go_cS (as := [_, _, _]) dX9_price_14 mX9_in kX9_48 tX9_in rfl rfl (rX9_in) rfl rfl rfl ?_
  refine go_be_t dX9_price_17 h2 ?_
  refine go_iload_n dX9_price_20 rfl ?_
  refine go_iconst (v := 0) dX9_price_21 (by decide) ?_
  refine go_iconst (v := 1) dX9_price_22 (by decide) ?_
  refine go_cS (as := [_, _, _]) dX9_price_23 mX9_in kX9_48 tX9_in rfl rfl (rX9_in) rfl rfl rfl ?_
  refine go_bn_f dX9_price_26 h3 ?_
  refine go_ldc2_w dX9_price_29 nX9_144 ?_
  refine go_lret dX9_price_32 rfl rfl ?_
  exact ⟨rfl, rfl⟩
set_option maxRecDepth 100000 in
set_option maxHeartbeats 4000000 in
theorem rX9_price_4 {E : gE} {d : Nat} {nw i0 i1 : WorldS} {pd : PadS} {lv : LivesS} {pl : PlanS} {mt : MatS} {nt : NetS} {zbk znw zta zwe zsg zpa zev zac zwr zim zke : Nat → Int32} {zth zsi zsa zsd zfo zre zma zba zsl zwy : Int32} {zbe : Nat → Int64} {n q : Nat} {w : Int32} (hn : n ≤ 8) (hq : q ≤ 8) (h3 : isInB w 0 1 = true) {g : Int64} {n0 : Nat} (hgd : gdR n0 ((lbM zwe (wsumF zwe).toInt64 zbe 8) (11 * (n + 1) + q) - (lbM zwe (wsumF zwe).toInt64 zbe 8) (11 * n + q)) (pwL (wsumF zwe).toInt64 q) = some g) (hg : ¬ g = 0) : Ret E yX9_price cX9_price 4 (some .long) (d + 2) 0 0 [.ref 52, .int (nI n), .int (nI q), .int w] (hp nw i0 i1 pd lv pl mt nt (zbk, znw, zth, zta, zwe, zsi, zsg, zsa, zpa, zsd, zfo, zre, zma, zba, zbe, zev, zac, zwr, zsl, zwy, zim, zke)) (dt (some (.long (if w = 0 then ((lbM zwe (wsumF zwe).toInt64 zbe 8) (11 * (n + 1) + q) - (lbM zwe (wsumF zwe).toInt64 zbe 8) (11 * n + q)) / g else (pwL (wsumF zwe).toInt64 q) / g))) (hp nw i0 i1 pd lv pl mt nt (zbk, znw, zth, zta, zwe, zsi, zsg, zsa, zpa, zsd, zfo, zre, zma, zba, (lbM zwe (wsumF zwe).toInt64 zbe 8), zev, zac, zwr, zsl, zwy, zim, zke))) := by
  refine ret_of_go (L := [_, _, _, _]) (by decide) (Nat.le_of_ble_eq_true rfl) rfl ?_
  refine go_iload_n dX9_price_0 rfl ?_
  refine go_iconst (v := 0) dX9_price_1 (by decide) ?_
  refine go_bipush (v := 8) dX9_price_2 (by decide) ?_
  refine go_cS (as := [_, _, _]) dX9_price_4 mX9_in kX9_48 tX9_in rfl rfl (rX9_in) rfl rfl rfl ?_
  refine go_be_t dX9_price_7 (inB_of (k := n) (a := 0) (b := 8) (by omega) (by omega) (by decide)) ?_
  refine go_iload_n dX9_price_10 rfl ?_
  refine go_iconst (v := 0) dX9_price_11 (by decide) ?_
  refine go_bipush (v := 8) dX9_price_12 (by decide) ?_
  refine go_cS (as := [_, _, _]) dX9_price_14 mX9_in kX9_48 tX9_in rfl rfl (rX9_in) rfl rfl rfl ?_
  refine go_be_t dX9_price_17 (inB_of (k := q) (a := 0) (b := 8) (by omega) (by omega) (by decide)) ?_
  refine go_iload_n dX9_price_20 rfl ?_
  refine go_iconst (v := 0) dX9_price_21 (by decide) ?_
  refine go_iconst (v := 1) dX9_price_22 (by decide) ?_
  refine go_cS (as := [_, _, _]) dX9_price_23 mX9_in kX9_48 tX9_in rfl rfl (rX9_in) rfl rfl rfl ?_
  refine go_bn_t (tgt := 33) dX9_price_26 (by decide) h3 ?_
  refine go_aload_n dX9_price_33 rfl ?_
  refine go_cVv (as := []) dX9_price_34 mX9_layBest kX9_146 iX9_layBest sX9_layBest rfl rfl rfl rfl (rX9_layBest (m := (zbk, znw, zth, zta, zwe, zsi, zsg, zsa, zpa, zsd, zfo, zre, zma, zba, zbe, zev, zac, zwr, zsl, zwy, zim, zke))) rfl rfl rfl ?_
  refine go_aload_n dX9_price_37 rfl ?_
  refine go_get dX9_price_38 fX9_28 rfl rfl ?_
  refine go_bipush (v := 11) dX9_price_41 (by decide) ?_
  refine go_iload_n dX9_price_43 rfl ?_
  refine go_iconst (v := 1) dX9_price_44 (by decide) ?_
  refine go_iadd dX9_price_45 ?_
  refine go_topi_eq (x := nI (n + 1)) (nI_1 n) ?_
  refine go_imul dX9_price_46 ?_
  refine go_iload_n dX9_price_47 rfl ?_
  refine go_iadd dX9_price_48 ?_
  refine go_topi_eq (nb3 (n + 1) q) ?_
  refine go_laldN (11 * (n + 1) + q) dX9_price_49 rfl (by omega) rfl ?_
  refine go_aload_n dX9_price_50 rfl ?_
  refine go_get dX9_price_51 fX9_28 rfl rfl ?_
  refine go_bipush (v := 11) dX9_price_54 (by decide) ?_
  refine go_iload_n dX9_price_56 rfl ?_
  refine go_imul dX9_price_57 ?_
  refine go_iload_n dX9_price_58 rfl ?_
  refine go_iadd dX9_price_59 ?_
  refine go_topi_eq (nb3 n q) ?_
  refine go_laldN (11 * n + q) dX9_price_60 rfl (by omega) rfl ?_
  refine go_lsub dX9_price_61 ?_
  refine go_aload_n dX9_price_62 rfl ?_
  refine go_cV (as := []) dX9_price_63 mX9_weights kX9_135 iX9_weights sX9_weights rfl rfl rfl rfl (rX9_weights) rfl rfl rfl ?_
  refine go_i2l dX9_price_66 ?_
  refine go_iload_n dX9_price_67 rfl ?_
  refine go_cS (as := [_, _]) dX9_price_68 mX9_power kX9_140 tX9_power rfl rfl (rX9_power (n := q) (by omega)) rfl rfl rfl ?_
  refine go_iload_n dX9_price_71 rfl ?_
  refine go_cS (as := [_, _, _]) dX9_price_72 mX9_part kX9_149 tX9_part rfl rfl (rX9_part hgd hg) rfl rfl rfl ?_
  refine go_lret dX9_price_75 rfl rfl ?_
  exact ⟨rfl, rfl⟩
set_option maxRecDepth 100000 in
set_option maxHeartbeats 4000000 in
theorem rX9_least_1 {E : gE} {d : Nat} {nw i0 i1 : WorldS} {pd : PadS} {lv : LivesS} {pl : PlanS} {mt : MatS} {nt : NetS} {zbk znw zta zwe zsg zpa zev zac zwr zim zke : Nat → Int32} {zth zsi zsa zsd zfo zre zma zba zsl zwy : Int32} {zbe : Nat → Int64} {n q : Int32} (h1 : isInB n 0 9 = false) : Ret E yX9_least cX9_least 3 (some .int) (d + 2) 0 0 [.ref 52, .int n, .int q] (hp nw i0 i1 pd lv pl mt nt (zbk, znw, zth, zta, zwe, zsi, zsg, zsa, zpa, zsd, zfo, zre, zma, zba, zbe, zev, zac, zwr, zsl, zwy, zim, zke)) (dt (some (.int (-2))) (hp nw i0 i1 pd lv pl mt nt (zbk, znw, zth, zta, zwe, zsi, zsg, zsa, zpa, zsd, zfo, zre, zma, zba, zbe, zev, zac, zwr, zsl, zwy, zim, zke))) := by
  refine ret_of_go (L := [_, _, _]) (by decide) (Nat.le_of_ble_eq_true rfl) rfl ?_
  refine go_iload_n dX9_least_0 rfl ?_
  refine go_iconst (v := 0) dX9_least_1 (by decide) ?_
  refine go_bipush (v := 9) dX9_least_2 (by decide) ?_
  refine go_cS (as := [_, _, _]) dX9_least_4 mX9_in kX9_48 tX9_in rfl rfl (rX9_in) rfl rfl rfl ?_
  refine go_be_f (tgt := 20) dX9_least_7 (by decide) h1 ?_
  refine go_bipush (v := (-2)) dX9_least_20 (by decide) ?_
  refine go_iret dX9_least_22 rfl rfl ?_
  exact ⟨rfl, rfl⟩
set_option maxRecDepth 100000 in
set_option maxHeartbeats 4000000 in
theorem rX9_least_2 {E : gE} {d : Nat} {nw i0 i1 : WorldS} {pd : PadS} {lv : LivesS} {pl : PlanS} {mt : MatS} {nt : NetS} {zbk znw zta zwe zsg zpa zev zac zwr zim zke : Nat → Int32} {zth zsi zsa zsd zfo zre zma zba zsl zwy : Int32} {zbe : Nat → Int64} {n q : Int32} (h1 : isInB n 0 9 = true) (h2 : isInB q 0 8 = false) : Ret E yX9_least cX9_least 3 (some .int) (d + 2) 0 0 [.ref 52, .int n, .int q] (hp nw i0 i1 pd lv pl mt nt (zbk, znw, zth, zta, zwe, zsi, zsg, zsa, zpa, zsd, zfo, zre, zma, zba, zbe, zev, zac, zwr, zsl, zwy, zim, zke)) (dt (some (.int (-2))) (hp nw i0 i1 pd lv pl mt nt (zbk, znw, zth, zta, zwe, zsi, zsg, zsa, zpa, zsd, zfo, zre, zma, zba, zbe, zev, zac, zwr, zsl, zwy, zim, zke))) := by
  refine ret_of_go (L := [_, _, _]) (by decide) (Nat.le_of_ble_eq_true rfl) rfl ?_
  refine go_iload_n dX9_least_0 rfl ?_
  refine go_iconst (v := 0) dX9_least_1 (by decide) ?_
  refine go_bipush (v := 9) dX9_least_2 (by decide) ?_
  refine go_cS (as := [_, _, _]) dX9_least_4 mX9_in kX9_48 tX9_in rfl rfl (rX9_in) rfl rfl rfl ?_
  refine go_be_t dX9_least_7 h1 ?_
  refine go_iload_n dX9_least_10 rfl ?_
  refine go_iconst (v := 0) dX9_least_11 (by decide) ?_
  refine go_bipush (v := 8) dX9_least_12 (by decide) ?_
  refine go_cS (as := [_, _, _]) dX9_least_14 mX9_in kX9_48 tX9_in rfl rfl (rX9_in) rfl rfl rfl ?_
  refine go_bn_f dX9_least_17 h2 ?_
  refine go_bipush (v := (-2)) dX9_least_20 (by decide) ?_
  refine go_iret dX9_least_22 rfl rfl ?_
  exact ⟨rfl, rfl⟩
set_option maxRecDepth 100000 in
set_option maxHeartbeats 4000000 in
theorem rX9_least_3 {E : gE} {d : Nat} {nw i0 i1 : WorldS} {pd : PadS} {lv : LivesS} {pl : PlanS} {mt : MatS} {nt : NetS} {zbk znw zta zwe zsg zpa zev zac zwr zim zke : Nat → Int32} {zth zsi zsa zsd zfo zre zma zba zsl zwy : Int32} {zbe : Nat → Int64} {n q : Int32} (h1 : isInB n 0 9 = true) (h2 : isInB q 0 8 = true) (h3 : n = 0) : Ret E yX9_least cX9_least 3 (some .int) (d + 2) 0 0 [.ref 52, .int n, .int q] (hp nw i0 i1 pd lv pl mt nt (zbk, znw, zth, zta, zwe, zsi, zsg, zsa, zpa, zsd, zfo, zre, zma, zba, zbe, zev, zac, zwr, zsl, zwy, zim, zke)) (dt (some (.int (-6))) (hp nw i0 i1 pd lv pl mt nt (zbk, znw, zth, zta, zwe, zsi, zsg, zsa, zpa, zsd, zfo, zre, zma, zba, (lbM zwe (wsumF zwe).toInt64 zbe 8), zev, zac, zwr, zsl, zwy, zim, zke))) := by
  refine ret_of_go (L := [_, _, _]) (by decide) (Nat.le_of_ble_eq_true rfl) rfl ?_
  subst h3
  refine go_iload_n dX9_least_0 rfl ?_
  refine go_iconst (v := 0) dX9_least_1 (by decide) ?_
  refine go_bipush (v := 9) dX9_least_2 (by decide) ?_
  refine go_cS (as := [_, _, _]) dX9_least_4 mX9_in kX9_48 tX9_in rfl rfl (rX9_in) rfl rfl rfl ?_
  refine go_be_t dX9_least_7 h1 ?_
  refine go_iload_n dX9_least_10 rfl ?_
  refine go_iconst (v := 0) dX9_least_11 (by decide) ?_
  refine go_bipush (v := 8) dX9_least_12 (by decide) ?_
  refine go_cS (as := [_, _, _]) dX9_least_14 mX9_in kX9_48 tX9_in rfl rfl (rX9_in) rfl rfl rfl ?_
  refine go_bn_t (tgt := 23) dX9_least_17 (by decide) h2 ?_
  refine go_aload_n dX9_least_23 rfl ?_
  refine go_cVv (as := []) dX9_least_24 mX9_layBest kX9_146 iX9_layBest sX9_layBest rfl rfl rfl rfl (rX9_layBest (m := (zbk, znw, zth, zta, zwe, zsi, zsg, zsa, zpa, zsd, zfo, zre, zma, zba, zbe, zev, zac, zwr, zsl, zwy, zim, zke))) rfl rfl rfl ?_
  refine go_aload_n dX9_least_27 rfl ?_
  refine go_iload_n dX9_least_28 rfl ?_
  refine go_iload_n dX9_least_29 rfl ?_
  refine go_cV (as := [_, _]) dX9_least_30 mX9_leastOf kX9_153 iX9_leastOf sX9_leastOf rfl rfl rfl rfl (rX9_leastOf_0a) rfl rfl rfl ?_
  refine go_iret dX9_least_33 rfl rfl ?_
  exact ⟨rfl, rfl⟩
set_option maxRecDepth 100000 in
set_option maxHeartbeats 4000000 in
theorem rX9_least_4 {E : gE} {d : Nat} {nw i0 i1 : WorldS} {pd : PadS} {lv : LivesS} {pl : PlanS} {mt : MatS} {nt : NetS} {zbk znw zta zwe zsg zpa zev zac zwr zim zke : Nat → Int32} {zth zsi zsa zsd zfo zre zma zba zsl zwy : Int32} {zbe : Nat → Int64} {n q : Int32} (h1 : isInB n 0 9 = true) (h2 : isInB q 0 8 = true) (h3 : q = 0) : Ret E yX9_least cX9_least 3 (some .int) (d + 2) 0 0 [.ref 52, .int n, .int q] (hp nw i0 i1 pd lv pl mt nt (zbk, znw, zth, zta, zwe, zsi, zsg, zsa, zpa, zsd, zfo, zre, zma, zba, zbe, zev, zac, zwr, zsl, zwy, zim, zke)) (dt (some (.int (-6))) (hp nw i0 i1 pd lv pl mt nt (zbk, znw, zth, zta, zwe, zsi, zsg, zsa, zpa, zsd, zfo, zre, zma, zba, (lbM zwe (wsumF zwe).toInt64 zbe 8), zev, zac, zwr, zsl, zwy, zim, zke))) := by
  refine ret_of_go (L := [_, _, _]) (by decide) (Nat.le_of_ble_eq_true rfl) rfl ?_
  subst h3
  refine go_iload_n dX9_least_0 rfl ?_
  refine go_iconst (v := 0) dX9_least_1 (by decide) ?_
  refine go_bipush (v := 9) dX9_least_2 (by decide) ?_
  refine go_cS (as := [_, _, _]) dX9_least_4 mX9_in kX9_48 tX9_in rfl rfl (rX9_in) rfl rfl rfl ?_
  refine go_be_t dX9_least_7 h1 ?_
  refine go_iload_n dX9_least_10 rfl ?_
  refine go_iconst (v := 0) dX9_least_11 (by decide) ?_
  refine go_bipush (v := 8) dX9_least_12 (by decide) ?_
  refine go_cS (as := [_, _, _]) dX9_least_14 mX9_in kX9_48 tX9_in rfl rfl (rX9_in) rfl rfl rfl ?_
  refine go_bn_t (tgt := 23) dX9_least_17 (by decide) h2 ?_
  refine go_aload_n dX9_least_23 rfl ?_
  refine go_cVv (as := []) dX9_least_24 mX9_layBest kX9_146 iX9_layBest sX9_layBest rfl rfl rfl rfl (rX9_layBest (m := (zbk, znw, zth, zta, zwe, zsi, zsg, zsa, zpa, zsd, zfo, zre, zma, zba, zbe, zev, zac, zwr, zsl, zwy, zim, zke))) rfl rfl rfl ?_
  refine go_aload_n dX9_least_27 rfl ?_
  refine go_iload_n dX9_least_28 rfl ?_
  refine go_iload_n dX9_least_29 rfl ?_
  refine go_cV (as := [_, _]) dX9_least_30 mX9_leastOf kX9_153 iX9_leastOf sX9_leastOf rfl rfl rfl rfl (rX9_leastOf_0b) rfl rfl rfl ?_
  refine go_iret dX9_least_33 rfl rfl ?_
  exact ⟨rfl, rfl⟩
set_option maxRecDepth 100000 in
set_option maxHeartbeats 4000000 in
theorem rX9_least_5 {E : gE} {d : Nat} {nw i0 i1 : WorldS} {pd : PadS} {lv : LivesS} {pl : PlanS} {mt : MatS} {nt : NetS} {zbk znw zta zwe zsg zpa zev zac zwr zim zke : Nat → Int32} {zth zsi zsa zsd zfo zre zma zba zsl zwy : Int32} {zbe : Nat → Int64} {p q : Nat} (hp9 : p < 9) (hq8 : q < 8) : Ret E yX9_least cX9_least 3 (some .int) (d + 2) 0 0 [.ref 52, .int (nI (p + 1)), .int (nI (q + 1))] (hp nw i0 i1 pd lv pl mt nt (zbk, znw, zth, zta, zwe, zsi, zsg, zsa, zpa, zsd, zfo, zre, zma, zba, zbe, zev, zac, zwr, zsl, zwy, zim, zke)) (dt (some (.int (loR (lbM zwe (wsumF zwe).toInt64 zbe 8) (pwL (wsumF zwe).toInt64 q) (11 * p + q) (11 * (p + 1) + q) 9 1))) (hp nw i0 i1 pd lv pl mt nt (zbk, znw, zth, zta, zwe, zsi, zsg, zsa, zpa, zsd, zfo, zre, zma, zba, (lbM zwe (wsumF zwe).toInt64 zbe 8), zev, zac, zwr, zsl, zwy, zim, zke))) := by
  refine ret_of_go (L := [_, _, _]) (by decide) (Nat.le_of_ble_eq_true rfl) rfl ?_
  refine go_iload_n dX9_least_0 rfl ?_
  refine go_iconst (v := 0) dX9_least_1 (by decide) ?_
  refine go_bipush (v := 9) dX9_least_2 (by decide) ?_
  refine go_cS (as := [_, _, _]) dX9_least_4 mX9_in kX9_48 tX9_in rfl rfl (rX9_in) rfl rfl rfl ?_
  refine go_be_t dX9_least_7 (inB_of (k := p + 1) (a := 0) (b := 9) (by omega) (by omega) (by decide)) ?_
  refine go_iload_n dX9_least_10 rfl ?_
  refine go_iconst (v := 0) dX9_least_11 (by decide) ?_
  refine go_bipush (v := 8) dX9_least_12 (by decide) ?_
  refine go_cS (as := [_, _, _]) dX9_least_14 mX9_in kX9_48 tX9_in rfl rfl (rX9_in) rfl rfl rfl ?_
  refine go_bn_t (tgt := 23) dX9_least_17 (by decide) (inB_of (k := q + 1) (a := 0) (b := 8) (by omega) (by omega) (by decide)) ?_
  refine go_aload_n dX9_least_23 rfl ?_
  refine go_cVv (as := []) dX9_least_24 mX9_layBest kX9_146 iX9_layBest sX9_layBest rfl rfl rfl rfl (rX9_layBest (m := (zbk, znw, zth, zta, zwe, zsi, zsg, zsa, zpa, zsd, zfo, zre, zma, zba, zbe, zev, zac, zwr, zsl, zwy, zim, zke))) rfl rfl rfl ?_
  refine go_aload_n dX9_least_27 rfl ?_
  refine go_iload_n dX9_least_28 rfl ?_
  refine go_iload_n dX9_least_29 rfl ?_
  refine go_cV (as := [_, _]) dX9_least_30 mX9_leastOf kX9_153 iX9_leastOf sX9_leastOf rfl rfl rfl rfl (rX9_leastOf_1 hp9 hq8) rfl rfl rfl ?_
  refine go_iret dX9_least_33 rfl rfl ?_
  exact ⟨rfl, rfl⟩
