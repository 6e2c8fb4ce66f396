def cmpR (k : Nat) : Nat → Nat → Nat → Nat
  | 0, _, cm => cm
  | f + 1, j, cm => if 2 ^ j < k + 1 then cmpR k f (j + 1) (cm + 1) else cm
theorem p2_le {j : Nat} (h : j ≤ 8) : 2 ^ j ≤ 256 := by
  have := Nat.pow_le_pow_right (n := 2) (by decide) h
  simpa using this
set_option maxRecDepth 100000 in
set_option maxHeartbeats 4000000 in
theorem rX8_compare_1 {E : gE} {d : Nat} {nw i0 i1 : WorldS} {pd : PadS} {lv : LivesS} {pl : PlanS} {mt : MatS} {nt : NetS} {m : ModS} {n : Int32} (h1 : isInB n 1 99 = false) : Ret E yX8_compare cX8_compare 4 (some .int) (d + 1) 0 0 [.ref 0, .int n] (hp nw i0 i1 pd lv pl mt nt m) (dt (some (.int (-2))) (hp nw i0 i1 pd lv pl mt nt m)) := by
  refine ret_of_go (L := [_, _, _, _]) (by decide) (Nat.le_of_ble_eq_true rfl) rfl ?_
  refine go_iload_n dX8_compare_0 rfl ?_
  refine go_iconst (v := 1) dX8_compare_1 (by decide) ?_
  refine go_bipush (v := 99) dX8_compare_2 (by decide) ?_
  refine go_cS (as := [_, _, _]) dX8_compare_4 mX8_isIn kX8_55 tX8_isIn rfl rfl (rX8_isIn) rfl rfl rfl ?_
  refine go_bn_f dX8_compare_7 h1 ?_
  refine go_bipush (v := (-2)) dX8_compare_10 (by decide) ?_
  refine go_iret dX8_compare_12 rfl rfl ?_
  exact ⟨rfl, rfl⟩
set_option maxRecDepth 100000 in
set_option maxHeartbeats 4000000 in
theorem rX8_compare_2 {E : gE} {d : Nat} {nw i0 i1 : WorldS} {pd : PadS} {lv : LivesS} {pl : PlanS} {mt : MatS} {nt : NetS} {m : ModS} {k : Nat} (hk1 : 1 ≤ k) (hk : k ≤ 99) : Ret E yX8_compare cX8_compare 4 (some .int) (d + 1) 0 0 [.ref 0, .int (nI k)] (hp nw i0 i1 pd lv pl mt nt m) (dt (some (.int (nI (cmpR k 8 0 0)))) (hp nw i0 i1 pd lv pl mt nt m)) := by
  refine ret_of_go (L := [_, _, _, _]) (by decide) (Nat.le_of_ble_eq_true rfl) rfl ?_
  have key : ∀ (f j cm : Nat), f + j = 8 → cmpR k f j cm = cmpR k 8 0 0 → Go E yX8_compare cX8_compare 4 (some .int) (d + 1) 0 0 0 0 17 [some (.ref 0), some (.int (nI k)), some (.int (nI cm)), some (.int (nI (2 ^ j)))] [] (hp nw i0 i1 pd lv pl mt nt m) (dt (some (.int (nI (cmpR k 8 0 0)))) (hp nw i0 i1 pd lv pl mt nt m)) := by
    intro f
    induction f with
    | zero =>
      intro j cm hj hf
      obtain rfl : j = 8 := by omega
      rw [cmpR] at hf
      refine go_iload_n dX8_compare_17 rfl ?_
      refine go_iload_n dX8_compare_18 rfl ?_
      refine go_iconst (v := 1) dX8_compare_19 (by decide) ?_
      refine go_iadd dX8_compare_20 ?_
      refine go_topi_eq (nI_1 k) ?_
      refine go_icmp_ge (tgt := 34) dX8_compare_21 (by decide) (fun q21 => ?_) (fun zq => absurd (nI_le (a := k + 1) (b := 2 ^ 8) (by omega) (by decide)) zq)
      refine go_iload_n dX8_compare_34 rfl ?_
      refine go_iret dX8_compare_35 rfl rfl ?_
      exact ⟨by rw [hf], rfl⟩
    | succ f ih =>
      intro j cm hj hf
      have h8 := p2_le (j := j) (by omega)
      rw [cmpR] at hf
      by_cases h9 : 2 ^ j < k + 1
      · rw [if_pos h9] at hf
        refine go_iload_n dX8_compare_17 rfl ?_
        refine go_iload_n dX8_compare_18 rfl ?_
        refine go_iconst (v := 1) dX8_compare_19 (by decide) ?_
        refine go_iadd dX8_compare_20 ?_
        refine go_topi_eq (nI_1 k) ?_
        refine go_icmp_ge (tgt := 34) dX8_compare_21 (by decide) (fun zq => absurd zq (nI_ge h9 (by omega))) (fun q21 => ?_)
        refine go_iinc (v := nI (cm + 1)) (L' := [_, _, _, _]) dX8_compare_24 rfl (nI_1 cm) rfl rfl rfl ?_
        refine go_iload_n dX8_compare_27 rfl ?_
        refine go_iconst (v := 2) dX8_compare_28 (by decide) ?_
        refine go_imul dX8_compare_29 ?_
        refine go_topi_eq (x := nI (2 ^ (j + 1))) (by rw [show (2 : Int32) = nI 2 from rfl, pk_mul, ← Nat.pow_succ]) ?_
        refine go_istore_n (L' := [_, _, _, _]) dX8_compare_30 rfl rfl rfl ?_
        refine go_goto (tgt := 17) dX8_compare_31 (by decide) ?_
        exact ih (j + 1) (cm + 1) (by omega) hf
      · rw [if_neg h9] at hf
        refine go_iload_n dX8_compare_17 rfl ?_
        refine go_iload_n dX8_compare_18 rfl ?_
        refine go_iconst (v := 1) dX8_compare_19 (by decide) ?_
        refine go_iadd dX8_compare_20 ?_
        refine go_topi_eq (nI_1 k) ?_
        refine go_icmp_ge (tgt := 34) dX8_compare_21 (by decide) (fun q21 => ?_) (fun zq => absurd (nI_le (Nat.not_lt.mp h9) (by omega)) zq)
        refine go_iload_n dX8_compare_34 rfl ?_
        refine go_iret dX8_compare_35 rfl rfl ?_
        exact ⟨by rw [hf], rfl⟩
  refine go_iload_n dX8_compare_0 rfl ?_
  refine go_iconst (v := 1) dX8_compare_1 (by decide) ?_
  refine go_bipush (v := 99) dX8_compare_2 (by decide) ?_
  refine go_cS (as := [_, _, _]) dX8_compare_4 mX8_isIn kX8_55 tX8_isIn rfl rfl (rX8_isIn) rfl rfl rfl ?_
  refine go_bn_t (tgt := 13) dX8_compare_7 (by decide) (inB_of (k := k) (a := 1) (b := 99) (by omega) (by omega) (by decide)) ?_
  refine go_iconst (v := 0) dX8_compare_13 (by decide) ?_
  refine go_istore_n (L' := [_, _, _, _]) dX8_compare_14 rfl rfl rfl ?_
  refine go_iconst (v := 1) dX8_compare_15 (by decide) ?_
  refine go_istore_n (L' := [_, _, _, _]) dX8_compare_16 rfl rfl rfl ?_
  exact key 8 0 0 rfl rfl
set_option maxRecDepth 100000 in
set_option maxHeartbeats 4000000 in
theorem rX8_book_1 {E : gE} {d : Nat} {nw i0 i1 : WorldS} {pd : PadS} {lv : LivesS} {pl : PlanS} {mt : MatS} {nt : NetS} {m : ModS} {x y w : Int32} (g0 : isInB x 0 9999 = false) : Ret E yX8_book cX8_book 5 (some .int) (d + 1) 0 0 [.ref 0, .int x, .int y, .int w] (hp nw i0 i1 pd lv pl mt nt m) (dt (some (.int (-2))) (hp nw i0 i1 pd lv pl mt nt m)) := by
  refine ret_of_go (L := [_, _, _, _, _]) (by decide) (Nat.le_of_ble_eq_true rfl) rfl ?_
  refine go_iload_n dX8_book_0 rfl ?_
  refine go_iconst (v := 0) dX8_book_1 (by decide) ?_
  refine go_sipush (v := 9999) dX8_book_2 (by decide) ?_
  refine go_cS (as := [_, _, _]) dX8_book_5 mX8_isIn kX8_55 tX8_isIn rfl rfl (rX8_isIn) rfl rfl rfl ?_
  refine go_be_f (tgt := 30) dX8_book_8 (by decide) g0 ?_
  refine go_bipush (v := (-2)) dX8_book_30 (by decide) ?_
  refine go_iret dX8_book_32 rfl rfl ?_
  exact ⟨rfl, rfl⟩
set_option maxRecDepth 100000 in
set_option maxHeartbeats 4000000 in
theorem rX8_book_2 {E : gE} {d : Nat} {nw i0 i1 : WorldS} {pd : PadS} {lv : LivesS} {pl : PlanS} {mt : MatS} {nt : NetS} {m : ModS} {x y w : Int32} (g0 : isInB x 0 9999 = true) (g1 : isInB y 1 99 = false) : Ret E yX8_book cX8_book 5 (some .int) (d + 1) 0 0 [.ref 0, .int x, .int y, .int w] (hp nw i0 i1 pd lv pl mt nt m) (dt (some (.int (-2))) (hp nw i0 i1 pd lv pl mt nt m)) := by
  refine ret_of_go (L := [_, _, _, _, _]) (by decide) (Nat.le_of_ble_eq_true rfl) rfl ?_
  refine go_iload_n dX8_book_0 rfl ?_
  refine go_iconst (v := 0) dX8_book_1 (by decide) ?_
  refine go_sipush (v := 9999) dX8_book_2 (by decide) ?_
  refine go_cS (as := [_, _, _]) dX8_book_5 mX8_isIn kX8_55 tX8_isIn rfl rfl (rX8_isIn) rfl rfl rfl ?_
  refine go_be_t dX8_book_8 g0 ?_
  refine go_iload_n dX8_book_11 rfl ?_
  refine go_iconst (v := 1) dX8_book_12 (by decide) ?_
  refine go_bipush (v := 99) dX8_book_13 (by decide) ?_
  refine go_cS (as := [_, _, _]) dX8_book_15 mX8_isIn kX8_55 tX8_isIn rfl rfl (rX8_isIn) rfl rfl rfl ?_
  refine go_be_f (tgt := 30) dX8_book_18 (by decide) g1 ?_
  refine go_bipush (v := (-2)) dX8_book_30 (by decide) ?_
  refine go_iret dX8_book_32 rfl rfl ?_
  exact ⟨rfl, rfl⟩
set_option maxRecDepth 100000 in
set_option maxHeartbeats 4000000 in
theorem rX8_book_3 {E : gE} {d : Nat} {nw i0 i1 : WorldS} {pd : PadS} {lv : LivesS} {pl : PlanS} {mt : MatS} {nt : NetS} {m : ModS} {x y w : Int32} (g0 : isInB x 0 9999 = true) (g1 : isInB y 1 99 = true) (g2 : isInB w 0 2 = false) : Ret E yX8_book cX8_book 5 (some .int) (d + 1) 0 0 [.ref 0, .int x, .int y, .int w] (hp nw i0 i1 pd lv pl mt nt m) (dt (some (.int (-2))) (hp nw i0 i1 pd lv pl mt nt m)) := by
  refine ret_of_go (L := [_, _, _, _, _]) (by decide) (Nat.le_of_ble_eq_true rfl) rfl ?_
  refine go_iload_n dX8_book_0 rfl ?_
  refine go_iconst (v := 0) dX8_book_1 (by decide) ?_
  refine go_sipush (v := 9999) dX8_book_2 (by decide) ?_
  refine go_cS (as := [_, _, _]) dX8_book_5 mX8_isIn kX8_55 tX8_isIn rfl rfl (rX8_isIn) rfl rfl rfl ?_
  refine go_be_t dX8_book_8 g0 ?_
  refine go_iload_n dX8_book_11 rfl ?_
  refine go_iconst (v := 1) dX8_book_12 (by decide) ?_
  refine go_bipush (v := 99) dX8_book_13 (by decide) ?_
  refine go_cS (as := [_, _, _]) dX8_book_15 mX8_isIn kX8_55 tX8_isIn rfl rfl (rX8_isIn) rfl rfl rfl ?_
  refine go_be_t dX8_book_18 g1 ?_
  refine go_iload_n dX8_book_21 rfl ?_
  refine go_iconst (v := 0) dX8_book_22 (by decide) ?_
  refine go_iconst (v := 2) dX8_book_23 (by decide) ?_
  refine go_cS (as := [_, _, _]) dX8_book_24 mX8_isIn kX8_55 tX8_isIn rfl rfl (rX8_isIn) rfl rfl rfl ?_
  refine go_bn_f dX8_book_27 g2 ?_
  refine go_bipush (v := (-2)) dX8_book_30 (by decide) ?_
  refine go_iret dX8_book_32 rfl rfl ?_
  exact ⟨rfl, rfl⟩
set_option maxRecDepth 100000 in
set_option maxHeartbeats 4000000 in
theorem rX8_book_4 {E : gE} {d : Nat} {nw i0 i1 : WorldS} {pd : PadS} {lv : LivesS} {pl : PlanS} {mt : MatS} {nt : NetS} {m : ModS} {x w : Int32} {my : Nat} (h1 : isInB x 0 9999 = true) (hm1 : 1 ≤ my) (hm : my ≤ 99) (h2 : isInB w 0 2 = true) (h3 : w = 0) : Ret E yX8_book cX8_book 5 (some .int) (d + 6) 0 0 [.ref 0, .int x, .int (nI my), .int w] (hp nw i0 i1 pd lv pl mt nt m) (dt (some (.int (sumI (fw (dwR nw.1 x my).1) 6))) (hp nw i0 i1 pd ((dwR nw.1 x my).1, lv.2) pl mt nt m)) := by
  refine ret_of_go (L := [_, _, _, _, _]) (by decide) (Nat.le_of_ble_eq_true rfl) rfl ?_
  refine go_iload_n dX8_book_0 rfl ?_
  refine go_iconst (v := 0) dX8_book_1 (by decide) ?_
  refine go_sipush (v := 9999) dX8_book_2 (by decide) ?_
  refine go_cS (as := [_, _, _]) dX8_book_5 mX8_isIn kX8_55 tX8_isIn rfl rfl (rX8_isIn) rfl rfl rfl ?_
  refine go_be_t dX8_book_8 h1 ?_
  refine go_iload_n dX8_book_11 rfl ?_
  refine go_iconst (v := 1) dX8_book_12 (by decide) ?_
  refine go_bipush (v := 99) dX8_book_13 (by decide) ?_
  refine go_cS (as := [_, _, _]) dX8_book_15 mX8_isIn kX8_55 tX8_isIn rfl rfl (rX8_isIn) rfl rfl rfl ?_
  refine go_be_t dX8_book_18 (inB_of (k := my) (a := 1) (b := 99) (by omega) (by omega) (by decide)) ?_
  refine go_iload_n dX8_book_21 rfl ?_
  refine go_iconst (v := 0) dX8_book_22 (by decide) ?_
  refine go_iconst (v := 2) dX8_book_23 (by decide) ?_
  refine go_cS (as := [_, _, _]) dX8_book_24 mX8_isIn kX8_55 tX8_isIn rfl rfl (rX8_isIn) rfl rfl rfl ?_
  refine go_bn_t (tgt := 33) dX8_book_27 (by decide) h2 ?_
  refine go_aload_n dX8_book_33 rfl ?_
  refine go_get dX8_book_34 fX8_30 rfl rfl ?_
  refine go_aload_n dX8_book_37 rfl ?_
  refine go_get dX8_book_38 fX8_10 rfl rfl ?_
  refine go_get dX8_book_41 fX8_59 rfl rfl ?_
  refine go_iload_n dX8_book_44 rfl ?_
  refine go_iload_n dX8_book_45 rfl ?_
  refine go_cV (as := [_, _, _]) dX8_book_46 mX2_draw kX8_213 iX2_draw sX2_draw rfl rfl rfl rfl (rX2_draw (my := my) (by omega)) rfl rfl rfl ?_
  refine go_istore (L' := [_, _, _, _, _]) dX8_book_49 rfl rfl rfl ?_
  refine go_iload_n dX8_book_51 rfl ?_
  refine go_if_ne (tgt := 66) dX8_book_52 (by decide) (fun zq => absurd h3 zq) (fun q52 => ?_)
  refine go_aload_n dX8_book_55 rfl ?_
  refine go_get dX8_book_56 fX8_30 rfl rfl ?_
  refine go_get dX8_book_59 fX8_114 rfl rfl ?_
  refine go_cV (as := []) dX8_book_62 mX1_worthOfAll kX8_217 iX1_worthOfAll sX1_worthOfAll rfl rfl rfl rfl (rX1_worthOfAll_a) rfl rfl rfl ?_
  refine go_iret dX8_book_65 rfl rfl ?_
  exact ⟨rfl, rfl⟩
set_option maxRecDepth 100000 in
set_option maxHeartbeats 4000000 in
theorem rX8_book_5 {E : gE} {d : Nat} {nw i0 i1 : WorldS} {pd : PadS} {lv : LivesS} {pl : PlanS} {mt : MatS} {nt : NetS} {m : ModS} {x w : Int32} {my : Nat} (h1 : isInB x 0 9999 = true) (hm1 : 1 ≤ my) (hm : my ≤ 99) (h2 : isInB w 0 2 = true) (h3 : ¬ w = 0) (h4 : w = 1) : Ret E yX8_book cX8_book 5 (some .int) (d + 6) 0 0 [.ref 0, .int x, .int (nI my), .int w] (hp nw i0 i1 pd lv pl mt nt m) (dt (some (.int (dwR nw.1 x my).2.1)) (hp nw i0 i1 pd ((dwR nw.1 x my).1, lv.2) pl mt nt m)) := by
  refine ret_of_go (L := [_, _, _, _, _]) (by decide) (Nat.le_of_ble_eq_true rfl) rfl ?_
  refine go_iload_n dX8_book_0 rfl ?_
  refine go_iconst (v := 0) dX8_book_1 (by decide) ?_
  refine go_sipush (v := 9999) dX8_book_2 (by decide) ?_
  refine go_cS (as := [_, _, _]) dX8_book_5 mX8_isIn kX8_55 tX8_isIn rfl rfl (rX8_isIn) rfl rfl rfl ?_
  refine go_be_t dX8_book_8 h1 ?_
  refine go_iload_n dX8_book_11 rfl ?_
  refine go_iconst (v := 1) dX8_book_12 (by decide) ?_
  refine go_bipush (v := 99) dX8_book_13 (by decide) ?_
  refine go_cS (as := [_, _, _]) dX8_book_15 mX8_isIn kX8_55 tX8_isIn rfl rfl (rX8_isIn) rfl rfl rfl ?_
  refine go_be_t dX8_book_18 (inB_of (k := my) (a := 1) (b := 99) (by omega) (by omega) (by decide)) ?_
  refine go_iload_n dX8_book_21 rfl ?_
  refine go_iconst (v := 0) dX8_book_22 (by decide) ?_
  refine go_iconst (v := 2) dX8_book_23 (by decide) ?_
  refine go_cS (as := [_, _, _]) dX8_book_24 mX8_isIn kX8_55 tX8_isIn rfl rfl (rX8_isIn) rfl rfl rfl ?_
  refine go_bn_t (tgt := 33) dX8_book_27 (by decide) h2 ?_
  refine go_aload_n dX8_book_33 rfl ?_
  refine go_get dX8_book_34 fX8_30 rfl rfl ?_
  refine go_aload_n dX8_book_37 rfl ?_
  refine go_get dX8_book_38 fX8_10 rfl rfl ?_
  refine go_get dX8_book_41 fX8_59 rfl rfl ?_
  refine go_iload_n dX8_book_44 rfl ?_
  refine go_iload_n dX8_book_45 rfl ?_
  refine go_cV (as := [_, _, _]) dX8_book_46 mX2_draw kX8_213 iX2_draw sX2_draw rfl rfl rfl rfl (rX2_draw (my := my) (by omega)) rfl rfl rfl ?_
  refine go_istore (L' := [_, _, _, _, _]) dX8_book_49 rfl rfl rfl ?_
  refine go_iload_n dX8_book_51 rfl ?_
  refine go_if_ne (tgt := 66) dX8_book_52 (by decide) (fun q52 => ?_) (fun zq => absurd zq h3)
  refine go_iload_n dX8_book_66 rfl ?_
  refine go_iconst (v := 1) dX8_book_67 (by decide) ?_
  refine go_icmp_ne (tgt := 76) dX8_book_68 (by decide) (fun zq => absurd h4 zq) (fun q68 => ?_)
  refine go_iload dX8_book_71 rfl ?_
  refine go_goto (tgt := 89) dX8_book_73 (by decide) ?_
  refine go_iret dX8_book_89 rfl rfl ?_
  exact ⟨rfl, rfl⟩
set_option maxRecDepth 100000 in
set_option maxHeartbeats 4000000 in
theorem rX8_book_6 {E : gE} {d : Nat} {nw i0 i1 : WorldS} {pd : PadS} {lv : LivesS} {pl : PlanS} {mt : MatS} {nt : NetS} {m : ModS} {x w : Int32} {my : Nat} (h1 : isInB x 0 9999 = true) (hm1 : 1 ≤ my) (hm : my ≤ 99) (h2 : isInB w 0 2 = true) (h3 : ¬ w = 0) (h4 : ¬ w = 1) : Ret E yX8_book cX8_book 5 (some .int) (d + 6) 0 0 [.ref 0, .int x, .int (nI my), .int w] (hp nw i0 i1 pd lv pl mt nt m) (dt (some (.int (bcF (orB (bareB (dwR nw.1 x my).1) 6)))) (hp nw i0 i1 pd ((dwR nw.1 x my).1, lv.2) pl mt nt m)) := by
  refine ret_of_go (L := [_, _, _, _, _]) (by decide) (Nat.le_of_ble_eq_true rfl) rfl ?_
  refine go_iload_n dX8_book_0 rfl ?_
  refine go_iconst (v := 0) dX8_book_1 (by decide) ?_
  refine go_sipush (v := 9999) dX8_book_2 (by decide) ?_
  refine go_cS (as := [_, _, _]) dX8_book_5 mX8_isIn kX8_55 tX8_isIn rfl rfl (rX8_isIn) rfl rfl rfl ?_
  refine go_be_t dX8_book_8 h1 ?_
  refine go_iload_n dX8_book_11 rfl ?_
  refine go_iconst (v := 1) dX8_book_12 (by decide) ?_
  refine go_bipush (v := 99) dX8_book_13 (by decide) ?_
  refine go_cS (as := [_, _, _]) dX8_book_15 mX8_isIn kX8_55 tX8_isIn rfl rfl (rX8_isIn) rfl rfl rfl ?_
  refine go_be_t dX8_book_18 (inB_of (k := my) (a := 1) (b := 99) (by omega) (by omega) (by decide)) ?_
  refine go_iload_n dX8_book_21 rfl ?_
  refine go_iconst (v := 0) dX8_book_22 (by decide) ?_
  refine go_iconst (v := 2) dX8_book_23 (by decide) ?_
  refine go_cS (as := [_, _, _]) dX8_book_24 mX8_isIn kX8_55 tX8_isIn rfl rfl (rX8_isIn) rfl rfl rfl ?_
  refine go_bn_t (tgt := 33) dX8_book_27 (by decide) h2 ?_
  refine go_aload_n dX8_book_33 rfl ?_
  refine go_get dX8_book_34 fX8_30 rfl rfl ?_
  refine go_aload_n dX8_book_37 rfl ?_
  refine go_get dX8_book_38 fX8_10 rfl rfl ?_
  refine go_get dX8_book_41 fX8_59 rfl rfl ?_
  refine go_iload_n dX8_book_44 rfl ?_
  refine go_iload_n dX8_book_45 rfl ?_
  refine go_cV (as := [_, _, _]) dX8_book_46 mX2_draw kX8_213 iX2_draw sX2_draw rfl rfl rfl rfl (rX2_draw (my := my) (by omega)) rfl rfl rfl ?_
  refine go_istore (L' := [_, _, _, _, _]) dX8_book_49 rfl rfl rfl ?_
  refine go_iload_n dX8_book_51 rfl ?_
  refine go_if_ne (tgt := 66) dX8_book_52 (by decide) (fun q52 => ?_) (fun zq => absurd zq h3)
  refine go_iload_n dX8_book_66 rfl ?_
  refine go_iconst (v := 1) dX8_book_67 (by decide) ?_
  refine go_icmp_ne (tgt := 76) dX8_book_68 (by decide) (fun q68 => ?_) (fun zq => absurd zq h4)
  refine go_aload_n dX8_book_76 rfl ?_
  refine go_get dX8_book_77 fX8_30 rfl rfl ?_
  refine go_get dX8_book_80 fX8_114 rfl rfl ?_
  refine go_cV (as := []) dX8_book_83 mX1_bare kX8_220 iX1_bare sX1_bare rfl rfl rfl rfl (rX1_bare_a) rfl rfl rfl ?_
  refine go_cS (as := [_]) dX8_book_86 mJ6_bitCount_0f7a4 kX8_223 tJ6_bitCount_0f7a4 rfl rfl (rJ6_bitCount_0f7a4) rfl rfl rfl ?_
  refine go_iret dX8_book_89 rfl rfl ?_
  exact ⟨rfl, rfl⟩
set_option maxRecDepth 100000 in
set_option maxHeartbeats 4000000 in
theorem rX8_image_1 {E : gE} {d : Nat} {nw i0 i1 : WorldS} {pd : PadS} {lv : LivesS} {pl : PlanS} {mt : MatS} {nt : NetS} {m : ModS} {n : Int32} (h1 : isInB n 0 1 = false) : Ret E yX8_image cX8_image 2 (some .int) (d + 1) 0 0 [.ref 0, .int n] (hp nw i0 i1 pd lv pl mt nt m) (dt (some (.int (-2))) (hp nw i0 i1 pd lv pl mt nt m)) := by
  refine ret_of_go (L := [_, _]) (by decide) (Nat.le_of_ble_eq_true rfl) rfl ?_
  refine go_iload_n dX8_image_0 rfl ?_
  refine go_iconst (v := 0) dX8_image_1 (by decide) ?_
  refine go_iconst (v := 1) dX8_image_2 (by decide) ?_
  refine go_cS (as := [_, _, _]) dX8_image_3 mX8_isIn kX8_55 tX8_isIn rfl rfl (rX8_isIn) rfl rfl rfl ?_
  refine go_bn_f dX8_image_6 h1 ?_
  refine go_bipush (v := (-2)) dX8_image_9 (by decide) ?_
  refine go_iret dX8_image_11 rfl rfl ?_
  exact ⟨rfl, rfl⟩
set_option maxRecDepth 100000 in
set_option maxHeartbeats 4000000 in
theorem rX8_image_20 {E : gE} {d : Nat} {nw i0 i1 : WorldS} {pd : PadS} {lv : LivesS} {pl : PlanS} {mt : MatS} {nt : NetS} {m : ModS} (hz : ∀ k, k < 8 → narrow .boolean (.int (nw.2.2.2.1 k)) = .int (nw.2.2.2.1 k)) : Ret E yX8_image cX8_image 2 (some .int) (d + 3) 0 0 [.ref 0, .int 0] (hp nw i0 i1 pd lv pl mt nt m) (dt (some (.int 1)) (hp nw (nw.1, nw.2.1, nw.2.2.1, nw.2.2.2.1, nw.2.2.2.2.1, 1) i1 pd lv pl mt nt m)) := by
  refine ret_of_go (L := [_, _]) (by decide) (Nat.le_of_ble_eq_true rfl) rfl ?_
  refine go_iload_n dX8_image_0 rfl ?_
  refine go_iconst (v := 0) dX8_image_1 (by decide) ?_
  refine go_iconst (v := 1) dX8_image_2 (by decide) ?_
  refine go_cS (as := [_, _, _]) dX8_image_3 mX8_isIn kX8_55 tX8_isIn rfl rfl (rX8_isIn) rfl rfl rfl ?_
  refine go_bn_t (tgt := 12) dX8_image_6 (by decide) (by decide) ?_
  refine go_aload_n dX8_image_12 rfl ?_
  refine go_get dX8_image_13 fX8_16 rfl rfl ?_
  refine go_iload_n dX8_image_16 rfl ?_
  refine go_aald (q := 12) dX8_image_17 rfl (vp_in_nI (n := 0) (by decide) (by decide)) rfl ?_
  refine go_aload_n dX8_image_18 rfl ?_
  refine go_get dX8_image_19 fX8_10 rfl rfl ?_
  refine go_cVv (as := [_]) dX8_image_22 mX7_copyFrom kX8_228 iX7_copyFrom sX7_copyFrom rfl rfl rfl rfl (rX7_copyFrom_0n hz) rfl rfl rfl ?_
  refine go_aload_n dX8_image_25 rfl ?_
  refine go_get dX8_image_26 fX8_16 rfl rfl ?_
  refine go_iload_n dX8_image_29 rfl ?_
  refine go_aald (q := 12) dX8_image_30 rfl (vp_in_nI (n := 0) (by decide) (by decide)) rfl ?_
  refine go_iconst (v := 1) dX8_image_31 (by decide) ?_
  refine go_put dX8_image_32 fX8_230 (fun _ => rfl) (fun _ => rfl) rfl rfl ?_
  refine go_iconst (v := 1) dX8_image_35 (by decide) ?_
  refine go_iret dX8_image_36 rfl rfl ?_
  exact ⟨rfl, rfl⟩
set_option maxRecDepth 100000 in
set_option maxHeartbeats 4000000 in
theorem rX8_image_21 {E : gE} {d : Nat} {nw i0 i1 : WorldS} {pd : PadS} {lv : LivesS} {pl : PlanS} {mt : MatS} {nt : NetS} {m : ModS} (hz : ∀ k, k < 8 → narrow .boolean (.int (nw.2.2.2.1 k)) = .int (nw.2.2.2.1 k)) : Ret E yX8_image cX8_image 2 (some .int) (d + 3) 0 0 [.ref 0, .int 1] (hp nw i0 i1 pd lv pl mt nt m) (dt (some (.int 1)) (hp nw i0 (nw.1, nw.2.1, nw.2.2.1, nw.2.2.2.1, nw.2.2.2.2.1, 1) pd lv pl mt nt m)) := by
  refine ret_of_go (L := [_, _]) (by decide) (Nat.le_of_ble_eq_true rfl) rfl ?_
  refine go_iload_n dX8_image_0 rfl ?_
  refine go_iconst (v := 0) dX8_image_1 (by decide) ?_
  refine go_iconst (v := 1) dX8_image_2 (by decide) ?_
  refine go_cS (as := [_, _, _]) dX8_image_3 mX8_isIn kX8_55 tX8_isIn rfl rfl (rX8_isIn) rfl rfl rfl ?_
  refine go_bn_t (tgt := 12) dX8_image_6 (by decide) (by decide) ?_
  refine go_aload_n dX8_image_12 rfl ?_
  refine go_get dX8_image_13 fX8_16 rfl rfl ?_
  refine go_iload_n dX8_image_16 rfl ?_
  refine go_aald (q := 22) dX8_image_17 rfl (vp_in_nI (n := 1) (by decide) (by decide)) rfl ?_
  refine go_aload_n dX8_image_18 rfl ?_
  refine go_get dX8_image_19 fX8_10 rfl rfl ?_
  refine go_cVv (as := [_]) dX8_image_22 mX7_copyFrom kX8_228 iX7_copyFrom sX7_copyFrom rfl rfl rfl rfl (rX7_copyFrom_1n hz) rfl rfl rfl ?_
  refine go_aload_n dX8_image_25 rfl ?_
  refine go_get dX8_image_26 fX8_16 rfl rfl ?_
  refine go_iload_n dX8_image_29 rfl ?_
  refine go_aald (q := 22) dX8_image_30 rfl (vp_in_nI (n := 1) (by decide) (by decide)) rfl ?_
  refine go_iconst (v := 1) dX8_image_31 (by decide) ?_
  refine go_put dX8_image_32 fX8_230 (fun _ => rfl) (fun _ => rfl) rfl rfl ?_
  refine go_iconst (v := 1) dX8_image_35 (by decide) ?_
  refine go_iret dX8_image_36 rfl rfl ?_
  exact ⟨rfl, rfl⟩
set_option maxRecDepth 100000 in
set_option maxHeartbeats 4000000 in
theorem rX8_restore_1 {E : gE} {d : Nat} {nw i0 i1 : WorldS} {pd : PadS} {lv : LivesS} {pl : PlanS} {mt : MatS} {nt : NetS} {m : ModS} {n : Int32} (h1 : isInB n 0 1 = false) : Ret E yX8_restore cX8_restore 2 (some .int) (d + 1) 0 0 [.ref 0, .int n] (hp nw i0 i1 pd lv pl mt nt m) (dt (some (.int (-2))) (hp nw i0 i1 pd lv pl mt nt m)) := by
  refine ret_of_go (L := [_, _]) (by decide) (Nat.le_of_ble_eq_true rfl) rfl ?_
  refine go_iload_n dX8_restore_0 rfl ?_
  refine go_iconst (v := 0) dX8_restore_1 (by decide) ?_
  refine go_iconst (v := 1) dX8_restore_2 (by decide) ?_
  refine go_cS (as := [_, _, _]) dX8_restore_3 mX8_isIn kX8_55 tX8_isIn rfl rfl (rX8_isIn) rfl rfl rfl ?_
  refine go_bn_f dX8_restore_6 h1 ?_
  refine go_bipush (v := (-2)) dX8_restore_9 (by decide) ?_
  refine go_iret dX8_restore_11 rfl rfl ?_
  exact ⟨rfl, rfl⟩
set_option maxRecDepth 100000 in
set_option maxHeartbeats 4000000 in
theorem rX8_restore_20 {E : gE} {d : Nat} {nw i0 i1 : WorldS} {pd : PadS} {lv : LivesS} {pl : PlanS} {mt : MatS} {nt : NetS} {m : ModS} (h2 : i0.2.2.2.2.2 = 0) : Ret E yX8_restore cX8_restore 2 (some .int) (d + 1) 0 0 [.ref 0, .int 0] (hp nw i0 i1 pd lv pl mt nt m) (dt (some (.int (-3))) (hp nw i0 i1 pd lv pl mt nt m)) := by
  refine ret_of_go (L := [_, _]) (by decide) (Nat.le_of_ble_eq_true rfl) rfl ?_
  refine go_iload_n dX8_restore_0 rfl ?_
  refine go_iconst (v := 0) dX8_restore_1 (by decide) ?_
  refine go_iconst (v := 1) dX8_restore_2 (by decide) ?_
  refine go_cS (as := [_, _, _]) dX8_restore_3 mX8_isIn kX8_55 tX8_isIn rfl rfl (rX8_isIn) rfl rfl rfl ?_
  refine go_bn_t (tgt := 12) dX8_restore_6 (by decide) (by decide) ?_
  refine go_aload_n dX8_restore_12 rfl ?_
  refine go_get dX8_restore_13 fX8_16 rfl rfl ?_
  refine go_iload_n dX8_restore_16 rfl ?_
  refine go_aald (q := 12) dX8_restore_17 rfl (vp_in_nI (n := 0) (by decide) (by decide)) rfl ?_
  refine go_get dX8_restore_18 fX8_230 rfl rfl ?_
  refine go_if_ne (tgt := 27) dX8_restore_21 (by decide) (fun zq => absurd h2 zq) (fun q21 => ?_)
  refine go_bipush (v := (-3)) dX8_restore_24 (by decide) ?_
  refine go_iret dX8_restore_26 rfl rfl ?_
  exact ⟨rfl, rfl⟩
set_option maxRecDepth 100000 in
set_option maxHeartbeats 4000000 in
theorem rX8_restore_30 {E : gE} {d : Nat} {nw i0 i1 : WorldS} {pd : PadS} {lv : LivesS} {pl : PlanS} {mt : MatS} {nt : NetS} {m : ModS} (h2 : ¬ i0.2.2.2.2.2 = 0) (hz : ∀ k, k < 8 → narrow .boolean (.int (i0.2.2.2.1 k)) = .int (i0.2.2.2.1 k)) : Ret E yX8_restore cX8_restore 2 (some .int) (d + 3) 0 0 [.ref 0, .int 0] (hp nw i0 i1 pd lv pl mt nt m) (dt (some (.int 1)) (hp (i0.1, i0.2.1, i0.2.2.1, i0.2.2.2.1, i0.2.2.2.2.1, nw.2.2.2.2.2) i0 i1 pd lv (pl.1, pl.2.1, 0) mt nt m)) := by
  refine ret_of_go (L := [_, _]) (by decide) (Nat.le_of_ble_eq_true rfl) rfl ?_
  refine go_iload_n dX8_restore_0 rfl ?_
  refine go_iconst (v := 0) dX8_restore_1 (by decide) ?_
  refine go_iconst (v := 1) dX8_restore_2 (by decide) ?_
  refine go_cS (as := [_, _, _]) dX8_restore_3 mX8_isIn kX8_55 tX8_isIn rfl rfl (rX8_isIn) rfl rfl rfl ?_
  refine go_bn_t (tgt := 12) dX8_restore_6 (by decide) (by decide) ?_
  refine go_aload_n dX8_restore_12 rfl ?_
  refine go_get dX8_restore_13 fX8_16 rfl rfl ?_
  refine go_iload_n dX8_restore_16 rfl ?_
  refine go_aald (q := 12) dX8_restore_17 rfl (vp_in_nI (n := 0) (by decide) (by decide)) rfl ?_
  refine go_get dX8_restore_18 fX8_230 rfl rfl ?_
  refine go_if_ne (tgt := 27) dX8_restore_21 (by decide) (fun q21 => ?_) (fun zq => absurd zq h2)
  refine go_aload_n dX8_restore_27 rfl ?_
  refine go_get dX8_restore_28 fX8_10 rfl rfl ?_
  refine go_aload_n dX8_restore_31 rfl ?_
  refine go_get dX8_restore_32 fX8_16 rfl rfl ?_
  refine go_iload_n dX8_restore_35 rfl ?_
  refine go_aald (q := 12) dX8_restore_36 rfl (vp_in_nI (n := 0) (by decide) (by decide)) rfl ?_
  refine go_cVv (as := [_]) dX8_restore_37 mX7_copyFrom kX8_228 iX7_copyFrom sX7_copyFrom rfl rfl rfl rfl (rX7_copyFrom_n0 hz) rfl rfl rfl ?_
  refine go_aload_n dX8_restore_40 rfl ?_
  refine go_get dX8_restore_41 fX8_37 rfl rfl ?_
  refine go_cVv (as := []) dX8_restore_44 mX6_forgetValues kX8_88 iX6_forgetValues sX6_forgetValues rfl rfl rfl rfl (rX6_forgetValues) rfl rfl rfl ?_
  refine go_iconst (v := 1) dX8_restore_47 (by decide) ?_
  refine go_iret dX8_restore_48 rfl rfl ?_
  exact ⟨rfl, rfl⟩
set_option maxRecDepth 100000 in
set_option maxHeartbeats 4000000 in
theorem rX8_restore_21 {E : gE} {d : Nat} {nw i0 i1 : WorldS} {pd : PadS} {lv : LivesS} {pl : PlanS} {mt : MatS} {nt : NetS} {m : ModS} (h2 : i1.2.2.2.2.2 = 0) : Ret E yX8_restore cX8_restore 2 (some .int) (d + 1) 0 0 [.ref 0, .int 1] (hp nw i0 i1 pd lv pl mt nt m) (dt (some (.int (-3))) (hp nw i0 i1 pd lv pl mt nt m)) := by
  refine ret_of_go (L := [_, _]) (by decide) (Nat.le_of_ble_eq_true rfl) rfl ?_
  refine go_iload_n dX8_restore_0 rfl ?_
  refine go_iconst (v := 0) dX8_restore_1 (by decide) ?_
  refine go_iconst (v := 1) dX8_restore_2 (by decide) ?_
  refine go_cS (as := [_, _, _]) dX8_restore_3 mX8_isIn kX8_55 tX8_isIn rfl rfl (rX8_isIn) rfl rfl rfl ?_
  refine go_bn_t (tgt := 12) dX8_restore_6 (by decide) (by decide) ?_
  refine go_aload_n dX8_restore_12 rfl ?_
  refine go_get dX8_restore_13 fX8_16 rfl rfl ?_
  refine go_iload_n dX8_restore_16 rfl ?_
  refine go_aald (q := 22) dX8_restore_17 rfl (vp_in_nI (n := 1) (by decide) (by decide)) rfl ?_
  refine go_get dX8_restore_18 fX8_230 rfl rfl ?_
  refine go_if_ne (tgt := 27) dX8_restore_21 (by decide) (fun zq => absurd h2 zq) (fun q21 => ?_)
  refine go_bipush (v := (-3)) dX8_restore_24 (by decide) ?_
  refine go_iret dX8_restore_26 rfl rfl ?_
  exact ⟨rfl, rfl⟩
set_option maxRecDepth 100000 in
set_option maxHeartbeats 4000000 in
theorem rX8_restore_31 {E : gE} {d : Nat} {nw i0 i1 : WorldS} {pd : PadS} {lv : LivesS} {pl : PlanS} {mt : MatS} {nt : NetS} {m : ModS} (h2 : ¬ i1.2.2.2.2.2 = 0) (hz : ∀ k, k < 8 → narrow .boolean (.int (i1.2.2.2.1 k)) = .int (i1.2.2.2.1 k)) : Ret E yX8_restore cX8_restore 2 (some .int) (d + 3) 0 0 [.ref 0, .int 1] (hp nw i0 i1 pd lv pl mt nt m) (dt (some (.int 1)) (hp (i1.1, i1.2.1, i1.2.2.1, i1.2.2.2.1, i1.2.2.2.2.1, nw.2.2.2.2.2) i0 i1 pd lv (pl.1, pl.2.1, 0) mt nt m)) := by
  refine ret_of_go (L := [_, _]) (by decide) (Nat.le_of_ble_eq_true rfl) rfl ?_
  refine go_iload_n dX8_restore_0 rfl ?_
  refine go_iconst (v := 0) dX8_restore_1 (by decide) ?_
  refine go_iconst (v := 1) dX8_restore_2 (by decide) ?_
  refine go_cS (as := [_, _, _]) dX8_restore_3 mX8_isIn kX8_55 tX8_isIn rfl rfl (rX8_isIn) rfl rfl rfl ?_
  refine go_bn_t (tgt := 12) dX8_restore_6 (by decide) (by decide) ?_
  refine go_aload_n dX8_restore_12 rfl ?_
  refine go_get dX8_restore_13 fX8_16 rfl rfl ?_
  refine go_iload_n dX8_restore_16 rfl ?_
  refine go_aald (q := 22) dX8_restore_17 rfl (vp_in_nI (n := 1) (by decide) (by decide)) rfl ?_
  refine go_get dX8_restore_18 fX8_230 rfl rfl ?_
  refine go_if_ne (tgt := 27) dX8_restore_21 (by decide) (fun q21 => ?_) (fun zq => absurd zq h2)
  refine go_aload_n dX8_restore_27 rfl ?_
  refine go_get dX8_restore_28 fX8_10 rfl rfl ?_
  refine go_aload_n dX8_restore_31 rfl ?_
  refine go_get dX8_restore_32 fX8_16 rfl rfl ?_
  refine go_iload_n dX8_restore_35 rfl ?_
  refine go_aald (q := 22) dX8_restore_36 rfl (vp_in_nI (n := 1) (by decide) (by decide)) rfl ?_
  refine go_cVv (as := [_]) dX8_restore_37 mX7_copyFrom kX8_228 iX7_copyFrom sX7_copyFrom rfl rfl rfl rfl (rX7_copyFrom_n1 hz) rfl rfl rfl ?_
  refine go_aload_n dX8_restore_40 rfl ?_
  refine go_get dX8_restore_41 fX8_37 rfl rfl ?_
  refine go_cVv (as := []) dX8_restore_44 mX6_forgetValues kX8_88 iX6_forgetValues sX6_forgetValues rfl rfl rfl rfl (rX6_forgetValues) rfl rfl rfl ?_
  refine go_iconst (v := 1) dX8_restore_47 (by decide) ?_
  refine go_iret dX8_restore_48 rfl rfl ?_
  exact ⟨rfl, rfl⟩
theorem inB_hi {k a b : Nat} (h : b < k) (hk : k < 2 ^ 31) : isInB (nI k) (nI a) (nI b) = false := by
  have h1 : decide (nI k ≤ nI b) = false := decide_eq_false (nI_ge h hk)
  rw [isInB, h1, Bool.and_false]
set_option maxRecDepth 100000 in
set_option maxHeartbeats 4000000 in
theorem rX8_told_0 {E : gE} {d : Nat} {nw i0 i1 : WorldS} {pd : PadS} {lv : LivesS} {pl : PlanS} {mt : MatS} {nt : NetS} {m : ModS} : Ret E yX8_told cX8_told 2 (some .int) (d + 1) 0 0 [.ref 0, .int 0] (hp nw i0 i1 pd lv pl mt nt m) (dt (some (.int (pd.2))) (hp nw i0 i1 pd lv pl mt nt m)) := by
  refine ret_of_go (L := [_, _]) (by decide) (Nat.le_of_ble_eq_true rfl) rfl ?_
  refine go_iload_n dX8_told_0 rfl ?_
  refine go_if_ne (tgt := 12) dX8_told_1 (by decide) (fun zq => absurd rfl zq) (fun q1 => ?_)
  refine go_aload_n dX8_told_4 rfl ?_
  refine go_get dX8_told_5 fX8_23 rfl rfl ?_
  refine go_get dX8_told_8 fX8_91 rfl rfl ?_
  refine go_iret dX8_told_11 rfl rfl ?_
  exact ⟨rfl, rfl⟩
set_option maxRecDepth 100000 in
set_option maxHeartbeats 4000000 in
theorem rX8_told_1 {E : gE} {d : Nat} {nw i0 i1 : WorldS} {pd : PadS} {lv : LivesS} {pl : PlanS} {mt : MatS} {nt : NetS} {m : ModS} : Ret E yX8_told cX8_told 2 (some .int) (d + 1) 0 0 [.ref 0, .int 1] (hp nw i0 i1 pd lv pl mt nt m) (dt (some (.int (nw.1.1))) (hp nw i0 i1 pd lv pl mt nt m)) := by
  refine ret_of_go (L := [_, _]) (by decide) (Nat.le_of_ble_eq_true rfl) rfl ?_
  refine go_iload_n dX8_told_0 rfl ?_
  refine go_if_ne (tgt := 12) dX8_told_1 (by decide) (fun q1 => ?_) (fun zq => absurd zq (by decide))
  refine go_iload_n dX8_told_12 rfl ?_
  refine go_iconst (v := 1) dX8_told_13 (by decide) ?_
  refine go_icmp_ne (tgt := 28) dX8_told_14 (by decide) (fun zq => absurd rfl zq) (fun q14 => ?_)
  refine go_aload_n dX8_told_17 rfl ?_
  refine go_get dX8_told_18 fX8_10 rfl rfl ?_
  refine go_get dX8_told_21 fX8_59 rfl rfl ?_
  refine go_get dX8_told_24 fX8_234 rfl rfl ?_
  refine go_iret dX8_told_27 rfl rfl ?_
  exact ⟨rfl, rfl⟩
set_option maxRecDepth 100000 in
set_option maxHeartbeats 4000000 in
theorem rX8_told_2 {E : gE} {d : Nat} {nw i0 i1 : WorldS} {pd : PadS} {lv : LivesS} {pl : PlanS} {mt : MatS} {nt : NetS} {m : ModS} : Ret E yX8_told cX8_told 2 (some .int) (d + 1) 0 0 [.ref 0, .int 2] (hp nw i0 i1 pd lv pl mt nt m) (dt (some (.int (nw.1.2.1))) (hp nw i0 i1 pd lv pl mt nt m)) := by
  refine ret_of_go (L := [_, _]) (by decide) (Nat.le_of_ble_eq_true rfl) rfl ?_
  refine go_iload_n dX8_told_0 rfl ?_
  refine go_if_ne (tgt := 12) dX8_told_1 (by decide) (fun q1 => ?_) (fun zq => absurd zq (by decide))
  refine go_iload_n dX8_told_12 rfl ?_
  refine go_iconst (v := 1) dX8_told_13 (by decide) ?_
  refine go_icmp_ne (tgt := 28) dX8_told_14 (by decide) (fun q14 => ?_) (fun zq => absurd zq (by decide))
  refine go_iload_n dX8_told_28 rfl ?_
  refine go_iconst (v := 2) dX8_told_29 (by decide) ?_
  refine go_icmp_ne (tgt := 44) dX8_told_30 (by decide) (fun zq => absurd rfl zq) (fun q30 => ?_)
  refine go_aload_n dX8_told_33 rfl ?_
  refine go_get dX8_told_34 fX8_10 rfl rfl ?_
  refine go_get dX8_told_37 fX8_59 rfl rfl ?_
  refine go_get dX8_told_40 fX8_237 rfl rfl ?_
  refine go_iret dX8_told_43 rfl rfl ?_
  exact ⟨rfl, rfl⟩
set_option maxRecDepth 100000 in
set_option maxHeartbeats 4000000 in
theorem rX8_told_3 {E : gE} {d : Nat} {nw i0 i1 : WorldS} {pd : PadS} {lv : LivesS} {pl : PlanS} {mt : MatS} {nt : NetS} {m : ModS} : Ret E yX8_told cX8_told 2 (some .int) (d + 1) 0 0 [.ref 0, .int 3] (hp nw i0 i1 pd lv pl mt nt m) (dt (some (.int (nw.2.2.2.2.1))) (hp nw i0 i1 pd lv pl mt nt m)) := by
  refine ret_of_go (L := [_, _]) (by decide) (Nat.le_of_ble_eq_true rfl) rfl ?_
  refine go_iload_n dX8_told_0 rfl ?_
  refine go_if_ne (tgt := 12) dX8_told_1 (by decide) (fun q1 => ?_) (fun zq => absurd zq (by decide))
  refine go_iload_n dX8_told_12 rfl ?_
  refine go_iconst (v := 1) dX8_told_13 (by decide) ?_
  refine go_icmp_ne (tgt := 28) dX8_told_14 (by decide) (fun q14 => ?_) (fun zq => absurd zq (by decide))
  refine go_iload_n dX8_told_28 rfl ?_
  refine go_iconst (v := 2) dX8_told_29 (by decide) ?_
  refine go_icmp_ne (tgt := 44) dX8_told_30 (by decide) (fun q30 => ?_) (fun zq => absurd zq (by decide))
  refine go_iload_n dX8_told_44 rfl ?_
  refine go_iconst (v := 3) dX8_told_45 (by decide) ?_
  refine go_icmp_ne (tgt := 57) dX8_told_46 (by decide) (fun zq => absurd rfl zq) (fun q46 => ?_)
  refine go_aload_n dX8_told_49 rfl ?_
  refine go_get dX8_told_50 fX8_10 rfl rfl ?_
  refine go_get dX8_told_53 fX8_200 rfl rfl ?_
  refine go_iret dX8_told_56 rfl rfl ?_
  exact ⟨rfl, rfl⟩
set_option maxRecDepth 100000 in
set_option maxHeartbeats 4000000 in
theorem rX8_told_4 {E : gE} {d : Nat} {nw i0 i1 : WorldS} {pd : PadS} {lv : LivesS} {pl : PlanS} {mt : MatS} {nt : NetS} {m : ModS} {k : Nat} (hk1 : 1 ≤ k) (hk : k ≤ 9) : Ret E yX8_told cX8_told 2 (some .int) (d + 2) 0 0 [.ref 0, .int (nI (k + 10))] (hp nw i0 i1 pd lv pl mt nt m) (dt (some (.int (nw.2.1 k))) (hp nw i0 i1 pd lv pl mt nt m)) := by
  refine ret_of_go (L := [_, _]) (by decide) (Nat.le_of_ble_eq_true rfl) rfl ?_
  refine go_iload_n dX8_told_0 rfl ?_
  refine go_if_ne (tgt := 12) dX8_told_1 (by decide) (fun q1 => ?_) (fun zq => absurd zq (fun h9 => absurd ((nI_eq (a := k + 10) (b := 0) (by omega) (by decide)).mp h9) (by omega)))
  refine go_iload_n dX8_told_12 rfl ?_
  refine go_iconst (v := 1) dX8_told_13 (by decide) ?_
  refine go_icmp_ne (tgt := 28) dX8_told_14 (by decide) (fun q14 => ?_) (fun zq => absurd zq (fun h9 => absurd ((nI_eq (a := k + 10) (b := 1) (by omega) (by decide)).mp h9) (by omega)))
  refine go_iload_n dX8_told_28 rfl ?_
  refine go_iconst (v := 2) dX8_told_29 (by decide) ?_
  refine go_icmp_ne (tgt := 44) dX8_told_30 (by decide) (fun q30 => ?_) (fun zq => absurd zq (fun h9 => absurd ((nI_eq (a := k + 10) (b := 2) (by omega) (by decide)).mp h9) (by omega)))
  refine go_iload_n dX8_told_44 rfl ?_
  refine go_iconst (v := 3) dX8_told_45 (by decide) ?_
  refine go_icmp_ne (tgt := 57) dX8_told_46 (by decide) (fun q46 => ?_) (fun zq => absurd zq (fun h9 => absurd ((nI_eq (a := k + 10) (b := 3) (by omega) (by decide)).mp h9) (by omega)))
  refine go_iload_n dX8_told_57 rfl ?_
  refine go_bipush (v := 11) dX8_told_58 (by decide) ?_
  refine go_bipush (v := 19) dX8_told_60 (by decide) ?_
  refine go_cS (as := [_, _, _]) dX8_told_62 mX8_isIn kX8_55 tX8_isIn rfl rfl (rX8_isIn) rfl rfl rfl ?_
  refine go_be_t dX8_told_65 (inB_of (k := k + 10) (a := 11) (b := 19) (by omega) (by omega) (by decide)) ?_
  refine go_aload_n dX8_told_68 rfl ?_
  refine go_get dX8_told_69 fX8_10 rfl rfl ?_
  refine go_get dX8_told_72 fX8_81 rfl rfl ?_
  refine go_iload_n dX8_told_75 rfl ?_
  refine go_bipush (v := 10) dX8_told_76 (by decide) ?_
  refine go_isub dX8_told_78 ?_
  refine go_topi_eq (x := nI k) (pk_sub (a := k + 10) (b := 10) (by omega)) ?_
  refine go_ialdN (k) dX8_told_79 rfl (by omega) rfl ?_
  refine go_iret dX8_told_80 rfl rfl ?_
  exact ⟨rfl, rfl⟩
set_option maxRecDepth 100000 in
set_option maxHeartbeats 4000000 in
theorem rX8_told_5 {E : gE} {d : Nat} {nw i0 i1 : WorldS} {pd : PadS} {lv : LivesS} {pl : PlanS} {mt : MatS} {nt : NetS} {m : ModS} {k : Nat} (hk : k < 6) (h5 : hasB nw.1.1 (nI k) = true) : Ret E yX8_told cX8_told 2 (some .int) (d + 2) 0 0 [.ref 0, .int (nI (k + 20))] (hp nw i0 i1 pd lv pl mt nt m) (dt (some (.int (ft nw.1 k))) (hp nw i0 i1 pd lv pl mt nt m)) := by
  refine ret_of_go (L := [_, _]) (by decide) (Nat.le_of_ble_eq_true rfl) rfl ?_
  refine go_iload_n dX8_told_0 rfl ?_
  refine go_if_ne (tgt := 12) dX8_told_1 (by decide) (fun q1 => ?_) (fun zq => absurd zq (fun h9 => absurd ((nI_eq (a := k + 20) (b := 0) (by omega) (by decide)).mp h9) (by omega)))
  refine go_iload_n dX8_told_12 rfl ?_
  refine go_iconst (v := 1) dX8_told_13 (by decide) ?_
  refine go_icmp_ne (tgt := 28) dX8_told_14 (by decide) (fun q14 => ?_) (fun zq => absurd zq (fun h9 => absurd ((nI_eq (a := k + 20) (b := 1) (by omega) (by decide)).mp h9) (by omega)))
  refine go_iload_n dX8_told_28 rfl ?_
  refine go_iconst (v := 2) dX8_told_29 (by decide) ?_
  refine go_icmp_ne (tgt := 44) dX8_told_30 (by decide) (fun q30 => ?_) (fun zq => absurd zq (fun h9 => absurd ((nI_eq (a := k + 20) (b := 2) (by omega) (by decide)).mp h9) (by omega)))
  refine go_iload_n dX8_told_44 rfl ?_
  refine go_iconst (v := 3) dX8_told_45 (by decide) ?_
  refine go_icmp_ne (tgt := 57) dX8_told_46 (by decide) (fun q46 => ?_) (fun zq => absurd zq (fun h9 => absurd ((nI_eq (a := k + 20) (b := 3) (by omega) (by decide)).mp h9) (by omega)))
  refine go_iload_n dX8_told_57 rfl ?_
  refine go_bipush (v := 11) dX8_told_58 (by decide) ?_
  refine go_bipush (v := 19) dX8_told_60 (by decide) ?_
  refine go_cS (as := [_, _, _]) dX8_told_62 mX8_isIn kX8_55 tX8_isIn rfl rfl (rX8_isIn) rfl rfl rfl ?_
  refine go_be_f (tgt := 81) dX8_told_65 (by decide) (inB_hi (a := 11) (b := 19) (by omega) (by omega)) ?_
  refine go_iload_n dX8_told_81 rfl ?_
  refine go_bipush (v := 20) dX8_told_82 (by decide) ?_
  refine go_bipush (v := 25) dX8_told_84 (by decide) ?_
  refine go_cS (as := [_, _, _]) dX8_told_86 mX8_isIn kX8_55 tX8_isIn rfl rfl (rX8_isIn) rfl rfl rfl ?_
  refine go_be_t dX8_told_89 (inB_of (k := k + 20) (a := 20) (b := 25) (by omega) (by omega) (by decide)) ?_
  refine go_aload_n dX8_told_92 rfl ?_
  refine go_get dX8_told_93 fX8_10 rfl rfl ?_
  refine go_get dX8_told_96 fX8_59 rfl rfl ?_
  refine go_iload_n dX8_told_99 rfl ?_
  refine go_bipush (v := 20) dX8_told_100 (by decide) ?_
  refine go_isub dX8_told_102 ?_
  refine go_topi_eq (x := nI k) (pk_sub (a := k + 20) (b := 20) (by omega)) ?_
  refine go_cV (as := [_]) dX8_told_103 mX1_has kX8_73 iX1_has sX1_has rfl rfl rfl rfl (rX1_has_n) rfl rfl rfl ?_
  refine go_be_t dX8_told_106 h5 ?_
  refine go_aload_n dX8_told_109 rfl ?_
  refine go_get dX8_told_110 fX8_10 rfl rfl ?_
  refine go_get dX8_told_113 fX8_59 rfl rfl ?_
  refine go_get dX8_told_116 fX8_240 rfl rfl ?_
  refine go_iload_n dX8_told_119 rfl ?_
  refine go_bipush (v := 20) dX8_told_120 (by decide) ?_
  refine go_isub dX8_told_122 ?_
  refine go_topi_eq (x := nI k) (pk_sub (a := k + 20) (b := 20) (by omega)) ?_
  refine go_ialdN (k) dX8_told_123 rfl (by omega) rfl ?_
  refine go_iret dX8_told_124 rfl rfl ?_
  exact ⟨rfl, rfl⟩
set_option maxRecDepth 100000 in
set_option maxHeartbeats 4000000 in
theorem rX8_told_6 {E : gE} {d : Nat} {nw i0 i1 : WorldS} {pd : PadS} {lv : LivesS} {pl : PlanS} {mt : MatS} {nt : NetS} {m : ModS} {k : Nat} (hk : k < 6) (h5 : hasB nw.1.1 (nI k) = false) : Ret E yX8_told cX8_told 2 (some .int) (d + 2) 0 0 [.ref 0, .int (nI (k + 20))] (hp nw i0 i1 pd lv pl mt nt m) (dt (some (.int (-2))) (hp nw i0 i1 pd lv pl mt nt m)) := by
  refine ret_of_go (L := [_, _]) (by decide) (Nat.le_of_ble_eq_true rfl) rfl ?_
  refine go_iload_n dX8_told_0 rfl ?_
  refine go_if_ne (tgt := 12) dX8_told_1 (by decide) (fun q1 => ?_) (fun zq => absurd zq (fun h9 => absurd ((nI_eq (a := k + 20) (b := 0) (by omega) (by decide)).mp h9) (by omega)))
  refine go_iload_n dX8_told_12 rfl ?_
  refine go_iconst (v := 1) dX8_told_13 (by decide) ?_
  refine go_icmp_ne (tgt := 28) dX8_told_14 (by decide) (fun q14 => ?_) (fun zq => absurd zq (fun h9 => absurd ((nI_eq (a := k + 20) (b := 1) (by omega) (by decide)).mp h9) (by omega)))
  refine go_iload_n dX8_told_28 rfl ?_
  refine go_iconst (v := 2) dX8_told_29 (by decide) ?_
  refine go_icmp_ne (tgt := 44) dX8_told_30 (by decide) (fun q30 => ?_) (fun zq => absurd zq (fun h9 => absurd ((nI_eq (a := k + 20) (b := 2) (by omega) (by decide)).mp h9) (by omega)))
  refine go_iload_n dX8_told_44 rfl ?_
  refine go_iconst (v := 3) dX8_told_45 (by decide) ?_
  refine go_icmp_ne (tgt := 57) dX8_told_46 (by decide) (fun q46 => ?_) (fun zq => absurd zq (fun h9 => absurd ((nI_eq (a := k + 20) (b := 3) (by omega) (by decide)).mp h9) (by omega)))
  refine go_iload_n dX8_told_57 rfl ?_
  refine go_bipush (v := 11) dX8_told_58 (by decide) ?_
  refine go_bipush (v := 19) dX8_told_60 (by decide) ?_
  refine go_cS (as := [_, _, _]) dX8_told_62 mX8_isIn kX8_55 tX8_isIn rfl rfl (rX8_isIn) rfl rfl rfl ?_
  refine go_be_f (tgt := 81) dX8_told_65 (by decide) (inB_hi (a := 11) (b := 19) (by omega) (by omega)) ?_
  refine go_iload_n dX8_told_81 rfl ?_
  refine go_bipush (v := 20) dX8_told_82 (by decide) ?_
  refine go_bipush (v := 25) dX8_told_84 (by decide) ?_
  refine go_cS (as := [_, _, _]) dX8_told_86 mX8_isIn kX8_55 tX8_isIn rfl rfl (rX8_isIn) rfl rfl rfl ?_
  refine go_be_t dX8_told_89 (inB_of (k := k + 20) (a := 20) (b := 25) (by omega) (by omega) (by decide)) ?_
  refine go_aload_n dX8_told_92 rfl ?_
  refine go_get dX8_told_93 fX8_10 rfl rfl ?_
  refine go_get dX8_told_96 fX8_59 rfl rfl ?_
  refine go_iload_n dX8_told_99 rfl ?_
  refine go_bipush (v := 20) dX8_told_100 (by decide) ?_
  refine go_isub dX8_told_102 ?_
  refine go_topi_eq (x := nI k) (pk_sub (a := k + 20) (b := 20) (by omega)) ?_
  refine go_cV (as := [_]) dX8_told_103 mX1_has kX8_73 iX1_has sX1_has rfl rfl rfl rfl (rX1_has_n) rfl rfl rfl ?_
  refine go_be_f (tgt := 125) dX8_told_106 (by decide) h5 ?_
  refine go_bipush (v := (-2)) dX8_told_125 (by decide) ?_
  refine go_iret dX8_told_127 rfl rfl ?_
  exact ⟨rfl, rfl⟩
set_option maxRecDepth 100000 in
set_option maxHeartbeats 4000000 in
theorem rX8_told_7 {E : gE} {d : Nat} {nw i0 i1 : WorldS} {pd : PadS} {lv : LivesS} {pl : PlanS} {mt : MatS} {nt : NetS} {m : ModS} {w : Int32} (h0 : ¬ w = 0) (h1 : ¬ w = 1) (h2 : ¬ w = 2) (h3 : ¬ w = 3) (h4 : isInB w 11 19 = false) (h5 : isInB w 20 25 = false) : Ret E yX8_told cX8_told 2 (some .int) (d + 2) 0 0 [.ref 0, .int w] (hp nw i0 i1 pd lv pl mt nt m) (dt (some (.int (-2))) (hp nw i0 i1 pd lv pl mt nt m)) := by
  refine ret_of_go (L := [_, _]) (by decide) (Nat.le_of_ble_eq_true rfl) rfl ?_
  refine go_iload_n dX8_told_0 rfl ?_
  refine go_if_ne (tgt := 12) dX8_told_1 (by decide) (fun q1 => ?_) (fun zq => absurd zq h0)
  refine go_iload_n dX8_told_12 rfl ?_
  refine go_iconst (v := 1) dX8_told_13 (by decide) ?_
  refine go_icmp_ne (tgt := 28) dX8_told_14 (by decide) (fun q14 => ?_) (fun zq => absurd zq h1)
  refine go_iload_n dX8_told_28 rfl ?_
  refine go_iconst (v := 2) dX8_told_29 (by decide) ?_
  refine go_icmp_ne (tgt := 44) dX8_told_30 (by decide) (fun q30 => ?_) (fun zq => absurd zq h2)
  refine go_iload_n dX8_told_44 rfl ?_
  refine go_iconst (v := 3) dX8_told_45 (by decide) ?_
  refine go_icmp_ne (tgt := 57) dX8_told_46 (by decide) (fun q46 => ?_) (fun zq => absurd zq h3)
  refine go_iload_n dX8_told_57 rfl ?_
  refine go_bipush (v := 11) dX8_told_58 (by decide) ?_
  refine go_bipush (v := 19) dX8_told_60 (by decide) ?_
  refine go_cS (as := [_, _, _]) dX8_told_62 mX8_isIn kX8_55 tX8_isIn rfl rfl (rX8_isIn) rfl rfl rfl ?_
  refine go_be_f (tgt := 81) dX8_told_65 (by decide) h4 ?_
  refine go_iload_n dX8_told_81 rfl ?_
  refine go_bipush (v := 20) dX8_told_82 (by decide) ?_
  refine go_bipush (v := 25) dX8_told_84 (by decide) ?_
  refine go_cS (as := [_, _, _]) dX8_told_86 mX8_isIn kX8_55 tX8_isIn rfl rfl (rX8_isIn) rfl rfl rfl ?_
  refine go_be_f (tgt := 125) dX8_told_89 (by decide) h5 ?_
  refine go_bipush (v := (-2)) dX8_told_125 (by decide) ?_
  refine go_iret dX8_told_127 rfl rfl ?_
  exact ⟨rfl, rfl⟩
