set_option maxRecDepth 100000 in
set_option maxHeartbeats 4000000 in
theorem rX6_meanOfBetter {E : gE} {d : Nat} {nw i0 i1 : WorldS} {pd : PadS} {lv : LivesS} {pl : PlanS} {mt : MatS} {nt : NetS} {m : ModS} {n q : Nat} (h1 : 1 ≤ n) (hn : n ≤ 9) (h2 : 1 ≤ q) (hq : q ≤ 8) : Ret E yX6_meanOfBetter cX6_meanOfBetter 7 (some .long) (d + 2) 0 0 [.ref 42, .ref 8, .int (nI n), .int (nI q)] (hp nw i0 i1 pd lv pl mt nt m) (dt (some (.long (mbF nw.2.1 pl.1 pl.2.1 n q))) (hp nw i0 i1 pd lv pl mt nt m)) := by
  refine ret_of_go (L := [_, _, _, _, _, _, _]) (by decide) (Nat.le_of_ble_eq_true rfl) rfl ?_
  have key : ∀ (j k : Nat) (acc : Int64), k + j = 9 → acc = sumL (fun k => (nw.2.1 (k + 1)).toInt64 * mxL (pl.1 (n * 9 + (q - 1))) (vsF pl.1 pl.2.1 n q (nI (k + 1)))) k → Go E yX6_meanOfBetter cX6_meanOfBetter 7 (some .long) (d + 2) 0 0 0 0 6 [some (.ref 42), some (.ref 8), some (.int (nI n)), some (.int (nI q)), some (.long acc), none, some (.int (nI (k + 1)))] [] (hp nw i0 i1 pd lv pl mt nt m) (dt (some (.long (mbF nw.2.1 pl.1 pl.2.1 n q))) (hp nw i0 i1 pd lv pl mt nt m)) := by
    intro j
    induction j with
    | zero =>
      intro k acc hk ha
      obtain rfl : k = 9 := by omega
      refine go_iload dX6_meanOfBetter_6 rfl ?_
      refine go_bipush (v := 9) dX6_meanOfBetter_8 (by decide) ?_
      refine go_icmp_gt (tgt := 49) dX6_meanOfBetter_10 (by decide) (fun q10 => ?_) (fun q => absurd (nI_lt (a := 9) (b := 10) (by decide) (by decide)) q)
      refine go_lload dX6_meanOfBetter_49 rfl ?_
      refine go_lret dX6_meanOfBetter_51 rfl rfl ?_
      exact ⟨by rw [ha]; rfl, rfl⟩
    | succ j ih =>
      intro k acc hk ha
      refine go_iload dX6_meanOfBetter_6 rfl ?_
      refine go_bipush (v := 9) dX6_meanOfBetter_8 (by decide) ?_
      refine go_icmp_gt (tgt := 49) dX6_meanOfBetter_10 (by decide) (fun q => absurd q (nI_nlt (a := 9) (b := k + 1) (by omega) (by decide))) (fun q10 => ?_)
      refine go_lload dX6_meanOfBetter_13 rfl ?_
      refine go_aload_n dX6_meanOfBetter_15 rfl ?_
      refine go_iload dX6_meanOfBetter_16 rfl ?_
      refine go_ialdN (k + 1) dX6_meanOfBetter_18 rfl (by omega) rfl ?_
      refine go_i2l dX6_meanOfBetter_19 ?_
      refine go_aload_n dX6_meanOfBetter_20 rfl ?_
      refine go_iload_n dX6_meanOfBetter_21 rfl ?_
      refine go_iload_n dX6_meanOfBetter_22 rfl ?_
      refine go_iconst (v := 1) dX6_meanOfBetter_23 (by decide) ?_
      refine go_isub dX6_meanOfBetter_24 ?_
      refine go_topi_eq (nI_m1 h2) ?_
      refine go_cV (as := [_, _]) dX6_meanOfBetter_25 mX6_value kX6_36 iX6_value sX6_value rfl rfl rfl rfl (rX6_value (n := n) (q := q - 1) (by omega) (by omega)) rfl rfl rfl ?_
      refine go_aload_n dX6_meanOfBetter_28 rfl ?_
      refine go_iload_n dX6_meanOfBetter_29 rfl ?_
      refine go_iload_n dX6_meanOfBetter_30 rfl ?_
      refine go_iload dX6_meanOfBetter_31 rfl ?_
      refine go_cV (as := [_, _, _]) dX6_meanOfBetter_33 mX6_valueOfSigning kX6_40 iX6_valueOfSigning sX6_valueOfSigning rfl rfl rfl rfl (rX6_valueOfSigning h1 hn h2 hq) rfl rfl rfl ?_
      refine go_mmaxl dX6_meanOfBetter_36 mkX6_44 rfl rfl rfl ?_
      refine go_lmul dX6_meanOfBetter_39 ?_
      refine go_ladd dX6_meanOfBetter_40 ?_
      refine go_lstore (L' := [_, _, _, _, _, _, _]) dX6_meanOfBetter_41 rfl rfl rfl ?_
      refine go_iinc (v := nI (k + 1 + 1)) (L' := [_, _, _, _, _, _, _]) dX6_meanOfBetter_43 rfl (nI_1 (k + 1)) rfl rfl rfl ?_
      refine go_goto (tgt := 6) dX6_meanOfBetter_46 (by decide) ?_
      exact ih (k + 1) _ (by omega) (by rw [ha]; rfl)
  refine go_lconst (v := 0) dX6_meanOfBetter_0 (by decide) ?_
  refine go_lstore (L' := [_, _, _, _, _, _, _]) dX6_meanOfBetter_1 rfl rfl rfl ?_
  refine go_iconst (v := 1) dX6_meanOfBetter_3 (by decide) ?_
  refine go_istore (L' := [_, _, _, _, _, _, _]) dX6_meanOfBetter_4 rfl rfl rfl ?_
  exact key 9 0 0 rfl rfl
set_option maxRecDepth 100000 in
set_option maxHeartbeats 4000000 in
theorem rX6_leastToSign {E : gE} {d : Nat} {nw i0 i1 : WorldS} {pd : PadS} {lv : LivesS} {pl : PlanS} {mt : MatS} {nt : NetS} {m : ModS} {n q : Nat} (h1 : 1 ≤ n) (hn : n ≤ 9) (h2 : 1 ≤ q) (hq : q ≤ 8) : Ret E yX6_leastToSign cX6_leastToSign 4 (some .int) (d + 3) 0 0 [.ref 42, .int (nI n), .int (nI q)] (hp nw i0 i1 pd lv pl mt nt m) (dt (some (.int (ltR pl.1 pl.2.1 n q 8 1))) (hp nw i0 i1 pd lv pl mt nt m)) := by
  refine ret_of_go (L := [_, _, _, _]) (by decide) (Nat.le_of_ble_eq_true rfl) rfl ?_
  have key : ∀ (j w : Nat), w + j = 9 → ltR pl.1 pl.2.1 n q j w = ltR pl.1 pl.2.1 n q 8 1 → Go E yX6_leastToSign cX6_leastToSign 4 (some .int) (d + 3) 0 0 0 0 2 [some (.ref 42), some (.int (nI n)), some (.int (nI q)), some (.int (nI w))] [] (hp nw i0 i1 pd lv pl mt nt m) (dt (some (.int (ltR pl.1 pl.2.1 n q 8 1))) (hp nw i0 i1 pd lv pl mt nt m)) := by
    intro j
    induction j with
    | zero =>
      intro w hw hf
      obtain rfl : w = 9 := by omega
      refine go_iload_n dX6_leastToSign_2 rfl ?_
      refine go_bipush (v := 9) dX6_leastToSign_3 (by decide) ?_
      refine go_icmp_ge (tgt := 24) dX6_leastToSign_5 (by decide) (fun q5 => ?_) (fun q => absurd (nI_le (a := 9) (b := 9) (by decide) (by decide)) q)
      refine go_iload_n dX6_leastToSign_24 rfl ?_
      refine go_iret dX6_leastToSign_25 rfl rfl ?_
      exact ⟨by rw [← hf]; rfl, rfl⟩
    | succ j ih =>
      intro w hw hf
      rw [ltR] at hf
      refine go_iload_n dX6_leastToSign_2 rfl ?_
      refine go_bipush (v := 9) dX6_leastToSign_3 (by decide) ?_
      refine go_icmp_ge (tgt := 24) dX6_leastToSign_5 (by decide) (fun q => absurd q (nI_ge (a := w) (b := 9) (by omega) (by decide))) (fun q5 => ?_)
      refine go_aload_n dX6_leastToSign_8 rfl ?_
      refine go_iload_n dX6_leastToSign_9 rfl ?_
      refine go_iload_n dX6_leastToSign_10 rfl ?_
      refine go_iload_n dX6_leastToSign_11 rfl ?_
      refine go_cV (as := [_, _, _]) dX6_leastToSign_12 mX6_isToSign kX6_50 iX6_isToSign sX6_isToSign rfl rfl rfl rfl (rX6_isToSign h1 hn h2 hq) rfl rfl rfl ?_
      refine go_bif_ne (tgt := 24) dX6_leastToSign_15 (by decide) (fun q15 => ?_) (fun q15 => ?_)
      · refine go_iload_n dX6_leastToSign_24 rfl ?_
        refine go_iret dX6_leastToSign_25 rfl rfl ?_
        exact ⟨by rw [← hf, if_pos q15], rfl⟩
      · refine go_iinc (v := nI (w + 1)) (L' := [_, _, _, _]) dX6_leastToSign_18 rfl (nI_1 w) rfl rfl rfl ?_
        refine go_goto (tgt := 2) dX6_leastToSign_21 (by decide) ?_
        exact ih (w + 1) (by omega) (by rw [← hf, if_neg (by rw [q15]; decide)])
  refine go_iconst (v := 1) dX6_leastToSign_0 (by decide) ?_
  refine go_istore_n (L' := [_, _, _, _]) dX6_leastToSign_1 rfl rfl rfl ?_
  exact key 8 1 rfl rfl
set_option maxRecDepth 100000 in
set_option maxHeartbeats 4000000 in
theorem rX6_learn {E : gE} {d : Nat} {nw i0 i1 : WorldS} {pd : PadS} {lv : LivesS} {pl : PlanS} {mt : MatS} {nt : NetS} {m : ModS} : Ret E yX6_learn cX6_learn 5 none (d + 3) 0 0 [.ref 42, .ref 1] (hp nw i0 i1 pd lv pl mt nt m) (dt none (hp nw i0 i1 pd lv (learnF nw.2.1 pl) mt nt m)) := by
  refine ret_of_go (L := [_, _, _, _, _]) (by decide) (Nat.le_of_ble_eq_true rfl) rfl ?_
  by_cases h0 : pl.2.2 = 0
  · have key : ∀ (n k : Nat) (a4 : Option Value), k + n = 8 → Go E yX6_learn cX6_learn 5 none (d + 3) 0 0 0 0 22 [some (.ref 42), some (.ref 1), some (.int (wsumF nw.2.1)), some (.int (nI (k + 1))), a4] [] (hp nw i0 i1 pd lv ((lnM nw.2.1 pl.1 pl.2.1 k).1, (lnM nw.2.1 pl.1 pl.2.1 k).2, pl.2.2) mt nt m) (dt none (hp nw i0 i1 pd lv (learnF nw.2.1 pl) mt nt m)) := by
      intro n
      induction n with
      | zero =>
        intro k a4 hk
        obtain rfl : k = 8 := by omega
        refine go_iload_n dX6_learn_22 rfl ?_
        refine go_bipush (v := 8) dX6_learn_23 (by decide) ?_
        refine go_icmp_gt (tgt := 90) dX6_learn_25 (by decide) (fun q25 => ?_) (fun q => absurd (nI_lt (a := 8) (b := 9) (by decide) (by decide)) q)
        refine go_aload_n dX6_learn_90 rfl ?_
        refine go_iconst (v := 1) dX6_learn_91 (by decide) ?_
        refine go_put dX6_learn_92 fX6_18 (fun _ => rfl) (fun _ => rfl) rfl rfl ?_
        refine go_vret dX6_learn_95 rfl rfl ?_
        exact ⟨rfl, by rw [learnF, if_pos h0]; rfl⟩
      | succ n ih =>
        intro k a4 hk
        have inner : ∀ (j i : Nat), i + j = 9 → Go E yX6_learn cX6_learn 5 none (d + 3) 0 0 0 0 48 [some (.ref 42), some (.ref 1), some (.int (wsumF nw.2.1)), some (.int (nI (k + 1))), some (.int (nI (i + 1)))] [] (hp nw i0 i1 pd lv (lnN nw.2.1 (vp_updL (lnM nw.2.1 pl.1 pl.2.1 k).2 (k + 1) ((lnM nw.2.1 pl.1 pl.2.1 k).2 k * (wsumF nw.2.1).toInt64)) (lnM nw.2.1 pl.1 pl.2.1 k).1 (k + 1) i, vp_updL (lnM nw.2.1 pl.1 pl.2.1 k).2 (k + 1) ((lnM nw.2.1 pl.1 pl.2.1 k).2 k * (wsumF nw.2.1).toInt64), pl.2.2) mt nt m) (dt none (hp nw i0 i1 pd lv (learnF nw.2.1 pl) mt nt m)) := by
          intro j
          induction j with
          | zero =>
            intro i hi
            obtain rfl : i = 9 := by omega
            refine go_iload dX6_learn_48 rfl ?_
            refine go_bipush (v := 9) dX6_learn_50 (by decide) ?_
            refine go_icmp_gt (tgt := 84) dX6_learn_52 (by decide) (fun q52 => ?_) (fun q => absurd (nI_lt (a := 9) (b := 10) (by decide) (by decide)) q)
            refine go_iinc (v := nI (k + 1 + 1)) (L' := [_, _, _, _, _]) dX6_learn_84 rfl (nI_1 (k + 1)) rfl rfl rfl ?_
            refine go_goto (tgt := 22) dX6_learn_87 (by decide) ?_
            exact ih (k + 1) _ (by omega)
          | succ j ihj =>
            intro i hi
            refine go_iload dX6_learn_48 rfl ?_
            refine go_bipush (v := 9) dX6_learn_50 (by decide) ?_
            refine go_icmp_gt (tgt := 84) dX6_learn_52 (by decide) (fun q => absurd q (nI_nlt (a := 9) (b := i + 1) (by omega) (by decide))) (fun q52 => ?_)
            refine go_aload_n dX6_learn_55 rfl ?_
            refine go_get dX6_learn_56 fX6_11 rfl rfl ?_
            refine go_iload dX6_learn_59 rfl ?_
            refine go_bipush (v := 9) dX6_learn_61 (by decide) ?_
            refine go_imul dX6_learn_63 ?_
            refine go_iload_n dX6_learn_64 rfl ?_
            refine go_iadd dX6_learn_65 ?_
            refine go_topi_eq nI9 ?_
            refine go_aload_n dX6_learn_66 rfl ?_
            refine go_aload_n dX6_learn_67 rfl ?_
            refine go_get dX6_learn_68 fX6_28 rfl rfl ?_
            refine go_iload dX6_learn_71 rfl ?_
            refine go_iload_n dX6_learn_73 rfl ?_
            refine go_cV (as := [_, _, _]) dX6_learn_74 mX6_meanOfBetter kX6_32 iX6_meanOfBetter sX6_meanOfBetter rfl rfl rfl rfl (rX6_meanOfBetter (n := i + 1) (q := k + 1) (by omega) (by omega) (by omega) (by omega)) rfl rfl rfl ?_
            refine go_lastN ((i + 1) * 9 + (k + 1)) dX6_learn_77 rfl (by omega) rfl ?_
            refine go_iinc (v := nI (i + 1 + 1)) (L' := [_, _, _, _, _]) dX6_learn_78 rfl (nI_1 (i + 1)) rfl rfl rfl ?_
            refine go_goto (tgt := 48) dX6_learn_81 (by decide) ?_
            exact ihj (i + 1) (by omega)
        refine go_iload_n dX6_learn_22 rfl ?_
        refine go_bipush (v := 8) dX6_learn_23 (by decide) ?_
        refine go_icmp_gt (tgt := 90) dX6_learn_25 (by decide) (fun q => absurd q (nI_nlt (a := 8) (b := k + 1) (by omega) (by decide))) (fun q25 => ?_)
        refine go_aload_n dX6_learn_28 rfl ?_
        refine go_get dX6_learn_29 fX6_15 rfl rfl ?_
        refine go_iload_n dX6_learn_32 rfl ?_
        refine go_aload_n dX6_learn_33 rfl ?_
        refine go_get dX6_learn_34 fX6_15 rfl rfl ?_
        refine go_iload_n dX6_learn_37 rfl ?_
        refine go_iconst (v := 1) dX6_learn_38 (by decide) ?_
        refine go_isub dX6_learn_39 ?_
        refine go_topi_eq (nI_pred k) ?_
        refine go_laldN (k) dX6_learn_40 rfl (by omega) rfl ?_
        refine go_iload_n dX6_learn_41 rfl ?_
        refine go_i2l dX6_learn_42 ?_
        refine go_lmul dX6_learn_43 ?_
        refine go_lastN (k + 1) dX6_learn_44 rfl (by omega) rfl ?_
        refine go_iconst (v := 1) dX6_learn_45 (by decide) ?_
        refine go_istore (L' := [_, _, _, _, _]) dX6_learn_46 rfl rfl rfl ?_
        exact inner 9 0 rfl
    refine go_aload_n dX6_learn_0 rfl ?_
    refine go_get dX6_learn_1 fX6_18 rfl rfl ?_
    refine go_if_eq (tgt := 8) dX6_learn_4 (by decide) (fun q4 => ?_) (fun q => absurd h0 q)
    refine go_aload_n dX6_learn_8 rfl ?_
    refine go_cV (as := []) dX6_learn_9 mX7_weightOfAll kX6_22 iX7_weightOfAll sX7_weightOfAll rfl rfl rfl rfl (rX7_weightOfAll) rfl rfl rfl ?_
    refine go_istore_n (L' := [_, _, _, _, _]) dX6_learn_12 rfl rfl rfl ?_
    refine go_aload_n dX6_learn_13 rfl ?_
    refine go_get dX6_learn_14 fX6_15 rfl rfl ?_
    refine go_iconst (v := 0) dX6_learn_17 (by decide) ?_
    refine go_lconst (v := 1) dX6_learn_18 (by decide) ?_
    refine go_lastN (0) dX6_learn_19 rfl (by decide) rfl ?_
    refine go_iconst (v := 1) dX6_learn_20 (by decide) ?_
    refine go_istore_n (L' := [_, _, _, _, _]) dX6_learn_21 rfl rfl rfl ?_
    exact key 8 0 _ rfl
  · refine go_aload_n dX6_learn_0 rfl ?_
    refine go_get dX6_learn_1 fX6_18 rfl rfl ?_
    refine go_if_eq (tgt := 8) dX6_learn_4 (by decide) (fun q => absurd q h0) (fun q4 => ?_)
    refine go_vret dX6_learn_7 rfl rfl ?_
    exact ⟨rfl, by rw [learnF, if_neg h0]⟩
