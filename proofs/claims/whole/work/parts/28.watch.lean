set_option maxRecDepth 100000 in
set_option maxHeartbeats 4000000 in
theorem rX8_bestWatch {E : gE} {d : Nat} {nw i0 i1 : WorldS} {pd : PadS} {lv : LivesS} {pl : PlanS} {mt : MatS} {nt : NetS} {m : ModS} {hb wh : Int32} : Ret E yX8_bestWatch cX8_bestWatch 10 (some .int) (d + 4) 0 0 [.ref 0, .int hb, .int wh] (hp nw i0 i1 pd lv pl mt nt m) (dt (some (.int (if wh = 0 then (bw1 pl.1 pl.2.1 hb 10).1 else (bw1 pl.1 pl.2.1 hb 10).2))) (hp nw i0 i1 pd lv pl mt nt m)) := by
  refine ret_of_go (L := [_, _, _, _, _, _, _, _, _, _]) (by decide) (Nat.le_of_ble_eq_true rfl) rfl ?_
  have key1 : ∀ (j n : Nat) (a6 a7 a8 a9 : Option Value), n + j = 10 → is2 a6 = false → is2 a7 = false → is2 a8 = false → Go E yX8_bestWatch cX8_bestWatch 10 (some .int) (d + 4) 0 0 0 0 10 [some (.ref 0), some (.int hb), some (.int wh), some (.int (bw1 pl.1 pl.2.1 hb n).1), some (.int (bw1 pl.1 pl.2.1 hb n).2), some (.int (nI n)), a6, a7, a8, a9] [] (hp nw i0 i1 pd lv pl mt nt m) (dt (some (.int (if wh = 0 then (bw1 pl.1 pl.2.1 hb 10).1 else (bw1 pl.1 pl.2.1 hb 10).2))) (hp nw i0 i1 pd lv pl mt nt m)) := by
    intro j
    induction j with
    | zero =>
      intro n a6 a7 a8 a9 hn i6 i7 i8
      obtain rfl : n = 10 := by omega
      refine go_iload dX8_bestWatch_10 rfl ?_
      refine go_bipush (v := 9) dX8_bestWatch_12 (by decide) ?_
      refine go_icmp_gt (tgt := 114) dX8_bestWatch_14 (by decide) (fun q14 => ?_) (fun zq => absurd (nI_lt (a := 9) (b := 10) (by decide) (by decide)) zq)
      refine go_iload_n dX8_bestWatch_114 rfl ?_
      refine go_if_ne (tgt := 122) dX8_bestWatch_115 (by decide) (fun q115 => ?_) (fun q115 => ?_)
      · refine go_iload dX8_bestWatch_122 rfl ?_
        refine go_iret dX8_bestWatch_124 rfl rfl ?_
        exact ⟨by first | (rw [if_pos q115]; done) | (rw [if_neg q115]; done), rfl⟩
      · refine go_iload_n dX8_bestWatch_118 rfl ?_
        refine go_goto (tgt := 124) dX8_bestWatch_119 (by decide) ?_
        refine go_iret dX8_bestWatch_124 rfl rfl ?_
        exact ⟨by first | (rw [if_pos q115]; done) | (rw [if_neg q115]; done), rfl⟩
    | succ j ih1 =>
      intro n a6 a7 a8 a9 hn i6 i7 i8
      have key2 : ∀ (i q : Nat) (a7 a8 a9 : Option Value), q + i = 8 → is2 a7 = false → is2 a8 = false → Go E yX8_bestWatch cX8_bestWatch 10 (some .int) (d + 4) 0 0 0 0 20 [some (.ref 0), some (.int hb), some (.int wh), some (.int (bw2 pl.1 pl.2.1 hb n (bw1 pl.1 pl.2.1 hb n) q).1), some (.int (bw2 pl.1 pl.2.1 hb n (bw1 pl.1 pl.2.1 hb n) q).2), some (.int (nI n)), some (.int (nI (q + 1))), a7, a8, a9] [] (hp nw i0 i1 pd lv pl mt nt m) (dt (some (.int (if wh = 0 then (bw1 pl.1 pl.2.1 hb 10).1 else (bw1 pl.1 pl.2.1 hb 10).2))) (hp nw i0 i1 pd lv pl mt nt m)) := by
        intro i
        induction i with
        | zero =>
          intro q a7 a8 a9 hq i7 i8
          obtain rfl : q = 8 := by omega
          refine go_iload dX8_bestWatch_20 rfl ?_
          refine go_bipush (v := 8) dX8_bestWatch_22 (by decide) ?_
          refine go_icmp_gt (tgt := 108) dX8_bestWatch_24 (by decide) (fun q24 => ?_) (fun zq => absurd (nI_lt (a := 8) (b := 9) (by decide) (by decide)) zq)
          refine go_iinc (v := nI (n + 1)) (L' := [_, _, _, _, _, _, _, _, _, _]) dX8_bestWatch_108 rfl (nI_1 n) rfl rfl rfl ?_
          refine go_goto (tgt := 10) dX8_bestWatch_111 (by decide) ?_
          exact ih1 (n + 1) _ _ _ _ (by omega) rfl i7 i8
        | succ i ih2 =>
          intro q a7 a8 a9 hq i7 i8
          have key3 : ∀ (g w : Nat) (a8 a9 : Option Value), w + g = 9 → is2 a8 = false → Go E yX8_bestWatch cX8_bestWatch 10 (some .int) (d + 4) 0 0 0 0 30 [some (.ref 0), some (.int hb), some (.int wh), some (.int (bw3 pl.1 pl.2.1 hb n (q + 1) (bw2 pl.1 pl.2.1 hb n (bw1 pl.1 pl.2.1 hb n) q) w).1), some (.int (bw3 pl.1 pl.2.1 hb n (q + 1) (bw2 pl.1 pl.2.1 hb n (bw1 pl.1 pl.2.1 hb n) q) w).2), some (.int (nI n)), some (.int (nI (q + 1))), some (.int (nI (w + 1))), a8, a9] [] (hp nw i0 i1 pd lv pl mt nt m) (dt (some (.int (if wh = 0 then (bw1 pl.1 pl.2.1 hb 10).1 else (bw1 pl.1 pl.2.1 hb 10).2))) (hp nw i0 i1 pd lv pl mt nt m)) := by
            intro g
            induction g with
            | zero =>
              intro w a8 a9 hw i8
              obtain rfl : w = 9 := by omega
              refine go_iload dX8_bestWatch_30 rfl ?_
              refine go_bipush (v := 9) dX8_bestWatch_32 (by decide) ?_
              refine go_icmp_gt (tgt := 102) dX8_bestWatch_34 (by decide) (fun q34 => ?_) (fun zq => absurd (nI_lt (a := 9) (b := 10) (by decide) (by decide)) zq)
              refine go_iinc (v := nI (q + 1 + 1)) (L' := [_, _, _, _, _, _, _, _, _, _]) dX8_bestWatch_102 rfl (nI_1 (q + 1)) rfl rfl rfl ?_
              refine go_goto (tgt := 20) dX8_bestWatch_105 (by decide) ?_
              exact ih2 (q + 1) _ _ _ (by omega) rfl i8
            | succ g ih3 =>
              intro w a8 a9 hw i8
              have hst : bw3 pl.1 pl.2.1 hb n (q + 1) (bw2 pl.1 pl.2.1 hb n (bw1 pl.1 pl.2.1 hb n) q) (w + 1) = bwS pl.1 pl.2.1 hb n (q + 1) (w + 1) (bw3 pl.1 pl.2.1 hb n (q + 1) (bw2 pl.1 pl.2.1 hb n (bw1 pl.1 pl.2.1 hb n) q) w) := rfl
              refine go_iload dX8_bestWatch_30 rfl ?_
              refine go_bipush (v := 9) dX8_bestWatch_32 (by decide) ?_
              refine go_icmp_gt (tgt := 102) dX8_bestWatch_34 (by decide) (fun zq => absurd zq (nI_nlt (a := 9) (b := w + 1) (by omega) (by decide))) (fun q34 => ?_)
              refine go_aload_n dX8_bestWatch_37 rfl ?_
              refine go_iload dX8_bestWatch_38 rfl ?_
              refine go_iload dX8_bestWatch_40 rfl ?_
              refine go_iload dX8_bestWatch_42 rfl ?_
              refine go_cV (as := [_, _, _]) dX8_bestWatch_44 mX8_signingHabits kX8_249 iX8_signingHabits sX8_signingHabits rfl rfl rfl rfl (rX8_signingHabits (n := n) (q := q + 1) (w := w + 1) (by omega) (by omega) (by omega) (by omega) (by omega)) rfl rfl rfl ?_
              refine go_istore (L' := [_, _, _, _, _, _, _, _, _, _]) dX8_bestWatch_47 rfl rfl rfl ?_
              refine go_iload_n dX8_bestWatch_49 rfl ?_
              refine go_iload dX8_bestWatch_50 rfl ?_
              refine go_iand dX8_bestWatch_52 ?_
              refine go_cS (as := [_]) dX8_bestWatch_53 mJ6_bitCount_0f7a4 kX8_223 tJ6_bitCount_0f7a4 rfl rfl (rJ6_bitCount_0f7a4) rfl rfl rfl ?_
              refine go_iload_n dX8_bestWatch_56 rfl ?_
              refine go_iload dX8_bestWatch_57 rfl ?_
              refine go_iconst (v := (-1)) dX8_bestWatch_59 (by decide) ?_
              refine go_ixor dX8_bestWatch_60 ?_
              refine go_iand dX8_bestWatch_61 ?_
              refine go_cS (as := [_]) dX8_bestWatch_62 mJ6_bitCount_0f7a4 kX8_223 tJ6_bitCount_0f7a4 rfl rfl (rJ6_bitCount_0f7a4) rfl rfl rfl ?_
              refine go_mmax dX8_bestWatch_65 mkX8_257 rfl rfl rfl ?_
              refine go_istore (L' := [_, _, _, _, _, _, _, _, _, _]) dX8_bestWatch_68 rfl rfl rfl ?_
              refine go_iload dX8_bestWatch_70 rfl ?_
              refine go_iload dX8_bestWatch_72 rfl ?_
              refine go_icmp_ge (tgt := 96) dX8_bestWatch_74 (by decide) (fun q74 => ?_) (fun q74 => ?_)
              · refine go_iinc (v := nI (w + 1 + 1)) (L' := [_, _, _, _, _, _, _, _, _, _]) dX8_bestWatch_96 rfl (nI_1 (w + 1)) rfl rfl rfl ?_
                refine go_goto (tgt := 30) dX8_bestWatch_99 (by decide) ?_
                have h9 := ih3 (w + 1) (some (.int (shF pl.1 pl.2.1 n (q + 1) (w + 1)))) (some (.int (lfF pl.1 pl.2.1 hb n (q + 1) (w + 1)))) (by omega) rfl; rw [hst, bwS, if_pos (show (bw3 pl.1 pl.2.1 hb n (q + 1) (bw2 pl.1 pl.2.1 hb n (bw1 pl.1 pl.2.1 hb n) q) w).2 ≤ lfF pl.1 pl.2.1 hb n (q + 1) (w + 1) from q74)] at h9; exact h9
              · refine go_iload dX8_bestWatch_77 rfl ?_
                refine go_istore (L' := [_, _, _, _, _, _, _, _, _, _]) dX8_bestWatch_79 rfl rfl rfl ?_
                refine go_bipush (v := 100) dX8_bestWatch_81 (by decide) ?_
                refine go_iload dX8_bestWatch_83 rfl ?_
                refine go_imul dX8_bestWatch_85 ?_
                refine go_bipush (v := 10) dX8_bestWatch_86 (by decide) ?_
                refine go_iload dX8_bestWatch_88 rfl ?_
                refine go_imul dX8_bestWatch_90 ?_
                refine go_iadd dX8_bestWatch_91 ?_
                refine go_iload dX8_bestWatch_92 rfl ?_
                refine go_iadd dX8_bestWatch_94 ?_
                refine go_topi_eq (nI_off n (q + 1) (w + 1)) ?_
                refine go_istore_n (L' := [_, _, _, _, _, _, _, _, _, _]) dX8_bestWatch_95 rfl rfl rfl ?_
                refine go_iinc (v := nI (w + 1 + 1)) (L' := [_, _, _, _, _, _, _, _, _, _]) dX8_bestWatch_96 rfl (nI_1 (w + 1)) rfl rfl rfl ?_
                refine go_goto (tgt := 30) dX8_bestWatch_99 (by decide) ?_
                have h9 := ih3 (w + 1) (some (.int (shF pl.1 pl.2.1 n (q + 1) (w + 1)))) (some (.int (lfF pl.1 pl.2.1 hb n (q + 1) (w + 1)))) (by omega) rfl; rw [hst, bwS, if_neg (show ¬ (bw3 pl.1 pl.2.1 hb n (q + 1) (bw2 pl.1 pl.2.1 hb n (bw1 pl.1 pl.2.1 hb n) q) w).2 ≤ lfF pl.1 pl.2.1 hb n (q + 1) (w + 1) from q74)] at h9; exact h9
          refine go_iload dX8_bestWatch_20 rfl ?_
          refine go_bipush (v := 8) dX8_bestWatch_22 (by decide) ?_
          refine go_icmp_gt (tgt := 108) dX8_bestWatch_24 (by decide) (fun zq => absurd zq (nI_nlt (a := 8) (b := q + 1) (by omega) (by decide))) (fun q24 => ?_)
          refine go_iconst (v := 1) dX8_bestWatch_27 (by decide) ?_
          refine go_istore (L' := [_, _, _, _, _, _, _, _, _, _]) dX8_bestWatch_28 rfl rfl rfl ?_
          exact key3 9 0 _ _ rfl i8
      refine go_iload dX8_bestWatch_10 rfl ?_
      refine go_bipush (v := 9) dX8_bestWatch_12 (by decide) ?_
      refine go_icmp_gt (tgt := 114) dX8_bestWatch_14 (by decide) (fun zq => absurd zq (nI_nlt (a := 9) (b := n) (by omega) (by decide))) (fun q14 => ?_)
      refine go_iconst (v := 1) dX8_bestWatch_17 (by decide) ?_
      refine go_istore (L' := [_, _, _, _, _, _, _, _, _, _]) dX8_bestWatch_18 rfl rfl rfl ?_
      exact key2 8 0 _ _ _ rfl i7 i8
  refine go_bipush (v := (-6)) dX8_bestWatch_0 (by decide) ?_
  refine go_istore_n (L' := [_, _, _, _, _, _, _, _, _, _]) dX8_bestWatch_2 rfl rfl rfl ?_
  refine go_bipush (v := 13) dX8_bestWatch_3 (by decide) ?_
  refine go_istore (L' := [_, _, _, _, _, _, _, _, _, _]) dX8_bestWatch_5 rfl rfl rfl ?_
  refine go_iconst (v := 0) dX8_bestWatch_7 (by decide) ?_
  refine go_istore (L' := [_, _, _, _, _, _, _, _, _, _]) dX8_bestWatch_8 rfl rfl rfl ?_
  exact key1 10 0 _ _ _ _ rfl rfl rfl rfl
def tailsB (th : Nat) (z : Int32) : Bool := decide (0 ≤ z) && decide (z.toInt64 < pwL (10 : Int32).toInt64 (pcN th))
theorem lg_ge {x y : Int64} : (0 : Int32) ≤ lg_cmp x y ↔ y ≤ x := lg_cmp_ge x y
set_option maxRecDepth 100000 in
set_option maxHeartbeats 4000000 in
theorem rX8_areTails {E : gE} {d : Nat} {nw i0 i1 : WorldS} {pd : PadS} {lv : LivesS} {pl : PlanS} {mt : MatS} {nt : NetS} {m : ModS} {th : Nat} {z : Int32} (ht : th < 64) : Ret E yX8_areTails cX8_areTails 2 (some .boolean) (d + 2) 0 0 [.ref 0, .int z] (hp ((nI th, nw.1.2), nw.2) i0 i1 pd lv pl mt nt m) (dt (some (.int (b2i (tailsB th z)))) (hp ((nI th, nw.1.2), nw.2) i0 i1 pd lv pl mt nt m)) := by
  refine ret_of_go (L := [_, _]) (by decide) (Nat.le_of_ble_eq_true rfl) rfl ?_
  refine go_iload_n dX8_areTails_0 rfl ?_
  refine go_if_lt (tgt := 29) dX8_areTails_1 (by decide) (fun q1 => ?_) (fun q1 => ?_)
  · refine go_iconst (v := 0) dX8_areTails_29 (by decide) ?_
    refine go_zret dX8_areTails_30 (by decide) rfl rfl ?_
    exact ⟨by rw [tailsB, decide_eq_false (Int32.not_le.mpr q1)]; rfl, rfl⟩
  · refine go_iload_n dX8_areTails_4 rfl ?_
    refine go_i2l dX8_areTails_5 ?_
    refine go_bipush (v := 10) dX8_areTails_6 (by decide) ?_
    refine go_aload_n dX8_areTails_8 rfl ?_
    refine go_get dX8_areTails_9 fX8_10 rfl rfl ?_
    refine go_get dX8_areTails_12 fX8_59 rfl rfl ?_
    refine go_cV (as := []) dX8_areTails_15 mX1_count kX8_69 iX1_count sX1_count rfl rfl rfl rfl (rX1_count_n) rfl rfl rfl ?_
    refine go_topi_eq (bc_pc th (by omega)) ?_
    refine go_cS (as := [_, _]) dX8_areTails_18 mX8_power kX8_172 tX8_power rfl rfl (rX8_power (n := pcN th) (Nat.le_trans (pc_le th ht) (by decide))) rfl rfl rfl ?_
    refine go_lcmp dX8_areTails_21 ?_
    refine go_if_ge (tgt := 29) dX8_areTails_22 (by decide) (fun q22 => ?_) (fun q22 => ?_)
    · refine go_iconst (v := 0) dX8_areTails_29 (by decide) ?_
      refine go_zret dX8_areTails_30 (by decide) rfl rfl ?_
      exact ⟨by rw [tailsB, decide_eq_false (fun h9 => absurd (lg_ge.mp q22) (Int64.not_le.mpr h9)), Bool.and_false]; rfl, rfl⟩
    · refine go_iconst (v := 1) dX8_areTails_25 (by decide) ?_
      refine go_goto (tgt := 30) dX8_areTails_26 (by decide) ?_
      refine go_zret dX8_areTails_30 (by decide) rfl rfl ?_
      exact ⟨by rw [tailsB, decide_eq_true (Int32.not_lt.mp q1), decide_eq_true (Int64.not_le.mp (fun h9 => q22 (lg_ge.mpr h9)))]; rfl, rfl⟩
/-- the LIVES on the pad, told where it has no FAULT -/
def toldF (nw : WorldS) (lv : LivesS) (S : Nat → Int32) (c : Nat) : LivesS := if ffR S c 0 0 = -6 then tellF nw.1 lv.2.1 S c else lv
def canB (nw : WorldS) (lv : LivesS) (S : Nat → Int32) (c : Nat) : Bool := decide (ffR S c 0 0 = -6) && decide ((tellF nw.1 lv.2.1 S c).2.2.2.1 = -6)
set_option maxRecDepth 100000 in
set_option maxHeartbeats 4000000 in
theorem rX8_allCanBe {E : gE} {d : Nat} {nw i0 i1 : WorldS} {lv : LivesS} {pl : PlanS} {mt : MatS} {nt : NetS} {m : ModS} {S : Nat → Int32} {c : Nat} (hc : c ≤ 60) : Ret E yX8_allCanBe cX8_allCanBe 1 (some .boolean) (d + 6) 0 0 [.ref 0] (hp nw i0 i1 (S, nI c) lv pl mt nt m) (dt (some (.int (b2i (canB nw lv S c)))) (hp nw i0 i1 (S, nI c) (toldF nw lv S c) pl mt nt m)) := by
  refine ret_of_go (L := [_]) (by decide) (Nat.le_of_ble_eq_true rfl) rfl ?_
  refine go_aload_n dX8_allCanBe_0 rfl ?_
  refine go_get dX8_allCanBe_1 fX8_23 rfl rfl ?_
  refine go_cV (as := []) dX8_allCanBe_4 mX5_firstFault kX8_97 iX5_firstFault sX5_firstFault rfl rfl rfl rfl (rX5_firstFault hc) rfl rfl rfl ?_
  refine go_bipush (v := (-6)) dX8_allCanBe_7 (by decide) ?_
  refine go_icmp_eq (tgt := 14) dX8_allCanBe_9 (by decide) (fun q9 => ?_) (fun q9 => ?_)
  · refine go_aload_n dX8_allCanBe_14 rfl ?_
    refine go_get dX8_allCanBe_15 fX8_30 rfl rfl ?_
    refine go_aload_n dX8_allCanBe_18 rfl ?_
    refine go_get dX8_allCanBe_19 fX8_10 rfl rfl ?_
    refine go_get dX8_allCanBe_22 fX8_59 rfl rfl ?_
    refine go_aload_n dX8_allCanBe_25 rfl ?_
    refine go_get dX8_allCanBe_26 fX8_23 rfl rfl ?_
    refine go_cVv (as := [_, _]) dX8_allCanBe_29 mX2_tell kX8_100 iX2_tell sX2_tell rfl rfl rfl rfl (rX2_tell hc) rfl rfl rfl ?_
    refine go_aload_n dX8_allCanBe_32 rfl ?_
    refine go_get dX8_allCanBe_33 fX8_30 rfl rfl ?_
    refine go_get dX8_allCanBe_36 fX8_104 rfl rfl ?_
    refine go_bipush (v := (-6)) dX8_allCanBe_39 (by decide) ?_
    refine go_icmp_ne (tgt := 48) dX8_allCanBe_41 (by decide) (fun q41 => ?_) (fun q41 => ?_)
    · refine go_iconst (v := 0) dX8_allCanBe_48 (by decide) ?_
      refine go_zret dX8_allCanBe_49 (by decide) rfl rfl ?_
      exact ⟨by rw [canB, decide_eq_true q9, decide_eq_false q41]; rfl, by rw [toldF, if_pos q9]⟩
    · refine go_iconst (v := 1) dX8_allCanBe_44 (by decide) ?_
      refine go_goto (tgt := 49) dX8_allCanBe_45 (by decide) ?_
      refine go_zret dX8_allCanBe_49 (by decide) rfl rfl ?_
      exact ⟨by rw [canB, decide_eq_true q9, decide_eq_true q41]; rfl, by rw [toldF, if_pos q9]⟩
  · refine go_iconst (v := 0) dX8_allCanBe_12 (by decide) ?_
    refine go_zret dX8_allCanBe_13 (by decide) rfl rfl ?_
    exact ⟨by rw [canB, decide_eq_false q9]; rfl, by rw [toldF, if_neg q9]⟩
