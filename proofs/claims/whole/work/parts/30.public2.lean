set_option maxRecDepth 100000 in
set_option maxHeartbeats 4000000 in
theorem rX8_best_1 {E : gE} {d : Nat} {nw i0 i1 : WorldS} {pd : PadS} {lv : LivesS} {pl : PlanS} {mt : MatS} {nt : NetS} {m : ModS} {n q part : Int32} (h1 : (isInB n 0 9 && isInB q 0 8) = false) : Ret E yX8_best cX8_best 4 (some .long) (d + 2) 0 0 [.ref 0, .int n, .int q, .int part] (hp nw i0 i1 pd lv pl mt nt m) (dt (some (.long (-1000000000000000002))) (hp nw i0 i1 pd lv pl mt nt m)) := by
  refine ret_of_go (L := [_, _, _, _]) (by decide) (Nat.le_of_ble_eq_true rfl) rfl ?_
  refine go_iload_n dX8_best_0 rfl ?_
  refine go_iload_n dX8_best_1 rfl ?_
  refine go_cS (as := [_, _]) dX8_best_2 mX8_isPlan kX8_143 tX8_isPlan rfl rfl (rX8_isPlan) rfl rfl rfl ?_
  refine go_be_f (tgt := 17) dX8_best_5 (by decide) h1 ?_
  refine go_ldc2_w dX8_best_17 nX8_147 ?_
  refine go_lret dX8_best_20 rfl rfl ?_
  exact ⟨rfl, rfl⟩
set_option maxRecDepth 100000 in
set_option maxHeartbeats 4000000 in
theorem rX8_best_2 {E : gE} {d : Nat} {nw i0 i1 : WorldS} {pd : PadS} {lv : LivesS} {pl : PlanS} {mt : MatS} {nt : NetS} {m : ModS} {n q part : Int32} (h1 : (isInB n 0 9 && isInB q 0 8) = true) (h2 : isInB part 0 1 = false) : Ret E yX8_best cX8_best 4 (some .long) (d + 2) 0 0 [.ref 0, .int n, .int q, .int part] (hp nw i0 i1 pd lv pl mt nt m) (dt (some (.long (-1000000000000000002))) (hp nw i0 i1 pd lv pl mt nt m)) := by
  refine ret_of_go (L := [_, _, _, _]) (by decide) (Nat.le_of_ble_eq_true rfl) rfl ?_
  refine go_iload_n dX8_best_0 rfl ?_
  refine go_iload_n dX8_best_1 rfl ?_
  refine go_cS (as := [_, _]) dX8_best_2 mX8_isPlan kX8_143 tX8_isPlan rfl rfl (rX8_isPlan) rfl rfl rfl ?_
  refine go_be_t dX8_best_5 h1 ?_
  refine go_iload_n dX8_best_8 rfl ?_
  refine go_iconst (v := 0) dX8_best_9 (by decide) ?_
  refine go_iconst (v := 1) dX8_best_10 (by decide) ?_
  refine go_cS (as := [_, _, _]) dX8_best_11 mX8_isIn kX8_55 tX8_isIn rfl rfl (rX8_isIn) rfl rfl rfl ?_
  refine go_bn_f dX8_best_14 h2 ?_
  refine go_ldc2_w dX8_best_17 nX8_147 ?_
  refine go_lret dX8_best_20 rfl rfl ?_
  exact ⟨rfl, rfl⟩
set_option maxRecDepth 100000 in
set_option maxHeartbeats 4000000 in
theorem rX8_best_3 {E : gE} {d : Nat} {nw i0 i1 : WorldS} {pd : PadS} {lv : LivesS} {pl : PlanS} {mt : MatS} {nt : NetS} {m : ModS} {n q : Nat} {part : Int32} (hn : n ≤ 9) (hq : q ≤ 8) (h2 : isInB part 0 1 = true) : Ret E yX8_best cX8_best 4 (some .long) (d + 4) 0 0 [.ref 0, .int (nI n), .int (nI q), .int part] (hp nw i0 i1 pd lv pl mt nt m) (dt (some (.long (frF ((learnF nw.2.1 pl).1 (n * 9 + q)) ((learnF nw.2.1 pl).2.1 q) part))) (hp nw i0 i1 pd lv (learnF nw.2.1 pl) mt nt m)) := by
  refine ret_of_go (L := [_, _, _, _]) (by decide) (Nat.le_of_ble_eq_true rfl) rfl ?_
  refine go_iload_n dX8_best_0 rfl ?_
  refine go_iload_n dX8_best_1 rfl ?_
  refine go_cS (as := [_, _]) dX8_best_2 mX8_isPlan kX8_143 tX8_isPlan rfl rfl (rX8_isPlan) rfl rfl rfl ?_
  refine go_be_t dX8_best_5 (show (isInB (nI n) (nI 0) (nI 9) && isInB (nI q) (nI 0) (nI 8)) = true by rw [inB_of (by omega) (by omega) (by decide), inB_of (by omega) (by omega) (by decide)]; rfl) ?_
  refine go_iload_n dX8_best_8 rfl ?_
  refine go_iconst (v := 0) dX8_best_9 (by decide) ?_
  refine go_iconst (v := 1) dX8_best_10 (by decide) ?_
  refine go_cS (as := [_, _, _]) dX8_best_11 mX8_isIn kX8_55 tX8_isIn rfl rfl (rX8_isIn) rfl rfl rfl ?_
  refine go_bn_t (tgt := 21) dX8_best_14 (by decide) h2 ?_
  refine go_aload_n dX8_best_21 rfl ?_
  refine go_get dX8_best_22 fX8_37 rfl rfl ?_
  refine go_aload_n dX8_best_25 rfl ?_
  refine go_get dX8_best_26 fX8_10 rfl rfl ?_
  refine go_cVv (as := [_]) dX8_best_29 mX6_learn kX8_149 iX6_learn sX6_learn rfl rfl rfl rfl (rX6_learn) rfl rfl rfl ?_
  refine go_aload_n dX8_best_32 rfl ?_
  refine go_get dX8_best_33 fX8_37 rfl rfl ?_
  refine go_iload_n dX8_best_36 rfl ?_
  refine go_iload_n dX8_best_37 rfl ?_
  refine go_cV (as := [_, _]) dX8_best_38 mX6_value kX8_153 iX6_value sX6_value rfl rfl rfl rfl (rX6_value hn hq) rfl rfl rfl ?_
  refine go_aload_n dX8_best_41 rfl ?_
  refine go_get dX8_best_42 fX8_37 rfl rfl ?_
  refine go_iload_n dX8_best_45 rfl ?_
  refine go_cV (as := [_]) dX8_best_46 mX6_scale kX8_157 iX6_scale sX6_scale rfl rfl rfl rfl (rX6_scale hq) rfl rfl rfl ?_
  refine go_iload_n dX8_best_49 rfl ?_
  refine go_cS (as := [_, _, _]) dX8_best_50 mX8_fractionPart kX8_161 tX8_fractionPart rfl rfl (rX8_fractionPart) rfl rfl rfl ?_
  refine go_lret dX8_best_53 rfl rfl ?_
  exact ⟨rfl, rfl⟩
set_option maxRecDepth 100000 in
set_option maxHeartbeats 4000000 in
theorem rX8_least_1 {E : gE} {d : Nat} {nw i0 i1 : WorldS} {pd : PadS} {lv : LivesS} {pl : PlanS} {mt : MatS} {nt : NetS} {m : ModS} {n q : Int32} (h1 : (isInB n 0 9 && isInB q 0 8) = false) : Ret E yX8_least cX8_least 3 (some .int) (d + 2) 0 0 [.ref 0, .int n, .int q] (hp nw i0 i1 pd lv pl mt nt m) (dt (some (.int (-2))) (hp nw i0 i1 pd lv pl mt nt m)) := by
  refine ret_of_go (L := [_, _, _]) (by decide) (Nat.le_of_ble_eq_true rfl) rfl ?_
  refine go_iload_n dX8_least_0 rfl ?_
  refine go_iload_n dX8_least_1 rfl ?_
  refine go_cS (as := [_, _]) dX8_least_2 mX8_isPlan kX8_143 tX8_isPlan rfl rfl (rX8_isPlan) rfl rfl rfl ?_
  refine go_bn_f dX8_least_5 h1 ?_
  refine go_bipush (v := (-2)) dX8_least_8 (by decide) ?_
  refine go_iret dX8_least_10 rfl rfl ?_
  exact ⟨rfl, rfl⟩
set_option maxRecDepth 100000 in
set_option maxHeartbeats 4000000 in
theorem rX8_least_2 {E : gE} {d : Nat} {nw i0 i1 : WorldS} {pd : PadS} {lv : LivesS} {pl : PlanS} {mt : MatS} {nt : NetS} {m : ModS} {n q : Int32} (h1 : (isInB n 0 9 && isInB q 0 8) = true) (h2 : n = 0) : Ret E yX8_least cX8_least 3 (some .int) (d + 2) 0 0 [.ref 0, .int n, .int q] (hp nw i0 i1 pd lv pl mt nt m) (dt (some (.int (-6))) (hp nw i0 i1 pd lv pl mt nt m)) := by
  refine ret_of_go (L := [_, _, _]) (by decide) (Nat.le_of_ble_eq_true rfl) rfl ?_
  refine go_iload_n dX8_least_0 rfl ?_
  refine go_iload_n dX8_least_1 rfl ?_
  refine go_cS (as := [_, _]) dX8_least_2 mX8_isPlan kX8_143 tX8_isPlan rfl rfl (rX8_isPlan) rfl rfl rfl ?_
  refine go_bn_t (tgt := 11) dX8_least_5 (by decide) h1 ?_
  refine go_iload_n dX8_least_11 rfl ?_
  refine go_if_eq (tgt := 19) dX8_least_12 (by decide) (fun q12 => ?_) (fun zq => absurd h2 zq)
  refine go_bipush (v := (-6)) dX8_least_19 (by decide) ?_
  refine go_iret dX8_least_21 rfl rfl ?_
  exact ⟨rfl, rfl⟩
set_option maxRecDepth 100000 in
set_option maxHeartbeats 4000000 in
theorem rX8_least_3 {E : gE} {d : Nat} {nw i0 i1 : WorldS} {pd : PadS} {lv : LivesS} {pl : PlanS} {mt : MatS} {nt : NetS} {m : ModS} {n q : Int32} (h1 : (isInB n 0 9 && isInB q 0 8) = true) (h2 : ¬ n = 0) (h3 : q = 0) : Ret E yX8_least cX8_least 3 (some .int) (d + 2) 0 0 [.ref 0, .int n, .int q] (hp nw i0 i1 pd lv pl mt nt m) (dt (some (.int (-6))) (hp nw i0 i1 pd lv pl mt nt m)) := by
  refine ret_of_go (L := [_, _, _]) (by decide) (Nat.le_of_ble_eq_true rfl) rfl ?_
  refine go_iload_n dX8_least_0 rfl ?_
  refine go_iload_n dX8_least_1 rfl ?_
  refine go_cS (as := [_, _]) dX8_least_2 mX8_isPlan kX8_143 tX8_isPlan rfl rfl (rX8_isPlan) rfl rfl rfl ?_
  refine go_bn_t (tgt := 11) dX8_least_5 (by decide) h1 ?_
  refine go_iload_n dX8_least_11 rfl ?_
  refine go_if_eq (tgt := 19) dX8_least_12 (by decide) (fun zq => absurd zq h2) (fun q12 => ?_)
  refine go_iload_n dX8_least_15 rfl ?_
  refine go_if_ne (tgt := 22) dX8_least_16 (by decide) (fun zq => absurd h3 zq) (fun q16 => ?_)
  refine go_bipush (v := (-6)) dX8_least_19 (by decide) ?_
  refine go_iret dX8_least_21 rfl rfl ?_
  exact ⟨rfl, rfl⟩
set_option maxRecDepth 100000 in
set_option maxHeartbeats 4000000 in
theorem rX8_least_4 {E : gE} {d : Nat} {nw i0 i1 : WorldS} {pd : PadS} {lv : LivesS} {pl : PlanS} {mt : MatS} {nt : NetS} {m : ModS} {n q : Nat} (h1 : 1 ≤ n) (hn : n ≤ 9) (h2 : 1 ≤ q) (hq : q ≤ 8) : Ret E yX8_least cX8_least 3 (some .int) (d + 4) 0 0 [.ref 0, .int (nI n), .int (nI q)] (hp nw i0 i1 pd lv pl mt nt m) (dt (some (.int (ltR (learnF nw.2.1 pl).1 (learnF nw.2.1 pl).2.1 n q 8 1))) (hp nw i0 i1 pd lv (learnF nw.2.1 pl) mt nt m)) := by
  refine ret_of_go (L := [_, _, _]) (by decide) (Nat.le_of_ble_eq_true rfl) rfl ?_
  refine go_iload_n dX8_least_0 rfl ?_
  refine go_iload_n dX8_least_1 rfl ?_
  refine go_cS (as := [_, _]) dX8_least_2 mX8_isPlan kX8_143 tX8_isPlan rfl rfl (rX8_isPlan) rfl rfl rfl ?_
  refine go_bn_t (tgt := 11) dX8_least_5 (by decide) (show (isInB (nI n) (nI 0) (nI 9) && isInB (nI q) (nI 0) (nI 8)) = true by rw [inB_of (by omega) (by omega) (by decide), inB_of (by omega) (by omega) (by decide)]; rfl) ?_
  refine go_iload_n dX8_least_11 rfl ?_
  refine go_if_eq (tgt := 19) dX8_least_12 (by decide) (fun zq => absurd zq (nI_ne0 (by omega) (by omega))) (fun q12 => ?_)
  refine go_iload_n dX8_least_15 rfl ?_
  refine go_if_ne (tgt := 22) dX8_least_16 (by decide) (fun q16 => ?_) (fun zq => absurd zq (nI_ne0 (by omega) (by omega)))
  refine go_aload_n dX8_least_22 rfl ?_
  refine go_get dX8_least_23 fX8_37 rfl rfl ?_
  refine go_aload_n dX8_least_26 rfl ?_
  refine go_get dX8_least_27 fX8_10 rfl rfl ?_
  refine go_cVv (as := [_]) dX8_least_30 mX6_learn kX8_149 iX6_learn sX6_learn rfl rfl rfl rfl (rX6_learn) rfl rfl rfl ?_
  refine go_aload_n dX8_least_33 rfl ?_
  refine go_get dX8_least_34 fX8_37 rfl rfl ?_
  refine go_iload_n dX8_least_37 rfl ?_
  refine go_iload_n dX8_least_38 rfl ?_
  refine go_cV (as := [_, _]) dX8_least_39 mX6_leastToSign kX8_165 iX6_leastToSign sX6_leastToSign rfl rfl rfl rfl (rX6_leastToSign h1 hn h2 hq) rfl rfl rfl ?_
  refine go_iret dX8_least_42 rfl rfl ?_
  exact ⟨rfl, rfl⟩
set_option maxRecDepth 100000 in
set_option maxHeartbeats 4000000 in
theorem rX8_price_1 {E : gE} {d : Nat} {nw i0 i1 : WorldS} {pd : PadS} {lv : LivesS} {pl : PlanS} {mt : MatS} {nt : NetS} {m : ModS} {n q part : Int32} (h1 : isInB n 0 8 = false) : Ret E yX8_price cX8_price 4 (some .long) (d + 2) 0 0 [.ref 0, .int n, .int q, .int part] (hp nw i0 i1 pd lv pl mt nt m) (dt (some (.long (-1000000000000000002))) (hp nw i0 i1 pd lv pl mt nt m)) := by
  refine ret_of_go (L := [_, _, _, _]) (by decide) (Nat.le_of_ble_eq_true rfl) rfl ?_
  refine go_iload_n dX8_price_0 rfl ?_
  refine go_iconst (v := 0) dX8_price_1 (by decide) ?_
  refine go_bipush (v := 8) dX8_price_2 (by decide) ?_
  refine go_cS (as := [_, _, _]) dX8_price_4 mX8_isIn kX8_55 tX8_isIn rfl rfl (rX8_isIn) rfl rfl rfl ?_
  refine go_be_f (tgt := 27) dX8_price_7 (by decide) h1 ?_
  refine go_ldc2_w dX8_price_27 nX8_147 ?_
  refine go_lret dX8_price_30 rfl rfl ?_
  exact ⟨rfl, rfl⟩
set_option maxRecDepth 100000 in
set_option maxHeartbeats 4000000 in
theorem rX8_price_2 {E : gE} {d : Nat} {nw i0 i1 : WorldS} {pd : PadS} {lv : LivesS} {pl : PlanS} {mt : MatS} {nt : NetS} {m : ModS} {n q part : Int32} (h1 : isInB n 0 8 = true) (h2 : (isInB n 0 9 && isInB q 0 8) = false) : Ret E yX8_price cX8_price 4 (some .long) (d + 2) 0 0 [.ref 0, .int n, .int q, .int part] (hp nw i0 i1 pd lv pl mt nt m) (dt (some (.long (-1000000000000000002))) (hp nw i0 i1 pd lv pl mt nt m)) := by
  refine ret_of_go (L := [_, _, _, _]) (by decide) (Nat.le_of_ble_eq_true rfl) rfl ?_
  refine go_iload_n dX8_price_0 rfl ?_
  refine go_iconst (v := 0) dX8_price_1 (by decide) ?_
  refine go_bipush (v := 8) dX8_price_2 (by decide) ?_
  refine go_cS (as := [_, _, _]) dX8_price_4 mX8_isIn kX8_55 tX8_isIn rfl rfl (rX8_isIn) rfl rfl rfl ?_
  refine go_be_t dX8_price_7 h1 ?_
  refine go_iload_n dX8_price_10 rfl ?_
  refine go_iload_n dX8_price_11 rfl ?_
  refine go_cS (as := [_, _]) dX8_price_12 mX8_isPlan kX8_143 tX8_isPlan rfl rfl (rX8_isPlan) rfl rfl rfl ?_
  refine go_be_f (tgt := 27) dX8_price_15 (by decide) h2 ?_
  refine go_ldc2_w dX8_price_27 nX8_147 ?_
  refine go_lret dX8_price_30 rfl rfl ?_
  exact ⟨rfl, rfl⟩
set_option maxRecDepth 100000 in
set_option maxHeartbeats 4000000 in
theorem rX8_price_3 {E : gE} {d : Nat} {nw i0 i1 : WorldS} {pd : PadS} {lv : LivesS} {pl : PlanS} {mt : MatS} {nt : NetS} {m : ModS} {n q part : Int32} (h1 : isInB n 0 8 = true) (h2 : (isInB n 0 9 && isInB q 0 8) = true) (h3 : isInB part 0 1 = false) : Ret E yX8_price cX8_price 4 (some .long) (d + 2) 0 0 [.ref 0, .int n, .int q, .int part] (hp nw i0 i1 pd lv pl mt nt m) (dt (some (.long (-1000000000000000002))) (hp nw i0 i1 pd lv pl mt nt m)) := by
  refine ret_of_go (L := [_, _, _, _]) (by decide) (Nat.le_of_ble_eq_true rfl) rfl ?_
  refine go_iload_n dX8_price_0 rfl ?_
  refine go_iconst (v := 0) dX8_price_1 (by decide) ?_
  refine go_bipush (v := 8) dX8_price_2 (by decide) ?_
  refine go_cS (as := [_, _, _]) dX8_price_4 mX8_isIn kX8_55 tX8_isIn rfl rfl (rX8_isIn) rfl rfl rfl ?_
  refine go_be_t dX8_price_7 h1 ?_
  refine go_iload_n dX8_price_10 rfl ?_
  refine go_iload_n dX8_price_11 rfl ?_
  refine go_cS (as := [_, _]) dX8_price_12 mX8_isPlan kX8_143 tX8_isPlan rfl rfl (rX8_isPlan) rfl rfl rfl ?_
  refine go_be_t dX8_price_15 h2 ?_
  refine go_iload_n dX8_price_18 rfl ?_
  refine go_iconst (v := 0) dX8_price_19 (by decide) ?_
  refine go_iconst (v := 1) dX8_price_20 (by decide) ?_
  refine go_cS (as := [_, _, _]) dX8_price_21 mX8_isIn kX8_55 tX8_isIn rfl rfl (rX8_isIn) rfl rfl rfl ?_
  refine go_bn_f dX8_price_24 h3 ?_
  refine go_ldc2_w dX8_price_27 nX8_147 ?_
  refine go_lret dX8_price_30 rfl rfl ?_
  exact ⟨rfl, rfl⟩
set_option maxRecDepth 100000 in
set_option maxHeartbeats 4000000 in
theorem rX8_price_4 {E : gE} {d : Nat} {nw i0 i1 : WorldS} {pd : PadS} {lv : LivesS} {pl : PlanS} {mt : MatS} {nt : NetS} {m : ModS} {n q : Nat} {part : Int32} (hn : n ≤ 8) (hq : q ≤ 8) (h2 : isInB part 0 1 = true) : Ret E yX8_price cX8_price 4 (some .long) (d + 4) 0 0 [.ref 0, .int (nI n), .int (nI q), .int part] (hp nw i0 i1 pd lv pl mt nt m) (dt (some (.long (frF ((learnF nw.2.1 pl).1 ((n + 1) * 9 + q) - (learnF nw.2.1 pl).1 (n * 9 + q)) ((learnF nw.2.1 pl).2.1 q) part))) (hp nw i0 i1 pd lv (learnF nw.2.1 pl) mt nt m)) := by
  refine ret_of_go (L := [_, _, _, _]) (by decide) (Nat.le_of_ble_eq_true rfl) rfl ?_
  refine go_iload_n dX8_price_0 rfl ?_
  refine go_iconst (v := 0) dX8_price_1 (by decide) ?_
  refine go_bipush (v := 8) dX8_price_2 (by decide) ?_
  refine go_cS (as := [_, _, _]) dX8_price_4 mX8_isIn kX8_55 tX8_isIn rfl rfl (rX8_isIn) rfl rfl rfl ?_
  refine go_be_t dX8_price_7 (inB_of (k := n) (a := 0) (b := 8) (by omega) (by omega) (by decide)) ?_
  refine go_iload_n dX8_price_10 rfl ?_
  refine go_iload_n dX8_price_11 rfl ?_
  refine go_cS (as := [_, _]) dX8_price_12 mX8_isPlan kX8_143 tX8_isPlan rfl rfl (rX8_isPlan) rfl rfl rfl ?_
  refine go_be_t dX8_price_15 (show (isInB (nI n) (nI 0) (nI 9) && isInB (nI q) (nI 0) (nI 8)) = true by rw [inB_of (by omega) (by omega) (by decide), inB_of (by omega) (by omega) (by decide)]; rfl) ?_
  refine go_iload_n dX8_price_18 rfl ?_
  refine go_iconst (v := 0) dX8_price_19 (by decide) ?_
  refine go_iconst (v := 1) dX8_price_20 (by decide) ?_
  refine go_cS (as := [_, _, _]) dX8_price_21 mX8_isIn kX8_55 tX8_isIn rfl rfl (rX8_isIn) rfl rfl rfl ?_
  refine go_bn_t (tgt := 31) dX8_price_24 (by decide) h2 ?_
  refine go_aload_n dX8_price_31 rfl ?_
  refine go_get dX8_price_32 fX8_37 rfl rfl ?_
  refine go_aload_n dX8_price_35 rfl ?_
  refine go_get dX8_price_36 fX8_10 rfl rfl ?_
  refine go_cVv (as := [_]) dX8_price_39 mX6_learn kX8_149 iX6_learn sX6_learn rfl rfl rfl rfl (rX6_learn) rfl rfl rfl ?_
  refine go_aload_n dX8_price_42 rfl ?_
  refine go_get dX8_price_43 fX8_37 rfl rfl ?_
  refine go_iload_n dX8_price_46 rfl ?_
  refine go_iconst (v := 1) dX8_price_47 (by decide) ?_
  refine go_iadd dX8_price_48 ?_
  refine go_topi_eq (nI_1 n) ?_
  refine go_iload_n dX8_price_49 rfl ?_
  refine go_cV (as := [_, _]) dX8_price_50 mX6_value kX8_153 iX6_value sX6_value rfl rfl rfl rfl (rX6_value (n := n + 1) (by omega) hq) rfl rfl rfl ?_
  refine go_aload_n dX8_price_53 rfl ?_
  refine go_get dX8_price_54 fX8_37 rfl rfl ?_
  refine go_iload_n dX8_price_57 rfl ?_
  refine go_iload_n dX8_price_58 rfl ?_
  refine go_cV (as := [_, _]) dX8_price_59 mX6_value kX8_153 iX6_value sX6_value rfl rfl rfl rfl (rX6_value (n := n) (by omega) hq) rfl rfl rfl ?_
  refine go_lsub dX8_price_62 ?_
  refine go_aload_n dX8_price_63 rfl ?_
  refine go_get dX8_price_64 fX8_37 rfl rfl ?_
  refine go_iload_n dX8_price_67 rfl ?_
  refine go_cV (as := [_]) dX8_price_68 mX6_scale kX8_157 iX6_scale sX6_scale rfl rfl rfl rfl (rX6_scale hq) rfl rfl rfl ?_
  refine go_iload_n dX8_price_71 rfl ?_
  refine go_cS (as := [_, _, _]) dX8_price_72 mX8_fractionPart kX8_161 tX8_fractionPart rfl rfl (rX8_fractionPart) rfl rfl rfl ?_
  refine go_lret dX8_price_75 rfl rfl ?_
  exact ⟨rfl, rfl⟩
set_option maxRecDepth 100000 in
set_option maxHeartbeats 4000000 in
theorem rX8_last_1 {E : gE} {d : Nat} {nw i0 i1 : WorldS} {pd : PadS} {lv : LivesS} {pl : PlanS} {mt : MatS} {nt : NetS} {m : ModS} {n q t part : Int32} (g0 : isInB n 0 400 = false) : Ret E yX8_last cX8_last 5 (some .long) (d + 2) 0 0 [.ref 0, .int n, .int q, .int t, .int part] (hp nw i0 i1 pd lv pl mt nt m) (dt (some (.long (-1000000000000000002))) (hp nw i0 i1 pd lv pl mt nt m)) := by
  refine ret_of_go (L := [_, _, _, _, _]) (by decide) (Nat.le_of_ble_eq_true rfl) rfl ?_
  refine go_iload_n dX8_last_0 rfl ?_
  refine go_iconst (v := 0) dX8_last_1 (by decide) ?_
  refine go_sipush (v := 400) dX8_last_2 (by decide) ?_
  refine go_cS (as := [_, _, _]) dX8_last_5 mX8_isIn kX8_55 tX8_isIn rfl rfl (rX8_isIn) rfl rfl rfl ?_
  refine go_be_f (tgt := 41) dX8_last_8 (by decide) g0 ?_
  refine go_ldc2_w dX8_last_41 nX8_147 ?_
  refine go_lret dX8_last_44 rfl rfl ?_
  exact ⟨rfl, rfl⟩
set_option maxRecDepth 100000 in
set_option maxHeartbeats 4000000 in
theorem rX8_last_2 {E : gE} {d : Nat} {nw i0 i1 : WorldS} {pd : PadS} {lv : LivesS} {pl : PlanS} {mt : MatS} {nt : NetS} {m : ModS} {n q t part : Int32} (g0 : isInB n 0 400 = true) (g1 : isInB q 0 9 = false) : Ret E yX8_last cX8_last 5 (some .long) (d + 2) 0 0 [.ref 0, .int n, .int q, .int t, .int part] (hp nw i0 i1 pd lv pl mt nt m) (dt (some (.long (-1000000000000000002))) (hp nw i0 i1 pd lv pl mt nt m)) := by
  refine ret_of_go (L := [_, _, _, _, _]) (by decide) (Nat.le_of_ble_eq_true rfl) rfl ?_
  refine go_iload_n dX8_last_0 rfl ?_
  refine go_iconst (v := 0) dX8_last_1 (by decide) ?_
  refine go_sipush (v := 400) dX8_last_2 (by decide) ?_
  refine go_cS (as := [_, _, _]) dX8_last_5 mX8_isIn kX8_55 tX8_isIn rfl rfl (rX8_isIn) rfl rfl rfl ?_
  refine go_be_t dX8_last_8 g0 ?_
  refine go_iload_n dX8_last_11 rfl ?_
  refine go_iconst (v := 0) dX8_last_12 (by decide) ?_
  refine go_bipush (v := 9) dX8_last_13 (by decide) ?_
  refine go_cS (as := [_, _, _]) dX8_last_15 mX8_isIn kX8_55 tX8_isIn rfl rfl (rX8_isIn) rfl rfl rfl ?_
  refine go_be_f (tgt := 41) dX8_last_18 (by decide) g1 ?_
  refine go_ldc2_w dX8_last_41 nX8_147 ?_
  refine go_lret dX8_last_44 rfl rfl ?_
  exact ⟨rfl, rfl⟩
set_option maxRecDepth 100000 in
set_option maxHeartbeats 4000000 in
theorem rX8_last_3 {E : gE} {d : Nat} {nw i0 i1 : WorldS} {pd : PadS} {lv : LivesS} {pl : PlanS} {mt : MatS} {nt : NetS} {m : ModS} {n q t part : Int32} (g0 : isInB n 0 400 = true) (g1 : isInB q 0 9 = true) (g2 : isInB t 0 10 = false) : Ret E yX8_last cX8_last 5 (some .long) (d + 2) 0 0 [.ref 0, .int n, .int q, .int t, .int part] (hp nw i0 i1 pd lv pl mt nt m) (dt (some (.long (-1000000000000000002))) (hp nw i0 i1 pd lv pl mt nt m)) := by
  refine ret_of_go (L := [_, _, _, _, _]) (by decide) (Nat.le_of_ble_eq_true rfl) rfl ?_
  refine go_iload_n dX8_last_0 rfl ?_
  refine go_iconst (v := 0) dX8_last_1 (by decide) ?_
  refine go_sipush (v := 400) dX8_last_2 (by decide) ?_
  refine go_cS (as := [_, _, _]) dX8_last_5 mX8_isIn kX8_55 tX8_isIn rfl rfl (rX8_isIn) rfl rfl rfl ?_
  refine go_be_t dX8_last_8 g0 ?_
  refine go_iload_n dX8_last_11 rfl ?_
  refine go_iconst (v := 0) dX8_last_12 (by decide) ?_
  refine go_bipush (v := 9) dX8_last_13 (by decide) ?_
  refine go_cS (as := [_, _, _]) dX8_last_15 mX8_isIn kX8_55 tX8_isIn rfl rfl (rX8_isIn) rfl rfl rfl ?_
  refine go_be_t dX8_last_18 g1 ?_
  refine go_iload_n dX8_last_21 rfl ?_
  refine go_iconst (v := 0) dX8_last_22 (by decide) ?_
  refine go_bipush (v := 10) dX8_last_23 (by decide) ?_
  refine go_cS (as := [_, _, _]) dX8_last_25 mX8_isIn kX8_55 tX8_isIn rfl rfl (rX8_isIn) rfl rfl rfl ?_
  refine go_be_f (tgt := 41) dX8_last_28 (by decide) g2 ?_
  refine go_ldc2_w dX8_last_41 nX8_147 ?_
  refine go_lret dX8_last_44 rfl rfl ?_
  exact ⟨rfl, rfl⟩
set_option maxRecDepth 100000 in
set_option maxHeartbeats 4000000 in
theorem rX8_last_4 {E : gE} {d : Nat} {nw i0 i1 : WorldS} {pd : PadS} {lv : LivesS} {pl : PlanS} {mt : MatS} {nt : NetS} {m : ModS} {n q t part : Int32} (g0 : isInB n 0 400 = true) (g1 : isInB q 0 9 = true) (g2 : isInB t 0 10 = true) (g3 : isInB part 0 1 = false) : Ret E yX8_last cX8_last 5 (some .long) (d + 2) 0 0 [.ref 0, .int n, .int q, .int t, .int part] (hp nw i0 i1 pd lv pl mt nt m) (dt (some (.long (-1000000000000000002))) (hp nw i0 i1 pd lv pl mt nt m)) := by
  refine ret_of_go (L := [_, _, _, _, _]) (by decide) (Nat.le_of_ble_eq_true rfl) rfl ?_
  refine go_iload_n dX8_last_0 rfl ?_
  refine go_iconst (v := 0) dX8_last_1 (by decide) ?_
  refine go_sipush (v := 400) dX8_last_2 (by decide) ?_
  refine go_cS (as := [_, _, _]) dX8_last_5 mX8_isIn kX8_55 tX8_isIn rfl rfl (rX8_isIn) rfl rfl rfl ?_
  refine go_be_t dX8_last_8 g0 ?_
  refine go_iload_n dX8_last_11 rfl ?_
  refine go_iconst (v := 0) dX8_last_12 (by decide) ?_
  refine go_bipush (v := 9) dX8_last_13 (by decide) ?_
  refine go_cS (as := [_, _, _]) dX8_last_15 mX8_isIn kX8_55 tX8_isIn rfl rfl (rX8_isIn) rfl rfl rfl ?_
  refine go_be_t dX8_last_18 g1 ?_
  refine go_iload_n dX8_last_21 rfl ?_
  refine go_iconst (v := 0) dX8_last_22 (by decide) ?_
  refine go_bipush (v := 10) dX8_last_23 (by decide) ?_
  refine go_cS (as := [_, _, _]) dX8_last_25 mX8_isIn kX8_55 tX8_isIn rfl rfl (rX8_isIn) rfl rfl rfl ?_
  refine go_be_t dX8_last_28 g2 ?_
  refine go_iload dX8_last_31 rfl ?_
  refine go_iconst (v := 0) dX8_last_33 (by decide) ?_
  refine go_iconst (v := 1) dX8_last_34 (by decide) ?_
  refine go_cS (as := [_, _, _]) dX8_last_35 mX8_isIn kX8_55 tX8_isIn rfl rfl (rX8_isIn) rfl rfl rfl ?_
  refine go_bn_f dX8_last_38 g3 ?_
  refine go_ldc2_w dX8_last_41 nX8_147 ?_
  refine go_lret dX8_last_44 rfl rfl ?_
  exact ⟨rfl, rfl⟩
set_option maxRecDepth 100000 in
set_option maxHeartbeats 4000000 in
theorem rX8_blots_1 {E : gE} {d : Nat} {nw i0 i1 : WorldS} {pd : PadS} {lv : LivesS} {pl : PlanS} {mt : MatS} {nt : NetS} {m : ModS} {n q t part : Int32} (g0 : isInB n 0 9 = false) : Ret E yX8_blots cX8_blots 5 (some .long) (d + 2) 0 0 [.ref 0, .int n, .int q, .int t, .int part] (hp nw i0 i1 pd lv pl mt nt m) (dt (some (.long (-1000000000000000002))) (hp nw i0 i1 pd lv pl mt nt m)) := by
  refine ret_of_go (L := [_, _, _, _, _]) (by decide) (Nat.le_of_ble_eq_true rfl) rfl ?_
  refine go_iload_n dX8_blots_0 rfl ?_
  refine go_iconst (v := 0) dX8_blots_1 (by decide) ?_
  refine go_bipush (v := 9) dX8_blots_2 (by decide) ?_
  refine go_cS (as := [_, _, _]) dX8_blots_4 mX8_isIn kX8_55 tX8_isIn rfl rfl (rX8_isIn) rfl rfl rfl ?_
  refine go_be_f (tgt := 39) dX8_blots_7 (by decide) g0 ?_
  refine go_ldc2_w dX8_blots_39 nX8_147 ?_
  refine go_lret dX8_blots_42 rfl rfl ?_
  exact ⟨rfl, rfl⟩
set_option maxRecDepth 100000 in
set_option maxHeartbeats 4000000 in
theorem rX8_blots_2 {E : gE} {d : Nat} {nw i0 i1 : WorldS} {pd : PadS} {lv : LivesS} {pl : PlanS} {mt : MatS} {nt : NetS} {m : ModS} {n q t part : Int32} (g0 : isInB n 0 9 = true) (g1 : isInB q 0 n = false) : Ret E yX8_blots cX8_blots 5 (some .long) (d + 2) 0 0 [.ref 0, .int n, .int q, .int t, .int part] (hp nw i0 i1 pd lv pl mt nt m) (dt (some (.long (-1000000000000000002))) (hp nw i0 i1 pd lv pl mt nt m)) := by
  refine ret_of_go (L := [_, _, _, _, _]) (by decide) (Nat.le_of_ble_eq_true rfl) rfl ?_
  refine go_iload_n dX8_blots_0 rfl ?_
  refine go_iconst (v := 0) dX8_blots_1 (by decide) ?_
  refine go_bipush (v := 9) dX8_blots_2 (by decide) ?_
  refine go_cS (as := [_, _, _]) dX8_blots_4 mX8_isIn kX8_55 tX8_isIn rfl rfl (rX8_isIn) rfl rfl rfl ?_
  refine go_be_t dX8_blots_7 g0 ?_
  refine go_iload_n dX8_blots_10 rfl ?_
  refine go_iconst (v := 0) dX8_blots_11 (by decide) ?_
  refine go_iload_n dX8_blots_12 rfl ?_
  refine go_cS (as := [_, _, _]) dX8_blots_13 mX8_isIn kX8_55 tX8_isIn rfl rfl (rX8_isIn) rfl rfl rfl ?_
  refine go_be_f (tgt := 39) dX8_blots_16 (by decide) g1 ?_
  refine go_ldc2_w dX8_blots_39 nX8_147 ?_
  refine go_lret dX8_blots_42 rfl rfl ?_
  exact ⟨rfl, rfl⟩
set_option maxRecDepth 100000 in
set_option maxHeartbeats 4000000 in
theorem rX8_blots_3 {E : gE} {d : Nat} {nw i0 i1 : WorldS} {pd : PadS} {lv : LivesS} {pl : PlanS} {mt : MatS} {nt : NetS} {m : ModS} {n q t part : Int32} (g0 : isInB n 0 9 = true) (g1 : isInB q 0 n = true) (g2 : isInB t 0 10 = false) : Ret E yX8_blots cX8_blots 5 (some .long) (d + 2) 0 0 [.ref 0, .int n, .int q, .int t, .int part] (hp nw i0 i1 pd lv pl mt nt m) (dt (some (.long (-1000000000000000002))) (hp nw i0 i1 pd lv pl mt nt m)) := by
  refine ret_of_go (L := [_, _, _, _, _]) (by decide) (Nat.le_of_ble_eq_true rfl) rfl ?_
  refine go_iload_n dX8_blots_0 rfl ?_
  refine go_iconst (v := 0) dX8_blots_1 (by decide) ?_
  refine go_bipush (v := 9) dX8_blots_2 (by decide) ?_
  refine go_cS (as := [_, _, _]) dX8_blots_4 mX8_isIn kX8_55 tX8_isIn rfl rfl (rX8_isIn) rfl rfl rfl ?_
  refine go_be_t dX8_blots_7 g0 ?_
  refine go_iload_n dX8_blots_10 rfl ?_
  refine go_iconst (v := 0) dX8_blots_11 (by decide) ?_
  refine go_iload_n dX8_blots_12 rfl ?_
  refine go_cS (as := [_, _, _]) dX8_blots_13 mX8_isIn kX8_55 tX8_isIn rfl rfl (rX8_isIn) rfl rfl rfl ?_
  refine go_be_t dX8_blots_16 g1 ?_
  refine go_iload_n dX8_blots_19 rfl ?_
  refine go_iconst (v := 0) dX8_blots_20 (by decide) ?_
  refine go_bipush (v := 10) dX8_blots_21 (by decide) ?_
  refine go_cS (as := [_, _, _]) dX8_blots_23 mX8_isIn kX8_55 tX8_isIn rfl rfl (rX8_isIn) rfl rfl rfl ?_
  refine go_be_f (tgt := 39) dX8_blots_26 (by decide) g2 ?_
  refine go_ldc2_w dX8_blots_39 nX8_147 ?_
  refine go_lret dX8_blots_42 rfl rfl ?_
  exact ⟨rfl, rfl⟩
set_option maxRecDepth 100000 in
set_option maxHeartbeats 4000000 in
theorem rX8_blots_4 {E : gE} {d : Nat} {nw i0 i1 : WorldS} {pd : PadS} {lv : LivesS} {pl : PlanS} {mt : MatS} {nt : NetS} {m : ModS} {n q t part : Int32} (g0 : isInB n 0 9 = true) (g1 : isInB q 0 n = true) (g2 : isInB t 0 10 = true) (g3 : isInB part 0 1 = false) : Ret E yX8_blots cX8_blots 5 (some .long) (d + 2) 0 0 [.ref 0, .int n, .int q, .int t, .int part] (hp nw i0 i1 pd lv pl mt nt m) (dt (some (.long (-1000000000000000002))) (hp nw i0 i1 pd lv pl mt nt m)) := by
  refine ret_of_go (L := [_, _, _, _, _]) (by decide) (Nat.le_of_ble_eq_true rfl) rfl ?_
  refine go_iload_n dX8_blots_0 rfl ?_
  refine go_iconst (v := 0) dX8_blots_1 (by decide) ?_
  refine go_bipush (v := 9) dX8_blots_2 (by decide) ?_
  refine go_cS (as := [_, _, _]) dX8_blots_4 mX8_isIn kX8_55 tX8_isIn rfl rfl (rX8_isIn) rfl rfl rfl ?_
  refine go_be_t dX8_blots_7 g0 ?_
  refine go_iload_n dX8_blots_10 rfl ?_
  refine go_iconst (v := 0) dX8_blots_11 (by decide) ?_
  refine go_iload_n dX8_blots_12 rfl ?_
  refine go_cS (as := [_, _, _]) dX8_blots_13 mX8_isIn kX8_55 tX8_isIn rfl rfl (rX8_isIn) rfl rfl rfl ?_
  refine go_be_t dX8_blots_16 g1 ?_
  refine go_iload_n dX8_blots_19 rfl ?_
  refine go_iconst (v := 0) dX8_blots_20 (by decide) ?_
  refine go_bipush (v := 10) dX8_blots_21 (by decide) ?_
  refine go_cS (as := [_, _, _]) dX8_blots_23 mX8_isIn kX8_55 tX8_isIn rfl rfl (rX8_isIn) rfl rfl rfl ?_
  refine go_be_t dX8_blots_26 g2 ?_
  refine go_iload dX8_blots_29 rfl ?_
  refine go_iconst (v := 0) dX8_blots_31 (by decide) ?_
  refine go_iconst (v := 1) dX8_blots_32 (by decide) ?_
  refine go_cS (as := [_, _, _]) dX8_blots_33 mX8_isIn kX8_55 tX8_isIn rfl rfl (rX8_isIn) rfl rfl rfl ?_
  refine go_bn_f dX8_blots_36 g3 ?_
  refine go_ldc2_w dX8_blots_39 nX8_147 ?_
  refine go_lret dX8_blots_42 rfl rfl ?_
  exact ⟨rfl, rfl⟩
set_option maxRecDepth 100000 in
set_option maxHeartbeats 4000000 in
theorem rX8_last_5 {E : gE} {d : Nat} {nw i0 i1 : WorldS} {pd : PadS} {lv : LivesS} {pl : PlanS} {mt : MatS} {nt : NetS} {m : ModS} {a q t : Nat} {part : Int32} (ha : a ≤ 400) (hq : q ≤ 9) (ht : t ≤ 10) (h2 : isInB part 0 1 = true) : Ret E yX8_last cX8_last 5 (some .long) (d + 3) 0 0 [.ref 0, .int (nI a), .int (nI q), .int (nI t), .int part] (hp nw i0 i1 pd lv pl mt nt m) (dt (some (.long (frF (wyR q t (min a q + 1)).1 (pwL (10 : Int32).toInt64 q) part))) (hp nw i0 i1 pd lv pl mt nt m)) := by
  refine ret_of_go (L := [_, _, _, _, _]) (by decide) (Nat.le_of_ble_eq_true rfl) rfl ?_
  refine go_iload_n dX8_last_0 rfl ?_
  refine go_iconst (v := 0) dX8_last_1 (by decide) ?_
  refine go_sipush (v := 400) dX8_last_2 (by decide) ?_
  refine go_cS (as := [_, _, _]) dX8_last_5 mX8_isIn kX8_55 tX8_isIn rfl rfl (rX8_isIn) rfl rfl rfl ?_
  refine go_be_t dX8_last_8 (inB_of (k := a) (a := 0) (b := 400) (by omega) (by omega) (by decide)) ?_
  refine go_iload_n dX8_last_11 rfl ?_
  refine go_iconst (v := 0) dX8_last_12 (by decide) ?_
  refine go_bipush (v := 9) dX8_last_13 (by decide) ?_
  refine go_cS (as := [_, _, _]) dX8_last_15 mX8_isIn kX8_55 tX8_isIn rfl rfl (rX8_isIn) rfl rfl rfl ?_
  refine go_be_t dX8_last_18 (inB_of (k := q) (a := 0) (b := 9) (by omega) (by omega) (by decide)) ?_
  refine go_iload_n dX8_last_21 rfl ?_
  refine go_iconst (v := 0) dX8_last_22 (by decide) ?_
  refine go_bipush (v := 10) dX8_last_23 (by decide) ?_
  refine go_cS (as := [_, _, _]) dX8_last_25 mX8_isIn kX8_55 tX8_isIn rfl rfl (rX8_isIn) rfl rfl rfl ?_
  refine go_be_t dX8_last_28 (inB_of (k := t) (a := 0) (b := 10) (by omega) (by omega) (by decide)) ?_
  refine go_iload dX8_last_31 rfl ?_
  refine go_iconst (v := 0) dX8_last_33 (by decide) ?_
  refine go_iconst (v := 1) dX8_last_34 (by decide) ?_
  refine go_cS (as := [_, _, _]) dX8_last_35 mX8_isIn kX8_55 tX8_isIn rfl rfl (rX8_isIn) rfl rfl rfl ?_
  refine go_bn_t (tgt := 45) dX8_last_38 (by decide) h2 ?_
  refine go_iload_n dX8_last_45 rfl ?_
  refine go_iload_n dX8_last_46 rfl ?_
  refine go_iload_n dX8_last_47 rfl ?_
  refine go_cS (as := [_, _, _]) dX8_last_48 mX8_waysOfAtMost kX8_168 tX8_waysOfAtMost rfl rfl (rX8_waysOfAtMost ha hq ht) rfl rfl rfl ?_
  refine go_bipush (v := 10) dX8_last_51 (by decide) ?_
  refine go_iload_n dX8_last_53 rfl ?_
  refine go_cS (as := [_, _]) dX8_last_54 mX8_power kX8_172 tX8_power rfl rfl (rX8_power (n := q) (by omega)) rfl rfl rfl ?_
  refine go_iload dX8_last_57 rfl ?_
  refine go_cS (as := [_, _, _]) dX8_last_59 mX8_fractionPart kX8_161 tX8_fractionPart rfl rfl (rX8_fractionPart) rfl rfl rfl ?_
  refine go_lret dX8_last_62 rfl rfl ?_
  exact ⟨rfl, rfl⟩
set_option maxRecDepth 100000 in
set_option maxHeartbeats 4000000 in
theorem rX8_blots_5 {E : gE} {d : Nat} {nw i0 i1 : WorldS} {pd : PadS} {lv : LivesS} {pl : PlanS} {mt : MatS} {nt : NetS} {m : ModS} {a q t : Nat} {part : Int32} (ha : a ≤ q) (hq : q ≤ 9) (ht : t ≤ 10) (h2 : isInB part 0 1 = true) : Ret E yX8_blots cX8_blots 5 (some .long) (d + 3) 0 0 [.ref 0, .int (nI q), .int (nI a), .int (nI t), .int part] (hp nw i0 i1 pd lv pl mt nt m) (dt (some (.long (frF (wyR q t (min (q - a) q + 1)).1 (pwL (10 : Int32).toInt64 q) part))) (hp nw i0 i1 pd lv pl mt nt m)) := by
  refine ret_of_go (L := [_, _, _, _, _]) (by decide) (Nat.le_of_ble_eq_true rfl) rfl ?_
  refine go_iload_n dX8_blots_0 rfl ?_
  refine go_iconst (v := 0) dX8_blots_1 (by decide) ?_
  refine go_bipush (v := 9) dX8_blots_2 (by decide) ?_
  refine go_cS (as := [_, _, _]) dX8_blots_4 mX8_isIn kX8_55 tX8_isIn rfl rfl (rX8_isIn) rfl rfl rfl ?_
  refine go_be_t dX8_blots_7 (inB_of (k := q) (a := 0) (b := 9) (by omega) (by omega) (by decide)) ?_
  refine go_iload_n dX8_blots_10 rfl ?_
  refine go_iconst (v := 0) dX8_blots_11 (by decide) ?_
  refine go_iload_n dX8_blots_12 rfl ?_
  refine go_cS (as := [_, _, _]) dX8_blots_13 mX8_isIn kX8_55 tX8_isIn rfl rfl (rX8_isIn) rfl rfl rfl ?_
  refine go_be_t dX8_blots_16 (inB_of (k := a) (a := 0) (b := q) (by omega) (by omega) (by omega)) ?_
  refine go_iload_n dX8_blots_19 rfl ?_
  refine go_iconst (v := 0) dX8_blots_20 (by decide) ?_
  refine go_bipush (v := 10) dX8_blots_21 (by decide) ?_
  refine go_cS (as := [_, _, _]) dX8_blots_23 mX8_isIn kX8_55 tX8_isIn rfl rfl (rX8_isIn) rfl rfl rfl ?_
  refine go_be_t dX8_blots_26 (inB_of (k := t) (a := 0) (b := 10) (by omega) (by omega) (by decide)) ?_
  refine go_iload dX8_blots_29 rfl ?_
  refine go_iconst (v := 0) dX8_blots_31 (by decide) ?_
  refine go_iconst (v := 1) dX8_blots_32 (by decide) ?_
  refine go_cS (as := [_, _, _]) dX8_blots_33 mX8_isIn kX8_55 tX8_isIn rfl rfl (rX8_isIn) rfl rfl rfl ?_
  refine go_bn_t (tgt := 43) dX8_blots_36 (by decide) h2 ?_
  refine go_iload_n dX8_blots_43 rfl ?_
  refine go_iload_n dX8_blots_44 rfl ?_
  refine go_isub dX8_blots_45 ?_
  refine go_topi_eq (pk_sub ha) ?_
  refine go_iload_n dX8_blots_46 rfl ?_
  refine go_iload_n dX8_blots_47 rfl ?_
  refine go_cS (as := [_, _, _]) dX8_blots_48 mX8_waysOfAtMost kX8_168 tX8_waysOfAtMost rfl rfl (rX8_waysOfAtMost (a := q - a) (by omega) hq ht) rfl rfl rfl ?_
  refine go_bipush (v := 10) dX8_blots_51 (by decide) ?_
  refine go_iload_n dX8_blots_53 rfl ?_
  refine go_cS (as := [_, _]) dX8_blots_54 mX8_power kX8_172 tX8_power rfl rfl (rX8_power (n := q) (by omega)) rfl rfl rfl ?_
  refine go_iload dX8_blots_57 rfl ?_
  refine go_cS (as := [_, _, _]) dX8_blots_59 mX8_fractionPart kX8_161 tX8_fractionPart rfl rfl (rX8_fractionPart) rfl rfl rfl ?_
  refine go_lret dX8_blots_62 rfl rfl ?_
  exact ⟨rfl, rfl⟩
set_option maxRecDepth 100000 in
set_option maxHeartbeats 4000000 in
theorem rX8_netted_1 {E : gE} {d : Nat} {nw i0 i1 : WorldS} {pd : PadS} {lv : LivesS} {pl : PlanS} {mt : MatS} {nt : NetS} {m : ModS} {p : Int32} (h1 : hasB nw.1.1 p = false) : Ret E yX8_netted cX8_netted 2 (some .int) (d + 2) 0 0 [.ref 0, .int p] (hp nw i0 i1 pd lv pl mt nt m) (dt (some (.int (-1))) (hp nw i0 i1 pd lv pl mt nt m)) := by
  refine ret_of_go (L := [_, _]) (by decide) (Nat.le_of_ble_eq_true rfl) rfl ?_
  refine go_aload_n dX8_netted_0 rfl ?_
  refine go_get dX8_netted_1 fX8_10 rfl rfl ?_
  refine go_get dX8_netted_4 fX8_59 rfl rfl ?_
  refine go_iload_n dX8_netted_7 rfl ?_
  refine go_cV (as := [_]) dX8_netted_8 mX1_has kX8_73 iX1_has sX1_has rfl rfl rfl rfl (rX1_has_n) rfl rfl rfl ?_
  refine go_bn_f dX8_netted_11 h1 ?_
  refine go_iconst (v := (-1)) dX8_netted_14 (by decide) ?_
  refine go_iret dX8_netted_15 rfl rfl ?_
  exact ⟨rfl, rfl⟩
set_option maxRecDepth 100000 in
set_option maxHeartbeats 4000000 in
theorem rX8_netted_2 {E : gE} {d : Nat} {nw i0 i1 : WorldS} {pd : PadS} {lv : LivesS} {pl : PlanS} {mt : MatS} {nt : NetS} {m : ModS} {k : Nat} (hk : k < 6) (h1 : hasB nw.1.1 (nI k) = true) : Ret E yX8_netted cX8_netted 2 (some .int) (d + 2) 0 0 [.ref 0, .int (nI k)] (hp nw i0 i1 pd lv pl mt nt m) (dt (some (.int (netF nw.1 k + 1000))) (hp nw i0 i1 pd lv pl mt nt m)) := by
  refine ret_of_go (L := [_, _]) (by decide) (Nat.le_of_ble_eq_true rfl) rfl ?_
  refine go_aload_n dX8_netted_0 rfl ?_
  refine go_get dX8_netted_1 fX8_10 rfl rfl ?_
  refine go_get dX8_netted_4 fX8_59 rfl rfl ?_
  refine go_iload_n dX8_netted_7 rfl ?_
  refine go_cV (as := [_]) dX8_netted_8 mX1_has kX8_73 iX1_has sX1_has rfl rfl rfl rfl (rX1_has_n) rfl rfl rfl ?_
  refine go_bn_t (tgt := 16) dX8_netted_11 (by decide) h1 ?_
  refine go_aload_n dX8_netted_16 rfl ?_
  refine go_get dX8_netted_17 fX8_10 rfl rfl ?_
  refine go_get dX8_netted_20 fX8_59 rfl rfl ?_
  refine go_iload_n dX8_netted_23 rfl ?_
  refine go_cV (as := [_]) dX8_netted_24 mX1_net kX8_175 iX1_net sX1_net rfl rfl rfl rfl (rX1_net_n hk) rfl rfl rfl ?_
  refine go_sipush (v := 1000) dX8_netted_27 (by decide) ?_
  refine go_iadd dX8_netted_30 ?_
  refine go_iret dX8_netted_31 rfl rfl ?_
  exact ⟨rfl, rfl⟩
set_option maxRecDepth 100000 in
set_option maxHeartbeats 4000000 in
theorem rX8_hands_1 {E : gE} {d : Nat} {nw i0 i1 : WorldS} {pd : PadS} {lv : LivesS} {pl : PlanS} {mt : MatS} {nt : NetS} {m : ModS} : Ret E yX8_hands cX8_hands 1 (some .int) (d + 3) 0 0 [.ref 0] (hp nw i0 i1 pd lv pl mt nt m) (dt (some (.int (6 - (nhR nw.1 nt 63).2 63))) (hp nw i0 i1 pd lv pl mt (nhR nw.1 nt 63) m)) := by
  refine ret_of_go (L := [_]) (by decide) (Nat.le_of_ble_eq_true rfl) rfl ?_
  refine go_aload_n dX8_hands_0 rfl ?_
  refine go_get dX8_hands_1 fX8_51 rfl rfl ?_
  refine go_aload_n dX8_hands_4 rfl ?_
  refine go_get dX8_hands_5 fX8_10 rfl rfl ?_
  refine go_get dX8_hands_8 fX8_59 rfl rfl ?_
  refine go_cV (as := [_]) dX8_hands_11 mX4_fewestHands kX8_179 iX4_fewestHands sX4_fewestHands rfl rfl rfl rfl (rX4_fewestHands) rfl rfl rfl ?_
  refine go_iret dX8_hands_14 rfl rfl ?_
  exact ⟨rfl, rfl⟩
set_option maxRecDepth 100000 in
set_option maxHeartbeats 4000000 in
theorem rX8_match_1 {E : gE} {d : Nat} {nw i0 i1 : WorldS} {pd : PadS} {lv : LivesS} {pl : PlanS} {mt : MatS} {nt : NetS} {m : ModS} {th : Nat} {z w : Int32} (ht : th < 64) (h1 : tailsB th z = false) : Ret E yX8_match cX8_match 3 (some .int) (d + 3) 0 0 [.ref 0, .int z, .int w] (hp ((nI th, nw.1.2), nw.2) i0 i1 pd lv pl mt nt m) (dt (some (.int (-2))) (hp ((nI th, nw.1.2), nw.2) i0 i1 pd lv pl mt nt m)) := by
  refine ret_of_go (L := [_, _, _]) (by decide) (Nat.le_of_ble_eq_true rfl) rfl ?_
  refine go_aload_n dX8_match_0 rfl ?_
  refine go_iload_n dX8_match_1 rfl ?_
  refine go_cV (as := [_]) dX8_match_2 mX8_areTails kX8_183 iX8_areTails sX8_areTails rfl rfl rfl rfl (rX8_areTails ht) rfl rfl rfl ?_
  refine go_be_f (tgt := 17) dX8_match_5 (by decide) h1 ?_
  refine go_bipush (v := (-2)) dX8_match_17 (by decide) ?_
  refine go_iret dX8_match_19 rfl rfl ?_
  exact ⟨rfl, rfl⟩
set_option maxRecDepth 100000 in
set_option maxHeartbeats 4000000 in
theorem rX8_match_2 {E : gE} {d : Nat} {nw i0 i1 : WorldS} {pd : PadS} {lv : LivesS} {pl : PlanS} {mt : MatS} {nt : NetS} {m : ModS} {th : Nat} {z w : Int32} (ht : th < 64) (h1 : tailsB th z = true) (h2 : isInB w 0 1 = false) : Ret E yX8_match cX8_match 3 (some .int) (d + 3) 0 0 [.ref 0, .int z, .int w] (hp ((nI th, nw.1.2), nw.2) i0 i1 pd lv pl mt nt m) (dt (some (.int (-2))) (hp ((nI th, nw.1.2), nw.2) i0 i1 pd lv pl mt nt m)) := by
  refine ret_of_go (L := [_, _, _]) (by decide) (Nat.le_of_ble_eq_true rfl) rfl ?_
  refine go_aload_n dX8_match_0 rfl ?_
  refine go_iload_n dX8_match_1 rfl ?_
  refine go_cV (as := [_]) dX8_match_2 mX8_areTails kX8_183 iX8_areTails sX8_areTails rfl rfl rfl rfl (rX8_areTails ht) rfl rfl rfl ?_
  refine go_be_t dX8_match_5 h1 ?_
  refine go_iload_n dX8_match_8 rfl ?_
  refine go_iconst (v := 0) dX8_match_9 (by decide) ?_
  refine go_iconst (v := 1) dX8_match_10 (by decide) ?_
  refine go_cS (as := [_, _, _]) dX8_match_11 mX8_isIn kX8_55 tX8_isIn rfl rfl (rX8_isIn) rfl rfl rfl ?_
  refine go_bn_f dX8_match_14 h2 ?_
  refine go_bipush (v := (-2)) dX8_match_17 (by decide) ?_
  refine go_iret dX8_match_19 rfl rfl ?_
  exact ⟨rfl, rfl⟩
set_option maxRecDepth 100000 in
set_option maxHeartbeats 4000000 in
theorem rX8_match_3 {E : gE} {d : Nat} {nw i0 i1 : WorldS} {pd : PadS} {lv : LivesS} {pl : PlanS} {mt : MatS} {nt : NetS} {m : ModS} {th : Nat} {z w : Int32} (ht : th < 64) (h1 : tailsB th z = true) (h2 : isInB w 0 1 = true) (h3 : w = 0) : Ret E yX8_match cX8_match 3 (some .int) (d + 5) 0 0 [.ref 0, .int z, .int w] (hp ((nI th, nw.1.2), nw.2) i0 i1 pd lv pl mt nt m) (dt (some (.int ((weighF th (ft nw.1) z mt).1 0))) (hp ((nI th, nw.1.2), nw.2) i0 i1 pd lv pl (weighF th (ft nw.1) z mt) nt m)) := by
  refine ret_of_go (L := [_, _, _]) (by decide) (Nat.le_of_ble_eq_true rfl) rfl ?_
  refine go_aload_n dX8_match_0 rfl ?_
  refine go_iload_n dX8_match_1 rfl ?_
  refine go_cV (as := [_]) dX8_match_2 mX8_areTails kX8_183 iX8_areTails sX8_areTails rfl rfl rfl rfl (rX8_areTails ht) rfl rfl rfl ?_
  refine go_be_t dX8_match_5 h1 ?_
  refine go_iload_n dX8_match_8 rfl ?_
  refine go_iconst (v := 0) dX8_match_9 (by decide) ?_
  refine go_iconst (v := 1) dX8_match_10 (by decide) ?_
  refine go_cS (as := [_, _, _]) dX8_match_11 mX8_isIn kX8_55 tX8_isIn rfl rfl (rX8_isIn) rfl rfl rfl ?_
  refine go_bn_t (tgt := 20) dX8_match_14 (by decide) h2 ?_
  refine go_aload_n dX8_match_20 rfl ?_
  refine go_get dX8_match_21 fX8_44 rfl rfl ?_
  refine go_aload_n dX8_match_24 rfl ?_
  refine go_get dX8_match_25 fX8_10 rfl rfl ?_
  refine go_get dX8_match_28 fX8_59 rfl rfl ?_
  refine go_iload_n dX8_match_31 rfl ?_
  refine go_cVv (as := [_, _]) dX8_match_32 mX3_weigh kX8_186 iX3_weigh sX3_weigh rfl rfl rfl rfl (rX3_weigh ht) rfl rfl rfl ?_
  refine go_iload_n dX8_match_35 rfl ?_
  refine go_if_ne (tgt := 51) dX8_match_36 (by decide) (fun zq => absurd h3 zq) (fun q36 => ?_)
  refine go_aload_n dX8_match_39 rfl ?_
  refine go_get dX8_match_40 fX8_44 rfl rfl ?_
  refine go_get dX8_match_43 fX8_190 rfl rfl ?_
  refine go_iconst (v := 0) dX8_match_46 (by decide) ?_
  refine go_ialdN (0) dX8_match_47 rfl (by decide) rfl ?_
  refine go_goto (tgt := 60) dX8_match_48 (by decide) ?_
  refine go_iret dX8_match_60 rfl rfl ?_
  exact ⟨rfl, rfl⟩
set_option maxRecDepth 100000 in
set_option maxHeartbeats 4000000 in
theorem rX8_match_4 {E : gE} {d : Nat} {nw i0 i1 : WorldS} {pd : PadS} {lv : LivesS} {pl : PlanS} {mt : MatS} {nt : NetS} {m : ModS} {th : Nat} {z w : Int32} (ht : th < 64) (h1 : tailsB th z = true) (h2 : isInB w 0 1 = true) (h3 : ¬ w = 0) : Ret E yX8_match cX8_match 3 (some .int) (d + 5) 0 0 [.ref 0, .int z, .int w] (hp ((nI th, nw.1.2), nw.2) i0 i1 pd lv pl mt nt m) (dt (some (.int ((weighF th (ft nw.1) z mt).2.1 0))) (hp ((nI th, nw.1.2), nw.2) i0 i1 pd lv pl (weighF th (ft nw.1) z mt) nt m)) := by
  refine ret_of_go (L := [_, _, _]) (by decide) (Nat.le_of_ble_eq_true rfl) rfl ?_
  refine go_aload_n dX8_match_0 rfl ?_
  refine go_iload_n dX8_match_1 rfl ?_
  refine go_cV (as := [_]) dX8_match_2 mX8_areTails kX8_183 iX8_areTails sX8_areTails rfl rfl rfl rfl (rX8_areTails ht) rfl rfl rfl ?_
  refine go_be_t dX8_match_5 h1 ?_
  refine go_iload_n dX8_match_8 rfl ?_
  refine go_iconst (v := 0) dX8_match_9 (by decide) ?_
  refine go_iconst (v := 1) dX8_match_10 (by decide) ?_
  refine go_cS (as := [_, _, _]) dX8_match_11 mX8_isIn kX8_55 tX8_isIn rfl rfl (rX8_isIn) rfl rfl rfl ?_
  refine go_bn_t (tgt := 20) dX8_match_14 (by decide) h2 ?_
  refine go_aload_n dX8_match_20 rfl ?_
  refine go_get dX8_match_21 fX8_44 rfl rfl ?_
  refine go_aload_n dX8_match_24 rfl ?_
  refine go_get dX8_match_25 fX8_10 rfl rfl ?_
  refine go_get dX8_match_28 fX8_59 rfl rfl ?_
  refine go_iload_n dX8_match_31 rfl ?_
  refine go_cVv (as := [_, _]) dX8_match_32 mX3_weigh kX8_186 iX3_weigh sX3_weigh rfl rfl rfl rfl (rX3_weigh ht) rfl rfl rfl ?_
  refine go_iload_n dX8_match_35 rfl ?_
  refine go_if_ne (tgt := 51) dX8_match_36 (by decide) (fun q36 => ?_) (fun zq => absurd zq h3)
  refine go_aload_n dX8_match_51 rfl ?_
  refine go_get dX8_match_52 fX8_44 rfl rfl ?_
  refine go_get dX8_match_55 fX8_193 rfl rfl ?_
  refine go_iconst (v := 0) dX8_match_58 (by decide) ?_
  refine go_ialdN (0) dX8_match_59 rfl (by decide) rfl ?_
  refine go_iret dX8_match_60 rfl rfl ?_
  exact ⟨rfl, rfl⟩
set_option maxRecDepth 100000 in
set_option maxHeartbeats 4000000 in
theorem rX8_wrote_1 {E : gE} {d : Nat} {nw i0 i1 : WorldS} {pd : PadS} {lv : LivesS} {pl : PlanS} {mt : MatS} {nt : NetS} {m : ModS} {th : Nat} {z w : Int32} (ht : th < 64) (h1 : tailsB th z = false) : Ret E yX8_wrote cX8_wrote 3 (some .int) (d + 3) 0 0 [.ref 0, .int z, .int w] (hp ((nI th, nw.1.2), nw.2) i0 i1 pd lv pl mt nt m) (dt (some (.int (-2))) (hp ((nI th, nw.1.2), nw.2) i0 i1 pd lv pl mt nt m)) := by
  refine ret_of_go (L := [_, _, _]) (by decide) (Nat.le_of_ble_eq_true rfl) rfl ?_
  refine go_aload_n dX8_wrote_0 rfl ?_
  refine go_iload_n dX8_wrote_1 rfl ?_
  refine go_cV (as := [_]) dX8_wrote_2 mX8_areTails kX8_183 iX8_areTails sX8_areTails rfl rfl rfl rfl (rX8_areTails ht) rfl rfl rfl ?_
  refine go_be_f (tgt := 28) dX8_wrote_5 (by decide) h1 ?_
  refine go_bipush (v := (-2)) dX8_wrote_28 (by decide) ?_
  refine go_iret dX8_wrote_30 rfl rfl ?_
  exact ⟨rfl, rfl⟩
set_option maxRecDepth 100000 in
set_option maxHeartbeats 4000000 in
theorem rX8_wrote_2 {E : gE} {d : Nat} {nw i0 i1 : WorldS} {pd : PadS} {lv : LivesS} {pl : PlanS} {mt : MatS} {nt : NetS} {m : ModS} {th : Nat} {z w : Int32} (ht : th < 64) (h1 : tailsB th z = true) (h2 : isInB w 0 (nI (pcN th) - 1) = false) : Ret E yX8_wrote cX8_wrote 3 (some .int) (d + 3) 0 0 [.ref 0, .int z, .int w] (hp ((nI th, nw.1.2), nw.2) i0 i1 pd lv pl mt nt m) (dt (some (.int (-2))) (hp ((nI th, nw.1.2), nw.2) i0 i1 pd lv pl mt nt m)) := by
  refine ret_of_go (L := [_, _, _]) (by decide) (Nat.le_of_ble_eq_true rfl) rfl ?_
  refine go_aload_n dX8_wrote_0 rfl ?_
  refine go_iload_n dX8_wrote_1 rfl ?_
  refine go_cV (as := [_]) dX8_wrote_2 mX8_areTails kX8_183 iX8_areTails sX8_areTails rfl rfl rfl rfl (rX8_areTails ht) rfl rfl rfl ?_
  refine go_be_t dX8_wrote_5 h1 ?_
  refine go_iload_n dX8_wrote_8 rfl ?_
  refine go_iconst (v := 0) dX8_wrote_9 (by decide) ?_
  refine go_aload_n dX8_wrote_10 rfl ?_
  refine go_get dX8_wrote_11 fX8_10 rfl rfl ?_
  refine go_get dX8_wrote_14 fX8_59 rfl rfl ?_
  refine go_cV (as := []) dX8_wrote_17 mX1_count kX8_69 iX1_count sX1_count rfl rfl rfl rfl (rX1_count_n) rfl rfl rfl ?_
  refine go_topi_eq (bc_pc th (by omega)) ?_
  refine go_iconst (v := 1) dX8_wrote_20 (by decide) ?_
  refine go_isub dX8_wrote_21 ?_
  refine go_cS (as := [_, _, _]) dX8_wrote_22 mX8_isIn kX8_55 tX8_isIn rfl rfl (rX8_isIn) rfl rfl rfl ?_
  refine go_bn_f dX8_wrote_25 h2 ?_
  refine go_bipush (v := (-2)) dX8_wrote_28 (by decide) ?_
  refine go_iret dX8_wrote_30 rfl rfl ?_
  exact ⟨rfl, rfl⟩
set_option maxRecDepth 100000 in
set_option maxHeartbeats 4000000 in
theorem rX8_wrote_3 {E : gE} {d : Nat} {nw i0 i1 : WorldS} {pd : PadS} {lv : LivesS} {pl : PlanS} {mt : MatS} {nt : NetS} {m : ModS} {th : Nat} {z : Int32} {a : Nat} (ht : th < 64) (ha : a ≤ 6) (h1 : tailsB th z = true) (h2 : isInB (nI a) 0 (nI (pcN th) - 1) = true) : Ret E yX8_wrote cX8_wrote 3 (some .int) (d + 5) 0 0 [.ref 0, .int z, .int (nI a)] (hp ((nI th, nw.1.2), nw.2) i0 i1 pd lv pl mt nt m) (dt (some (.int (oN (woR th (weighF th (ft nw.1) z mt).1 (weighF th (ft nw.1) z mt).2.2 (ft nw.1) a 0)))) (hp ((nI th, nw.1.2), nw.2) i0 i1 pd lv pl (weighF th (ft nw.1) z mt) nt m)) := by
  refine ret_of_go (L := [_, _, _]) (by decide) (Nat.le_of_ble_eq_true rfl) rfl ?_
  refine go_aload_n dX8_wrote_0 rfl ?_
  refine go_iload_n dX8_wrote_1 rfl ?_
  refine go_cV (as := [_]) dX8_wrote_2 mX8_areTails kX8_183 iX8_areTails sX8_areTails rfl rfl rfl rfl (rX8_areTails ht) rfl rfl rfl ?_
  refine go_be_t dX8_wrote_5 h1 ?_
  refine go_iload_n dX8_wrote_8 rfl ?_
  refine go_iconst (v := 0) dX8_wrote_9 (by decide) ?_
  refine go_aload_n dX8_wrote_10 rfl ?_
  refine go_get dX8_wrote_11 fX8_10 rfl rfl ?_
  refine go_get dX8_wrote_14 fX8_59 rfl rfl ?_
  refine go_cV (as := []) dX8_wrote_17 mX1_count kX8_69 iX1_count sX1_count rfl rfl rfl rfl (rX1_count_n) rfl rfl rfl ?_
  refine go_topi_eq (bc_pc th (by omega)) ?_
  refine go_iconst (v := 1) dX8_wrote_20 (by decide) ?_
  refine go_isub dX8_wrote_21 ?_
  refine go_cS (as := [_, _, _]) dX8_wrote_22 mX8_isIn kX8_55 tX8_isIn rfl rfl (rX8_isIn) rfl rfl rfl ?_
  refine go_bn_t (tgt := 31) dX8_wrote_25 (by decide) h2 ?_
  refine go_aload_n dX8_wrote_31 rfl ?_
  refine go_get dX8_wrote_32 fX8_44 rfl rfl ?_
  refine go_aload_n dX8_wrote_35 rfl ?_
  refine go_get dX8_wrote_36 fX8_10 rfl rfl ?_
  refine go_get dX8_wrote_39 fX8_59 rfl rfl ?_
  refine go_iload_n dX8_wrote_42 rfl ?_
  refine go_cVv (as := [_, _]) dX8_wrote_43 mX3_weigh kX8_186 iX3_weigh sX3_weigh rfl rfl rfl rfl (rX3_weigh ht) rfl rfl rfl ?_
  refine go_aload_n dX8_wrote_46 rfl ?_
  refine go_get dX8_wrote_47 fX8_44 rfl rfl ?_
  refine go_aload_n dX8_wrote_50 rfl ?_
  refine go_get dX8_wrote_51 fX8_10 rfl rfl ?_
  refine go_get dX8_wrote_54 fX8_59 rfl rfl ?_
  refine go_iload_n dX8_wrote_57 rfl ?_
  refine go_cV (as := [_, _]) dX8_wrote_58 mX3_writerOf kX8_196 iX3_writerOf sX3_writerOf rfl rfl rfl rfl (rX3_writerOf ht ha) rfl rfl rfl ?_
  refine go_iret dX8_wrote_61 rfl rfl ?_
  exact ⟨rfl, rfl⟩
set_option maxRecDepth 100000 in
set_option maxHeartbeats 4000000 in
theorem rX8_seen_1 {E : gE} {d : Nat} {nw i0 i1 : WorldS} {pd : PadS} {lv : LivesS} {pl : PlanS} {mt : MatS} {nt : NetS} {m : ModS} {n q w : Int32} {b : Bool} (g0 : isInB n 0 9 = false) : Ret E yX8_seen cX8_seen 5 (some .int) (d + 2) 0 0 [.ref 0, .int n, .int q, .int w, .int (b2i b)] (hp nw i0 i1 pd lv pl mt nt m) (dt (some (.int (-2))) (hp nw i0 i1 pd lv pl mt nt m)) := by
  refine ret_of_go (L := [_, _, _, _, _]) (by decide) (Nat.le_of_ble_eq_true rfl) rfl ?_
  refine go_iload_n dX8_seen_0 rfl ?_
  refine go_iconst (v := 0) dX8_seen_1 (by decide) ?_
  refine go_bipush (v := 9) dX8_seen_2 (by decide) ?_
  refine go_cS (as := [_, _, _]) dX8_seen_4 mX8_isIn kX8_55 tX8_isIn rfl rfl (rX8_isIn) rfl rfl rfl ?_
  refine go_be_f (tgt := 30) dX8_seen_7 (by decide) g0 ?_
  refine go_bipush (v := (-2)) dX8_seen_30 (by decide) ?_
  refine go_iret dX8_seen_32 rfl rfl ?_
  exact ⟨rfl, rfl⟩
set_option maxRecDepth 100000 in
set_option maxHeartbeats 4000000 in
theorem rX8_seen_2 {E : gE} {d : Nat} {nw i0 i1 : WorldS} {pd : PadS} {lv : LivesS} {pl : PlanS} {mt : MatS} {nt : NetS} {m : ModS} {n q w : Int32} {b : Bool} (g0 : isInB n 0 9 = true) (g1 : isInB q 1 8 = false) : Ret E yX8_seen cX8_seen 5 (some .int) (d + 2) 0 0 [.ref 0, .int n, .int q, .int w, .int (b2i b)] (hp nw i0 i1 pd lv pl mt nt m) (dt (some (.int (-2))) (hp nw i0 i1 pd lv pl mt nt m)) := by
  refine ret_of_go (L := [_, _, _, _, _]) (by decide) (Nat.le_of_ble_eq_true rfl) rfl ?_
  refine go_iload_n dX8_seen_0 rfl ?_
  refine go_iconst (v := 0) dX8_seen_1 (by decide) ?_
  refine go_bipush (v := 9) dX8_seen_2 (by decide) ?_
  refine go_cS (as := [_, _, _]) dX8_seen_4 mX8_isIn kX8_55 tX8_isIn rfl rfl (rX8_isIn) rfl rfl rfl ?_
  refine go_be_t dX8_seen_7 g0 ?_
  refine go_iload_n dX8_seen_10 rfl ?_
  refine go_iconst (v := 1) dX8_seen_11 (by decide) ?_
  refine go_bipush (v := 8) dX8_seen_12 (by decide) ?_
  refine go_cS (as := [_, _, _]) dX8_seen_14 mX8_isIn kX8_55 tX8_isIn rfl rfl (rX8_isIn) rfl rfl rfl ?_
  refine go_be_f (tgt := 30) dX8_seen_17 (by decide) g1 ?_
  refine go_bipush (v := (-2)) dX8_seen_30 (by decide) ?_
  refine go_iret dX8_seen_32 rfl rfl ?_
  exact ⟨rfl, rfl⟩
set_option maxRecDepth 100000 in
set_option maxHeartbeats 4000000 in
theorem rX8_seen_3 {E : gE} {d : Nat} {nw i0 i1 : WorldS} {pd : PadS} {lv : LivesS} {pl : PlanS} {mt : MatS} {nt : NetS} {m : ModS} {n q w : Int32} {b : Bool} (g0 : isInB n 0 9 = true) (g1 : isInB q 1 8 = true) (g2 : isInB w 1 9 = false) : Ret E yX8_seen cX8_seen 5 (some .int) (d + 2) 0 0 [.ref 0, .int n, .int q, .int w, .int (b2i b)] (hp nw i0 i1 pd lv pl mt nt m) (dt (some (.int (-2))) (hp nw i0 i1 pd lv pl mt nt m)) := by
  refine ret_of_go (L := [_, _, _, _, _]) (by decide) (Nat.le_of_ble_eq_true rfl) rfl ?_
  refine go_iload_n dX8_seen_0 rfl ?_
  refine go_iconst (v := 0) dX8_seen_1 (by decide) ?_
  refine go_bipush (v := 9) dX8_seen_2 (by decide) ?_
  refine go_cS (as := [_, _, _]) dX8_seen_4 mX8_isIn kX8_55 tX8_isIn rfl rfl (rX8_isIn) rfl rfl rfl ?_
  refine go_be_t dX8_seen_7 g0 ?_
  refine go_iload_n dX8_seen_10 rfl ?_
  refine go_iconst (v := 1) dX8_seen_11 (by decide) ?_
  refine go_bipush (v := 8) dX8_seen_12 (by decide) ?_
  refine go_cS (as := [_, _, _]) dX8_seen_14 mX8_isIn kX8_55 tX8_isIn rfl rfl (rX8_isIn) rfl rfl rfl ?_
  refine go_be_t dX8_seen_17 g1 ?_
  refine go_iload_n dX8_seen_20 rfl ?_
  refine go_iconst (v := 1) dX8_seen_21 (by decide) ?_
  refine go_bipush (v := 9) dX8_seen_22 (by decide) ?_
  refine go_cS (as := [_, _, _]) dX8_seen_24 mX8_isIn kX8_55 tX8_isIn rfl rfl (rX8_isIn) rfl rfl rfl ?_
  refine go_bn_f dX8_seen_27 g2 ?_
  refine go_bipush (v := (-2)) dX8_seen_30 (by decide) ?_
  refine go_iret dX8_seen_32 rfl rfl ?_
  exact ⟨rfl, rfl⟩
set_option maxRecDepth 100000 in
set_option maxHeartbeats 4000000 in
theorem rX8_seen_4 {E : gE} {d : Nat} {nw i0 i1 : WorldS} {pd : PadS} {lv : LivesS} {pl : PlanS} {mt : MatS} {nt : NetS} {m : ModS} {n q w : Int32} {b : Bool} {s : Nat} (g0 : isInB n 0 9 = true) (g1 : isInB q 1 8 = true) (g2 : isInB w 1 9 = true) (hs8 : s = 8) : Ret E yX8_seen cX8_seen 5 (some .int) (d + 2) 0 0 [.ref 0, .int n, .int q, .int w, .int (b2i b)] (hp (nw.1, nw.2.1, nw.2.2.1, nw.2.2.2.1, nI s, nw.2.2.2.2.2) i0 i1 pd lv pl mt nt m) (dt (some (.int (-4))) (hp (nw.1, nw.2.1, nw.2.2.1, nw.2.2.2.1, nI s, nw.2.2.2.2.2) i0 i1 pd lv pl mt nt m)) := by
  refine ret_of_go (L := [_, _, _, _, _]) (by decide) (Nat.le_of_ble_eq_true rfl) rfl ?_
  refine go_iload_n dX8_seen_0 rfl ?_
  refine go_iconst (v := 0) dX8_seen_1 (by decide) ?_
  refine go_bipush (v := 9) dX8_seen_2 (by decide) ?_
  refine go_cS (as := [_, _, _]) dX8_seen_4 mX8_isIn kX8_55 tX8_isIn rfl rfl (rX8_isIn) rfl rfl rfl ?_
  refine go_be_t dX8_seen_7 g0 ?_
  refine go_iload_n dX8_seen_10 rfl ?_
  refine go_iconst (v := 1) dX8_seen_11 (by decide) ?_
  refine go_bipush (v := 8) dX8_seen_12 (by decide) ?_
  refine go_cS (as := [_, _, _]) dX8_seen_14 mX8_isIn kX8_55 tX8_isIn rfl rfl (rX8_isIn) rfl rfl rfl ?_
  refine go_be_t dX8_seen_17 g1 ?_
  refine go_iload_n dX8_seen_20 rfl ?_
  refine go_iconst (v := 1) dX8_seen_21 (by decide) ?_
  refine go_bipush (v := 9) dX8_seen_22 (by decide) ?_
  refine go_cS (as := [_, _, _]) dX8_seen_24 mX8_isIn kX8_55 tX8_isIn rfl rfl (rX8_isIn) rfl rfl rfl ?_
  refine go_bn_t (tgt := 33) dX8_seen_27 (by decide) g2 ?_
  refine go_aload_n dX8_seen_33 rfl ?_
  refine go_get dX8_seen_34 fX8_10 rfl rfl ?_
  refine go_get dX8_seen_37 fX8_200 rfl rfl ?_
  refine go_bipush (v := 8) dX8_seen_40 (by decide) ?_
  refine go_icmp_lt (tgt := 48) dX8_seen_42 (by decide) (fun zq => absurd zq (by subst hs8; exact nI_nlt (a := 8) (b := 8) (by decide) (by decide))) (fun q42 => ?_)
  refine go_bipush (v := (-4)) dX8_seen_45 (by decide) ?_
  refine go_iret dX8_seen_47 rfl rfl ?_
  exact ⟨rfl, rfl⟩
set_option maxRecDepth 100000 in
set_option maxHeartbeats 4000000 in
theorem rX8_seen_5 {E : gE} {d : Nat} {nw i0 i1 : WorldS} {pd : PadS} {lv : LivesS} {pl : PlanS} {mt : MatS} {nt : NetS} {m : ModS} {n q w : Int32} {b : Bool} {s : Nat} (g0 : isInB n 0 9 = true) (g1 : isInB q 1 8 = true) (g2 : isInB w 1 9 = true) (hs8 : s < 8) : Ret E yX8_seen cX8_seen 5 (some .int) (d + 2) 0 0 [.ref 0, .int n, .int q, .int w, .int (b2i b)] (hp (nw.1, nw.2.1, nw.2.2.1, nw.2.2.2.1, nI s, nw.2.2.2.2.2) i0 i1 pd lv pl mt nt m) (dt (some (.int (nI (s + 1)))) (hp (nw.1, nw.2.1, (upd nw.2.2.1 s (100 * n + 10 * q + w)), (upd nw.2.2.2.1 s (b2i b)), nI (s + 1), nw.2.2.2.2.2) i0 i1 pd lv pl mt nt m)) := by
  refine ret_of_go (L := [_, _, _, _, _]) (by decide) (Nat.le_of_ble_eq_true rfl) rfl ?_
  refine go_iload_n dX8_seen_0 rfl ?_
  refine go_iconst (v := 0) dX8_seen_1 (by decide) ?_
  refine go_bipush (v := 9) dX8_seen_2 (by decide) ?_
  refine go_cS (as := [_, _, _]) dX8_seen_4 mX8_isIn kX8_55 tX8_isIn rfl rfl (rX8_isIn) rfl rfl rfl ?_
  refine go_be_t dX8_seen_7 g0 ?_
  refine go_iload_n dX8_seen_10 rfl ?_
  refine go_iconst (v := 1) dX8_seen_11 (by decide) ?_
  refine go_bipush (v := 8) dX8_seen_12 (by decide) ?_
  refine go_cS (as := [_, _, _]) dX8_seen_14 mX8_isIn kX8_55 tX8_isIn rfl rfl (rX8_isIn) rfl rfl rfl ?_
  refine go_be_t dX8_seen_17 g1 ?_
  refine go_iload_n dX8_seen_20 rfl ?_
  refine go_iconst (v := 1) dX8_seen_21 (by decide) ?_
  refine go_bipush (v := 9) dX8_seen_22 (by decide) ?_
  refine go_cS (as := [_, _, _]) dX8_seen_24 mX8_isIn kX8_55 tX8_isIn rfl rfl (rX8_isIn) rfl rfl rfl ?_
  refine go_bn_t (tgt := 33) dX8_seen_27 (by decide) g2 ?_
  refine go_aload_n dX8_seen_33 rfl ?_
  refine go_get dX8_seen_34 fX8_10 rfl rfl ?_
  refine go_get dX8_seen_37 fX8_200 rfl rfl ?_
  refine go_bipush (v := 8) dX8_seen_40 (by decide) ?_
  refine go_icmp_lt (tgt := 48) dX8_seen_42 (by decide) (fun q42 => ?_) (fun zq => absurd (nI_lt (a := s) (b := 8) hs8 (by decide)) zq)
  refine go_aload_n dX8_seen_48 rfl ?_
  refine go_get dX8_seen_49 fX8_10 rfl rfl ?_
  refine go_iload_n dX8_seen_52 rfl ?_
  refine go_iload_n dX8_seen_53 rfl ?_
  refine go_iload_n dX8_seen_54 rfl ?_
  refine go_iload dX8_seen_55 rfl ?_
  refine go_cVv (as := [_, _, _, _]) dX8_seen_57 mX7_addSight kX8_203 iX7_addSight sX7_addSight rfl rfl rfl rfl (rX7_addSight hs8) rfl rfl rfl ?_
  refine go_aload_n dX8_seen_60 rfl ?_
  refine go_get dX8_seen_61 fX8_10 rfl rfl ?_
  refine go_get dX8_seen_64 fX8_200 rfl rfl ?_
  refine go_iret dX8_seen_67 rfl rfl ?_
  exact ⟨rfl, rfl⟩
set_option maxRecDepth 100000 in
set_option maxHeartbeats 4000000 in
theorem rX8_forget_1 {E : gE} {d : Nat} {nw i0 i1 : WorldS} {pd : PadS} {lv : LivesS} {pl : PlanS} {mt : MatS} {nt : NetS} {m : ModS} {s : Nat} : Ret E yX8_forget cX8_forget 2 (some .int) d 0 0 [.ref 0] (hp (nw.1, nw.2.1, nw.2.2.1, nw.2.2.2.1, nI s, nw.2.2.2.2.2) i0 i1 pd lv pl mt nt m) (dt (some (.int (nI s))) (hp (nw.1, nw.2.1, nw.2.2.1, nw.2.2.2.1, nI 0, nw.2.2.2.2.2) i0 i1 pd lv pl mt nt m)) := by
  refine ret_of_go (L := [_, _]) (by decide) (Nat.le_of_ble_eq_true rfl) rfl ?_
  refine go_aload_n dX8_forget_0 rfl ?_
  refine go_get dX8_forget_1 fX8_10 rfl rfl ?_
  refine go_get dX8_forget_4 fX8_200 rfl rfl ?_
  refine go_istore_n (L' := [_, _]) dX8_forget_7 rfl rfl rfl ?_
  refine go_aload_n dX8_forget_8 rfl ?_
  refine go_get dX8_forget_9 fX8_10 rfl rfl ?_
  refine go_iconst (v := 0) dX8_forget_12 (by decide) ?_
  refine go_put dX8_forget_13 fX8_200 (fun _ => rfl) (fun _ => rfl) rfl rfl ?_
  refine go_iload_n dX8_forget_16 rfl ?_
  refine go_iret dX8_forget_17 rfl rfl ?_
  exact ⟨rfl, rfl⟩
set_option maxRecDepth 100000 in
set_option maxHeartbeats 4000000 in
theorem rX8_signs_1 {E : gE} {d : Nat} {nw i0 i1 : WorldS} {pd : PadS} {lv : LivesS} {pl : PlanS} {mt : MatS} {nt : NetS} {m : ModS} {O : Nat → Nat} {s : Nat} (hs8 : s ≤ 8) (hO : ∀ i, i < s → offOK (O i)) : Ret E yX8_signs cX8_signs 1 (some .int) (d + 5) 0 0 [.ref 0] (hp (nw.1, nw.2.1, fun i => nI (O i), nw.2.2.2.1, nI s, nw.2.2.2.2.2) i0 i1 pd lv pl mt nt m) (dt (some (.int (fhR (learnF nw.2.1 pl).1 (learnF nw.2.1 pl).2.1 O nw.2.2.2.1 s))) (hp (nw.1, nw.2.1, fun i => nI (O i), nw.2.2.2.1, nI s, nw.2.2.2.2.2) i0 i1 pd lv (learnF nw.2.1 pl) mt nt m)) := by
  refine ret_of_go (L := [_]) (by decide) (Nat.le_of_ble_eq_true rfl) rfl ?_
  refine go_aload_n dX8_signs_0 rfl ?_
  refine go_get dX8_signs_1 fX8_37 rfl rfl ?_
  refine go_aload_n dX8_signs_4 rfl ?_
  refine go_get dX8_signs_5 fX8_10 rfl rfl ?_
  refine go_cVv (as := [_]) dX8_signs_8 mX6_learn kX8_149 iX6_learn sX6_learn rfl rfl rfl rfl (rX6_learn) rfl rfl rfl ?_
  refine go_aload_n dX8_signs_11 rfl ?_
  refine go_cV (as := []) dX8_signs_12 mX8_fittingHabits kX8_207 iX8_fittingHabits sX8_fittingHabits rfl rfl rfl rfl (rX8_fittingHabits hs8 hO) rfl rfl rfl ?_
  refine go_iret dX8_signs_15 rfl rfl ?_
  exact ⟨rfl, rfl⟩
set_option maxRecDepth 100000 in
set_option maxHeartbeats 4000000 in
theorem rX8_watch_1 {E : gE} {d : Nat} {nw i0 i1 : WorldS} {pd : PadS} {lv : LivesS} {pl : PlanS} {mt : MatS} {nt : NetS} {m : ModS} {w : Int32} (h1 : isInB w 0 1 = false) : Ret E yX8_watch cX8_watch 3 (some .int) (d + 1) 0 0 [.ref 0, .int w] (hp nw i0 i1 pd lv pl mt nt m) (dt (some (.int (-2))) (hp nw i0 i1 pd lv pl mt nt m)) := by
  refine ret_of_go (L := [_, _, _]) (by decide) (Nat.le_of_ble_eq_true rfl) rfl ?_
  refine go_iload_n dX8_watch_0 rfl ?_
  refine go_iconst (v := 0) dX8_watch_1 (by decide) ?_
  refine go_iconst (v := 1) dX8_watch_2 (by decide) ?_
  refine go_cS (as := [_, _, _]) dX8_watch_3 mX8_isIn kX8_55 tX8_isIn rfl rfl (rX8_isIn) rfl rfl rfl ?_
  refine go_bn_f dX8_watch_6 h1 ?_
  refine go_bipush (v := (-2)) dX8_watch_9 (by decide) ?_
  refine go_iret dX8_watch_11 rfl rfl ?_
  exact ⟨rfl, rfl⟩
set_option maxRecDepth 100000 in
set_option maxHeartbeats 4000000 in
theorem rX8_watch_2 {E : gE} {d : Nat} {nw i0 i1 : WorldS} {pd : PadS} {lv : LivesS} {pl : PlanS} {mt : MatS} {nt : NetS} {m : ModS} {O : Nat → Nat} {s : Nat} (hs8 : s ≤ 8) (hO : ∀ i, i < s → offOK (O i)) {w : Int32} (h1 : isInB w 0 1 = true) (h2 : (fhR (learnF nw.2.1 pl).1 (learnF nw.2.1 pl).2.1 O nw.2.2.2.1 s) = 0) : Ret E yX8_watch cX8_watch 3 (some .int) (d + 5) 0 0 [.ref 0, .int w] (hp (nw.1, nw.2.1, fun i => nI (O i), nw.2.2.2.1, nI s, nw.2.2.2.2.2) i0 i1 pd lv pl mt nt m) (dt (some (.int (-6))) (hp (nw.1, nw.2.1, fun i => nI (O i), nw.2.2.2.1, nI s, nw.2.2.2.2.2) i0 i1 pd lv (learnF nw.2.1 pl) mt nt m)) := by
  refine ret_of_go (L := [_, _, _]) (by decide) (Nat.le_of_ble_eq_true rfl) rfl ?_
  refine go_iload_n dX8_watch_0 rfl ?_
  refine go_iconst (v := 0) dX8_watch_1 (by decide) ?_
  refine go_iconst (v := 1) dX8_watch_2 (by decide) ?_
  refine go_cS (as := [_, _, _]) dX8_watch_3 mX8_isIn kX8_55 tX8_isIn rfl rfl (rX8_isIn) rfl rfl rfl ?_
  refine go_bn_t (tgt := 12) dX8_watch_6 (by decide) h1 ?_
  refine go_aload_n dX8_watch_12 rfl ?_
  refine go_get dX8_watch_13 fX8_37 rfl rfl ?_
  refine go_aload_n dX8_watch_16 rfl ?_
  refine go_get dX8_watch_17 fX8_10 rfl rfl ?_
  refine go_cVv (as := [_]) dX8_watch_20 mX6_learn kX8_149 iX6_learn sX6_learn rfl rfl rfl rfl (rX6_learn) rfl rfl rfl ?_
  refine go_aload_n dX8_watch_23 rfl ?_
  refine go_cV (as := []) dX8_watch_24 mX8_fittingHabits kX8_207 iX8_fittingHabits sX8_fittingHabits rfl rfl rfl rfl (rX8_fittingHabits hs8 hO) rfl rfl rfl ?_
  refine go_istore_n (L' := [_, _, _]) dX8_watch_27 rfl rfl rfl ?_
  refine go_iload_n dX8_watch_28 rfl ?_
  refine go_if_ne (tgt := 35) dX8_watch_29 (by decide) (fun zq => absurd h2 zq) (fun q29 => ?_)
  refine go_bipush (v := (-6)) dX8_watch_32 (by decide) ?_
  refine go_iret dX8_watch_34 rfl rfl ?_
  exact ⟨rfl, rfl⟩
set_option maxRecDepth 100000 in
set_option maxHeartbeats 4000000 in
theorem rX8_watch_3 {E : gE} {d : Nat} {nw i0 i1 : WorldS} {pd : PadS} {lv : LivesS} {pl : PlanS} {mt : MatS} {nt : NetS} {m : ModS} {O : Nat → Nat} {s : Nat} (hs8 : s ≤ 8) (hO : ∀ i, i < s → offOK (O i)) {w : Int32} (h1 : isInB w 0 1 = true) (h2 : ¬ (fhR (learnF nw.2.1 pl).1 (learnF nw.2.1 pl).2.1 O nw.2.2.2.1 s) = 0) : Ret E yX8_watch cX8_watch 3 (some .int) (d + 5) 0 0 [.ref 0, .int w] (hp (nw.1, nw.2.1, fun i => nI (O i), nw.2.2.2.1, nI s, nw.2.2.2.2.2) i0 i1 pd lv pl mt nt m) (dt (some (.int (if w = 0 then (bw1 (learnF nw.2.1 pl).1 (learnF nw.2.1 pl).2.1 (fhR (learnF nw.2.1 pl).1 (learnF nw.2.1 pl).2.1 O nw.2.2.2.1 s) 10).1 else (bw1 (learnF nw.2.1 pl).1 (learnF nw.2.1 pl).2.1 (fhR (learnF nw.2.1 pl).1 (learnF nw.2.1 pl).2.1 O nw.2.2.2.1 s) 10).2))) (hp (nw.1, nw.2.1, fun i => nI (O i), nw.2.2.2.1, nI s, nw.2.2.2.2.2) i0 i1 pd lv (learnF nw.2.1 pl) mt nt m)) := by
  refine ret_of_go (L := [_, _, _]) (by decide) (Nat.le_of_ble_eq_true rfl) rfl ?_
  refine go_iload_n dX8_watch_0 rfl ?_
  refine go_iconst (v := 0) dX8_watch_1 (by decide) ?_
  refine go_iconst (v := 1) dX8_watch_2 (by decide) ?_
  refine go_cS (as := [_, _, _]) dX8_watch_3 mX8_isIn kX8_55 tX8_isIn rfl rfl (rX8_isIn) rfl rfl rfl ?_
  refine go_bn_t (tgt := 12) dX8_watch_6 (by decide) h1 ?_
  refine go_aload_n dX8_watch_12 rfl ?_
  refine go_get dX8_watch_13 fX8_37 rfl rfl ?_
  refine go_aload_n dX8_watch_16 rfl ?_
  refine go_get dX8_watch_17 fX8_10 rfl rfl ?_
  refine go_cVv (as := [_]) dX8_watch_20 mX6_learn kX8_149 iX6_learn sX6_learn rfl rfl rfl rfl (rX6_learn) rfl rfl rfl ?_
  refine go_aload_n dX8_watch_23 rfl ?_
  refine go_cV (as := []) dX8_watch_24 mX8_fittingHabits kX8_207 iX8_fittingHabits sX8_fittingHabits rfl rfl rfl rfl (rX8_fittingHabits hs8 hO) rfl rfl rfl ?_
  refine go_istore_n (L' := [_, _, _]) dX8_watch_27 rfl rfl rfl ?_
  refine go_iload_n dX8_watch_28 rfl ?_
  refine go_if_ne (tgt := 35) dX8_watch_29 (by decide) (fun q29 => ?_) (fun zq => absurd zq h2)
  refine go_aload_n dX8_watch_35 rfl ?_
  refine go_iload_n dX8_watch_36 rfl ?_
  refine go_iload_n dX8_watch_37 rfl ?_
  refine go_cV (as := [_, _]) dX8_watch_38 mX8_bestWatch kX8_210 iX8_bestWatch sX8_bestWatch rfl rfl rfl rfl (rX8_bestWatch) rfl rfl rfl ?_
  refine go_iret dX8_watch_41 rfl rfl ?_
  exact ⟨rfl, rfl⟩
