set_option maxRecDepth 100000 in
set_option maxHeartbeats 4000000 in
theorem rX9_last_1 {E : gE} {d : Nat} {nw i0 i1 : WorldS} {pd : PadS} {lv : LivesS} {pl : PlanS} {mt : MatS} {nt : NetS} {m : ModS} {s q t w : Int32} (h1 : isInB s 0 400 = false) : Ret E yX9_last cX9_last 5 (some .long) (d + 3) 0 0 [.ref 52, .int s, .int q, .int t, .int w] (hp nw i0 i1 pd lv pl mt nt m) (dt (some (.long (-1000000000000000002))) (hp nw i0 i1 pd lv pl mt nt m)) := by
  refine ret_of_go (L := [_, _, _, _, _]) (by decide) (Nat.le_of_ble_eq_true rfl) rfl ?_
  refine go_iload_n dX9_last_0 rfl ?_
  refine go_iconst (v := 0) dX9_last_1 (by decide) ?_
  refine go_sipush (v := 400) dX9_last_2 (by decide) ?_
  refine go_cS (as := [_, _, _]) dX9_last_5 mX9_in kX9_48 tX9_in rfl rfl (rX9_in) rfl rfl rfl ?_
  refine go_be_f (tgt := 41) dX9_last_8 (by decide) h1 ?_
  refine go_ldc2_w dX9_last_41 nX9_144 ?_
  refine go_lret dX9_last_44 rfl rfl ?_
  exact ⟨rfl, rfl⟩
set_option maxRecDepth 100000 in
set_option maxHeartbeats 4000000 in
theorem rX9_last_2 {E : gE} {d : Nat} {nw i0 i1 : WorldS} {pd : PadS} {lv : LivesS} {pl : PlanS} {mt : MatS} {nt : NetS} {m : ModS} {s q t w : Int32} (h1 : isInB s 0 400 = true) (h2 : isInB q 0 9 = false) : Ret E yX9_last cX9_last 5 (some .long) (d + 3) 0 0 [.ref 52, .int s, .int q, .int t, .int w] (hp nw i0 i1 pd lv pl mt nt m) (dt (some (.long (-1000000000000000002))) (hp nw i0 i1 pd lv pl mt nt m)) := by
  refine ret_of_go (L := [_, _, _, _, _]) (by decide) (Nat.le_of_ble_eq_true rfl) rfl ?_
  refine go_iload_n dX9_last_0 rfl ?_
  refine go_iconst (v := 0) dX9_last_1 (by decide) ?_
  refine go_sipush (v := 400) dX9_last_2 (by decide) ?_
  refine go_cS (as := [_, _, _]) dX9_last_5 mX9_in kX9_48 tX9_in rfl rfl (rX9_in) rfl rfl rfl ?_
  refine go_be_t dX9_last_8 h1 ?_
  refine go_iload_n dX9_last_11 rfl ?_
  refine go_iconst (v := 0) dX9_last_12 (by decide) ?_
  refine go_bipush (v := 9) dX9_last_13 (by decide) ?_
  refine go_cS (as := [_, _, _]) dX9_last_15 mX9_in kX9_48 tX9_in rfl rfl (rX9_in) rfl rfl rfl ?_
  refine go_be_f (tgt := 41) dX9_last_18 (by decide) h2 ?_
  refine go_ldc2_w dX9_last_41 nX9_144 ?_
  refine go_lret dX9_last_44 rfl rfl ?_
  exact ⟨rfl, rfl⟩
set_option maxRecDepth 100000 in
set_option maxHeartbeats 4000000 in
theorem rX9_last_3 {E : gE} {d : Nat} {nw i0 i1 : WorldS} {pd : PadS} {lv : LivesS} {pl : PlanS} {mt : MatS} {nt : NetS} {m : ModS} {s q t w : Int32} (h1 : isInB s 0 400 = true) (h2 : isInB q 0 9 = true) (h3 : isInB t 0 10 = false) : Ret E yX9_last cX9_last 5 (some .long) (d + 3) 0 0 [.ref 52, .int s, .int q, .int t, .int w] (hp nw i0 i1 pd lv pl mt nt m) (dt (some (.long (-1000000000000000002))) (hp nw i0 i1 pd lv pl mt nt m)) := by
  refine ret_of_go (L := [_, _, _, _, _]) (by decide) (Nat.le_of_ble_eq_true rfl) rfl ?_
  refine go_iload_n dX9_last_0 rfl ?_
  refine go_iconst (v := 0) dX9_last_1 (by decide) ?_
  refine go_sipush (v := 400) dX9_last_2 (by decide) ?_
  refine go_cS (as := [_, _, _]) dX9_last_5 mX9_in kX9_48 tX9_in rfl rfl (rX9_in) rfl rfl rfl ?_
  refine go_be_t dX9_last_8 h1 ?_
  refine go_iload_n dX9_last_11 rfl ?_
  refine go_iconst (v := 0) dX9_last_12 (by decide) ?_
  refine go_bipush (v := 9) dX9_last_13 (by decide) ?_
  refine go_cS (as := [_, _, _]) dX9_last_15 mX9_in kX9_48 tX9_in rfl rfl (rX9_in) rfl rfl rfl ?_
  refine go_be_t dX9_last_18 h2 ?_
  refine go_iload_n dX9_last_21 rfl ?_
  refine go_iconst (v := 0) dX9_last_22 (by decide) ?_
  refine go_bipush (v := 10) dX9_last_23 (by decide) ?_
  refine go_cS (as := [_, _, _]) dX9_last_25 mX9_in kX9_48 tX9_in rfl rfl (rX9_in) rfl rfl rfl ?_
  refine go_be_f (tgt := 41) dX9_last_28 (by decide) h3 ?_
  refine go_ldc2_w dX9_last_41 nX9_144 ?_
  refine go_lret dX9_last_44 rfl rfl ?_
  exact ⟨rfl, rfl⟩
set_option maxRecDepth 100000 in
set_option maxHeartbeats 4000000 in
theorem rX9_last_4 {E : gE} {d : Nat} {nw i0 i1 : WorldS} {pd : PadS} {lv : LivesS} {pl : PlanS} {mt : MatS} {nt : NetS} {m : ModS} {s q t w : Int32} (h1 : isInB s 0 400 = true) (h2 : isInB q 0 9 = true) (h3 : isInB t 0 10 = true) (h4 : isInB w 0 1 = false) : Ret E yX9_last cX9_last 5 (some .long) (d + 3) 0 0 [.ref 52, .int s, .int q, .int t, .int w] (hp nw i0 i1 pd lv pl mt nt m) (dt (some (.long (-1000000000000000002))) (hp nw i0 i1 pd lv pl mt nt m)) := by
  refine ret_of_go (L := [_, _, _, _, _]) (by decide) (Nat.le_of_ble_eq_true rfl) rfl ?_
  refine go_iload_n dX9_last_0 rfl ?_
  refine go_iconst (v := 0) dX9_last_1 (by decide) ?_
  refine go_sipush (v := 400) dX9_last_2 (by decide) ?_
  refine go_cS (as := [_, _, _]) dX9_last_5 mX9_in kX9_48 tX9_in rfl rfl (rX9_in) rfl rfl rfl ?_
  refine go_be_t dX9_last_8 h1 ?_
  refine go_iload_n dX9_last_11 rfl ?_
  refine go_iconst (v := 0) dX9_last_12 (by decide) ?_
  refine go_bipush (v := 9) dX9_last_13 (by decide) ?_
  refine go_cS (as := [_, _, _]) dX9_last_15 mX9_in kX9_48 tX9_in rfl rfl (rX9_in) rfl rfl rfl ?_
  refine go_be_t dX9_last_18 h2 ?_
  refine go_iload_n dX9_last_21 rfl ?_
  refine go_iconst (v := 0) dX9_last_22 (by decide) ?_
  refine go_bipush (v := 10) dX9_last_23 (by decide) ?_
  refine go_cS (as := [_, _, _]) dX9_last_25 mX9_in kX9_48 tX9_in rfl rfl (rX9_in) rfl rfl rfl ?_
  refine go_be_t dX9_last_28 h3 ?_
  refine go_iload dX9_last_31 rfl ?_
  refine go_iconst (v := 0) dX9_last_33 (by decide) ?_
  refine go_iconst (v := 1) dX9_last_34 (by decide) ?_
  refine go_cS (as := [_, _, _]) dX9_last_35 mX9_in kX9_48 tX9_in rfl rfl (rX9_in) rfl rfl rfl ?_
  refine go_bn_f dX9_last_38 h4 ?_
  refine go_ldc2_w dX9_last_41 nX9_144 ?_
  refine go_lret dX9_last_44 rfl rfl ?_
  exact ⟨rfl, rfl⟩
set_option maxRecDepth 100000 in
set_option maxHeartbeats 4000000 in
theorem rX9_last_5 {E : gE} {d : Nat} {nw i0 i1 : WorldS} {pd : PadS} {lv : LivesS} {pl : PlanS} {mt : MatS} {nt : NetS} {m : ModS} {s q t n0 : Nat} {w : Int32} {g : Int64} (hs : s ≤ 400) (hq : q ≤ 9) (ht : t ≤ 10) (h4 : isInB w 0 1 = true) (hgd : gdR n0 (amR q t (min s q + 1)) (pwL 10 q) = some g) (hg : ¬ g = 0) : Ret E yX9_last cX9_last 5 (some .long) (d + 3) 0 0 [.ref 52, .int (nI s), .int (nI q), .int (nI t), .int w] (hp nw i0 i1 pd lv pl mt nt m) (dt (some (.long (if w = 0 then amR q t (min s q + 1) / g else pwL 10 q / g))) (hp nw i0 i1 pd lv pl mt nt m)) := by
  refine ret_of_go (L := [_, _, _, _, _]) (by decide) (Nat.le_of_ble_eq_true rfl) rfl ?_
  refine go_iload_n dX9_last_0 rfl ?_
  refine go_iconst (v := 0) dX9_last_1 (by decide) ?_
  refine go_sipush (v := 400) dX9_last_2 (by decide) ?_
  refine go_cS (as := [_, _, _]) dX9_last_5 mX9_in kX9_48 tX9_in rfl rfl (rX9_in) rfl rfl rfl ?_
  refine go_be_t dX9_last_8 (inB_of (k := s) (a := 0) (b := 400) (by omega) (by omega) (by decide)) ?_
  refine go_iload_n dX9_last_11 rfl ?_
  refine go_iconst (v := 0) dX9_last_12 (by decide) ?_
  refine go_bipush (v := 9) dX9_last_13 (by decide) ?_
  refine go_cS (as := [_, _, _]) dX9_last_15 mX9_in kX9_48 tX9_in rfl rfl (rX9_in) rfl rfl rfl ?_
  refine go_be_t dX9_last_18 (inB_of (k := q) (a := 0) (b := 9) (by omega) (by omega) (by decide)) ?_
  refine go_iload_n dX9_last_21 rfl ?_
  refine go_iconst (v := 0) dX9_last_22 (by decide) ?_
  refine go_bipush (v := 10) dX9_last_23 (by decide) ?_
  refine go_cS (as := [_, _, _]) dX9_last_25 mX9_in kX9_48 tX9_in rfl rfl (rX9_in) rfl rfl rfl ?_
  refine go_be_t dX9_last_28 (inB_of (k := t) (a := 0) (b := 10) (by omega) (by omega) (by decide)) ?_
  refine go_iload dX9_last_31 rfl ?_
  refine go_iconst (v := 0) dX9_last_33 (by decide) ?_
  refine go_iconst (v := 1) dX9_last_34 (by decide) ?_
  refine go_cS (as := [_, _, _]) dX9_last_35 mX9_in kX9_48 tX9_in rfl rfl (rX9_in) rfl rfl rfl ?_
  refine go_bn_t (tgt := 45) dX9_last_38 (by decide) h4 ?_
  refine go_iload_n dX9_last_45 rfl ?_
  refine go_iload_n dX9_last_46 rfl ?_
  refine go_iload_n dX9_last_47 rfl ?_
  refine go_cS (as := [_, _, _]) dX9_last_48 mX9_atMost kX9_162 tX9_atMost rfl rfl (rX9_atMost hs hq) rfl rfl rfl ?_
  refine go_ldc2_w dX9_last_51 nX9_160 ?_
  refine go_iload_n dX9_last_54 rfl ?_
  refine go_cS (as := [_, _]) dX9_last_55 mX9_power kX9_140 tX9_power rfl rfl (rX9_power (n := q) (by omega)) rfl rfl rfl ?_
  refine go_iload dX9_last_58 rfl ?_
  refine go_cS (as := [_, _, _]) dX9_last_60 mX9_part kX9_149 tX9_part rfl rfl (rX9_part hgd hg) rfl rfl rfl ?_
  refine go_lret dX9_last_63 rfl rfl ?_
  exact ⟨rfl, rfl⟩
