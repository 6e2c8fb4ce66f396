set_option maxRecDepth 100000 in
set_option maxHeartbeats 4000000 in
theorem rX9_match_1 {E : gE} {d : Nat} {nw i0 i1 : WorldS} {pd : PadS} {lv : LivesS} {pl : PlanS} {mt : MatS} {nt : NetS} {zbk znw zta zwe zsg zpa zev zac zwr zim zke : Nat → Int32} {zsi zsa zsd zfo zre zma zba zsl zwy : Int32} {zbe : Nat → Int64} {th : Nat} {z w : Int32} (ht : th < 64) (h1 : laB th z = false) : Ret E yX9_match cX9_match 3 (some .int) (d + 2) 0 0 [.ref 52, .int z, .int w] (hp nw i0 i1 pd lv pl mt nt (zbk, znw, (nI th), zta, zwe, zsi, zsg, zsa, zpa, zsd, zfo, zre, zma, zba, zbe, zev, zac, zwr, zsl, zwy, zim, zke)) (dt (some (.int (-2))) (hp nw i0 i1 pd lv pl mt nt (zbk, znw, (nI th), zta, zwe, zsi, zsg, zsa, zpa, zsd, zfo, zre, zma, zba, zbe, zev, (tdR zac z (pcN th)), zwr, zsl, zwy, zim, zke))) := by
  refine ret_of_go (L := [_, _, _]) (by decide) (Nat.le_of_ble_eq_true rfl) rfl ?_
  refine go_aload_n dX9_match_0 rfl ?_
  refine go_iload_n dX9_match_1 rfl ?_
  refine go_cV (as := [_]) dX9_match_2 mX9_layActs kX9_177 iX9_layActs sX9_layActs rfl rfl rfl rfl (rX9_layActs ht) rfl rfl rfl ?_
  refine go_be_f (tgt := 17) dX9_match_5 (by decide) h1 ?_
  refine go_bipush (v := (-2)) dX9_match_17 (by decide) ?_
  refine go_iret dX9_match_19 rfl rfl ?_
  exact ⟨rfl, rfl⟩
set_option maxRecDepth 100000 in
set_option maxHeartbeats 4000000 in
theorem rX9_match_2 {E : gE} {d : Nat} {nw i0 i1 : WorldS} {pd : PadS} {lv : LivesS} {pl : PlanS} {mt : MatS} {nt : NetS} {zbk znw zta zwe zsg zpa zev zac zwr zim zke : Nat → Int32} {zsi zsa zsd zfo zre zma zba zsl zwy : Int32} {zbe : Nat → Int64} {th : Nat} {z w : Int32} (ht : th < 64) (h1 : laB th z = true) (h2 : isInB w 0 1 = false) : Ret E yX9_match cX9_match 3 (some .int) (d + 2) 0 0 [.ref 52, .int z, .int w] (hp nw i0 i1 pd lv pl mt nt (zbk, znw, (nI th), zta, zwe, zsi, zsg, zsa, zpa, zsd, zfo, zre, zma, zba, zbe, zev, zac, zwr, zsl, zwy, zim, zke)) (dt (some (.int (-2))) (hp nw i0 i1 pd lv pl mt nt (zbk, znw, (nI th), zta, zwe, zsi, zsg, zsa, zpa, zsd, zfo, zre, zma, zba, zbe, zev, (tdR zac z (pcN th)), zwr, zsl, zwy, zim, zke))) := by
  refine ret_of_go (L := [_, _, _]) (by decide) (Nat.le_of_ble_eq_true rfl) rfl ?_
  refine go_aload_n dX9_match_0 rfl ?_
  refine go_iload_n dX9_match_1 rfl ?_
  refine go_cV (as := [_]) dX9_match_2 mX9_layActs kX9_177 iX9_layActs sX9_layActs rfl rfl rfl rfl (rX9_layActs ht) rfl rfl rfl ?_
  refine go_be_t dX9_match_5 h1 ?_
  refine go_iload_n dX9_match_8 rfl ?_
  refine go_iconst (v := 0) dX9_match_9 (by decide) ?_
  refine go_iconst (v := 1) dX9_match_10 (by decide) ?_
  refine go_cS (as := [_, _, _]) dX9_match_11 mX9_in kX9_48 tX9_in rfl rfl (rX9_in) rfl rfl rfl ?_
  refine go_bn_f dX9_match_14 h2 ?_
  refine go_bipush (v := (-2)) dX9_match_17 (by decide) ?_
  refine go_iret dX9_match_19 rfl rfl ?_
  exact ⟨rfl, rfl⟩
set_option maxRecDepth 100000 in
set_option maxHeartbeats 4000000 in
theorem rX9_match_3 {E : gE} {d : Nat} {nw i0 i1 : WorldS} {pd : PadS} {lv : LivesS} {pl : PlanS} {mt : MatS} {nt : NetS} {zbk znw zta zwe zsg zpa zev zac zwr zim zke : Nat → Int32} {zsi zsa zsd zfo zre zma zba zsl zwy : Int32} {zbe : Nat → Int64} {th : Nat} {z w : Int32} (ht : th < 64) (h1 : laB th z = true) (h2 : isInB w 0 1 = true) (h3 : w = 0) : Ret E yX9_match cX9_match 3 (some .int) (d + 2) 0 0 [.ref 52, .int z, .int w] (hp nw i0 i1 pd lv pl mt nt (zbk, znw, (nI th), zta, zwe, zsi, zsg, zsa, zpa, zsd, zfo, zre, zma, zba, zbe, zev, zac, zwr, zsl, zwy, zim, zke)) (dt (some (.int (lmR th (pcN th) (tdR zac z (pcN th)) zta zwr 46656).1)) (hp nw i0 i1 pd lv pl mt nt (zbk, znw, (nI th), zta, zwe, zsi, zsg, zsa, zpa, zsd, zfo, zre, zma, zba, zbe, zev, (tdR zac z (pcN th)), (lmR th (pcN th) (tdR zac z (pcN th)) zta zwr 46656).2.2, (lmR th (pcN th) (tdR zac z (pcN th)) zta zwr 46656).1, (lmR th (pcN th) (tdR zac z (pcN th)) zta zwr 46656).2.1, zim, zke))) := by
  refine ret_of_go (L := [_, _, _]) (by decide) (Nat.le_of_ble_eq_true rfl) rfl ?_
  refine go_aload_n dX9_match_0 rfl ?_
  refine go_iload_n dX9_match_1 rfl ?_
  refine go_cV (as := [_]) dX9_match_2 mX9_layActs kX9_177 iX9_layActs sX9_layActs rfl rfl rfl rfl (rX9_layActs ht) rfl rfl rfl ?_
  refine go_be_t dX9_match_5 h1 ?_
  refine go_iload_n dX9_match_8 rfl ?_
  refine go_iconst (v := 0) dX9_match_9 (by decide) ?_
  refine go_iconst (v := 1) dX9_match_10 (by decide) ?_
  refine go_cS (as := [_, _, _]) dX9_match_11 mX9_in kX9_48 tX9_in rfl rfl (rX9_in) rfl rfl rfl ?_
  refine go_bn_t (tgt := 20) dX9_match_14 (by decide) h2 ?_
  refine go_aload_n dX9_match_20 rfl ?_
  refine go_cVv (as := []) dX9_match_21 mX9_layMatch kX9_180 iX9_layMatch sX9_layMatch rfl rfl rfl rfl (rX9_layMatch ht) rfl rfl rfl ?_
  refine go_iload_n dX9_match_24 rfl ?_
  refine go_if_ne (tgt := 35) dX9_match_25 (by decide) (fun zq => absurd h3 zq) (fun q25 => ?_)
  refine go_aload_n dX9_match_28 rfl ?_
  refine go_get dX9_match_29 fX9_170 rfl rfl ?_
  refine go_goto (tgt := 39) dX9_match_32 (by decide) ?_
  refine go_iret dX9_match_39 rfl rfl ?_
  exact ⟨rfl, rfl⟩
set_option maxRecDepth 100000 in
set_option maxHeartbeats 4000000 in
theorem rX9_match_4 {E : gE} {d : Nat} {nw i0 i1 : WorldS} {pd : PadS} {lv : LivesS} {pl : PlanS} {mt : MatS} {nt : NetS} {zbk znw zta zwe zsg zpa zev zac zwr zim zke : Nat → Int32} {zsi zsa zsd zfo zre zma zba zsl zwy : Int32} {zbe : Nat → Int64} {th : Nat} {z w : Int32} (ht : th < 64) (h1 : laB th z = true) (h2 : isInB w 0 1 = true) (h3 : ¬ w = 0) : Ret E yX9_match cX9_match 3 (some .int) (d + 2) 0 0 [.ref 52, .int z, .int w] (hp nw i0 i1 pd lv pl mt nt (zbk, znw, (nI th), zta, zwe, zsi, zsg, zsa, zpa, zsd, zfo, zre, zma, zba, zbe, zev, zac, zwr, zsl, zwy, zim, zke)) (dt (some (.int (lmR th (pcN th) (tdR zac z (pcN th)) zta zwr 46656).2.1)) (hp nw i0 i1 pd lv pl mt nt (zbk, znw, (nI th), zta, zwe, zsi, zsg, zsa, zpa, zsd, zfo, zre, zma, zba, zbe, zev, (tdR zac z (pcN th)), (lmR th (pcN th) (tdR zac z (pcN th)) zta zwr 46656).2.2, (lmR th (pcN th) (tdR zac z (pcN th)) zta zwr 46656).1, (lmR th (pcN th) (tdR zac z (pcN th)) zta zwr 46656).2.1, zim, zke))) := by
  refine ret_of_go (L := [_, _, _]) (by decide) (Nat.le_of_ble_eq_true rfl) rfl ?_
  refine go_aload_n dX9_match_0 rfl ?_
  refine go_iload_n dX9_match_1 rfl ?_
  refine go_cV (as := [_]) dX9_match_2 mX9_layActs kX9_177 iX9_layActs sX9_layActs rfl rfl rfl rfl (rX9_layActs ht) rfl rfl rfl ?_
  refine go_be_t dX9_match_5 h1 ?_
  refine go_iload_n dX9_match_8 rfl ?_
  refine go_iconst (v := 0) dX9_match_9 (by decide) ?_
  refine go_iconst (v := 1) dX9_match_10 (by decide) ?_
  refine go_cS (as := [_, _, _]) dX9_match_11 mX9_in kX9_48 tX9_in rfl rfl (rX9_in) rfl rfl rfl ?_
  refine go_bn_t (tgt := 20) dX9_match_14 (by decide) h2 ?_
  refine go_aload_n dX9_match_20 rfl ?_
  refine go_cVv (as := []) dX9_match_21 mX9_layMatch kX9_180 iX9_layMatch sX9_layMatch rfl rfl rfl rfl (rX9_layMatch ht) rfl rfl rfl ?_
  refine go_iload_n dX9_match_24 rfl ?_
  refine go_if_ne (tgt := 35) dX9_match_25 (by decide) (fun q25 => ?_) (fun zq => absurd zq h3)
  refine go_aload_n dX9_match_35 rfl ?_
  refine go_get dX9_match_36 fX9_173 rfl rfl ?_
  refine go_iret dX9_match_39 rfl rfl ?_
  exact ⟨rfl, rfl⟩
set_option maxRecDepth 100000 in
set_option maxHeartbeats 4000000 in
theorem rX9_wrote_1 {E : gE} {d : Nat} {nw i0 i1 : WorldS} {pd : PadS} {lv : LivesS} {pl : PlanS} {mt : MatS} {nt : NetS} {zbk znw zta zwe zsg zpa zev zac zwr zim zke : Nat → Int32} {zsi zsa zsd zfo zre zma zba zsl zwy : Int32} {zbe : Nat → Int64} {th : Nat} {z w : Int32} (ht : th < 64) (h1 : laB th z = false) : Ret E yX9_wrote cX9_wrote 3 (some .int) (d + 2) 0 0 [.ref 52, .int z, .int w] (hp nw i0 i1 pd lv pl mt nt (zbk, znw, (nI th), zta, zwe, zsi, zsg, zsa, zpa, zsd, zfo, zre, zma, zba, zbe, zev, zac, zwr, zsl, zwy, zim, zke)) (dt (some (.int (-2))) (hp nw i0 i1 pd lv pl mt nt (zbk, znw, (nI th), zta, zwe, zsi, zsg, zsa, zpa, zsd, zfo, zre, zma, zba, zbe, zev, (tdR zac z (pcN th)), zwr, zsl, zwy, zim, zke))) := by
  refine ret_of_go (L := [_, _, _]) (by decide) (Nat.le_of_ble_eq_true rfl) rfl ?_
  refine go_aload_n dX9_wrote_0 rfl ?_
  refine go_iload_n dX9_wrote_1 rfl ?_
  refine go_cV (as := [_]) dX9_wrote_2 mX9_layActs kX9_177 iX9_layActs sX9_layActs rfl rfl rfl rfl (rX9_layActs ht) rfl rfl rfl ?_
  refine go_be_f (tgt := 25) dX9_wrote_5 (by decide) h1 ?_
  refine go_bipush (v := (-2)) dX9_wrote_25 (by decide) ?_
  refine go_iret dX9_wrote_27 rfl rfl ?_
  exact ⟨rfl, rfl⟩
set_option maxRecDepth 100000 in
set_option maxHeartbeats 4000000 in
theorem rX9_wrote_2 {E : gE} {d : Nat} {nw i0 i1 : WorldS} {pd : PadS} {lv : LivesS} {pl : PlanS} {mt : MatS} {nt : NetS} {zbk znw zta zwe zsg zpa zev zac zwr zim zke : Nat → Int32} {zsi zsa zsd zfo zre zma zba zsl zwy : Int32} {zbe : Nat → Int64} {th : Nat} {z w : Int32} (ht : th < 64) (h1 : laB th z = true) (h2 : isInB w 0 (nI (pcN th) - 1) = false) : Ret E yX9_wrote cX9_wrote 3 (some .int) (d + 2) 0 0 [.ref 52, .int z, .int w] (hp nw i0 i1 pd lv pl mt nt (zbk, znw, (nI th), zta, zwe, zsi, zsg, zsa, zpa, zsd, zfo, zre, zma, zba, zbe, zev, zac, zwr, zsl, zwy, zim, zke)) (dt (some (.int (-2))) (hp nw i0 i1 pd lv pl mt nt (zbk, znw, (nI th), zta, zwe, zsi, zsg, zsa, zpa, zsd, zfo, zre, zma, zba, zbe, zev, (tdR zac z (pcN th)), zwr, zsl, zwy, zim, zke))) := by
  refine ret_of_go (L := [_, _, _]) (by decide) (Nat.le_of_ble_eq_true rfl) rfl ?_
  refine go_aload_n dX9_wrote_0 rfl ?_
  refine go_iload_n dX9_wrote_1 rfl ?_
  refine go_cV (as := [_]) dX9_wrote_2 mX9_layActs kX9_177 iX9_layActs sX9_layActs rfl rfl rfl rfl (rX9_layActs ht) rfl rfl rfl ?_
  refine go_be_t dX9_wrote_5 h1 ?_
  refine go_iload_n dX9_wrote_8 rfl ?_
  refine go_iconst (v := 0) dX9_wrote_9 (by decide) ?_
  refine go_aload_n dX9_wrote_10 rfl ?_
  refine go_get dX9_wrote_11 fX9_52 rfl rfl ?_
  refine go_cS (as := [_]) dX9_wrote_14 mX9_bits kX9_60 tX9_bits rfl rfl (rX9_bits (by omega)) rfl rfl rfl ?_
  refine go_iconst (v := 1) dX9_wrote_17 (by decide) ?_
  refine go_isub dX9_wrote_18 ?_
  refine go_cS (as := [_, _, _]) dX9_wrote_19 mX9_in kX9_48 tX9_in rfl rfl (rX9_in) rfl rfl rfl ?_
  refine go_bn_f dX9_wrote_22 h2 ?_
  refine go_bipush (v := (-2)) dX9_wrote_25 (by decide) ?_
  refine go_iret dX9_wrote_27 rfl rfl ?_
  exact ⟨rfl, rfl⟩
set_option maxRecDepth 100000 in
set_option maxHeartbeats 4000000 in
theorem rX9_wrote_3 {E : gE} {d : Nat} {nw i0 i1 : WorldS} {pd : PadS} {lv : LivesS} {pl : PlanS} {mt : MatS} {nt : NetS} {zbk znw zta zwe zsg zpa zev zac zwr zim zke : Nat → Int32} {zsi zsa zsd zfo zre zma zba zsl zwy : Int32} {zbe : Nat → Int64} {th : Nat} {z : Int32} {i : Nat} (ht : th < 64) (hi6 : i < 6) (h1 : laB th z = true) (h2 : isInB (nI i) 0 (nI (pcN th) - 1) = true) : Ret E yX9_wrote cX9_wrote 3 (some .int) (d + 2) 0 0 [.ref 52, .int z, .int (nI i)] (hp nw i0 i1 pd lv pl mt nt (zbk, znw, (nI th), zta, zwe, zsi, zsg, zsa, zpa, zsd, zfo, zre, zma, zba, zbe, zev, zac, zwr, zsl, zwy, zim, zke)) (dt (some (.int ((lmR th (pcN th) (tdR zac z (pcN th)) zta zwr 46656).2.2 i))) (hp nw i0 i1 pd lv pl mt nt (zbk, znw, (nI th), zta, zwe, zsi, zsg, zsa, zpa, zsd, zfo, zre, zma, zba, zbe, zev, (tdR zac z (pcN th)), (lmR th (pcN th) (tdR zac z (pcN th)) zta zwr 46656).2.2, (lmR th (pcN th) (tdR zac z (pcN th)) zta zwr 46656).1, (lmR th (pcN th) (tdR zac z (pcN th)) zta zwr 46656).2.1, zim, zke))) := by
  refine ret_of_go (L := [_, _, _]) (by decide) (Nat.le_of_ble_eq_true rfl) rfl ?_
  refine go_aload_n dX9_wrote_0 rfl ?_
  refine go_iload_n dX9_wrote_1 rfl ?_
  refine go_cV (as := [_]) dX9_wrote_2 mX9_layActs kX9_177 iX9_layActs sX9_layActs rfl rfl rfl rfl (rX9_layActs ht) rfl rfl rfl ?_
  refine go_be_t dX9_wrote_5 h1 ?_
  refine go_iload_n dX9_wrote_8 rfl ?_
  refine go_iconst (v := 0) dX9_wrote_9 (by decide) ?_
  refine go_aload_n dX9_wrote_10 rfl ?_
  refine go_get dX9_wrote_11 fX9_52 rfl rfl ?_
  refine go_cS (as := [_]) dX9_wrote_14 mX9_bits kX9_60 tX9_bits rfl rfl (rX9_bits (by omega)) rfl rfl rfl ?_
  refine go_iconst (v := 1) dX9_wrote_17 (by decide) ?_
  refine go_isub dX9_wrote_18 ?_
  refine go_cS (as := [_, _, _]) dX9_wrote_19 mX9_in kX9_48 tX9_in rfl rfl (rX9_in) rfl rfl rfl ?_
  refine go_bn_t (tgt := 28) dX9_wrote_22 (by decide) h2 ?_
  refine go_aload_n dX9_wrote_28 rfl ?_
  refine go_cVv (as := []) dX9_wrote_29 mX9_layMatch kX9_180 iX9_layMatch sX9_layMatch rfl rfl rfl rfl (rX9_layMatch ht) rfl rfl rfl ?_
  refine go_aload_n dX9_wrote_32 rfl ?_
  refine go_get dX9_wrote_33 fX9_38 rfl rfl ?_
  refine go_iload_n dX9_wrote_36 rfl ?_
  refine go_ialdN (i) dX9_wrote_37 rfl (by omega) rfl ?_
  refine go_iret dX9_wrote_38 rfl rfl ?_
  exact ⟨rfl, rfl⟩
set_option maxRecDepth 100000 in
set_option maxHeartbeats 4000000 in
theorem rX9_compare_1 {E : gE} {d : Nat} {nw i0 i1 : WorldS} {pd : PadS} {lv : LivesS} {pl : PlanS} {mt : MatS} {nt : NetS} {zbk znw zta zwe zsg zpa zev zac zwr zim zke : Nat → Int32} {zth zsi zsa zsd zfo zre zma zba zsl zwy : Int32} {zbe : Nat → Int64} {n : Int32} (h1 : isInB n 1 99 = false) : Ret E yX9_compare cX9_compare 4 (some .int) (d + 1) 0 0 [.ref 52, .int n] (hp nw i0 i1 pd lv pl mt nt (zbk, znw, zth, zta, zwe, zsi, zsg, zsa, zpa, zsd, zfo, zre, zma, zba, zbe, zev, zac, zwr, zsl, zwy, zim, zke)) (dt (some (.int (-2))) (hp nw i0 i1 pd lv pl mt nt (zbk, znw, zth, zta, zwe, zsi, zsg, zsa, zpa, zsd, zfo, zre, zma, zba, zbe, zev, zac, zwr, zsl, zwy, zim, zke))) := by
  refine ret_of_go (L := [_, _, _, _]) (by decide) (Nat.le_of_ble_eq_true rfl) rfl ?_
  refine go_iload_n dX9_compare_0 rfl ?_
  refine go_iconst (v := 1) dX9_compare_1 (by decide) ?_
  refine go_bipush (v := 99) dX9_compare_2 (by decide) ?_
  refine go_cS (as := [_, _, _]) dX9_compare_4 mX9_in kX9_48 tX9_in rfl rfl (rX9_in) rfl rfl rfl ?_
  refine go_bn_f dX9_compare_7 h1 ?_
  refine go_bipush (v := (-2)) dX9_compare_10 (by decide) ?_
  refine go_iret dX9_compare_12 rfl rfl ?_
  exact ⟨rfl, rfl⟩
set_option maxRecDepth 100000 in
set_option maxHeartbeats 4000000 in
theorem rX9_blots_1 {E : gE} {d : Nat} {nw i0 i1 : WorldS} {pd : PadS} {lv : LivesS} {pl : PlanS} {mt : MatS} {nt : NetS} {zbk znw zta zwe zsg zpa zev zac zwr zim zke : Nat → Int32} {zth zsi zsa zsd zfo zre zma zba zsl zwy : Int32} {zbe : Nat → Int64} {n k t w : Int32} (g0 : isInB n 0 9 = false) : Ret E yX9_blots cX9_blots 5 (some .long) (d + 2) 0 0 [.ref 52, .int n, .int k, .int t, .int w] (hp nw i0 i1 pd lv pl mt nt (zbk, znw, zth, zta, zwe, zsi, zsg, zsa, zpa, zsd, zfo, zre, zma, zba, zbe, zev, zac, zwr, zsl, zwy, zim, zke)) (dt (some (.long (-1000000000000000002))) (hp nw i0 i1 pd lv pl mt nt (zbk, znw, zth, zta, zwe, zsi, zsg, zsa, zpa, zsd, zfo, zre, zma, zba, zbe, zev, zac, zwr, zsl, zwy, zim, zke))) := by
  refine ret_of_go (L := [_, _, _, _, _]) (by decide) (Nat.le_of_ble_eq_true rfl) rfl ?_
  refine go_iload_n dX9_blots_0 rfl ?_
  refine go_iconst (v := 0) dX9_blots_1 (by decide) ?_
  refine go_bipush (v := 9) dX9_blots_2 (by decide) ?_
  refine go_cS (as := [_, _, _]) dX9_blots_4 mX9_in kX9_48 tX9_in rfl rfl (rX9_in) rfl rfl rfl ?_
  refine go_be_f (tgt := 39) dX9_blots_7 (by decide) g0 ?_
  refine go_ldc2_w dX9_blots_39 nX9_144 ?_
  refine go_lret dX9_blots_42 rfl rfl ?_
  exact ⟨rfl, rfl⟩
set_option maxRecDepth 100000 in
set_option maxHeartbeats 4000000 in
theorem rX9_blots_2 {E : gE} {d : Nat} {nw i0 i1 : WorldS} {pd : PadS} {lv : LivesS} {pl : PlanS} {mt : MatS} {nt : NetS} {zbk znw zta zwe zsg zpa zev zac zwr zim zke : Nat → Int32} {zth zsi zsa zsd zfo zre zma zba zsl zwy : Int32} {zbe : Nat → Int64} {n k t w : Int32} (g0 : isInB n 0 9 = true) (g1 : isInB k 0 n = false) : Ret E yX9_blots cX9_blots 5 (some .long) (d + 2) 0 0 [.ref 52, .int n, .int k, .int t, .int w] (hp nw i0 i1 pd lv pl mt nt (zbk, znw, zth, zta, zwe, zsi, zsg, zsa, zpa, zsd, zfo, zre, zma, zba, zbe, zev, zac, zwr, zsl, zwy, zim, zke)) (dt (some (.long (-1000000000000000002))) (hp nw i0 i1 pd lv pl mt nt (zbk, znw, zth, zta, zwe, zsi, zsg, zsa, zpa, zsd, zfo, zre, zma, zba, zbe, zev, zac, zwr, zsl, zwy, zim, zke))) := by
  refine ret_of_go (L := [_, _, _, _, _]) (by decide) (Nat.le_of_ble_eq_true rfl) rfl ?_
  refine go_iload_n dX9_blots_0 rfl ?_
  refine go_iconst (v := 0) dX9_blots_1 (by decide) ?_
  refine go_bipush (v := 9) dX9_blots_2 (by decide) ?_
  refine go_cS (as := [_, _, _]) dX9_blots_4 mX9_in kX9_48 tX9_in rfl rfl (rX9_in) rfl rfl rfl ?_
  refine go_be_t dX9_blots_7 g0 ?_
  refine go_iload_n dX9_blots_10 rfl ?_
  refine go_iconst (v := 0) dX9_blots_11 (by decide) ?_
  refine go_iload_n dX9_blots_12 rfl ?_
  refine go_cS (as := [_, _, _]) dX9_blots_13 mX9_in kX9_48 tX9_in rfl rfl (rX9_in) rfl rfl rfl ?_
  refine go_be_f (tgt := 39) dX9_blots_16 (by decide) g1 ?_
  refine go_ldc2_w dX9_blots_39 nX9_144 ?_
  refine go_lret dX9_blots_42 rfl rfl ?_
  exact ⟨rfl, rfl⟩
set_option maxRecDepth 100000 in
set_option maxHeartbeats 4000000 in
theorem rX9_blots_3 {E : gE} {d : Nat} {nw i0 i1 : WorldS} {pd : PadS} {lv : LivesS} {pl : PlanS} {mt : MatS} {nt : NetS} {zbk znw zta zwe zsg zpa zev zac zwr zim zke : Nat → Int32} {zth zsi zsa zsd zfo zre zma zba zsl zwy : Int32} {zbe : Nat → Int64} {n k t w : Int32} (g0 : isInB n 0 9 = true) (g1 : isInB k 0 n = true) (g2 : isInB t 0 10 = false) : Ret E yX9_blots cX9_blots 5 (some .long) (d + 2) 0 0 [.ref 52, .int n, .int k, .int t, .int w] (hp nw i0 i1 pd lv pl mt nt (zbk, znw, zth, zta, zwe, zsi, zsg, zsa, zpa, zsd, zfo, zre, zma, zba, zbe, zev, zac, zwr, zsl, zwy, zim, zke)) (dt (some (.long (-1000000000000000002))) (hp nw i0 i1 pd lv pl mt nt (zbk, znw, zth, zta, zwe, zsi, zsg, zsa, zpa, zsd, zfo, zre, zma, zba, zbe, zev, zac, zwr, zsl, zwy, zim, zke))) := by
  refine ret_of_go (L := [_, _, _, _, _]) (by decide) (Nat.le_of_ble_eq_true rfl) rfl ?_
  refine go_iload_n dX9_blots_0 rfl ?_
  refine go_iconst (v := 0) dX9_blots_1 (by decide) ?_
  refine go_bipush (v := 9) dX9_blots_2 (by decide) ?_
  refine go_cS (as := [_, _, _]) dX9_blots_4 mX9_in kX9_48 tX9_in rfl rfl (rX9_in) rfl rfl rfl ?_
  refine go_be_t dX9_blots_7 g0 ?_
  refine go_iload_n dX9_blots_10 rfl ?_
  refine go_iconst (v := 0) dX9_blots_11 (by decide) ?_
  refine go_iload_n dX9_blots_12 rfl ?_
  refine go_cS (as := [_, _, _]) dX9_blots_13 mX9_in kX9_48 tX9_in rfl rfl (rX9_in) rfl rfl rfl ?_
  refine go_be_t dX9_blots_16 g1 ?_
  refine go_iload_n dX9_blots_19 rfl ?_
  refine go_iconst (v := 0) dX9_blots_20 (by decide) ?_
  refine go_bipush (v := 10) dX9_blots_21 (by decide) ?_
  refine go_cS (as := [_, _, _]) dX9_blots_23 mX9_in kX9_48 tX9_in rfl rfl (rX9_in) rfl rfl rfl ?_
  refine go_be_f (tgt := 39) dX9_blots_26 (by decide) g2 ?_
  refine go_ldc2_w dX9_blots_39 nX9_144 ?_
  refine go_lret dX9_blots_42 rfl rfl ?_
  exact ⟨rfl, rfl⟩
set_option maxRecDepth 100000 in
set_option maxHeartbeats 4000000 in
theorem rX9_blots_4 {E : gE} {d : Nat} {nw i0 i1 : WorldS} {pd : PadS} {lv : LivesS} {pl : PlanS} {mt : MatS} {nt : NetS} {zbk znw zta zwe zsg zpa zev zac zwr zim zke : Nat → Int32} {zth zsi zsa zsd zfo zre zma zba zsl zwy : Int32} {zbe : Nat → Int64} {n k t w : Int32} (g0 : isInB n 0 9 = true) (g1 : isInB k 0 n = true) (g2 : isInB t 0 10 = true) (g3 : isInB w 0 1 = false) : Ret E yX9_blots cX9_blots 5 (some .long) (d + 2) 0 0 [.ref 52, .int n, .int k, .int t, .int w] (hp nw i0 i1 pd lv pl mt nt (zbk, znw, zth, zta, zwe, zsi, zsg, zsa, zpa, zsd, zfo, zre, zma, zba, zbe, zev, zac, zwr, zsl, zwy, zim, zke)) (dt (some (.long (-1000000000000000002))) (hp nw i0 i1 pd lv pl mt nt (zbk, znw, zth, zta, zwe, zsi, zsg, zsa, zpa, zsd, zfo, zre, zma, zba, zbe, zev, zac, zwr, zsl, zwy, zim, zke))) := by
  refine ret_of_go (L := [_, _, _, _, _]) (by decide) (Nat.le_of_ble_eq_true rfl) rfl ?_
  refine go_iload_n dX9_blots_0 rfl ?_
  refine go_iconst (v := 0) dX9_blots_1 (by decide) ?_
  refine go_bipush (v := 9) dX9_blots_2 (by decide) ?_
  refine go_cS (as := [_, _, _]) dX9_blots_4 mX9_in kX9_48 tX9_in rfl rfl (rX9_in) rfl rfl rfl ?_
  refine go_be_t dX9_blots_7 g0 ?_
  refine go_iload_n dX9_blots_10 rfl ?_
  refine go_iconst (v := 0) dX9_blots_11 (by decide) ?_
  refine go_iload_n dX9_blots_12 rfl ?_
  refine go_cS (as := [_, _, _]) dX9_blots_13 mX9_in kX9_48 tX9_in rfl rfl (rX9_in) rfl rfl rfl ?_
  refine go_be_t dX9_blots_16 g1 ?_
  refine go_iload_n dX9_blots_19 rfl ?_
  refine go_iconst (v := 0) dX9_blots_20 (by decide) ?_
  refine go_bipush (v := 10) dX9_blots_21 (by decide) ?_
  refine go_cS (as := [_, _, _]) dX9_blots_23 mX9_in kX9_48 tX9_in rfl rfl (rX9_in) rfl rfl rfl ?_
  refine go_be_t dX9_blots_26 g2 ?_
  refine go_iload dX9_blots_29 rfl ?_
  refine go_iconst (v := 0) dX9_blots_31 (by decide) ?_
  refine go_iconst (v := 1) dX9_blots_32 (by decide) ?_
  refine go_cS (as := [_, _, _]) dX9_blots_33 mX9_in kX9_48 tX9_in rfl rfl (rX9_in) rfl rfl rfl ?_
  refine go_bn_f dX9_blots_36 g3 ?_
  refine go_ldc2_w dX9_blots_39 nX9_144 ?_
  refine go_lret dX9_blots_42 rfl rfl ?_
  exact ⟨rfl, rfl⟩
set_option maxRecDepth 100000 in
set_option maxHeartbeats 4000000 in
theorem rX9_blots_5 {E : gE} {d : Nat} {nw i0 i1 : WorldS} {pd : PadS} {lv : LivesS} {pl : PlanS} {mt : MatS} {nt : NetS} {zbk znw zta zwe zsg zpa zev zac zwr zim zke : Nat → Int32} {zth zsi zsa zsd zfo zre zma zba zsl zwy : Int32} {zbe : Nat → Int64} {k q t n0 : Nat} {w : Int32} {g : Int64} (hk : k ≤ q) (hq : q ≤ 9) (ht : t ≤ 10) (h4 : isInB w 0 1 = true) (hgd : gdR n0 (amR q t (min (q - k) q + 1)) (pwL 10 q) = some g) (hg : ¬ g = 0) : Ret E yX9_blots cX9_blots 5 (some .long) (d + 2) 0 0 [.ref 52, .int (nI q), .int (nI k), .int (nI t), .int w] (hp nw i0 i1 pd lv pl mt nt (zbk, znw, zth, zta, zwe, zsi, zsg, zsa, zpa, zsd, zfo, zre, zma, zba, zbe, zev, zac, zwr, zsl, zwy, zim, zke)) (dt (some (.long (if w = 0 then amR q t (min (q - k) q + 1) / g else pwL 10 q / g))) (hp nw i0 i1 pd lv pl mt nt (zbk, znw, zth, zta, zwe, zsi, zsg, zsa, zpa, zsd, zfo, zre, zma, zba, zbe, zev, zac, zwr, zsl, zwy, zim, zke))) := by
  refine ret_of_go (L := [_, _, _, _, _]) (by decide) (Nat.le_of_ble_eq_true rfl) rfl ?_
  refine go_iload_n dX9_blots_0 rfl ?_
  refine go_iconst (v := 0) dX9_blots_1 (by decide) ?_
  refine go_bipush (v := 9) dX9_blots_2 (by decide) ?_
  refine go_cS (as := [_, _, _]) dX9_blots_4 mX9_in kX9_48 tX9_in rfl rfl (rX9_in) rfl rfl rfl ?_
  refine go_be_t dX9_blots_7 (inB_of (k := q) (a := 0) (b := 9) (by omega) (by omega) (by decide)) ?_
  refine go_iload_n dX9_blots_10 rfl ?_
  refine go_iconst (v := 0) dX9_blots_11 (by decide) ?_
  refine go_iload_n dX9_blots_12 rfl ?_
  refine go_cS (as := [_, _, _]) dX9_blots_13 mX9_in kX9_48 tX9_in rfl rfl (rX9_in) rfl rfl rfl ?_
  refine go_be_t dX9_blots_16 (inB_of (k := k) (a := 0) (b := q) (by omega) (by omega) (by omega)) ?_
  refine go_iload_n dX9_blots_19 rfl ?_
  refine go_iconst (v := 0) dX9_blots_20 (by decide) ?_
  refine go_bipush (v := 10) dX9_blots_21 (by decide) ?_
  refine go_cS (as := [_, _, _]) dX9_blots_23 mX9_in kX9_48 tX9_in rfl rfl (rX9_in) rfl rfl rfl ?_
  refine go_be_t dX9_blots_26 (inB_of (k := t) (a := 0) (b := 10) (by omega) (by omega) (by decide)) ?_
  refine go_iload dX9_blots_29 rfl ?_
  refine go_iconst (v := 0) dX9_blots_31 (by decide) ?_
  refine go_iconst (v := 1) dX9_blots_32 (by decide) ?_
  refine go_cS (as := [_, _, _]) dX9_blots_33 mX9_in kX9_48 tX9_in rfl rfl (rX9_in) rfl rfl rfl ?_
  refine go_bn_t (tgt := 43) dX9_blots_36 (by decide) h4 ?_
  refine go_iload_n dX9_blots_43 rfl ?_
  refine go_iload_n dX9_blots_44 rfl ?_
  refine go_iload_n dX9_blots_45 rfl ?_
  refine go_isub dX9_blots_46 ?_
  refine go_topi_eq (pk_sub hk) ?_
  refine go_iload_n dX9_blots_47 rfl ?_
  refine go_cS (as := [_, _, _]) dX9_blots_48 mX9_atMost kX9_162 tX9_atMost rfl rfl (rX9_atMost (by omega) hq) rfl rfl rfl ?_
  refine go_ldc2_w dX9_blots_51 nX9_160 ?_
  refine go_iload_n dX9_blots_54 rfl ?_
  refine go_cS (as := [_, _]) dX9_blots_55 mX9_power kX9_140 tX9_power rfl rfl (rX9_power (n := q) (by omega)) rfl rfl rfl ?_
  refine go_iload dX9_blots_58 rfl ?_
  refine go_cS (as := [_, _, _]) dX9_blots_60 mX9_part kX9_149 tX9_part rfl rfl (rX9_part hgd hg) rfl rfl rfl ?_
  refine go_lret dX9_blots_63 rfl rfl ?_
  exact ⟨rfl, rfl⟩
set_option maxRecDepth 100000 in
set_option maxHeartbeats 4000000 in
theorem rX9_seen_1 {E : gE} {d : Nat} {nw i0 i1 : WorldS} {pd : PadS} {lv : LivesS} {pl : PlanS} {mt : MatS} {nt : NetS} {zbk znw zta zwe zsg zpa zev zac zwr zim zke : Nat → Int32} {zth zsi zsa zsd zfo zre zma zba zsl zwy : Int32} {zbe : Nat → Int64} {n q w : Int32} {b : Bool} (g0 : isInB n 0 9 = false) : Ret E yX9_seen cX9_seen 5 (some .int) (d + 1) 0 0 [.ref 52, .int n, .int q, .int w, .int (b2i b)] (hp nw i0 i1 pd lv pl mt nt (zbk, znw, zth, zta, zwe, zsi, zsg, zsa, zpa, zsd, zfo, zre, zma, zba, zbe, zev, zac, zwr, zsl, zwy, zim, zke)) (dt (some (.int (-2))) (hp nw i0 i1 pd lv pl mt nt (zbk, znw, zth, zta, zwe, zsi, zsg, zsa, zpa, zsd, zfo, zre, zma, zba, zbe, zev, zac, zwr, zsl, zwy, zim, zke))) := by
  refine ret_of_go (L := [_, _, _, _, _]) (by decide) (Nat.le_of_ble_eq_true rfl) rfl ?_
  refine go_iload_n dX9_seen_0 rfl ?_
  refine go_iconst (v := 0) dX9_seen_1 (by decide) ?_
  refine go_bipush (v := 9) dX9_seen_2 (by decide) ?_
  refine go_cS (as := [_, _, _]) dX9_seen_4 mX9_in kX9_48 tX9_in rfl rfl (rX9_in) rfl rfl rfl ?_
  refine go_be_f (tgt := 30) dX9_seen_7 (by decide) g0 ?_
  refine go_bipush (v := (-2)) dX9_seen_30 (by decide) ?_
  refine go_iret dX9_seen_32 rfl rfl ?_
  exact ⟨rfl, rfl⟩
set_option maxRecDepth 100000 in
set_option maxHeartbeats 4000000 in
theorem rX9_seen_2 {E : gE} {d : Nat} {nw i0 i1 : WorldS} {pd : PadS} {lv : LivesS} {pl : PlanS} {mt : MatS} {nt : NetS} {zbk znw zta zwe zsg zpa zev zac zwr zim zke : Nat → Int32} {zth zsi zsa zsd zfo zre zma zba zsl zwy : Int32} {zbe : Nat → Int64} {n q w : Int32} {b : Bool} (g0 : isInB n 0 9 = true) (g1 : isInB q 1 8 = false) : Ret E yX9_seen cX9_seen 5 (some .int) (d + 1) 0 0 [.ref 52, .int n, .int q, .int w, .int (b2i b)] (hp nw i0 i1 pd lv pl mt nt (zbk, znw, zth, zta, zwe, zsi, zsg, zsa, zpa, zsd, zfo, zre, zma, zba, zbe, zev, zac, zwr, zsl, zwy, zim, zke)) (dt (some (.int (-2))) (hp nw i0 i1 pd lv pl mt nt (zbk, znw, zth, zta, zwe, zsi, zsg, zsa, zpa, zsd, zfo, zre, zma, zba, zbe, zev, zac, zwr, zsl, zwy, zim, zke))) := by
  refine ret_of_go (L := [_, _, _, _, _]) (by decide) (Nat.le_of_ble_eq_true rfl) rfl ?_
  refine go_iload_n dX9_seen_0 rfl ?_
  refine go_iconst (v := 0) dX9_seen_1 (by decide) ?_
  refine go_bipush (v := 9) dX9_seen_2 (by decide) ?_
  refine go_cS (as := [_, _, _]) dX9_seen_4 mX9_in kX9_48 tX9_in rfl rfl (rX9_in) rfl rfl rfl ?_
  refine go_be_t dX9_seen_7 g0 ?_
  refine go_iload_n dX9_seen_10 rfl ?_
  refine go_iconst (v := 1) dX9_seen_11 (by decide) ?_
  refine go_bipush (v := 8) dX9_seen_12 (by decide) ?_
  refine go_cS (as := [_, _, _]) dX9_seen_14 mX9_in kX9_48 tX9_in rfl rfl (rX9_in) rfl rfl rfl ?_
  refine go_be_f (tgt := 30) dX9_seen_17 (by decide) g1 ?_
  refine go_bipush (v := (-2)) dX9_seen_30 (by decide) ?_
  refine go_iret dX9_seen_32 rfl rfl ?_
  exact ⟨rfl, rfl⟩
set_option maxRecDepth 100000 in
set_option maxHeartbeats 4000000 in
theorem rX9_seen_3 {E : gE} {d : Nat} {nw i0 i1 : WorldS} {pd : PadS} {lv : LivesS} {pl : PlanS} {mt : MatS} {nt : NetS} {zbk znw zta zwe zsg zpa zev zac zwr zim zke : Nat → Int32} {zth zsi zsa zsd zfo zre zma zba zsl zwy : Int32} {zbe : Nat → Int64} {n q w : Int32} {b : Bool} (g0 : isInB n 0 9 = true) (g1 : isInB q 1 8 = true) (g2 : isInB w 1 9 = false) : Ret E yX9_seen cX9_seen 5 (some .int) (d + 1) 0 0 [.ref 52, .int n, .int q, .int w, .int (b2i b)] (hp nw i0 i1 pd lv pl mt nt (zbk, znw, zth, zta, zwe, zsi, zsg, zsa, zpa, zsd, zfo, zre, zma, zba, zbe, zev, zac, zwr, zsl, zwy, zim, zke)) (dt (some (.int (-2))) (hp nw i0 i1 pd lv pl mt nt (zbk, znw, zth, zta, zwe, zsi, zsg, zsa, zpa, zsd, zfo, zre, zma, zba, zbe, zev, zac, zwr, zsl, zwy, zim, zke))) := by
  refine ret_of_go (L := [_, _, _, _, _]) (by decide) (Nat.le_of_ble_eq_true rfl) rfl ?_
  refine go_iload_n dX9_seen_0 rfl ?_
  refine go_iconst (v := 0) dX9_seen_1 (by decide) ?_
  refine go_bipush (v := 9) dX9_seen_2 (by decide) ?_
  refine go_cS (as := [_, _, _]) dX9_seen_4 mX9_in kX9_48 tX9_in rfl rfl (rX9_in) rfl rfl rfl ?_
  refine go_be_t dX9_seen_7 g0 ?_
  refine go_iload_n dX9_seen_10 rfl ?_
  refine go_iconst (v := 1) dX9_seen_11 (by decide) ?_
  refine go_bipush (v := 8) dX9_seen_12 (by decide) ?_
  refine go_cS (as := [_, _, _]) dX9_seen_14 mX9_in kX9_48 tX9_in rfl rfl (rX9_in) rfl rfl rfl ?_
  refine go_be_t dX9_seen_17 g1 ?_
  refine go_iload_n dX9_seen_20 rfl ?_
  refine go_iconst (v := 1) dX9_seen_21 (by decide) ?_
  refine go_bipush (v := 9) dX9_seen_22 (by decide) ?_
  refine go_cS (as := [_, _, _]) dX9_seen_24 mX9_in kX9_48 tX9_in rfl rfl (rX9_in) rfl rfl rfl ?_
  refine go_bn_f dX9_seen_27 g2 ?_
  refine go_bipush (v := (-2)) dX9_seen_30 (by decide) ?_
  refine go_iret dX9_seen_32 rfl rfl ?_
  exact ⟨rfl, rfl⟩
set_option maxRecDepth 100000 in
set_option maxHeartbeats 4000000 in
theorem rX9_seen_4 {E : gE} {d : Nat} {nw i0 i1 : WorldS} {pd : PadS} {lv : LivesS} {pl : PlanS} {mt : MatS} {nt : NetS} {zbk znw zta zwe zsg zpa zev zac zwr zim zke : Nat → Int32} {zth zsa zsd zfo zre zma zba zsl zwy : Int32} {zbe : Nat → Int64} {n q w : Int32} {b : Bool} {s : Nat} (g0 : isInB n 0 9 = true) (g1 : isInB q 1 8 = true) (g2 : isInB w 1 9 = true) (hs8 : s = 8) : Ret E yX9_seen cX9_seen 5 (some .int) (d + 1) 0 0 [.ref 52, .int n, .int q, .int w, .int (b2i b)] (hp nw i0 i1 pd lv pl mt nt (zbk, znw, zth, zta, zwe, (nI s), zsg, zsa, zpa, zsd, zfo, zre, zma, zba, zbe, zev, zac, zwr, zsl, zwy, zim, zke)) (dt (some (.int (-4))) (hp nw i0 i1 pd lv pl mt nt (zbk, znw, zth, zta, zwe, (nI s), zsg, zsa, zpa, zsd, zfo, zre, zma, zba, zbe, zev, zac, zwr, zsl, zwy, zim, zke))) := by
  refine ret_of_go (L := [_, _, _, _, _]) (by decide) (Nat.le_of_ble_eq_true rfl) rfl ?_
  refine go_iload_n dX9_seen_0 rfl ?_
  refine go_iconst (v := 0) dX9_seen_1 (by decide) ?_
  refine go_bipush (v := 9) dX9_seen_2 (by decide) ?_
  refine go_cS (as := [_, _, _]) dX9_seen_4 mX9_in kX9_48 tX9_in rfl rfl (rX9_in) rfl rfl rfl ?_
  refine go_be_t dX9_seen_7 g0 ?_
  refine go_iload_n dX9_seen_10 rfl ?_
  refine go_iconst (v := 1) dX9_seen_11 (by decide) ?_
  refine go_bipush (v := 8) dX9_seen_12 (by decide) ?_
  refine go_cS (as := [_, _, _]) dX9_seen_14 mX9_in kX9_48 tX9_in rfl rfl (rX9_in) rfl rfl rfl ?_
  refine go_be_t dX9_seen_17 g1 ?_
  refine go_iload_n dX9_seen_20 rfl ?_
  refine go_iconst (v := 1) dX9_seen_21 (by decide) ?_
  refine go_bipush (v := 9) dX9_seen_22 (by decide) ?_
  refine go_cS (as := [_, _, _]) dX9_seen_24 mX9_in kX9_48 tX9_in rfl rfl (rX9_in) rfl rfl rfl ?_
  refine go_bn_t (tgt := 33) dX9_seen_27 (by decide) g2 ?_
  refine go_aload_n dX9_seen_33 rfl ?_
  refine go_get dX9_seen_34 fX9_183 rfl rfl ?_
  refine go_bipush (v := 8) dX9_seen_37 (by decide) ?_
  refine go_icmp_ne (tgt := 45) dX9_seen_39 (by decide) (fun zq => absurd (by rw [hs8]; rfl) zq) (fun q39 => ?_)
  refine go_bipush (v := (-4)) dX9_seen_42 (by decide) ?_
  refine go_iret dX9_seen_44 rfl rfl ?_
  exact ⟨rfl, rfl⟩
def sgU (f : Nat → Int32) (s : Nat) (n q w : Int32) (b : Bool) : Nat → Int32 := upd (upd (upd (upd f (4 * s) n) (4 * s + 1) q) (4 * s + 2) w) (4 * s + 3) (b2i b)
theorem n4 (s : Nat) : (4 : Int32) * nI s = nI (4 * s) := by rw [show (4 : Int32) = nI 4 from rfl, pk_mul]
theorem n4k (s k : Nat) : nI (4 * s) + nI k = nI (4 * s + k) := nI_add _ _
theorem hs_sg {nw i0 i1 : WorldS} {pd : PadS} {lv : LivesS} {pl : PlanS} {mt : MatS} {nt : NetS} {zbk znw zta zwe zsg zpa zev zac zwr zim zke : Nat → Int32} {zth zsa zsd zfo zre zma zba zsl zwy : Int32} {zbe : Nat → Int64} {s : Nat} {V2 : Nat → Int32} : hs (hp nw i0 i1 pd lv pl mt nt (zbk, znw, zth, zta, zwe, (nI s), zsg, zsa, zpa, zsd, zfo, zre, zma, zba, zbe, zev, zac, zwr, zsl, zwy, zim, zke)) 57 (.inl (0, 32, .inl V2)) = (hp nw i0 i1 pd lv pl mt nt (zbk, znw, zth, zta, zwe, (nI s), V2, zsa, zpa, zsd, zfo, zre, zma, zba, zbe, zev, zac, zwr, zsl, zwy, zim, zke)) := by simp only [hp, hs]
set_option maxRecDepth 100000 in
set_option maxHeartbeats 4000000 in
theorem rX9_seen_5 {E : gE} {d : Nat} {nw i0 i1 : WorldS} {pd : PadS} {lv : LivesS} {pl : PlanS} {mt : MatS} {nt : NetS} {zbk znw zta zwe zsg zpa zev zac zwr zim zke : Nat → Int32} {zth zsa zsd zfo zre zma zba zsl zwy : Int32} {zbe : Nat → Int64} {n q w : Int32} {b : Bool} {s : Nat} (g0 : isInB n 0 9 = true) (g1 : isInB q 1 8 = true) (g2 : isInB w 1 9 = true) (hs8 : s < 8) : Ret E yX9_seen cX9_seen 5 (some .int) (d + 1) 0 0 [.ref 52, .int n, .int q, .int w, .int (b2i b)] (hp nw i0 i1 pd lv pl mt nt (zbk, znw, zth, zta, zwe, (nI s), zsg, zsa, zpa, zsd, zfo, zre, zma, zba, zbe, zev, zac, zwr, zsl, zwy, zim, zke)) (dt (some (.int (nI (s + 1)))) (hp nw i0 i1 pd lv pl mt nt (zbk, znw, zth, zta, zwe, (nI (s + 1)), (sgU zsg s n q w b), zsa, zpa, zsd, zfo, zre, zma, zba, zbe, zev, zac, zwr, zsl, zwy, zim, zke))) := by
  refine ret_of_go (L := [_, _, _, _, _]) (by decide) (Nat.le_of_ble_eq_true rfl) rfl ?_
  refine go_iload_n dX9_seen_0 rfl ?_
  refine go_iconst (v := 0) dX9_seen_1 (by decide) ?_
  refine go_bipush (v := 9) dX9_seen_2 (by decide) ?_
  refine go_cS (as := [_, _, _]) dX9_seen_4 mX9_in kX9_48 tX9_in rfl rfl (rX9_in) rfl rfl rfl ?_
  refine go_be_t dX9_seen_7 g0 ?_
  refine go_iload_n dX9_seen_10 rfl ?_
  refine go_iconst (v := 1) dX9_seen_11 (by decide) ?_
  refine go_bipush (v := 8) dX9_seen_12 (by decide) ?_
  refine go_cS (as := [_, _, _]) dX9_seen_14 mX9_in kX9_48 tX9_in rfl rfl (rX9_in) rfl rfl rfl ?_
  refine go_be_t dX9_seen_17 g1 ?_
  refine go_iload_n dX9_seen_20 rfl ?_
  refine go_iconst (v := 1) dX9_seen_21 (by decide) ?_
  refine go_bipush (v := 9) dX9_seen_22 (by decide) ?_
  refine go_cS (as := [_, _, _]) dX9_seen_24 mX9_in kX9_48 tX9_in rfl rfl (rX9_in) rfl rfl rfl ?_
  refine go_bn_t (tgt := 33) dX9_seen_27 (by decide) g2 ?_
  refine go_aload_n dX9_seen_33 rfl ?_
  refine go_get dX9_seen_34 fX9_183 rfl rfl ?_
  refine go_bipush (v := 8) dX9_seen_37 (by decide) ?_
  refine go_icmp_ne (tgt := 45) dX9_seen_39 (by decide) (fun q39 => ?_) (fun zq => absurd zq (fun z => absurd ((nI_eq (b := 8) (by omega) (by decide)).mp z) (by omega)))
  refine go_aload_n dX9_seen_45 rfl ?_
  refine go_get dX9_seen_46 fX9_22 rfl rfl ?_
  refine go_iconst (v := 4) dX9_seen_49 (by decide) ?_
  refine go_aload_n dX9_seen_50 rfl ?_
  refine go_get dX9_seen_51 fX9_183 rfl rfl ?_
  refine go_imul dX9_seen_54 ?_
  refine go_topi_eq (n4 s) ?_
  refine go_iload_n dX9_seen_55 rfl ?_
  refine go_iastN (4 * s) dX9_seen_56 rfl (by omega) rfl ?_
  refine go_heap (h2 := (hp nw i0 i1 pd lv pl mt nt (zbk, znw, zth, zta, zwe, (nI s), (upd zsg (4 * s) n), zsa, zpa, zsd, zfo, zre, zma, zba, zbe, zev, zac, zwr, zsl, zwy, zim, zke))) hs_sg ?_
  refine go_aload_n dX9_seen_57 rfl ?_
  refine go_get dX9_seen_58 fX9_22 rfl rfl ?_
  refine go_iconst (v := 4) dX9_seen_61 (by decide) ?_
  refine go_aload_n dX9_seen_62 rfl ?_
  refine go_get dX9_seen_63 fX9_183 rfl rfl ?_
  refine go_imul dX9_seen_66 ?_
  refine go_topi_eq (n4 s) ?_
  refine go_iconst (v := 1) dX9_seen_67 (by decide) ?_
  refine go_iadd dX9_seen_68 ?_
  refine go_topi_eq (n4k s 1) ?_
  refine go_iload_n dX9_seen_69 rfl ?_
  refine go_iastN (4 * s + 1) dX9_seen_70 rfl (by omega) rfl ?_
  refine go_heap (h2 := (hp nw i0 i1 pd lv pl mt nt (zbk, znw, zth, zta, zwe, (nI s), (upd (upd zsg (4 * s) n) (4 * s + 1) q), zsa, zpa, zsd, zfo, zre, zma, zba, zbe, zev, zac, zwr, zsl, zwy, zim, zke))) hs_sg ?_
  refine go_aload_n dX9_seen_71 rfl ?_
  refine go_get dX9_seen_72 fX9_22 rfl rfl ?_
  refine go_iconst (v := 4) dX9_seen_75 (by decide) ?_
  refine go_aload_n dX9_seen_76 rfl ?_
  refine go_get dX9_seen_77 fX9_183 rfl rfl ?_
  refine go_imul dX9_seen_80 ?_
  refine go_topi_eq (n4 s) ?_
  refine go_iconst (v := 2) dX9_seen_81 (by decide) ?_
  refine go_iadd dX9_seen_82 ?_
  refine go_topi_eq (n4k s 2) ?_
  refine go_iload_n dX9_seen_83 rfl ?_
  refine go_iastN (4 * s + 2) dX9_seen_84 rfl (by omega) rfl ?_
  refine go_heap (h2 := (hp nw i0 i1 pd lv pl mt nt (zbk, znw, zth, zta, zwe, (nI s), (upd (upd (upd zsg (4 * s) n) (4 * s + 1) q) (4 * s + 2) w), zsa, zpa, zsd, zfo, zre, zma, zba, zbe, zev, zac, zwr, zsl, zwy, zim, zke))) hs_sg ?_
  refine go_aload_n dX9_seen_85 rfl ?_
  refine go_get dX9_seen_86 fX9_22 rfl rfl ?_
  refine go_iconst (v := 4) dX9_seen_89 (by decide) ?_
  refine go_aload_n dX9_seen_90 rfl ?_
  refine go_get dX9_seen_91 fX9_183 rfl rfl ?_
  refine go_imul dX9_seen_94 ?_
  refine go_topi_eq (n4 s) ?_
  refine go_iconst (v := 3) dX9_seen_95 (by decide) ?_
  refine go_iadd dX9_seen_96 ?_
  refine go_topi_eq (n4k s 3) ?_
  refine go_iload dX9_seen_97 rfl ?_
  refine go_bif_eq (tgt := 106) dX9_seen_99 (by decide) (fun q99 => ?_) (fun q99 => ?_)
  · refine go_iconst (v := 0) dX9_seen_106 (by decide) ?_
    refine go_iastN (4 * s + 3) dX9_seen_107 rfl (by omega) rfl ?_
    refine go_heap (h2 := (hp nw i0 i1 pd lv pl mt nt (zbk, znw, zth, zta, zwe, (nI s), (sgU zsg s n q w b), zsa, zpa, zsd, zfo, zre, zma, zba, zbe, zev, zac, zwr, zsl, zwy, zim, zke))) (hs_sg.trans (by rw [sgU, q99]; rfl)) ?_
    refine go_aload_n dX9_seen_108 rfl ?_
    refine go_dup dX9_seen_109 rfl ?_
    refine go_get dX9_seen_110 fX9_183 rfl rfl ?_
    refine go_iconst (v := 1) dX9_seen_113 (by decide) ?_
    refine go_iadd dX9_seen_114 ?_
    refine go_topi_eq (nI_1 s) ?_
    refine go_put dX9_seen_115 fX9_183 (fun _ => rfl) (fun _ => rfl) rfl rfl ?_
    refine go_heap (h2 := (hp nw i0 i1 pd lv pl mt nt (zbk, znw, zth, zta, zwe, (nI (s + 1)), (sgU zsg s n q w b), zsa, zpa, zsd, zfo, zre, zma, zba, zbe, zev, zac, zwr, zsl, zwy, zim, zke))) (by simp only [hp, hs, List.set]) ?_
    refine go_aload_n dX9_seen_118 rfl ?_
    refine go_get dX9_seen_119 fX9_183 rfl rfl ?_
    refine go_iret dX9_seen_122 rfl rfl ?_
    exact ⟨rfl, rfl⟩
  · refine go_iconst (v := 1) dX9_seen_102 (by decide) ?_
    refine go_goto (tgt := 107) dX9_seen_103 (by decide) ?_
    refine go_iastN (4 * s + 3) dX9_seen_107 rfl (by omega) rfl ?_
    refine go_heap (h2 := (hp nw i0 i1 pd lv pl mt nt (zbk, znw, zth, zta, zwe, (nI s), (sgU zsg s n q w b), zsa, zpa, zsd, zfo, zre, zma, zba, zbe, zev, zac, zwr, zsl, zwy, zim, zke))) (hs_sg.trans (by rw [sgU, q99]; rfl)) ?_
    refine go_aload_n dX9_seen_108 rfl ?_
    refine go_dup dX9_seen_109 rfl ?_
    refine go_get dX9_seen_110 fX9_183 rfl rfl ?_
    refine go_iconst (v := 1) dX9_seen_113 (by decide) ?_
    refine go_iadd dX9_seen_114 ?_
    refine go_topi_eq (nI_1 s) ?_
    refine go_put dX9_seen_115 fX9_183 (fun _ => rfl) (fun _ => rfl) rfl rfl ?_
    refine go_heap (h2 := (hp nw i0 i1 pd lv pl mt nt (zbk, znw, zth, zta, zwe, (nI (s + 1)), (sgU zsg s n q w b), zsa, zpa, zsd, zfo, zre, zma, zba, zbe, zev, zac, zwr, zsl, zwy, zim, zke))) (by simp only [hp, hs, List.set]) ?_
    refine go_aload_n dX9_seen_118 rfl ?_
    refine go_get dX9_seen_119 fX9_183 rfl rfl ?_
    refine go_iret dX9_seen_122 rfl rfl ?_
    exact ⟨rfl, rfl⟩
set_option maxRecDepth 100000 in
set_option maxHeartbeats 4000000 in
theorem rX9_forget_1 {E : gE} {d : Nat} {nw i0 i1 : WorldS} {pd : PadS} {lv : LivesS} {pl : PlanS} {mt : MatS} {nt : NetS} {zbk znw zta zwe zsg zpa zev zac zwr zim zke : Nat → Int32} {zth zsa zsd zfo zre zma zba zsl zwy : Int32} {zbe : Nat → Int64} {s : Nat} : Ret E yX9_forget cX9_forget 2 (some .int) d 0 0 [.ref 52] (hp nw i0 i1 pd lv pl mt nt (zbk, znw, zth, zta, zwe, (nI s), zsg, zsa, zpa, zsd, zfo, zre, zma, zba, zbe, zev, zac, zwr, zsl, zwy, zim, zke)) (dt (some (.int (nI s))) (hp nw i0 i1 pd lv pl mt nt (zbk, znw, zth, zta, zwe, (nI 0), zsg, zsa, zpa, zsd, zfo, zre, zma, zba, zbe, zev, zac, zwr, zsl, zwy, zim, zke))) := by
  refine ret_of_go (L := [_, _]) (by decide) (Nat.le_of_ble_eq_true rfl) rfl ?_
  refine go_aload_n dX9_forget_0 rfl ?_
  refine go_get dX9_forget_1 fX9_183 rfl rfl ?_
  refine go_istore_n (L' := [_, _]) dX9_forget_4 rfl rfl rfl ?_
  refine go_aload_n dX9_forget_5 rfl ?_
  refine go_iconst (v := 0) dX9_forget_6 (by decide) ?_
  refine go_put dX9_forget_7 fX9_183 (fun _ => rfl) (fun _ => rfl) rfl rfl ?_
  refine go_heap (h2 := (hp nw i0 i1 pd lv pl mt nt (zbk, znw, zth, zta, zwe, 0, zsg, zsa, zpa, zsd, zfo, zre, zma, zba, zbe, zev, zac, zwr, zsl, zwy, zim, zke))) (by simp only [hp, hs, List.set]) ?_
  refine go_iload_n dX9_forget_10 rfl ?_
  refine go_iret dX9_forget_11 rfl rfl ?_
  exact ⟨rfl, rfl⟩
