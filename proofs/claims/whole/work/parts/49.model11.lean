/-- what others owe p less what he owes, by the model's book -/
def netM (bk : Nat → Int32) (p : Nat) : Int32 := sumI (fun q => bk (20 + 6 * q + p) - bk (20 + 6 * p + q)) 6
set_option maxRecDepth 100000 in
set_option maxHeartbeats 4000000 in
theorem rX9_netOf {E : gE} {d : Nat} {nw i0 i1 : WorldS} {pd : PadS} {lv : LivesS} {pl : PlanS} {mt : MatS} {nt : NetS} {zbk znw zta zwe zsg zpa zev zac zwr zim zke : Nat → Int32} {zth zsi zsa zsd zfo zre zma zba zsl zwy : Int32} {zbe : Nat → Int64} {p : Nat} (hp6 : p < 6) : Ret E yX9_netOf cX9_netOf 4 (some .int) d 0 0 [.ref 52, .int (nI p)] (hp nw i0 i1 pd lv pl mt nt (zbk, znw, zth, zta, zwe, zsi, zsg, zsa, zpa, zsd, zfo, zre, zma, zba, zbe, zev, zac, zwr, zsl, zwy, zim, zke)) (dt (some (.int (netM zbk p))) (hp nw i0 i1 pd lv pl mt nt (zbk, znw, zth, zta, zwe, zsi, zsg, zsa, zpa, zsd, zfo, zre, zma, zba, zbe, zev, zac, zwr, zsl, zwy, zim, zke))) := by
  refine ret_of_go (L := [_, _, _, _]) (by decide) (Nat.le_of_ble_eq_true rfl) rfl ?_
  have key : ∀ (n k : Nat) (acc : Int32), k + n = 6 → acc = sumI (fun q => zbk (20 + 6 * q + p) - zbk (20 + 6 * p + q)) k → Go E yX9_netOf cX9_netOf 4 (some .int) d 0 0 0 0 4 [some (.ref 52), some (.int (nI p)), some (.int acc), some (.int (nI k))] [] (hp nw i0 i1 pd lv pl mt nt (zbk, znw, zth, zta, zwe, zsi, zsg, zsa, zpa, zsd, zfo, zre, zma, zba, zbe, zev, zac, zwr, zsl, zwy, zim, zke)) (dt (some (.int (netM zbk p))) (hp nw i0 i1 pd lv pl mt nt (zbk, znw, zth, zta, zwe, zsi, zsg, zsa, zpa, zsd, zfo, zre, zma, zba, zbe, zev, zac, zwr, zsl, zwy, zim, zke))) := by
    intro n
    induction n with
    | zero =>
      intro k acc hk ha
      obtain rfl : k = 6 := by omega
      refine go_iload_n dX9_netOf_4 rfl ?_
      refine go_bipush (v := 6) dX9_netOf_5 (by decide) ?_
      refine go_icmp_ge (tgt := 48) dX9_netOf_7 (by decide) (fun q7 => ?_) (fun zq => absurd (nI_le (a := 6) (b := 6) (by decide) (by decide)) zq)
      refine go_iload_n dX9_netOf_48 rfl ?_
      refine go_iret dX9_netOf_49 rfl rfl ?_
      exact ⟨by rw [ha]; rfl, rfl⟩
    | succ n ih =>
      intro k acc hk ha
      refine go_iload_n dX9_netOf_4 rfl ?_
      refine go_bipush (v := 6) dX9_netOf_5 (by decide) ?_
      refine go_icmp_ge (tgt := 48) dX9_netOf_7 (by decide) (fun zq => absurd zq (nI_ge (a := k) (b := 6) (by omega) (by decide))) (fun q7 => ?_)
      refine go_iload_n dX9_netOf_10 rfl ?_
      refine go_aload_n dX9_netOf_11 rfl ?_
      refine go_get dX9_netOf_12 fX9_7 rfl rfl ?_
      refine go_bipush (v := 20) dX9_netOf_15 (by decide) ?_
      refine go_bipush (v := 6) dX9_netOf_17 (by decide) ?_
      refine go_iload_n dX9_netOf_19 rfl ?_
      refine go_imul dX9_netOf_20 ?_
      refine go_iadd dX9_netOf_21 ?_
      refine go_iload_n dX9_netOf_22 rfl ?_
      refine go_iadd dX9_netOf_23 ?_
      refine go_topi_eq (n206 k p) ?_
      refine go_ialdN (20 + 6 * k + p) dX9_netOf_24 rfl (by omega) rfl ?_
      refine go_aload_n dX9_netOf_25 rfl ?_
      refine go_get dX9_netOf_26 fX9_7 rfl rfl ?_
      refine go_bipush (v := 20) dX9_netOf_29 (by decide) ?_
      refine go_bipush (v := 6) dX9_netOf_31 (by decide) ?_
      refine go_iload_n dX9_netOf_33 rfl ?_
      refine go_imul dX9_netOf_34 ?_
      refine go_iadd dX9_netOf_35 ?_
      refine go_iload_n dX9_netOf_36 rfl ?_
      refine go_iadd dX9_netOf_37 ?_
      refine go_topi_eq (n206 p k) ?_
      refine go_ialdN (20 + 6 * p + k) dX9_netOf_38 rfl (by omega) rfl ?_
      refine go_isub dX9_netOf_39 ?_
      refine go_iadd dX9_netOf_40 ?_
      refine go_istore_n (L' := [_, _, _, _]) dX9_netOf_41 rfl rfl rfl ?_
      refine go_iinc (v := nI (k + 1)) (L' := [_, _, _, _]) dX9_netOf_42 rfl (nI_1 k) rfl rfl rfl ?_
      refine go_goto (tgt := 4) dX9_netOf_45 (by decide) ?_
      exact ih (k + 1) _ (by omega) (by rw [ha]; rfl)
  refine go_iconst (v := 0) dX9_netOf_0 (by decide) ?_
  refine go_istore_n (L' := [_, _, _, _]) dX9_netOf_1 rfl rfl rfl ?_
  refine go_iconst (v := 0) dX9_netOf_2 (by decide) ?_
  refine go_istore_n (L' := [_, _, _, _]) dX9_netOf_3 rfl rfl rfl ?_
  exact key 6 0 _ rfl rfl
set_option maxRecDepth 100000 in
set_option maxHeartbeats 4000000 in
theorem rX9_netted_1 {E : gE} {d : Nat} {nw i0 i1 : WorldS} {pd : PadS} {lv : LivesS} {pl : PlanS} {mt : MatS} {nt : NetS} {zbk znw zta zwe zsg zpa zev zac zwr zim zke : Nat → Int32} {zth zsi zsa zsd zfo zre zma zba zsl zwy : Int32} {zbe : Nat → Int64} {p : Int32} (h1 : hasB zth p = false) : Ret E yX9_netted cX9_netted 2 (some .int) (d + 2) 0 0 [.ref 52, .int p] (hp nw i0 i1 pd lv pl mt nt (zbk, znw, zth, zta, zwe, zsi, zsg, zsa, zpa, zsd, zfo, zre, zma, zba, zbe, zev, zac, zwr, zsl, zwy, zim, zke)) (dt (some (.int (-1))) (hp nw i0 i1 pd lv pl mt nt (zbk, znw, zth, zta, zwe, zsi, zsg, zsa, zpa, zsd, zfo, zre, zma, zba, zbe, zev, zac, zwr, zsl, zwy, zim, zke))) := by
  refine ret_of_go (L := [_, _]) (by decide) (Nat.le_of_ble_eq_true rfl) rfl ?_
  refine go_aload_n dX9_netted_0 rfl ?_
  refine go_iload_n dX9_netted_1 rfl ?_
  refine go_cV (as := [_]) dX9_netted_2 mX9_isThere kX9_64 iX9_isThere sX9_isThere rfl rfl rfl rfl (rX9_isThere) rfl rfl rfl ?_
  refine go_be_f (tgt := 20) dX9_netted_5 (by decide) h1 ?_
  refine go_iconst (v := (-1)) dX9_netted_20 (by decide) ?_
  refine go_iret dX9_netted_21 rfl rfl ?_
  exact ⟨rfl, rfl⟩
set_option maxRecDepth 100000 in
set_option maxHeartbeats 4000000 in
theorem rX9_netted_2 {E : gE} {d : Nat} {nw i0 i1 : WorldS} {pd : PadS} {lv : LivesS} {pl : PlanS} {mt : MatS} {nt : NetS} {zbk znw zta zwe zsg zpa zev zac zwr zim zke : Nat → Int32} {zth zsi zsa zsd zfo zre zma zba zsl zwy : Int32} {zbe : Nat → Int64} {k : Nat} (hk : k < 6) (h1 : hasB zth (nI k) = true) : Ret E yX9_netted cX9_netted 2 (some .int) (d + 2) 0 0 [.ref 52, .int (nI k)] (hp nw i0 i1 pd lv pl mt nt (zbk, znw, zth, zta, zwe, zsi, zsg, zsa, zpa, zsd, zfo, zre, zma, zba, zbe, zev, zac, zwr, zsl, zwy, zim, zke)) (dt (some (.int (netM zbk k + 1000))) (hp nw i0 i1 pd lv pl mt nt (zbk, znw, zth, zta, zwe, zsi, zsg, zsa, zpa, zsd, zfo, zre, zma, zba, zbe, zev, zac, zwr, zsl, zwy, zim, zke))) := by
  refine ret_of_go (L := [_, _]) (by decide) (Nat.le_of_ble_eq_true rfl) rfl ?_
  refine go_aload_n dX9_netted_0 rfl ?_
  refine go_iload_n dX9_netted_1 rfl ?_
  refine go_cV (as := [_]) dX9_netted_2 mX9_isThere kX9_64 iX9_isThere sX9_isThere rfl rfl rfl rfl (rX9_isThere) rfl rfl rfl ?_
  refine go_be_t dX9_netted_5 h1 ?_
  refine go_aload_n dX9_netted_8 rfl ?_
  refine go_iload_n dX9_netted_9 rfl ?_
  refine go_cV (as := [_]) dX9_netted_10 mX9_netOf kX9_166 iX9_netOf sX9_netOf rfl rfl rfl rfl (rX9_netOf hk) rfl rfl rfl ?_
  refine go_sipush (v := 1000) dX9_netted_13 (by decide) ?_
  refine go_iadd dX9_netted_16 ?_
  refine go_goto (tgt := 21) dX9_netted_17 (by decide) ?_
  refine go_iret dX9_netted_21 rfl rfl ?_
  exact ⟨rfl, rfl⟩
def whR (th : Nat) (bk : Nat → Int32) : Nat → Option Nat
  | 0 => none
  | p + 1 => if tb th p then (match whR th bk p with | none => some p | some r => if bk (6 + p) ≤ bk (6 + r) then some r else some p) else whR th bk p
theorem whR_lt {th : Nat} {bk : Nat → Int32} : ∀ (k r : Nat), whR th bk k = some r → r < k
  | 0, r, h => by simp [whR] at h
  | k + 1, r, h => by
    rw [whR] at h
    split at h
    · split at h
      · cases h; omega
      · next z e =>
        have := whR_lt k z e
        split at h
        · cases h; omega
        · cases h; omega
    · have := whR_lt k r h
      omega
def hoB (th : Nat) (bk : Nat → Int32) (p : Nat) : Bool := tb th p && decide (bk (12 + p) = 0)
theorem oN_neg {r : Option Nat} (h : oN r < 0) (hr : ∀ z, r = some z → z < 6) : r = none := by
  rcases r with _ | z
  · rfl
  · exfalso
    have hz := hr z rfl
    have : (0 : Int32) ≤ nI z := nI_nn (by omega)
    exact absurd h (Int32.not_lt.mpr this)
theorem oN_nn {r : Option Nat} (h : ¬ oN r < 0) : ∃ z, r = some z := by
  rcases r with _ | z
  · exact absurd (by decide) h
  · exact ⟨z, rfl⟩
set_option maxRecDepth 100000 in
set_option maxHeartbeats 4000000 in
theorem rX9_who_1 {E : gE} {d : Nat} {nw i0 i1 : WorldS} {pd : PadS} {lv : LivesS} {pl : PlanS} {mt : MatS} {nt : NetS} {zbk znw zta zwe zsg zpa zev zac zwr zim zke : Nat → Int32} {zth zsi zsa zsd zfo zre zma zba zsl zwy : Int32} {zbe : Nat → Int64} {w : Int32} (h1 : isInB w 0 1 = false) : Ret E yX9_who cX9_who 5 (some .int) (d + 1) 0 0 [.ref 52, .int w] (hp nw i0 i1 pd lv pl mt nt (zbk, znw, zth, zta, zwe, zsi, zsg, zsa, zpa, zsd, zfo, zre, zma, zba, zbe, zev, zac, zwr, zsl, zwy, zim, zke)) (dt (some (.int (-2))) (hp nw i0 i1 pd lv pl mt nt (zbk, znw, zth, zta, zwe, zsi, zsg, zsa, zpa, zsd, zfo, zre, zma, zba, zbe, zev, zac, zwr, zsl, zwy, zim, zke))) := by
  refine ret_of_go (L := [_, _, _, _, _]) (by decide) (Nat.le_of_ble_eq_true rfl) rfl ?_
  refine go_iload_n dX9_who_0 rfl ?_
  refine go_iconst (v := 0) dX9_who_1 (by decide) ?_
  refine go_iconst (v := 1) dX9_who_2 (by decide) ?_
  refine go_cS (as := [_, _, _]) dX9_who_3 mX9_in kX9_48 tX9_in rfl rfl (rX9_in) rfl rfl rfl ?_
  refine go_bn_f dX9_who_6 h1 ?_
  refine go_bipush (v := (-2)) dX9_who_9 (by decide) ?_
  refine go_iret dX9_who_11 rfl rfl ?_
  exact ⟨rfl, rfl⟩
set_option maxRecDepth 100000 in
set_option maxHeartbeats 4000000 in
theorem wh_h {E : gE} {d : Nat} {nw i0 i1 : WorldS} {pd : PadS} {lv : LivesS} {pl : PlanS} {mt : MatS} {nt : NetS} {zbk znw zta zwe zsg zpa zev zac zwr zim zke : Nat → Int32} {zsi zsa zsd zfo zre zma zba zsl zwy : Int32} {zbe : Nat → Int64} {th k : Nat} {w r : Int32} (hk : k < 6) (t36 : tb th k = true) (kk : Go E yX9_who cX9_who 5 (some .int) (d + 1) 0 0 0 0 20 [some (.ref 52), some (.int w), some (.int r), some (.int (orB (hoB th zbk) (k + 1))), some (.int (nI (k + 1)))] [] (hp nw i0 i1 pd lv pl mt nt (zbk, znw, (nI th), zta, zwe, zsi, zsg, zsa, zpa, zsd, zfo, zre, zma, zba, zbe, zev, zac, zwr, zsl, zwy, zim, zke)) (dt (some (.int (if w = 0 then oN (whR th zbk 6) else orB (hoB th zbk) 6))) (hp nw i0 i1 pd lv pl mt nt (zbk, znw, (nI th), zta, zwe, zsi, zsg, zsa, zpa, zsd, zfo, zre, zma, zba, zbe, zev, zac, zwr, zsl, zwy, zim, zke)))) : Go E yX9_who cX9_who 5 (some .int) (d + 1) 0 0 0 0 72 [some (.ref 52), some (.int w), some (.int r), some (.int (orB (hoB th zbk) k)), some (.int (nI k))] [] (hp nw i0 i1 pd lv pl mt nt (zbk, znw, (nI th), zta, zwe, zsi, zsg, zsa, zpa, zsd, zfo, zre, zma, zba, zbe, zev, zac, zwr, zsl, zwy, zim, zke)) (dt (some (.int (if w = 0 then oN (whR th zbk 6) else orB (hoB th zbk) 6))) (hp nw i0 i1 pd lv pl mt nt (zbk, znw, (nI th), zta, zwe, zsi, zsg, zsa, zpa, zsd, zfo, zre, zma, zba, zbe, zev, zac, zwr, zsl, zwy, zim, zke))) := by
  refine go_iload_n dX9_who_72 rfl ?_
  refine go_aload_n dX9_who_73 rfl ?_
  refine go_get dX9_who_74 fX9_7 rfl rfl ?_
  refine go_bipush (v := 12) dX9_who_77 (by decide) ?_
  refine go_iload dX9_who_79 rfl ?_
  refine go_iadd dX9_who_81 ?_
  refine go_topi_eq (nIp 12 k) ?_
  refine go_ialdN (12 + k) dX9_who_82 rfl (by omega) rfl ?_
  refine go_if_ne (tgt := 93) dX9_who_83 (by decide) (fun q83 => ?_) (fun q83 => ?_)
  · refine go_iconst (v := 0) dX9_who_93 (by decide) ?_
    refine go_ior dX9_who_94 ?_
    refine go_istore_n (L' := [_, _, _, _, _]) dX9_who_95 rfl rfl rfl ?_
    rw [or0, show orB (hoB th zbk) k = orB (hoB th zbk) (k + 1) from by rw [orB, hoB, t36, if_neg (by rw [decide_eq_false q83]; decide)]]
    refine go_iinc (v := nI (k + 1)) (L' := [_, _, _, _, _]) dX9_who_96 rfl (nI_1 k) rfl rfl rfl ?_
    refine go_goto (tgt := 20) dX9_who_99 (by decide) ?_
    exact kk
  · refine go_iconst (v := 1) dX9_who_86 (by decide) ?_
    refine go_iload dX9_who_87 rfl ?_
    refine go_ishl dX9_who_89 ?_
    refine go_goto (tgt := 94) dX9_who_90 (by decide) ?_
    refine go_ior dX9_who_94 ?_
    refine go_istore_n (L' := [_, _, _, _, _]) dX9_who_95 rfl rfl rfl ?_
    rw [show orB (hoB th zbk) k ||| ((1 : Int32) <<< (nI k &&& 31)) = orB (hoB th zbk) (k + 1) from by rw [orB, hoB, t36, if_pos (by rw [decide_eq_true q83]; decide)]]
    refine go_iinc (v := nI (k + 1)) (L' := [_, _, _, _, _]) dX9_who_96 rfl (nI_1 k) rfl rfl rfl ?_
    refine go_goto (tgt := 20) dX9_who_99 (by decide) ?_
    exact kk
set_option maxRecDepth 100000 in
set_option maxHeartbeats 4000000 in
theorem rX9_who_2 {E : gE} {d : Nat} {nw i0 i1 : WorldS} {pd : PadS} {lv : LivesS} {pl : PlanS} {mt : MatS} {nt : NetS} {zbk znw zta zwe zsg zpa zev zac zwr zim zke : Nat → Int32} {zsi zsa zsd zfo zre zma zba zsl zwy : Int32} {zbe : Nat → Int64} {th : Nat} {w : Int32} (ht : th < 64) (h1 : isInB w 0 1 = true) : Ret E yX9_who cX9_who 5 (some .int) (d + 1) 0 0 [.ref 52, .int w] (hp nw i0 i1 pd lv pl mt nt (zbk, znw, (nI th), zta, zwe, zsi, zsg, zsa, zpa, zsd, zfo, zre, zma, zba, zbe, zev, zac, zwr, zsl, zwy, zim, zke)) (dt (some (.int (if w = 0 then oN (whR th zbk 6) else orB (hoB th zbk) 6))) (hp nw i0 i1 pd lv pl mt nt (zbk, znw, (nI th), zta, zwe, zsi, zsg, zsa, zpa, zsd, zfo, zre, zma, zba, zbe, zev, zac, zwr, zsl, zwy, zim, zke))) := by
  refine ret_of_go (L := [_, _, _, _, _]) (by decide) (Nat.le_of_ble_eq_true rfl) rfl ?_
  have key : ∀ (n k : Nat), k + n = 6 → Go E yX9_who cX9_who 5 (some .int) (d + 1) 0 0 0 0 20 [some (.ref 52), some (.int w), some (.int (oN (whR th zbk k))), some (.int (orB (hoB th zbk) k)), some (.int (nI k))] [] (hp nw i0 i1 pd lv pl mt nt (zbk, znw, (nI th), zta, zwe, zsi, zsg, zsa, zpa, zsd, zfo, zre, zma, zba, zbe, zev, zac, zwr, zsl, zwy, zim, zke)) (dt (some (.int (if w = 0 then oN (whR th zbk 6) else orB (hoB th zbk) 6))) (hp nw i0 i1 pd lv pl mt nt (zbk, znw, (nI th), zta, zwe, zsi, zsg, zsa, zpa, zsd, zfo, zre, zma, zba, zbe, zev, zac, zwr, zsl, zwy, zim, zke))) := by
    intro n
    induction n with
    | zero =>
      intro k hk
      obtain rfl : k = 6 := by omega
      refine go_iload dX9_who_20 rfl ?_
      refine go_bipush (v := 6) dX9_who_22 (by decide) ?_
      refine go_icmp_ge (tgt := 102) dX9_who_24 (by decide) (fun q24 => ?_) (fun zq => absurd (nI_le (a := 6) (b := 6) (by decide) (by decide)) zq)
      refine go_iload_n dX9_who_102 rfl ?_
      refine go_if_ne (tgt := 110) dX9_who_103 (by decide) (fun q103 => ?_) (fun q103 => ?_)
      · refine go_iload_n dX9_who_110 rfl ?_
        refine go_iret dX9_who_111 rfl rfl ?_
        exact ⟨by rw [if_neg q103], rfl⟩
      · refine go_iload_n dX9_who_106 rfl ?_
        refine go_goto (tgt := 111) dX9_who_107 (by decide) ?_
        refine go_iret dX9_who_111 rfl rfl ?_
        exact ⟨by rw [if_pos q103], rfl⟩
    | succ n ih =>
      intro k hk
      have ih2 := ih (k + 1) (by omega)
      refine go_iload dX9_who_20 rfl ?_
      refine go_bipush (v := 6) dX9_who_22 (by decide) ?_
      refine go_icmp_ge (tgt := 102) dX9_who_24 (by decide) (fun zq => absurd zq (nI_ge (a := k) (b := 6) (by omega) (by decide))) (fun q24 => ?_)
      refine go_aload_n dX9_who_27 rfl ?_
      refine go_get dX9_who_28 fX9_52 rfl rfl ?_
      refine go_iload dX9_who_31 rfl ?_
      refine go_cS (as := [_, _]) dX9_who_33 mX9_has kX9_56 tX9_has rfl rfl (rX9_has) rfl rfl rfl ?_
      refine go_bif_eq (tgt := 96) dX9_who_36 (by decide) (fun q36 => ?_) (fun q36 => ?_)
      · rw [show oN (whR th zbk k) = oN (whR th zbk (k + 1)) from by rw [whR, (hb_tb th ht k (by omega)).symm.trans q36]; rfl, show orB (hoB th zbk) k = orB (hoB th zbk) (k + 1) from by rw [orB, hoB, (hb_tb th ht k (by omega)).symm.trans q36]; rfl]
        refine go_iinc (v := nI (k + 1)) (L' := [_, _, _, _, _]) dX9_who_96 rfl (nI_1 k) rfl rfl rfl ?_
        refine go_goto (tgt := 20) dX9_who_99 (by decide) ?_
        exact ih2
      · refine go_iload_n dX9_who_39 rfl ?_
        have t36 : tb th k = true := (hb_tb th ht k (by omega)).symm.trans q36
        refine go_if_lt (tgt := 65) dX9_who_40 (by decide) (fun q40 => ?_) (fun q40 => ?_)
        · refine go_iload dX9_who_65 rfl ?_
          refine go_goto (tgt := 71) dX9_who_67 (by decide) ?_
          refine go_istore_n (L' := [_, _, _, _, _]) dX9_who_71 rfl rfl rfl ?_
          have e9 := oN_neg q40 (fun z e => Nat.lt_trans (whR_lt k z e) (by omega)); refine wh_h (by omega) t36 ?_; rw [show nI k = oN (whR th zbk (k + 1)) from by rw [whR, t36, e9]; rfl]; exact ih2
        · obtain ⟨z, e9⟩ := oN_nn q40
          have hz := whR_lt k z e9
          refine go_aload_n dX9_who_43 rfl ?_
          refine go_get dX9_who_44 fX9_7 rfl rfl ?_
          refine go_bipush (v := 6) dX9_who_47 (by decide) ?_
          refine go_iload dX9_who_49 rfl ?_
          refine go_iadd dX9_who_51 ?_
          refine go_topi_eq (nIp 6 k) ?_
          refine go_ialdN (6 + k) dX9_who_52 rfl (by omega) rfl ?_
          refine go_aload_n dX9_who_53 rfl ?_
          refine go_get dX9_who_54 fX9_7 rfl rfl ?_
          refine go_bipush (v := 6) dX9_who_57 (by decide) ?_
          refine go_iload_n dX9_who_59 rfl ?_
          refine go_topi_eq (x := nI z) (by rw [e9]; rfl) ?_
          refine go_iadd dX9_who_60 ?_
          refine go_topi_eq (nIp 6 z) ?_
          refine go_ialdN (6 + z) dX9_who_61 rfl (by omega) rfl ?_
          refine go_icmp_le (tgt := 70) dX9_who_62 (by decide) (fun q62 => ?_) (fun q62 => ?_)
          · refine go_iload_n dX9_who_70 rfl ?_
            refine go_istore_n (L' := [_, _, _, _, _]) dX9_who_71 rfl rfl rfl ?_
            refine wh_h (by omega) t36 ?_; rw [show oN (whR th zbk k) = oN (whR th zbk (k + 1)) from by rw [whR, t36, e9]; simp [q62]]; exact ih2
          · refine go_iload dX9_who_65 rfl ?_
            refine go_goto (tgt := 71) dX9_who_67 (by decide) ?_
            refine go_istore_n (L' := [_, _, _, _, _]) dX9_who_71 rfl rfl rfl ?_
            refine wh_h (by omega) t36 ?_; rw [show nI k = oN (whR th zbk (k + 1)) from by rw [whR, t36, e9]; simp [q62, oN]]; exact ih2
  refine go_iload_n dX9_who_0 rfl ?_
  refine go_iconst (v := 0) dX9_who_1 (by decide) ?_
  refine go_iconst (v := 1) dX9_who_2 (by decide) ?_
  refine go_cS (as := [_, _, _]) dX9_who_3 mX9_in kX9_48 tX9_in rfl rfl (rX9_in) rfl rfl rfl ?_
  refine go_bn_t (tgt := 12) dX9_who_6 (by decide) h1 ?_
  refine go_bipush (v := (-6)) dX9_who_12 (by decide) ?_
  refine go_istore_n (L' := [_, _, _, _, _]) dX9_who_14 rfl rfl rfl ?_
  refine go_iconst (v := 0) dX9_who_15 (by decide) ?_
  refine go_istore_n (L' := [_, _, _, _, _]) dX9_who_16 rfl rfl rfl ?_
  refine go_iconst (v := 0) dX9_who_17 (by decide) ?_
  refine go_istore (L' := [_, _, _, _, _]) dX9_who_18 rfl rfl rfl ?_
  exact key 6 0 rfl
