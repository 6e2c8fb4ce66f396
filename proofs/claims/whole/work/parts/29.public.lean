section Known
variable {E : gE} {y : MethodName} {cc : ByteArray} {nL : Nat} {ret : Option FieldType} {d kc ks mc ms pc : Nat} {L : List (Option Value)} {st : List Value} {h : gH} {Q : Option Value → gH → Prop}
theorem go_be_t {b : Bool} {off : Int} (hd : decode cc pc = .ok (.ifCond .eq off, 3)) (hb : b = true) (k : Go E y cc nL ret d kc ks mc ms (pc + 3) L st h Q) (tgt : Nat := ((pc : Int) + off).toNat) (ht : (pc : Int) + off = (tgt : Int) := by decide) : Go E y cc nL ret d kc ks mc ms pc L (.int (b2i b) :: st) h Q :=
  go_bif_eq hd ht (fun q => absurd (hb.symm.trans q) (by decide)) (fun _ => k)
theorem go_be_f {b : Bool} {off : Int} {tgt : Nat} (hd : decode cc pc = .ok (.ifCond .eq off, 3)) (ht : (pc : Int) + off = (tgt : Int)) (hb : b = false) (k : Go E y cc nL ret d kc ks mc ms tgt L st h Q) : Go E y cc nL ret d kc ks mc ms pc L (.int (b2i b) :: st) h Q :=
  go_bif_eq hd ht (fun _ => k) (fun q => absurd (hb.symm.trans q) (by decide))
theorem go_bn_t {b : Bool} {off : Int} {tgt : Nat} (hd : decode cc pc = .ok (.ifCond .ne off, 3)) (ht : (pc : Int) + off = (tgt : Int)) (hb : b = true) (k : Go E y cc nL ret d kc ks mc ms tgt L st h Q) : Go E y cc nL ret d kc ks mc ms pc L (.int (b2i b) :: st) h Q :=
  go_bif_ne hd ht (fun _ => k) (fun q => absurd (hb.symm.trans q) (by decide))
theorem go_bn_f {b : Bool} {off : Int} (hd : decode cc pc = .ok (.ifCond .ne off, 3)) (hb : b = false) (k : Go E y cc nL ret d kc ks mc ms (pc + 3) L st h Q) (tgt : Nat := ((pc : Int) + off).toNat) (ht : (pc : Int) + off = (tgt : Int) := by decide) : Go E y cc nL ret d kc ks mc ms pc L (.int (b2i b) :: st) h Q :=
  go_bif_ne hd ht (fun q => absurd (hb.symm.trans q) (by decide)) (fun _ => k)
end Known
theorem inB_nat {x : Int32} {a b : Nat} (hb : b < 2 ^ 31) (h : isInB x (nI a) (nI b) = true) (ha : a < 2 ^ 31) : ∃ k : Nat, a ≤ k ∧ k ≤ b ∧ x = nI k := by
  simp only [isInB, Bool.and_eq_true, decide_eq_true_eq, Int32.le_iff_toInt_le] at h
  rw [nI_toInt ha, nI_toInt hb] at h
  obtain ⟨j, hj, rfl⟩ := nI_of (x := x) (by
    rw [Int32.lt_iff_toInt_lt]
    have : (0 : Int32).toInt = 0 := by decide
    omega)
  rw [nI_toInt hj] at h
  exact ⟨j, by omega, by omega, rfl⟩
theorem inB_of {k a b : Nat} (h1 : a ≤ k) (h2 : k ≤ b) (hb : b < 2 ^ 31) : isInB (nI k) (nI a) (nI b) = true := by
  simp only [isInB, Bool.and_eq_true, decide_eq_true_eq, Int32.le_iff_toInt_le]
  rw [nI_toInt (by omega), nI_toInt (by omega), nI_toInt (by omega)]
  omega
set_option maxRecDepth 100000 in
set_option maxHeartbeats 4000000 in
theorem rX8_person_1 {E : gE} {d : Nat} {nw i0 i1 : WorldS} {pd : PadS} {lv : LivesS} {pl : PlanS} {mt : MatS} {nt : NetS} {m : ModS} {p s t : Int32} (h1 : isInB p 0 5 = false) : Ret E yX8_person cX8_person 4 (some .int) (d + 1) 0 0 [.ref 0, .int p, .int s, .int t] (hp nw i0 i1 pd lv pl mt nt m) (dt (some (.int (-1))) (hp nw i0 i1 pd lv pl mt nt m)) := by
  refine ret_of_go (L := [_, _, _, _]) (by decide) (Nat.le_of_ble_eq_true rfl) rfl ?_
  refine go_iload_n dX8_person_0 rfl ?_
  refine go_iconst (v := 0) dX8_person_1 (by decide) ?_
  refine go_iconst (v := 5) dX8_person_2 (by decide) ?_
  refine go_cS (as := [_, _, _]) dX8_person_3 mX8_isIn kX8_55 tX8_isIn rfl rfl (rX8_isIn) rfl rfl rfl ?_
  refine go_bn_f dX8_person_6 h1 ?_
  refine go_iconst (v := (-1)) dX8_person_9 (by decide) ?_
  refine go_iret dX8_person_10 rfl rfl ?_
  exact ⟨rfl, rfl⟩
set_option maxRecDepth 100000 in
set_option maxHeartbeats 4000000 in
theorem rX8_person_2 {E : gE} {d : Nat} {nw i0 i1 : WorldS} {pd : PadS} {lv : LivesS} {pl : PlanS} {mt : MatS} {nt : NetS} {m : ModS} {p s t : Int32} (h1 : isInB p 0 5 = true) (h2 : isInB s 0 400 = false) : Ret E yX8_person cX8_person 4 (some .int) (d + 1) 0 0 [.ref 0, .int p, .int s, .int t] (hp nw i0 i1 pd lv pl mt nt m) (dt (some (.int (-2))) (hp nw i0 i1 pd lv pl mt nt m)) := by
  refine ret_of_go (L := [_, _, _, _]) (by decide) (Nat.le_of_ble_eq_true rfl) rfl ?_
  refine go_iload_n dX8_person_0 rfl ?_
  refine go_iconst (v := 0) dX8_person_1 (by decide) ?_
  refine go_iconst (v := 5) dX8_person_2 (by decide) ?_
  refine go_cS (as := [_, _, _]) dX8_person_3 mX8_isIn kX8_55 tX8_isIn rfl rfl (rX8_isIn) rfl rfl rfl ?_
  refine go_bn_t (tgt := 11) dX8_person_6 (by decide) h1 ?_
  refine go_iload_n dX8_person_11 rfl ?_
  refine go_iconst (v := 0) dX8_person_12 (by decide) ?_
  refine go_sipush (v := 400) dX8_person_13 (by decide) ?_
  refine go_cS (as := [_, _, _]) dX8_person_16 mX8_isIn kX8_55 tX8_isIn rfl rfl (rX8_isIn) rfl rfl rfl ?_
  refine go_be_f (tgt := 32) dX8_person_19 (by decide) h2 ?_
  refine go_bipush (v := (-2)) dX8_person_32 (by decide) ?_
  refine go_iret dX8_person_34 rfl rfl ?_
  exact ⟨rfl, rfl⟩
set_option maxRecDepth 100000 in
set_option maxHeartbeats 4000000 in
theorem rX8_person_3 {E : gE} {d : Nat} {nw i0 i1 : WorldS} {pd : PadS} {lv : LivesS} {pl : PlanS} {mt : MatS} {nt : NetS} {m : ModS} {p s t : Int32} (h1 : isInB p 0 5 = true) (h2 : isInB s 0 400 = true) (h3 : isInB t 0 9 = false) : Ret E yX8_person cX8_person 4 (some .int) (d + 1) 0 0 [.ref 0, .int p, .int s, .int t] (hp nw i0 i1 pd lv pl mt nt m) (dt (some (.int (-2))) (hp nw i0 i1 pd lv pl mt nt m)) := by
  refine ret_of_go (L := [_, _, _, _]) (by decide) (Nat.le_of_ble_eq_true rfl) rfl ?_
  refine go_iload_n dX8_person_0 rfl ?_
  refine go_iconst (v := 0) dX8_person_1 (by decide) ?_
  refine go_iconst (v := 5) dX8_person_2 (by decide) ?_
  refine go_cS (as := [_, _, _]) dX8_person_3 mX8_isIn kX8_55 tX8_isIn rfl rfl (rX8_isIn) rfl rfl rfl ?_
  refine go_bn_t (tgt := 11) dX8_person_6 (by decide) h1 ?_
  refine go_iload_n dX8_person_11 rfl ?_
  refine go_iconst (v := 0) dX8_person_12 (by decide) ?_
  refine go_sipush (v := 400) dX8_person_13 (by decide) ?_
  refine go_cS (as := [_, _, _]) dX8_person_16 mX8_isIn kX8_55 tX8_isIn rfl rfl (rX8_isIn) rfl rfl rfl ?_
  refine go_be_t dX8_person_19 h2 ?_
  refine go_iload_n dX8_person_22 rfl ?_
  refine go_iconst (v := 0) dX8_person_23 (by decide) ?_
  refine go_bipush (v := 9) dX8_person_24 (by decide) ?_
  refine go_cS (as := [_, _, _]) dX8_person_26 mX8_isIn kX8_55 tX8_isIn rfl rfl (rX8_isIn) rfl rfl rfl ?_
  refine go_bn_f dX8_person_29 h3 ?_
  refine go_bipush (v := (-2)) dX8_person_32 (by decide) ?_
  refine go_iret dX8_person_34 rfl rfl ?_
  exact ⟨rfl, rfl⟩
set_option maxRecDepth 100000 in
set_option maxHeartbeats 4000000 in
theorem rX8_person_4 {E : gE} {d : Nat} {nw i0 i1 : WorldS} {pd : PadS} {lv : LivesS} {pl : PlanS} {mt : MatS} {nt : NetS} {m : ModS} {k : Nat} {s t : Int32} (hk : k < 6) (h2 : isInB s 0 400 = true) (h3 : isInB t 0 9 = true) : Ret E yX8_person cX8_person 4 (some .int) (d + 2) 0 0 [.ref 0, .int (nI k), .int s, .int t] (hp nw i0 i1 pd lv pl mt nt m) (dt (some (.int (bcF (enterF nw.1 k s t).1))) (hp (enterF nw.1 k s t, nw.2) i0 i1 pd lv pl mt nt m)) := by
  refine ret_of_go (L := [_, _, _, _]) (by decide) (Nat.le_of_ble_eq_true rfl) rfl ?_
  refine go_iload_n dX8_person_0 rfl ?_
  refine go_iconst (v := 0) dX8_person_1 (by decide) ?_
  refine go_iconst (v := 5) dX8_person_2 (by decide) ?_
  refine go_cS (as := [_, _, _]) dX8_person_3 mX8_isIn kX8_55 tX8_isIn rfl rfl (rX8_isIn) rfl rfl rfl ?_
  refine go_bn_t (tgt := 11) dX8_person_6 (by decide) (inB_of (k := k) (a := 0) (b := 5) (by omega) (by omega) (by decide)) ?_
  refine go_iload_n dX8_person_11 rfl ?_
  refine go_iconst (v := 0) dX8_person_12 (by decide) ?_
  refine go_sipush (v := 400) dX8_person_13 (by decide) ?_
  refine go_cS (as := [_, _, _]) dX8_person_16 mX8_isIn kX8_55 tX8_isIn rfl rfl (rX8_isIn) rfl rfl rfl ?_
  refine go_be_t dX8_person_19 h2 ?_
  refine go_iload_n dX8_person_22 rfl ?_
  refine go_iconst (v := 0) dX8_person_23 (by decide) ?_
  refine go_bipush (v := 9) dX8_person_24 (by decide) ?_
  refine go_cS (as := [_, _, _]) dX8_person_26 mX8_isIn kX8_55 tX8_isIn rfl rfl (rX8_isIn) rfl rfl rfl ?_
  refine go_bn_t (tgt := 35) dX8_person_29 (by decide) h3 ?_
  refine go_aload_n dX8_person_35 rfl ?_
  refine go_get dX8_person_36 fX8_10 rfl rfl ?_
  refine go_get dX8_person_39 fX8_59 rfl rfl ?_
  refine go_iload_n dX8_person_42 rfl ?_
  refine go_iload_n dX8_person_43 rfl ?_
  refine go_iload_n dX8_person_44 rfl ?_
  refine go_cVv (as := [_, _, _]) dX8_person_45 mX1_enter kX8_63 iX1_enter sX1_enter rfl rfl rfl rfl (rX1_enter_n hk) rfl rfl rfl ?_
  refine go_aload_n dX8_person_48 rfl ?_
  refine go_get dX8_person_49 fX8_10 rfl rfl ?_
  refine go_get dX8_person_52 fX8_59 rfl rfl ?_
  refine go_cV (as := []) dX8_person_55 mX1_count kX8_69 iX1_count sX1_count rfl rfl rfl rfl (rX1_count_n) rfl rfl rfl ?_
  refine go_iret dX8_person_58 rfl rfl ?_
  exact ⟨rfl, rfl⟩
set_option maxRecDepth 100000 in
set_option maxHeartbeats 4000000 in
theorem rX8_die_1 {E : gE} {d : Nat} {nw i0 i1 : WorldS} {pd : PadS} {lv : LivesS} {pl : PlanS} {mt : MatS} {nt : NetS} {m : ModS} {p : Int32} (h1 : hasB nw.1.1 p = false) : Ret E yX8_die cX8_die 2 (some .int) (d + 2) 0 0 [.ref 0, .int p] (hp nw i0 i1 pd lv pl mt nt m) (dt (some (.int (-1))) (hp nw i0 i1 pd lv pl mt nt m)) := by
  refine ret_of_go (L := [_, _]) (by decide) (Nat.le_of_ble_eq_true rfl) rfl ?_
  refine go_aload_n dX8_die_0 rfl ?_
  refine go_get dX8_die_1 fX8_10 rfl rfl ?_
  refine go_get dX8_die_4 fX8_59 rfl rfl ?_
  refine go_iload_n dX8_die_7 rfl ?_
  refine go_cV (as := [_]) dX8_die_8 mX1_has kX8_73 iX1_has sX1_has rfl rfl rfl rfl (rX1_has_n) rfl rfl rfl ?_
  refine go_bn_f dX8_die_11 h1 ?_
  refine go_iconst (v := (-1)) dX8_die_14 (by decide) ?_
  refine go_iret dX8_die_15 rfl rfl ?_
  exact ⟨rfl, rfl⟩
set_option maxRecDepth 100000 in
set_option maxHeartbeats 4000000 in
theorem rX8_die_2 {E : gE} {d : Nat} {nw i0 i1 : WorldS} {pd : PadS} {lv : LivesS} {pl : PlanS} {mt : MatS} {nt : NetS} {m : ModS} {k : Nat} (hk : k < 6) (h1 : hasB nw.1.1 (nI k) = true) : Ret E yX8_die cX8_die 2 (some .int) (d + 2) 0 0 [.ref 0, .int (nI k)] (hp nw i0 i1 pd lv pl mt nt m) (dt (some (.int (bcF (leaveF nw.1 k).1))) (hp (leaveF nw.1 k, nw.2) i0 i1 pd lv pl mt nt m)) := by
  refine ret_of_go (L := [_, _]) (by decide) (Nat.le_of_ble_eq_true rfl) rfl ?_
  refine go_aload_n dX8_die_0 rfl ?_
  refine go_get dX8_die_1 fX8_10 rfl rfl ?_
  refine go_get dX8_die_4 fX8_59 rfl rfl ?_
  refine go_iload_n dX8_die_7 rfl ?_
  refine go_cV (as := [_]) dX8_die_8 mX1_has kX8_73 iX1_has sX1_has rfl rfl rfl rfl (rX1_has_n) rfl rfl rfl ?_
  refine go_bn_t (tgt := 16) dX8_die_11 (by decide) h1 ?_
  refine go_aload_n dX8_die_16 rfl ?_
  refine go_get dX8_die_17 fX8_10 rfl rfl ?_
  refine go_get dX8_die_20 fX8_59 rfl rfl ?_
  refine go_iload_n dX8_die_23 rfl ?_
  refine go_cVv (as := [_]) dX8_die_24 mX1_leave kX8_77 iX1_leave sX1_leave rfl rfl rfl rfl (rX1_leave_n hk) rfl rfl rfl ?_
  refine go_aload_n dX8_die_27 rfl ?_
  refine go_get dX8_die_28 fX8_10 rfl rfl ?_
  refine go_get dX8_die_31 fX8_59 rfl rfl ?_
  refine go_cV (as := []) dX8_die_34 mX1_count kX8_69 iX1_count sX1_count rfl rfl rfl rfl (rX1_count_n) rfl rfl rfl ?_
  refine go_iret dX8_die_37 rfl rfl ?_
  exact ⟨rfl, rfl⟩
set_option maxRecDepth 100000 in
set_option maxHeartbeats 4000000 in
theorem rX8_weight_1 {E : gE} {d : Nat} {nw i0 i1 : WorldS} {pd : PadS} {lv : LivesS} {pl : PlanS} {mt : MatS} {nt : NetS} {m : ModS} {p v : Int32} (h1 : isInB p 1 9 = false) : Ret E yX8_weight cX8_weight 4 (some .int) (d + 1) 0 0 [.ref 0, .int p, .int v] (hp nw i0 i1 pd lv pl mt nt m) (dt (some (.int (-2))) (hp nw i0 i1 pd lv pl mt nt m)) := by
  refine ret_of_go (L := [_, _, _, _]) (by decide) (Nat.le_of_ble_eq_true rfl) rfl ?_
  refine go_iload_n dX8_weight_0 rfl ?_
  refine go_iconst (v := 1) dX8_weight_1 (by decide) ?_
  refine go_bipush (v := 9) dX8_weight_2 (by decide) ?_
  refine go_cS (as := [_, _, _]) dX8_weight_4 mX8_isIn kX8_55 tX8_isIn rfl rfl (rX8_isIn) rfl rfl rfl ?_
  refine go_be_f (tgt := 20) dX8_weight_7 (by decide) h1 ?_
  refine go_bipush (v := (-2)) dX8_weight_20 (by decide) ?_
  refine go_iret dX8_weight_22 rfl rfl ?_
  exact ⟨rfl, rfl⟩
set_option maxRecDepth 100000 in
set_option maxHeartbeats 4000000 in
theorem rX8_weight_2 {E : gE} {d : Nat} {nw i0 i1 : WorldS} {pd : PadS} {lv : LivesS} {pl : PlanS} {mt : MatS} {nt : NetS} {m : ModS} {p v : Int32} (h1 : isInB p 1 9 = true) (h2 : isInB v 0 9 = false) : Ret E yX8_weight cX8_weight 4 (some .int) (d + 1) 0 0 [.ref 0, .int p, .int v] (hp nw i0 i1 pd lv pl mt nt m) (dt (some (.int (-2))) (hp nw i0 i1 pd lv pl mt nt m)) := by
  refine ret_of_go (L := [_, _, _, _]) (by decide) (Nat.le_of_ble_eq_true rfl) rfl ?_
  refine go_iload_n dX8_weight_0 rfl ?_
  refine go_iconst (v := 1) dX8_weight_1 (by decide) ?_
  refine go_bipush (v := 9) dX8_weight_2 (by decide) ?_
  refine go_cS (as := [_, _, _]) dX8_weight_4 mX8_isIn kX8_55 tX8_isIn rfl rfl (rX8_isIn) rfl rfl rfl ?_
  refine go_be_t dX8_weight_7 h1 ?_
  refine go_iload_n dX8_weight_10 rfl ?_
  refine go_iconst (v := 0) dX8_weight_11 (by decide) ?_
  refine go_bipush (v := 9) dX8_weight_12 (by decide) ?_
  refine go_cS (as := [_, _, _]) dX8_weight_14 mX8_isIn kX8_55 tX8_isIn rfl rfl (rX8_isIn) rfl rfl rfl ?_
  refine go_bn_f dX8_weight_17 h2 ?_
  refine go_bipush (v := (-2)) dX8_weight_20 (by decide) ?_
  refine go_iret dX8_weight_22 rfl rfl ?_
  exact ⟨rfl, rfl⟩
set_option maxRecDepth 100000 in
set_option maxHeartbeats 4000000 in
theorem rX8_weight_3 {E : gE} {d : Nat} {nw i0 i1 : WorldS} {pd : PadS} {lv : LivesS} {pl : PlanS} {mt : MatS} {nt : NetS} {m : ModS} {k : Nat} {v : Int32} (hk1 : 1 ≤ k) (hk9 : k ≤ 9) (h2 : isInB v 0 9 = true) (h3 : v = 0) (h4 : wsumF nw.2.1 = nw.2.1 k) : Ret E yX8_weight cX8_weight 4 (some .int) (d + 1) 0 0 [.ref 0, .int (nI k), .int v] (hp nw i0 i1 pd lv pl mt nt m) (dt (some (.int (-3))) (hp nw i0 i1 pd lv pl mt nt m)) := by
  refine ret_of_go (L := [_, _, _, _]) (by decide) (Nat.le_of_ble_eq_true rfl) rfl ?_
  refine go_iload_n dX8_weight_0 rfl ?_
  refine go_iconst (v := 1) dX8_weight_1 (by decide) ?_
  refine go_bipush (v := 9) dX8_weight_2 (by decide) ?_
  refine go_cS (as := [_, _, _]) dX8_weight_4 mX8_isIn kX8_55 tX8_isIn rfl rfl (rX8_isIn) rfl rfl rfl ?_
  refine go_be_t dX8_weight_7 (inB_of (k := k) (a := 1) (b := 9) (by omega) (by omega) (by decide)) ?_
  refine go_iload_n dX8_weight_10 rfl ?_
  refine go_iconst (v := 0) dX8_weight_11 (by decide) ?_
  refine go_bipush (v := 9) dX8_weight_12 (by decide) ?_
  refine go_cS (as := [_, _, _]) dX8_weight_14 mX8_isIn kX8_55 tX8_isIn rfl rfl (rX8_isIn) rfl rfl rfl ?_
  refine go_bn_t (tgt := 23) dX8_weight_17 (by decide) h2 ?_
  refine go_aload_n dX8_weight_23 rfl ?_
  refine go_get dX8_weight_24 fX8_10 rfl rfl ?_
  refine go_get dX8_weight_27 fX8_81 rfl rfl ?_
  refine go_iload_n dX8_weight_30 rfl ?_
  refine go_ialdN (k) dX8_weight_31 rfl (by omega) rfl ?_
  refine go_istore_n (L' := [_, _, _, _]) dX8_weight_32 rfl rfl rfl ?_
  refine go_iload_n dX8_weight_33 rfl ?_
  refine go_if_ne (tgt := 51) dX8_weight_34 (by decide) (fun zq => absurd h3 zq) (fun q34 => ?_)
  refine go_aload_n dX8_weight_37 rfl ?_
  refine go_get dX8_weight_38 fX8_10 rfl rfl ?_
  refine go_cV (as := []) dX8_weight_41 mX7_weightOfAll kX8_85 iX7_weightOfAll sX7_weightOfAll rfl rfl rfl rfl (rX7_weightOfAll) rfl rfl rfl ?_
  refine go_iload_n dX8_weight_44 rfl ?_
  refine go_icmp_ne (tgt := 51) dX8_weight_45 (by decide) (fun zq => absurd h4 zq) (fun q45 => ?_)
  refine go_bipush (v := (-3)) dX8_weight_48 (by decide) ?_
  refine go_iret dX8_weight_50 rfl rfl ?_
  exact ⟨rfl, rfl⟩
set_option maxRecDepth 100000 in
set_option maxHeartbeats 4000000 in
theorem rX8_weight_4 {E : gE} {d : Nat} {nw i0 i1 : WorldS} {pd : PadS} {lv : LivesS} {pl : PlanS} {mt : MatS} {nt : NetS} {m : ModS} {k : Nat} {v : Int32} (hk1 : 1 ≤ k) (hk9 : k ≤ 9) (h2 : isInB v 0 9 = true) (h3 : v = 0) (h4 : ¬ wsumF nw.2.1 = nw.2.1 k) : Ret E yX8_weight cX8_weight 4 (some .int) (d + 1) 0 0 [.ref 0, .int (nI k), .int v] (hp nw i0 i1 pd lv pl mt nt m) (dt (some (.int (nw.2.1 k))) (hp (nw.1, upd nw.2.1 k v, nw.2.2) i0 i1 pd lv (pl.1, pl.2.1, 0) mt nt m)) := by
  refine ret_of_go (L := [_, _, _, _]) (by decide) (Nat.le_of_ble_eq_true rfl) rfl ?_
  refine go_iload_n dX8_weight_0 rfl ?_
  refine go_iconst (v := 1) dX8_weight_1 (by decide) ?_
  refine go_bipush (v := 9) dX8_weight_2 (by decide) ?_
  refine go_cS (as := [_, _, _]) dX8_weight_4 mX8_isIn kX8_55 tX8_isIn rfl rfl (rX8_isIn) rfl rfl rfl ?_
  refine go_be_t dX8_weight_7 (inB_of (k := k) (a := 1) (b := 9) (by omega) (by omega) (by decide)) ?_
  refine go_iload_n dX8_weight_10 rfl ?_
  refine go_iconst (v := 0) dX8_weight_11 (by decide) ?_
  refine go_bipush (v := 9) dX8_weight_12 (by decide) ?_
  refine go_cS (as := [_, _, _]) dX8_weight_14 mX8_isIn kX8_55 tX8_isIn rfl rfl (rX8_isIn) rfl rfl rfl ?_
  refine go_bn_t (tgt := 23) dX8_weight_17 (by decide) h2 ?_
  refine go_aload_n dX8_weight_23 rfl ?_
  refine go_get dX8_weight_24 fX8_10 rfl rfl ?_
  refine go_get dX8_weight_27 fX8_81 rfl rfl ?_
  refine go_iload_n dX8_weight_30 rfl ?_
  refine go_ialdN (k) dX8_weight_31 rfl (by omega) rfl ?_
  refine go_istore_n (L' := [_, _, _, _]) dX8_weight_32 rfl rfl rfl ?_
  refine go_iload_n dX8_weight_33 rfl ?_
  refine go_if_ne (tgt := 51) dX8_weight_34 (by decide) (fun zq => absurd h3 zq) (fun q34 => ?_)
  refine go_aload_n dX8_weight_37 rfl ?_
  refine go_get dX8_weight_38 fX8_10 rfl rfl ?_
  refine go_cV (as := []) dX8_weight_41 mX7_weightOfAll kX8_85 iX7_weightOfAll sX7_weightOfAll rfl rfl rfl rfl (rX7_weightOfAll) rfl rfl rfl ?_
  refine go_iload_n dX8_weight_44 rfl ?_
  refine go_icmp_ne (tgt := 51) dX8_weight_45 (by decide) (fun q45 => ?_) (fun zq => absurd zq h4)
  refine go_aload_n dX8_weight_51 rfl ?_
  refine go_get dX8_weight_52 fX8_10 rfl rfl ?_
  refine go_get dX8_weight_55 fX8_81 rfl rfl ?_
  refine go_iload_n dX8_weight_58 rfl ?_
  refine go_iload_n dX8_weight_59 rfl ?_
  refine go_iastN (k) dX8_weight_60 rfl (by omega) rfl ?_
  refine go_heap (h2 := (hp (nw.1, upd nw.2.1 k v, nw.2.2) i0 i1 pd lv pl mt nt m)) rfl ?_
  refine go_aload_n dX8_weight_61 rfl ?_
  refine go_get dX8_weight_62 fX8_37 rfl rfl ?_
  refine go_cVv (as := []) dX8_weight_65 mX6_forgetValues kX8_88 iX6_forgetValues sX6_forgetValues rfl rfl rfl rfl (rX6_forgetValues) rfl rfl rfl ?_
  refine go_iload_n dX8_weight_68 rfl ?_
  refine go_iret dX8_weight_69 rfl rfl ?_
  exact ⟨rfl, rfl⟩
set_option maxRecDepth 100000 in
set_option maxHeartbeats 4000000 in
theorem rX8_weight_5 {E : gE} {d : Nat} {nw i0 i1 : WorldS} {pd : PadS} {lv : LivesS} {pl : PlanS} {mt : MatS} {nt : NetS} {m : ModS} {k : Nat} {v : Int32} (hk1 : 1 ≤ k) (hk9 : k ≤ 9) (h2 : isInB v 0 9 = true) (h3 : ¬ v = 0) : Ret E yX8_weight cX8_weight 4 (some .int) (d + 1) 0 0 [.ref 0, .int (nI k), .int v] (hp nw i0 i1 pd lv pl mt nt m) (dt (some (.int (nw.2.1 k))) (hp (nw.1, upd nw.2.1 k v, nw.2.2) i0 i1 pd lv (pl.1, pl.2.1, 0) mt nt m)) := by
  refine ret_of_go (L := [_, _, _, _]) (by decide) (Nat.le_of_ble_eq_true rfl) rfl ?_
  refine go_iload_n dX8_weight_0 rfl ?_
  refine go_iconst (v := 1) dX8_weight_1 (by decide) ?_
  refine go_bipush (v := 9) dX8_weight_2 (by decide) ?_
  refine go_cS (as := [_, _, _]) dX8_weight_4 mX8_isIn kX8_55 tX8_isIn rfl rfl (rX8_isIn) rfl rfl rfl ?_
  refine go_be_t dX8_weight_7 (inB_of (k := k) (a := 1) (b := 9) (by omega) (by omega) (by decide)) ?_
  refine go_iload_n dX8_weight_10 rfl ?_
  refine go_iconst (v := 0) dX8_weight_11 (by decide) ?_
  refine go_bipush (v := 9) dX8_weight_12 (by decide) ?_
  refine go_cS (as := [_, _, _]) dX8_weight_14 mX8_isIn kX8_55 tX8_isIn rfl rfl (rX8_isIn) rfl rfl rfl ?_
  refine go_bn_t (tgt := 23) dX8_weight_17 (by decide) h2 ?_
  refine go_aload_n dX8_weight_23 rfl ?_
  refine go_get dX8_weight_24 fX8_10 rfl rfl ?_
  refine go_get dX8_weight_27 fX8_81 rfl rfl ?_
  refine go_iload_n dX8_weight_30 rfl ?_
  refine go_ialdN (k) dX8_weight_31 rfl (by omega) rfl ?_
  refine go_istore_n (L' := [_, _, _, _]) dX8_weight_32 rfl rfl rfl ?_
  refine go_iload_n dX8_weight_33 rfl ?_
  refine go_if_ne (tgt := 51) dX8_weight_34 (by decide) (fun q34 => ?_) (fun zq => absurd zq h3)
  refine go_aload_n dX8_weight_51 rfl ?_
  refine go_get dX8_weight_52 fX8_10 rfl rfl ?_
  refine go_get dX8_weight_55 fX8_81 rfl rfl ?_
  refine go_iload_n dX8_weight_58 rfl ?_
  refine go_iload_n dX8_weight_59 rfl ?_
  refine go_iastN (k) dX8_weight_60 rfl (by omega) rfl ?_
  refine go_heap (h2 := (hp (nw.1, upd nw.2.1 k v, nw.2.2) i0 i1 pd lv pl mt nt m)) rfl ?_
  refine go_aload_n dX8_weight_61 rfl ?_
  refine go_get dX8_weight_62 fX8_37 rfl rfl ?_
  refine go_cVv (as := []) dX8_weight_65 mX6_forgetValues kX8_88 iX6_forgetValues sX6_forgetValues rfl rfl rfl rfl (rX6_forgetValues) rfl rfl rfl ?_
  refine go_iload_n dX8_weight_68 rfl ?_
  refine go_iret dX8_weight_69 rfl rfl ?_
  exact ⟨rfl, rfl⟩
set_option maxRecDepth 100000 in
set_option maxHeartbeats 4000000 in
theorem rX8_say_1 {E : gE} {d : Nat} {nw i0 i1 : WorldS} {lv : LivesS} {pl : PlanS} {mt : MatS} {nt : NetS} {m : ModS} {S : Nat → Int32} {c : Nat} {x : Int32} (h1 : isInB x 33 126 = false) : Ret E yX8_say cX8_say 2 (some .int) (d + 1) 0 0 [.ref 0, .int x] (hp nw i0 i1 (S, nI c) lv pl mt nt m) (dt (some (.int (-2))) (hp nw i0 i1 (S, nI c) lv pl mt nt m)) := by
  refine ret_of_go (L := [_, _]) (by decide) (Nat.le_of_ble_eq_true rfl) rfl ?_
  refine go_iload_n dX8_say_0 rfl ?_
  refine go_bipush (v := 33) dX8_say_1 (by decide) ?_
  refine go_bipush (v := 126) dX8_say_3 (by decide) ?_
  refine go_cS (as := [_, _, _]) dX8_say_5 mX8_isIn kX8_55 tX8_isIn rfl rfl (rX8_isIn) rfl rfl rfl ?_
  refine go_bn_f dX8_say_8 h1 ?_
  refine go_bipush (v := (-2)) dX8_say_11 (by decide) ?_
  refine go_iret dX8_say_13 rfl rfl ?_
  exact ⟨rfl, rfl⟩
set_option maxRecDepth 100000 in
set_option maxHeartbeats 4000000 in
theorem rX8_say_2 {E : gE} {d : Nat} {nw i0 i1 : WorldS} {lv : LivesS} {pl : PlanS} {mt : MatS} {nt : NetS} {m : ModS} {S : Nat → Int32} {c : Nat} {x : Int32} (h1 : isInB x 33 126 = true) (hc : c = 60) : Ret E yX8_say cX8_say 2 (some .int) (d + 1) 0 0 [.ref 0, .int x] (hp nw i0 i1 (S, nI c) lv pl mt nt m) (dt (some (.int (-4))) (hp nw i0 i1 (S, nI c) lv pl mt nt m)) := by
  refine ret_of_go (L := [_, _]) (by decide) (Nat.le_of_ble_eq_true rfl) rfl ?_
  refine go_iload_n dX8_say_0 rfl ?_
  refine go_bipush (v := 33) dX8_say_1 (by decide) ?_
  refine go_bipush (v := 126) dX8_say_3 (by decide) ?_
  refine go_cS (as := [_, _, _]) dX8_say_5 mX8_isIn kX8_55 tX8_isIn rfl rfl (rX8_isIn) rfl rfl rfl ?_
  refine go_bn_t (tgt := 14) dX8_say_8 (by decide) h1 ?_
  refine go_aload_n dX8_say_14 rfl ?_
  refine go_get dX8_say_15 fX8_23 rfl rfl ?_
  refine go_get dX8_say_18 fX8_91 rfl rfl ?_
  refine go_bipush (v := 60) dX8_say_21 (by decide) ?_
  refine go_icmp_lt (tgt := 29) dX8_say_23 (by decide) (fun zq => absurd zq (by subst hc; exact nI_nlt (a := 60) (b := 60) (by decide) (by decide))) (fun q23 => ?_)
  refine go_bipush (v := (-4)) dX8_say_26 (by decide) ?_
  refine go_iret dX8_say_28 rfl rfl ?_
  exact ⟨rfl, rfl⟩
set_option maxRecDepth 100000 in
set_option maxHeartbeats 4000000 in
theorem rX8_say_3 {E : gE} {d : Nat} {nw i0 i1 : WorldS} {lv : LivesS} {pl : PlanS} {mt : MatS} {nt : NetS} {m : ModS} {S : Nat → Int32} {c : Nat} {x : Int32} (h1 : isInB x 33 126 = true) (hc : c < 60) : Ret E yX8_say cX8_say 2 (some .int) (d + 1) 0 0 [.ref 0, .int x] (hp nw i0 i1 (S, nI c) lv pl mt nt m) (dt (some (.int (nI (c + 1)))) (hp nw i0 i1 (upd S c x, nI (c + 1)) lv pl mt nt m)) := by
  refine ret_of_go (L := [_, _]) (by decide) (Nat.le_of_ble_eq_true rfl) rfl ?_
  refine go_iload_n dX8_say_0 rfl ?_
  refine go_bipush (v := 33) dX8_say_1 (by decide) ?_
  refine go_bipush (v := 126) dX8_say_3 (by decide) ?_
  refine go_cS (as := [_, _, _]) dX8_say_5 mX8_isIn kX8_55 tX8_isIn rfl rfl (rX8_isIn) rfl rfl rfl ?_
  refine go_bn_t (tgt := 14) dX8_say_8 (by decide) h1 ?_
  refine go_aload_n dX8_say_14 rfl ?_
  refine go_get dX8_say_15 fX8_23 rfl rfl ?_
  refine go_get dX8_say_18 fX8_91 rfl rfl ?_
  refine go_bipush (v := 60) dX8_say_21 (by decide) ?_
  refine go_icmp_lt (tgt := 29) dX8_say_23 (by decide) (fun q23 => ?_) (fun zq => absurd (nI_lt (a := c) (b := 60) hc (by decide)) zq)
  refine go_aload_n dX8_say_29 rfl ?_
  refine go_get dX8_say_30 fX8_23 rfl rfl ?_
  refine go_iload_n dX8_say_33 rfl ?_
  refine go_cVv (as := [_]) dX8_say_34 mX5_add kX8_94 iX5_add sX5_add rfl rfl rfl rfl (rX5_add hc) rfl rfl rfl ?_
  refine go_aload_n dX8_say_37 rfl ?_
  refine go_get dX8_say_38 fX8_23 rfl rfl ?_
  refine go_get dX8_say_41 fX8_91 rfl rfl ?_
  refine go_iret dX8_say_44 rfl rfl ?_
  exact ⟨rfl, rfl⟩
set_option maxRecDepth 100000 in
set_option maxHeartbeats 4000000 in
theorem rX8_wipe_1 {E : gE} {d : Nat} {nw i0 i1 : WorldS} {lv : LivesS} {pl : PlanS} {mt : MatS} {nt : NetS} {m : ModS} {S : Nat → Int32} {c : Nat} : Ret E yX8_wipe cX8_wipe 2 (some .int) d 0 0 [.ref 0] (hp nw i0 i1 (S, nI c) lv pl mt nt m) (dt (some (.int (nI c))) (hp nw i0 i1 (S, nI 0) lv pl mt nt m)) := by
  refine ret_of_go (L := [_, _]) (by decide) (Nat.le_of_ble_eq_true rfl) rfl ?_
  refine go_aload_n dX8_wipe_0 rfl ?_
  refine go_get dX8_wipe_1 fX8_23 rfl rfl ?_
  refine go_get dX8_wipe_4 fX8_91 rfl rfl ?_
  refine go_istore_n (L' := [_, _]) dX8_wipe_7 rfl rfl rfl ?_
  refine go_aload_n dX8_wipe_8 rfl ?_
  refine go_get dX8_wipe_9 fX8_23 rfl rfl ?_
  refine go_iconst (v := 0) dX8_wipe_12 (by decide) ?_
  refine go_put dX8_wipe_13 fX8_91 (fun _ => rfl) (fun _ => rfl) rfl rfl ?_
  refine go_iload_n dX8_wipe_16 rfl ?_
  refine go_iret dX8_wipe_17 rfl rfl ?_
  exact ⟨rfl, rfl⟩
set_option maxRecDepth 100000 in
set_option maxHeartbeats 4000000 in
theorem rX8_fault_1 {E : gE} {d : Nat} {nw i0 i1 : WorldS} {lv : LivesS} {pl : PlanS} {mt : MatS} {nt : NetS} {m : ModS} {S : Nat → Int32} {c : Nat} (hc : c ≤ 60) : Ret E yX8_fault cX8_fault 1 (some .int) (d + 5) 0 0 [.ref 0] (hp nw i0 i1 (S, nI c) lv pl mt nt m) (dt (some (.int (ffR S c 0 0))) (hp nw i0 i1 (S, nI c) lv pl mt nt m)) := by
  refine ret_of_go (L := [_]) (by decide) (Nat.le_of_ble_eq_true rfl) rfl ?_
  refine go_aload_n dX8_fault_0 rfl ?_
  refine go_get dX8_fault_1 fX8_23 rfl rfl ?_
  refine go_cV (as := []) dX8_fault_4 mX5_firstFault kX8_97 iX5_firstFault sX5_firstFault rfl rfl rfl rfl (rX5_firstFault hc) rfl rfl rfl ?_
  refine go_iret dX8_fault_7 rfl rfl ?_
  exact ⟨rfl, rfl⟩
set_option maxRecDepth 100000 in
set_option maxHeartbeats 4000000 in
theorem rX8_judge_1 {E : gE} {d : Nat} {nw i0 i1 : WorldS} {lv : LivesS} {pl : PlanS} {mt : MatS} {nt : NetS} {m : ModS} {S : Nat → Int32} {c : Nat} {w : Int32} (h1 : isInB w 0 1 = false) : Ret E yX8_judge cX8_judge 2 (some .int) (d + 1) 0 0 [.ref 0, .int w] (hp nw i0 i1 (S, nI c) lv pl mt nt m) (dt (some (.int (-2))) (hp nw i0 i1 (S, nI c) lv pl mt nt m)) := by
  refine ret_of_go (L := [_, _]) (by decide) (Nat.le_of_ble_eq_true rfl) rfl ?_
  refine go_iload_n dX8_judge_0 rfl ?_
  refine go_iconst (v := 0) dX8_judge_1 (by decide) ?_
  refine go_iconst (v := 1) dX8_judge_2 (by decide) ?_
  refine go_cS (as := [_, _, _]) dX8_judge_3 mX8_isIn kX8_55 tX8_isIn rfl rfl (rX8_isIn) rfl rfl rfl ?_
  refine go_bn_f dX8_judge_6 h1 ?_
  refine go_bipush (v := (-2)) dX8_judge_9 (by decide) ?_
  refine go_iret dX8_judge_11 rfl rfl ?_
  exact ⟨rfl, rfl⟩
set_option maxRecDepth 100000 in
set_option maxHeartbeats 4000000 in
theorem rX8_judge_2 {E : gE} {d : Nat} {nw i0 i1 : WorldS} {lv : LivesS} {pl : PlanS} {mt : MatS} {nt : NetS} {m : ModS} {S : Nat → Int32} {c : Nat} {w : Int32} (hc : c ≤ 60) (h1 : isInB w 0 1 = true) (h2 : ¬ ffR S c 0 0 = -6) : Ret E yX8_judge cX8_judge 2 (some .int) (d + 6) 0 0 [.ref 0, .int w] (hp nw i0 i1 (S, nI c) lv pl mt nt m) (dt (some (.int (-5))) (hp nw i0 i1 (S, nI c) lv pl mt nt m)) := by
  refine ret_of_go (L := [_, _]) (by decide) (Nat.le_of_ble_eq_true rfl) rfl ?_
  refine go_iload_n dX8_judge_0 rfl ?_
  refine go_iconst (v := 0) dX8_judge_1 (by decide) ?_
  refine go_iconst (v := 1) dX8_judge_2 (by decide) ?_
  refine go_cS (as := [_, _, _]) dX8_judge_3 mX8_isIn kX8_55 tX8_isIn rfl rfl (rX8_isIn) rfl rfl rfl ?_
  refine go_bn_t (tgt := 12) dX8_judge_6 (by decide) h1 ?_
  refine go_aload_n dX8_judge_12 rfl ?_
  refine go_get dX8_judge_13 fX8_23 rfl rfl ?_
  refine go_cV (as := []) dX8_judge_16 mX5_firstFault kX8_97 iX5_firstFault sX5_firstFault rfl rfl rfl rfl (rX5_firstFault hc) rfl rfl rfl ?_
  refine go_bipush (v := (-6)) dX8_judge_19 (by decide) ?_
  refine go_icmp_eq (tgt := 27) dX8_judge_21 (by decide) (fun zq => absurd zq h2) (fun q21 => ?_)
  refine go_bipush (v := (-5)) dX8_judge_24 (by decide) ?_
  refine go_iret dX8_judge_26 rfl rfl ?_
  exact ⟨rfl, rfl⟩
set_option maxRecDepth 100000 in
set_option maxHeartbeats 4000000 in
theorem rX8_judge_3 {E : gE} {d : Nat} {nw i0 i1 : WorldS} {lv : LivesS} {pl : PlanS} {mt : MatS} {nt : NetS} {m : ModS} {S : Nat → Int32} {c : Nat} {w : Int32} (hc : c ≤ 60) (h1 : isInB w 0 1 = true) (h2 : ffR S c 0 0 = -6) (h3 : w = 0) : Ret E yX8_judge cX8_judge 2 (some .int) (d + 6) 0 0 [.ref 0, .int w] (hp nw i0 i1 (S, nI c) lv pl mt nt m) (dt (some (.int (tellF nw.1 lv.2.1 S c).2.2.2.1)) (hp nw i0 i1 (S, nI c) (tellF nw.1 lv.2.1 S c) pl mt nt m)) := by
  refine ret_of_go (L := [_, _]) (by decide) (Nat.le_of_ble_eq_true rfl) rfl ?_
  refine go_iload_n dX8_judge_0 rfl ?_
  refine go_iconst (v := 0) dX8_judge_1 (by decide) ?_
  refine go_iconst (v := 1) dX8_judge_2 (by decide) ?_
  refine go_cS (as := [_, _, _]) dX8_judge_3 mX8_isIn kX8_55 tX8_isIn rfl rfl (rX8_isIn) rfl rfl rfl ?_
  refine go_bn_t (tgt := 12) dX8_judge_6 (by decide) h1 ?_
  refine go_aload_n dX8_judge_12 rfl ?_
  refine go_get dX8_judge_13 fX8_23 rfl rfl ?_
  refine go_cV (as := []) dX8_judge_16 mX5_firstFault kX8_97 iX5_firstFault sX5_firstFault rfl rfl rfl rfl (rX5_firstFault hc) rfl rfl rfl ?_
  refine go_bipush (v := (-6)) dX8_judge_19 (by decide) ?_
  refine go_icmp_eq (tgt := 27) dX8_judge_21 (by decide) (fun q21 => ?_) (fun zq => absurd h2 zq)
  refine go_aload_n dX8_judge_27 rfl ?_
  refine go_get dX8_judge_28 fX8_30 rfl rfl ?_
  refine go_aload_n dX8_judge_31 rfl ?_
  refine go_get dX8_judge_32 fX8_10 rfl rfl ?_
  refine go_get dX8_judge_35 fX8_59 rfl rfl ?_
  refine go_aload_n dX8_judge_38 rfl ?_
  refine go_get dX8_judge_39 fX8_23 rfl rfl ?_
  refine go_cVv (as := [_, _]) dX8_judge_42 mX2_tell kX8_100 iX2_tell sX2_tell rfl rfl rfl rfl (rX2_tell hc) rfl rfl rfl ?_
  refine go_iload_n dX8_judge_45 rfl ?_
  refine go_if_ne (tgt := 59) dX8_judge_46 (by decide) (fun zq => absurd h3 zq) (fun q46 => ?_)
  refine go_aload_n dX8_judge_49 rfl ?_
  refine go_get dX8_judge_50 fX8_30 rfl rfl ?_
  refine go_get dX8_judge_53 fX8_104 rfl rfl ?_
  refine go_goto (tgt := 66) dX8_judge_56 (by decide) ?_
  refine go_iret dX8_judge_66 rfl rfl ?_
  exact ⟨rfl, rfl⟩
set_option maxRecDepth 100000 in
set_option maxHeartbeats 4000000 in
theorem rX8_judge_4 {E : gE} {d : Nat} {nw i0 i1 : WorldS} {lv : LivesS} {pl : PlanS} {mt : MatS} {nt : NetS} {m : ModS} {S : Nat → Int32} {c : Nat} {w : Int32} (hc : c ≤ 60) (h1 : isInB w 0 1 = true) (h2 : ffR S c 0 0 = -6) (h3 : ¬ w = 0) : Ret E yX8_judge cX8_judge 2 (some .int) (d + 6) 0 0 [.ref 0, .int w] (hp nw i0 i1 (S, nI c) lv pl mt nt m) (dt (some (.int (tellF nw.1 lv.2.1 S c).2.2.2.2.1)) (hp nw i0 i1 (S, nI c) (tellF nw.1 lv.2.1 S c) pl mt nt m)) := by
  refine ret_of_go (L := [_, _]) (by decide) (Nat.le_of_ble_eq_true rfl) rfl ?_
  refine go_iload_n dX8_judge_0 rfl ?_
  refine go_iconst (v := 0) dX8_judge_1 (by decide) ?_
  refine go_iconst (v := 1) dX8_judge_2 (by decide) ?_
  refine go_cS (as := [_, _, _]) dX8_judge_3 mX8_isIn kX8_55 tX8_isIn rfl rfl (rX8_isIn) rfl rfl rfl ?_
  refine go_bn_t (tgt := 12) dX8_judge_6 (by decide) h1 ?_
  refine go_aload_n dX8_judge_12 rfl ?_
  refine go_get dX8_judge_13 fX8_23 rfl rfl ?_
  refine go_cV (as := []) dX8_judge_16 mX5_firstFault kX8_97 iX5_firstFault sX5_firstFault rfl rfl rfl rfl (rX5_firstFault hc) rfl rfl rfl ?_
  refine go_bipush (v := (-6)) dX8_judge_19 (by decide) ?_
  refine go_icmp_eq (tgt := 27) dX8_judge_21 (by decide) (fun q21 => ?_) (fun zq => absurd h2 zq)
  refine go_aload_n dX8_judge_27 rfl ?_
  refine go_get dX8_judge_28 fX8_30 rfl rfl ?_
  refine go_aload_n dX8_judge_31 rfl ?_
  refine go_get dX8_judge_32 fX8_10 rfl rfl ?_
  refine go_get dX8_judge_35 fX8_59 rfl rfl ?_
  refine go_aload_n dX8_judge_38 rfl ?_
  refine go_get dX8_judge_39 fX8_23 rfl rfl ?_
  refine go_cVv (as := [_, _]) dX8_judge_42 mX2_tell kX8_100 iX2_tell sX2_tell rfl rfl rfl rfl (rX2_tell hc) rfl rfl rfl ?_
  refine go_iload_n dX8_judge_45 rfl ?_
  refine go_if_ne (tgt := 59) dX8_judge_46 (by decide) (fun q46 => ?_) (fun zq => absurd zq h3)
  refine go_aload_n dX8_judge_59 rfl ?_
  refine go_get dX8_judge_60 fX8_30 rfl rfl ?_
  refine go_get dX8_judge_63 fX8_107 rfl rfl ?_
  refine go_iret dX8_judge_66 rfl rfl ?_
  exact ⟨rfl, rfl⟩
set_option maxRecDepth 100000 in
set_option maxHeartbeats 4000000 in
theorem rX8_done_1 {E : gE} {d : Nat} {nw i0 i1 : WorldS} {lv : LivesS} {pl : PlanS} {mt : MatS} {nt : NetS} {m : ModS} {S : Nat → Int32} {c : Nat} (hc : c ≤ 60) (h1 : canB nw lv S c = false) : Ret E yX8_done cX8_done 1 (some .int) (d + 7) 0 0 [.ref 0] (hp nw i0 i1 (S, nI c) lv pl mt nt m) (dt (some (.int (-5))) (hp nw i0 i1 (S, nI c) (toldF nw lv S c) pl mt nt m)) := by
  refine ret_of_go (L := [_]) (by decide) (Nat.le_of_ble_eq_true rfl) rfl ?_
  refine go_aload_n dX8_done_0 rfl ?_
  refine go_cV (as := []) dX8_done_1 mX8_allCanBe kX8_110 iX8_allCanBe sX8_allCanBe rfl rfl rfl rfl (rX8_allCanBe hc) rfl rfl rfl ?_
  refine go_bn_f dX8_done_4 h1 ?_
  refine go_bipush (v := (-5)) dX8_done_7 (by decide) ?_
  refine go_iret dX8_done_9 rfl rfl ?_
  exact ⟨rfl, rfl⟩
set_option maxRecDepth 100000 in
set_option maxHeartbeats 4000000 in
theorem rX8_done_2 {E : gE} {d : Nat} {nw i0 i1 : WorldS} {lv : LivesS} {pl : PlanS} {mt : MatS} {nt : NetS} {m : ModS} {S : Nat → Int32} {c : Nat} (hc : c ≤ 60) (h1 : canB nw lv S c = true) : Ret E yX8_done cX8_done 1 (some .int) (d + 7) 0 0 [.ref 0] (hp nw i0 i1 (S, nI c) lv pl mt nt m) (dt (some (.int (toldF nw lv S c).2.2.1)) (hp ((toldF nw lv S c).1, nw.2) i0 i1 (S, nI 0) (toldF nw lv S c) pl mt nt m)) := by
  refine ret_of_go (L := [_]) (by decide) (Nat.le_of_ble_eq_true rfl) rfl ?_
  refine go_aload_n dX8_done_0 rfl ?_
  refine go_cV (as := []) dX8_done_1 mX8_allCanBe kX8_110 iX8_allCanBe sX8_allCanBe rfl rfl rfl rfl (rX8_allCanBe hc) rfl rfl rfl ?_
  refine go_bn_t (tgt := 10) dX8_done_4 (by decide) h1 ?_
  refine go_aload_n dX8_done_10 rfl ?_
  refine go_get dX8_done_11 fX8_10 rfl rfl ?_
  refine go_get dX8_done_14 fX8_59 rfl rfl ?_
  refine go_aload_n dX8_done_17 rfl ?_
  refine go_get dX8_done_18 fX8_30 rfl rfl ?_
  refine go_get dX8_done_21 fX8_114 rfl rfl ?_
  refine go_cVv (as := [_]) dX8_done_24 mX1_copyFrom kX8_117 iX1_copyFrom sX1_copyFrom rfl rfl rfl rfl (rX1_copyFrom_na) rfl rfl rfl ?_
  refine go_aload_n dX8_done_27 rfl ?_
  refine go_get dX8_done_28 fX8_23 rfl rfl ?_
  refine go_iconst (v := 0) dX8_done_31 (by decide) ?_
  refine go_put dX8_done_32 fX8_91 (fun _ => rfl) (fun _ => rfl) rfl rfl ?_
  refine go_aload_n dX8_done_35 rfl ?_
  refine go_get dX8_done_36 fX8_30 rfl rfl ?_
  refine go_get dX8_done_39 fX8_121 rfl rfl ?_
  refine go_iret dX8_done_42 rfl rfl ?_
  exact ⟨rfl, rfl⟩
set_option maxRecDepth 100000 in
set_option maxHeartbeats 4000000 in
theorem rX8_state_1 {E : gE} {d : Nat} {nw i0 i1 : WorldS} {pd : PadS} {lv : LivesS} {pl : PlanS} {mt : MatS} {nt : NetS} {m : ModS} {p w : Int32} (h1 : hasB nw.1.1 p = false) : Ret E yX8_state cX8_state 3 (some .int) (d + 2) 0 0 [.ref 0, .int p, .int w] (hp nw i0 i1 pd lv pl mt nt m) (dt (some (.int (-1))) (hp nw i0 i1 pd lv pl mt nt m)) := by
  refine ret_of_go (L := [_, _, _]) (by decide) (Nat.le_of_ble_eq_true rfl) rfl ?_
  refine go_aload_n dX8_state_0 rfl ?_
  refine go_get dX8_state_1 fX8_10 rfl rfl ?_
  refine go_get dX8_state_4 fX8_59 rfl rfl ?_
  refine go_iload_n dX8_state_7 rfl ?_
  refine go_cV (as := [_]) dX8_state_8 mX1_has kX8_73 iX1_has sX1_has rfl rfl rfl rfl (rX1_has_n) rfl rfl rfl ?_
  refine go_bn_f dX8_state_11 h1 ?_
  refine go_iconst (v := (-1)) dX8_state_14 (by decide) ?_
  refine go_iret dX8_state_15 rfl rfl ?_
  exact ⟨rfl, rfl⟩
set_option maxRecDepth 100000 in
set_option maxHeartbeats 4000000 in
theorem rX8_state_2 {E : gE} {d : Nat} {nw i0 i1 : WorldS} {pd : PadS} {lv : LivesS} {pl : PlanS} {mt : MatS} {nt : NetS} {m : ModS} {p w : Int32} (h1 : hasB nw.1.1 p = true) (h2 : isInB w 0 2 = false) : Ret E yX8_state cX8_state 3 (some .int) (d + 2) 0 0 [.ref 0, .int p, .int w] (hp nw i0 i1 pd lv pl mt nt m) (dt (some (.int (-2))) (hp nw i0 i1 pd lv pl mt nt m)) := by
  refine ret_of_go (L := [_, _, _]) (by decide) (Nat.le_of_ble_eq_true rfl) rfl ?_
  refine go_aload_n dX8_state_0 rfl ?_
  refine go_get dX8_state_1 fX8_10 rfl rfl ?_
  refine go_get dX8_state_4 fX8_59 rfl rfl ?_
  refine go_iload_n dX8_state_7 rfl ?_
  refine go_cV (as := [_]) dX8_state_8 mX1_has kX8_73 iX1_has sX1_has rfl rfl rfl rfl (rX1_has_n) rfl rfl rfl ?_
  refine go_bn_t (tgt := 16) dX8_state_11 (by decide) h1 ?_
  refine go_iload_n dX8_state_16 rfl ?_
  refine go_iconst (v := 0) dX8_state_17 (by decide) ?_
  refine go_iconst (v := 2) dX8_state_18 (by decide) ?_
  refine go_cS (as := [_, _, _]) dX8_state_19 mX8_isIn kX8_55 tX8_isIn rfl rfl (rX8_isIn) rfl rfl rfl ?_
  refine go_bn_f dX8_state_22 h2 ?_
  refine go_bipush (v := (-2)) dX8_state_25 (by decide) ?_
  refine go_iret dX8_state_27 rfl rfl ?_
  exact ⟨rfl, rfl⟩
set_option maxRecDepth 100000 in
set_option maxHeartbeats 4000000 in
theorem rX8_state_3 {E : gE} {d : Nat} {nw i0 i1 : WorldS} {pd : PadS} {lv : LivesS} {pl : PlanS} {mt : MatS} {nt : NetS} {m : ModS} {k : Nat} {w : Int32} (hk : k < 6) (h1 : hasB nw.1.1 (nI k) = true) (h2 : isInB w 0 2 = true) : Ret E yX8_state cX8_state 3 (some .int) (d + 2) 0 0 [.ref 0, .int (nI k), .int w] (hp nw i0 i1 pd lv pl mt nt m) (dt (some (.int (holdF nw.1 k w))) (hp nw i0 i1 pd lv pl mt nt m)) := by
  refine ret_of_go (L := [_, _, _]) (by decide) (Nat.le_of_ble_eq_true rfl) rfl ?_
  refine go_aload_n dX8_state_0 rfl ?_
  refine go_get dX8_state_1 fX8_10 rfl rfl ?_
  refine go_get dX8_state_4 fX8_59 rfl rfl ?_
  refine go_iload_n dX8_state_7 rfl ?_
  refine go_cV (as := [_]) dX8_state_8 mX1_has kX8_73 iX1_has sX1_has rfl rfl rfl rfl (rX1_has_n) rfl rfl rfl ?_
  refine go_bn_t (tgt := 16) dX8_state_11 (by decide) h1 ?_
  refine go_iload_n dX8_state_16 rfl ?_
  refine go_iconst (v := 0) dX8_state_17 (by decide) ?_
  refine go_iconst (v := 2) dX8_state_18 (by decide) ?_
  refine go_cS (as := [_, _, _]) dX8_state_19 mX8_isIn kX8_55 tX8_isIn rfl rfl (rX8_isIn) rfl rfl rfl ?_
  refine go_bn_t (tgt := 28) dX8_state_22 (by decide) h2 ?_
  refine go_aload_n dX8_state_28 rfl ?_
  refine go_get dX8_state_29 fX8_10 rfl rfl ?_
  refine go_get dX8_state_32 fX8_59 rfl rfl ?_
  refine go_iload_n dX8_state_35 rfl ?_
  refine go_iload_n dX8_state_36 rfl ?_
  refine go_cV (as := [_, _]) dX8_state_37 mX1_holding kX8_124 iX1_holding sX1_holding rfl rfl rfl rfl (rX1_holding_n hk) rfl rfl rfl ?_
  refine go_iret dX8_state_40 rfl rfl ?_
  exact ⟨rfl, rfl⟩
set_option maxRecDepth 100000 in
set_option maxHeartbeats 4000000 in
theorem rX8_behind_1 {E : gE} {d : Nat} {nw i0 i1 : WorldS} {pd : PadS} {lv : LivesS} {pl : PlanS} {mt : MatS} {nt : NetS} {m : ModS} {p w : Int32} (h1 : hasB nw.1.1 p = false) : Ret E yX8_behind cX8_behind 3 (some .int) (d + 2) 0 0 [.ref 0, .int p, .int w] (hp nw i0 i1 pd lv pl mt nt m) (dt (some (.int (-1))) (hp nw i0 i1 pd lv pl mt nt m)) := by
  refine ret_of_go (L := [_, _, _]) (by decide) (Nat.le_of_ble_eq_true rfl) rfl ?_
  refine go_aload_n dX8_behind_0 rfl ?_
  refine go_get dX8_behind_1 fX8_10 rfl rfl ?_
  refine go_get dX8_behind_4 fX8_59 rfl rfl ?_
  refine go_iload_n dX8_behind_7 rfl ?_
  refine go_cV (as := [_]) dX8_behind_8 mX1_has kX8_73 iX1_has sX1_has rfl rfl rfl rfl (rX1_has_n) rfl rfl rfl ?_
  refine go_bn_f dX8_behind_11 h1 ?_
  refine go_iconst (v := (-1)) dX8_behind_14 (by decide) ?_
  refine go_iret dX8_behind_15 rfl rfl ?_
  exact ⟨rfl, rfl⟩
set_option maxRecDepth 100000 in
set_option maxHeartbeats 4000000 in
theorem rX8_behind_2 {E : gE} {d : Nat} {nw i0 i1 : WorldS} {pd : PadS} {lv : LivesS} {pl : PlanS} {mt : MatS} {nt : NetS} {m : ModS} {p w : Int32} (h1 : hasB nw.1.1 p = true) (h2 : isInB w 0 2 = false) : Ret E yX8_behind cX8_behind 3 (some .int) (d + 2) 0 0 [.ref 0, .int p, .int w] (hp nw i0 i1 pd lv pl mt nt m) (dt (some (.int (-2))) (hp nw i0 i1 pd lv pl mt nt m)) := by
  refine ret_of_go (L := [_, _, _]) (by decide) (Nat.le_of_ble_eq_true rfl) rfl ?_
  refine go_aload_n dX8_behind_0 rfl ?_
  refine go_get dX8_behind_1 fX8_10 rfl rfl ?_
  refine go_get dX8_behind_4 fX8_59 rfl rfl ?_
  refine go_iload_n dX8_behind_7 rfl ?_
  refine go_cV (as := [_]) dX8_behind_8 mX1_has kX8_73 iX1_has sX1_has rfl rfl rfl rfl (rX1_has_n) rfl rfl rfl ?_
  refine go_bn_t (tgt := 16) dX8_behind_11 (by decide) h1 ?_
  refine go_iload_n dX8_behind_16 rfl ?_
  refine go_iconst (v := 0) dX8_behind_17 (by decide) ?_
  refine go_iconst (v := 2) dX8_behind_18 (by decide) ?_
  refine go_cS (as := [_, _, _]) dX8_behind_19 mX8_isIn kX8_55 tX8_isIn rfl rfl (rX8_isIn) rfl rfl rfl ?_
  refine go_bn_f dX8_behind_22 h2 ?_
  refine go_bipush (v := (-2)) dX8_behind_25 (by decide) ?_
  refine go_iret dX8_behind_27 rfl rfl ?_
  exact ⟨rfl, rfl⟩
set_option maxRecDepth 100000 in
set_option maxHeartbeats 4000000 in
theorem rX8_behind_3 {E : gE} {d : Nat} {nw i0 i1 : WorldS} {lv : LivesS} {pl : PlanS} {mt : MatS} {nt : NetS} {m : ModS} {S : Nat → Int32} {c : Nat} {p w : Int32} (hc : c ≤ 60) (h1 : hasB nw.1.1 p = true) (h2 : isInB w 0 2 = true) (h3 : canB nw lv S c = false) : Ret E yX8_behind cX8_behind 3 (some .int) (d + 7) 0 0 [.ref 0, .int p, .int w] (hp nw i0 i1 (S, nI c) lv pl mt nt m) (dt (some (.int (-5))) (hp nw i0 i1 (S, nI c) (toldF nw lv S c) pl mt nt m)) := by
  refine ret_of_go (L := [_, _, _]) (by decide) (Nat.le_of_ble_eq_true rfl) rfl ?_
  refine go_aload_n dX8_behind_0 rfl ?_
  refine go_get dX8_behind_1 fX8_10 rfl rfl ?_
  refine go_get dX8_behind_4 fX8_59 rfl rfl ?_
  refine go_iload_n dX8_behind_7 rfl ?_
  refine go_cV (as := [_]) dX8_behind_8 mX1_has kX8_73 iX1_has sX1_has rfl rfl rfl rfl (rX1_has_n) rfl rfl rfl ?_
  refine go_bn_t (tgt := 16) dX8_behind_11 (by decide) h1 ?_
  refine go_iload_n dX8_behind_16 rfl ?_
  refine go_iconst (v := 0) dX8_behind_17 (by decide) ?_
  refine go_iconst (v := 2) dX8_behind_18 (by decide) ?_
  refine go_cS (as := [_, _, _]) dX8_behind_19 mX8_isIn kX8_55 tX8_isIn rfl rfl (rX8_isIn) rfl rfl rfl ?_
  refine go_bn_t (tgt := 28) dX8_behind_22 (by decide) h2 ?_
  refine go_aload_n dX8_behind_28 rfl ?_
  refine go_cV (as := []) dX8_behind_29 mX8_allCanBe kX8_110 iX8_allCanBe sX8_allCanBe rfl rfl rfl rfl (rX8_allCanBe hc) rfl rfl rfl ?_
  refine go_bn_f dX8_behind_32 h3 ?_
  refine go_bipush (v := (-5)) dX8_behind_35 (by decide) ?_
  refine go_iret dX8_behind_37 rfl rfl ?_
  exact ⟨rfl, rfl⟩
set_option maxRecDepth 100000 in
set_option maxHeartbeats 4000000 in
theorem rX8_behind_4 {E : gE} {d : Nat} {nw i0 i1 : WorldS} {lv : LivesS} {pl : PlanS} {mt : MatS} {nt : NetS} {m : ModS} {S : Nat → Int32} {c : Nat} {k : Nat} {w : Int32} (hc : c ≤ 60) (hk : k < 6) (h1 : hasB nw.1.1 (nI k) = true) (h2 : isInB w 0 2 = true) (h3 : canB nw lv S c = true) : Ret E yX8_behind cX8_behind 3 (some .int) (d + 7) 0 0 [.ref 0, .int (nI k), .int w] (hp nw i0 i1 (S, nI c) lv pl mt nt m) (dt (some (.int (holdF (toldF nw lv S c).1 k w))) (hp nw i0 i1 (S, nI c) (toldF nw lv S c) pl mt nt m)) := by
  refine ret_of_go (L := [_, _, _]) (by decide) (Nat.le_of_ble_eq_true rfl) rfl ?_
  refine go_aload_n dX8_behind_0 rfl ?_
  refine go_get dX8_behind_1 fX8_10 rfl rfl ?_
  refine go_get dX8_behind_4 fX8_59 rfl rfl ?_
  refine go_iload_n dX8_behind_7 rfl ?_
  refine go_cV (as := [_]) dX8_behind_8 mX1_has kX8_73 iX1_has sX1_has rfl rfl rfl rfl (rX1_has_n) rfl rfl rfl ?_
  refine go_bn_t (tgt := 16) dX8_behind_11 (by decide) h1 ?_
  refine go_iload_n dX8_behind_16 rfl ?_
  refine go_iconst (v := 0) dX8_behind_17 (by decide) ?_
  refine go_iconst (v := 2) dX8_behind_18 (by decide) ?_
  refine go_cS (as := [_, _, _]) dX8_behind_19 mX8_isIn kX8_55 tX8_isIn rfl rfl (rX8_isIn) rfl rfl rfl ?_
  refine go_bn_t (tgt := 28) dX8_behind_22 (by decide) h2 ?_
  refine go_aload_n dX8_behind_28 rfl ?_
  refine go_cV (as := []) dX8_behind_29 mX8_allCanBe kX8_110 iX8_allCanBe sX8_allCanBe rfl rfl rfl rfl (rX8_allCanBe hc) rfl rfl rfl ?_
  refine go_bn_t (tgt := 38) dX8_behind_32 (by decide) h3 ?_
  refine go_aload_n dX8_behind_38 rfl ?_
  refine go_get dX8_behind_39 fX8_30 rfl rfl ?_
  refine go_get dX8_behind_42 fX8_114 rfl rfl ?_
  refine go_iload_n dX8_behind_45 rfl ?_
  refine go_iload_n dX8_behind_46 rfl ?_
  refine go_cV (as := [_, _]) dX8_behind_47 mX1_holding kX8_124 iX1_holding sX1_holding rfl rfl rfl rfl (rX1_holding_a hk) rfl rfl rfl ?_
  refine go_iret dX8_behind_50 rfl rfl ?_
  exact ⟨rfl, rfl⟩
set_option maxRecDepth 100000 in
set_option maxHeartbeats 4000000 in
theorem rX8_acts_1 {E : gE} {d : Nat} {nw i0 i1 : WorldS} {pd : PadS} {lv : LivesS} {pl : PlanS} {mt : MatS} {nt : NetS} {m : ModS} {w : Int32} (h1 : isInB w 0 1 = false) : Ret E yX8_acts cX8_acts 2 (some .int) (d + 1) 0 0 [.ref 0, .int w] (hp nw i0 i1 pd lv pl mt nt m) (dt (some (.int (-2))) (hp nw i0 i1 pd lv pl mt nt m)) := by
  refine ret_of_go (L := [_, _]) (by decide) (Nat.le_of_ble_eq_true rfl) rfl ?_
  refine go_iload_n dX8_acts_0 rfl ?_
  refine go_iconst (v := 0) dX8_acts_1 (by decide) ?_
  refine go_iconst (v := 1) dX8_acts_2 (by decide) ?_
  refine go_cS (as := [_, _, _]) dX8_acts_3 mX8_isIn kX8_55 tX8_isIn rfl rfl (rX8_isIn) rfl rfl rfl ?_
  refine go_bn_f dX8_acts_6 h1 ?_
  refine go_bipush (v := (-2)) dX8_acts_9 (by decide) ?_
  refine go_iret dX8_acts_11 rfl rfl ?_
  exact ⟨rfl, rfl⟩
set_option maxRecDepth 100000 in
set_option maxHeartbeats 4000000 in
theorem rX8_acts_2 {E : gE} {d : Nat} {nw i0 i1 : WorldS} {lv : LivesS} {pl : PlanS} {mt : MatS} {nt : NetS} {m : ModS} {S : Nat → Int32} {c : Nat} {w : Int32} (hc : c ≤ 60) (h1 : isInB w 0 1 = true) (h3 : canB nw lv S c = false) : Ret E yX8_acts cX8_acts 2 (some .int) (d + 7) 0 0 [.ref 0, .int w] (hp nw i0 i1 (S, nI c) lv pl mt nt m) (dt (some (.int (-5))) (hp nw i0 i1 (S, nI c) (toldF nw lv S c) pl mt nt m)) := by
  refine ret_of_go (L := [_, _]) (by decide) (Nat.le_of_ble_eq_true rfl) rfl ?_
  refine go_iload_n dX8_acts_0 rfl ?_
  refine go_iconst (v := 0) dX8_acts_1 (by decide) ?_
  refine go_iconst (v := 1) dX8_acts_2 (by decide) ?_
  refine go_cS (as := [_, _, _]) dX8_acts_3 mX8_isIn kX8_55 tX8_isIn rfl rfl (rX8_isIn) rfl rfl rfl ?_
  refine go_bn_t (tgt := 12) dX8_acts_6 (by decide) h1 ?_
  refine go_aload_n dX8_acts_12 rfl ?_
  refine go_cV (as := []) dX8_acts_13 mX8_allCanBe kX8_110 iX8_allCanBe sX8_allCanBe rfl rfl rfl rfl (rX8_allCanBe hc) rfl rfl rfl ?_
  refine go_bn_f dX8_acts_16 h3 ?_
  refine go_bipush (v := (-5)) dX8_acts_19 (by decide) ?_
  refine go_iret dX8_acts_21 rfl rfl ?_
  exact ⟨rfl, rfl⟩
set_option maxRecDepth 100000 in
set_option maxHeartbeats 4000000 in
theorem rX8_acts_3 {E : gE} {d : Nat} {nw i0 i1 : WorldS} {lv : LivesS} {pl : PlanS} {mt : MatS} {nt : NetS} {m : ModS} {S : Nat → Int32} {c : Nat} {w : Int32} (hc : c ≤ 60) (h1 : isInB w 0 1 = true) (h3 : canB nw lv S c = true) (h4 : w = 0) : Ret E yX8_acts cX8_acts 2 (some .int) (d + 7) 0 0 [.ref 0, .int w] (hp nw i0 i1 (S, nI c) lv pl mt nt m) (dt (some (.int (toldF nw lv S c).2.2.2.2.2.1)) (hp nw i0 i1 (S, nI c) (toldF nw lv S c) pl mt nt m)) := by
  refine ret_of_go (L := [_, _]) (by decide) (Nat.le_of_ble_eq_true rfl) rfl ?_
  refine go_iload_n dX8_acts_0 rfl ?_
  refine go_iconst (v := 0) dX8_acts_1 (by decide) ?_
  refine go_iconst (v := 1) dX8_acts_2 (by decide) ?_
  refine go_cS (as := [_, _, _]) dX8_acts_3 mX8_isIn kX8_55 tX8_isIn rfl rfl (rX8_isIn) rfl rfl rfl ?_
  refine go_bn_t (tgt := 12) dX8_acts_6 (by decide) h1 ?_
  refine go_aload_n dX8_acts_12 rfl ?_
  refine go_cV (as := []) dX8_acts_13 mX8_allCanBe kX8_110 iX8_allCanBe sX8_allCanBe rfl rfl rfl rfl (rX8_allCanBe hc) rfl rfl rfl ?_
  refine go_bn_t (tgt := 22) dX8_acts_16 (by decide) h3 ?_
  refine go_iload_n dX8_acts_22 rfl ?_
  refine go_if_ne (tgt := 36) dX8_acts_23 (by decide) (fun zq => absurd h4 zq) (fun q23 => ?_)
  refine go_aload_n dX8_acts_26 rfl ?_
  refine go_get dX8_acts_27 fX8_30 rfl rfl ?_
  refine go_get dX8_acts_30 fX8_128 rfl rfl ?_
  refine go_goto (tgt := 43) dX8_acts_33 (by decide) ?_
  refine go_iret dX8_acts_43 rfl rfl ?_
  exact ⟨rfl, rfl⟩
set_option maxRecDepth 100000 in
set_option maxHeartbeats 4000000 in
theorem rX8_acts_4 {E : gE} {d : Nat} {nw i0 i1 : WorldS} {lv : LivesS} {pl : PlanS} {mt : MatS} {nt : NetS} {m : ModS} {S : Nat → Int32} {c : Nat} {w : Int32} (hc : c ≤ 60) (h1 : isInB w 0 1 = true) (h3 : canB nw lv S c = true) (h4 : ¬ w = 0) : Ret E yX8_acts cX8_acts 2 (some .int) (d + 7) 0 0 [.ref 0, .int w] (hp nw i0 i1 (S, nI c) lv pl mt nt m) (dt (some (.int (toldF nw lv S c).2.2.2.2.2.2)) (hp nw i0 i1 (S, nI c) (toldF nw lv S c) pl mt nt m)) := by
  refine ret_of_go (L := [_, _]) (by decide) (Nat.le_of_ble_eq_true rfl) rfl ?_
  refine go_iload_n dX8_acts_0 rfl ?_
  refine go_iconst (v := 0) dX8_acts_1 (by decide) ?_
  refine go_iconst (v := 1) dX8_acts_2 (by decide) ?_
  refine go_cS (as := [_, _, _]) dX8_acts_3 mX8_isIn kX8_55 tX8_isIn rfl rfl (rX8_isIn) rfl rfl rfl ?_
  refine go_bn_t (tgt := 12) dX8_acts_6 (by decide) h1 ?_
  refine go_aload_n dX8_acts_12 rfl ?_
  refine go_cV (as := []) dX8_acts_13 mX8_allCanBe kX8_110 iX8_allCanBe sX8_allCanBe rfl rfl rfl rfl (rX8_allCanBe hc) rfl rfl rfl ?_
  refine go_bn_t (tgt := 22) dX8_acts_16 (by decide) h3 ?_
  refine go_iload_n dX8_acts_22 rfl ?_
  refine go_if_ne (tgt := 36) dX8_acts_23 (by decide) (fun q23 => ?_) (fun zq => absurd zq h4)
  refine go_aload_n dX8_acts_36 rfl ?_
  refine go_get dX8_acts_37 fX8_30 rfl rfl ?_
  refine go_get dX8_acts_40 fX8_131 rfl rfl ?_
  refine go_iret dX8_acts_43 rfl rfl ?_
  exact ⟨rfl, rfl⟩
set_option maxRecDepth 100000 in
set_option maxHeartbeats 4000000 in
theorem rX8_owes_1 {E : gE} {d : Nat} {nw i0 i1 : WorldS} {pd : PadS} {lv : LivesS} {pl : PlanS} {mt : MatS} {nt : NetS} {m : ModS} {p q : Int32} (h1 : hasB nw.1.1 p = false) : Ret E yX8_owes cX8_owes 3 (some .int) (d + 2) 0 0 [.ref 0, .int p, .int q] (hp nw i0 i1 pd lv pl mt nt m) (dt (some (.int (-1))) (hp nw i0 i1 pd lv pl mt nt m)) := by
  refine ret_of_go (L := [_, _, _]) (by decide) (Nat.le_of_ble_eq_true rfl) rfl ?_
  refine go_aload_n dX8_owes_0 rfl ?_
  refine go_get dX8_owes_1 fX8_10 rfl rfl ?_
  refine go_get dX8_owes_4 fX8_59 rfl rfl ?_
  refine go_iload_n dX8_owes_7 rfl ?_
  refine go_cV (as := [_]) dX8_owes_8 mX1_has kX8_73 iX1_has sX1_has rfl rfl rfl rfl (rX1_has_n) rfl rfl rfl ?_
  refine go_be_f (tgt := 33) dX8_owes_11 (by decide) h1 ?_
  refine go_iconst (v := (-1)) dX8_owes_33 (by decide) ?_
  refine go_iret dX8_owes_34 rfl rfl ?_
  exact ⟨rfl, rfl⟩
set_option maxRecDepth 100000 in
set_option maxHeartbeats 4000000 in
theorem rX8_owes_2 {E : gE} {d : Nat} {nw i0 i1 : WorldS} {pd : PadS} {lv : LivesS} {pl : PlanS} {mt : MatS} {nt : NetS} {m : ModS} {p q : Int32} (h1 : hasB nw.1.1 p = true) (h2 : hasB nw.1.1 q = false) : Ret E yX8_owes cX8_owes 3 (some .int) (d + 2) 0 0 [.ref 0, .int p, .int q] (hp nw i0 i1 pd lv pl mt nt m) (dt (some (.int (-1))) (hp nw i0 i1 pd lv pl mt nt m)) := by
  refine ret_of_go (L := [_, _, _]) (by decide) (Nat.le_of_ble_eq_true rfl) rfl ?_
  refine go_aload_n dX8_owes_0 rfl ?_
  refine go_get dX8_owes_1 fX8_10 rfl rfl ?_
  refine go_get dX8_owes_4 fX8_59 rfl rfl ?_
  refine go_iload_n dX8_owes_7 rfl ?_
  refine go_cV (as := [_]) dX8_owes_8 mX1_has kX8_73 iX1_has sX1_has rfl rfl rfl rfl (rX1_has_n) rfl rfl rfl ?_
  refine go_be_t dX8_owes_11 h1 ?_
  refine go_aload_n dX8_owes_14 rfl ?_
  refine go_get dX8_owes_15 fX8_10 rfl rfl ?_
  refine go_get dX8_owes_18 fX8_59 rfl rfl ?_
  refine go_iload_n dX8_owes_21 rfl ?_
  refine go_cV (as := [_]) dX8_owes_22 mX1_has kX8_73 iX1_has sX1_has rfl rfl rfl rfl (rX1_has_n) rfl rfl rfl ?_
  refine go_be_f (tgt := 33) dX8_owes_25 (by decide) h2 ?_
  refine go_iconst (v := (-1)) dX8_owes_33 (by decide) ?_
  refine go_iret dX8_owes_34 rfl rfl ?_
  exact ⟨rfl, rfl⟩
set_option maxRecDepth 100000 in
set_option maxHeartbeats 4000000 in
theorem rX8_owes_3 {E : gE} {d : Nat} {nw i0 i1 : WorldS} {pd : PadS} {lv : LivesS} {pl : PlanS} {mt : MatS} {nt : NetS} {m : ModS} {p q : Int32} (h1 : hasB nw.1.1 p = true) (h2 : hasB nw.1.1 q = true) (h3 : p = q) : Ret E yX8_owes cX8_owes 3 (some .int) (d + 2) 0 0 [.ref 0, .int p, .int q] (hp nw i0 i1 pd lv pl mt nt m) (dt (some (.int (-1))) (hp nw i0 i1 pd lv pl mt nt m)) := by
  refine ret_of_go (L := [_, _, _]) (by decide) (Nat.le_of_ble_eq_true rfl) rfl ?_
  refine go_aload_n dX8_owes_0 rfl ?_
  refine go_get dX8_owes_1 fX8_10 rfl rfl ?_
  refine go_get dX8_owes_4 fX8_59 rfl rfl ?_
  refine go_iload_n dX8_owes_7 rfl ?_
  refine go_cV (as := [_]) dX8_owes_8 mX1_has kX8_73 iX1_has sX1_has rfl rfl rfl rfl (rX1_has_n) rfl rfl rfl ?_
  refine go_be_t dX8_owes_11 h1 ?_
  refine go_aload_n dX8_owes_14 rfl ?_
  refine go_get dX8_owes_15 fX8_10 rfl rfl ?_
  refine go_get dX8_owes_18 fX8_59 rfl rfl ?_
  refine go_iload_n dX8_owes_21 rfl ?_
  refine go_cV (as := [_]) dX8_owes_22 mX1_has kX8_73 iX1_has sX1_has rfl rfl rfl rfl (rX1_has_n) rfl rfl rfl ?_
  refine go_be_t dX8_owes_25 h2 ?_
  refine go_iload_n dX8_owes_28 rfl ?_
  refine go_iload_n dX8_owes_29 rfl ?_
  refine go_icmp_ne (tgt := 35) dX8_owes_30 (by decide) (fun zq => absurd h3 zq) (fun q30 => ?_)
  refine go_iconst (v := (-1)) dX8_owes_33 (by decide) ?_
  refine go_iret dX8_owes_34 rfl rfl ?_
  exact ⟨rfl, rfl⟩
set_option maxRecDepth 100000 in
set_option maxHeartbeats 4000000 in
theorem rX8_owes_4 {E : gE} {d : Nat} {nw i0 i1 : WorldS} {pd : PadS} {lv : LivesS} {pl : PlanS} {mt : MatS} {nt : NetS} {m : ModS} {a b : Nat} (ha : a < 6) (hb : b < 6) (h1 : hasB nw.1.1 (nI a) = true) (h2 : hasB nw.1.1 (nI b) = true) (h3 : ¬ nI a = nI b) : Ret E yX8_owes cX8_owes 3 (some .int) (d + 2) 0 0 [.ref 0, .int (nI a), .int (nI b)] (hp nw i0 i1 pd lv pl mt nt m) (dt (some (.int (fd nw.1 (a * 6 + b)))) (hp nw i0 i1 pd lv pl mt nt m)) := by
  refine ret_of_go (L := [_, _, _]) (by decide) (Nat.le_of_ble_eq_true rfl) rfl ?_
  refine go_aload_n dX8_owes_0 rfl ?_
  refine go_get dX8_owes_1 fX8_10 rfl rfl ?_
  refine go_get dX8_owes_4 fX8_59 rfl rfl ?_
  refine go_iload_n dX8_owes_7 rfl ?_
  refine go_cV (as := [_]) dX8_owes_8 mX1_has kX8_73 iX1_has sX1_has rfl rfl rfl rfl (rX1_has_n) rfl rfl rfl ?_
  refine go_be_t dX8_owes_11 h1 ?_
  refine go_aload_n dX8_owes_14 rfl ?_
  refine go_get dX8_owes_15 fX8_10 rfl rfl ?_
  refine go_get dX8_owes_18 fX8_59 rfl rfl ?_
  refine go_iload_n dX8_owes_21 rfl ?_
  refine go_cV (as := [_]) dX8_owes_22 mX1_has kX8_73 iX1_has sX1_has rfl rfl rfl rfl (rX1_has_n) rfl rfl rfl ?_
  refine go_be_t dX8_owes_25 h2 ?_
  refine go_iload_n dX8_owes_28 rfl ?_
  refine go_iload_n dX8_owes_29 rfl ?_
  refine go_icmp_ne (tgt := 35) dX8_owes_30 (by decide) (fun q30 => ?_) (fun zq => absurd zq h3)
  refine go_aload_n dX8_owes_35 rfl ?_
  refine go_get dX8_owes_36 fX8_10 rfl rfl ?_
  refine go_get dX8_owes_39 fX8_59 rfl rfl ?_
  refine go_iload_n dX8_owes_42 rfl ?_
  refine go_iload_n dX8_owes_43 rfl ?_
  refine go_cV (as := [_, _]) dX8_owes_44 mX1_debt kX8_134 iX1_debt sX1_debt rfl rfl rfl rfl (rX1_debt_n ha hb) rfl rfl rfl ?_
  refine go_iret dX8_owes_47 rfl rfl ?_
  exact ⟨rfl, rfl⟩
set_option maxRecDepth 100000 in
set_option maxHeartbeats 4000000 in
theorem rX8_who_1 {E : gE} {d : Nat} {nw i0 i1 : WorldS} {pd : PadS} {lv : LivesS} {pl : PlanS} {mt : MatS} {nt : NetS} {m : ModS} {w : Int32} (h1 : isInB w 0 1 = false) : Ret E yX8_who cX8_who 2 (some .int) (d + 1) 0 0 [.ref 0, .int w] (hp nw i0 i1 pd lv pl mt nt m) (dt (some (.int (-2))) (hp nw i0 i1 pd lv pl mt nt m)) := by
  refine ret_of_go (L := [_, _]) (by decide) (Nat.le_of_ble_eq_true rfl) rfl ?_
  refine go_iload_n dX8_who_0 rfl ?_
  refine go_iconst (v := 0) dX8_who_1 (by decide) ?_
  refine go_iconst (v := 1) dX8_who_2 (by decide) ?_
  refine go_cS (as := [_, _, _]) dX8_who_3 mX8_isIn kX8_55 tX8_isIn rfl rfl (rX8_isIn) rfl rfl rfl ?_
  refine go_bn_f dX8_who_6 h1 ?_
  refine go_bipush (v := (-2)) dX8_who_9 (by decide) ?_
  refine go_iret dX8_who_11 rfl rfl ?_
  exact ⟨rfl, rfl⟩
set_option maxRecDepth 100000 in
set_option maxHeartbeats 4000000 in
theorem rX8_who_2 {E : gE} {d : Nat} {nw i0 i1 : WorldS} {pd : PadS} {lv : LivesS} {pl : PlanS} {mt : MatS} {nt : NetS} {m : ModS} {w : Int32} (h1 : isInB w 0 1 = true) (h2 : w = 0) : Ret E yX8_who cX8_who 2 (some .int) (d + 3) 0 0 [.ref 0, .int w] (hp nw i0 i1 pd lv pl mt nt m) (dt (some (.int (richF nw.1 6).1)) (hp nw i0 i1 pd lv pl mt nt m)) := by
  refine ret_of_go (L := [_, _]) (by decide) (Nat.le_of_ble_eq_true rfl) rfl ?_
  refine go_iload_n dX8_who_0 rfl ?_
  refine go_iconst (v := 0) dX8_who_1 (by decide) ?_
  refine go_iconst (v := 1) dX8_who_2 (by decide) ?_
  refine go_cS (as := [_, _, _]) dX8_who_3 mX8_isIn kX8_55 tX8_isIn rfl rfl (rX8_isIn) rfl rfl rfl ?_
  refine go_bn_t (tgt := 12) dX8_who_6 (by decide) h1 ?_
  refine go_iload_n dX8_who_12 rfl ?_
  refine go_if_ne (tgt := 29) dX8_who_13 (by decide) (fun zq => absurd h2 zq) (fun q13 => ?_)
  refine go_aload_n dX8_who_16 rfl ?_
  refine go_get dX8_who_17 fX8_10 rfl rfl ?_
  refine go_get dX8_who_20 fX8_59 rfl rfl ?_
  refine go_cV (as := []) dX8_who_23 mX1_richest kX8_137 iX1_richest sX1_richest rfl rfl rfl rfl (rX1_richest_n) rfl rfl rfl ?_
  refine go_goto (tgt := 39) dX8_who_26 (by decide) ?_
  refine go_iret dX8_who_39 rfl rfl ?_
  exact ⟨rfl, rfl⟩
set_option maxRecDepth 100000 in
set_option maxHeartbeats 4000000 in
theorem rX8_who_3 {E : gE} {d : Nat} {nw i0 i1 : WorldS} {pd : PadS} {lv : LivesS} {pl : PlanS} {mt : MatS} {nt : NetS} {m : ModS} {w : Int32} (h1 : isInB w 0 1 = true) (h2 : ¬ w = 0) : Ret E yX8_who cX8_who 2 (some .int) (d + 3) 0 0 [.ref 0, .int w] (hp nw i0 i1 pd lv pl mt nt m) (dt (some (.int (orB (honB nw.1) 6))) (hp nw i0 i1 pd lv pl mt nt m)) := by
  refine ret_of_go (L := [_, _]) (by decide) (Nat.le_of_ble_eq_true rfl) rfl ?_
  refine go_iload_n dX8_who_0 rfl ?_
  refine go_iconst (v := 0) dX8_who_1 (by decide) ?_
  refine go_iconst (v := 1) dX8_who_2 (by decide) ?_
  refine go_cS (as := [_, _, _]) dX8_who_3 mX8_isIn kX8_55 tX8_isIn rfl rfl (rX8_isIn) rfl rfl rfl ?_
  refine go_bn_t (tgt := 12) dX8_who_6 (by decide) h1 ?_
  refine go_iload_n dX8_who_12 rfl ?_
  refine go_if_ne (tgt := 29) dX8_who_13 (by decide) (fun q13 => ?_) (fun zq => absurd zq h2)
  refine go_aload_n dX8_who_29 rfl ?_
  refine go_get dX8_who_30 fX8_10 rfl rfl ?_
  refine go_get dX8_who_33 fX8_59 rfl rfl ?_
  refine go_cV (as := []) dX8_who_36 mX1_honest kX8_140 iX1_honest sX1_honest rfl rfl rfl rfl (rX1_honest_n) rfl rfl rfl ?_
  refine go_iret dX8_who_39 rfl rfl ?_
  exact ⟨rfl, rfl⟩
