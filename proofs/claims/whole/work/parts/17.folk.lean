def isInB (v lo hi : Int32) : Bool := decide (lo ≤ v) && decide (v ≤ hi)
set_option maxRecDepth 100000 in
set_option maxHeartbeats 4000000 in
theorem rX8_isIn {E : gE} {d : Nat} {v lo hi : Int32} {h : gH} : Ret E yX8_isIn cX8_isIn 3 (some .boolean) d 0 0 [.int v, .int lo, .int hi] h (dt (some (.int (b2i (isInB v lo hi)))) h) := by
  refine ret_of_go (L := [_, _, _]) (by decide) (Nat.le_of_ble_eq_true rfl) rfl ?_
  refine go_iload_n dX8_isIn_0 rfl ?_
  refine go_iload_n dX8_isIn_1 rfl ?_
  refine go_icmp_lt (tgt := 14) dX8_isIn_2 (by decide) (fun q2 => ?_) (fun q2 => ?_)
  · refine go_iconst (v := 0) dX8_isIn_14 (by decide) ?_
    refine go_zret dX8_isIn_15 (by decide) rfl rfl ?_
    refine ⟨?_, rfl⟩
    simp only [isInB, Int32.le_iff_toInt_le, Int32.lt_iff_toInt_lt] at *
    simp [b2i]
    try omega
  · refine go_iload_n dX8_isIn_5 rfl ?_
    refine go_iload_n dX8_isIn_6 rfl ?_
    refine go_icmp_gt (tgt := 14) dX8_isIn_7 (by decide) (fun q7 => ?_) (fun q7 => ?_)
    · refine go_iconst (v := 0) dX8_isIn_14 (by decide) ?_
      refine go_zret dX8_isIn_15 (by decide) rfl rfl ?_
      refine ⟨?_, rfl⟩
      simp only [isInB, Int32.le_iff_toInt_le, Int32.lt_iff_toInt_lt] at *
      simp [b2i]
      try omega
    · refine go_iconst (v := 1) dX8_isIn_10 (by decide) ?_
      refine go_goto (tgt := 15) dX8_isIn_11 (by decide) ?_
      refine go_zret dX8_isIn_15 (by decide) rfl rfl ?_
      refine ⟨?_, rfl⟩
      simp only [isInB, Int32.le_iff_toInt_le, Int32.lt_iff_toInt_lt] at *
      simp [b2i]
      try omega
def ush (a b : Int32) : Int32 := (a.toUInt32 >>> (b.toUInt32 &&& Int32.toUInt32 31)).toInt32
def bcF (x : Int32) : Int32 :=
  let a := x - (ush x 1 &&& 1431655765)
  let b := (a &&& 858993459) + (ush a 2 &&& 858993459)
  let c := (b + ush b 4) &&& 252645135
  let d := c + ush c 8
  let e := d + ush d 16
  e &&& 63
set_option maxRecDepth 100000 in
set_option maxHeartbeats 4000000 in
theorem rJ6_bitCount_0f7a4 {E : gE} {d : Nat} {x : Int32} {h : gH} : Ret E yJ6_bitCount_0f7a4 cJ6_bitCount_0f7a4 1 (some .int) d 0 0 [.int x] h (dt (some (.int (bcF x))) h) := by
  refine ret_of_go (L := [_]) (by decide) (Nat.le_of_ble_eq_true rfl) rfl ?_
  refine go_iload_n dJ6_bitCount_0f7a4_0 rfl ?_
  refine go_iload_n dJ6_bitCount_0f7a4_1 rfl ?_
  refine go_iconst (v := 1) dJ6_bitCount_0f7a4_2 (by decide) ?_
  refine go_iushr dJ6_bitCount_0f7a4_3 ?_
  refine go_ldc_w dJ6_bitCount_0f7a4_4 nJ6_265 ?_
  refine go_iand dJ6_bitCount_0f7a4_7 ?_
  refine go_isub dJ6_bitCount_0f7a4_8 ?_
  refine go_istore_n (L' := [_]) dJ6_bitCount_0f7a4_9 rfl rfl rfl ?_
  refine go_iload_n dJ6_bitCount_0f7a4_10 rfl ?_
  refine go_ldc_w dJ6_bitCount_0f7a4_11 nJ6_266 ?_
  refine go_iand dJ6_bitCount_0f7a4_14 ?_
  refine go_iload_n dJ6_bitCount_0f7a4_15 rfl ?_
  refine go_iconst (v := 2) dJ6_bitCount_0f7a4_16 (by decide) ?_
  refine go_iushr dJ6_bitCount_0f7a4_17 ?_
  refine go_ldc_w dJ6_bitCount_0f7a4_18 nJ6_266 ?_
  refine go_iand dJ6_bitCount_0f7a4_21 ?_
  refine go_iadd dJ6_bitCount_0f7a4_22 ?_
  refine go_istore_n (L' := [_]) dJ6_bitCount_0f7a4_23 rfl rfl rfl ?_
  refine go_iload_n dJ6_bitCount_0f7a4_24 rfl ?_
  refine go_iload_n dJ6_bitCount_0f7a4_25 rfl ?_
  refine go_iconst (v := 4) dJ6_bitCount_0f7a4_26 (by decide) ?_
  refine go_iushr dJ6_bitCount_0f7a4_27 ?_
  refine go_iadd dJ6_bitCount_0f7a4_28 ?_
  refine go_ldc_w dJ6_bitCount_0f7a4_29 nJ6_267 ?_
  refine go_iand dJ6_bitCount_0f7a4_32 ?_
  refine go_istore_n (L' := [_]) dJ6_bitCount_0f7a4_33 rfl rfl rfl ?_
  refine go_iload_n dJ6_bitCount_0f7a4_34 rfl ?_
  refine go_iload_n dJ6_bitCount_0f7a4_35 rfl ?_
  refine go_bipush (v := 8) dJ6_bitCount_0f7a4_36 (by decide) ?_
  refine go_iushr dJ6_bitCount_0f7a4_38 ?_
  refine go_iadd dJ6_bitCount_0f7a4_39 ?_
  refine go_istore_n (L' := [_]) dJ6_bitCount_0f7a4_40 rfl rfl rfl ?_
  refine go_iload_n dJ6_bitCount_0f7a4_41 rfl ?_
  refine go_iload_n dJ6_bitCount_0f7a4_42 rfl ?_
  refine go_bipush (v := 16) dJ6_bitCount_0f7a4_43 (by decide) ?_
  refine go_iushr dJ6_bitCount_0f7a4_45 ?_
  refine go_iadd dJ6_bitCount_0f7a4_46 ?_
  refine go_istore_n (L' := [_]) dJ6_bitCount_0f7a4_47 rfl rfl rfl ?_
  refine go_iload_n dJ6_bitCount_0f7a4_48 rfl ?_
  refine go_bipush (v := 63) dJ6_bitCount_0f7a4_49 (by decide) ?_
  refine go_iand dJ6_bitCount_0f7a4_51 ?_
  refine go_iret dJ6_bitCount_0f7a4_52 rfl rfl ?_
  exact ⟨rfl, rfl⟩
def ntF4 (n i : Int32) : Int32 := n + ush i 1
def ntF3 (n i : Int32) : Int32 := if i ≤ 4 then ntF4 n i else ntF4 (n + 2) (ush i 2)
def ntF2 (n i : Int32) : Int32 := if i ≤ 16 then ntF3 n i else ntF3 (n + 4) (ush i 4)
def ntF1 (n i : Int32) : Int32 := if i ≤ 256 then ntF2 n i else ntF2 (n + 8) (ush i 8)
def ntF0 (n i : Int32) : Int32 := if i ≤ 65536 then ntF1 n i else ntF1 (n + 16) (ush i 16)
def ntF (x : Int32) : Int32 := if 0 < ((x ^^^ (-1)) &&& (x - 1)) then ntF0 1 ((x ^^^ (-1)) &&& (x - 1)) else ((x ^^^ (-1)) &&& (x - 1)) &&& 32
set_option maxRecDepth 100000 in
set_option maxHeartbeats 4000000 in
theorem rJ6_numberOfTrailingZeros_0f7a4 {E : gE} {d : Nat} {x : Int32} {h : gH} : Ret E yJ6_numberOfTrailingZeros_0f7a4 cJ6_numberOfTrailingZeros_0f7a4 2 (some .int) d 0 0 [.int x] h (dt (some (.int (ntF x))) h) := by
  refine ret_of_go (L := [_, _]) (by decide) (Nat.le_of_ble_eq_true rfl) rfl ?_
  refine go_iload_n dJ6_numberOfTrailingZeros_0f7a4_0 rfl ?_
  refine go_iconst (v := (-1)) dJ6_numberOfTrailingZeros_0f7a4_1 (by decide) ?_
  refine go_ixor dJ6_numberOfTrailingZeros_0f7a4_2 ?_
  refine go_iload_n dJ6_numberOfTrailingZeros_0f7a4_3 rfl ?_
  refine go_iconst (v := 1) dJ6_numberOfTrailingZeros_0f7a4_4 (by decide) ?_
  refine go_isub dJ6_numberOfTrailingZeros_0f7a4_5 ?_
  refine go_iand dJ6_numberOfTrailingZeros_0f7a4_6 ?_
  refine go_istore_n (L' := [_, _]) dJ6_numberOfTrailingZeros_0f7a4_7 rfl rfl rfl ?_
  refine go_iload_n dJ6_numberOfTrailingZeros_0f7a4_8 rfl ?_
  refine go_if_gt (tgt := 17) dJ6_numberOfTrailingZeros_0f7a4_9 (by decide) (fun q9 => ?_) (fun q9 => ?_)
  · refine go_iconst (v := 1) dJ6_numberOfTrailingZeros_0f7a4_17 (by decide) ?_
    refine go_istore_n (L' := [_, _]) dJ6_numberOfTrailingZeros_0f7a4_18 rfl rfl rfl ?_
    refine go_iload_n dJ6_numberOfTrailingZeros_0f7a4_19 rfl ?_
    refine go_ldc_w dJ6_numberOfTrailingZeros_0f7a4_20 nJ6_264 ?_
    refine go_icmp_le (tgt := 34) dJ6_numberOfTrailingZeros_0f7a4_23 (by decide) (fun q23 => ?_) (fun q23 => ?_)
    · refine go_iload_n dJ6_numberOfTrailingZeros_0f7a4_34 rfl ?_
      refine go_sipush (v := 256) dJ6_numberOfTrailingZeros_0f7a4_35 (by decide) ?_
      refine go_icmp_le (tgt := 49) dJ6_numberOfTrailingZeros_0f7a4_38 (by decide) (fun q38 => ?_) (fun q38 => ?_)
      · refine go_iload_n dJ6_numberOfTrailingZeros_0f7a4_49 rfl ?_
        refine go_bipush (v := 16) dJ6_numberOfTrailingZeros_0f7a4_50 (by decide) ?_
        refine go_icmp_le (tgt := 62) dJ6_numberOfTrailingZeros_0f7a4_52 (by decide) (fun q52 => ?_) (fun q52 => ?_)
        · refine go_iload_n dJ6_numberOfTrailingZeros_0f7a4_62 rfl ?_
          refine go_iconst (v := 4) dJ6_numberOfTrailingZeros_0f7a4_63 (by decide) ?_
          refine go_icmp_le (tgt := 74) dJ6_numberOfTrailingZeros_0f7a4_64 (by decide) (fun q64 => ?_) (fun q64 => ?_)
          · refine go_iload_n dJ6_numberOfTrailingZeros_0f7a4_74 rfl ?_
            refine go_iload_n dJ6_numberOfTrailingZeros_0f7a4_75 rfl ?_
            refine go_iconst (v := 1) dJ6_numberOfTrailingZeros_0f7a4_76 (by decide) ?_
            refine go_iushr dJ6_numberOfTrailingZeros_0f7a4_77 ?_
            refine go_iadd dJ6_numberOfTrailingZeros_0f7a4_78 ?_
            refine go_iret dJ6_numberOfTrailingZeros_0f7a4_79 rfl rfl ?_
            exact ⟨by simp only [ntF, ntF0, ntF1, ntF2, ntF3, ntF4, ush, *, if_true, if_false] <;> rfl, rfl⟩
          · refine go_iinc (L' := [_, _]) dJ6_numberOfTrailingZeros_0f7a4_67 rfl rfl rfl rfl rfl ?_
            refine go_iload_n dJ6_numberOfTrailingZeros_0f7a4_70 rfl ?_
            refine go_iconst (v := 2) dJ6_numberOfTrailingZeros_0f7a4_71 (by decide) ?_
            refine go_iushr dJ6_numberOfTrailingZeros_0f7a4_72 ?_
            refine go_istore_n (L' := [_, _]) dJ6_numberOfTrailingZeros_0f7a4_73 rfl rfl rfl ?_
            refine go_iload_n dJ6_numberOfTrailingZeros_0f7a4_74 rfl ?_
            refine go_iload_n dJ6_numberOfTrailingZeros_0f7a4_75 rfl ?_
            refine go_iconst (v := 1) dJ6_numberOfTrailingZeros_0f7a4_76 (by decide) ?_
            refine go_iushr dJ6_numberOfTrailingZeros_0f7a4_77 ?_
            refine go_iadd dJ6_numberOfTrailingZeros_0f7a4_78 ?_
            refine go_iret dJ6_numberOfTrailingZeros_0f7a4_79 rfl rfl ?_
            exact ⟨by simp only [ntF, ntF0, ntF1, ntF2, ntF3, ntF4, ush, *, if_true, if_false] <;> rfl, rfl⟩
        · refine go_iinc (L' := [_, _]) dJ6_numberOfTrailingZeros_0f7a4_55 rfl rfl rfl rfl rfl ?_
          refine go_iload_n dJ6_numberOfTrailingZeros_0f7a4_58 rfl ?_
          refine go_iconst (v := 4) dJ6_numberOfTrailingZeros_0f7a4_59 (by decide) ?_
          refine go_iushr dJ6_numberOfTrailingZeros_0f7a4_60 ?_
          refine go_istore_n (L' := [_, _]) dJ6_numberOfTrailingZeros_0f7a4_61 rfl rfl rfl ?_
          refine go_iload_n dJ6_numberOfTrailingZeros_0f7a4_62 rfl ?_
          refine go_iconst (v := 4) dJ6_numberOfTrailingZeros_0f7a4_63 (by decide) ?_
          refine go_icmp_le (tgt := 74) dJ6_numberOfTrailingZeros_0f7a4_64 (by decide) (fun q64 => ?_) (fun q64 => ?_)
          · refine go_iload_n dJ6_numberOfTrailingZeros_0f7a4_74 rfl ?_
            refine go_iload_n dJ6_numberOfTrailingZeros_0f7a4_75 rfl ?_
            refine go_iconst (v := 1) dJ6_numberOfTrailingZeros_0f7a4_76 (by decide) ?_
            refine go_iushr dJ6_numberOfTrailingZeros_0f7a4_77 ?_
            refine go_iadd dJ6_numberOfTrailingZeros_0f7a4_78 ?_
            refine go_iret dJ6_numberOfTrailingZeros_0f7a4_79 rfl rfl ?_
            exact ⟨by simp only [ntF, ntF0, ntF1, ntF2, ntF3, ntF4, ush, *, if_true, if_false] <;> rfl, rfl⟩
          · refine go_iinc (L' := [_, _]) dJ6_numberOfTrailingZeros_0f7a4_67 rfl rfl rfl rfl rfl ?_
            refine go_iload_n dJ6_numberOfTrailingZeros_0f7a4_70 rfl ?_
            refine go_iconst (v := 2) dJ6_numberOfTrailingZeros_0f7a4_71 (by decide) ?_
            refine go_iushr dJ6_numberOfTrailingZeros_0f7a4_72 ?_
            refine go_istore_n (L' := [_, _]) dJ6_numberOfTrailingZeros_0f7a4_73 rfl rfl rfl ?_
            refine go_iload_n dJ6_numberOfTrailingZeros_0f7a4_74 rfl ?_
            refine go_iload_n dJ6_numberOfTrailingZeros_0f7a4_75 rfl ?_
            refine go_iconst (v := 1) dJ6_numberOfTrailingZeros_0f7a4_76 (by decide) ?_
            refine go_iushr dJ6_numberOfTrailingZeros_0f7a4_77 ?_
            refine go_iadd dJ6_numberOfTrailingZeros_0f7a4_78 ?_
            refine go_iret dJ6_numberOfTrailingZeros_0f7a4_79 rfl rfl ?_
            exact ⟨by simp only [ntF, ntF0, ntF1, ntF2, ntF3, ntF4, ush, *, if_true, if_false] <;> rfl, rfl⟩
      · refine go_iinc (L' := [_, _]) dJ6_numberOfTrailingZeros_0f7a4_41 rfl rfl rfl rfl rfl ?_
        refine go_iload_n dJ6_numberOfTrailingZeros_0f7a4_44 rfl ?_
        refine go_bipush (v := 8) dJ6_numberOfTrailingZeros_0f7a4_45 (by decide) ?_
        refine go_iushr dJ6_numberOfTrailingZeros_0f7a4_47 ?_
        refine go_istore_n (L' := [_, _]) dJ6_numberOfTrailingZeros_0f7a4_48 rfl rfl rfl ?_
        refine go_iload_n dJ6_numberOfTrailingZeros_0f7a4_49 rfl ?_
        refine go_bipush (v := 16) dJ6_numberOfTrailingZeros_0f7a4_50 (by decide) ?_
        refine go_icmp_le (tgt := 62) dJ6_numberOfTrailingZeros_0f7a4_52 (by decide) (fun q52 => ?_) (fun q52 => ?_)
        · refine go_iload_n dJ6_numberOfTrailingZeros_0f7a4_62 rfl ?_
          refine go_iconst (v := 4) dJ6_numberOfTrailingZeros_0f7a4_63 (by decide) ?_
          refine go_icmp_le (tgt := 74) dJ6_numberOfTrailingZeros_0f7a4_64 (by decide) (fun q64 => ?_) (fun q64 => ?_)
          · refine go_iload_n dJ6_numberOfTrailingZeros_0f7a4_74 rfl ?_
            refine go_iload_n dJ6_numberOfTrailingZeros_0f7a4_75 rfl ?_
            refine go_iconst (v := 1) dJ6_numberOfTrailingZeros_0f7a4_76 (by decide) ?_
            refine go_iushr dJ6_numberOfTrailingZeros_0f7a4_77 ?_
            refine go_iadd dJ6_numberOfTrailingZeros_0f7a4_78 ?_
            refine go_iret dJ6_numberOfTrailingZeros_0f7a4_79 rfl rfl ?_
            exact ⟨by simp only [ntF, ntF0, ntF1, ntF2, ntF3, ntF4, ush, *, if_true, if_false] <;> rfl, rfl⟩
          · refine go_iinc (L' := [_, _]) dJ6_numberOfTrailingZeros_0f7a4_67 rfl rfl rfl rfl rfl ?_
            refine go_iload_n dJ6_numberOfTrailingZeros_0f7a4_70 rfl ?_
            refine go_iconst (v := 2) dJ6_numberOfTrailingZeros_0f7a4_71 (by decide) ?_
            refine go_iushr dJ6_numberOfTrailingZeros_0f7a4_72 ?_
            refine go_istore_n (L' := [_, _]) dJ6_numberOfTrailingZeros_0f7a4_73 rfl rfl rfl ?_
            refine go_iload_n dJ6_numberOfTrailingZeros_0f7a4_74 rfl ?_
            refine go_iload_n dJ6_numberOfTrailingZeros_0f7a4_75 rfl ?_
            refine go_iconst (v := 1) dJ6_numberOfTrailingZeros_0f7a4_76 (by decide) ?_
            refine go_iushr dJ6_numberOfTrailingZeros_0f7a4_77 ?_
            refine go_iadd dJ6_numberOfTrailingZeros_0f7a4_78 ?_
            refine go_iret dJ6_numberOfTrailingZeros_0f7a4_79 rfl rfl ?_
            exact ⟨by simp only [ntF, ntF0, ntF1, ntF2, ntF3, ntF4, ush, *, if_true, if_false] <;> rfl, rfl⟩
        · refine go_iinc (L' := [_, _]) dJ6_numberOfTrailingZeros_0f7a4_55 rfl rfl rfl rfl rfl ?_
          refine go_iload_n dJ6_numberOfTrailingZeros_0f7a4_58 rfl ?_
          refine go_iconst (v := 4) dJ6_numberOfTrailingZeros_0f7a4_59 (by decide) ?_
          refine go_iushr dJ6_numberOfTrailingZeros_0f7a4_60 ?_
          refine go_istore_n (L' := [_, _]) dJ6_numberOfTrailingZeros_0f7a4_61 rfl rfl rfl ?_
          refine go_iload_n dJ6_numberOfTrailingZeros_0f7a4_62 rfl ?_
          refine go_iconst (v := 4) dJ6_numberOfTrailingZeros_0f7a4_63 (by decide) ?_
          refine go_icmp_le (tgt := 74) dJ6_numberOfTrailingZeros_0f7a4_64 (by decide) (fun q64 => ?_) (fun q64 => ?_)
          · refine go_iload_n dJ6_numberOfTrailingZeros_0f7a4_74 rfl ?_
            refine go_iload_n dJ6_numberOfTrailingZeros_0f7a4_75 rfl ?_
            refine go_iconst (v := 1) dJ6_numberOfTrailingZeros_0f7a4_76 (by decide) ?_
            refine go_iushr dJ6_numberOfTrailingZeros_0f7a4_77 ?_
            refine go_iadd dJ6_numberOfTrailingZeros_0f7a4_78 ?_
            refine go_iret dJ6_numberOfTrailingZeros_0f7a4_79 rfl rfl ?_
            exact ⟨by simp only [ntF, ntF0, ntF1, ntF2, ntF3, ntF4, ush, *, if_true, if_false] <;> rfl, rfl⟩
          · refine go_iinc (L' := [_, _]) dJ6_numberOfTrailingZeros_0f7a4_67 rfl rfl rfl rfl rfl ?_
            refine go_iload_n dJ6_numberOfTrailingZeros_0f7a4_70 rfl ?_
            refine go_iconst (v := 2) dJ6_numberOfTrailingZeros_0f7a4_71 (by decide) ?_
            refine go_iushr dJ6_numberOfTrailingZeros_0f7a4_72 ?_
            refine go_istore_n (L' := [_, _]) dJ6_numberOfTrailingZeros_0f7a4_73 rfl rfl rfl ?_
            refine go_iload_n dJ6_numberOfTrailingZeros_0f7a4_74 rfl ?_
            refine go_iload_n dJ6_numberOfTrailingZeros_0f7a4_75 rfl ?_
            refine go_iconst (v := 1) dJ6_numberOfTrailingZeros_0f7a4_76 (by decide) ?_
            refine go_iushr dJ6_numberOfTrailingZeros_0f7a4_77 ?_
            refine go_iadd dJ6_numberOfTrailingZeros_0f7a4_78 ?_
            refine go_iret dJ6_numberOfTrailingZeros_0f7a4_79 rfl rfl ?_
            exact ⟨by simp only [ntF, ntF0, ntF1, ntF2, ntF3, ntF4, ush, *, if_true, if_false] <;> rfl, rfl⟩
    · refine go_iinc (L' := [_, _]) dJ6_numberOfTrailingZeros_0f7a4_26 rfl rfl rfl rfl rfl ?_
      refine go_iload_n dJ6_numberOfTrailingZeros_0f7a4_29 rfl ?_
      refine go_bipush (v := 16) dJ6_numberOfTrailingZeros_0f7a4_30 (by decide) ?_
      refine go_iushr dJ6_numberOfTrailingZeros_0f7a4_32 ?_
      refine go_istore_n (L' := [_, _]) dJ6_numberOfTrailingZeros_0f7a4_33 rfl rfl rfl ?_
      refine go_iload_n dJ6_numberOfTrailingZeros_0f7a4_34 rfl ?_
      refine go_sipush (v := 256) dJ6_numberOfTrailingZeros_0f7a4_35 (by decide) ?_
      refine go_icmp_le (tgt := 49) dJ6_numberOfTrailingZeros_0f7a4_38 (by decide) (fun q38 => ?_) (fun q38 => ?_)
      · refine go_iload_n dJ6_numberOfTrailingZeros_0f7a4_49 rfl ?_
        refine go_bipush (v := 16) dJ6_numberOfTrailingZeros_0f7a4_50 (by decide) ?_
        refine go_icmp_le (tgt := 62) dJ6_numberOfTrailingZeros_0f7a4_52 (by decide) (fun q52 => ?_) (fun q52 => ?_)
        · refine go_iload_n dJ6_numberOfTrailingZeros_0f7a4_62 rfl ?_
          refine go_iconst (v := 4) dJ6_numberOfTrailingZeros_0f7a4_63 (by decide) ?_
          refine go_icmp_le (tgt := 74) dJ6_numberOfTrailingZeros_0f7a4_64 (by decide) (fun q64 => ?_) (fun q64 => ?_)
          · refine go_iload_n dJ6_numberOfTrailingZeros_0f7a4_74 rfl ?_
            refine go_iload_n dJ6_numberOfTrailingZeros_0f7a4_75 rfl ?_
            refine go_iconst (v := 1) dJ6_numberOfTrailingZeros_0f7a4_76 (by decide) ?_
            refine go_iushr dJ6_numberOfTrailingZeros_0f7a4_77 ?_
            refine go_iadd dJ6_numberOfTrailingZeros_0f7a4_78 ?_
            refine go_iret dJ6_numberOfTrailingZeros_0f7a4_79 rfl rfl ?_
            exact ⟨by simp only [ntF, ntF0, ntF1, ntF2, ntF3, ntF4, ush, *, if_true, if_false] <;> rfl, rfl⟩
          · refine go_iinc (L' := [_, _]) dJ6_numberOfTrailingZeros_0f7a4_67 rfl rfl rfl rfl rfl ?_
            refine go_iload_n dJ6_numberOfTrailingZeros_0f7a4_70 rfl ?_
            refine go_iconst (v := 2) dJ6_numberOfTrailingZeros_0f7a4_71 (by decide) ?_
            refine go_iushr dJ6_numberOfTrailingZeros_0f7a4_72 ?_
            refine go_istore_n (L' := [_, _]) dJ6_numberOfTrailingZeros_0f7a4_73 rfl rfl rfl ?_
            refine go_iload_n dJ6_numberOfTrailingZeros_0f7a4_74 rfl ?_
            refine go_iload_n dJ6_numberOfTrailingZeros_0f7a4_75 rfl ?_
            refine go_iconst (v := 1) dJ6_numberOfTrailingZeros_0f7a4_76 (by decide) ?_
            refine go_iushr dJ6_numberOfTrailingZeros_0f7a4_77 ?_
            refine go_iadd dJ6_numberOfTrailingZeros_0f7a4_78 ?_
            refine go_iret dJ6_numberOfTrailingZeros_0f7a4_79 rfl rfl ?_
            exact ⟨by simp only [ntF, ntF0, ntF1, ntF2, ntF3, ntF4, ush, *, if_true, if_false] <;> rfl, rfl⟩
        · refine go_iinc (L' := [_, _]) dJ6_numberOfTrailingZeros_0f7a4_55 rfl rfl rfl rfl rfl ?_
          refine go_iload_n dJ6_numberOfTrailingZeros_0f7a4_58 rfl ?_
          refine go_iconst (v := 4) dJ6_numberOfTrailingZeros_0f7a4_59 (by decide) ?_
          refine go_iushr dJ6_numberOfTrailingZeros_0f7a4_60 ?_
          refine go_istore_n (L' := [_, _]) dJ6_numberOfTrailingZeros_0f7a4_61 rfl rfl rfl ?_
          refine go_iload_n dJ6_numberOfTrailingZeros_0f7a4_62 rfl ?_
          refine go_iconst (v := 4) dJ6_numberOfTrailingZeros_0f7a4_63 (by decide) ?_
          refine go_icmp_le (tgt := 74) dJ6_numberOfTrailingZeros_0f7a4_64 (by decide) (fun q64 => ?_) (fun q64 => ?_)
          · refine go_iload_n dJ6_numberOfTrailingZeros_0f7a4_74 rfl ?_
            refine go_iload_n dJ6_numberOfTrailingZeros_0f7a4_75 rfl ?_
            refine go_iconst (v := 1) dJ6_numberOfTrailingZeros_0f7a4_76 (by decide) ?_
            refine go_iushr dJ6_numberOfTrailingZeros_0f7a4_77 ?_
            refine go_iadd dJ6_numberOfTrailingZeros_0f7a4_78 ?_
            refine go_iret dJ6_numberOfTrailingZeros_0f7a4_79 rfl rfl ?_
            exact ⟨by simp only [ntF, ntF0, ntF1, ntF2, ntF3, ntF4, ush, *, if_true, if_false] <;> rfl, rfl⟩
          · refine go_iinc (L' := [_, _]) dJ6_numberOfTrailingZeros_0f7a4_67 rfl rfl rfl rfl rfl ?_
            refine go_iload_n dJ6_numberOfTrailingZeros_0f7a4_70 rfl ?_
            refine go_iconst (v := 2) dJ6_numberOfTrailingZeros_0f7a4_71 (by decide) ?_
            refine go_iushr dJ6_numberOfTrailingZeros_0f7a4_72 ?_
            refine go_istore_n (L' := [_, _]) dJ6_numberOfTrailingZeros_0f7a4_73 rfl rfl rfl ?_
            refine go_iload_n dJ6_numberOfTrailingZeros_0f7a4_74 rfl ?_
            refine go_iload_n dJ6_numberOfTrailingZeros_0f7a4_75 rfl ?_
            refine go_iconst (v := 1) dJ6_numberOfTrailingZeros_0f7a4_76 (by decide) ?_
            refine go_iushr dJ6_numberOfTrailingZeros_0f7a4_77 ?_
            refine go_iadd dJ6_numberOfTrailingZeros_0f7a4_78 ?_
            refine go_iret dJ6_numberOfTrailingZeros_0f7a4_79 rfl rfl ?_
            exact ⟨by simp only [ntF, ntF0, ntF1, ntF2, ntF3, ntF4, ush, *, if_true, if_false] <;> rfl, rfl⟩
      · refine go_iinc (L' := [_, _]) dJ6_numberOfTrailingZeros_0f7a4_41 rfl rfl rfl rfl rfl ?_
        refine go_iload_n dJ6_numberOfTrailingZeros_0f7a4_44 rfl ?_
        refine go_bipush (v := 8) dJ6_numberOfTrailingZeros_0f7a4_45 (by decide) ?_
        refine go_iushr dJ6_numberOfTrailingZeros_0f7a4_47 ?_
        refine go_istore_n (L' := [_, _]) dJ6_numberOfTrailingZeros_0f7a4_48 rfl rfl rfl ?_
        refine go_iload_n dJ6_numberOfTrailingZeros_0f7a4_49 rfl ?_
        refine go_bipush (v := 16) dJ6_numberOfTrailingZeros_0f7a4_50 (by decide) ?_
        refine go_icmp_le (tgt := 62) dJ6_numberOfTrailingZeros_0f7a4_52 (by decide) (fun q52 => ?_) (fun q52 => ?_)
        · refine go_iload_n dJ6_numberOfTrailingZeros_0f7a4_62 rfl ?_
          refine go_iconst (v := 4) dJ6_numberOfTrailingZeros_0f7a4_63 (by decide) ?_
          refine go_icmp_le (tgt := 74) dJ6_numberOfTrailingZeros_0f7a4_64 (by decide) (fun q64 => ?_) (fun q64 => ?_)
          · refine go_iload_n dJ6_numberOfTrailingZeros_0f7a4_74 rfl ?_
            refine go_iload_n dJ6_numberOfTrailingZeros_0f7a4_75 rfl ?_
            refine go_iconst (v := 1) dJ6_numberOfTrailingZeros_0f7a4_76 (by decide) ?_
            refine go_iushr dJ6_numberOfTrailingZeros_0f7a4_77 ?_
            refine go_iadd dJ6_numberOfTrailingZeros_0f7a4_78 ?_
            refine go_iret dJ6_numberOfTrailingZeros_0f7a4_79 rfl rfl ?_
            exact ⟨by simp only [ntF, ntF0, ntF1, ntF2, ntF3, ntF4, ush, *, if_true, if_false] <;> rfl, rfl⟩
          · refine go_iinc (L' := [_, _]) dJ6_numberOfTrailingZeros_0f7a4_67 rfl rfl rfl rfl rfl ?_
            refine go_iload_n dJ6_numberOfTrailingZeros_0f7a4_70 rfl ?_
            refine go_iconst (v := 2) dJ6_numberOfTrailingZeros_0f7a4_71 (by decide) ?_
            refine go_iushr dJ6_numberOfTrailingZeros_0f7a4_72 ?_
            refine go_istore_n (L' := [_, _]) dJ6_numberOfTrailingZeros_0f7a4_73 rfl rfl rfl ?_
            refine go_iload_n dJ6_numberOfTrailingZeros_0f7a4_74 rfl ?_
            refine go_iload_n dJ6_numberOfTrailingZeros_0f7a4_75 rfl ?_
            refine go_iconst (v := 1) dJ6_numberOfTrailingZeros_0f7a4_76 (by decide) ?_
            refine go_iushr dJ6_numberOfTrailingZeros_0f7a4_77 ?_
            refine go_iadd dJ6_numberOfTrailingZeros_0f7a4_78 ?_
            refine go_iret dJ6_numberOfTrailingZeros_0f7a4_79 rfl rfl ?_
            exact ⟨by simp only [ntF, ntF0, ntF1, ntF2, ntF3, ntF4, ush, *, if_true, if_false] <;> rfl, rfl⟩
        · refine go_iinc (L' := [_, _]) dJ6_numberOfTrailingZeros_0f7a4_55 rfl rfl rfl rfl rfl ?_
          refine go_iload_n dJ6_numberOfTrailingZeros_0f7a4_58 rfl ?_
          refine go_iconst (v := 4) dJ6_numberOfTrailingZeros_0f7a4_59 (by decide) ?_
          refine go_iushr dJ6_numberOfTrailingZeros_0f7a4_60 ?_
          refine go_istore_n (L' := [_, _]) dJ6_numberOfTrailingZeros_0f7a4_61 rfl rfl rfl ?_
          refine go_iload_n dJ6_numberOfTrailingZeros_0f7a4_62 rfl ?_
          refine go_iconst (v := 4) dJ6_numberOfTrailingZeros_0f7a4_63 (by decide) ?_
          refine go_icmp_le (tgt := 74) dJ6_numberOfTrailingZeros_0f7a4_64 (by decide) (fun q64 => ?_) (fun q64 => ?_)
          · refine go_iload_n dJ6_numberOfTrailingZeros_0f7a4_74 rfl ?_
            refine go_iload_n dJ6_numberOfTrailingZeros_0f7a4_75 rfl ?_
            refine go_iconst (v := 1) dJ6_numberOfTrailingZeros_0f7a4_76 (by decide) ?_
            refine go_iushr dJ6_numberOfTrailingZeros_0f7a4_77 ?_
            refine go_iadd dJ6_numberOfTrailingZeros_0f7a4_78 ?_
            refine go_iret dJ6_numberOfTrailingZeros_0f7a4_79 rfl rfl ?_
            exact ⟨by simp only [ntF, ntF0, ntF1, ntF2, ntF3, ntF4, ush, *, if_true, if_false] <;> rfl, rfl⟩
          · refine go_iinc (L' := [_, _]) dJ6_numberOfTrailingZeros_0f7a4_67 rfl rfl rfl rfl rfl ?_
            refine go_iload_n dJ6_numberOfTrailingZeros_0f7a4_70 rfl ?_
            refine go_iconst (v := 2) dJ6_numberOfTrailingZeros_0f7a4_71 (by decide) ?_
            refine go_iushr dJ6_numberOfTrailingZeros_0f7a4_72 ?_
            refine go_istore_n (L' := [_, _]) dJ6_numberOfTrailingZeros_0f7a4_73 rfl rfl rfl ?_
            refine go_iload_n dJ6_numberOfTrailingZeros_0f7a4_74 rfl ?_
            refine go_iload_n dJ6_numberOfTrailingZeros_0f7a4_75 rfl ?_
            refine go_iconst (v := 1) dJ6_numberOfTrailingZeros_0f7a4_76 (by decide) ?_
            refine go_iushr dJ6_numberOfTrailingZeros_0f7a4_77 ?_
            refine go_iadd dJ6_numberOfTrailingZeros_0f7a4_78 ?_
            refine go_iret dJ6_numberOfTrailingZeros_0f7a4_79 rfl rfl ?_
            exact ⟨by simp only [ntF, ntF0, ntF1, ntF2, ntF3, ntF4, ush, *, if_true, if_false] <;> rfl, rfl⟩
  · refine go_iload_n dJ6_numberOfTrailingZeros_0f7a4_12 rfl ?_
    refine go_bipush (v := 32) dJ6_numberOfTrailingZeros_0f7a4_13 (by decide) ?_
    refine go_iand dJ6_numberOfTrailingZeros_0f7a4_15 ?_
    refine go_iret dJ6_numberOfTrailingZeros_0f7a4_16 rfl rfl ?_
    exact ⟨by simp only [ntF, ntF0, ntF1, ntF2, ntF3, ntF4, ush, *, if_true, if_false] <;> rfl, rfl⟩
def mxI (a b : Int32) : Int32 := if a < b then b else a
def mnI (a b : Int32) : Int32 := if b < a then b else a
def abI (a : Int32) : Int32 := if 0 ≤ a then a else 0 - a
def mxL (a b : Int64) : Int64 := if b < a then a else b
theorem mt_min : Cond.static Lib.Math.min.name ∈ lw_tbl ∧ Cond.initialized "java/lang/Math" ∈ lw_tbl ∧ Cond.code Lib.Math.min.name Lib.Math.min.code 2 (some .int) ∈ lw_tbl := ⟨List.mem_of_getElem? (i := 412) (by decide +kernel), List.mem_of_getElem? (i := 46) (by decide +kernel), List.mem_of_getElem? (i := 413) (by decide +kernel)⟩
theorem mt_maxJ : Cond.static Lib.MathLoose.max_long.x ∈ lw_tbl ∧ Cond.initialized "java/lang/Math" ∈ lw_tbl ∧ Cond.code Lib.MathLoose.max_long.x Lib.MathLoose.max_long.code 4 (some .long) ∈ lw_tbl := ⟨List.mem_of_getElem? (i := 494) (by decide +kernel), List.mem_of_getElem? (i := 46) (by decide +kernel), List.mem_of_getElem? (i := 495) (by decide +kernel)⟩
theorem mt_max : Cond.static Lib.Math.max.name ∈ lw_tbl ∧ Cond.initialized "java/lang/Math" ∈ lw_tbl ∧ Cond.code Lib.Math.max.name Lib.Math.max.code 2 (some .int) ∈ lw_tbl := ⟨List.mem_of_getElem? (i := 561) (by decide +kernel), List.mem_of_getElem? (i := 46) (by decide +kernel), List.mem_of_getElem? (i := 562) (by decide +kernel)⟩
theorem mt_abs : Cond.static Lib.Math.abs.name ∈ lw_tbl ∧ Cond.initialized "java/lang/Math" ∈ lw_tbl ∧ Cond.code Lib.Math.abs.name Lib.Math.abs.code 1 (some .int) ∈ lw_tbl := ⟨List.mem_of_getElem? (i := 590) (by decide +kernel), List.mem_of_getElem? (i := 46) (by decide +kernel), List.mem_of_getElem? (i := 591) (by decide +kernel)⟩
theorem mkX1_58 : Cond.methodLink RX1 58 Lib.Math.min.name ∈ lw_tbl := List.mem_of_getElem? (i := 411) (by decide +kernel)
theorem mkX6_44 : Cond.methodLink RX6 44 Lib.MathLoose.max_long.x ∈ lw_tbl := List.mem_of_getElem? (i := 493) (by decide +kernel)
theorem mkX8_266 : Cond.methodLink RX8 266 Lib.MathLoose.max_long.x ∈ lw_tbl := List.mem_of_getElem? (i := 507) (by decide +kernel)
theorem mkX4_32 : Cond.methodLink RX4 32 Lib.Math.max.name ∈ lw_tbl := List.mem_of_getElem? (i := 560) (by decide +kernel)
theorem mkX3_56 : Cond.methodLink RX3 56 Lib.Math.abs.name ∈ lw_tbl := List.mem_of_getElem? (i := 589) (by decide +kernel)
theorem mkX8_257 : Cond.methodLink RX8 257 Lib.Math.max.name ∈ lw_tbl := List.mem_of_getElem? (i := 646) (by decide +kernel)
section MathRows
variable {E : gE} {y : MethodName} {cc : ByteArray} {nL : Nat} {ret : Option FieldType} {d kc ks mc ms pc : Nat} {L : List (Option Value)} {st : List Value} {h : gH} {Q : Option Value → gH → Prop} {idx : Nat}
theorem go_mmax {a b : Int32} (hd : decode cc pc = .ok (.invokestatic idx, 3)) (hk : Cond.methodLink y.cls idx Lib.Math.max.name ∈ lw_tbl) (h8 : Nat.ble ((st.map fun v => v.category).sum) 8 = true) (hc1 : Nat.ble kc mc = true) (hs1 : Nat.ble ks ms = true) (kk : Go E y cc nL ret (d + 1) kc ks mc ms (pc + 3) L (.int (mxI a b) :: st) h Q) : Go E y cc nL ret (d + 1) kc ks mc ms pc L (.int b :: .int a :: st) h Q := by
  intro p e s m args below meth c H locs ls X hP hl hL
  have hKK := X.2.2.2.2.2.2.2.1
  have h9 : (st.map fun v => v.category).sum ≤ 8 := Nat.le_of_ble_eq_true h8
  exact va_mmax X.1 X.2.1 (by rw [hL.1, X.2.2.1]) X.2.2.2.2.2.1 (hKK.1.1 _ hk rfl args) (hKK.1.1 _ mt_max.1 rfl args) (hKK.1.1 _ mt_max.2.1 rfl args) (hKK.1.1 _ mt_max.2.2 rfl args) (by show 1 ≤ d + 1; omega) (by show ((st.map (gv E.2.2.2)).map fun v => v.category).sum + 13 ≤ 35 * (d + 1); rw [cat_map]; omega) (Nat.le_of_ble_eq_true hc1) (Nat.le_of_ble_eq_true hs1) hd (kk p e s m args below meth c H locs ls X hP hl hL)
theorem go_mmin {a b : Int32} (hd : decode cc pc = .ok (.invokestatic idx, 3)) (hk : Cond.methodLink y.cls idx Lib.Math.min.name ∈ lw_tbl) (h8 : Nat.ble ((st.map fun v => v.category).sum) 8 = true) (hc1 : Nat.ble kc mc = true) (hs1 : Nat.ble ks ms = true) (kk : Go E y cc nL ret (d + 1) kc ks mc ms (pc + 3) L (.int (mnI a b) :: st) h Q) : Go E y cc nL ret (d + 1) kc ks mc ms pc L (.int b :: .int a :: st) h Q := by
  intro p e s m args below meth c H locs ls X hP hl hL
  have hKK := X.2.2.2.2.2.2.2.1
  have h9 : (st.map fun v => v.category).sum ≤ 8 := Nat.le_of_ble_eq_true h8
  exact va_mmin X.1 X.2.1 (by rw [hL.1, X.2.2.1]) X.2.2.2.2.2.1 (hKK.1.1 _ hk rfl args) (hKK.1.1 _ mt_min.1 rfl args) (hKK.1.1 _ mt_min.2.1 rfl args) (hKK.1.1 _ mt_min.2.2 rfl args) (by show 1 ≤ d + 1; omega) (by show ((st.map (gv E.2.2.2)).map fun v => v.category).sum + 13 ≤ 35 * (d + 1); rw [cat_map]; omega) (Nat.le_of_ble_eq_true hc1) (Nat.le_of_ble_eq_true hs1) hd (kk p e s m args below meth c H locs ls X hP hl hL)
theorem go_mabs {a : Int32} (hd : decode cc pc = .ok (.invokestatic idx, 3)) (hk : Cond.methodLink y.cls idx Lib.Math.abs.name ∈ lw_tbl) (h8 : Nat.ble ((st.map fun v => v.category).sum) 8 = true) (hc1 : Nat.ble kc mc = true) (hs1 : Nat.ble ks ms = true) (kk : Go E y cc nL ret (d + 1) kc ks mc ms (pc + 3) L (.int (abI a) :: st) h Q) : Go E y cc nL ret (d + 1) kc ks mc ms pc L (.int a :: st) h Q := by
  intro p e s m args below meth c H locs ls X hP hl hL
  have hKK := X.2.2.2.2.2.2.2.1
  have h9 : (st.map fun v => v.category).sum ≤ 8 := Nat.le_of_ble_eq_true h8
  exact va_mabs X.1 X.2.1 (by rw [hL.1, X.2.2.1]) X.2.2.2.2.2.1 (hKK.1.1 _ hk rfl args) (hKK.1.1 _ mt_abs.1 rfl args) (hKK.1.1 _ mt_abs.2.1 rfl args) (hKK.1.1 _ mt_abs.2.2 rfl args) (by show 1 ≤ d + 1; omega) (by show ((st.map (gv E.2.2.2)).map fun v => v.category).sum + 13 ≤ 35 * (d + 1); rw [cat_map]; omega) (Nat.le_of_ble_eq_true hc1) (Nat.le_of_ble_eq_true hs1) hd (kk p e s m args below meth c H locs ls X hP hl hL)
theorem go_mmaxl {a b : Int64} (hd : decode cc pc = .ok (.invokestatic idx, 3)) (hk : Cond.methodLink y.cls idx Lib.MathLoose.max_long.x ∈ lw_tbl) (h8 : Nat.ble ((st.map fun v => v.category).sum) 8 = true) (hc1 : Nat.ble kc mc = true) (hs1 : Nat.ble ks ms = true) (kk : Go E y cc nL ret (d + 1) kc ks mc ms (pc + 3) L (.long (mxL a b) :: st) h Q) : Go E y cc nL ret (d + 1) kc ks mc ms pc L (.long b :: .long a :: st) h Q := by
  intro p e s m args below meth c H locs ls X hP hl hL
  have hKK := X.2.2.2.2.2.2.2.1
  have h9 : (st.map fun v => v.category).sum ≤ 8 := Nat.le_of_ble_eq_true h8
  exact va_mmax_long X.1 X.2.1 (by rw [hL.1, X.2.2.1]) X.2.2.2.2.2.1 (hKK.1.1 _ hk rfl args) (hKK.1.1 _ mt_maxJ.1 rfl args) (hKK.1.1 _ mt_maxJ.2.1 rfl args) (hKK.1.1 _ mt_maxJ.2.2 rfl args) (by show 1 ≤ d + 1; omega) (by show ((st.map (gv E.2.2.2)).map fun v => v.category).sum + 15 ≤ 35 * (d + 1); rw [cat_map]; omega) (Nat.le_of_ble_eq_true hc1) (Nat.le_of_ble_eq_true hs1) hd (kk p e s m args below meth c H locs ls X hP hl hL)
end MathRows
def hasB (t p : Int32) : Bool := isInB p 0 5 && decide ((t >>> (p &&& 31)) &&& 1 = 1)
set_option maxRecDepth 100000 in
set_option maxHeartbeats 4000000 in
theorem rX1_has_n {E : gE} {d : Nat} {nw i0 i1 : WorldS} {pd : PadS} {lv : LivesS} {pl : PlanS} {mt : MatS} {nt : NetS} {m : ModS} {p : Int32} : Ret E yX1_has cX1_has 2 (some .boolean) (d + 1) 0 0 [.ref 2, .int p] (hp nw i0 i1 pd lv pl mt nt m) (dt (some (.int (b2i (hasB nw.1.1 p)))) (hp nw i0 i1 pd lv pl mt nt m)) := by
  refine ret_of_go (L := [_, _]) (by decide) (Nat.le_of_ble_eq_true rfl) rfl ?_
  refine go_iload_n dX1_has_0 rfl ?_
  refine go_iconst (v := 0) dX1_has_1 (by decide) ?_
  refine go_iconst (v := 5) dX1_has_2 (by decide) ?_
  refine go_cS (as := [_, _, _]) dX1_has_3 mX8_isIn kX1_27 tX8_isIn rfl rfl (rX8_isIn) rfl rfl rfl ?_
  refine go_bif_eq (tgt := 25) dX1_has_6 (by decide) (fun q6 => ?_) (fun q6 => ?_)
  · refine go_iconst (v := 0) dX1_has_25 (by decide) ?_
    refine go_zret dX1_has_26 (by decide) rfl rfl ?_
    exact ⟨by simp_all [hasB, b2i], rfl⟩
  · refine go_aload_n dX1_has_9 rfl ?_
    refine go_get dX1_has_10 fX1_31 rfl rfl ?_
    refine go_iload_n dX1_has_13 rfl ?_
    refine go_ishr dX1_has_14 ?_
    refine go_iconst (v := 1) dX1_has_15 (by decide) ?_
    refine go_iand dX1_has_16 ?_
    refine go_iconst (v := 1) dX1_has_17 (by decide) ?_
    refine go_icmp_ne (tgt := 25) dX1_has_18 (by decide) (fun q18 => ?_) (fun q18 => ?_)
    · refine go_iconst (v := 0) dX1_has_25 (by decide) ?_
      refine go_zret dX1_has_26 (by decide) rfl rfl ?_
      exact ⟨by simp_all [hasB, b2i], rfl⟩
    · refine go_iconst (v := 1) dX1_has_21 (by decide) ?_
      refine go_goto (tgt := 26) dX1_has_22 (by decide) ?_
      refine go_zret dX1_has_26 (by decide) rfl rfl ?_
      exact ⟨by simp_all [hasB, b2i], rfl⟩
set_option maxRecDepth 100000 in
set_option maxHeartbeats 4000000 in
theorem rX1_has_a {E : gE} {d : Nat} {nw i0 i1 : WorldS} {pd : PadS} {lv : LivesS} {pl : PlanS} {mt : MatS} {nt : NetS} {m : ModS} {p : Int32} : Ret E yX1_has cX1_has 2 (some .boolean) (d + 1) 0 0 [.ref 35, .int p] (hp nw i0 i1 pd lv pl mt nt m) (dt (some (.int (b2i (hasB lv.1.1 p)))) (hp nw i0 i1 pd lv pl mt nt m)) := by
  refine ret_of_go (L := [_, _]) (by decide) (Nat.le_of_ble_eq_true rfl) rfl ?_
  refine go_iload_n dX1_has_0 rfl ?_
  refine go_iconst (v := 0) dX1_has_1 (by decide) ?_
  refine go_iconst (v := 5) dX1_has_2 (by decide) ?_
  refine go_cS (as := [_, _, _]) dX1_has_3 mX8_isIn kX1_27 tX8_isIn rfl rfl (rX8_isIn) rfl rfl rfl ?_
  refine go_bif_eq (tgt := 25) dX1_has_6 (by decide) (fun q6 => ?_) (fun q6 => ?_)
  · refine go_iconst (v := 0) dX1_has_25 (by decide) ?_
    refine go_zret dX1_has_26 (by decide) rfl rfl ?_
    exact ⟨by simp_all [hasB, b2i], rfl⟩
  · refine go_aload_n dX1_has_9 rfl ?_
    refine go_get dX1_has_10 fX1_31 rfl rfl ?_
    refine go_iload_n dX1_has_13 rfl ?_
    refine go_ishr dX1_has_14 ?_
    refine go_iconst (v := 1) dX1_has_15 (by decide) ?_
    refine go_iand dX1_has_16 ?_
    refine go_iconst (v := 1) dX1_has_17 (by decide) ?_
    refine go_icmp_ne (tgt := 25) dX1_has_18 (by decide) (fun q18 => ?_) (fun q18 => ?_)
    · refine go_iconst (v := 0) dX1_has_25 (by decide) ?_
      refine go_zret dX1_has_26 (by decide) rfl rfl ?_
      exact ⟨by simp_all [hasB, b2i], rfl⟩
    · refine go_iconst (v := 1) dX1_has_21 (by decide) ?_
      refine go_goto (tgt := 26) dX1_has_22 (by decide) ?_
      refine go_zret dX1_has_26 (by decide) rfl rfl ?_
      exact ⟨by simp_all [hasB, b2i], rfl⟩
