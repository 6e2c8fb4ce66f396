theorem mem_pl {big : List Cond} (ws : List Cond) (ps : List Nat) (hp : ws = ps.filterMap (fun i => big[i]?)) : ∀ w ∈ ws, w ∈ big := by
  intro w hw
  rw [hp] at hw
  obtain ⟨i, -, hi⟩ := List.mem_filterMap.mp hw
  exact List.mem_of_getElem? hi
theorem gclX0 : gcl 0 RX0 TX0 5 tyX0 := ⟨rfl, mem_pl _ [161, 163, 165, 167, 169] (by decide +kernel), tyX0_ok, nmX0⟩
theorem gclX1 : gcl 1 RX1 TX1 7 tyX1 := ⟨rfl, mem_pl _ [82, 84, 86, 88, 90, 92, 94] (by decide +kernel), tyX1_ok, nmX1⟩
theorem gclX2 : gcl 2 RX2 TX2 7 tyX2 := ⟨rfl, mem_pl _ [185, 187, 189, 191, 193, 195, 197] (by decide +kernel), tyX2_ok, nmX2⟩
theorem gclX3 : gcl 3 RX3 TX3 3 tyX3 := ⟨rfl, mem_pl _ [228, 230, 232] (by decide +kernel), tyX3_ok, nmX3⟩
theorem gclX4 : gcl 4 RX4 TX4 2 tyX4 := ⟨rfl, mem_pl _ [243, 245] (by decide +kernel), tyX4_ok, nmX4⟩
theorem gclX5 : gcl 5 RX5 TX5 2 tyX5 := ⟨rfl, mem_pl _ [135, 137] (by decide +kernel), tyX5_ok, nmX5⟩
theorem gclX6 : gcl 6 RX6 TX6 3 tyX6 := ⟨rfl, mem_pl _ [209, 211, 213] (by decide +kernel), tyX6_ok, nmX6⟩
theorem gclX7 : gcl 7 RX7 TX7 6 tyX7 := ⟨rfl, mem_pl _ [110, 112, 114, 116, 118, 120] (by decide +kernel), tyX7_ok, nmX7⟩
theorem gclX8 : gcl 8 RX8 TX8 7 tyX8 := ⟨rfl, mem_pl _ [255, 257, 259, 261, 263, 265, 267] (by decide +kernel), tyX8_ok, nmX8⟩
theorem gclX9 : gcl 9 RX9 TX9 22 tyX9 := ⟨rfl, mem_pl _ [710, 712, 714, 716, 718, 720, 722, 724, 726, 728, 730, 732, 734, 736, 738, 740, 742, 744, 746, 748, 750, 752] (by decide +kernel), tyX9_ok, nmX9⟩
theorem wL_7 : Cond.classLink RL 7 RX8 ∈ lw_tbl := List.mem_of_getElem? (i := 47) (by decide +kernel)
theorem aX8 : Cond.instantiable RX8 7 ∈ lw_tbl := List.mem_of_getElem? (i := 48) (by decide +kernel)
theorem zX8 : Cond.initialized RX8 ∈ lw_tbl := List.mem_of_getElem? (i := 34) (by decide +kernel)
theorem kL_9 : glk RL 9 yX8_init := Or.inl (List.mem_of_getElem? (i := 49) (by decide +kernel))
theorem iX8_init : Cond.instanceMethod yX8_init ∈ lw_tbl := List.mem_of_getElem? (i := 50) (by decide +kernel)
theorem mX8_init : gmt yX8_init cX8_init 2 none 0 := ⟨List.mem_of_getElem? (i := 51) (by decide +kernel), List.mem_of_getElem? (i := 34) (by decide +kernel), ⟨by decide, by decide⟩, by decide +kernel, by decide⟩
theorem kX8_1 : Cond.methodLink RX8 1 Lib.objectInit ∈ lw_tbl := List.mem_of_getElem? (i := 52) (by decide +kernel)
theorem iobj : Cond.instanceMethod Lib.objectInit ∈ lw_tbl := List.mem_of_getElem? (i := 53) (by decide +kernel)
theorem wX8_7 : Cond.classLink RX8 7 RX7 ∈ lw_tbl := List.mem_of_getElem? (i := 55) (by decide +kernel)
theorem aX7 : Cond.instantiable RX7 6 ∈ lw_tbl := List.mem_of_getElem? (i := 56) (by decide +kernel)
theorem zX7 : Cond.initialized RX7 ∈ lw_tbl := List.mem_of_getElem? (i := 35) (by decide +kernel)
theorem kX8_9 : glk RX8 9 yX7_init := Or.inl (List.mem_of_getElem? (i := 57) (by decide +kernel))
theorem iX7_init : Cond.instanceMethod yX7_init ∈ lw_tbl := List.mem_of_getElem? (i := 58) (by decide +kernel)
theorem mX7_init : gmt yX7_init cX7_init 2 none 0 := ⟨List.mem_of_getElem? (i := 59) (by decide +kernel), List.mem_of_getElem? (i := 35) (by decide +kernel), ⟨by decide, by decide⟩, by decide +kernel, by decide⟩
theorem kX7_3 : Cond.methodLink RX7 3 Lib.objectInit ∈ lw_tbl := List.mem_of_getElem? (i := 60) (by decide +kernel)
theorem wX7_9 : Cond.classLink RX7 9 RX1 ∈ lw_tbl := List.mem_of_getElem? (i := 61) (by decide +kernel)
theorem aX1 : Cond.instantiable RX1 7 ∈ lw_tbl := List.mem_of_getElem? (i := 62) (by decide +kernel)
theorem zX1 : Cond.initialized RX1 ∈ lw_tbl := List.mem_of_getElem? (i := 36) (by decide +kernel)
theorem kX7_11 : glk RX7 11 yX1_init := Or.inr ⟨"SignedSheets", List.mem_of_getElem? (i := 63) (by decide +kernel)⟩
theorem iX1_init : Cond.instanceMethod yX1_init ∈ lw_tbl := List.mem_of_getElem? (i := 64) (by decide +kernel)
theorem mX1_init : gmt yX1_init cX1_init 1 none 0 := ⟨List.mem_of_getElem? (i := 65) (by decide +kernel), List.mem_of_getElem? (i := 36) (by decide +kernel), ⟨by decide, by decide⟩, by decide +kernel, by decide⟩
theorem kX1_3 : Cond.methodLink RX1 3 Lib.objectInit ∈ lw_tbl := List.mem_of_getElem? (i := 66) (by decide +kernel)
theorem fX1_31 : gfd RX1 31 1 0 .int false := ⟨RX1, TX1, 7, tyX1, gclX1, by decide, rfl, rfl, rfl, List.mem_of_getElem? (i := 67) (by decide +kernel)⟩
theorem fX3_27 : gfd RX3 27 1 0 .int false := ⟨RX1, TX1, 7, tyX1, gclX1, by decide, rfl, rfl, rfl, List.mem_of_getElem? (i := 68) (by decide +kernel)⟩
theorem fX8_234 : gfd RX8 234 1 0 .int false := ⟨RX1, TX1, 7, tyX1, gclX1, by decide, rfl, rfl, rfl, List.mem_of_getElem? (i := 69) (by decide +kernel)⟩
theorem fX0_37 : gfd RX0 37 1 1 .int false := ⟨RX1, TX1, 7, tyX1, gclX1, by decide, rfl, rfl, rfl, List.mem_of_getElem? (i := 70) (by decide +kernel)⟩
theorem fX1_41 : gfd RX1 41 1 1 .int false := ⟨RX1, TX1, 7, tyX1, gclX1, by decide, rfl, rfl, rfl, List.mem_of_getElem? (i := 71) (by decide +kernel)⟩
theorem fX8_237 : gfd RX8 237 1 1 .int false := ⟨RX1, TX1, 7, tyX1, gclX1, by decide, rfl, rfl, rfl, List.mem_of_getElem? (i := 72) (by decide +kernel)⟩
theorem fX1_9 : gfd RX1 9 1 2 (.array .int) true := ⟨RX1, TX1, 7, tyX1, gclX1, by decide, rfl, rfl, rfl, List.mem_of_getElem? (i := 73) (by decide +kernel)⟩
theorem fX0_49 : gfd RX0 49 1 2 (.array .int) true := ⟨RX1, TX1, 7, tyX1, gclX1, by decide, rfl, rfl, rfl, List.mem_of_getElem? (i := 74) (by decide +kernel)⟩
theorem fX2_79 : gfd RX2 79 1 2 (.array .int) true := ⟨RX1, TX1, 7, tyX1, gclX1, by decide, rfl, rfl, rfl, List.mem_of_getElem? (i := 75) (by decide +kernel)⟩
theorem fX1_15 : gfd RX1 15 1 3 (.array .int) true := ⟨RX1, TX1, 7, tyX1, gclX1, by decide, rfl, rfl, rfl, List.mem_of_getElem? (i := 76) (by decide +kernel)⟩
theorem fX3_53 : gfd RX3 53 1 3 (.array .int) true := ⟨RX1, TX1, 7, tyX1, gclX1, by decide, rfl, rfl, rfl, List.mem_of_getElem? (i := 77) (by decide +kernel)⟩
theorem fX8_240 : gfd RX8 240 1 3 (.array .int) true := ⟨RX1, TX1, 7, tyX1, gclX1, by decide, rfl, rfl, rfl, List.mem_of_getElem? (i := 78) (by decide +kernel)⟩
theorem fX1_18 : gfd RX1 18 1 4 (.array .int) true := ⟨RX1, TX1, 7, tyX1, gclX1, by decide, rfl, rfl, rfl, List.mem_of_getElem? (i := 79) (by decide +kernel)⟩
theorem fX1_21 : gfd RX1 21 1 5 (.array .int) true := ⟨RX1, TX1, 7, tyX1, gclX1, by decide, rfl, rfl, rfl, List.mem_of_getElem? (i := 80) (by decide +kernel)⟩
theorem fX1_24 : gfd RX1 24 1 6 (.array .int) true := ⟨RX1, TX1, 7, tyX1, gclX1, by decide, rfl, rfl, rfl, List.mem_of_getElem? (i := 81) (by decide +kernel)⟩
theorem ac_int : Cond.arrayClass .int ∈ lw_tbl := List.mem_of_getElem? (i := 97) (by decide +kernel)
theorem fX7_12 : gfd RX7 12 7 0 (.object "SignedSheets$Folk") true := ⟨RX7, TX7, 6, tyX7, gclX7, by decide, rfl, rfl, rfl, List.mem_of_getElem? (i := 98) (by decide +kernel)⟩
theorem fX8_59 : gfd RX8 59 7 0 (.object "SignedSheets$Folk") true := ⟨RX7, TX7, 6, tyX7, gclX7, by decide, rfl, rfl, rfl, List.mem_of_getElem? (i := 99) (by decide +kernel)⟩
theorem fX7_18 : gfd RX7 18 7 1 (.array .int) true := ⟨RX7, TX7, 6, tyX7, gclX7, by decide, rfl, rfl, rfl, List.mem_of_getElem? (i := 100) (by decide +kernel)⟩
theorem fX6_28 : gfd RX6 28 7 1 (.array .int) true := ⟨RX7, TX7, 6, tyX7, gclX7, by decide, rfl, rfl, rfl, List.mem_of_getElem? (i := 101) (by decide +kernel)⟩
theorem fX8_81 : gfd RX8 81 7 1 (.array .int) true := ⟨RX7, TX7, 6, tyX7, gclX7, by decide, rfl, rfl, rfl, List.mem_of_getElem? (i := 102) (by decide +kernel)⟩
theorem fX7_22 : gfd RX7 22 7 2 (.array .int) true := ⟨RX7, TX7, 6, tyX7, gclX7, by decide, rfl, rfl, rfl, List.mem_of_getElem? (i := 103) (by decide +kernel)⟩
theorem fX8_246 : gfd RX8 246 7 2 (.array .int) true := ⟨RX7, TX7, 6, tyX7, gclX7, by decide, rfl, rfl, rfl, List.mem_of_getElem? (i := 104) (by decide +kernel)⟩
theorem fX7_25 : gfd RX7 25 7 3 (.array .boolean) true := ⟨RX7, TX7, 6, tyX7, gclX7, by decide, rfl, rfl, rfl, List.mem_of_getElem? (i := 105) (by decide +kernel)⟩
theorem fX8_253 : gfd RX8 253 7 3 (.array .boolean) true := ⟨RX7, TX7, 6, tyX7, gclX7, by decide, rfl, rfl, rfl, List.mem_of_getElem? (i := 106) (by decide +kernel)⟩
theorem fX7_29 : gfd RX7 29 7 4 .int false := ⟨RX7, TX7, 6, tyX7, gclX7, by decide, rfl, rfl, rfl, List.mem_of_getElem? (i := 107) (by decide +kernel)⟩
theorem fX8_200 : gfd RX8 200 7 4 .int false := ⟨RX7, TX7, 6, tyX7, gclX7, by decide, rfl, rfl, rfl, List.mem_of_getElem? (i := 108) (by decide +kernel)⟩
theorem fX8_230 : gfd RX8 230 7 5 .boolean false := ⟨RX7, TX7, 6, tyX7, gclX7, by decide, rfl, rfl, rfl, List.mem_of_getElem? (i := 109) (by decide +kernel)⟩
theorem ac_boolean : Cond.arrayClass .boolean ∈ lw_tbl := List.mem_of_getElem? (i := 123) (by decide +kernel)
theorem wX8_20 : Cond.classLink RX8 20 RX5 ∈ lw_tbl := List.mem_of_getElem? (i := 125) (by decide +kernel)
theorem aX5 : Cond.instantiable RX5 2 ∈ lw_tbl := List.mem_of_getElem? (i := 126) (by decide +kernel)
theorem zX5 : Cond.initialized RX5 ∈ lw_tbl := List.mem_of_getElem? (i := 37) (by decide +kernel)
theorem kX8_22 : glk RX8 22 yX5_init := Or.inr ⟨"SignedSheets", List.mem_of_getElem? (i := 127) (by decide +kernel)⟩
theorem iX5_init : Cond.instanceMethod yX5_init ∈ lw_tbl := List.mem_of_getElem? (i := 128) (by decide +kernel)
theorem mX5_init : gmt yX5_init cX5_init 1 none 0 := ⟨List.mem_of_getElem? (i := 129) (by decide +kernel), List.mem_of_getElem? (i := 37) (by decide +kernel), ⟨by decide, by decide⟩, by decide +kernel, by decide⟩
theorem kX5_3 : Cond.methodLink RX5 3 Lib.objectInit ∈ lw_tbl := List.mem_of_getElem? (i := 130) (by decide +kernel)
theorem fX5_9 : gfd RX5 9 5 0 (.array .int) true := ⟨RX5, TX5, 2, tyX5, gclX5, by decide, rfl, rfl, rfl, List.mem_of_getElem? (i := 131) (by decide +kernel)⟩
theorem fX5_15 : gfd RX5 15 5 1 .int false := ⟨RX5, TX5, 2, tyX5, gclX5, by decide, rfl, rfl, rfl, List.mem_of_getElem? (i := 132) (by decide +kernel)⟩
theorem fX2_45 : gfd RX2 45 5 1 .int false := ⟨RX5, TX5, 2, tyX5, gclX5, by decide, rfl, rfl, rfl, List.mem_of_getElem? (i := 133) (by decide +kernel)⟩
theorem fX8_91 : gfd RX8 91 5 1 .int false := ⟨RX5, TX5, 2, tyX5, gclX5, by decide, rfl, rfl, rfl, List.mem_of_getElem? (i := 134) (by decide +kernel)⟩
theorem wX8_27 : Cond.classLink RX8 27 RX2 ∈ lw_tbl := List.mem_of_getElem? (i := 140) (by decide +kernel)
theorem aX2 : Cond.instantiable RX2 7 ∈ lw_tbl := List.mem_of_getElem? (i := 141) (by decide +kernel)
theorem zX2 : Cond.initialized RX2 ∈ lw_tbl := List.mem_of_getElem? (i := 38) (by decide +kernel)
theorem kX8_29 : glk RX8 29 yX2_init := Or.inr ⟨"SignedSheets", List.mem_of_getElem? (i := 142) (by decide +kernel)⟩
theorem iX2_init : Cond.instanceMethod yX2_init ∈ lw_tbl := List.mem_of_getElem? (i := 143) (by decide +kernel)
theorem mX2_init : gmt yX2_init cX2_init 1 none 0 := ⟨List.mem_of_getElem? (i := 144) (by decide +kernel), List.mem_of_getElem? (i := 38) (by decide +kernel), ⟨by decide, by decide⟩, by decide +kernel, by decide⟩
theorem kX2_3 : Cond.methodLink RX2 3 Lib.objectInit ∈ lw_tbl := List.mem_of_getElem? (i := 145) (by decide +kernel)
theorem wX2_9 : Cond.classLink RX2 9 RX1 ∈ lw_tbl := List.mem_of_getElem? (i := 146) (by decide +kernel)
theorem kX2_11 : glk RX2 11 yX1_init := Or.inr ⟨"SignedSheets", List.mem_of_getElem? (i := 147) (by decide +kernel)⟩
theorem wX2_18 : Cond.classLink RX2 18 RX0 ∈ lw_tbl := List.mem_of_getElem? (i := 148) (by decide +kernel)
theorem aX0 : Cond.instantiable RX0 5 ∈ lw_tbl := List.mem_of_getElem? (i := 149) (by decide +kernel)
theorem zX0 : Cond.initialized RX0 ∈ lw_tbl := List.mem_of_getElem? (i := 39) (by decide +kernel)
theorem kX2_20 : glk RX2 20 yX0_init := Or.inr ⟨"SignedSheets", List.mem_of_getElem? (i := 150) (by decide +kernel)⟩
theorem iX0_init : Cond.instanceMethod yX0_init ∈ lw_tbl := List.mem_of_getElem? (i := 151) (by decide +kernel)
theorem mX0_init : gmt yX0_init cX0_init 1 none 0 := ⟨List.mem_of_getElem? (i := 152) (by decide +kernel), List.mem_of_getElem? (i := 39) (by decide +kernel), ⟨by decide, by decide⟩, by decide +kernel, by decide⟩
theorem kX0_3 : Cond.methodLink RX0 3 Lib.objectInit ∈ lw_tbl := List.mem_of_getElem? (i := 153) (by decide +kernel)
theorem fX0_27 : gfd RX0 27 0 0 .int false := ⟨RX0, TX0, 5, tyX0, gclX0, by decide, rfl, rfl, rfl, List.mem_of_getElem? (i := 154) (by decide +kernel)⟩
theorem fX2_71 : gfd RX2 71 0 0 .int false := ⟨RX0, TX0, 5, tyX0, gclX0, by decide, rfl, rfl, rfl, List.mem_of_getElem? (i := 155) (by decide +kernel)⟩
theorem fX0_15 : gfd RX0 15 0 1 .int false := ⟨RX0, TX0, 5, tyX0, gclX0, by decide, rfl, rfl, rfl, List.mem_of_getElem? (i := 156) (by decide +kernel)⟩
theorem fX0_24 : gfd RX0 24 0 2 .int false := ⟨RX0, TX0, 5, tyX0, gclX0, by decide, rfl, rfl, rfl, List.mem_of_getElem? (i := 157) (by decide +kernel)⟩
theorem fX0_21 : gfd RX0 21 0 3 .int false := ⟨RX0, TX0, 5, tyX0, gclX0, by decide, rfl, rfl, rfl, List.mem_of_getElem? (i := 158) (by decide +kernel)⟩
theorem fX0_30 : gfd RX0 30 0 4 .int false := ⟨RX0, TX0, 5, tyX0, gclX0, by decide, rfl, rfl, rfl, List.mem_of_getElem? (i := 159) (by decide +kernel)⟩
theorem fX2_54 : gfd RX2 54 0 4 .int false := ⟨RX0, TX0, 5, tyX0, gclX0, by decide, rfl, rfl, rfl, List.mem_of_getElem? (i := 160) (by decide +kernel)⟩
theorem fX2_12 : gfd RX2 12 2 0 (.object "SignedSheets$Folk") true := ⟨RX2, TX2, 7, tyX2, gclX2, by decide, rfl, rfl, rfl, List.mem_of_getElem? (i := 172) (by decide +kernel)⟩
theorem fX8_114 : gfd RX8 114 2 0 (.object "SignedSheets$Folk") true := ⟨RX2, TX2, 7, tyX2, gclX2, by decide, rfl, rfl, rfl, List.mem_of_getElem? (i := 173) (by decide +kernel)⟩
theorem fX2_21 : gfd RX2 21 2 1 (.object "SignedSheets$Act") true := ⟨RX2, TX2, 7, tyX2, gclX2, by decide, rfl, rfl, rfl, List.mem_of_getElem? (i := 174) (by decide +kernel)⟩
theorem fX2_29 : gfd RX2 29 2 2 .int false := ⟨RX2, TX2, 7, tyX2, gclX2, by decide, rfl, rfl, rfl, List.mem_of_getElem? (i := 175) (by decide +kernel)⟩
theorem fX8_121 : gfd RX8 121 2 2 .int false := ⟨RX2, TX2, 7, tyX2, gclX2, by decide, rfl, rfl, rfl, List.mem_of_getElem? (i := 176) (by decide +kernel)⟩
theorem fX2_33 : gfd RX2 33 2 3 .int false := ⟨RX2, TX2, 7, tyX2, gclX2, by decide, rfl, rfl, rfl, List.mem_of_getElem? (i := 177) (by decide +kernel)⟩
theorem fX8_104 : gfd RX8 104 2 3 .int false := ⟨RX2, TX2, 7, tyX2, gclX2, by decide, rfl, rfl, rfl, List.mem_of_getElem? (i := 178) (by decide +kernel)⟩
theorem fX2_36 : gfd RX2 36 2 4 .int false := ⟨RX2, TX2, 7, tyX2, gclX2, by decide, rfl, rfl, rfl, List.mem_of_getElem? (i := 179) (by decide +kernel)⟩
theorem fX8_107 : gfd RX8 107 2 4 .int false := ⟨RX2, TX2, 7, tyX2, gclX2, by decide, rfl, rfl, rfl, List.mem_of_getElem? (i := 180) (by decide +kernel)⟩
theorem fX2_39 : gfd RX2 39 2 5 .int false := ⟨RX2, TX2, 7, tyX2, gclX2, by decide, rfl, rfl, rfl, List.mem_of_getElem? (i := 181) (by decide +kernel)⟩
theorem fX8_128 : gfd RX8 128 2 5 .int false := ⟨RX2, TX2, 7, tyX2, gclX2, by decide, rfl, rfl, rfl, List.mem_of_getElem? (i := 182) (by decide +kernel)⟩
theorem fX2_42 : gfd RX2 42 2 6 .int false := ⟨RX2, TX2, 7, tyX2, gclX2, by decide, rfl, rfl, rfl, List.mem_of_getElem? (i := 183) (by decide +kernel)⟩
theorem fX8_131 : gfd RX8 131 2 6 .int false := ⟨RX2, TX2, 7, tyX2, gclX2, by decide, rfl, rfl, rfl, List.mem_of_getElem? (i := 184) (by decide +kernel)⟩
theorem wX8_34 : Cond.classLink RX8 34 RX6 ∈ lw_tbl := List.mem_of_getElem? (i := 200) (by decide +kernel)
theorem aX6 : Cond.instantiable RX6 3 ∈ lw_tbl := List.mem_of_getElem? (i := 201) (by decide +kernel)
theorem zX6 : Cond.initialized RX6 ∈ lw_tbl := List.mem_of_getElem? (i := 40) (by decide +kernel)
theorem kX8_36 : glk RX8 36 yX6_init := Or.inr ⟨"SignedSheets", List.mem_of_getElem? (i := 202) (by decide +kernel)⟩
theorem iX6_init : Cond.instanceMethod yX6_init ∈ lw_tbl := List.mem_of_getElem? (i := 203) (by decide +kernel)
theorem mX6_init : gmt yX6_init cX6_init 1 none 0 := ⟨List.mem_of_getElem? (i := 204) (by decide +kernel), List.mem_of_getElem? (i := 40) (by decide +kernel), ⟨by decide, by decide⟩, by decide +kernel, by decide⟩
theorem kX6_3 : Cond.methodLink RX6 3 Lib.objectInit ∈ lw_tbl := List.mem_of_getElem? (i := 205) (by decide +kernel)
theorem fX6_11 : gfd RX6 11 6 0 (.array .long) true := ⟨RX6, TX6, 3, tyX6, gclX6, by decide, rfl, rfl, rfl, List.mem_of_getElem? (i := 206) (by decide +kernel)⟩
theorem fX6_15 : gfd RX6 15 6 1 (.array .long) true := ⟨RX6, TX6, 3, tyX6, gclX6, by decide, rfl, rfl, rfl, List.mem_of_getElem? (i := 207) (by decide +kernel)⟩
theorem fX6_18 : gfd RX6 18 6 2 .boolean false := ⟨RX6, TX6, 3, tyX6, gclX6, by decide, rfl, rfl, rfl, List.mem_of_getElem? (i := 208) (by decide +kernel)⟩
theorem ac_long : Cond.arrayClass .long ∈ lw_tbl := List.mem_of_getElem? (i := 216) (by decide +kernel)
theorem wX8_41 : Cond.classLink RX8 41 RX3 ∈ lw_tbl := List.mem_of_getElem? (i := 217) (by decide +kernel)
theorem aX3 : Cond.instantiable RX3 3 ∈ lw_tbl := List.mem_of_getElem? (i := 218) (by decide +kernel)
theorem zX3 : Cond.initialized RX3 ∈ lw_tbl := List.mem_of_getElem? (i := 41) (by decide +kernel)
theorem kX8_43 : glk RX8 43 yX3_init := Or.inr ⟨"SignedSheets", List.mem_of_getElem? (i := 219) (by decide +kernel)⟩
theorem iX3_init : Cond.instanceMethod yX3_init ∈ lw_tbl := List.mem_of_getElem? (i := 220) (by decide +kernel)
theorem mX3_init : gmt yX3_init cX3_init 1 none 0 := ⟨List.mem_of_getElem? (i := 221) (by decide +kernel), List.mem_of_getElem? (i := 41) (by decide +kernel), ⟨by decide, by decide⟩, by decide +kernel, by decide⟩
theorem kX3_3 : Cond.methodLink RX3 3 Lib.objectInit ∈ lw_tbl := List.mem_of_getElem? (i := 222) (by decide +kernel)
theorem fX3_9 : gfd RX3 9 3 0 (.array .int) true := ⟨RX3, TX3, 3, tyX3, gclX3, by decide, rfl, rfl, rfl, List.mem_of_getElem? (i := 223) (by decide +kernel)⟩
theorem fX8_190 : gfd RX8 190 3 0 (.array .int) true := ⟨RX3, TX3, 3, tyX3, gclX3, by decide, rfl, rfl, rfl, List.mem_of_getElem? (i := 224) (by decide +kernel)⟩
theorem fX3_15 : gfd RX3 15 3 1 (.array .int) true := ⟨RX3, TX3, 3, tyX3, gclX3, by decide, rfl, rfl, rfl, List.mem_of_getElem? (i := 225) (by decide +kernel)⟩
theorem fX8_193 : gfd RX8 193 3 1 (.array .int) true := ⟨RX3, TX3, 3, tyX3, gclX3, by decide, rfl, rfl, rfl, List.mem_of_getElem? (i := 226) (by decide +kernel)⟩
theorem fX3_18 : gfd RX3 18 3 2 (.array .int) true := ⟨RX3, TX3, 3, tyX3, gclX3, by decide, rfl, rfl, rfl, List.mem_of_getElem? (i := 227) (by decide +kernel)⟩
theorem wX8_48 : Cond.classLink RX8 48 RX4 ∈ lw_tbl := List.mem_of_getElem? (i := 235) (by decide +kernel)
theorem aX4 : Cond.instantiable RX4 2 ∈ lw_tbl := List.mem_of_getElem? (i := 236) (by decide +kernel)
theorem zX4 : Cond.initialized RX4 ∈ lw_tbl := List.mem_of_getElem? (i := 42) (by decide +kernel)
theorem kX8_50 : glk RX8 50 yX4_init := Or.inr ⟨"SignedSheets", List.mem_of_getElem? (i := 237) (by decide +kernel)⟩
theorem iX4_init : Cond.instanceMethod yX4_init ∈ lw_tbl := List.mem_of_getElem? (i := 238) (by decide +kernel)
theorem mX4_init : gmt yX4_init cX4_init 1 none 0 := ⟨List.mem_of_getElem? (i := 239) (by decide +kernel), List.mem_of_getElem? (i := 42) (by decide +kernel), ⟨by decide, by decide⟩, by decide +kernel, by decide⟩
theorem kX4_3 : Cond.methodLink RX4 3 Lib.objectInit ∈ lw_tbl := List.mem_of_getElem? (i := 240) (by decide +kernel)
theorem fX4_9 : gfd RX4 9 4 0 (.array .int) true := ⟨RX4, TX4, 2, tyX4, gclX4, by decide, rfl, rfl, rfl, List.mem_of_getElem? (i := 241) (by decide +kernel)⟩
theorem fX4_15 : gfd RX4 15 4 1 (.array .int) true := ⟨RX4, TX4, 2, tyX4, gclX4, by decide, rfl, rfl, rfl, List.mem_of_getElem? (i := 242) (by decide +kernel)⟩
theorem fX8_10 : gfd RX8 10 8 0 (.object "SignedSheets$World") true := ⟨RX8, TX8, 7, tyX8, gclX8, by decide, rfl, rfl, rfl, List.mem_of_getElem? (i := 248) (by decide +kernel)⟩
theorem fX8_16 : gfd RX8 16 8 1 (.array (.object "SignedSheets$World")) true := ⟨RX8, TX8, 7, tyX8, gclX8, by decide, rfl, rfl, rfl, List.mem_of_getElem? (i := 249) (by decide +kernel)⟩
theorem fX8_23 : gfd RX8 23 8 2 (.object "SignedSheets$Pad") true := ⟨RX8, TX8, 7, tyX8, gclX8, by decide, rfl, rfl, rfl, List.mem_of_getElem? (i := 250) (by decide +kernel)⟩
theorem fX8_30 : gfd RX8 30 8 3 (.object "SignedSheets$Lives") true := ⟨RX8, TX8, 7, tyX8, gclX8, by decide, rfl, rfl, rfl, List.mem_of_getElem? (i := 251) (by decide +kernel)⟩
theorem fX8_37 : gfd RX8 37 8 4 (.object "SignedSheets$Plan") true := ⟨RX8, TX8, 7, tyX8, gclX8, by decide, rfl, rfl, rfl, List.mem_of_getElem? (i := 252) (by decide +kernel)⟩
theorem fX8_44 : gfd RX8 44 8 5 (.object "SignedSheets$Matching") true := ⟨RX8, TX8, 7, tyX8, gclX8, by decide, rfl, rfl, rfl, List.mem_of_getElem? (i := 253) (by decide +kernel)⟩
theorem fX8_51 : gfd RX8 51 8 6 (.object "SignedSheets$Netting") true := ⟨RX8, TX8, 7, tyX8, gclX8, by decide, rfl, rfl, rfl, List.mem_of_getElem? (i := 254) (by decide +kernel)⟩
theorem kL_13 : glk RL 13 yX8_person := Or.inl (List.mem_of_getElem? (i := 270) (by decide +kernel))
theorem iX8_person : Cond.instanceMethod yX8_person ∈ lw_tbl := List.mem_of_getElem? (i := 271) (by decide +kernel)
theorem sX8_person : Cond.selects yX8_person.cls yX8_person yX8_person ∈ lw_tbl := List.mem_of_getElem? (i := 272) (by decide +kernel)
theorem mX8_person : gmt yX8_person cX8_person 4 (some .int) 3 := ⟨List.mem_of_getElem? (i := 273) (by decide +kernel), List.mem_of_getElem? (i := 34) (by decide +kernel), ⟨by decide, by decide⟩, by decide +kernel, by decide⟩
theorem kX8_55 : glk RX8 55 yX8_isIn := Or.inl (List.mem_of_getElem? (i := 274) (by decide +kernel))
theorem tX8_isIn : Cond.static yX8_isIn ∈ lw_tbl := List.mem_of_getElem? (i := 275) (by decide +kernel)
theorem mX8_isIn : gmt yX8_isIn cX8_isIn 3 (some .boolean) 3 := ⟨List.mem_of_getElem? (i := 276) (by decide +kernel), List.mem_of_getElem? (i := 34) (by decide +kernel), ⟨by decide, by decide⟩, by decide +kernel, by decide⟩
theorem kX8_63 : glk RX8 63 yX1_enter := Or.inl (List.mem_of_getElem? (i := 277) (by decide +kernel))
theorem iX1_enter : Cond.instanceMethod yX1_enter ∈ lw_tbl := List.mem_of_getElem? (i := 278) (by decide +kernel)
theorem sX1_enter : Cond.selects yX1_enter.cls yX1_enter yX1_enter ∈ lw_tbl := List.mem_of_getElem? (i := 279) (by decide +kernel)
theorem mX1_enter : gmt yX1_enter cX1_enter 4 none 3 := ⟨List.mem_of_getElem? (i := 280) (by decide +kernel), List.mem_of_getElem? (i := 36) (by decide +kernel), ⟨by decide, by decide⟩, by decide +kernel, by decide⟩
theorem kX8_69 : glk RX8 69 yX1_count := Or.inl (List.mem_of_getElem? (i := 281) (by decide +kernel))
theorem iX1_count : Cond.instanceMethod yX1_count ∈ lw_tbl := List.mem_of_getElem? (i := 282) (by decide +kernel)
theorem sX1_count : Cond.selects yX1_count.cls yX1_count yX1_count ∈ lw_tbl := List.mem_of_getElem? (i := 283) (by decide +kernel)
theorem mX1_count : gmt yX1_count cX1_count 1 (some .int) 0 := ⟨List.mem_of_getElem? (i := 284) (by decide +kernel), List.mem_of_getElem? (i := 36) (by decide +kernel), ⟨by decide, by decide⟩, by decide +kernel, by decide⟩
theorem kX1_35 : glk RX1 35 yJ6_bitCount_0f7a4 := Or.inl (List.mem_of_getElem? (i := 285) (by decide +kernel))
theorem tJ6_bitCount_0f7a4 : Cond.static yJ6_bitCount_0f7a4 ∈ lw_tbl := List.mem_of_getElem? (i := 286) (by decide +kernel)
theorem mJ6_bitCount_0f7a4 : gmt yJ6_bitCount_0f7a4 cJ6_bitCount_0f7a4 1 (some .int) 1 := ⟨List.mem_of_getElem? (i := 287) (by decide +kernel), List.mem_of_getElem? (i := 44) (by decide +kernel), ⟨by decide, by decide⟩, by decide +kernel, by decide⟩
theorem nJ6_265 : Cond.constant RJ6 265 (1431655765) ∈ lw_tbl := List.mem_of_getElem? (i := 288) (by decide +kernel)
theorem nJ6_266 : Cond.constant RJ6 266 (858993459) ∈ lw_tbl := List.mem_of_getElem? (i := 289) (by decide +kernel)
theorem nJ6_267 : Cond.constant RJ6 267 (252645135) ∈ lw_tbl := List.mem_of_getElem? (i := 290) (by decide +kernel)
theorem kL_18 : glk RL 18 yX8_die := Or.inl (List.mem_of_getElem? (i := 291) (by decide +kernel))
theorem iX8_die : Cond.instanceMethod yX8_die ∈ lw_tbl := List.mem_of_getElem? (i := 292) (by decide +kernel)
theorem sX8_die : Cond.selects yX8_die.cls yX8_die yX8_die ∈ lw_tbl := List.mem_of_getElem? (i := 293) (by decide +kernel)
theorem mX8_die : gmt yX8_die cX8_die 2 (some .int) 1 := ⟨List.mem_of_getElem? (i := 294) (by decide +kernel), List.mem_of_getElem? (i := 34) (by decide +kernel), ⟨by decide, by decide⟩, by decide +kernel, by decide⟩
theorem kX8_73 : glk RX8 73 yX1_has := Or.inl (List.mem_of_getElem? (i := 295) (by decide +kernel))
theorem iX1_has : Cond.instanceMethod yX1_has ∈ lw_tbl := List.mem_of_getElem? (i := 296) (by decide +kernel)
theorem sX1_has : Cond.selects yX1_has.cls yX1_has yX1_has ∈ lw_tbl := List.mem_of_getElem? (i := 297) (by decide +kernel)
theorem mX1_has : gmt yX1_has cX1_has 2 (some .boolean) 1 := ⟨List.mem_of_getElem? (i := 298) (by decide +kernel), List.mem_of_getElem? (i := 36) (by decide +kernel), ⟨by decide, by decide⟩, by decide +kernel, by decide⟩
theorem kX1_27 : glk RX1 27 yX8_isIn := Or.inr ⟨"SignedSheets", List.mem_of_getElem? (i := 299) (by decide +kernel)⟩
theorem kX8_77 : glk RX8 77 yX1_leave := Or.inl (List.mem_of_getElem? (i := 300) (by decide +kernel))
theorem iX1_leave : Cond.instanceMethod yX1_leave ∈ lw_tbl := List.mem_of_getElem? (i := 301) (by decide +kernel)
theorem sX1_leave : Cond.selects yX1_leave.cls yX1_leave yX1_leave ∈ lw_tbl := List.mem_of_getElem? (i := 302) (by decide +kernel)
theorem mX1_leave : gmt yX1_leave cX1_leave 3 none 1 := ⟨List.mem_of_getElem? (i := 303) (by decide +kernel), List.mem_of_getElem? (i := 36) (by decide +kernel), ⟨by decide, by decide⟩, by decide +kernel, by decide⟩
theorem kL_23 : glk RL 23 yX8_weight := Or.inl (List.mem_of_getElem? (i := 304) (by decide +kernel))
theorem iX8_weight : Cond.instanceMethod yX8_weight ∈ lw_tbl := List.mem_of_getElem? (i := 305) (by decide +kernel)
theorem sX8_weight : Cond.selects yX8_weight.cls yX8_weight yX8_weight ∈ lw_tbl := List.mem_of_getElem? (i := 306) (by decide +kernel)
theorem mX8_weight : gmt yX8_weight cX8_weight 4 (some .int) 2 := ⟨List.mem_of_getElem? (i := 307) (by decide +kernel), List.mem_of_getElem? (i := 34) (by decide +kernel), ⟨by decide, by decide⟩, by decide +kernel, by decide⟩
theorem kX8_85 : glk RX8 85 yX7_weightOfAll := Or.inl (List.mem_of_getElem? (i := 308) (by decide +kernel))
theorem iX7_weightOfAll : Cond.instanceMethod yX7_weightOfAll ∈ lw_tbl := List.mem_of_getElem? (i := 309) (by decide +kernel)
theorem sX7_weightOfAll : Cond.selects yX7_weightOfAll.cls yX7_weightOfAll yX7_weightOfAll ∈ lw_tbl := List.mem_of_getElem? (i := 310) (by decide +kernel)
theorem mX7_weightOfAll : gmt yX7_weightOfAll cX7_weightOfAll 3 (some .int) 0 := ⟨List.mem_of_getElem? (i := 311) (by decide +kernel), List.mem_of_getElem? (i := 35) (by decide +kernel), ⟨by decide, by decide⟩, by decide +kernel, by decide⟩
theorem kX8_88 : glk RX8 88 yX6_forgetValues := Or.inl (List.mem_of_getElem? (i := 312) (by decide +kernel))
theorem iX6_forgetValues : Cond.instanceMethod yX6_forgetValues ∈ lw_tbl := List.mem_of_getElem? (i := 313) (by decide +kernel)
theorem sX6_forgetValues : Cond.selects yX6_forgetValues.cls yX6_forgetValues yX6_forgetValues ∈ lw_tbl := List.mem_of_getElem? (i := 314) (by decide +kernel)
theorem mX6_forgetValues : gmt yX6_forgetValues cX6_forgetValues 1 none 0 := ⟨List.mem_of_getElem? (i := 315) (by decide +kernel), List.mem_of_getElem? (i := 40) (by decide +kernel), ⟨by decide, by decide⟩, by decide +kernel, by decide⟩
theorem kL_28 : glk RL 28 yX8_say := Or.inl (List.mem_of_getElem? (i := 316) (by decide +kernel))
theorem iX8_say : Cond.instanceMethod yX8_say ∈ lw_tbl := List.mem_of_getElem? (i := 317) (by decide +kernel)
theorem sX8_say : Cond.selects yX8_say.cls yX8_say yX8_say ∈ lw_tbl := List.mem_of_getElem? (i := 318) (by decide +kernel)
theorem mX8_say : gmt yX8_say cX8_say 2 (some .int) 1 := ⟨List.mem_of_getElem? (i := 319) (by decide +kernel), List.mem_of_getElem? (i := 34) (by decide +kernel), ⟨by decide, by decide⟩, by decide +kernel, by decide⟩
theorem kX8_94 : glk RX8 94 yX5_add := Or.inl (List.mem_of_getElem? (i := 320) (by decide +kernel))
theorem iX5_add : Cond.instanceMethod yX5_add ∈ lw_tbl := List.mem_of_getElem? (i := 321) (by decide +kernel)
theorem sX5_add : Cond.selects yX5_add.cls yX5_add yX5_add ∈ lw_tbl := List.mem_of_getElem? (i := 322) (by decide +kernel)
theorem mX5_add : gmt yX5_add cX5_add 2 none 1 := ⟨List.mem_of_getElem? (i := 323) (by decide +kernel), List.mem_of_getElem? (i := 37) (by decide +kernel), ⟨by decide, by decide⟩, by decide +kernel, by decide⟩
theorem kL_32 : glk RL 32 yX8_wipe := Or.inl (List.mem_of_getElem? (i := 324) (by decide +kernel))
theorem iX8_wipe : Cond.instanceMethod yX8_wipe ∈ lw_tbl := List.mem_of_getElem? (i := 325) (by decide +kernel)
theorem sX8_wipe : Cond.selects yX8_wipe.cls yX8_wipe yX8_wipe ∈ lw_tbl := List.mem_of_getElem? (i := 326) (by decide +kernel)
theorem mX8_wipe : gmt yX8_wipe cX8_wipe 2 (some .int) 0 := ⟨List.mem_of_getElem? (i := 327) (by decide +kernel), List.mem_of_getElem? (i := 34) (by decide +kernel), ⟨by decide, by decide⟩, by decide +kernel, by decide⟩
theorem kL_37 : glk RL 37 yX8_fault := Or.inl (List.mem_of_getElem? (i := 328) (by decide +kernel))
theorem iX8_fault : Cond.instanceMethod yX8_fault ∈ lw_tbl := List.mem_of_getElem? (i := 329) (by decide +kernel)
theorem sX8_fault : Cond.selects yX8_fault.cls yX8_fault yX8_fault ∈ lw_tbl := List.mem_of_getElem? (i := 330) (by decide +kernel)
theorem mX8_fault : gmt yX8_fault cX8_fault 1 (some .int) 0 := ⟨List.mem_of_getElem? (i := 331) (by decide +kernel), List.mem_of_getElem? (i := 34) (by decide +kernel), ⟨by decide, by decide⟩, by decide +kernel, by decide⟩
theorem kX8_97 : glk RX8 97 yX5_firstFault := Or.inl (List.mem_of_getElem? (i := 332) (by decide +kernel))
theorem iX5_firstFault : Cond.instanceMethod yX5_firstFault ∈ lw_tbl := List.mem_of_getElem? (i := 333) (by decide +kernel)
theorem sX5_firstFault : Cond.selects yX5_firstFault.cls yX5_firstFault yX5_firstFault ∈ lw_tbl := List.mem_of_getElem? (i := 334) (by decide +kernel)
theorem mX5_firstFault : gmt yX5_firstFault cX5_firstFault 3 (some .int) 0 := ⟨List.mem_of_getElem? (i := 335) (by decide +kernel), List.mem_of_getElem? (i := 37) (by decide +kernel), ⟨by decide, by decide⟩, by decide +kernel, by decide⟩
theorem kX5_19 : glk RX5 19 yX5_awaitedBehind := Or.inl (List.mem_of_getElem? (i := 336) (by decide +kernel))
theorem tX5_awaitedBehind : Cond.static yX5_awaitedBehind ∈ lw_tbl := List.mem_of_getElem? (i := 337) (by decide +kernel)
theorem mX5_awaitedBehind : gmt yX5_awaitedBehind cX5_awaitedBehind 2 (some .int) 2 := ⟨List.mem_of_getElem? (i := 338) (by decide +kernel), List.mem_of_getElem? (i := 37) (by decide +kernel), ⟨by decide, by decide⟩, by decide +kernel, by decide⟩
theorem kX5_23 : glk RX5 23 yX5_isLetter := Or.inl (List.mem_of_getElem? (i := 339) (by decide +kernel))
theorem tX5_isLetter : Cond.static yX5_isLetter ∈ lw_tbl := List.mem_of_getElem? (i := 340) (by decide +kernel)
theorem mX5_isLetter : gmt yX5_isLetter cX5_isLetter 1 (some .boolean) 1 := ⟨List.mem_of_getElem? (i := 341) (by decide +kernel), List.mem_of_getElem? (i := 37) (by decide +kernel), ⟨by decide, by decide⟩, by decide +kernel, by decide⟩
theorem kX5_34 : glk RX5 34 yX8_isIn := Or.inr ⟨"SignedSheets", List.mem_of_getElem? (i := 342) (by decide +kernel)⟩
theorem kX5_27 : glk RX5 27 yX5_awaitedBehindDeed := Or.inl (List.mem_of_getElem? (i := 343) (by decide +kernel))
theorem tX5_awaitedBehindDeed : Cond.static yX5_awaitedBehindDeed ∈ lw_tbl := List.mem_of_getElem? (i := 344) (by decide +kernel)
theorem mX5_awaitedBehindDeed : gmt yX5_awaitedBehindDeed cX5_awaitedBehindDeed 1 (some .int) 1 := ⟨List.mem_of_getElem? (i := 345) (by decide +kernel), List.mem_of_getElem? (i := 37) (by decide +kernel), ⟨by decide, by decide⟩, by decide +kernel, by decide⟩
theorem kX5_31 : glk RX5 31 yX5_isDigit := Or.inl (List.mem_of_getElem? (i := 346) (by decide +kernel))
theorem tX5_isDigit : Cond.static yX5_isDigit ∈ lw_tbl := List.mem_of_getElem? (i := 347) (by decide +kernel)
theorem mX5_isDigit : gmt yX5_isDigit cX5_isDigit 1 (some .boolean) 1 := ⟨List.mem_of_getElem? (i := 348) (by decide +kernel), List.mem_of_getElem? (i := 37) (by decide +kernel), ⟨by decide, by decide⟩, by decide +kernel, by decide⟩
theorem kL_41 : glk RL 41 yX8_judge := Or.inl (List.mem_of_getElem? (i := 349) (by decide +kernel))
theorem iX8_judge : Cond.instanceMethod yX8_judge ∈ lw_tbl := List.mem_of_getElem? (i := 350) (by decide +kernel)
theorem sX8_judge : Cond.selects yX8_judge.cls yX8_judge yX8_judge ∈ lw_tbl := List.mem_of_getElem? (i := 351) (by decide +kernel)
theorem mX8_judge : gmt yX8_judge cX8_judge 2 (some .int) 1 := ⟨List.mem_of_getElem? (i := 352) (by decide +kernel), List.mem_of_getElem? (i := 34) (by decide +kernel), ⟨by decide, by decide⟩, by decide +kernel, by decide⟩
theorem kX8_100 : glk RX8 100 yX2_tell := Or.inl (List.mem_of_getElem? (i := 353) (by decide +kernel))
theorem iX2_tell : Cond.instanceMethod yX2_tell ∈ lw_tbl := List.mem_of_getElem? (i := 354) (by decide +kernel)
theorem sX2_tell : Cond.selects yX2_tell.cls yX2_tell yX2_tell ∈ lw_tbl := List.mem_of_getElem? (i := 355) (by decide +kernel)
theorem mX2_tell : gmt yX2_tell cX2_tell 5 none 2 := ⟨List.mem_of_getElem? (i := 356) (by decide +kernel), List.mem_of_getElem? (i := 38) (by decide +kernel), ⟨by decide, by decide⟩, by decide +kernel, by decide⟩
theorem kX2_25 : glk RX2 25 yX1_copyFrom := Or.inl (List.mem_of_getElem? (i := 357) (by decide +kernel))
theorem iX1_copyFrom : Cond.instanceMethod yX1_copyFrom ∈ lw_tbl := List.mem_of_getElem? (i := 358) (by decide +kernel)
theorem sX1_copyFrom : Cond.selects yX1_copyFrom.cls yX1_copyFrom yX1_copyFrom ∈ lw_tbl := List.mem_of_getElem? (i := 359) (by decide +kernel)
theorem mX1_copyFrom : gmt yX1_copyFrom cX1_copyFrom 2 none 1 := ⟨List.mem_of_getElem? (i := 360) (by decide +kernel), List.mem_of_getElem? (i := 36) (by decide +kernel), ⟨by decide, by decide⟩, by decide +kernel, by decide⟩
theorem kX1_44 : Cond.methodLink RX1 44 arraycopyName ∈ lw_tbl := List.mem_of_getElem? (i := 361) (by decide +kernel)
theorem tcopy : Cond.static arraycopyName ∈ lw_tbl := List.mem_of_getElem? (i := 362) (by decide +kernel)
theorem kX2_50 : glk RX2 50 yX0_read := Or.inl (List.mem_of_getElem? (i := 364) (by decide +kernel))
theorem iX0_read : Cond.instanceMethod yX0_read ∈ lw_tbl := List.mem_of_getElem? (i := 365) (by decide +kernel)
theorem sX0_read : Cond.selects yX0_read.cls yX0_read yX0_read ∈ lw_tbl := List.mem_of_getElem? (i := 366) (by decide +kernel)
theorem mX0_read : gmt yX0_read cX0_read 3 none 2 := ⟨List.mem_of_getElem? (i := 367) (by decide +kernel), List.mem_of_getElem? (i := 39) (by decide +kernel), ⟨by decide, by decide⟩, by decide +kernel, by decide⟩
theorem kX0_9 : glk RX0 9 yX5_signAt := Or.inl (List.mem_of_getElem? (i := 368) (by decide +kernel))
theorem iX5_signAt : Cond.instanceMethod yX5_signAt ∈ lw_tbl := List.mem_of_getElem? (i := 369) (by decide +kernel)
theorem sX5_signAt : Cond.selects yX5_signAt.cls yX5_signAt yX5_signAt ∈ lw_tbl := List.mem_of_getElem? (i := 370) (by decide +kernel)
theorem mX5_signAt : gmt yX5_signAt cX5_signAt 2 (some .int) 1 := ⟨List.mem_of_getElem? (i := 371) (by decide +kernel), List.mem_of_getElem? (i := 37) (by decide +kernel), ⟨by decide, by decide⟩, by decide +kernel, by decide⟩
theorem kX0_33 : glk RX0 33 yX5_isDigit := Or.inl (List.mem_of_getElem? (i := 372) (by decide +kernel))
theorem kX2_57 : glk RX2 57 yX2_tellAct := Or.inl (List.mem_of_getElem? (i := 373) (by decide +kernel))
theorem iX2_tellAct : Cond.instanceMethod yX2_tellAct ∈ lw_tbl := List.mem_of_getElem? (i := 375) (by decide +kernel)
theorem mX2_tellAct : gmt yX2_tellAct cX2_tellAct 3 none 0 := ⟨List.mem_of_getElem? (i := 376) (by decide +kernel), List.mem_of_getElem? (i := 38) (by decide +kernel), ⟨by decide, by decide⟩, by decide +kernel, by decide⟩
theorem kX2_60 : glk RX2 60 yX0_obstacle := Or.inl (List.mem_of_getElem? (i := 377) (by decide +kernel))
theorem iX0_obstacle : Cond.instanceMethod yX0_obstacle ∈ lw_tbl := List.mem_of_getElem? (i := 378) (by decide +kernel)
theorem sX0_obstacle : Cond.selects yX0_obstacle.cls yX0_obstacle yX0_obstacle ∈ lw_tbl := List.mem_of_getElem? (i := 379) (by decide +kernel)
theorem mX0_obstacle : gmt yX0_obstacle cX0_obstacle 2 (some .int) 1 := ⟨List.mem_of_getElem? (i := 380) (by decide +kernel), List.mem_of_getElem? (i := 39) (by decide +kernel), ⟨by decide, by decide⟩, by decide +kernel, by decide⟩
theorem kX0_42 : glk RX0 42 yX1_has := Or.inl (List.mem_of_getElem? (i := 381) (by decide +kernel))
theorem kX0_45 : glk RX0 45 yX0_isOfTwo := Or.inl (List.mem_of_getElem? (i := 382) (by decide +kernel))
theorem iX0_isOfTwo : Cond.instanceMethod yX0_isOfTwo ∈ lw_tbl := List.mem_of_getElem? (i := 383) (by decide +kernel)
theorem sX0_isOfTwo : Cond.selects yX0_isOfTwo.cls yX0_isOfTwo yX0_isOfTwo ∈ lw_tbl := List.mem_of_getElem? (i := 384) (by decide +kernel)
theorem mX0_isOfTwo : gmt yX0_isOfTwo cX0_isOfTwo 1 (some .boolean) 0 := ⟨List.mem_of_getElem? (i := 385) (by decide +kernel), List.mem_of_getElem? (i := 39) (by decide +kernel), ⟨by decide, by decide⟩, by decide +kernel, by decide⟩
theorem kX0_53 : glk RX0 53 yX0_sheetsNeeded := Or.inl (List.mem_of_getElem? (i := 386) (by decide +kernel))
theorem iX0_sheetsNeeded : Cond.instanceMethod yX0_sheetsNeeded ∈ lw_tbl := List.mem_of_getElem? (i := 387) (by decide +kernel)
theorem sX0_sheetsNeeded : Cond.selects yX0_sheetsNeeded.cls yX0_sheetsNeeded yX0_sheetsNeeded ∈ lw_tbl := List.mem_of_getElem? (i := 388) (by decide +kernel)
theorem mX0_sheetsNeeded : gmt yX0_sheetsNeeded cX0_sheetsNeeded 1 (some .int) 0 := ⟨List.mem_of_getElem? (i := 389) (by decide +kernel), List.mem_of_getElem? (i := 39) (by decide +kernel), ⟨by decide, by decide⟩, by decide +kernel, by decide⟩
theorem kX0_57 : glk RX0 57 yX1_debt := Or.inl (List.mem_of_getElem? (i := 390) (by decide +kernel))
theorem iX1_debt : Cond.instanceMethod yX1_debt ∈ lw_tbl := List.mem_of_getElem? (i := 391) (by decide +kernel)
theorem sX1_debt : Cond.selects yX1_debt.cls yX1_debt yX1_debt ∈ lw_tbl := List.mem_of_getElem? (i := 392) (by decide +kernel)
theorem mX1_debt : gmt yX1_debt cX1_debt 3 (some .int) 2 := ⟨List.mem_of_getElem? (i := 393) (by decide +kernel), List.mem_of_getElem? (i := 36) (by decide +kernel), ⟨by decide, by decide⟩, by decide +kernel, by decide⟩
theorem kX2_64 : glk RX2 64 yX1_bare := Or.inl (List.mem_of_getElem? (i := 394) (by decide +kernel))
theorem iX1_bare : Cond.instanceMethod yX1_bare ∈ lw_tbl := List.mem_of_getElem? (i := 395) (by decide +kernel)
theorem sX1_bare : Cond.selects yX1_bare.cls yX1_bare yX1_bare ∈ lw_tbl := List.mem_of_getElem? (i := 396) (by decide +kernel)
theorem mX1_bare : gmt yX1_bare cX1_bare 3 (some .int) 0 := ⟨List.mem_of_getElem? (i := 397) (by decide +kernel), List.mem_of_getElem? (i := 36) (by decide +kernel), ⟨by decide, by decide⟩, by decide +kernel, by decide⟩
theorem kX1_63 : glk RX1 63 yX1_has := Or.inl (List.mem_of_getElem? (i := 398) (by decide +kernel))
theorem kX2_68 : glk RX2 68 yX0_apply := Or.inl (List.mem_of_getElem? (i := 399) (by decide +kernel))
theorem iX0_apply : Cond.instanceMethod yX0_apply ∈ lw_tbl := List.mem_of_getElem? (i := 400) (by decide +kernel)
theorem sX0_apply : Cond.selects yX0_apply.cls yX0_apply yX0_apply ∈ lw_tbl := List.mem_of_getElem? (i := 401) (by decide +kernel)
theorem mX0_apply : gmt yX0_apply cX0_apply 2 none 1 := ⟨List.mem_of_getElem? (i := 402) (by decide +kernel), List.mem_of_getElem? (i := 39) (by decide +kernel), ⟨by decide, by decide⟩, by decide +kernel, by decide⟩
theorem kX0_61 : glk RX0 61 yX1_signAct := Or.inl (List.mem_of_getElem? (i := 403) (by decide +kernel))
theorem iX1_signAct : Cond.instanceMethod yX1_signAct ∈ lw_tbl := List.mem_of_getElem? (i := 404) (by decide +kernel)
theorem sX1_signAct : Cond.selects yX1_signAct.cls yX1_signAct yX1_signAct ∈ lw_tbl := List.mem_of_getElem? (i := 405) (by decide +kernel)
theorem mX1_signAct : gmt yX1_signAct cX1_signAct 3 none 2 := ⟨List.mem_of_getElem? (i := 406) (by decide +kernel), List.mem_of_getElem? (i := 36) (by decide +kernel), ⟨by decide, by decide⟩, by decide +kernel, by decide⟩
theorem kX1_54 : glk RX1 54 yX1_earn := Or.inl (List.mem_of_getElem? (i := 407) (by decide +kernel))
theorem iX1_earn : Cond.instanceMethod yX1_earn ∈ lw_tbl := List.mem_of_getElem? (i := 408) (by decide +kernel)
theorem sX1_earn : Cond.selects yX1_earn.cls yX1_earn yX1_earn ∈ lw_tbl := List.mem_of_getElem? (i := 409) (by decide +kernel)
theorem mX1_earn : gmt yX1_earn cX1_earn 3 none 2 := ⟨List.mem_of_getElem? (i := 410) (by decide +kernel), List.mem_of_getElem? (i := 36) (by decide +kernel), ⟨by decide, by decide⟩, by decide +kernel, by decide⟩
theorem kX1_58 : glk RX1 58 yJ9_min_7cf53 := Or.inl (List.mem_of_getElem? (i := 411) (by decide +kernel))
theorem tJ9_min_7cf53 : Cond.static yJ9_min_7cf53 ∈ lw_tbl := List.mem_of_getElem? (i := 412) (by decide +kernel)
theorem mJ9_min_7cf53 : gmt yJ9_min_7cf53 cJ9_min_7cf53 2 (some .int) 2 := ⟨List.mem_of_getElem? (i := 413) (by decide +kernel), List.mem_of_getElem? (i := 46) (by decide +kernel), ⟨by decide, by decide⟩, by decide +kernel, by decide⟩
theorem kX0_65 : glk RX0 65 yX1_forgeAct := Or.inl (List.mem_of_getElem? (i := 414) (by decide +kernel))
theorem iX1_forgeAct : Cond.instanceMethod yX1_forgeAct ∈ lw_tbl := List.mem_of_getElem? (i := 415) (by decide +kernel)
theorem sX1_forgeAct : Cond.selects yX1_forgeAct.cls yX1_forgeAct yX1_forgeAct ∈ lw_tbl := List.mem_of_getElem? (i := 416) (by decide +kernel)
theorem mX1_forgeAct : gmt yX1_forgeAct cX1_forgeAct 3 none 2 := ⟨List.mem_of_getElem? (i := 417) (by decide +kernel), List.mem_of_getElem? (i := 36) (by decide +kernel), ⟨by decide, by decide⟩, by decide +kernel, by decide⟩
theorem kX0_68 : glk RX0 68 yX1_move := Or.inl (List.mem_of_getElem? (i := 418) (by decide +kernel))
theorem iX1_move : Cond.instanceMethod yX1_move ∈ lw_tbl := List.mem_of_getElem? (i := 419) (by decide +kernel)
theorem sX1_move : Cond.selects yX1_move.cls yX1_move yX1_move ∈ lw_tbl := List.mem_of_getElem? (i := 420) (by decide +kernel)
theorem mX1_move : gmt yX1_move cX1_move 4 none 3 := ⟨List.mem_of_getElem? (i := 421) (by decide +kernel), List.mem_of_getElem? (i := 36) (by decide +kernel), ⟨by decide, by decide⟩, by decide +kernel, by decide⟩
theorem kX0_72 : glk RX0 72 yX1_owe := Or.inl (List.mem_of_getElem? (i := 422) (by decide +kernel))
theorem iX1_owe : Cond.instanceMethod yX1_owe ∈ lw_tbl := List.mem_of_getElem? (i := 423) (by decide +kernel)
theorem sX1_owe : Cond.selects yX1_owe.cls yX1_owe yX1_owe ∈ lw_tbl := List.mem_of_getElem? (i := 424) (by decide +kernel)
theorem mX1_owe : gmt yX1_owe cX1_owe 4 none 3 := ⟨List.mem_of_getElem? (i := 425) (by decide +kernel), List.mem_of_getElem? (i := 36) (by decide +kernel), ⟨by decide, by decide⟩, by decide +kernel, by decide⟩
theorem kL_45 : glk RL 45 yX8_done := Or.inl (List.mem_of_getElem? (i := 426) (by decide +kernel))
theorem iX8_done : Cond.instanceMethod yX8_done ∈ lw_tbl := List.mem_of_getElem? (i := 427) (by decide +kernel)
theorem sX8_done : Cond.selects yX8_done.cls yX8_done yX8_done ∈ lw_tbl := List.mem_of_getElem? (i := 428) (by decide +kernel)
theorem mX8_done : gmt yX8_done cX8_done 1 (some .int) 0 := ⟨List.mem_of_getElem? (i := 429) (by decide +kernel), List.mem_of_getElem? (i := 34) (by decide +kernel), ⟨by decide, by decide⟩, by decide +kernel, by decide⟩
theorem kX8_110 : glk RX8 110 yX8_allCanBe := Or.inl (List.mem_of_getElem? (i := 430) (by decide +kernel))
theorem iX8_allCanBe : Cond.instanceMethod yX8_allCanBe ∈ lw_tbl := List.mem_of_getElem? (i := 432) (by decide +kernel)
theorem mX8_allCanBe : gmt yX8_allCanBe cX8_allCanBe 1 (some .boolean) 0 := ⟨List.mem_of_getElem? (i := 433) (by decide +kernel), List.mem_of_getElem? (i := 34) (by decide +kernel), ⟨by decide, by decide⟩, by decide +kernel, by decide⟩
theorem kX8_117 : glk RX8 117 yX1_copyFrom := Or.inl (List.mem_of_getElem? (i := 434) (by decide +kernel))
theorem kL_49 : glk RL 49 yX8_state := Or.inl (List.mem_of_getElem? (i := 435) (by decide +kernel))
theorem iX8_state : Cond.instanceMethod yX8_state ∈ lw_tbl := List.mem_of_getElem? (i := 436) (by decide +kernel)
theorem sX8_state : Cond.selects yX8_state.cls yX8_state yX8_state ∈ lw_tbl := List.mem_of_getElem? (i := 437) (by decide +kernel)
theorem mX8_state : gmt yX8_state cX8_state 3 (some .int) 2 := ⟨List.mem_of_getElem? (i := 438) (by decide +kernel), List.mem_of_getElem? (i := 34) (by decide +kernel), ⟨by decide, by decide⟩, by decide +kernel, by decide⟩
theorem kX8_124 : glk RX8 124 yX1_holding := Or.inl (List.mem_of_getElem? (i := 439) (by decide +kernel))
theorem iX1_holding : Cond.instanceMethod yX1_holding ∈ lw_tbl := List.mem_of_getElem? (i := 440) (by decide +kernel)
theorem sX1_holding : Cond.selects yX1_holding.cls yX1_holding yX1_holding ∈ lw_tbl := List.mem_of_getElem? (i := 441) (by decide +kernel)
theorem mX1_holding : gmt yX1_holding cX1_holding 3 (some .int) 2 := ⟨List.mem_of_getElem? (i := 442) (by decide +kernel), List.mem_of_getElem? (i := 36) (by decide +kernel), ⟨by decide, by decide⟩, by decide +kernel, by decide⟩
theorem kL_53 : glk RL 53 yX8_behind := Or.inl (List.mem_of_getElem? (i := 443) (by decide +kernel))
theorem iX8_behind : Cond.instanceMethod yX8_behind ∈ lw_tbl := List.mem_of_getElem? (i := 444) (by decide +kernel)
theorem sX8_behind : Cond.selects yX8_behind.cls yX8_behind yX8_behind ∈ lw_tbl := List.mem_of_getElem? (i := 445) (by decide +kernel)
theorem mX8_behind : gmt yX8_behind cX8_behind 3 (some .int) 2 := ⟨List.mem_of_getElem? (i := 446) (by decide +kernel), List.mem_of_getElem? (i := 34) (by decide +kernel), ⟨by decide, by decide⟩, by decide +kernel, by decide⟩
theorem kL_57 : glk RL 57 yX8_acts := Or.inl (List.mem_of_getElem? (i := 447) (by decide +kernel))
theorem iX8_acts : Cond.instanceMethod yX8_acts ∈ lw_tbl := List.mem_of_getElem? (i := 448) (by decide +kernel)
theorem sX8_acts : Cond.selects yX8_acts.cls yX8_acts yX8_acts ∈ lw_tbl := List.mem_of_getElem? (i := 449) (by decide +kernel)
theorem mX8_acts : gmt yX8_acts cX8_acts 2 (some .int) 1 := ⟨List.mem_of_getElem? (i := 450) (by decide +kernel), List.mem_of_getElem? (i := 34) (by decide +kernel), ⟨by decide, by decide⟩, by decide +kernel, by decide⟩
theorem kL_61 : glk RL 61 yX8_owes := Or.inl (List.mem_of_getElem? (i := 451) (by decide +kernel))
theorem iX8_owes : Cond.instanceMethod yX8_owes ∈ lw_tbl := List.mem_of_getElem? (i := 452) (by decide +kernel)
theorem sX8_owes : Cond.selects yX8_owes.cls yX8_owes yX8_owes ∈ lw_tbl := List.mem_of_getElem? (i := 453) (by decide +kernel)
theorem mX8_owes : gmt yX8_owes cX8_owes 3 (some .int) 2 := ⟨List.mem_of_getElem? (i := 454) (by decide +kernel), List.mem_of_getElem? (i := 34) (by decide +kernel), ⟨by decide, by decide⟩, by decide +kernel, by decide⟩
theorem kX8_134 : glk RX8 134 yX1_debt := Or.inl (List.mem_of_getElem? (i := 455) (by decide +kernel))
theorem kL_65 : glk RL 65 yX8_who := Or.inl (List.mem_of_getElem? (i := 456) (by decide +kernel))
theorem iX8_who : Cond.instanceMethod yX8_who ∈ lw_tbl := List.mem_of_getElem? (i := 457) (by decide +kernel)
theorem sX8_who : Cond.selects yX8_who.cls yX8_who yX8_who ∈ lw_tbl := List.mem_of_getElem? (i := 458) (by decide +kernel)
theorem mX8_who : gmt yX8_who cX8_who 2 (some .int) 1 := ⟨List.mem_of_getElem? (i := 459) (by decide +kernel), List.mem_of_getElem? (i := 34) (by decide +kernel), ⟨by decide, by decide⟩, by decide +kernel, by decide⟩
theorem kX8_137 : glk RX8 137 yX1_richest := Or.inl (List.mem_of_getElem? (i := 460) (by decide +kernel))
theorem iX1_richest : Cond.instanceMethod yX1_richest ∈ lw_tbl := List.mem_of_getElem? (i := 461) (by decide +kernel)
theorem sX1_richest : Cond.selects yX1_richest.cls yX1_richest yX1_richest ∈ lw_tbl := List.mem_of_getElem? (i := 462) (by decide +kernel)
theorem mX1_richest : gmt yX1_richest cX1_richest 4 (some .int) 0 := ⟨List.mem_of_getElem? (i := 463) (by decide +kernel), List.mem_of_getElem? (i := 36) (by decide +kernel), ⟨by decide, by decide⟩, by decide +kernel, by decide⟩
theorem kX8_140 : glk RX8 140 yX1_honest := Or.inl (List.mem_of_getElem? (i := 464) (by decide +kernel))
theorem iX1_honest : Cond.instanceMethod yX1_honest ∈ lw_tbl := List.mem_of_getElem? (i := 465) (by decide +kernel)
theorem sX1_honest : Cond.selects yX1_honest.cls yX1_honest yX1_honest ∈ lw_tbl := List.mem_of_getElem? (i := 466) (by decide +kernel)
theorem mX1_honest : gmt yX1_honest cX1_honest 3 (some .int) 0 := ⟨List.mem_of_getElem? (i := 467) (by decide +kernel), List.mem_of_getElem? (i := 36) (by decide +kernel), ⟨by decide, by decide⟩, by decide +kernel, by decide⟩
theorem kL_69 : glk RL 69 yX8_best := Or.inl (List.mem_of_getElem? (i := 468) (by decide +kernel))
theorem iX8_best : Cond.instanceMethod yX8_best ∈ lw_tbl := List.mem_of_getElem? (i := 469) (by decide +kernel)
theorem sX8_best : Cond.selects yX8_best.cls yX8_best yX8_best ∈ lw_tbl := List.mem_of_getElem? (i := 470) (by decide +kernel)
theorem mX8_best : gmt yX8_best cX8_best 4 (some .long) 3 := ⟨List.mem_of_getElem? (i := 471) (by decide +kernel), List.mem_of_getElem? (i := 34) (by decide +kernel), ⟨by decide, by decide⟩, by decide +kernel, by decide⟩
theorem kX8_143 : glk RX8 143 yX8_isPlan := Or.inl (List.mem_of_getElem? (i := 472) (by decide +kernel))
theorem tX8_isPlan : Cond.static yX8_isPlan ∈ lw_tbl := List.mem_of_getElem? (i := 473) (by decide +kernel)
theorem mX8_isPlan : gmt yX8_isPlan cX8_isPlan 2 (some .boolean) 2 := ⟨List.mem_of_getElem? (i := 474) (by decide +kernel), List.mem_of_getElem? (i := 34) (by decide +kernel), ⟨by decide, by decide⟩, by decide +kernel, by decide⟩
theorem nX8_147 : Cond.constantLong RX8 147 (-1000000000000000002) ∈ lw_tbl := List.mem_of_getElem? (i := 475) (by decide +kernel)
theorem kX8_149 : glk RX8 149 yX6_learn := Or.inl (List.mem_of_getElem? (i := 476) (by decide +kernel))
theorem iX6_learn : Cond.instanceMethod yX6_learn ∈ lw_tbl := List.mem_of_getElem? (i := 477) (by decide +kernel)
theorem sX6_learn : Cond.selects yX6_learn.cls yX6_learn yX6_learn ∈ lw_tbl := List.mem_of_getElem? (i := 478) (by decide +kernel)
theorem mX6_learn : gmt yX6_learn cX6_learn 5 none 1 := ⟨List.mem_of_getElem? (i := 479) (by decide +kernel), List.mem_of_getElem? (i := 40) (by decide +kernel), ⟨by decide, by decide⟩, by decide +kernel, by decide⟩
theorem kX6_22 : glk RX6 22 yX7_weightOfAll := Or.inl (List.mem_of_getElem? (i := 480) (by decide +kernel))
theorem kX6_32 : glk RX6 32 yX6_meanOfBetter := Or.inl (List.mem_of_getElem? (i := 481) (by decide +kernel))
theorem iX6_meanOfBetter : Cond.instanceMethod yX6_meanOfBetter ∈ lw_tbl := List.mem_of_getElem? (i := 483) (by decide +kernel)
theorem mX6_meanOfBetter : gmt yX6_meanOfBetter cX6_meanOfBetter 7 (some .long) 3 := ⟨List.mem_of_getElem? (i := 484) (by decide +kernel), List.mem_of_getElem? (i := 40) (by decide +kernel), ⟨by decide, by decide⟩, by decide +kernel, by decide⟩
theorem kX6_36 : glk RX6 36 yX6_value := Or.inl (List.mem_of_getElem? (i := 485) (by decide +kernel))
theorem iX6_value : Cond.instanceMethod yX6_value ∈ lw_tbl := List.mem_of_getElem? (i := 486) (by decide +kernel)
theorem sX6_value : Cond.selects yX6_value.cls yX6_value yX6_value ∈ lw_tbl := List.mem_of_getElem? (i := 487) (by decide +kernel)
theorem mX6_value : gmt yX6_value cX6_value 3 (some .long) 2 := ⟨List.mem_of_getElem? (i := 488) (by decide +kernel), List.mem_of_getElem? (i := 40) (by decide +kernel), ⟨by decide, by decide⟩, by decide +kernel, by decide⟩
theorem kX6_40 : glk RX6 40 yX6_valueOfSigning := Or.inl (List.mem_of_getElem? (i := 489) (by decide +kernel))
theorem iX6_valueOfSigning : Cond.instanceMethod yX6_valueOfSigning ∈ lw_tbl := List.mem_of_getElem? (i := 491) (by decide +kernel)
theorem mX6_valueOfSigning : gmt yX6_valueOfSigning cX6_valueOfSigning 4 (some .long) 3 := ⟨List.mem_of_getElem? (i := 492) (by decide +kernel), List.mem_of_getElem? (i := 40) (by decide +kernel), ⟨by decide, by decide⟩, by decide +kernel, by decide⟩
theorem kX6_44 : glk RX6 44 yJ9_max_f86c9 := Or.inl (List.mem_of_getElem? (i := 493) (by decide +kernel))
theorem tJ9_max_f86c9 : Cond.static yJ9_max_f86c9 ∈ lw_tbl := List.mem_of_getElem? (i := 494) (by decide +kernel)
theorem mJ9_max_f86c9 : gmt yJ9_max_f86c9 cJ9_max_f86c9 4 (some .long) 2 := ⟨List.mem_of_getElem? (i := 495) (by decide +kernel), List.mem_of_getElem? (i := 46) (by decide +kernel), ⟨by decide, by decide⟩, by decide +kernel, by decide⟩
theorem kX8_153 : glk RX8 153 yX6_value := Or.inl (List.mem_of_getElem? (i := 496) (by decide +kernel))
theorem kX8_157 : glk RX8 157 yX6_scale := Or.inl (List.mem_of_getElem? (i := 497) (by decide +kernel))
theorem iX6_scale : Cond.instanceMethod yX6_scale ∈ lw_tbl := List.mem_of_getElem? (i := 498) (by decide +kernel)
theorem sX6_scale : Cond.selects yX6_scale.cls yX6_scale yX6_scale ∈ lw_tbl := List.mem_of_getElem? (i := 499) (by decide +kernel)
theorem mX6_scale : gmt yX6_scale cX6_scale 2 (some .long) 1 := ⟨List.mem_of_getElem? (i := 500) (by decide +kernel), List.mem_of_getElem? (i := 40) (by decide +kernel), ⟨by decide, by decide⟩, by decide +kernel, by decide⟩
theorem kX8_161 : glk RX8 161 yX8_fractionPart := Or.inl (List.mem_of_getElem? (i := 501) (by decide +kernel))
theorem tX8_fractionPart : Cond.static yX8_fractionPart ∈ lw_tbl := List.mem_of_getElem? (i := 502) (by decide +kernel)
theorem mX8_fractionPart : gmt yX8_fractionPart cX8_fractionPart 7 (some .long) 3 := ⟨List.mem_of_getElem? (i := 503) (by decide +kernel), List.mem_of_getElem? (i := 34) (by decide +kernel), ⟨by decide, by decide⟩, by decide +kernel, by decide⟩
theorem kX8_262 : glk RX8 262 yX8_commonDivisor := Or.inl (List.mem_of_getElem? (i := 504) (by decide +kernel))
theorem tX8_commonDivisor : Cond.static yX8_commonDivisor ∈ lw_tbl := List.mem_of_getElem? (i := 505) (by decide +kernel)
theorem mX8_commonDivisor : gmt yX8_commonDivisor cX8_commonDivisor 7 (some .long) 2 := ⟨List.mem_of_getElem? (i := 506) (by decide +kernel), List.mem_of_getElem? (i := 34) (by decide +kernel), ⟨by decide, by decide⟩, by decide +kernel, by decide⟩
theorem kX8_266 : glk RX8 266 yJ9_max_f86c9 := Or.inl (List.mem_of_getElem? (i := 507) (by decide +kernel))
theorem kL_74 : glk RL 74 yX8_least := Or.inl (List.mem_of_getElem? (i := 508) (by decide +kernel))
theorem iX8_least : Cond.instanceMethod yX8_least ∈ lw_tbl := List.mem_of_getElem? (i := 509) (by decide +kernel)
theorem sX8_least : Cond.selects yX8_least.cls yX8_least yX8_least ∈ lw_tbl := List.mem_of_getElem? (i := 510) (by decide +kernel)
theorem mX8_least : gmt yX8_least cX8_least 3 (some .int) 2 := ⟨List.mem_of_getElem? (i := 511) (by decide +kernel), List.mem_of_getElem? (i := 34) (by decide +kernel), ⟨by decide, by decide⟩, by decide +kernel, by decide⟩
theorem kX8_165 : glk RX8 165 yX6_leastToSign := Or.inl (List.mem_of_getElem? (i := 512) (by decide +kernel))
theorem iX6_leastToSign : Cond.instanceMethod yX6_leastToSign ∈ lw_tbl := List.mem_of_getElem? (i := 513) (by decide +kernel)
theorem sX6_leastToSign : Cond.selects yX6_leastToSign.cls yX6_leastToSign yX6_leastToSign ∈ lw_tbl := List.mem_of_getElem? (i := 514) (by decide +kernel)
theorem mX6_leastToSign : gmt yX6_leastToSign cX6_leastToSign 4 (some .int) 2 := ⟨List.mem_of_getElem? (i := 515) (by decide +kernel), List.mem_of_getElem? (i := 40) (by decide +kernel), ⟨by decide, by decide⟩, by decide +kernel, by decide⟩
theorem kX6_50 : glk RX6 50 yX6_isToSign := Or.inl (List.mem_of_getElem? (i := 516) (by decide +kernel))
theorem iX6_isToSign : Cond.instanceMethod yX6_isToSign ∈ lw_tbl := List.mem_of_getElem? (i := 517) (by decide +kernel)
theorem sX6_isToSign : Cond.selects yX6_isToSign.cls yX6_isToSign yX6_isToSign ∈ lw_tbl := List.mem_of_getElem? (i := 518) (by decide +kernel)
theorem mX6_isToSign : gmt yX6_isToSign cX6_isToSign 4 (some .boolean) 3 := ⟨List.mem_of_getElem? (i := 519) (by decide +kernel), List.mem_of_getElem? (i := 40) (by decide +kernel), ⟨by decide, by decide⟩, by decide +kernel, by decide⟩
theorem kL_78 : glk RL 78 yX8_price := Or.inl (List.mem_of_getElem? (i := 520) (by decide +kernel))
theorem iX8_price : Cond.instanceMethod yX8_price ∈ lw_tbl := List.mem_of_getElem? (i := 521) (by decide +kernel)
theorem sX8_price : Cond.selects yX8_price.cls yX8_price yX8_price ∈ lw_tbl := List.mem_of_getElem? (i := 522) (by decide +kernel)
theorem mX8_price : gmt yX8_price cX8_price 4 (some .long) 3 := ⟨List.mem_of_getElem? (i := 523) (by decide +kernel), List.mem_of_getElem? (i := 34) (by decide +kernel), ⟨by decide, by decide⟩, by decide +kernel, by decide⟩
theorem kL_82 : glk RL 82 yX8_last := Or.inl (List.mem_of_getElem? (i := 524) (by decide +kernel))
theorem iX8_last : Cond.instanceMethod yX8_last ∈ lw_tbl := List.mem_of_getElem? (i := 525) (by decide +kernel)
theorem sX8_last : Cond.selects yX8_last.cls yX8_last yX8_last ∈ lw_tbl := List.mem_of_getElem? (i := 526) (by decide +kernel)
theorem mX8_last : gmt yX8_last cX8_last 5 (some .long) 4 := ⟨List.mem_of_getElem? (i := 527) (by decide +kernel), List.mem_of_getElem? (i := 34) (by decide +kernel), ⟨by decide, by decide⟩, by decide +kernel, by decide⟩
theorem kX8_168 : glk RX8 168 yX8_waysOfAtMost := Or.inl (List.mem_of_getElem? (i := 528) (by decide +kernel))
theorem tX8_waysOfAtMost : Cond.static yX8_waysOfAtMost ∈ lw_tbl := List.mem_of_getElem? (i := 529) (by decide +kernel)
theorem mX8_waysOfAtMost : gmt yX8_waysOfAtMost cX8_waysOfAtMost 8 (some .long) 3 := ⟨List.mem_of_getElem? (i := 530) (by decide +kernel), List.mem_of_getElem? (i := 34) (by decide +kernel), ⟨by decide, by decide⟩, by decide +kernel, by decide⟩
theorem kX8_172 : glk RX8 172 yX8_power := Or.inl (List.mem_of_getElem? (i := 531) (by decide +kernel))
theorem tX8_power : Cond.static yX8_power ∈ lw_tbl := List.mem_of_getElem? (i := 532) (by decide +kernel)
theorem mX8_power : gmt yX8_power cX8_power 5 (some .long) 2 := ⟨List.mem_of_getElem? (i := 533) (by decide +kernel), List.mem_of_getElem? (i := 34) (by decide +kernel), ⟨by decide, by decide⟩, by decide +kernel, by decide⟩
theorem kL_87 : glk RL 87 yX8_netted := Or.inl (List.mem_of_getElem? (i := 534) (by decide +kernel))
theorem iX8_netted : Cond.instanceMethod yX8_netted ∈ lw_tbl := List.mem_of_getElem? (i := 535) (by decide +kernel)
theorem sX8_netted : Cond.selects yX8_netted.cls yX8_netted yX8_netted ∈ lw_tbl := List.mem_of_getElem? (i := 536) (by decide +kernel)
theorem mX8_netted : gmt yX8_netted cX8_netted 2 (some .int) 1 := ⟨List.mem_of_getElem? (i := 537) (by decide +kernel), List.mem_of_getElem? (i := 34) (by decide +kernel), ⟨by decide, by decide⟩, by decide +kernel, by decide⟩
theorem kX8_175 : glk RX8 175 yX1_net := Or.inl (List.mem_of_getElem? (i := 538) (by decide +kernel))
theorem iX1_net : Cond.instanceMethod yX1_net ∈ lw_tbl := List.mem_of_getElem? (i := 539) (by decide +kernel)
theorem sX1_net : Cond.selects yX1_net.cls yX1_net yX1_net ∈ lw_tbl := List.mem_of_getElem? (i := 540) (by decide +kernel)
theorem mX1_net : gmt yX1_net cX1_net 4 (some .int) 1 := ⟨List.mem_of_getElem? (i := 541) (by decide +kernel), List.mem_of_getElem? (i := 36) (by decide +kernel), ⟨by decide, by decide⟩, by decide +kernel, by decide⟩
theorem kX1_50 : glk RX1 50 yX1_debt := Or.inl (List.mem_of_getElem? (i := 542) (by decide +kernel))
theorem kL_91 : glk RL 91 yX8_hands := Or.inl (List.mem_of_getElem? (i := 543) (by decide +kernel))
theorem iX8_hands : Cond.instanceMethod yX8_hands ∈ lw_tbl := List.mem_of_getElem? (i := 544) (by decide +kernel)
theorem sX8_hands : Cond.selects yX8_hands.cls yX8_hands yX8_hands ∈ lw_tbl := List.mem_of_getElem? (i := 545) (by decide +kernel)
theorem mX8_hands : gmt yX8_hands cX8_hands 1 (some .int) 0 := ⟨List.mem_of_getElem? (i := 546) (by decide +kernel), List.mem_of_getElem? (i := 34) (by decide +kernel), ⟨by decide, by decide⟩, by decide +kernel, by decide⟩
theorem kX8_179 : glk RX8 179 yX4_fewestHands := Or.inl (List.mem_of_getElem? (i := 547) (by decide +kernel))
theorem iX4_fewestHands : Cond.instanceMethod yX4_fewestHands ∈ lw_tbl := List.mem_of_getElem? (i := 548) (by decide +kernel)
theorem sX4_fewestHands : Cond.selects yX4_fewestHands.cls yX4_fewestHands yX4_fewestHands ∈ lw_tbl := List.mem_of_getElem? (i := 549) (by decide +kernel)
theorem mX4_fewestHands : gmt yX4_fewestHands cX4_fewestHands 4 (some .int) 1 := ⟨List.mem_of_getElem? (i := 550) (by decide +kernel), List.mem_of_getElem? (i := 42) (by decide +kernel), ⟨by decide, by decide⟩, by decide +kernel, by decide⟩
theorem kX4_18 : glk RX4 18 yJ6_numberOfTrailingZeros_0f7a4 := Or.inl (List.mem_of_getElem? (i := 551) (by decide +kernel))
theorem tJ6_numberOfTrailingZeros_0f7a4 : Cond.static yJ6_numberOfTrailingZeros_0f7a4 ∈ lw_tbl := List.mem_of_getElem? (i := 552) (by decide +kernel)
theorem mJ6_numberOfTrailingZeros_0f7a4 : gmt yJ6_numberOfTrailingZeros_0f7a4 cJ6_numberOfTrailingZeros_0f7a4 2 (some .int) 1 := ⟨List.mem_of_getElem? (i := 553) (by decide +kernel), List.mem_of_getElem? (i := 44) (by decide +kernel), ⟨by decide, by decide⟩, by decide +kernel, by decide⟩
theorem nJ6_264 : Cond.constant RJ6 264 (65536) ∈ lw_tbl := List.mem_of_getElem? (i := 554) (by decide +kernel)
theorem kX4_24 : glk RX4 24 yX1_net := Or.inl (List.mem_of_getElem? (i := 555) (by decide +kernel))
theorem kX4_29 : glk RX4 29 yX4_mostCirclesInside := Or.inl (List.mem_of_getElem? (i := 556) (by decide +kernel))
theorem iX4_mostCirclesInside : Cond.instanceMethod yX4_mostCirclesInside ∈ lw_tbl := List.mem_of_getElem? (i := 558) (by decide +kernel)
theorem mX4_mostCirclesInside : gmt yX4_mostCirclesInside cX4_mostCirclesInside 4 (some .int) 1 := ⟨List.mem_of_getElem? (i := 559) (by decide +kernel), List.mem_of_getElem? (i := 42) (by decide +kernel), ⟨by decide, by decide⟩, by decide +kernel, by decide⟩
theorem kX4_32 : glk RX4 32 yJ9_max_7cf53 := Or.inl (List.mem_of_getElem? (i := 560) (by decide +kernel))
theorem tJ9_max_7cf53 : Cond.static yJ9_max_7cf53 ∈ lw_tbl := List.mem_of_getElem? (i := 561) (by decide +kernel)
theorem mJ9_max_7cf53 : gmt yJ9_max_7cf53 cJ9_max_7cf53 2 (some .int) 2 := ⟨List.mem_of_getElem? (i := 562) (by decide +kernel), List.mem_of_getElem? (i := 46) (by decide +kernel), ⟨by decide, by decide⟩, by decide +kernel, by decide⟩
theorem kL_95 : glk RL 95 yX8_match := Or.inl (List.mem_of_getElem? (i := 563) (by decide +kernel))
theorem iX8_match : Cond.instanceMethod yX8_match ∈ lw_tbl := List.mem_of_getElem? (i := 564) (by decide +kernel)
theorem sX8_match : Cond.selects yX8_match.cls yX8_match yX8_match ∈ lw_tbl := List.mem_of_getElem? (i := 565) (by decide +kernel)
theorem mX8_match : gmt yX8_match cX8_match 3 (some .int) 2 := ⟨List.mem_of_getElem? (i := 566) (by decide +kernel), List.mem_of_getElem? (i := 34) (by decide +kernel), ⟨by decide, by decide⟩, by decide +kernel, by decide⟩
theorem kX8_183 : glk RX8 183 yX8_areTails := Or.inl (List.mem_of_getElem? (i := 567) (by decide +kernel))
theorem iX8_areTails : Cond.instanceMethod yX8_areTails ∈ lw_tbl := List.mem_of_getElem? (i := 569) (by decide +kernel)
theorem mX8_areTails : gmt yX8_areTails cX8_areTails 2 (some .boolean) 1 := ⟨List.mem_of_getElem? (i := 570) (by decide +kernel), List.mem_of_getElem? (i := 34) (by decide +kernel), ⟨by decide, by decide⟩, by decide +kernel, by decide⟩
theorem kX8_186 : glk RX8 186 yX3_weigh := Or.inl (List.mem_of_getElem? (i := 571) (by decide +kernel))
theorem iX3_weigh : Cond.instanceMethod yX3_weigh ∈ lw_tbl := List.mem_of_getElem? (i := 572) (by decide +kernel)
theorem sX3_weigh : Cond.selects yX3_weigh.cls yX3_weigh yX3_weigh ∈ lw_tbl := List.mem_of_getElem? (i := 573) (by decide +kernel)
theorem mX3_weigh : gmt yX3_weigh cX3_weigh 5 none 2 := ⟨List.mem_of_getElem? (i := 574) (by decide +kernel), List.mem_of_getElem? (i := 41) (by decide +kernel), ⟨by decide, by decide⟩, by decide +kernel, by decide⟩
theorem kX3_21 : glk RX3 21 yX1_count := Or.inl (List.mem_of_getElem? (i := 575) (by decide +kernel))
theorem kX3_31 : glk RX3 31 yX3_weighSet := Or.inl (List.mem_of_getElem? (i := 576) (by decide +kernel))
theorem iX3_weighSet : Cond.instanceMethod yX3_weighSet ∈ lw_tbl := List.mem_of_getElem? (i := 578) (by decide +kernel)
theorem mX3_weighSet : gmt yX3_weighSet cX3_weighSet 7 none 2 := ⟨List.mem_of_getElem? (i := 579) (by decide +kernel), List.mem_of_getElem? (i := 41) (by decide +kernel), ⟨by decide, by decide⟩, by decide +kernel, by decide⟩
theorem kX3_35 : glk RX3 35 yX3_isLeft := Or.inl (List.mem_of_getElem? (i := 580) (by decide +kernel))
theorem tX3_isLeft : Cond.static yX3_isLeft ∈ lw_tbl := List.mem_of_getElem? (i := 581) (by decide +kernel)
theorem mX3_isLeft : gmt yX3_isLeft cX3_isLeft 3 (some .boolean) 3 := ⟨List.mem_of_getElem? (i := 582) (by decide +kernel), List.mem_of_getElem? (i := 41) (by decide +kernel), ⟨by decide, by decide⟩, by decide +kernel, by decide⟩
theorem kX3_43 : glk RX3 43 yX1_has := Or.inl (List.mem_of_getElem? (i := 583) (by decide +kernel))
theorem kX3_39 : glk RX3 39 yX3_slipsWith := Or.inl (List.mem_of_getElem? (i := 584) (by decide +kernel))
theorem iX3_slipsWith : Cond.instanceMethod yX3_slipsWith ∈ lw_tbl := List.mem_of_getElem? (i := 586) (by decide +kernel)
theorem mX3_slipsWith : gmt yX3_slipsWith cX3_slipsWith 5 (some .int) 3 := ⟨List.mem_of_getElem? (i := 587) (by decide +kernel), List.mem_of_getElem? (i := 41) (by decide +kernel), ⟨by decide, by decide⟩, by decide +kernel, by decide⟩
theorem kX3_47 : glk RX3 47 yJ6_bitCount_0f7a4 := Or.inl (List.mem_of_getElem? (i := 588) (by decide +kernel))
theorem kX3_56 : glk RX3 56 yJ9_abs_0f7a4 := Or.inl (List.mem_of_getElem? (i := 589) (by decide +kernel))
theorem tJ9_abs_0f7a4 : Cond.static yJ9_abs_0f7a4 ∈ lw_tbl := List.mem_of_getElem? (i := 590) (by decide +kernel)
theorem mJ9_abs_0f7a4 : gmt yJ9_abs_0f7a4 cJ9_abs_0f7a4 1 (some .int) 1 := ⟨List.mem_of_getElem? (i := 591) (by decide +kernel), List.mem_of_getElem? (i := 46) (by decide +kernel), ⟨by decide, by decide⟩, by decide +kernel, by decide⟩
theorem kL_99 : glk RL 99 yX8_wrote := Or.inl (List.mem_of_getElem? (i := 592) (by decide +kernel))
theorem iX8_wrote : Cond.instanceMethod yX8_wrote ∈ lw_tbl := List.mem_of_getElem? (i := 593) (by decide +kernel)
theorem sX8_wrote : Cond.selects yX8_wrote.cls yX8_wrote yX8_wrote ∈ lw_tbl := List.mem_of_getElem? (i := 594) (by decide +kernel)
theorem mX8_wrote : gmt yX8_wrote cX8_wrote 3 (some .int) 2 := ⟨List.mem_of_getElem? (i := 595) (by decide +kernel), List.mem_of_getElem? (i := 34) (by decide +kernel), ⟨by decide, by decide⟩, by decide +kernel, by decide⟩
theorem kX8_196 : glk RX8 196 yX3_writerOf := Or.inl (List.mem_of_getElem? (i := 596) (by decide +kernel))
theorem iX3_writerOf : Cond.instanceMethod yX3_writerOf ∈ lw_tbl := List.mem_of_getElem? (i := 597) (by decide +kernel)
theorem sX3_writerOf : Cond.selects yX3_writerOf.cls yX3_writerOf yX3_writerOf ∈ lw_tbl := List.mem_of_getElem? (i := 598) (by decide +kernel)
theorem mX3_writerOf : gmt yX3_writerOf cX3_writerOf 6 (some .int) 2 := ⟨List.mem_of_getElem? (i := 599) (by decide +kernel), List.mem_of_getElem? (i := 41) (by decide +kernel), ⟨by decide, by decide⟩, by decide +kernel, by decide⟩
theorem kX3_61 : glk RX3 61 yX3_firstWriter := Or.inl (List.mem_of_getElem? (i := 600) (by decide +kernel))
theorem iX3_firstWriter : Cond.instanceMethod yX3_firstWriter ∈ lw_tbl := List.mem_of_getElem? (i := 602) (by decide +kernel)
theorem mX3_firstWriter : gmt yX3_firstWriter cX3_firstWriter 4 (some .int) 2 := ⟨List.mem_of_getElem? (i := 603) (by decide +kernel), List.mem_of_getElem? (i := 41) (by decide +kernel), ⟨by decide, by decide⟩, by decide +kernel, by decide⟩
theorem kL_103 : glk RL 103 yX8_compare := Or.inl (List.mem_of_getElem? (i := 604) (by decide +kernel))
theorem iX8_compare : Cond.instanceMethod yX8_compare ∈ lw_tbl := List.mem_of_getElem? (i := 605) (by decide +kernel)
theorem sX8_compare : Cond.selects yX8_compare.cls yX8_compare yX8_compare ∈ lw_tbl := List.mem_of_getElem? (i := 606) (by decide +kernel)
theorem mX8_compare : gmt yX8_compare cX8_compare 4 (some .int) 1 := ⟨List.mem_of_getElem? (i := 607) (by decide +kernel), List.mem_of_getElem? (i := 34) (by decide +kernel), ⟨by decide, by decide⟩, by decide +kernel, by decide⟩
theorem kL_107 : glk RL 107 yX8_blots := Or.inl (List.mem_of_getElem? (i := 608) (by decide +kernel))
theorem iX8_blots : Cond.instanceMethod yX8_blots ∈ lw_tbl := List.mem_of_getElem? (i := 609) (by decide +kernel)
theorem sX8_blots : Cond.selects yX8_blots.cls yX8_blots yX8_blots ∈ lw_tbl := List.mem_of_getElem? (i := 610) (by decide +kernel)
theorem mX8_blots : gmt yX8_blots cX8_blots 5 (some .long) 4 := ⟨List.mem_of_getElem? (i := 611) (by decide +kernel), List.mem_of_getElem? (i := 34) (by decide +kernel), ⟨by decide, by decide⟩, by decide +kernel, by decide⟩
theorem kL_111 : glk RL 111 yX8_seen := Or.inl (List.mem_of_getElem? (i := 612) (by decide +kernel))
theorem iX8_seen : Cond.instanceMethod yX8_seen ∈ lw_tbl := List.mem_of_getElem? (i := 613) (by decide +kernel)
theorem sX8_seen : Cond.selects yX8_seen.cls yX8_seen yX8_seen ∈ lw_tbl := List.mem_of_getElem? (i := 614) (by decide +kernel)
theorem mX8_seen : gmt yX8_seen cX8_seen 5 (some .int) 4 := ⟨List.mem_of_getElem? (i := 615) (by decide +kernel), List.mem_of_getElem? (i := 34) (by decide +kernel), ⟨by decide, by decide⟩, by decide +kernel, by decide⟩
theorem kX8_203 : glk RX8 203 yX7_addSight := Or.inl (List.mem_of_getElem? (i := 616) (by decide +kernel))
theorem iX7_addSight : Cond.instanceMethod yX7_addSight ∈ lw_tbl := List.mem_of_getElem? (i := 617) (by decide +kernel)
theorem sX7_addSight : Cond.selects yX7_addSight.cls yX7_addSight yX7_addSight ∈ lw_tbl := List.mem_of_getElem? (i := 618) (by decide +kernel)
theorem mX7_addSight : gmt yX7_addSight cX7_addSight 5 none 4 := ⟨List.mem_of_getElem? (i := 619) (by decide +kernel), List.mem_of_getElem? (i := 35) (by decide +kernel), ⟨by decide, by decide⟩, by decide +kernel, by decide⟩
theorem kL_116 : glk RL 116 yX8_forget := Or.inl (List.mem_of_getElem? (i := 620) (by decide +kernel))
theorem iX8_forget : Cond.instanceMethod yX8_forget ∈ lw_tbl := List.mem_of_getElem? (i := 621) (by decide +kernel)
theorem sX8_forget : Cond.selects yX8_forget.cls yX8_forget yX8_forget ∈ lw_tbl := List.mem_of_getElem? (i := 622) (by decide +kernel)
theorem mX8_forget : gmt yX8_forget cX8_forget 2 (some .int) 0 := ⟨List.mem_of_getElem? (i := 623) (by decide +kernel), List.mem_of_getElem? (i := 34) (by decide +kernel), ⟨by decide, by decide⟩, by decide +kernel, by decide⟩
theorem kL_120 : glk RL 120 yX8_signs := Or.inl (List.mem_of_getElem? (i := 624) (by decide +kernel))
theorem iX8_signs : Cond.instanceMethod yX8_signs ∈ lw_tbl := List.mem_of_getElem? (i := 625) (by decide +kernel)
theorem sX8_signs : Cond.selects yX8_signs.cls yX8_signs yX8_signs ∈ lw_tbl := List.mem_of_getElem? (i := 626) (by decide +kernel)
theorem mX8_signs : gmt yX8_signs cX8_signs 1 (some .int) 0 := ⟨List.mem_of_getElem? (i := 627) (by decide +kernel), List.mem_of_getElem? (i := 34) (by decide +kernel), ⟨by decide, by decide⟩, by decide +kernel, by decide⟩
theorem kX8_207 : glk RX8 207 yX8_fittingHabits := Or.inl (List.mem_of_getElem? (i := 628) (by decide +kernel))
theorem iX8_fittingHabits : Cond.instanceMethod yX8_fittingHabits ∈ lw_tbl := List.mem_of_getElem? (i := 630) (by decide +kernel)
theorem mX8_fittingHabits : gmt yX8_fittingHabits cX8_fittingHabits 5 (some .int) 0 := ⟨List.mem_of_getElem? (i := 631) (by decide +kernel), List.mem_of_getElem? (i := 34) (by decide +kernel), ⟨by decide, by decide⟩, by decide +kernel, by decide⟩
theorem kX8_249 : glk RX8 249 yX8_signingHabits := Or.inl (List.mem_of_getElem? (i := 632) (by decide +kernel))
theorem iX8_signingHabits : Cond.instanceMethod yX8_signingHabits ∈ lw_tbl := List.mem_of_getElem? (i := 634) (by decide +kernel)
theorem mX8_signingHabits : gmt yX8_signingHabits cX8_signingHabits 5 (some .int) 3 := ⟨List.mem_of_getElem? (i := 635) (by decide +kernel), List.mem_of_getElem? (i := 34) (by decide +kernel), ⟨by decide, by decide⟩, by decide +kernel, by decide⟩
theorem kX8_243 : glk RX8 243 yX6_isToSign := Or.inl (List.mem_of_getElem? (i := 636) (by decide +kernel))
theorem kL_124 : glk RL 124 yX8_watch := Or.inl (List.mem_of_getElem? (i := 637) (by decide +kernel))
theorem iX8_watch : Cond.instanceMethod yX8_watch ∈ lw_tbl := List.mem_of_getElem? (i := 638) (by decide +kernel)
theorem sX8_watch : Cond.selects yX8_watch.cls yX8_watch yX8_watch ∈ lw_tbl := List.mem_of_getElem? (i := 639) (by decide +kernel)
theorem mX8_watch : gmt yX8_watch cX8_watch 3 (some .int) 1 := ⟨List.mem_of_getElem? (i := 640) (by decide +kernel), List.mem_of_getElem? (i := 34) (by decide +kernel), ⟨by decide, by decide⟩, by decide +kernel, by decide⟩
theorem kX8_210 : glk RX8 210 yX8_bestWatch := Or.inl (List.mem_of_getElem? (i := 641) (by decide +kernel))
theorem iX8_bestWatch : Cond.instanceMethod yX8_bestWatch ∈ lw_tbl := List.mem_of_getElem? (i := 643) (by decide +kernel)
theorem mX8_bestWatch : gmt yX8_bestWatch cX8_bestWatch 10 (some .int) 2 := ⟨List.mem_of_getElem? (i := 644) (by decide +kernel), List.mem_of_getElem? (i := 34) (by decide +kernel), ⟨by decide, by decide⟩, by decide +kernel, by decide⟩
theorem kX8_223 : glk RX8 223 yJ6_bitCount_0f7a4 := Or.inl (List.mem_of_getElem? (i := 645) (by decide +kernel))
theorem kX8_257 : glk RX8 257 yJ9_max_7cf53 := Or.inl (List.mem_of_getElem? (i := 646) (by decide +kernel))
theorem kL_128 : glk RL 128 yX8_book := Or.inl (List.mem_of_getElem? (i := 647) (by decide +kernel))
theorem iX8_book : Cond.instanceMethod yX8_book ∈ lw_tbl := List.mem_of_getElem? (i := 648) (by decide +kernel)
theorem sX8_book : Cond.selects yX8_book.cls yX8_book yX8_book ∈ lw_tbl := List.mem_of_getElem? (i := 649) (by decide +kernel)
theorem mX8_book : gmt yX8_book cX8_book 5 (some .int) 3 := ⟨List.mem_of_getElem? (i := 650) (by decide +kernel), List.mem_of_getElem? (i := 34) (by decide +kernel), ⟨by decide, by decide⟩, by decide +kernel, by decide⟩
theorem kX8_213 : glk RX8 213 yX2_draw := Or.inl (List.mem_of_getElem? (i := 651) (by decide +kernel))
theorem iX2_draw : Cond.instanceMethod yX2_draw ∈ lw_tbl := List.mem_of_getElem? (i := 652) (by decide +kernel)
theorem sX2_draw : Cond.selects yX2_draw.cls yX2_draw yX2_draw ∈ lw_tbl := List.mem_of_getElem? (i := 653) (by decide +kernel)
theorem mX2_draw : gmt yX2_draw cX2_draw 9 (some .int) 3 := ⟨List.mem_of_getElem? (i := 654) (by decide +kernel), List.mem_of_getElem? (i := 38) (by decide +kernel), ⟨by decide, by decide⟩, by decide +kernel, by decide⟩
theorem nX2_74 : Cond.constant RX2 74 (65537) ∈ lw_tbl := List.mem_of_getElem? (i := 655) (by decide +kernel)
theorem kX2_75 : glk RX2 75 yX1_has := Or.inl (List.mem_of_getElem? (i := 656) (by decide +kernel))
theorem kX2_83 : glk RX2 83 yX1_signAct := Or.inl (List.mem_of_getElem? (i := 657) (by decide +kernel))
theorem kX2_87 : glk RX2 87 yX1_forgeAct := Or.inl (List.mem_of_getElem? (i := 658) (by decide +kernel))
theorem kX8_217 : glk RX8 217 yX1_worthOfAll := Or.inl (List.mem_of_getElem? (i := 659) (by decide +kernel))
theorem iX1_worthOfAll : Cond.instanceMethod yX1_worthOfAll ∈ lw_tbl := List.mem_of_getElem? (i := 660) (by decide +kernel)
theorem sX1_worthOfAll : Cond.selects yX1_worthOfAll.cls yX1_worthOfAll yX1_worthOfAll ∈ lw_tbl := List.mem_of_getElem? (i := 661) (by decide +kernel)
theorem mX1_worthOfAll : gmt yX1_worthOfAll cX1_worthOfAll 3 (some .int) 0 := ⟨List.mem_of_getElem? (i := 662) (by decide +kernel), List.mem_of_getElem? (i := 36) (by decide +kernel), ⟨by decide, by decide⟩, by decide +kernel, by decide⟩
theorem kX8_220 : glk RX8 220 yX1_bare := Or.inl (List.mem_of_getElem? (i := 663) (by decide +kernel))
theorem kL_132 : glk RL 132 yX8_image := Or.inl (List.mem_of_getElem? (i := 664) (by decide +kernel))
theorem iX8_image : Cond.instanceMethod yX8_image ∈ lw_tbl := List.mem_of_getElem? (i := 665) (by decide +kernel)
theorem sX8_image : Cond.selects yX8_image.cls yX8_image yX8_image ∈ lw_tbl := List.mem_of_getElem? (i := 666) (by decide +kernel)
theorem mX8_image : gmt yX8_image cX8_image 2 (some .int) 1 := ⟨List.mem_of_getElem? (i := 667) (by decide +kernel), List.mem_of_getElem? (i := 34) (by decide +kernel), ⟨by decide, by decide⟩, by decide +kernel, by decide⟩
theorem kX8_228 : glk RX8 228 yX7_copyFrom := Or.inl (List.mem_of_getElem? (i := 668) (by decide +kernel))
theorem iX7_copyFrom : Cond.instanceMethod yX7_copyFrom ∈ lw_tbl := List.mem_of_getElem? (i := 669) (by decide +kernel)
theorem sX7_copyFrom : Cond.selects yX7_copyFrom.cls yX7_copyFrom yX7_copyFrom ∈ lw_tbl := List.mem_of_getElem? (i := 670) (by decide +kernel)
theorem mX7_copyFrom : gmt yX7_copyFrom cX7_copyFrom 3 none 1 := ⟨List.mem_of_getElem? (i := 671) (by decide +kernel), List.mem_of_getElem? (i := 35) (by decide +kernel), ⟨by decide, by decide⟩, by decide +kernel, by decide⟩
theorem kX7_33 : glk RX7 33 yX1_copyFrom := Or.inl (List.mem_of_getElem? (i := 672) (by decide +kernel))
theorem kX7_37 : Cond.methodLink RX7 37 arraycopyName ∈ lw_tbl := List.mem_of_getElem? (i := 673) (by decide +kernel)
theorem kL_136 : glk RL 136 yX8_restore := Or.inl (List.mem_of_getElem? (i := 674) (by decide +kernel))
theorem iX8_restore : Cond.instanceMethod yX8_restore ∈ lw_tbl := List.mem_of_getElem? (i := 675) (by decide +kernel)
theorem sX8_restore : Cond.selects yX8_restore.cls yX8_restore yX8_restore ∈ lw_tbl := List.mem_of_getElem? (i := 676) (by decide +kernel)
theorem mX8_restore : gmt yX8_restore cX8_restore 2 (some .int) 1 := ⟨List.mem_of_getElem? (i := 677) (by decide +kernel), List.mem_of_getElem? (i := 34) (by decide +kernel), ⟨by decide, by decide⟩, by decide +kernel, by decide⟩
theorem kL_140 : glk RL 140 yX8_told := Or.inl (List.mem_of_getElem? (i := 678) (by decide +kernel))
theorem iX8_told : Cond.instanceMethod yX8_told ∈ lw_tbl := List.mem_of_getElem? (i := 679) (by decide +kernel)
theorem sX8_told : Cond.selects yX8_told.cls yX8_told yX8_told ∈ lw_tbl := List.mem_of_getElem? (i := 680) (by decide +kernel)
theorem mX8_told : gmt yX8_told cX8_told 2 (some .int) 1 := ⟨List.mem_of_getElem? (i := 681) (by decide +kernel), List.mem_of_getElem? (i := 34) (by decide +kernel), ⟨by decide, by decide⟩, by decide +kernel, by decide⟩
theorem wL_10 : Cond.classLink RL 10 RX9 ∈ lw_tbl := List.mem_of_getElem? (i := 682) (by decide +kernel)
theorem aX9 : Cond.instantiable RX9 22 ∈ lw_tbl := List.mem_of_getElem? (i := 683) (by decide +kernel)
theorem zX9 : Cond.initialized RX9 ∈ lw_tbl := List.mem_of_getElem? (i := 43) (by decide +kernel)
theorem kL_12 : glk RL 12 yX9_init := Or.inl (List.mem_of_getElem? (i := 684) (by decide +kernel))
theorem iX9_init : Cond.instanceMethod yX9_init ∈ lw_tbl := List.mem_of_getElem? (i := 685) (by decide +kernel)
theorem mX9_init : gmt yX9_init cX9_init 2 none 0 := ⟨List.mem_of_getElem? (i := 686) (by decide +kernel), List.mem_of_getElem? (i := 43) (by decide +kernel), ⟨by decide, by decide⟩, by decide +kernel, by decide⟩
theorem kX9_1 : Cond.methodLink RX9 1 Lib.objectInit ∈ lw_tbl := List.mem_of_getElem? (i := 687) (by decide +kernel)
theorem fX9_7 : gfd RX9 7 9 0 (.array .int) true := ⟨RX9, TX9, 22, tyX9, gclX9, by decide, rfl, rfl, rfl, List.mem_of_getElem? (i := 688) (by decide +kernel)⟩
theorem fX9_13 : gfd RX9 13 9 1 (.array .int) true := ⟨RX9, TX9, 22, tyX9, gclX9, by decide, rfl, rfl, rfl, List.mem_of_getElem? (i := 689) (by decide +kernel)⟩
theorem fX9_52 : gfd RX9 52 9 2 .int false := ⟨RX9, TX9, 22, tyX9, gclX9, by decide, rfl, rfl, rfl, List.mem_of_getElem? (i := 690) (by decide +kernel)⟩
theorem fX9_16 : gfd RX9 16 9 3 (.array .int) true := ⟨RX9, TX9, 22, tyX9, gclX9, by decide, rfl, rfl, rfl, List.mem_of_getElem? (i := 691) (by decide +kernel)⟩
theorem fX9_19 : gfd RX9 19 9 4 (.array .int) true := ⟨RX9, TX9, 22, tyX9, gclX9, by decide, rfl, rfl, rfl, List.mem_of_getElem? (i := 692) (by decide +kernel)⟩
theorem fX9_183 : gfd RX9 183 9 5 .int false := ⟨RX9, TX9, 22, tyX9, gclX9, by decide, rfl, rfl, rfl, List.mem_of_getElem? (i := 693) (by decide +kernel)⟩
theorem fX9_22 : gfd RX9 22 9 6 (.array .int) true := ⟨RX9, TX9, 22, tyX9, gclX9, by decide, rfl, rfl, rfl, List.mem_of_getElem? (i := 694) (by decide +kernel)⟩
theorem fX9_68 : gfd RX9 68 9 7 .int false := ⟨RX9, TX9, 22, tyX9, gclX9, by decide, rfl, rfl, rfl, List.mem_of_getElem? (i := 695) (by decide +kernel)⟩
theorem fX9_25 : gfd RX9 25 9 8 (.array .int) true := ⟨RX9, TX9, 22, tyX9, gclX9, by decide, rfl, rfl, rfl, List.mem_of_getElem? (i := 696) (by decide +kernel)⟩
theorem fX9_84 : gfd RX9 84 9 9 .int false := ⟨RX9, TX9, 22, tyX9, gclX9, by decide, rfl, rfl, rfl, List.mem_of_getElem? (i := 697) (by decide +kernel)⟩
theorem fX9_87 : gfd RX9 87 9 10 .int false := ⟨RX9, TX9, 22, tyX9, gclX9, by decide, rfl, rfl, rfl, List.mem_of_getElem? (i := 698) (by decide +kernel)⟩
theorem fX9_112 : gfd RX9 112 9 11 .int false := ⟨RX9, TX9, 22, tyX9, gclX9, by decide, rfl, rfl, rfl, List.mem_of_getElem? (i := 699) (by decide +kernel)⟩
theorem fX9_100 : gfd RX9 100 9 12 .int false := ⟨RX9, TX9, 22, tyX9, gclX9, by decide, rfl, rfl, rfl, List.mem_of_getElem? (i := 700) (by decide +kernel)⟩
theorem fX9_103 : gfd RX9 103 9 13 .int false := ⟨RX9, TX9, 22, tyX9, gclX9, by decide, rfl, rfl, rfl, List.mem_of_getElem? (i := 701) (by decide +kernel)⟩
theorem fX9_28 : gfd RX9 28 9 14 (.array .long) true := ⟨RX9, TX9, 22, tyX9, gclX9, by decide, rfl, rfl, rfl, List.mem_of_getElem? (i := 702) (by decide +kernel)⟩
theorem fX9_32 : gfd RX9 32 9 15 (.array .int) true := ⟨RX9, TX9, 22, tyX9, gclX9, by decide, rfl, rfl, rfl, List.mem_of_getElem? (i := 703) (by decide +kernel)⟩
theorem fX9_35 : gfd RX9 35 9 16 (.array .int) true := ⟨RX9, TX9, 22, tyX9, gclX9, by decide, rfl, rfl, rfl, List.mem_of_getElem? (i := 704) (by decide +kernel)⟩
theorem fX9_38 : gfd RX9 38 9 17 (.array .int) true := ⟨RX9, TX9, 22, tyX9, gclX9, by decide, rfl, rfl, rfl, List.mem_of_getElem? (i := 705) (by decide +kernel)⟩
theorem fX9_170 : gfd RX9 170 9 18 .int false := ⟨RX9, TX9, 22, tyX9, gclX9, by decide, rfl, rfl, rfl, List.mem_of_getElem? (i := 706) (by decide +kernel)⟩
theorem fX9_173 : gfd RX9 173 9 19 .int false := ⟨RX9, TX9, 22, tyX9, gclX9, by decide, rfl, rfl, rfl, List.mem_of_getElem? (i := 707) (by decide +kernel)⟩
theorem fX9_41 : gfd RX9 41 9 20 (.array .int) true := ⟨RX9, TX9, 22, tyX9, gclX9, by decide, rfl, rfl, rfl, List.mem_of_getElem? (i := 708) (by decide +kernel)⟩
theorem fX9_44 : gfd RX9 44 9 21 (.array .boolean) true := ⟨RX9, TX9, 22, tyX9, gclX9, by decide, rfl, rfl, rfl, List.mem_of_getElem? (i := 709) (by decide +kernel)⟩
theorem kL_17 : glk RL 17 yX9_person := Or.inl (List.mem_of_getElem? (i := 755) (by decide +kernel))
theorem iX9_person : Cond.instanceMethod yX9_person ∈ lw_tbl := List.mem_of_getElem? (i := 756) (by decide +kernel)
theorem sX9_person : Cond.selects yX9_person.cls yX9_person yX9_person ∈ lw_tbl := List.mem_of_getElem? (i := 757) (by decide +kernel)
theorem mX9_person : gmt yX9_person cX9_person 4 (some .int) 3 := ⟨List.mem_of_getElem? (i := 758) (by decide +kernel), List.mem_of_getElem? (i := 43) (by decide +kernel), ⟨by decide, by decide⟩, by decide +kernel, by decide⟩
theorem kX9_48 : glk RX9 48 yX9_in := Or.inl (List.mem_of_getElem? (i := 759) (by decide +kernel))
theorem tX9_in : Cond.static yX9_in ∈ lw_tbl := List.mem_of_getElem? (i := 760) (by decide +kernel)
theorem mX9_in : gmt yX9_in cX9_in 3 (some .boolean) 3 := ⟨List.mem_of_getElem? (i := 761) (by decide +kernel), List.mem_of_getElem? (i := 43) (by decide +kernel), ⟨by decide, by decide⟩, by decide +kernel, by decide⟩
theorem kX9_56 : glk RX9 56 yX9_has := Or.inl (List.mem_of_getElem? (i := 762) (by decide +kernel))
theorem tX9_has : Cond.static yX9_has ∈ lw_tbl := List.mem_of_getElem? (i := 763) (by decide +kernel)
theorem mX9_has : gmt yX9_has cX9_has 2 (some .boolean) 2 := ⟨List.mem_of_getElem? (i := 764) (by decide +kernel), List.mem_of_getElem? (i := 43) (by decide +kernel), ⟨by decide, by decide⟩, by decide +kernel, by decide⟩
theorem kX9_60 : glk RX9 60 yX9_bits := Or.inl (List.mem_of_getElem? (i := 765) (by decide +kernel))
theorem tX9_bits : Cond.static yX9_bits ∈ lw_tbl := List.mem_of_getElem? (i := 766) (by decide +kernel)
theorem mX9_bits : gmt yX9_bits cX9_bits 3 (some .int) 1 := ⟨List.mem_of_getElem? (i := 767) (by decide +kernel), List.mem_of_getElem? (i := 43) (by decide +kernel), ⟨by decide, by decide⟩, by decide +kernel, by decide⟩
theorem kL_22 : glk RL 22 yX9_die := Or.inl (List.mem_of_getElem? (i := 768) (by decide +kernel))
theorem iX9_die : Cond.instanceMethod yX9_die ∈ lw_tbl := List.mem_of_getElem? (i := 769) (by decide +kernel)
theorem sX9_die : Cond.selects yX9_die.cls yX9_die yX9_die ∈ lw_tbl := List.mem_of_getElem? (i := 770) (by decide +kernel)
theorem mX9_die : gmt yX9_die cX9_die 3 (some .int) 1 := ⟨List.mem_of_getElem? (i := 771) (by decide +kernel), List.mem_of_getElem? (i := 43) (by decide +kernel), ⟨by decide, by decide⟩, by decide +kernel, by decide⟩
theorem kX9_64 : glk RX9 64 yX9_isThere := Or.inl (List.mem_of_getElem? (i := 772) (by decide +kernel))
theorem iX9_isThere : Cond.instanceMethod yX9_isThere ∈ lw_tbl := List.mem_of_getElem? (i := 774) (by decide +kernel)
theorem mX9_isThere : gmt yX9_isThere cX9_isThere 2 (some .boolean) 1 := ⟨List.mem_of_getElem? (i := 775) (by decide +kernel), List.mem_of_getElem? (i := 43) (by decide +kernel), ⟨by decide, by decide⟩, by decide +kernel, by decide⟩
theorem kL_27 : glk RL 27 yX9_weight := Or.inl (List.mem_of_getElem? (i := 776) (by decide +kernel))
theorem iX9_weight : Cond.instanceMethod yX9_weight ∈ lw_tbl := List.mem_of_getElem? (i := 777) (by decide +kernel)
theorem sX9_weight : Cond.selects yX9_weight.cls yX9_weight yX9_weight ∈ lw_tbl := List.mem_of_getElem? (i := 778) (by decide +kernel)
theorem mX9_weight : gmt yX9_weight cX9_weight 5 (some .int) 2 := ⟨List.mem_of_getElem? (i := 779) (by decide +kernel), List.mem_of_getElem? (i := 43) (by decide +kernel), ⟨by decide, by decide⟩, by decide +kernel, by decide⟩
theorem kL_31 : glk RL 31 yX9_say := Or.inl (List.mem_of_getElem? (i := 780) (by decide +kernel))
theorem iX9_say : Cond.instanceMethod yX9_say ∈ lw_tbl := List.mem_of_getElem? (i := 781) (by decide +kernel)
theorem sX9_say : Cond.selects yX9_say.cls yX9_say yX9_say ∈ lw_tbl := List.mem_of_getElem? (i := 782) (by decide +kernel)
theorem mX9_say : gmt yX9_say cX9_say 2 (some .int) 1 := ⟨List.mem_of_getElem? (i := 783) (by decide +kernel), List.mem_of_getElem? (i := 43) (by decide +kernel), ⟨by decide, by decide⟩, by decide +kernel, by decide⟩
theorem kL_36 : glk RL 36 yX9_wipe := Or.inl (List.mem_of_getElem? (i := 784) (by decide +kernel))
theorem iX9_wipe : Cond.instanceMethod yX9_wipe ∈ lw_tbl := List.mem_of_getElem? (i := 785) (by decide +kernel)
theorem sX9_wipe : Cond.selects yX9_wipe.cls yX9_wipe yX9_wipe ∈ lw_tbl := List.mem_of_getElem? (i := 786) (by decide +kernel)
theorem mX9_wipe : gmt yX9_wipe cX9_wipe 2 (some .int) 0 := ⟨List.mem_of_getElem? (i := 787) (by decide +kernel), List.mem_of_getElem? (i := 43) (by decide +kernel), ⟨by decide, by decide⟩, by decide +kernel, by decide⟩
theorem kL_40 : glk RL 40 yX9_fault := Or.inl (List.mem_of_getElem? (i := 788) (by decide +kernel))
theorem iX9_fault : Cond.instanceMethod yX9_fault ∈ lw_tbl := List.mem_of_getElem? (i := 789) (by decide +kernel)
theorem sX9_fault : Cond.selects yX9_fault.cls yX9_fault yX9_fault ∈ lw_tbl := List.mem_of_getElem? (i := 790) (by decide +kernel)
theorem mX9_fault : gmt yX9_fault cX9_fault 1 (some .int) 0 := ⟨List.mem_of_getElem? (i := 791) (by decide +kernel), List.mem_of_getElem? (i := 43) (by decide +kernel), ⟨by decide, by decide⟩, by decide +kernel, by decide⟩
theorem kX9_80 : glk RX9 80 yX9_faultOf := Or.inl (List.mem_of_getElem? (i := 792) (by decide +kernel))
theorem iX9_faultOf : Cond.instanceMethod yX9_faultOf ∈ lw_tbl := List.mem_of_getElem? (i := 794) (by decide +kernel)
theorem mX9_faultOf : gmt yX9_faultOf cX9_faultOf 6 (some .int) 0 := ⟨List.mem_of_getElem? (i := 795) (by decide +kernel), List.mem_of_getElem? (i := 43) (by decide +kernel), ⟨by decide, by decide⟩, by decide +kernel, by decide⟩
theorem kX9_71 : glk RX9 71 yX9_isLetter := Or.inl (List.mem_of_getElem? (i := 796) (by decide +kernel))
theorem tX9_isLetter : Cond.static yX9_isLetter ∈ lw_tbl := List.mem_of_getElem? (i := 797) (by decide +kernel)
theorem mX9_isLetter : gmt yX9_isLetter cX9_isLetter 1 (some .boolean) 1 := ⟨List.mem_of_getElem? (i := 798) (by decide +kernel), List.mem_of_getElem? (i := 43) (by decide +kernel), ⟨by decide, by decide⟩, by decide +kernel, by decide⟩
theorem kX9_74 : glk RX9 74 yX9_isDigit := Or.inl (List.mem_of_getElem? (i := 799) (by decide +kernel))
theorem tX9_isDigit : Cond.static yX9_isDigit ∈ lw_tbl := List.mem_of_getElem? (i := 800) (by decide +kernel)
theorem mX9_isDigit : gmt yX9_isDigit cX9_isDigit 1 (some .boolean) 1 := ⟨List.mem_of_getElem? (i := 801) (by decide +kernel), List.mem_of_getElem? (i := 43) (by decide +kernel), ⟨by decide, by decide⟩, by decide +kernel, by decide⟩
theorem kX9_77 : glk RX9 77 yX9_passes := Or.inl (List.mem_of_getElem? (i := 802) (by decide +kernel))
theorem tX9_passes : Cond.static yX9_passes ∈ lw_tbl := List.mem_of_getElem? (i := 803) (by decide +kernel)
theorem mX9_passes : gmt yX9_passes cX9_passes 1 (some .boolean) 1 := ⟨List.mem_of_getElem? (i := 804) (by decide +kernel), List.mem_of_getElem? (i := 43) (by decide +kernel), ⟨by decide, by decide⟩, by decide +kernel, by decide⟩
theorem kL_44 : glk RL 44 yX9_judge := Or.inl (List.mem_of_getElem? (i := 805) (by decide +kernel))
theorem iX9_judge : Cond.instanceMethod yX9_judge ∈ lw_tbl := List.mem_of_getElem? (i := 806) (by decide +kernel)
theorem sX9_judge : Cond.selects yX9_judge.cls yX9_judge yX9_judge ∈ lw_tbl := List.mem_of_getElem? (i := 807) (by decide +kernel)
theorem mX9_judge : gmt yX9_judge cX9_judge 3 (some .int) 1 := ⟨List.mem_of_getElem? (i := 808) (by decide +kernel), List.mem_of_getElem? (i := 43) (by decide +kernel), ⟨by decide, by decide⟩, by decide +kernel, by decide⟩
theorem kX9_129 : glk RX9 129 yX9_goLives := Or.inl (List.mem_of_getElem? (i := 809) (by decide +kernel))
theorem iX9_goLives : Cond.instanceMethod yX9_goLives ∈ lw_tbl := List.mem_of_getElem? (i := 811) (by decide +kernel)
theorem mX9_goLives : gmt yX9_goLives cX9_goLives 5 (some .int) 0 := ⟨List.mem_of_getElem? (i := 812) (by decide +kernel), List.mem_of_getElem? (i := 43) (by decide +kernel), ⟨by decide, by decide⟩, by decide +kernel, by decide⟩
theorem kX9_97 : glk RX9 97 yX9_asNow := Or.inl (List.mem_of_getElem? (i := 813) (by decide +kernel))
theorem iX9_asNow : Cond.instanceMethod yX9_asNow ∈ lw_tbl := List.mem_of_getElem? (i := 815) (by decide +kernel)
theorem mX9_asNow : gmt yX9_asNow cX9_asNow 2 none 0 := ⟨List.mem_of_getElem? (i := 816) (by decide +kernel), List.mem_of_getElem? (i := 43) (by decide +kernel), ⟨by decide, by decide⟩, by decide +kernel, by decide⟩
theorem kX9_106 : glk RX9 106 yX9_some := Or.inl (List.mem_of_getElem? (i := 817) (by decide +kernel))
theorem iX9_some : Cond.instanceMethod yX9_some ∈ lw_tbl := List.mem_of_getElem? (i := 819) (by decide +kernel)
theorem mX9_some : gmt yX9_some cX9_some 3 (some .int) 0 := ⟨List.mem_of_getElem? (i := 820) (by decide +kernel), List.mem_of_getElem? (i := 43) (by decide +kernel), ⟨by decide, by decide⟩, by decide +kernel, by decide⟩
theorem kX9_109 : glk RX9 109 yX9_endYear := Or.inl (List.mem_of_getElem? (i := 821) (by decide +kernel))
theorem iX9_endYear : Cond.instanceMethod yX9_endYear ∈ lw_tbl := List.mem_of_getElem? (i := 823) (by decide +kernel)
theorem mX9_endYear : gmt yX9_endYear cX9_endYear 1 (some .int) 0 := ⟨List.mem_of_getElem? (i := 824) (by decide +kernel), List.mem_of_getElem? (i := 43) (by decide +kernel), ⟨by decide, by decide⟩, by decide +kernel, by decide⟩
theorem kX9_115 : glk RX9 115 yX9_signAct := Or.inl (List.mem_of_getElem? (i := 825) (by decide +kernel))
theorem iX9_signAct : Cond.instanceMethod yX9_signAct ∈ lw_tbl := List.mem_of_getElem? (i := 827) (by decide +kernel)
theorem mX9_signAct : gmt yX9_signAct cX9_signAct 3 (some .int) 2 := ⟨List.mem_of_getElem? (i := 828) (by decide +kernel), List.mem_of_getElem? (i := 43) (by decide +kernel), ⟨by decide, by decide⟩, by decide +kernel, by decide⟩
theorem kX9_90 : glk RX9 90 yX9_gains := Or.inl (List.mem_of_getElem? (i := 829) (by decide +kernel))
theorem iX9_gains : Cond.instanceMethod yX9_gains ∈ lw_tbl := List.mem_of_getElem? (i := 831) (by decide +kernel)
theorem mX9_gains : gmt yX9_gains cX9_gains 3 none 2 := ⟨List.mem_of_getElem? (i := 832) (by decide +kernel), List.mem_of_getElem? (i := 43) (by decide +kernel), ⟨by decide, by decide⟩, by decide +kernel, by decide⟩
theorem kX9_119 : glk RX9 119 yX9_forge := Or.inl (List.mem_of_getElem? (i := 833) (by decide +kernel))
theorem iX9_forge : Cond.instanceMethod yX9_forge ∈ lw_tbl := List.mem_of_getElem? (i := 835) (by decide +kernel)
theorem mX9_forge : gmt yX9_forge cX9_forge 3 (some .int) 2 := ⟨List.mem_of_getElem? (i := 836) (by decide +kernel), List.mem_of_getElem? (i := 43) (by decide +kernel), ⟨by decide, by decide⟩, by decide +kernel, by decide⟩
theorem kX9_122 : glk RX9 122 yX9_blot := Or.inl (List.mem_of_getElem? (i := 837) (by decide +kernel))
theorem iX9_blot : Cond.instanceMethod yX9_blot ∈ lw_tbl := List.mem_of_getElem? (i := 839) (by decide +kernel)
theorem mX9_blot : gmt yX9_blot cX9_blot 2 (some .int) 1 := ⟨List.mem_of_getElem? (i := 840) (by decide +kernel), List.mem_of_getElem? (i := 43) (by decide +kernel), ⟨by decide, by decide⟩, by decide +kernel, by decide⟩
theorem kX9_125 : glk RX9 125 yX9_hand := Or.inl (List.mem_of_getElem? (i := 841) (by decide +kernel))
theorem iX9_hand : Cond.instanceMethod yX9_hand ∈ lw_tbl := List.mem_of_getElem? (i := 843) (by decide +kernel)
theorem mX9_hand : gmt yX9_hand cX9_hand 8 (some .int) 4 := ⟨List.mem_of_getElem? (i := 844) (by decide +kernel), List.mem_of_getElem? (i := 43) (by decide +kernel), ⟨by decide, by decide⟩, by decide +kernel, by decide⟩
theorem kX9_94 : glk RX9 94 yX9_gets := Or.inl (List.mem_of_getElem? (i := 845) (by decide +kernel))
theorem iX9_gets : Cond.instanceMethod yX9_gets ∈ lw_tbl := List.mem_of_getElem? (i := 847) (by decide +kernel)
theorem mX9_gets : gmt yX9_gets cX9_gets 3 none 2 := ⟨List.mem_of_getElem? (i := 848) (by decide +kernel), List.mem_of_getElem? (i := 43) (by decide +kernel), ⟨by decide, by decide⟩, by decide +kernel, by decide⟩
theorem kL_48 : glk RL 48 yX9_done := Or.inl (List.mem_of_getElem? (i := 849) (by decide +kernel))
theorem iX9_done : Cond.instanceMethod yX9_done ∈ lw_tbl := List.mem_of_getElem? (i := 850) (by decide +kernel)
theorem sX9_done : Cond.selects yX9_done.cls yX9_done yX9_done ∈ lw_tbl := List.mem_of_getElem? (i := 851) (by decide +kernel)
theorem mX9_done : gmt yX9_done cX9_done 2 (some .int) 0 := ⟨List.mem_of_getElem? (i := 852) (by decide +kernel), List.mem_of_getElem? (i := 43) (by decide +kernel), ⟨by decide, by decide⟩, by decide +kernel, by decide⟩
theorem kX9_132 : glk RX9 132 yX9_barOfLives := Or.inl (List.mem_of_getElem? (i := 853) (by decide +kernel))
theorem iX9_barOfLives : Cond.instanceMethod yX9_barOfLives ∈ lw_tbl := List.mem_of_getElem? (i := 855) (by decide +kernel)
theorem mX9_barOfLives : gmt yX9_barOfLives cX9_barOfLives 1 (some .int) 0 := ⟨List.mem_of_getElem? (i := 856) (by decide +kernel), List.mem_of_getElem? (i := 43) (by decide +kernel), ⟨by decide, by decide⟩, by decide +kernel, by decide⟩
theorem kL_52 : glk RL 52 yX9_state := Or.inl (List.mem_of_getElem? (i := 857) (by decide +kernel))
theorem iX9_state : Cond.instanceMethod yX9_state ∈ lw_tbl := List.mem_of_getElem? (i := 858) (by decide +kernel)
theorem sX9_state : Cond.selects yX9_state.cls yX9_state yX9_state ∈ lw_tbl := List.mem_of_getElem? (i := 859) (by decide +kernel)
theorem mX9_state : gmt yX9_state cX9_state 3 (some .int) 2 := ⟨List.mem_of_getElem? (i := 860) (by decide +kernel), List.mem_of_getElem? (i := 43) (by decide +kernel), ⟨by decide, by decide⟩, by decide +kernel, by decide⟩
theorem kL_56 : glk RL 56 yX9_behind := Or.inl (List.mem_of_getElem? (i := 861) (by decide +kernel))
theorem iX9_behind : Cond.instanceMethod yX9_behind ∈ lw_tbl := List.mem_of_getElem? (i := 862) (by decide +kernel)
theorem sX9_behind : Cond.selects yX9_behind.cls yX9_behind yX9_behind ∈ lw_tbl := List.mem_of_getElem? (i := 863) (by decide +kernel)
theorem mX9_behind : gmt yX9_behind cX9_behind 3 (some .int) 2 := ⟨List.mem_of_getElem? (i := 864) (by decide +kernel), List.mem_of_getElem? (i := 43) (by decide +kernel), ⟨by decide, by decide⟩, by decide +kernel, by decide⟩
theorem kL_60 : glk RL 60 yX9_acts := Or.inl (List.mem_of_getElem? (i := 865) (by decide +kernel))
theorem iX9_acts : Cond.instanceMethod yX9_acts ∈ lw_tbl := List.mem_of_getElem? (i := 866) (by decide +kernel)
theorem sX9_acts : Cond.selects yX9_acts.cls yX9_acts yX9_acts ∈ lw_tbl := List.mem_of_getElem? (i := 867) (by decide +kernel)
theorem mX9_acts : gmt yX9_acts cX9_acts 2 (some .int) 1 := ⟨List.mem_of_getElem? (i := 868) (by decide +kernel), List.mem_of_getElem? (i := 43) (by decide +kernel), ⟨by decide, by decide⟩, by decide +kernel, by decide⟩
theorem kL_64 : glk RL 64 yX9_owes := Or.inl (List.mem_of_getElem? (i := 869) (by decide +kernel))
theorem iX9_owes : Cond.instanceMethod yX9_owes ∈ lw_tbl := List.mem_of_getElem? (i := 870) (by decide +kernel)
theorem sX9_owes : Cond.selects yX9_owes.cls yX9_owes yX9_owes ∈ lw_tbl := List.mem_of_getElem? (i := 871) (by decide +kernel)
theorem mX9_owes : gmt yX9_owes cX9_owes 3 (some .int) 2 := ⟨List.mem_of_getElem? (i := 872) (by decide +kernel), List.mem_of_getElem? (i := 43) (by decide +kernel), ⟨by decide, by decide⟩, by decide +kernel, by decide⟩
theorem kL_68 : glk RL 68 yX9_who := Or.inl (List.mem_of_getElem? (i := 873) (by decide +kernel))
theorem iX9_who : Cond.instanceMethod yX9_who ∈ lw_tbl := List.mem_of_getElem? (i := 874) (by decide +kernel)
theorem sX9_who : Cond.selects yX9_who.cls yX9_who yX9_who ∈ lw_tbl := List.mem_of_getElem? (i := 875) (by decide +kernel)
theorem mX9_who : gmt yX9_who cX9_who 5 (some .int) 1 := ⟨List.mem_of_getElem? (i := 876) (by decide +kernel), List.mem_of_getElem? (i := 43) (by decide +kernel), ⟨by decide, by decide⟩, by decide +kernel, by decide⟩
theorem kL_73 : glk RL 73 yX9_best := Or.inl (List.mem_of_getElem? (i := 877) (by decide +kernel))
theorem iX9_best : Cond.instanceMethod yX9_best ∈ lw_tbl := List.mem_of_getElem? (i := 878) (by decide +kernel)
theorem sX9_best : Cond.selects yX9_best.cls yX9_best yX9_best ∈ lw_tbl := List.mem_of_getElem? (i := 879) (by decide +kernel)
theorem mX9_best : gmt yX9_best cX9_best 4 (some .long) 3 := ⟨List.mem_of_getElem? (i := 880) (by decide +kernel), List.mem_of_getElem? (i := 43) (by decide +kernel), ⟨by decide, by decide⟩, by decide +kernel, by decide⟩
theorem nX9_144 : Cond.constantLong RX9 144 (-1000000000000000002) ∈ lw_tbl := List.mem_of_getElem? (i := 881) (by decide +kernel)
theorem kX9_146 : glk RX9 146 yX9_layBest := Or.inl (List.mem_of_getElem? (i := 882) (by decide +kernel))
theorem iX9_layBest : Cond.instanceMethod yX9_layBest ∈ lw_tbl := List.mem_of_getElem? (i := 884) (by decide +kernel)
theorem mX9_layBest : gmt yX9_layBest cX9_layBest 12 none 0 := ⟨List.mem_of_getElem? (i := 885) (by decide +kernel), List.mem_of_getElem? (i := 43) (by decide +kernel), ⟨by decide, by decide⟩, by decide +kernel, by decide⟩
theorem kX9_135 : glk RX9 135 yX9_weights := Or.inl (List.mem_of_getElem? (i := 886) (by decide +kernel))
theorem iX9_weights : Cond.instanceMethod yX9_weights ∈ lw_tbl := List.mem_of_getElem? (i := 888) (by decide +kernel)
theorem mX9_weights : gmt yX9_weights cX9_weights 3 (some .int) 0 := ⟨List.mem_of_getElem? (i := 889) (by decide +kernel), List.mem_of_getElem? (i := 43) (by decide +kernel), ⟨by decide, by decide⟩, by decide +kernel, by decide⟩
theorem nX9_138 : Cond.constantLong RX9 138 (-1) ∈ lw_tbl := List.mem_of_getElem? (i := 890) (by decide +kernel)
theorem kX9_140 : glk RX9 140 yX9_power := Or.inl (List.mem_of_getElem? (i := 891) (by decide +kernel))
theorem tX9_power : Cond.static yX9_power ∈ lw_tbl := List.mem_of_getElem? (i := 892) (by decide +kernel)
theorem mX9_power : gmt yX9_power cX9_power 6 (some .long) 2 := ⟨List.mem_of_getElem? (i := 893) (by decide +kernel), List.mem_of_getElem? (i := 43) (by decide +kernel), ⟨by decide, by decide⟩, by decide +kernel, by decide⟩
theorem kX9_149 : glk RX9 149 yX9_part := Or.inl (List.mem_of_getElem? (i := 894) (by decide +kernel))
theorem tX9_part : Cond.static yX9_part ∈ lw_tbl := List.mem_of_getElem? (i := 895) (by decide +kernel)
theorem mX9_part : gmt yX9_part cX9_part 11 (some .long) 3 := ⟨List.mem_of_getElem? (i := 896) (by decide +kernel), List.mem_of_getElem? (i := 43) (by decide +kernel), ⟨by decide, by decide⟩, by decide +kernel, by decide⟩
theorem kL_77 : glk RL 77 yX9_least := Or.inl (List.mem_of_getElem? (i := 897) (by decide +kernel))
theorem iX9_least : Cond.instanceMethod yX9_least ∈ lw_tbl := List.mem_of_getElem? (i := 898) (by decide +kernel)
theorem sX9_least : Cond.selects yX9_least.cls yX9_least yX9_least ∈ lw_tbl := List.mem_of_getElem? (i := 899) (by decide +kernel)
theorem mX9_least : gmt yX9_least cX9_least 3 (some .int) 2 := ⟨List.mem_of_getElem? (i := 900) (by decide +kernel), List.mem_of_getElem? (i := 43) (by decide +kernel), ⟨by decide, by decide⟩, by decide +kernel, by decide⟩
theorem kX9_153 : glk RX9 153 yX9_leastOf := Or.inl (List.mem_of_getElem? (i := 901) (by decide +kernel))
theorem iX9_leastOf : Cond.instanceMethod yX9_leastOf ∈ lw_tbl := List.mem_of_getElem? (i := 903) (by decide +kernel)
theorem mX9_leastOf : gmt yX9_leastOf cX9_leastOf 6 (some .int) 2 := ⟨List.mem_of_getElem? (i := 904) (by decide +kernel), List.mem_of_getElem? (i := 43) (by decide +kernel), ⟨by decide, by decide⟩, by decide +kernel, by decide⟩
theorem kL_81 : glk RL 81 yX9_price := Or.inl (List.mem_of_getElem? (i := 905) (by decide +kernel))
theorem iX9_price : Cond.instanceMethod yX9_price ∈ lw_tbl := List.mem_of_getElem? (i := 906) (by decide +kernel)
theorem sX9_price : Cond.selects yX9_price.cls yX9_price yX9_price ∈ lw_tbl := List.mem_of_getElem? (i := 907) (by decide +kernel)
theorem mX9_price : gmt yX9_price cX9_price 4 (some .long) 3 := ⟨List.mem_of_getElem? (i := 908) (by decide +kernel), List.mem_of_getElem? (i := 43) (by decide +kernel), ⟨by decide, by decide⟩, by decide +kernel, by decide⟩
theorem kL_86 : glk RL 86 yX9_last := Or.inl (List.mem_of_getElem? (i := 909) (by decide +kernel))
theorem iX9_last : Cond.instanceMethod yX9_last ∈ lw_tbl := List.mem_of_getElem? (i := 910) (by decide +kernel)
theorem sX9_last : Cond.selects yX9_last.cls yX9_last yX9_last ∈ lw_tbl := List.mem_of_getElem? (i := 911) (by decide +kernel)
theorem mX9_last : gmt yX9_last cX9_last 5 (some .long) 4 := ⟨List.mem_of_getElem? (i := 912) (by decide +kernel), List.mem_of_getElem? (i := 43) (by decide +kernel), ⟨by decide, by decide⟩, by decide +kernel, by decide⟩
theorem kX9_162 : glk RX9 162 yX9_atMost := Or.inl (List.mem_of_getElem? (i := 913) (by decide +kernel))
theorem tX9_atMost : Cond.static yX9_atMost ∈ lw_tbl := List.mem_of_getElem? (i := 914) (by decide +kernel)
theorem mX9_atMost : gmt yX9_atMost cX9_atMost 6 (some .long) 3 := ⟨List.mem_of_getElem? (i := 915) (by decide +kernel), List.mem_of_getElem? (i := 43) (by decide +kernel), ⟨by decide, by decide⟩, by decide +kernel, by decide⟩
theorem kX9_156 : glk RX9 156 yX9_choices := Or.inl (List.mem_of_getElem? (i := 916) (by decide +kernel))
theorem tX9_choices : Cond.static yX9_choices ∈ lw_tbl := List.mem_of_getElem? (i := 917) (by decide +kernel)
theorem mX9_choices : gmt yX9_choices cX9_choices 5 (some .long) 2 := ⟨List.mem_of_getElem? (i := 918) (by decide +kernel), List.mem_of_getElem? (i := 43) (by decide +kernel), ⟨by decide, by decide⟩, by decide +kernel, by decide⟩
theorem nX9_160 : Cond.constantLong RX9 160 (10) ∈ lw_tbl := List.mem_of_getElem? (i := 919) (by decide +kernel)
theorem kL_90 : glk RL 90 yX9_netted := Or.inl (List.mem_of_getElem? (i := 920) (by decide +kernel))
theorem iX9_netted : Cond.instanceMethod yX9_netted ∈ lw_tbl := List.mem_of_getElem? (i := 921) (by decide +kernel)
theorem sX9_netted : Cond.selects yX9_netted.cls yX9_netted yX9_netted ∈ lw_tbl := List.mem_of_getElem? (i := 922) (by decide +kernel)
theorem mX9_netted : gmt yX9_netted cX9_netted 2 (some .int) 1 := ⟨List.mem_of_getElem? (i := 923) (by decide +kernel), List.mem_of_getElem? (i := 43) (by decide +kernel), ⟨by decide, by decide⟩, by decide +kernel, by decide⟩
theorem kX9_166 : glk RX9 166 yX9_netOf := Or.inl (List.mem_of_getElem? (i := 924) (by decide +kernel))
theorem iX9_netOf : Cond.instanceMethod yX9_netOf ∈ lw_tbl := List.mem_of_getElem? (i := 926) (by decide +kernel)
theorem mX9_netOf : gmt yX9_netOf cX9_netOf 4 (some .int) 1 := ⟨List.mem_of_getElem? (i := 927) (by decide +kernel), List.mem_of_getElem? (i := 43) (by decide +kernel), ⟨by decide, by decide⟩, by decide +kernel, by decide⟩
theorem kL_94 : glk RL 94 yX9_hands := Or.inl (List.mem_of_getElem? (i := 928) (by decide +kernel))
theorem iX9_hands : Cond.instanceMethod yX9_hands ∈ lw_tbl := List.mem_of_getElem? (i := 929) (by decide +kernel)
theorem sX9_hands : Cond.selects yX9_hands.cls yX9_hands yX9_hands ∈ lw_tbl := List.mem_of_getElem? (i := 930) (by decide +kernel)
theorem mX9_hands : gmt yX9_hands cX9_hands 6 (some .int) 0 := ⟨List.mem_of_getElem? (i := 931) (by decide +kernel), List.mem_of_getElem? (i := 43) (by decide +kernel), ⟨by decide, by decide⟩, by decide +kernel, by decide⟩
theorem kL_98 : glk RL 98 yX9_match := Or.inl (List.mem_of_getElem? (i := 932) (by decide +kernel))
theorem iX9_match : Cond.instanceMethod yX9_match ∈ lw_tbl := List.mem_of_getElem? (i := 933) (by decide +kernel)
theorem sX9_match : Cond.selects yX9_match.cls yX9_match yX9_match ∈ lw_tbl := List.mem_of_getElem? (i := 934) (by decide +kernel)
theorem mX9_match : gmt yX9_match cX9_match 3 (some .int) 2 := ⟨List.mem_of_getElem? (i := 935) (by decide +kernel), List.mem_of_getElem? (i := 43) (by decide +kernel), ⟨by decide, by decide⟩, by decide +kernel, by decide⟩
theorem kX9_177 : glk RX9 177 yX9_layActs := Or.inl (List.mem_of_getElem? (i := 936) (by decide +kernel))
theorem iX9_layActs : Cond.instanceMethod yX9_layActs ∈ lw_tbl := List.mem_of_getElem? (i := 938) (by decide +kernel)
theorem mX9_layActs : gmt yX9_layActs cX9_layActs 4 (some .boolean) 1 := ⟨List.mem_of_getElem? (i := 939) (by decide +kernel), List.mem_of_getElem? (i := 43) (by decide +kernel), ⟨by decide, by decide⟩, by decide +kernel, by decide⟩
theorem kX9_180 : glk RX9 180 yX9_layMatch := Or.inl (List.mem_of_getElem? (i := 940) (by decide +kernel))
theorem iX9_layMatch : Cond.instanceMethod yX9_layMatch ∈ lw_tbl := List.mem_of_getElem? (i := 942) (by decide +kernel)
theorem mX9_layMatch : gmt yX9_layMatch cX9_layMatch 9 none 0 := ⟨List.mem_of_getElem? (i := 943) (by decide +kernel), List.mem_of_getElem? (i := 43) (by decide +kernel), ⟨by decide, by decide⟩, by decide +kernel, by decide⟩
theorem nX9_169 : Cond.constant RX9 169 (1000000) ∈ lw_tbl := List.mem_of_getElem? (i := 944) (by decide +kernel)
theorem nX9_176 : Cond.constant RX9 176 (46656) ∈ lw_tbl := List.mem_of_getElem? (i := 945) (by decide +kernel)
theorem kL_102 : glk RL 102 yX9_wrote := Or.inl (List.mem_of_getElem? (i := 946) (by decide +kernel))
theorem iX9_wrote : Cond.instanceMethod yX9_wrote ∈ lw_tbl := List.mem_of_getElem? (i := 947) (by decide +kernel)
theorem sX9_wrote : Cond.selects yX9_wrote.cls yX9_wrote yX9_wrote ∈ lw_tbl := List.mem_of_getElem? (i := 948) (by decide +kernel)
theorem mX9_wrote : gmt yX9_wrote cX9_wrote 3 (some .int) 2 := ⟨List.mem_of_getElem? (i := 949) (by decide +kernel), List.mem_of_getElem? (i := 43) (by decide +kernel), ⟨by decide, by decide⟩, by decide +kernel, by decide⟩
theorem kL_106 : glk RL 106 yX9_compare := Or.inl (List.mem_of_getElem? (i := 950) (by decide +kernel))
theorem iX9_compare : Cond.instanceMethod yX9_compare ∈ lw_tbl := List.mem_of_getElem? (i := 951) (by decide +kernel)
theorem sX9_compare : Cond.selects yX9_compare.cls yX9_compare yX9_compare ∈ lw_tbl := List.mem_of_getElem? (i := 952) (by decide +kernel)
theorem mX9_compare : gmt yX9_compare cX9_compare 4 (some .int) 1 := ⟨List.mem_of_getElem? (i := 953) (by decide +kernel), List.mem_of_getElem? (i := 43) (by decide +kernel), ⟨by decide, by decide⟩, by decide +kernel, by decide⟩
theorem kL_110 : glk RL 110 yX9_blots := Or.inl (List.mem_of_getElem? (i := 954) (by decide +kernel))
theorem iX9_blots : Cond.instanceMethod yX9_blots ∈ lw_tbl := List.mem_of_getElem? (i := 955) (by decide +kernel)
theorem sX9_blots : Cond.selects yX9_blots.cls yX9_blots yX9_blots ∈ lw_tbl := List.mem_of_getElem? (i := 956) (by decide +kernel)
theorem mX9_blots : gmt yX9_blots cX9_blots 5 (some .long) 4 := ⟨List.mem_of_getElem? (i := 957) (by decide +kernel), List.mem_of_getElem? (i := 43) (by decide +kernel), ⟨by decide, by decide⟩, by decide +kernel, by decide⟩
theorem kL_115 : glk RL 115 yX9_seen := Or.inl (List.mem_of_getElem? (i := 958) (by decide +kernel))
theorem iX9_seen : Cond.instanceMethod yX9_seen ∈ lw_tbl := List.mem_of_getElem? (i := 959) (by decide +kernel)
theorem sX9_seen : Cond.selects yX9_seen.cls yX9_seen yX9_seen ∈ lw_tbl := List.mem_of_getElem? (i := 960) (by decide +kernel)
theorem mX9_seen : gmt yX9_seen cX9_seen 5 (some .int) 4 := ⟨List.mem_of_getElem? (i := 961) (by decide +kernel), List.mem_of_getElem? (i := 43) (by decide +kernel), ⟨by decide, by decide⟩, by decide +kernel, by decide⟩
theorem kL_119 : glk RL 119 yX9_forget := Or.inl (List.mem_of_getElem? (i := 962) (by decide +kernel))
theorem iX9_forget : Cond.instanceMethod yX9_forget ∈ lw_tbl := List.mem_of_getElem? (i := 963) (by decide +kernel)
theorem sX9_forget : Cond.selects yX9_forget.cls yX9_forget yX9_forget ∈ lw_tbl := List.mem_of_getElem? (i := 964) (by decide +kernel)
theorem mX9_forget : gmt yX9_forget cX9_forget 2 (some .int) 0 := ⟨List.mem_of_getElem? (i := 965) (by decide +kernel), List.mem_of_getElem? (i := 43) (by decide +kernel), ⟨by decide, by decide⟩, by decide +kernel, by decide⟩
theorem kL_123 : glk RL 123 yX9_signs := Or.inl (List.mem_of_getElem? (i := 966) (by decide +kernel))
theorem iX9_signs : Cond.instanceMethod yX9_signs ∈ lw_tbl := List.mem_of_getElem? (i := 967) (by decide +kernel)
theorem sX9_signs : Cond.selects yX9_signs.cls yX9_signs yX9_signs ∈ lw_tbl := List.mem_of_getElem? (i := 968) (by decide +kernel)
theorem mX9_signs : gmt yX9_signs cX9_signs 1 (some .int) 0 := ⟨List.mem_of_getElem? (i := 969) (by decide +kernel), List.mem_of_getElem? (i := 43) (by decide +kernel), ⟨by decide, by decide⟩, by decide +kernel, by decide⟩
theorem kX9_190 : glk RX9 190 yX9_habits := Or.inl (List.mem_of_getElem? (i := 970) (by decide +kernel))
theorem iX9_habits : Cond.instanceMethod yX9_habits ∈ lw_tbl := List.mem_of_getElem? (i := 972) (by decide +kernel)
theorem mX9_habits : gmt yX9_habits cX9_habits 5 (some .int) 0 := ⟨List.mem_of_getElem? (i := 973) (by decide +kernel), List.mem_of_getElem? (i := 43) (by decide +kernel), ⟨by decide, by decide⟩, by decide +kernel, by decide⟩
theorem kX9_186 : glk RX9 186 yX9_doesSign := Or.inl (List.mem_of_getElem? (i := 974) (by decide +kernel))
theorem iX9_doesSign : Cond.instanceMethod yX9_doesSign ∈ lw_tbl := List.mem_of_getElem? (i := 976) (by decide +kernel)
theorem mX9_doesSign : gmt yX9_doesSign cX9_doesSign 5 (some .boolean) 4 := ⟨List.mem_of_getElem? (i := 977) (by decide +kernel), List.mem_of_getElem? (i := 43) (by decide +kernel), ⟨by decide, by decide⟩, by decide +kernel, by decide⟩
theorem kL_127 : glk RL 127 yX9_watch := Or.inl (List.mem_of_getElem? (i := 978) (by decide +kernel))
theorem iX9_watch : Cond.instanceMethod yX9_watch ∈ lw_tbl := List.mem_of_getElem? (i := 979) (by decide +kernel)
theorem sX9_watch : Cond.selects yX9_watch.cls yX9_watch yX9_watch ∈ lw_tbl := List.mem_of_getElem? (i := 980) (by decide +kernel)
theorem mX9_watch : gmt yX9_watch cX9_watch 10 (some .int) 1 := ⟨List.mem_of_getElem? (i := 981) (by decide +kernel), List.mem_of_getElem? (i := 43) (by decide +kernel), ⟨by decide, by decide⟩, by decide +kernel, by decide⟩
theorem kL_131 : glk RL 131 yX9_book := Or.inl (List.mem_of_getElem? (i := 982) (by decide +kernel))
theorem iX9_book : Cond.instanceMethod yX9_book ∈ lw_tbl := List.mem_of_getElem? (i := 983) (by decide +kernel)
theorem sX9_book : Cond.selects yX9_book.cls yX9_book yX9_book ∈ lw_tbl := List.mem_of_getElem? (i := 984) (by decide +kernel)
theorem mX9_book : gmt yX9_book cX9_book 8 (some .int) 3 := ⟨List.mem_of_getElem? (i := 985) (by decide +kernel), List.mem_of_getElem? (i := 43) (by decide +kernel), ⟨by decide, by decide⟩, by decide +kernel, by decide⟩
theorem nX9_193 : Cond.constant RX9 193 (65537) ∈ lw_tbl := List.mem_of_getElem? (i := 986) (by decide +kernel)
theorem kL_135 : glk RL 135 yX9_image := Or.inl (List.mem_of_getElem? (i := 987) (by decide +kernel))
theorem iX9_image : Cond.instanceMethod yX9_image ∈ lw_tbl := List.mem_of_getElem? (i := 988) (by decide +kernel)
theorem sX9_image : Cond.selects yX9_image.cls yX9_image yX9_image ∈ lw_tbl := List.mem_of_getElem? (i := 989) (by decide +kernel)
theorem mX9_image : gmt yX9_image cX9_image 4 (some .int) 1 := ⟨List.mem_of_getElem? (i := 990) (by decide +kernel), List.mem_of_getElem? (i := 43) (by decide +kernel), ⟨by decide, by decide⟩, by decide +kernel, by decide⟩
theorem kL_139 : glk RL 139 yX9_restore := Or.inl (List.mem_of_getElem? (i := 991) (by decide +kernel))
theorem iX9_restore : Cond.instanceMethod yX9_restore ∈ lw_tbl := List.mem_of_getElem? (i := 992) (by decide +kernel)
theorem sX9_restore : Cond.selects yX9_restore.cls yX9_restore yX9_restore ∈ lw_tbl := List.mem_of_getElem? (i := 993) (by decide +kernel)
theorem mX9_restore : gmt yX9_restore cX9_restore 4 (some .int) 1 := ⟨List.mem_of_getElem? (i := 994) (by decide +kernel), List.mem_of_getElem? (i := 43) (by decide +kernel), ⟨by decide, by decide⟩, by decide +kernel, by decide⟩
theorem kL_143 : glk RL 143 yX9_told := Or.inl (List.mem_of_getElem? (i := 995) (by decide +kernel))
theorem iX9_told : Cond.instanceMethod yX9_told ∈ lw_tbl := List.mem_of_getElem? (i := 996) (by decide +kernel)
theorem sX9_told : Cond.selects yX9_told.cls yX9_told yX9_told ∈ lw_tbl := List.mem_of_getElem? (i := 997) (by decide +kernel)
theorem mX9_told : gmt yX9_told cX9_told 2 (some .int) 1 := ⟨List.mem_of_getElem? (i := 998) (by decide +kernel), List.mem_of_getElem? (i := 43) (by decide +kernel), ⟨by decide, by decide⟩, by decide +kernel, by decide⟩
theorem sX2_tellAct : Cond.selects yX2_tellAct.cls yX2_tellAct yX2_tellAct ∈ lw_tbl := List.mem_of_getElem? (i := 0) (by decide +kernel)
theorem sX8_allCanBe : Cond.selects yX8_allCanBe.cls yX8_allCanBe yX8_allCanBe ∈ lw_tbl := List.mem_of_getElem? (i := 1) (by decide +kernel)
theorem sX6_meanOfBetter : Cond.selects yX6_meanOfBetter.cls yX6_meanOfBetter yX6_meanOfBetter ∈ lw_tbl := List.mem_of_getElem? (i := 2) (by decide +kernel)
theorem sX6_valueOfSigning : Cond.selects yX6_valueOfSigning.cls yX6_valueOfSigning yX6_valueOfSigning ∈ lw_tbl := List.mem_of_getElem? (i := 3) (by decide +kernel)
theorem sX4_mostCirclesInside : Cond.selects yX4_mostCirclesInside.cls yX4_mostCirclesInside yX4_mostCirclesInside ∈ lw_tbl := List.mem_of_getElem? (i := 4) (by decide +kernel)
theorem sX8_areTails : Cond.selects yX8_areTails.cls yX8_areTails yX8_areTails ∈ lw_tbl := List.mem_of_getElem? (i := 5) (by decide +kernel)
theorem sX3_weighSet : Cond.selects yX3_weighSet.cls yX3_weighSet yX3_weighSet ∈ lw_tbl := List.mem_of_getElem? (i := 6) (by decide +kernel)
theorem sX3_slipsWith : Cond.selects yX3_slipsWith.cls yX3_slipsWith yX3_slipsWith ∈ lw_tbl := List.mem_of_getElem? (i := 7) (by decide +kernel)
theorem sX3_firstWriter : Cond.selects yX3_firstWriter.cls yX3_firstWriter yX3_firstWriter ∈ lw_tbl := List.mem_of_getElem? (i := 8) (by decide +kernel)
theorem sX8_fittingHabits : Cond.selects yX8_fittingHabits.cls yX8_fittingHabits yX8_fittingHabits ∈ lw_tbl := List.mem_of_getElem? (i := 9) (by decide +kernel)
theorem sX8_signingHabits : Cond.selects yX8_signingHabits.cls yX8_signingHabits yX8_signingHabits ∈ lw_tbl := List.mem_of_getElem? (i := 10) (by decide +kernel)
theorem sX8_bestWatch : Cond.selects yX8_bestWatch.cls yX8_bestWatch yX8_bestWatch ∈ lw_tbl := List.mem_of_getElem? (i := 11) (by decide +kernel)
theorem sX9_isThere : Cond.selects yX9_isThere.cls yX9_isThere yX9_isThere ∈ lw_tbl := List.mem_of_getElem? (i := 12) (by decide +kernel)
theorem sX9_faultOf : Cond.selects yX9_faultOf.cls yX9_faultOf yX9_faultOf ∈ lw_tbl := List.mem_of_getElem? (i := 13) (by decide +kernel)
theorem sX9_goLives : Cond.selects yX9_goLives.cls yX9_goLives yX9_goLives ∈ lw_tbl := List.mem_of_getElem? (i := 14) (by decide +kernel)
theorem sX9_asNow : Cond.selects yX9_asNow.cls yX9_asNow yX9_asNow ∈ lw_tbl := List.mem_of_getElem? (i := 15) (by decide +kernel)
theorem sX9_some : Cond.selects yX9_some.cls yX9_some yX9_some ∈ lw_tbl := List.mem_of_getElem? (i := 16) (by decide +kernel)
theorem sX9_endYear : Cond.selects yX9_endYear.cls yX9_endYear yX9_endYear ∈ lw_tbl := List.mem_of_getElem? (i := 17) (by decide +kernel)
theorem sX9_signAct : Cond.selects yX9_signAct.cls yX9_signAct yX9_signAct ∈ lw_tbl := List.mem_of_getElem? (i := 18) (by decide +kernel)
theorem sX9_gains : Cond.selects yX9_gains.cls yX9_gains yX9_gains ∈ lw_tbl := List.mem_of_getElem? (i := 19) (by decide +kernel)
theorem sX9_forge : Cond.selects yX9_forge.cls yX9_forge yX9_forge ∈ lw_tbl := List.mem_of_getElem? (i := 20) (by decide +kernel)
theorem sX9_blot : Cond.selects yX9_blot.cls yX9_blot yX9_blot ∈ lw_tbl := List.mem_of_getElem? (i := 21) (by decide +kernel)
theorem sX9_hand : Cond.selects yX9_hand.cls yX9_hand yX9_hand ∈ lw_tbl := List.mem_of_getElem? (i := 22) (by decide +kernel)
theorem sX9_gets : Cond.selects yX9_gets.cls yX9_gets yX9_gets ∈ lw_tbl := List.mem_of_getElem? (i := 23) (by decide +kernel)
theorem sX9_barOfLives : Cond.selects yX9_barOfLives.cls yX9_barOfLives yX9_barOfLives ∈ lw_tbl := List.mem_of_getElem? (i := 24) (by decide +kernel)
theorem sX9_layBest : Cond.selects yX9_layBest.cls yX9_layBest yX9_layBest ∈ lw_tbl := List.mem_of_getElem? (i := 25) (by decide +kernel)
theorem sX9_weights : Cond.selects yX9_weights.cls yX9_weights yX9_weights ∈ lw_tbl := List.mem_of_getElem? (i := 26) (by decide +kernel)
theorem sX9_leastOf : Cond.selects yX9_leastOf.cls yX9_leastOf yX9_leastOf ∈ lw_tbl := List.mem_of_getElem? (i := 27) (by decide +kernel)
theorem sX9_netOf : Cond.selects yX9_netOf.cls yX9_netOf yX9_netOf ∈ lw_tbl := List.mem_of_getElem? (i := 28) (by decide +kernel)
theorem sX9_layActs : Cond.selects yX9_layActs.cls yX9_layActs yX9_layActs ∈ lw_tbl := List.mem_of_getElem? (i := 29) (by decide +kernel)
theorem sX9_layMatch : Cond.selects yX9_layMatch.cls yX9_layMatch yX9_layMatch ∈ lw_tbl := List.mem_of_getElem? (i := 30) (by decide +kernel)
theorem sX9_habits : Cond.selects yX9_habits.cls yX9_habits yX9_habits ∈ lw_tbl := List.mem_of_getElem? (i := 31) (by decide +kernel)
theorem sX9_doesSign : Cond.selects yX9_doesSign.cls yX9_doesSign yX9_doesSign ∈ lw_tbl := List.mem_of_getElem? (i := 32) (by decide +kernel)
theorem ncopy : Cond.native arraycopyName ∈ lw_tbl := List.mem_of_getElem? (i := 363) (by decide +kernel)
theorem zsys : Cond.initialized "java/lang/System" ∈ lw_tbl := List.mem_of_getElem? (i := 45) (by decide +kernel)
theorem cobj : Cond.code Lib.objectInit ⟨#[0xb1]⟩ 1 none ∈ lw_tbl := List.mem_of_getElem? (i := 54) (by decide +kernel)
