section
/-- a private method of a class that the tables say can be made, by its rows of tables_1 -/
def lw_okq (q : MethodName × Nat) : Prop := (q.1.cls ≠ "java/lang/invoke/MethodHandle" ∧ q.1.cls ≠ "java/lang/invoke/VarHandle") ∧ Cond.instantiable q.1.cls q.2 ∈ tables_1 ∧ Cond.privateMethod q.1 ∈ tables_1 ∧ Cond.instanceMethod q.1 ∈ tables_1
theorem lw_p0 : lw_okq (⟨"SignedSheets$Lives", "tellAct", "()V"⟩, 7) := ⟨⟨by decide +kernel, by decide +kernel⟩, List.mem_of_getElem? (i := 108) (by decide +kernel), List.mem_of_getElem? (i := 341) (by decide +kernel), List.mem_of_getElem? (i := 342) (by decide +kernel)⟩
theorem lw_p1 : lw_okq (⟨"SignedSheets", "allCanBe", "()Z"⟩, 7) := ⟨⟨by decide +kernel, by decide +kernel⟩, List.mem_of_getElem? (i := 15) (by decide +kernel), List.mem_of_getElem? (i := 398) (by decide +kernel), List.mem_of_getElem? (i := 399) (by decide +kernel)⟩
theorem lw_p2 : lw_okq (⟨"SignedSheets$Plan", "meanOfBetter", "([III)J"⟩, 3) := ⟨⟨by decide +kernel, by decide +kernel⟩, List.mem_of_getElem? (i := 168) (by decide +kernel), List.mem_of_getElem? (i := 449) (by decide +kernel), List.mem_of_getElem? (i := 450) (by decide +kernel)⟩
theorem lw_p3 : lw_okq (⟨"SignedSheets$Plan", "valueOfSigning", "(III)J"⟩, 3) := ⟨⟨by decide +kernel, by decide +kernel⟩, List.mem_of_getElem? (i := 168) (by decide +kernel), List.mem_of_getElem? (i := 457) (by decide +kernel), List.mem_of_getElem? (i := 458) (by decide +kernel)⟩
theorem lw_p4 : lw_okq (⟨"SignedSheets$Netting", "mostCirclesInside", "(I)I"⟩, 2) := ⟨⟨by decide +kernel, by decide +kernel⟩, List.mem_of_getElem? (i := 203) (by decide +kernel), List.mem_of_getElem? (i := 524) (by decide +kernel), List.mem_of_getElem? (i := 525) (by decide +kernel)⟩
theorem lw_p5 : lw_okq (⟨"SignedSheets", "areTails", "(I)Z"⟩, 7) := ⟨⟨by decide +kernel, by decide +kernel⟩, List.mem_of_getElem? (i := 15) (by decide +kernel), List.mem_of_getElem? (i := 535) (by decide +kernel), List.mem_of_getElem? (i := 536) (by decide +kernel)⟩
theorem lw_p6 : lw_okq (⟨"SignedSheets$Matching", "weighSet", "(LSignedSheets$Folk;I)V"⟩, 3) := ⟨⟨by decide +kernel, by decide +kernel⟩, List.mem_of_getElem? (i := 185) (by decide +kernel), List.mem_of_getElem? (i := 544) (by decide +kernel), List.mem_of_getElem? (i := 545) (by decide +kernel)⟩
theorem lw_p7 : lw_okq (⟨"SignedSheets$Matching", "slipsWith", "(LSignedSheets$Folk;II)I"⟩, 3) := ⟨⟨by decide +kernel, by decide +kernel⟩, List.mem_of_getElem? (i := 185) (by decide +kernel), List.mem_of_getElem? (i := 552) (by decide +kernel), List.mem_of_getElem? (i := 553) (by decide +kernel)⟩
theorem lw_p8 : lw_okq (⟨"SignedSheets$Matching", "firstWriter", "(LSignedSheets$Folk;I)I"⟩, 3) := ⟨⟨by decide +kernel, by decide +kernel⟩, List.mem_of_getElem? (i := 185) (by decide +kernel), List.mem_of_getElem? (i := 568) (by decide +kernel), List.mem_of_getElem? (i := 569) (by decide +kernel)⟩
theorem lw_p9 : lw_okq (⟨"SignedSheets", "fittingHabits", "()I"⟩, 7) := ⟨⟨by decide +kernel, by decide +kernel⟩, List.mem_of_getElem? (i := 15) (by decide +kernel), List.mem_of_getElem? (i := 596) (by decide +kernel), List.mem_of_getElem? (i := 597) (by decide +kernel)⟩
theorem lw_p10 : lw_okq (⟨"SignedSheets", "signingHabits", "(III)I"⟩, 7) := ⟨⟨by decide +kernel, by decide +kernel⟩, List.mem_of_getElem? (i := 15) (by decide +kernel), List.mem_of_getElem? (i := 600) (by decide +kernel), List.mem_of_getElem? (i := 601) (by decide +kernel)⟩
theorem lw_p11 : lw_okq (⟨"SignedSheets", "bestWatch", "(II)I"⟩, 7) := ⟨⟨by decide +kernel, by decide +kernel⟩, List.mem_of_getElem? (i := 15) (by decide +kernel), List.mem_of_getElem? (i := 609) (by decide +kernel), List.mem_of_getElem? (i := 610) (by decide +kernel)⟩
theorem lw_p12 : lw_okq (⟨"SignedSheetsModel", "isThere", "(I)Z"⟩, 22) := ⟨⟨by decide +kernel, by decide +kernel⟩, List.mem_of_getElem? (i := 650) (by decide +kernel), List.mem_of_getElem? (i := 740) (by decide +kernel), List.mem_of_getElem? (i := 741) (by decide +kernel)⟩
theorem lw_p13 : lw_okq (⟨"SignedSheetsModel", "faultOf", "()I"⟩, 22) := ⟨⟨by decide +kernel, by decide +kernel⟩, List.mem_of_getElem? (i := 650) (by decide +kernel), List.mem_of_getElem? (i := 760) (by decide +kernel), List.mem_of_getElem? (i := 761) (by decide +kernel)⟩
theorem lw_p14 : lw_okq (⟨"SignedSheetsModel", "goLives", "()I"⟩, 22) := ⟨⟨by decide +kernel, by decide +kernel⟩, List.mem_of_getElem? (i := 650) (by decide +kernel), List.mem_of_getElem? (i := 777) (by decide +kernel), List.mem_of_getElem? (i := 778) (by decide +kernel)⟩
theorem lw_p15 : lw_okq (⟨"SignedSheetsModel", "asNow", "()V"⟩, 22) := ⟨⟨by decide +kernel, by decide +kernel⟩, List.mem_of_getElem? (i := 650) (by decide +kernel), List.mem_of_getElem? (i := 781) (by decide +kernel), List.mem_of_getElem? (i := 782) (by decide +kernel)⟩
def lw_privs_1 : List (MethodName × Nat) := [(⟨"SignedSheets$Lives", "tellAct", "()V"⟩, 7), (⟨"SignedSheets", "allCanBe", "()Z"⟩, 7), (⟨"SignedSheets$Plan", "meanOfBetter", "([III)J"⟩, 3), (⟨"SignedSheets$Plan", "valueOfSigning", "(III)J"⟩, 3), (⟨"SignedSheets$Netting", "mostCirclesInside", "(I)I"⟩, 2), (⟨"SignedSheets", "areTails", "(I)Z"⟩, 7), (⟨"SignedSheets$Matching", "weighSet", "(LSignedSheets$Folk;I)V"⟩, 3), (⟨"SignedSheets$Matching", "slipsWith", "(LSignedSheets$Folk;II)I"⟩, 3), (⟨"SignedSheets$Matching", "firstWriter", "(LSignedSheets$Folk;I)I"⟩, 3), (⟨"SignedSheets", "fittingHabits", "()I"⟩, 7), (⟨"SignedSheets", "signingHabits", "(III)I"⟩, 7), (⟨"SignedSheets", "bestWatch", "(II)I"⟩, 7), (⟨"SignedSheetsModel", "isThere", "(I)Z"⟩, 22), (⟨"SignedSheetsModel", "faultOf", "()I"⟩, 22), (⟨"SignedSheetsModel", "goLives", "()I"⟩, 22), (⟨"SignedSheetsModel", "asNow", "()V"⟩, 22)]
theorem lw_r1 : ∀ q ∈ lw_privs_1, lw_okq q := List.forall_mem_cons.mpr ⟨lw_p0, List.forall_mem_cons.mpr ⟨lw_p1, List.forall_mem_cons.mpr ⟨lw_p2, List.forall_mem_cons.mpr ⟨lw_p3, List.forall_mem_cons.mpr ⟨lw_p4, List.forall_mem_cons.mpr ⟨lw_p5, List.forall_mem_cons.mpr ⟨lw_p6, List.forall_mem_cons.mpr ⟨lw_p7, List.forall_mem_cons.mpr ⟨lw_p8, List.forall_mem_cons.mpr ⟨lw_p9, List.forall_mem_cons.mpr ⟨lw_p10, List.forall_mem_cons.mpr ⟨lw_p11, List.forall_mem_cons.mpr ⟨lw_p12, List.forall_mem_cons.mpr ⟨lw_p13, List.forall_mem_cons.mpr ⟨lw_p14, List.forall_mem_cons.mpr ⟨lw_p15, fun _ h => absurd h List.not_mem_nil⟩⟩⟩⟩⟩⟩⟩⟩⟩⟩⟩⟩⟩⟩⟩⟩
theorem lw_p16 : lw_okq (⟨"SignedSheetsModel", "some", "()I"⟩, 22) := ⟨⟨by decide +kernel, by decide +kernel⟩, List.mem_of_getElem? (i := 650) (by decide +kernel), List.mem_of_getElem? (i := 785) (by decide +kernel), List.mem_of_getElem? (i := 786) (by decide +kernel)⟩
theorem lw_p17 : lw_okq (⟨"SignedSheetsModel", "endYear", "()I"⟩, 22) := ⟨⟨by decide +kernel, by decide +kernel⟩, List.mem_of_getElem? (i := 650) (by decide +kernel), List.mem_of_getElem? (i := 789) (by decide +kernel), List.mem_of_getElem? (i := 790) (by decide +kernel)⟩
theorem lw_p18 : lw_okq (⟨"SignedSheetsModel", "signAct", "(II)I"⟩, 22) := ⟨⟨by decide +kernel, by decide +kernel⟩, List.mem_of_getElem? (i := 650) (by decide +kernel), List.mem_of_getElem? (i := 793) (by decide +kernel), List.mem_of_getElem? (i := 794) (by decide +kernel)⟩
theorem lw_p19 : lw_okq (⟨"SignedSheetsModel", "gains", "(II)V"⟩, 22) := ⟨⟨by decide +kernel, by decide +kernel⟩, List.mem_of_getElem? (i := 650) (by decide +kernel), List.mem_of_getElem? (i := 797) (by decide +kernel), List.mem_of_getElem? (i := 798) (by decide +kernel)⟩
theorem lw_p20 : lw_okq (⟨"SignedSheetsModel", "forge", "(II)I"⟩, 22) := ⟨⟨by decide +kernel, by decide +kernel⟩, List.mem_of_getElem? (i := 650) (by decide +kernel), List.mem_of_getElem? (i := 801) (by decide +kernel), List.mem_of_getElem? (i := 802) (by decide +kernel)⟩
theorem lw_p21 : lw_okq (⟨"SignedSheetsModel", "blot", "(I)I"⟩, 22) := ⟨⟨by decide +kernel, by decide +kernel⟩, List.mem_of_getElem? (i := 650) (by decide +kernel), List.mem_of_getElem? (i := 805) (by decide +kernel), List.mem_of_getElem? (i := 806) (by decide +kernel)⟩
theorem lw_p22 : lw_okq (⟨"SignedSheetsModel", "hand", "(IIII)I"⟩, 22) := ⟨⟨by decide +kernel, by decide +kernel⟩, List.mem_of_getElem? (i := 650) (by decide +kernel), List.mem_of_getElem? (i := 809) (by decide +kernel), List.mem_of_getElem? (i := 810) (by decide +kernel)⟩
theorem lw_p23 : lw_okq (⟨"SignedSheetsModel", "gets", "(II)V"⟩, 22) := ⟨⟨by decide +kernel, by decide +kernel⟩, List.mem_of_getElem? (i := 650) (by decide +kernel), List.mem_of_getElem? (i := 813) (by decide +kernel), List.mem_of_getElem? (i := 814) (by decide +kernel)⟩
theorem lw_p24 : lw_okq (⟨"SignedSheetsModel", "barOfLives", "()I"⟩, 22) := ⟨⟨by decide +kernel, by decide +kernel⟩, List.mem_of_getElem? (i := 650) (by decide +kernel), List.mem_of_getElem? (i := 821) (by decide +kernel), List.mem_of_getElem? (i := 822) (by decide +kernel)⟩
theorem lw_p25 : lw_okq (⟨"SignedSheetsModel", "layBest", "()V"⟩, 22) := ⟨⟨by decide +kernel, by decide +kernel⟩, List.mem_of_getElem? (i := 650) (by decide +kernel), List.mem_of_getElem? (i := 850) (by decide +kernel), List.mem_of_getElem? (i := 851) (by decide +kernel)⟩
theorem lw_p26 : lw_okq (⟨"SignedSheetsModel", "weights", "()I"⟩, 22) := ⟨⟨by decide +kernel, by decide +kernel⟩, List.mem_of_getElem? (i := 650) (by decide +kernel), List.mem_of_getElem? (i := 854) (by decide +kernel), List.mem_of_getElem? (i := 855) (by decide +kernel)⟩
theorem lw_p27 : lw_okq (⟨"SignedSheetsModel", "leastOf", "(II)I"⟩, 22) := ⟨⟨by decide +kernel, by decide +kernel⟩, List.mem_of_getElem? (i := 650) (by decide +kernel), List.mem_of_getElem? (i := 869) (by decide +kernel), List.mem_of_getElem? (i := 870) (by decide +kernel)⟩
theorem lw_p28 : lw_okq (⟨"SignedSheetsModel", "netOf", "(I)I"⟩, 22) := ⟨⟨by decide +kernel, by decide +kernel⟩, List.mem_of_getElem? (i := 650) (by decide +kernel), List.mem_of_getElem? (i := 892) (by decide +kernel), List.mem_of_getElem? (i := 893) (by decide +kernel)⟩
theorem lw_p29 : lw_okq (⟨"SignedSheetsModel", "layActs", "(I)Z"⟩, 22) := ⟨⟨by decide +kernel, by decide +kernel⟩, List.mem_of_getElem? (i := 650) (by decide +kernel), List.mem_of_getElem? (i := 904) (by decide +kernel), List.mem_of_getElem? (i := 905) (by decide +kernel)⟩
theorem lw_p30 : lw_okq (⟨"SignedSheetsModel", "layMatch", "()V"⟩, 22) := ⟨⟨by decide +kernel, by decide +kernel⟩, List.mem_of_getElem? (i := 650) (by decide +kernel), List.mem_of_getElem? (i := 908) (by decide +kernel), List.mem_of_getElem? (i := 909) (by decide +kernel)⟩
theorem lw_p31 : lw_okq (⟨"SignedSheetsModel", "habits", "()I"⟩, 22) := ⟨⟨by decide +kernel, by decide +kernel⟩, List.mem_of_getElem? (i := 650) (by decide +kernel), List.mem_of_getElem? (i := 938) (by decide +kernel), List.mem_of_getElem? (i := 939) (by decide +kernel)⟩
def lw_privs_2 : List (MethodName × Nat) := [(⟨"SignedSheetsModel", "some", "()I"⟩, 22), (⟨"SignedSheetsModel", "endYear", "()I"⟩, 22), (⟨"SignedSheetsModel", "signAct", "(II)I"⟩, 22), (⟨"SignedSheetsModel", "gains", "(II)V"⟩, 22), (⟨"SignedSheetsModel", "forge", "(II)I"⟩, 22), (⟨"SignedSheetsModel", "blot", "(I)I"⟩, 22), (⟨"SignedSheetsModel", "hand", "(IIII)I"⟩, 22), (⟨"SignedSheetsModel", "gets", "(II)V"⟩, 22), (⟨"SignedSheetsModel", "barOfLives", "()I"⟩, 22), (⟨"SignedSheetsModel", "layBest", "()V"⟩, 22), (⟨"SignedSheetsModel", "weights", "()I"⟩, 22), (⟨"SignedSheetsModel", "leastOf", "(II)I"⟩, 22), (⟨"SignedSheetsModel", "netOf", "(I)I"⟩, 22), (⟨"SignedSheetsModel", "layActs", "(I)Z"⟩, 22), (⟨"SignedSheetsModel", "layMatch", "()V"⟩, 22), (⟨"SignedSheetsModel", "habits", "()I"⟩, 22)]
theorem lw_r2 : ∀ q ∈ lw_privs_2, lw_okq q := List.forall_mem_cons.mpr ⟨lw_p16, List.forall_mem_cons.mpr ⟨lw_p17, List.forall_mem_cons.mpr ⟨lw_p18, List.forall_mem_cons.mpr ⟨lw_p19, List.forall_mem_cons.mpr ⟨lw_p20, List.forall_mem_cons.mpr ⟨lw_p21, List.forall_mem_cons.mpr ⟨lw_p22, List.forall_mem_cons.mpr ⟨lw_p23, List.forall_mem_cons.mpr ⟨lw_p24, List.forall_mem_cons.mpr ⟨lw_p25, List.forall_mem_cons.mpr ⟨lw_p26, List.forall_mem_cons.mpr ⟨lw_p27, List.forall_mem_cons.mpr ⟨lw_p28, List.forall_mem_cons.mpr ⟨lw_p29, List.forall_mem_cons.mpr ⟨lw_p30, List.forall_mem_cons.mpr ⟨lw_p31, fun _ h => absurd h List.not_mem_nil⟩⟩⟩⟩⟩⟩⟩⟩⟩⟩⟩⟩⟩⟩⟩⟩
theorem lw_p32 : lw_okq (⟨"SignedSheetsModel", "doesSign", "(IIII)Z"⟩, 22) := ⟨⟨by decide +kernel, by decide +kernel⟩, List.mem_of_getElem? (i := 650) (by decide +kernel), List.mem_of_getElem? (i := 942) (by decide +kernel), List.mem_of_getElem? (i := 943) (by decide +kernel)⟩
def lw_privs_3 : List (MethodName × Nat) := [(⟨"SignedSheetsModel", "doesSign", "(IIII)Z"⟩, 22)]
theorem lw_r3 : ∀ q ∈ lw_privs_3, lw_okq q := List.forall_mem_cons.mpr ⟨lw_p32, fun _ h => absurd h List.not_mem_nil⟩
def lw_privs : List (MethodName × Nat) := lw_privs_1 ++ (lw_privs_2 ++ (lw_privs_3))
def lw_tbl : List Cond := k2_sels lw_privs ++ tables_1
theorem lw_privs_ok : ∀ q ∈ lw_privs, lw_okq q := by
  show ∀ q ∈ lw_privs_1 ++ (lw_privs_2 ++ (lw_privs_3)), lw_okq q
  exact List.forall_mem_append.mpr ⟨lw_r1, List.forall_mem_append.mpr ⟨lw_r2, lw_r3⟩⟩
end
section
def RX0 : String := "SignedSheets$Act"
def TX0 : u_T := fun k => match k with
  | 0 => ("SignedSheets$Act", "kind", "I", false)
  | 1 => ("SignedSheets$Act", "doer", "I", false)
  | 2 => ("SignedSheets$Act", "number", "I", false)
  | 3 => ("SignedSheets$Act", "other", "I", false)
  | _ => ("SignedSheets$Act", "length", "I", false)
def tyX0 : Nat → FieldType := fun k => match k with
  | 0 => .int
  | 1 => .int
  | 2 => .int
  | 3 => .int
  | _ => .int
abbrev wsX00 : List Cond := u_ws RX0 TX0 5
theorem nmX0 : ∀ a, a < 5 → ∀ b, b < 5 → a ≠ b → (TX0 a).2.1 ≠ (TX0 b).2.1 := by decide +kernel
theorem tyX0_ok : ∀ k, k < 5 → parseFieldDescriptor (TX0 k).2.2.1 = some (tyX0 k) := by decide +kernel
abbrev cX0_init : ByteArray := prog_2_method_1_code
def yX0_init : MethodName := ⟨RX0, "<init>", "()V"⟩
abbrev cX0_read : ByteArray := prog_2_method_2_code
def yX0_read : MethodName := ⟨RX0, "read", "(LSignedSheets$Pad;I)V"⟩
abbrev cX0_isOfTwo : ByteArray := prog_2_method_3_code
def yX0_isOfTwo : MethodName := ⟨RX0, "isOfTwo", "()Z"⟩
abbrev cX0_obstacle : ByteArray := prog_2_method_4_code
def yX0_obstacle : MethodName := ⟨RX0, "obstacle", "(LSignedSheets$Folk;)I"⟩
abbrev cX0_sheetsNeeded : ByteArray := prog_2_method_5_code
def yX0_sheetsNeeded : MethodName := ⟨RX0, "sheetsNeeded", "()I"⟩
abbrev cX0_apply : ByteArray := prog_2_method_6_code
def yX0_apply : MethodName := ⟨RX0, "apply", "(LSignedSheets$Folk;)V"⟩
def RX1 : String := "SignedSheets$Folk"
def TX1 : u_T := fun k => match k with
  | 0 => ("SignedSheets$Folk", "there", "I", false)
  | 1 => ("SignedSheets$Folk", "year", "I", false)
  | 2 => ("SignedSheets$Folk", "sheets", "[I", true)
  | 3 => ("SignedSheets$Folk", "tail", "[I", true)
  | 4 => ("SignedSheets$Folk", "worth", "[I", true)
  | 5 => ("SignedSheets$Folk", "forged", "[I", true)
  | _ => ("SignedSheets$Folk", "debts", "[I", true)
def tyX1 : Nat → FieldType := fun k => match k with
  | 0 => .int
  | 1 => .int
  | 2 => .array .int
  | 3 => .array .int
  | 4 => .array .int
  | 5 => .array .int
  | _ => .array .int
abbrev wsX10 : List Cond := u_ws RX1 TX1 7
theorem nmX1 : ∀ a, a < 7 → ∀ b, b < 7 → a ≠ b → (TX1 a).2.1 ≠ (TX1 b).2.1 := by decide +kernel
theorem tyX1_ok : ∀ k, k < 7 → parseFieldDescriptor (TX1 k).2.2.1 = some (tyX1 k) := by decide +kernel
abbrev cX1_init : ByteArray := prog_3_method_1_code
def yX1_init : MethodName := ⟨RX1, "<init>", "()V"⟩
abbrev cX1_has : ByteArray := prog_3_method_2_code
def yX1_has : MethodName := ⟨RX1, "has", "(I)Z"⟩
abbrev cX1_count : ByteArray := prog_3_method_3_code
def yX1_count : MethodName := ⟨RX1, "count", "()I"⟩
abbrev cX1_enter : ByteArray := prog_3_method_4_code
def yX1_enter : MethodName := ⟨RX1, "enter", "(III)V"⟩
abbrev cX1_leave : ByteArray := prog_3_method_5_code
def yX1_leave : MethodName := ⟨RX1, "leave", "(I)V"⟩
abbrev cX1_copyFrom : ByteArray := prog_3_method_6_code
def yX1_copyFrom : MethodName := ⟨RX1, "copyFrom", "(LSignedSheets$Folk;)V"⟩
abbrev cX1_holding : ByteArray := prog_3_method_7_code
def yX1_holding : MethodName := ⟨RX1, "holding", "(II)I"⟩
abbrev cX1_debt : ByteArray := prog_3_method_8_code
def yX1_debt : MethodName := ⟨RX1, "debt", "(II)I"⟩
abbrev cX1_net : ByteArray := prog_3_method_9_code
def yX1_net : MethodName := ⟨RX1, "net", "(I)I"⟩
abbrev cX1_signAct : ByteArray := prog_3_method_10_code
def yX1_signAct : MethodName := ⟨RX1, "signAct", "(II)V"⟩
abbrev cX1_forgeAct : ByteArray := prog_3_method_11_code
def yX1_forgeAct : MethodName := ⟨RX1, "forgeAct", "(II)V"⟩
abbrev cX1_earn : ByteArray := prog_3_method_12_code
def yX1_earn : MethodName := ⟨RX1, "earn", "(II)V"⟩
abbrev cX1_move : ByteArray := prog_3_method_13_code
def yX1_move : MethodName := ⟨RX1, "move", "(III)V"⟩
abbrev cX1_owe : ByteArray := prog_3_method_14_code
def yX1_owe : MethodName := ⟨RX1, "owe", "(III)V"⟩
abbrev cX1_bare : ByteArray := prog_3_method_15_code
def yX1_bare : MethodName := ⟨RX1, "bare", "()I"⟩
abbrev cX1_honest : ByteArray := prog_3_method_16_code
def yX1_honest : MethodName := ⟨RX1, "honest", "()I"⟩
abbrev cX1_richest : ByteArray := prog_3_method_17_code
def yX1_richest : MethodName := ⟨RX1, "richest", "()I"⟩
abbrev cX1_worthOfAll : ByteArray := prog_3_method_18_code
def yX1_worthOfAll : MethodName := ⟨RX1, "worthOfAll", "()I"⟩
def RX2 : String := "SignedSheets$Lives"
def TX2 : u_T := fun k => match k with
  | 0 => ("SignedSheets$Lives", "after", "LSignedSheets$Folk;", true)
  | 1 => ("SignedSheets$Lives", "act", "LSignedSheets$Act;", true)
  | 2 => ("SignedSheets$Lives", "acts", "I", false)
  | 3 => ("SignedSheets$Lives", "badAct", "I", false)
  | 4 => ("SignedSheets$Lives", "why", "I", false)
  | 5 => ("SignedSheets$Lives", "signed", "I", false)
  | _ => ("SignedSheets$Lives", "bareAct", "I", false)
def tyX2 : Nat → FieldType := fun k => match k with
  | 0 => .object "SignedSheets$Folk"
  | 1 => .object "SignedSheets$Act"
  | 2 => .int
  | 3 => .int
  | 4 => .int
  | 5 => .int
  | _ => .int
abbrev wsX20 : List Cond := u_ws RX2 TX2 7
theorem nmX2 : ∀ a, a < 7 → ∀ b, b < 7 → a ≠ b → (TX2 a).2.1 ≠ (TX2 b).2.1 := by decide +kernel
theorem tyX2_ok : ∀ k, k < 7 → parseFieldDescriptor (TX2 k).2.2.1 = some (tyX2 k) := by decide +kernel
abbrev cX2_init : ByteArray := prog_4_method_1_code
def yX2_init : MethodName := ⟨RX2, "<init>", "()V"⟩
abbrev cX2_tell : ByteArray := prog_4_method_2_code
def yX2_tell : MethodName := ⟨RX2, "tell", "(LSignedSheets$Folk;LSignedSheets$Pad;)V"⟩
abbrev cX2_tellAct : ByteArray := prog_4_method_3_code
def yX2_tellAct : MethodName := ⟨RX2, "tellAct", "()V"⟩
abbrev cX2_draw : ByteArray := prog_4_method_4_code
def yX2_draw : MethodName := ⟨RX2, "draw", "(LSignedSheets$Folk;II)I"⟩
def RX3 : String := "SignedSheets$Matching"
def TX3 : u_T := fun k => match k with
  | 0 => ("SignedSheets$Matching", "slips", "[I", true)
  | 1 => ("SignedSheets$Matching", "ways", "[I", true)
  | _ => ("SignedSheets$Matching", "tailOfAct", "[I", true)
def tyX3 : Nat → FieldType := fun k => match k with
  | 0 => .array .int
  | 1 => .array .int
  | _ => .array .int
abbrev wsX30 : List Cond := u_ws RX3 TX3 3
theorem nmX3 : ∀ a, a < 3 → ∀ b, b < 3 → a ≠ b → (TX3 a).2.1 ≠ (TX3 b).2.1 := by decide +kernel
theorem tyX3_ok : ∀ k, k < 3 → parseFieldDescriptor (TX3 k).2.2.1 = some (tyX3 k) := by decide +kernel
abbrev cX3_init : ByteArray := prog_5_method_1_code
def yX3_init : MethodName := ⟨RX3, "<init>", "()V"⟩
abbrev cX3_weigh : ByteArray := prog_5_method_2_code
def yX3_weigh : MethodName := ⟨RX3, "weigh", "(LSignedSheets$Folk;I)V"⟩
abbrev cX3_weighSet : ByteArray := prog_5_method_3_code
def yX3_weighSet : MethodName := ⟨RX3, "weighSet", "(LSignedSheets$Folk;I)V"⟩
abbrev cX3_isLeft : ByteArray := prog_5_method_4_code
def yX3_isLeft : MethodName := ⟨RX3, "isLeft", "(LSignedSheets$Folk;II)Z"⟩
abbrev cX3_slipsWith : ByteArray := prog_5_method_5_code
def yX3_slipsWith : MethodName := ⟨RX3, "slipsWith", "(LSignedSheets$Folk;II)I"⟩
abbrev cX3_writerOf : ByteArray := prog_5_method_6_code
def yX3_writerOf : MethodName := ⟨RX3, "writerOf", "(LSignedSheets$Folk;I)I"⟩
abbrev cX3_firstWriter : ByteArray := prog_5_method_7_code
def yX3_firstWriter : MethodName := ⟨RX3, "firstWriter", "(LSignedSheets$Folk;I)I"⟩
def RX4 : String := "SignedSheets$Netting"
def TX4 : u_T := fun k => match k with
  | 0 => ("SignedSheets$Netting", "sums", "[I", true)
  | _ => ("SignedSheets$Netting", "circles", "[I", true)
def tyX4 : Nat → FieldType := fun k => match k with
  | 0 => .array .int
  | _ => .array .int
abbrev wsX40 : List Cond := u_ws RX4 TX4 2
theorem nmX4 : ∀ a, a < 2 → ∀ b, b < 2 → a ≠ b → (TX4 a).2.1 ≠ (TX4 b).2.1 := by decide +kernel
theorem tyX4_ok : ∀ k, k < 2 → parseFieldDescriptor (TX4 k).2.2.1 = some (tyX4 k) := by decide +kernel
abbrev cX4_init : ByteArray := prog_6_method_1_code
def yX4_init : MethodName := ⟨RX4, "<init>", "()V"⟩
abbrev cX4_fewestHands : ByteArray := prog_6_method_2_code
def yX4_fewestHands : MethodName := ⟨RX4, "fewestHands", "(LSignedSheets$Folk;)I"⟩
abbrev cX4_mostCirclesInside : ByteArray := prog_6_method_3_code
def yX4_mostCirclesInside : MethodName := ⟨RX4, "mostCirclesInside", "(I)I"⟩
def RX5 : String := "SignedSheets$Pad"
def TX5 : u_T := fun k => match k with
  | 0 => ("SignedSheets$Pad", "sign", "[I", true)
  | _ => ("SignedSheets$Pad", "count", "I", false)
def tyX5 : Nat → FieldType := fun k => match k with
  | 0 => .array .int
  | _ => .int
abbrev wsX50 : List Cond := u_ws RX5 TX5 2
theorem nmX5 : ∀ a, a < 2 → ∀ b, b < 2 → a ≠ b → (TX5 a).2.1 ≠ (TX5 b).2.1 := by decide +kernel
theorem tyX5_ok : ∀ k, k < 2 → parseFieldDescriptor (TX5 k).2.2.1 = some (tyX5 k) := by decide +kernel
abbrev cX5_init : ByteArray := prog_7_method_1_code
def yX5_init : MethodName := ⟨RX5, "<init>", "()V"⟩
abbrev cX5_add : ByteArray := prog_7_method_2_code
def yX5_add : MethodName := ⟨RX5, "add", "(I)V"⟩
abbrev cX5_signAt : ByteArray := prog_7_method_3_code
def yX5_signAt : MethodName := ⟨RX5, "signAt", "(I)I"⟩
abbrev cX5_firstFault : ByteArray := prog_7_method_4_code
def yX5_firstFault : MethodName := ⟨RX5, "firstFault", "()I"⟩
abbrev cX5_awaitedBehind : ByteArray := prog_7_method_5_code
def yX5_awaitedBehind : MethodName := ⟨RX5, "awaitedBehind", "(II)I"⟩
abbrev cX5_awaitedBehindDeed : ByteArray := prog_7_method_6_code
def yX5_awaitedBehindDeed : MethodName := ⟨RX5, "awaitedBehindDeed", "(I)I"⟩
abbrev cX5_isLetter : ByteArray := prog_7_method_7_code
def yX5_isLetter : MethodName := ⟨RX5, "isLetter", "(I)Z"⟩
abbrev cX5_isDigit : ByteArray := prog_7_method_8_code
def yX5_isDigit : MethodName := ⟨RX5, "isDigit", "(I)Z"⟩
def RX6 : String := "SignedSheets$Plan"
def TX6 : u_T := fun k => match k with
  | 0 => ("SignedSheets$Plan", "values", "[J", true)
  | 1 => ("SignedSheets$Plan", "scales", "[J", true)
  | _ => ("SignedSheets$Plan", "known", "Z", false)
def tyX6 : Nat → FieldType := fun k => match k with
  | 0 => .array .long
  | 1 => .array .long
  | _ => .boolean
abbrev wsX60 : List Cond := u_ws RX6 TX6 3
theorem nmX6 : ∀ a, a < 3 → ∀ b, b < 3 → a ≠ b → (TX6 a).2.1 ≠ (TX6 b).2.1 := by decide +kernel
theorem tyX6_ok : ∀ k, k < 3 → parseFieldDescriptor (TX6 k).2.2.1 = some (tyX6 k) := by decide +kernel
abbrev cX6_init : ByteArray := prog_8_method_1_code
def yX6_init : MethodName := ⟨RX6, "<init>", "()V"⟩
abbrev cX6_forgetValues : ByteArray := prog_8_method_2_code
def yX6_forgetValues : MethodName := ⟨RX6, "forgetValues", "()V"⟩
abbrev cX6_learn : ByteArray := prog_8_method_3_code
def yX6_learn : MethodName := ⟨RX6, "learn", "(LSignedSheets$World;)V"⟩
abbrev cX6_meanOfBetter : ByteArray := prog_8_method_4_code
def yX6_meanOfBetter : MethodName := ⟨RX6, "meanOfBetter", "([III)J"⟩
abbrev cX6_valueOfSigning : ByteArray := prog_8_method_5_code
def yX6_valueOfSigning : MethodName := ⟨RX6, "valueOfSigning", "(III)J"⟩
abbrev cX6_value : ByteArray := prog_8_method_6_code
def yX6_value : MethodName := ⟨RX6, "value", "(II)J"⟩
abbrev cX6_scale : ByteArray := prog_8_method_7_code
def yX6_scale : MethodName := ⟨RX6, "scale", "(I)J"⟩
abbrev cX6_isToSign : ByteArray := prog_8_method_8_code
def yX6_isToSign : MethodName := ⟨RX6, "isToSign", "(III)Z"⟩
abbrev cX6_leastToSign : ByteArray := prog_8_method_9_code
def yX6_leastToSign : MethodName := ⟨RX6, "leastToSign", "(II)I"⟩
def RX7 : String := "SignedSheets$World"
def TX7 : u_T := fun k => match k with
  | 0 => ("SignedSheets$World", "folk", "LSignedSheets$Folk;", true)
  | 1 => ("SignedSheets$World", "weight", "[I", true)
  | 2 => ("SignedSheets$World", "sightOffer", "[I", true)
  | 3 => ("SignedSheets$World", "sightSigned", "[Z", true)
  | 4 => ("SignedSheets$World", "sights", "I", false)
  | _ => ("SignedSheets$World", "kept", "Z", false)
def tyX7 : Nat → FieldType := fun k => match k with
  | 0 => .object "SignedSheets$Folk"
  | 1 => .array .int
  | 2 => .array .int
  | 3 => .array .boolean
  | 4 => .int
  | _ => .boolean
abbrev wsX70 : List Cond := u_ws RX7 TX7 6
theorem nmX7 : ∀ a, a < 6 → ∀ b, b < 6 → a ≠ b → (TX7 a).2.1 ≠ (TX7 b).2.1 := by decide +kernel
theorem tyX7_ok : ∀ k, k < 6 → parseFieldDescriptor (TX7 k).2.2.1 = some (tyX7 k) := by decide +kernel
abbrev cX7_init : ByteArray := prog_9_method_1_code
def yX7_init : MethodName := ⟨RX7, "<init>", "()V"⟩
abbrev cX7_weightOfAll : ByteArray := prog_9_method_2_code
def yX7_weightOfAll : MethodName := ⟨RX7, "weightOfAll", "()I"⟩
abbrev cX7_addSight : ByteArray := prog_9_method_3_code
def yX7_addSight : MethodName := ⟨RX7, "addSight", "(IIIZ)V"⟩
abbrev cX7_copyFrom : ByteArray := prog_9_method_4_code
def yX7_copyFrom : MethodName := ⟨RX7, "copyFrom", "(LSignedSheets$World;)V"⟩
def RX8 : String := "SignedSheets"
def TX8 : u_T := fun k => match k with
  | 0 => ("SignedSheets", "now", "LSignedSheets$World;", true)
  | 1 => ("SignedSheets", "images", "[LSignedSheets$World;", true)
  | 2 => ("SignedSheets", "pad", "LSignedSheets$Pad;", true)
  | 3 => ("SignedSheets", "lives", "LSignedSheets$Lives;", true)
  | 4 => ("SignedSheets", "plan", "LSignedSheets$Plan;", true)
  | 5 => ("SignedSheets", "matching", "LSignedSheets$Matching;", true)
  | _ => ("SignedSheets", "netting", "LSignedSheets$Netting;", true)
def tyX8 : Nat → FieldType := fun k => match k with
  | 0 => .object "SignedSheets$World"
  | 1 => .array (.object "SignedSheets$World")
  | 2 => .object "SignedSheets$Pad"
  | 3 => .object "SignedSheets$Lives"
  | 4 => .object "SignedSheets$Plan"
  | 5 => .object "SignedSheets$Matching"
  | _ => .object "SignedSheets$Netting"
abbrev wsX80 : List Cond := u_ws RX8 TX8 7
theorem nmX8 : ∀ a, a < 7 → ∀ b, b < 7 → a ≠ b → (TX8 a).2.1 ≠ (TX8 b).2.1 := by decide +kernel
theorem tyX8_ok : ∀ k, k < 7 → parseFieldDescriptor (TX8 k).2.2.1 = some (tyX8 k) := by decide +kernel
abbrev cX8_init : ByteArray := prog_1_method_1_code
def yX8_init : MethodName := ⟨RX8, "<init>", "()V"⟩
abbrev cX8_person : ByteArray := prog_1_method_2_code
def yX8_person : MethodName := ⟨RX8, "person", "(III)I"⟩
abbrev cX8_die : ByteArray := prog_1_method_3_code
def yX8_die : MethodName := ⟨RX8, "die", "(I)I"⟩
abbrev cX8_weight : ByteArray := prog_1_method_4_code
def yX8_weight : MethodName := ⟨RX8, "weight", "(II)I"⟩
abbrev cX8_say : ByteArray := prog_1_method_5_code
def yX8_say : MethodName := ⟨RX8, "say", "(I)I"⟩
abbrev cX8_wipe : ByteArray := prog_1_method_6_code
def yX8_wipe : MethodName := ⟨RX8, "wipe", "()I"⟩
abbrev cX8_fault : ByteArray := prog_1_method_7_code
def yX8_fault : MethodName := ⟨RX8, "fault", "()I"⟩
abbrev cX8_judge : ByteArray := prog_1_method_8_code
def yX8_judge : MethodName := ⟨RX8, "judge", "(I)I"⟩
abbrev cX8_done : ByteArray := prog_1_method_9_code
def yX8_done : MethodName := ⟨RX8, "done", "()I"⟩
abbrev cX8_state : ByteArray := prog_1_method_10_code
def yX8_state : MethodName := ⟨RX8, "state", "(II)I"⟩
abbrev cX8_behind : ByteArray := prog_1_method_11_code
def yX8_behind : MethodName := ⟨RX8, "behind", "(II)I"⟩
abbrev cX8_acts : ByteArray := prog_1_method_12_code
def yX8_acts : MethodName := ⟨RX8, "acts", "(I)I"⟩
abbrev cX8_owes : ByteArray := prog_1_method_13_code
def yX8_owes : MethodName := ⟨RX8, "owes", "(II)I"⟩
abbrev cX8_who : ByteArray := prog_1_method_14_code
def yX8_who : MethodName := ⟨RX8, "who", "(I)I"⟩
abbrev cX8_allCanBe : ByteArray := prog_1_method_15_code
def yX8_allCanBe : MethodName := ⟨RX8, "allCanBe", "()Z"⟩
abbrev cX8_best : ByteArray := prog_1_method_16_code
def yX8_best : MethodName := ⟨RX8, "best", "(III)J"⟩
abbrev cX8_least : ByteArray := prog_1_method_17_code
def yX8_least : MethodName := ⟨RX8, "least", "(II)I"⟩
abbrev cX8_price : ByteArray := prog_1_method_18_code
def yX8_price : MethodName := ⟨RX8, "price", "(III)J"⟩
abbrev cX8_last : ByteArray := prog_1_method_19_code
def yX8_last : MethodName := ⟨RX8, "last", "(IIII)J"⟩
abbrev cX8_netted : ByteArray := prog_1_method_20_code
def yX8_netted : MethodName := ⟨RX8, "netted", "(I)I"⟩
abbrev cX8_hands : ByteArray := prog_1_method_21_code
def yX8_hands : MethodName := ⟨RX8, "hands", "()I"⟩
abbrev cX8_isPlan : ByteArray := prog_1_method_22_code
def yX8_isPlan : MethodName := ⟨RX8, "isPlan", "(II)Z"⟩
abbrev cX8_match : ByteArray := prog_1_method_23_code
def yX8_match : MethodName := ⟨RX8, "match", "(II)I"⟩
abbrev cX8_wrote : ByteArray := prog_1_method_24_code
def yX8_wrote : MethodName := ⟨RX8, "wrote", "(II)I"⟩
abbrev cX8_compare : ByteArray := prog_1_method_25_code
def yX8_compare : MethodName := ⟨RX8, "compare", "(I)I"⟩
abbrev cX8_blots : ByteArray := prog_1_method_26_code
def yX8_blots : MethodName := ⟨RX8, "blots", "(IIII)J"⟩
abbrev cX8_seen : ByteArray := prog_1_method_27_code
def yX8_seen : MethodName := ⟨RX8, "seen", "(IIIZ)I"⟩
abbrev cX8_forget : ByteArray := prog_1_method_28_code
def yX8_forget : MethodName := ⟨RX8, "forget", "()I"⟩
abbrev cX8_signs : ByteArray := prog_1_method_29_code
def yX8_signs : MethodName := ⟨RX8, "signs", "()I"⟩
abbrev cX8_watch : ByteArray := prog_1_method_30_code
def yX8_watch : MethodName := ⟨RX8, "watch", "(I)I"⟩
abbrev cX8_book : ByteArray := prog_1_method_31_code
def yX8_book : MethodName := ⟨RX8, "book", "(III)I"⟩
abbrev cX8_image : ByteArray := prog_1_method_32_code
def yX8_image : MethodName := ⟨RX8, "image", "(I)I"⟩
abbrev cX8_restore : ByteArray := prog_1_method_33_code
def yX8_restore : MethodName := ⟨RX8, "restore", "(I)I"⟩
abbrev cX8_told : ByteArray := prog_1_method_34_code
def yX8_told : MethodName := ⟨RX8, "told", "(I)I"⟩
abbrev cX8_areTails : ByteArray := prog_1_method_35_code
def yX8_areTails : MethodName := ⟨RX8, "areTails", "(I)Z"⟩
abbrev cX8_signingHabits : ByteArray := prog_1_method_36_code
def yX8_signingHabits : MethodName := ⟨RX8, "signingHabits", "(III)I"⟩
abbrev cX8_fittingHabits : ByteArray := prog_1_method_37_code
def yX8_fittingHabits : MethodName := ⟨RX8, "fittingHabits", "()I"⟩
abbrev cX8_bestWatch : ByteArray := prog_1_method_38_code
def yX8_bestWatch : MethodName := ⟨RX8, "bestWatch", "(II)I"⟩
abbrev cX8_isIn : ByteArray := prog_1_method_39_code
def yX8_isIn : MethodName := ⟨RX8, "isIn", "(III)Z"⟩
abbrev cX8_power : ByteArray := prog_1_method_40_code
def yX8_power : MethodName := ⟨RX8, "power", "(II)J"⟩
abbrev cX8_waysOfAtMost : ByteArray := prog_1_method_41_code
def yX8_waysOfAtMost : MethodName := ⟨RX8, "waysOfAtMost", "(III)J"⟩
abbrev cX8_fractionPart : ByteArray := prog_1_method_42_code
def yX8_fractionPart : MethodName := ⟨RX8, "fractionPart", "(JJI)J"⟩
abbrev cX8_commonDivisor : ByteArray := prog_1_method_43_code
def yX8_commonDivisor : MethodName := ⟨RX8, "commonDivisor", "(JJ)J"⟩
def RX9 : String := "SignedSheetsModel"
def TX9 : u_T := fun k => match k with
  | 0 => ("SignedSheetsModel", "book", "[I", true)
  | 1 => ("SignedSheetsModel", "now", "[I", true)
  | 2 => ("SignedSheetsModel", "there", "I", false)
  | 3 => ("SignedSheetsModel", "tail", "[I", true)
  | 4 => ("SignedSheetsModel", "weight", "[I", true)
  | 5 => ("SignedSheetsModel", "sights", "I", false)
  | 6 => ("SignedSheetsModel", "sight", "[I", true)
  | 7 => ("SignedSheetsModel", "said", "I", false)
  | 8 => ("SignedSheetsModel", "pad", "[I", true)
  | 9 => ("SignedSheetsModel", "signed", "I", false)
  | 10 => ("SignedSheetsModel", "forgeries", "I", false)
  | 11 => ("SignedSheetsModel", "reason", "I", false)
  | 12 => ("SignedSheetsModel", "many", "I", false)
  | 13 => ("SignedSheetsModel", "bare", "I", false)
  | 14 => ("SignedSheetsModel", "best", "[J", true)
  | 15 => ("SignedSheetsModel", "evens", "[I", true)
  | 16 => ("SignedSheetsModel", "act", "[I", true)
  | 17 => ("SignedSheetsModel", "wrote", "[I", true)
  | 18 => ("SignedSheetsModel", "slips", "I", false)
  | 19 => ("SignedSheetsModel", "ways", "I", false)
  | 20 => ("SignedSheetsModel", "image", "[I", true)
  | _ => ("SignedSheetsModel", "isKept", "[Z", true)
def tyX9 : Nat → FieldType := fun k => match k with
  | 0 => .array .int
  | 1 => .array .int
  | 2 => .int
  | 3 => .array .int
  | 4 => .array .int
  | 5 => .int
  | 6 => .array .int
  | 7 => .int
  | 8 => .array .int
  | 9 => .int
  | 10 => .int
  | 11 => .int
  | 12 => .int
  | 13 => .int
  | 14 => .array .long
  | 15 => .array .int
  | 16 => .array .int
  | 17 => .array .int
  | 18 => .int
  | 19 => .int
  | 20 => .array .int
  | _ => .array .boolean
abbrev wsX90 : List Cond := u_ws RX9 TX9 22
theorem nmX9 : ∀ a, a < 22 → ∀ b, b < 22 → a ≠ b → (TX9 a).2.1 ≠ (TX9 b).2.1 := by decide +kernel
theorem tyX9_ok : ∀ k, k < 22 → parseFieldDescriptor (TX9 k).2.2.1 = some (tyX9 k) := by decide +kernel
abbrev cX9_init : ByteArray := prog_11_method_1_code
def yX9_init : MethodName := ⟨RX9, "<init>", "()V"⟩
abbrev cX9_in : ByteArray := prog_11_method_2_code
def yX9_in : MethodName := ⟨RX9, "in", "(III)Z"⟩
abbrev cX9_has : ByteArray := prog_11_method_3_code
def yX9_has : MethodName := ⟨RX9, "has", "(II)Z"⟩
abbrev cX9_bits : ByteArray := prog_11_method_4_code
def yX9_bits : MethodName := ⟨RX9, "bits", "(I)I"⟩
abbrev cX9_isThere : ByteArray := prog_11_method_5_code
def yX9_isThere : MethodName := ⟨RX9, "isThere", "(I)Z"⟩
abbrev cX9_person : ByteArray := prog_11_method_6_code
def yX9_person : MethodName := ⟨RX9, "person", "(III)I"⟩
abbrev cX9_die : ByteArray := prog_11_method_7_code
def yX9_die : MethodName := ⟨RX9, "die", "(I)I"⟩
abbrev cX9_weight : ByteArray := prog_11_method_8_code
def yX9_weight : MethodName := ⟨RX9, "weight", "(II)I"⟩
abbrev cX9_say : ByteArray := prog_11_method_9_code
def yX9_say : MethodName := ⟨RX9, "say", "(I)I"⟩
abbrev cX9_wipe : ByteArray := prog_11_method_10_code
def yX9_wipe : MethodName := ⟨RX9, "wipe", "()I"⟩
abbrev cX9_isLetter : ByteArray := prog_11_method_11_code
def yX9_isLetter : MethodName := ⟨RX9, "isLetter", "(I)Z"⟩
abbrev cX9_isDigit : ByteArray := prog_11_method_12_code
def yX9_isDigit : MethodName := ⟨RX9, "isDigit", "(I)Z"⟩
abbrev cX9_passes : ByteArray := prog_11_method_13_code
def yX9_passes : MethodName := ⟨RX9, "passes", "(I)Z"⟩
abbrev cX9_faultOf : ByteArray := prog_11_method_14_code
def yX9_faultOf : MethodName := ⟨RX9, "faultOf", "()I"⟩
abbrev cX9_fault : ByteArray := prog_11_method_15_code
def yX9_fault : MethodName := ⟨RX9, "fault", "()I"⟩
abbrev cX9_asNow : ByteArray := prog_11_method_16_code
def yX9_asNow : MethodName := ⟨RX9, "asNow", "()V"⟩
abbrev cX9_gains : ByteArray := prog_11_method_17_code
def yX9_gains : MethodName := ⟨RX9, "gains", "(II)V"⟩
abbrev cX9_gets : ByteArray := prog_11_method_18_code
def yX9_gets : MethodName := ⟨RX9, "gets", "(II)V"⟩
abbrev cX9_signAct : ByteArray := prog_11_method_19_code
def yX9_signAct : MethodName := ⟨RX9, "signAct", "(II)I"⟩
abbrev cX9_forge : ByteArray := prog_11_method_20_code
def yX9_forge : MethodName := ⟨RX9, "forge", "(II)I"⟩
abbrev cX9_blot : ByteArray := prog_11_method_21_code
def yX9_blot : MethodName := ⟨RX9, "blot", "(I)I"⟩
abbrev cX9_hand : ByteArray := prog_11_method_22_code
def yX9_hand : MethodName := ⟨RX9, "hand", "(IIII)I"⟩
abbrev cX9_endYear : ByteArray := prog_11_method_23_code
def yX9_endYear : MethodName := ⟨RX9, "endYear", "()I"⟩
abbrev cX9_some : ByteArray := prog_11_method_24_code
def yX9_some : MethodName := ⟨RX9, "some", "()I"⟩
abbrev cX9_goLives : ByteArray := prog_11_method_25_code
def yX9_goLives : MethodName := ⟨RX9, "goLives", "()I"⟩
abbrev cX9_judge : ByteArray := prog_11_method_26_code
def yX9_judge : MethodName := ⟨RX9, "judge", "(I)I"⟩
abbrev cX9_barOfLives : ByteArray := prog_11_method_27_code
def yX9_barOfLives : MethodName := ⟨RX9, "barOfLives", "()I"⟩
abbrev cX9_done : ByteArray := prog_11_method_28_code
def yX9_done : MethodName := ⟨RX9, "done", "()I"⟩
abbrev cX9_state : ByteArray := prog_11_method_29_code
def yX9_state : MethodName := ⟨RX9, "state", "(II)I"⟩
abbrev cX9_behind : ByteArray := prog_11_method_30_code
def yX9_behind : MethodName := ⟨RX9, "behind", "(II)I"⟩
abbrev cX9_acts : ByteArray := prog_11_method_31_code
def yX9_acts : MethodName := ⟨RX9, "acts", "(I)I"⟩
abbrev cX9_owes : ByteArray := prog_11_method_32_code
def yX9_owes : MethodName := ⟨RX9, "owes", "(II)I"⟩
abbrev cX9_who : ByteArray := prog_11_method_33_code
def yX9_who : MethodName := ⟨RX9, "who", "(I)I"⟩
abbrev cX9_weights : ByteArray := prog_11_method_34_code
def yX9_weights : MethodName := ⟨RX9, "weights", "()I"⟩
abbrev cX9_power : ByteArray := prog_11_method_35_code
def yX9_power : MethodName := ⟨RX9, "power", "(JI)J"⟩
abbrev cX9_layBest : ByteArray := prog_11_method_36_code
def yX9_layBest : MethodName := ⟨RX9, "layBest", "()V"⟩
abbrev cX9_part : ByteArray := prog_11_method_37_code
def yX9_part : MethodName := ⟨RX9, "part", "(JJI)J"⟩
abbrev cX9_best : ByteArray := prog_11_method_38_code
def yX9_best : MethodName := ⟨RX9, "best", "(III)J"⟩
abbrev cX9_leastOf : ByteArray := prog_11_method_39_code
def yX9_leastOf : MethodName := ⟨RX9, "leastOf", "(II)I"⟩
abbrev cX9_least : ByteArray := prog_11_method_40_code
def yX9_least : MethodName := ⟨RX9, "least", "(II)I"⟩
abbrev cX9_price : ByteArray := prog_11_method_41_code
def yX9_price : MethodName := ⟨RX9, "price", "(III)J"⟩
abbrev cX9_choices : ByteArray := prog_11_method_42_code
def yX9_choices : MethodName := ⟨RX9, "choices", "(II)J"⟩
abbrev cX9_atMost : ByteArray := prog_11_method_43_code
def yX9_atMost : MethodName := ⟨RX9, "atMost", "(III)J"⟩
abbrev cX9_last : ByteArray := prog_11_method_44_code
def yX9_last : MethodName := ⟨RX9, "last", "(IIII)J"⟩
abbrev cX9_netOf : ByteArray := prog_11_method_45_code
def yX9_netOf : MethodName := ⟨RX9, "netOf", "(I)I"⟩
abbrev cX9_netted : ByteArray := prog_11_method_46_code
def yX9_netted : MethodName := ⟨RX9, "netted", "(I)I"⟩
abbrev cX9_hands : ByteArray := prog_11_method_47_code
def yX9_hands : MethodName := ⟨RX9, "hands", "()I"⟩
abbrev cX9_layActs : ByteArray := prog_11_method_48_code
def yX9_layActs : MethodName := ⟨RX9, "layActs", "(I)Z"⟩
abbrev cX9_layMatch : ByteArray := prog_11_method_49_code
def yX9_layMatch : MethodName := ⟨RX9, "layMatch", "()V"⟩
abbrev cX9_match : ByteArray := prog_11_method_50_code
def yX9_match : MethodName := ⟨RX9, "match", "(II)I"⟩
abbrev cX9_wrote : ByteArray := prog_11_method_51_code
def yX9_wrote : MethodName := ⟨RX9, "wrote", "(II)I"⟩
abbrev cX9_compare : ByteArray := prog_11_method_52_code
def yX9_compare : MethodName := ⟨RX9, "compare", "(I)I"⟩
abbrev cX9_blots : ByteArray := prog_11_method_53_code
def yX9_blots : MethodName := ⟨RX9, "blots", "(IIII)J"⟩
abbrev cX9_seen : ByteArray := prog_11_method_54_code
def yX9_seen : MethodName := ⟨RX9, "seen", "(IIIZ)I"⟩
abbrev cX9_forget : ByteArray := prog_11_method_55_code
def yX9_forget : MethodName := ⟨RX9, "forget", "()I"⟩
abbrev cX9_doesSign : ByteArray := prog_11_method_56_code
def yX9_doesSign : MethodName := ⟨RX9, "doesSign", "(IIII)Z"⟩
abbrev cX9_habits : ByteArray := prog_11_method_57_code
def yX9_habits : MethodName := ⟨RX9, "habits", "()I"⟩
abbrev cX9_signs : ByteArray := prog_11_method_58_code
def yX9_signs : MethodName := ⟨RX9, "signs", "()I"⟩
abbrev cX9_watch : ByteArray := prog_11_method_59_code
def yX9_watch : MethodName := ⟨RX9, "watch", "(I)I"⟩
abbrev cX9_book : ByteArray := prog_11_method_60_code
def yX9_book : MethodName := ⟨RX9, "book", "(III)I"⟩
abbrev cX9_image : ByteArray := prog_11_method_61_code
def yX9_image : MethodName := ⟨RX9, "image", "(I)I"⟩
abbrev cX9_restore : ByteArray := prog_11_method_62_code
def yX9_restore : MethodName := ⟨RX9, "restore", "(I)I"⟩
abbrev cX9_told : ByteArray := prog_11_method_63_code
def yX9_told : MethodName := ⟨RX9, "told", "(I)I"⟩
def RJ6 : String := "java/lang/Integer"
abbrev cJ6_numberOfTrailingZeros_0f7a4 : ByteArray := prog_12_method_48_code
def yJ6_numberOfTrailingZeros_0f7a4 : MethodName := ⟨RJ6, "numberOfTrailingZeros", "(I)I"⟩
abbrev cJ6_bitCount_0f7a4 : ByteArray := prog_12_method_49_code
def yJ6_bitCount_0f7a4 : MethodName := ⟨RJ6, "bitCount", "(I)I"⟩
def RJ9 : String := "java/lang/Math"
abbrev cJ9_abs_0f7a4 : ByteArray := prog_13_method_59_code
def yJ9_abs_0f7a4 : MethodName := ⟨RJ9, "abs", "(I)I"⟩
abbrev cJ9_max_7cf53 : ByteArray := prog_13_method_65_code
def yJ9_max_7cf53 : MethodName := ⟨RJ9, "max", "(II)I"⟩
abbrev cJ9_max_f86c9 : ByteArray := prog_13_method_66_code
def yJ9_max_f86c9 : MethodName := ⟨RJ9, "max", "(JJ)J"⟩
abbrev cJ9_min_7cf53 : ByteArray := prog_13_method_69_code
def yJ9_min_7cf53 : MethodName := ⟨RJ9, "min", "(II)I"⟩
def RJ10 : String := "java/lang/System"
def RL : String := "SignedSheetsLaw"
abbrev cL_law : ByteArray := code
def yL_law : MethodName := ⟨RL, "law", "([I)Z"⟩
abbrev vwCl : List vw_C := [(RX0, TX0, 5), (RX1, TX1, 7), (RX2, TX2, 7), (RX3, TX3, 3), (RX4, TX4, 2), (RX5, TX5, 2), (RX6, TX6, 3), (RX7, TX7, 6), (RX8, TX8, 7), (RX9, TX9, 22)]
end
section
theorem dX0_init_0 : decode cX0_init 0 = .ok (.aload_n 0, 1) := by decide +kernel
theorem dX0_init_1 : decode cX0_init 1 = .ok (.invokespecial 3, 3) := by decide +kernel
theorem dX0_init_4 : decode cX0_init 4 = .ok (.return_, 1) := by decide +kernel
theorem dX0_read_0 : decode cX0_read 0 = .ok (.aload_n 0, 1) := by decide +kernel
theorem dX0_read_1 : decode cX0_read 1 = .ok (.aload_n 1, 1) := by decide +kernel
theorem dX0_read_2 : decode cX0_read 2 = .ok (.iload_n 2, 1) := by decide +kernel
theorem dX0_read_3 : decode cX0_read 3 = .ok (.invokevirtual 9, 3) := by decide +kernel
theorem dX0_read_6 : decode cX0_read 6 = .ok (.bipush 65, 2) := by decide +kernel
theorem dX0_read_8 : decode cX0_read 8 = .ok (.isub, 1) := by decide +kernel
theorem dX0_read_9 : decode cX0_read 9 = .ok (.putfield 15, 3) := by decide +kernel
theorem dX0_read_12 : decode cX0_read 12 = .ok (.aload_n 0, 1) := by decide +kernel
theorem dX0_read_13 : decode cX0_read 13 = .ok (.aload_n 0, 1) := by decide +kernel
theorem dX0_read_14 : decode cX0_read 14 = .ok (.getfield 15, 3) := by decide +kernel
theorem dX0_read_17 : decode cX0_read 17 = .ok (.putfield 21, 3) := by decide +kernel
theorem dX0_read_20 : decode cX0_read 20 = .ok (.aload_n 0, 1) := by decide +kernel
theorem dX0_read_21 : decode cX0_read 21 = .ok (.iconst 1, 1) := by decide +kernel
theorem dX0_read_22 : decode cX0_read 22 = .ok (.putfield 24, 3) := by decide +kernel
theorem dX0_read_25 : decode cX0_read 25 = .ok (.aload_n 0, 1) := by decide +kernel
theorem dX0_read_26 : decode cX0_read 26 = .ok (.aload_n 1, 1) := by decide +kernel
theorem dX0_read_27 : decode cX0_read 27 = .ok (.iload_n 2, 1) := by decide +kernel
theorem dX0_read_28 : decode cX0_read 28 = .ok (.iconst 1, 1) := by decide +kernel
theorem dX0_read_29 : decode cX0_read 29 = .ok (.iadd, 1) := by decide +kernel
theorem dX0_read_30 : decode cX0_read 30 = .ok (.invokevirtual 9, 3) := by decide +kernel
theorem dX0_read_33 : decode cX0_read 33 = .ok (.putfield 27, 3) := by decide +kernel
theorem dX0_read_36 : decode cX0_read 36 = .ok (.aload_n 0, 1) := by decide +kernel
theorem dX0_read_37 : decode cX0_read 37 = .ok (.iconst 2, 1) := by decide +kernel
theorem dX0_read_38 : decode cX0_read 38 = .ok (.putfield 30, 3) := by decide +kernel
theorem dX0_read_41 : decode cX0_read 41 = .ok (.aload_n 1, 1) := by decide +kernel
theorem dX0_read_42 : decode cX0_read 42 = .ok (.iload_n 2, 1) := by decide +kernel
theorem dX0_read_43 : decode cX0_read 43 = .ok (.invokevirtual 9, 3) := by decide +kernel
theorem dX0_read_46 : decode cX0_read 46 = .ok (.bipush 46, 2) := by decide +kernel
theorem dX0_read_48 : decode cX0_read 48 = .ok (.if_icmp .ne 17, 3) := by decide +kernel
theorem dX0_read_51 : decode cX0_read 51 = .ok (.aload_n 0, 1) := by decide +kernel
theorem dX0_read_52 : decode cX0_read 52 = .ok (.bipush 46, 2) := by decide +kernel
theorem dX0_read_54 : decode cX0_read 54 = .ok (.putfield 27, 3) := by decide +kernel
theorem dX0_read_57 : decode cX0_read 57 = .ok (.aload_n 0, 1) := by decide +kernel
theorem dX0_read_58 : decode cX0_read 58 = .ok (.iconst 1, 1) := by decide +kernel
theorem dX0_read_59 : decode cX0_read 59 = .ok (.putfield 30, 3) := by decide +kernel
theorem dX0_read_62 : decode cX0_read 62 = .ok (.goto 106, 3) := by decide +kernel
theorem dX0_read_65 : decode cX0_read 65 = .ok (.aload_n 0, 1) := by decide +kernel
theorem dX0_read_66 : decode cX0_read 66 = .ok (.getfield 27, 3) := by decide +kernel
theorem dX0_read_69 : decode cX0_read 69 = .ok (.invokestatic 33, 3) := by decide +kernel
theorem dX0_read_72 : decode cX0_read 72 = .ok (.ifCond .eq 23, 3) := by decide +kernel
theorem dX0_read_75 : decode cX0_read 75 = .ok (.aload_n 0, 1) := by decide +kernel
theorem dX0_read_76 : decode cX0_read 76 = .ok (.aload_n 0, 1) := by decide +kernel
theorem dX0_read_77 : decode cX0_read 77 = .ok (.getfield 27, 3) := by decide +kernel
theorem dX0_read_80 : decode cX0_read 80 = .ok (.bipush 48, 2) := by decide +kernel
theorem dX0_read_82 : decode cX0_read 82 = .ok (.isub, 1) := by decide +kernel
theorem dX0_read_83 : decode cX0_read 83 = .ok (.putfield 24, 3) := by decide +kernel
theorem dX0_read_86 : decode cX0_read 86 = .ok (.aload_n 0, 1) := by decide +kernel
theorem dX0_read_87 : decode cX0_read 87 = .ok (.bipush 49, 2) := by decide +kernel
theorem dX0_read_89 : decode cX0_read 89 = .ok (.putfield 27, 3) := by decide +kernel
theorem dX0_read_92 : decode cX0_read 92 = .ok (.goto 76, 3) := by decide +kernel
theorem dX0_read_95 : decode cX0_read 95 = .ok (.aload_n 0, 1) := by decide +kernel
theorem dX0_read_96 : decode cX0_read 96 = .ok (.getfield 27, 3) := by decide +kernel
theorem dX0_read_99 : decode cX0_read 99 = .ok (.bipush 33, 2) := by decide +kernel
theorem dX0_read_101 : decode cX0_read 101 = .ok (.if_icmp .ne 25, 3) := by decide +kernel
theorem dX0_read_104 : decode cX0_read 104 = .ok (.aload_n 0, 1) := by decide +kernel
theorem dX0_read_105 : decode cX0_read 105 = .ok (.aload_n 1, 1) := by decide +kernel
theorem dX0_read_106 : decode cX0_read 106 = .ok (.iload_n 2, 1) := by decide +kernel
theorem dX0_read_107 : decode cX0_read 107 = .ok (.iconst 2, 1) := by decide +kernel
theorem dX0_read_108 : decode cX0_read 108 = .ok (.iadd, 1) := by decide +kernel
theorem dX0_read_109 : decode cX0_read 109 = .ok (.invokevirtual 9, 3) := by decide +kernel
theorem dX0_read_112 : decode cX0_read 112 = .ok (.bipush 48, 2) := by decide +kernel
theorem dX0_read_114 : decode cX0_read 114 = .ok (.isub, 1) := by decide +kernel
theorem dX0_read_115 : decode cX0_read 115 = .ok (.putfield 24, 3) := by decide +kernel
theorem dX0_read_118 : decode cX0_read 118 = .ok (.aload_n 0, 1) := by decide +kernel
theorem dX0_read_119 : decode cX0_read 119 = .ok (.iconst 3, 1) := by decide +kernel
theorem dX0_read_120 : decode cX0_read 120 = .ok (.putfield 30, 3) := by decide +kernel
theorem dX0_read_123 : decode cX0_read 123 = .ok (.goto 45, 3) := by decide +kernel
theorem dX0_read_126 : decode cX0_read 126 = .ok (.aload_n 0, 1) := by decide +kernel
theorem dX0_read_127 : decode cX0_read 127 = .ok (.getfield 27, 3) := by decide +kernel
theorem dX0_read_130 : decode cX0_read 130 = .ok (.bipush 42, 2) := by decide +kernel
theorem dX0_read_132 : decode cX0_read 132 = .ok (.if_icmp .eq 36, 3) := by decide +kernel
theorem dX0_read_135 : decode cX0_read 135 = .ok (.aload_n 0, 1) := by decide +kernel
theorem dX0_read_136 : decode cX0_read 136 = .ok (.aload_n 1, 1) := by decide +kernel
theorem dX0_read_137 : decode cX0_read 137 = .ok (.iload_n 2, 1) := by decide +kernel
theorem dX0_read_138 : decode cX0_read 138 = .ok (.iconst 2, 1) := by decide +kernel
theorem dX0_read_139 : decode cX0_read 139 = .ok (.iadd, 1) := by decide +kernel
theorem dX0_read_140 : decode cX0_read 140 = .ok (.invokevirtual 9, 3) := by decide +kernel
theorem dX0_read_143 : decode cX0_read 143 = .ok (.bipush 48, 2) := by decide +kernel
theorem dX0_read_145 : decode cX0_read 145 = .ok (.isub, 1) := by decide +kernel
theorem dX0_read_146 : decode cX0_read 146 = .ok (.putfield 24, 3) := by decide +kernel
theorem dX0_read_149 : decode cX0_read 149 = .ok (.aload_n 0, 1) := by decide +kernel
theorem dX0_read_150 : decode cX0_read 150 = .ok (.aload_n 1, 1) := by decide +kernel
theorem dX0_read_151 : decode cX0_read 151 = .ok (.iload_n 2, 1) := by decide +kernel
theorem dX0_read_152 : decode cX0_read 152 = .ok (.iconst 3, 1) := by decide +kernel
theorem dX0_read_153 : decode cX0_read 153 = .ok (.iadd, 1) := by decide +kernel
theorem dX0_read_154 : decode cX0_read 154 = .ok (.invokevirtual 9, 3) := by decide +kernel
theorem dX0_read_157 : decode cX0_read 157 = .ok (.bipush 65, 2) := by decide +kernel
theorem dX0_read_159 : decode cX0_read 159 = .ok (.isub, 1) := by decide +kernel
theorem dX0_read_160 : decode cX0_read 160 = .ok (.putfield 21, 3) := by decide +kernel
theorem dX0_read_163 : decode cX0_read 163 = .ok (.aload_n 0, 1) := by decide +kernel
theorem dX0_read_164 : decode cX0_read 164 = .ok (.iconst 4, 1) := by decide +kernel
theorem dX0_read_165 : decode cX0_read 165 = .ok (.putfield 30, 3) := by decide +kernel
theorem dX0_read_168 : decode cX0_read 168 = .ok (.return_, 1) := by decide +kernel
theorem dX0_isOfTwo_0 : decode cX0_isOfTwo 0 = .ok (.aload_n 0, 1) := by decide +kernel
theorem dX0_isOfTwo_1 : decode cX0_isOfTwo 1 = .ok (.getfield 27, 3) := by decide +kernel
theorem dX0_isOfTwo_4 : decode cX0_isOfTwo 4 = .ok (.bipush 62, 2) := by decide +kernel
theorem dX0_isOfTwo_6 : decode cX0_isOfTwo 6 = .ok (.if_icmp .eq 21, 3) := by decide +kernel
theorem dX0_isOfTwo_9 : decode cX0_isOfTwo 9 = .ok (.aload_n 0, 1) := by decide +kernel
theorem dX0_isOfTwo_10 : decode cX0_isOfTwo 10 = .ok (.getfield 27, 3) := by decide +kernel
theorem dX0_isOfTwo_13 : decode cX0_isOfTwo 13 = .ok (.bipush 61, 2) := by decide +kernel
theorem dX0_isOfTwo_15 : decode cX0_isOfTwo 15 = .ok (.if_icmp .eq 12, 3) := by decide +kernel
theorem dX0_isOfTwo_18 : decode cX0_isOfTwo 18 = .ok (.aload_n 0, 1) := by decide +kernel
theorem dX0_isOfTwo_19 : decode cX0_isOfTwo 19 = .ok (.getfield 27, 3) := by decide +kernel
theorem dX0_isOfTwo_22 : decode cX0_isOfTwo 22 = .ok (.bipush 60, 2) := by decide +kernel
theorem dX0_isOfTwo_24 : decode cX0_isOfTwo 24 = .ok (.if_icmp .ne 7, 3) := by decide +kernel
theorem dX0_isOfTwo_27 : decode cX0_isOfTwo 27 = .ok (.iconst 1, 1) := by decide +kernel
theorem dX0_isOfTwo_28 : decode cX0_isOfTwo 28 = .ok (.goto 4, 3) := by decide +kernel
theorem dX0_isOfTwo_31 : decode cX0_isOfTwo 31 = .ok (.iconst 0, 1) := by decide +kernel
theorem dX0_isOfTwo_32 : decode cX0_isOfTwo 32 = .ok (.ireturn, 1) := by decide +kernel
theorem dX0_obstacle_0 : decode cX0_obstacle 0 = .ok (.aload_n 0, 1) := by decide +kernel
theorem dX0_obstacle_1 : decode cX0_obstacle 1 = .ok (.getfield 27, 3) := by decide +kernel
theorem dX0_obstacle_4 : decode cX0_obstacle 4 = .ok (.bipush 46, 2) := by decide +kernel
theorem dX0_obstacle_6 : decode cX0_obstacle 6 = .ok (.if_icmp .ne 18, 3) := by decide +kernel
theorem dX0_obstacle_9 : decode cX0_obstacle 9 = .ok (.aload_n 1, 1) := by decide +kernel
theorem dX0_obstacle_10 : decode cX0_obstacle 10 = .ok (.getfield 37, 3) := by decide +kernel
theorem dX0_obstacle_13 : decode cX0_obstacle 13 = .ok (.bipush 99, 2) := by decide +kernel
theorem dX0_obstacle_15 : decode cX0_obstacle 15 = .ok (.if_icmp .lt 7, 3) := by decide +kernel
theorem dX0_obstacle_18 : decode cX0_obstacle 18 = .ok (.iconst 4, 1) := by decide +kernel
theorem dX0_obstacle_19 : decode cX0_obstacle 19 = .ok (.goto 4, 3) := by decide +kernel
theorem dX0_obstacle_22 : decode cX0_obstacle 22 = .ok (.iconst 0, 1) := by decide +kernel
theorem dX0_obstacle_23 : decode cX0_obstacle 23 = .ok (.ireturn, 1) := by decide +kernel
theorem dX0_obstacle_24 : decode cX0_obstacle 24 = .ok (.aload_n 1, 1) := by decide +kernel
theorem dX0_obstacle_25 : decode cX0_obstacle 25 = .ok (.aload_n 0, 1) := by decide +kernel
theorem dX0_obstacle_26 : decode cX0_obstacle 26 = .ok (.getfield 15, 3) := by decide +kernel
theorem dX0_obstacle_29 : decode cX0_obstacle 29 = .ok (.invokevirtual 42, 3) := by decide +kernel
theorem dX0_obstacle_32 : decode cX0_obstacle 32 = .ok (.ifCond .eq 14, 3) := by decide +kernel
theorem dX0_obstacle_35 : decode cX0_obstacle 35 = .ok (.aload_n 1, 1) := by decide +kernel
theorem dX0_obstacle_36 : decode cX0_obstacle 36 = .ok (.aload_n 0, 1) := by decide +kernel
theorem dX0_obstacle_37 : decode cX0_obstacle 37 = .ok (.getfield 21, 3) := by decide +kernel
theorem dX0_obstacle_40 : decode cX0_obstacle 40 = .ok (.invokevirtual 42, 3) := by decide +kernel
theorem dX0_obstacle_43 : decode cX0_obstacle 43 = .ok (.ifCond .ne 5, 3) := by decide +kernel
theorem dX0_obstacle_46 : decode cX0_obstacle 46 = .ok (.iconst 1, 1) := by decide +kernel
theorem dX0_obstacle_47 : decode cX0_obstacle 47 = .ok (.ireturn, 1) := by decide +kernel
theorem dX0_obstacle_48 : decode cX0_obstacle 48 = .ok (.aload_n 0, 1) := by decide +kernel
theorem dX0_obstacle_49 : decode cX0_obstacle 49 = .ok (.invokevirtual 45, 3) := by decide +kernel
theorem dX0_obstacle_52 : decode cX0_obstacle 52 = .ok (.ifCond .eq 16, 3) := by decide +kernel
theorem dX0_obstacle_55 : decode cX0_obstacle 55 = .ok (.aload_n 0, 1) := by decide +kernel
theorem dX0_obstacle_56 : decode cX0_obstacle 56 = .ok (.getfield 15, 3) := by decide +kernel
theorem dX0_obstacle_59 : decode cX0_obstacle 59 = .ok (.aload_n 0, 1) := by decide +kernel
theorem dX0_obstacle_60 : decode cX0_obstacle 60 = .ok (.getfield 21, 3) := by decide +kernel
theorem dX0_obstacle_63 : decode cX0_obstacle 63 = .ok (.if_icmp .ne 5, 3) := by decide +kernel
theorem dX0_obstacle_66 : decode cX0_obstacle 66 = .ok (.iconst 2, 1) := by decide +kernel
theorem dX0_obstacle_67 : decode cX0_obstacle 67 = .ok (.ireturn, 1) := by decide +kernel
theorem dX0_obstacle_68 : decode cX0_obstacle 68 = .ok (.aload_n 1, 1) := by decide +kernel
theorem dX0_obstacle_69 : decode cX0_obstacle 69 = .ok (.getfield 49, 3) := by decide +kernel
theorem dX0_obstacle_72 : decode cX0_obstacle 72 = .ok (.aload_n 0, 1) := by decide +kernel
theorem dX0_obstacle_73 : decode cX0_obstacle 73 = .ok (.getfield 27, 3) := by decide +kernel
theorem dX0_obstacle_76 : decode cX0_obstacle 76 = .ok (.bipush 60, 2) := by decide +kernel
theorem dX0_obstacle_78 : decode cX0_obstacle 78 = .ok (.if_icmp .ne 10, 3) := by decide +kernel
theorem dX0_obstacle_81 : decode cX0_obstacle 81 = .ok (.aload_n 0, 1) := by decide +kernel
theorem dX0_obstacle_82 : decode cX0_obstacle 82 = .ok (.getfield 21, 3) := by decide +kernel
theorem dX0_obstacle_85 : decode cX0_obstacle 85 = .ok (.goto 7, 3) := by decide +kernel
theorem dX0_obstacle_88 : decode cX0_obstacle 88 = .ok (.aload_n 0, 1) := by decide +kernel
theorem dX0_obstacle_89 : decode cX0_obstacle 89 = .ok (.getfield 15, 3) := by decide +kernel
theorem dX0_obstacle_92 : decode cX0_obstacle 92 = .ok (.iaload, 1) := by decide +kernel
theorem dX0_obstacle_93 : decode cX0_obstacle 93 = .ok (.aload_n 0, 1) := by decide +kernel
theorem dX0_obstacle_94 : decode cX0_obstacle 94 = .ok (.invokevirtual 53, 3) := by decide +kernel
theorem dX0_obstacle_97 : decode cX0_obstacle 97 = .ok (.if_icmp .ge 5, 3) := by decide +kernel
theorem dX0_obstacle_100 : decode cX0_obstacle 100 = .ok (.iconst 3, 1) := by decide +kernel
theorem dX0_obstacle_101 : decode cX0_obstacle 101 = .ok (.ireturn, 1) := by decide +kernel
theorem dX0_obstacle_102 : decode cX0_obstacle 102 = .ok (.aload_n 0, 1) := by decide +kernel
theorem dX0_obstacle_103 : decode cX0_obstacle 103 = .ok (.getfield 27, 3) := by decide +kernel
theorem dX0_obstacle_106 : decode cX0_obstacle 106 = .ok (.bipush 61, 2) := by decide +kernel
theorem dX0_obstacle_108 : decode cX0_obstacle 108 = .ok (.if_icmp .ne 29, 3) := by decide +kernel
theorem dX0_obstacle_111 : decode cX0_obstacle 111 = .ok (.aload_n 1, 1) := by decide +kernel
theorem dX0_obstacle_112 : decode cX0_obstacle 112 = .ok (.aload_n 0, 1) := by decide +kernel
theorem dX0_obstacle_113 : decode cX0_obstacle 113 = .ok (.getfield 21, 3) := by decide +kernel
theorem dX0_obstacle_116 : decode cX0_obstacle 116 = .ok (.aload_n 0, 1) := by decide +kernel
theorem dX0_obstacle_117 : decode cX0_obstacle 117 = .ok (.getfield 15, 3) := by decide +kernel
theorem dX0_obstacle_120 : decode cX0_obstacle 120 = .ok (.invokevirtual 57, 3) := by decide +kernel
theorem dX0_obstacle_123 : decode cX0_obstacle 123 = .ok (.aload_n 0, 1) := by decide +kernel
theorem dX0_obstacle_124 : decode cX0_obstacle 124 = .ok (.getfield 24, 3) := by decide +kernel
theorem dX0_obstacle_127 : decode cX0_obstacle 127 = .ok (.iadd, 1) := by decide +kernel
theorem dX0_obstacle_128 : decode cX0_obstacle 128 = .ok (.bipush 99, 2) := by decide +kernel
theorem dX0_obstacle_130 : decode cX0_obstacle 130 = .ok (.if_icmp .le 7, 3) := by decide +kernel
theorem dX0_obstacle_133 : decode cX0_obstacle 133 = .ok (.iconst 5, 1) := by decide +kernel
theorem dX0_obstacle_134 : decode cX0_obstacle 134 = .ok (.goto 4, 3) := by decide +kernel
theorem dX0_obstacle_137 : decode cX0_obstacle 137 = .ok (.iconst 0, 1) := by decide +kernel
theorem dX0_obstacle_138 : decode cX0_obstacle 138 = .ok (.ireturn, 1) := by decide +kernel
theorem dX0_sheetsNeeded_0 : decode cX0_sheetsNeeded 0 = .ok (.aload_n 0, 1) := by decide +kernel
theorem dX0_sheetsNeeded_1 : decode cX0_sheetsNeeded 1 = .ok (.getfield 27, 3) := by decide +kernel
theorem dX0_sheetsNeeded_4 : decode cX0_sheetsNeeded 4 = .ok (.bipush 33, 2) := by decide +kernel
theorem dX0_sheetsNeeded_6 : decode cX0_sheetsNeeded 6 = .ok (.if_icmp .ne 5, 3) := by decide +kernel
theorem dX0_sheetsNeeded_9 : decode cX0_sheetsNeeded 9 = .ok (.iconst 0, 1) := by decide +kernel
theorem dX0_sheetsNeeded_10 : decode cX0_sheetsNeeded 10 = .ok (.ireturn, 1) := by decide +kernel
theorem dX0_sheetsNeeded_11 : decode cX0_sheetsNeeded 11 = .ok (.aload_n 0, 1) := by decide +kernel
theorem dX0_sheetsNeeded_12 : decode cX0_sheetsNeeded 12 = .ok (.invokevirtual 45, 3) := by decide +kernel
theorem dX0_sheetsNeeded_15 : decode cX0_sheetsNeeded 15 = .ok (.ifCond .eq 10, 3) := by decide +kernel
theorem dX0_sheetsNeeded_18 : decode cX0_sheetsNeeded 18 = .ok (.aload_n 0, 1) := by decide +kernel
theorem dX0_sheetsNeeded_19 : decode cX0_sheetsNeeded 19 = .ok (.getfield 24, 3) := by decide +kernel
theorem dX0_sheetsNeeded_22 : decode cX0_sheetsNeeded 22 = .ok (.goto 4, 3) := by decide +kernel
theorem dX0_sheetsNeeded_25 : decode cX0_sheetsNeeded 25 = .ok (.iconst 1, 1) := by decide +kernel
theorem dX0_sheetsNeeded_26 : decode cX0_sheetsNeeded 26 = .ok (.ireturn, 1) := by decide +kernel
theorem dX0_apply_0 : decode cX0_apply 0 = .ok (.aload_n 0, 1) := by decide +kernel
theorem dX0_apply_1 : decode cX0_apply 1 = .ok (.getfield 27, 3) := by decide +kernel
theorem dX0_apply_4 : decode cX0_apply 4 = .ok (.lookupswitch 179 #[(33, 75), (42, 90), (49, 60), (60, 160), (61, 125), (62, 106)], 60) := by decide +kernel
theorem dX0_apply_64 : decode cX0_apply 64 = .ok (.aload_n 1, 1) := by decide +kernel
theorem dX0_apply_65 : decode cX0_apply 65 = .ok (.aload_n 0, 1) := by decide +kernel
theorem dX0_apply_66 : decode cX0_apply 66 = .ok (.getfield 15, 3) := by decide +kernel
theorem dX0_apply_69 : decode cX0_apply 69 = .ok (.aload_n 0, 1) := by decide +kernel
theorem dX0_apply_70 : decode cX0_apply 70 = .ok (.getfield 24, 3) := by decide +kernel
theorem dX0_apply_73 : decode cX0_apply 73 = .ok (.invokevirtual 61, 3) := by decide +kernel
theorem dX0_apply_76 : decode cX0_apply 76 = .ok (.goto 117, 3) := by decide +kernel
theorem dX0_apply_79 : decode cX0_apply 79 = .ok (.aload_n 1, 1) := by decide +kernel
theorem dX0_apply_80 : decode cX0_apply 80 = .ok (.aload_n 0, 1) := by decide +kernel
theorem dX0_apply_81 : decode cX0_apply 81 = .ok (.getfield 15, 3) := by decide +kernel
theorem dX0_apply_84 : decode cX0_apply 84 = .ok (.aload_n 0, 1) := by decide +kernel
theorem dX0_apply_85 : decode cX0_apply 85 = .ok (.getfield 24, 3) := by decide +kernel
theorem dX0_apply_88 : decode cX0_apply 88 = .ok (.invokevirtual 65, 3) := by decide +kernel
theorem dX0_apply_91 : decode cX0_apply 91 = .ok (.goto 102, 3) := by decide +kernel
theorem dX0_apply_94 : decode cX0_apply 94 = .ok (.aload_n 1, 1) := by decide +kernel
theorem dX0_apply_95 : decode cX0_apply 95 = .ok (.getfield 49, 3) := by decide +kernel
theorem dX0_apply_98 : decode cX0_apply 98 = .ok (.aload_n 0, 1) := by decide +kernel
theorem dX0_apply_99 : decode cX0_apply 99 = .ok (.getfield 15, 3) := by decide +kernel
theorem dX0_apply_102 : decode cX0_apply 102 = .ok (.dup2, 1) := by decide +kernel
theorem dX0_apply_103 : decode cX0_apply 103 = .ok (.iaload, 1) := by decide +kernel
theorem dX0_apply_104 : decode cX0_apply 104 = .ok (.iconst 1, 1) := by decide +kernel
theorem dX0_apply_105 : decode cX0_apply 105 = .ok (.isub, 1) := by decide +kernel
theorem dX0_apply_106 : decode cX0_apply 106 = .ok (.iastore, 1) := by decide +kernel
theorem dX0_apply_107 : decode cX0_apply 107 = .ok (.goto 86, 3) := by decide +kernel
theorem dX0_apply_110 : decode cX0_apply 110 = .ok (.aload_n 1, 1) := by decide +kernel
theorem dX0_apply_111 : decode cX0_apply 111 = .ok (.aload_n 0, 1) := by decide +kernel
theorem dX0_apply_112 : decode cX0_apply 112 = .ok (.getfield 15, 3) := by decide +kernel
theorem dX0_apply_115 : decode cX0_apply 115 = .ok (.aload_n 0, 1) := by decide +kernel
theorem dX0_apply_116 : decode cX0_apply 116 = .ok (.getfield 21, 3) := by decide +kernel
theorem dX0_apply_119 : decode cX0_apply 119 = .ok (.aload_n 0, 1) := by decide +kernel
theorem dX0_apply_120 : decode cX0_apply 120 = .ok (.getfield 24, 3) := by decide +kernel
theorem dX0_apply_123 : decode cX0_apply 123 = .ok (.invokevirtual 68, 3) := by decide +kernel
theorem dX0_apply_126 : decode cX0_apply 126 = .ok (.goto 67, 3) := by decide +kernel
theorem dX0_apply_129 : decode cX0_apply 129 = .ok (.aload_n 1, 1) := by decide +kernel
theorem dX0_apply_130 : decode cX0_apply 130 = .ok (.aload_n 0, 1) := by decide +kernel
theorem dX0_apply_131 : decode cX0_apply 131 = .ok (.getfield 15, 3) := by decide +kernel
theorem dX0_apply_134 : decode cX0_apply 134 = .ok (.aload_n 0, 1) := by decide +kernel
theorem dX0_apply_135 : decode cX0_apply 135 = .ok (.getfield 21, 3) := by decide +kernel
theorem dX0_apply_138 : decode cX0_apply 138 = .ok (.aload_n 0, 1) := by decide +kernel
theorem dX0_apply_139 : decode cX0_apply 139 = .ok (.getfield 24, 3) := by decide +kernel
theorem dX0_apply_142 : decode cX0_apply 142 = .ok (.invokevirtual 68, 3) := by decide +kernel
theorem dX0_apply_145 : decode cX0_apply 145 = .ok (.aload_n 1, 1) := by decide +kernel
theorem dX0_apply_146 : decode cX0_apply 146 = .ok (.aload_n 0, 1) := by decide +kernel
theorem dX0_apply_147 : decode cX0_apply 147 = .ok (.getfield 21, 3) := by decide +kernel
theorem dX0_apply_150 : decode cX0_apply 150 = .ok (.aload_n 0, 1) := by decide +kernel
theorem dX0_apply_151 : decode cX0_apply 151 = .ok (.getfield 15, 3) := by decide +kernel
theorem dX0_apply_154 : decode cX0_apply 154 = .ok (.aload_n 0, 1) := by decide +kernel
theorem dX0_apply_155 : decode cX0_apply 155 = .ok (.getfield 24, 3) := by decide +kernel
theorem dX0_apply_158 : decode cX0_apply 158 = .ok (.invokevirtual 72, 3) := by decide +kernel
theorem dX0_apply_161 : decode cX0_apply 161 = .ok (.goto 32, 3) := by decide +kernel
theorem dX0_apply_164 : decode cX0_apply 164 = .ok (.aload_n 1, 1) := by decide +kernel
theorem dX0_apply_165 : decode cX0_apply 165 = .ok (.aload_n 0, 1) := by decide +kernel
theorem dX0_apply_166 : decode cX0_apply 166 = .ok (.getfield 21, 3) := by decide +kernel
theorem dX0_apply_169 : decode cX0_apply 169 = .ok (.aload_n 0, 1) := by decide +kernel
theorem dX0_apply_170 : decode cX0_apply 170 = .ok (.getfield 15, 3) := by decide +kernel
theorem dX0_apply_173 : decode cX0_apply 173 = .ok (.aload_n 0, 1) := by decide +kernel
theorem dX0_apply_174 : decode cX0_apply 174 = .ok (.getfield 24, 3) := by decide +kernel
theorem dX0_apply_177 : decode cX0_apply 177 = .ok (.invokevirtual 68, 3) := by decide +kernel
theorem dX0_apply_180 : decode cX0_apply 180 = .ok (.goto 13, 3) := by decide +kernel
theorem dX0_apply_183 : decode cX0_apply 183 = .ok (.aload_n 1, 1) := by decide +kernel
theorem dX0_apply_184 : decode cX0_apply 184 = .ok (.dup, 1) := by decide +kernel
theorem dX0_apply_185 : decode cX0_apply 185 = .ok (.getfield 37, 3) := by decide +kernel
theorem dX0_apply_188 : decode cX0_apply 188 = .ok (.iconst 1, 1) := by decide +kernel
theorem dX0_apply_189 : decode cX0_apply 189 = .ok (.iadd, 1) := by decide +kernel
theorem dX0_apply_190 : decode cX0_apply 190 = .ok (.putfield 37, 3) := by decide +kernel
theorem dX0_apply_193 : decode cX0_apply 193 = .ok (.return_, 1) := by decide +kernel
theorem dX1_init_0 : decode cX1_init 0 = .ok (.aload_n 0, 1) := by decide +kernel
theorem dX1_init_1 : decode cX1_init 1 = .ok (.invokespecial 3, 3) := by decide +kernel
theorem dX1_init_4 : decode cX1_init 4 = .ok (.aload_n 0, 1) := by decide +kernel
theorem dX1_init_5 : decode cX1_init 5 = .ok (.bipush 6, 2) := by decide +kernel
theorem dX1_init_7 : decode cX1_init 7 = .ok (.newarray .int, 2) := by decide +kernel
theorem dX1_init_9 : decode cX1_init 9 = .ok (.putfield 9, 3) := by decide +kernel
theorem dX1_init_12 : decode cX1_init 12 = .ok (.aload_n 0, 1) := by decide +kernel
theorem dX1_init_13 : decode cX1_init 13 = .ok (.bipush 6, 2) := by decide +kernel
theorem dX1_init_15 : decode cX1_init 15 = .ok (.newarray .int, 2) := by decide +kernel
theorem dX1_init_17 : decode cX1_init 17 = .ok (.putfield 15, 3) := by decide +kernel
theorem dX1_init_20 : decode cX1_init 20 = .ok (.aload_n 0, 1) := by decide +kernel
theorem dX1_init_21 : decode cX1_init 21 = .ok (.bipush 6, 2) := by decide +kernel
theorem dX1_init_23 : decode cX1_init 23 = .ok (.newarray .int, 2) := by decide +kernel
theorem dX1_init_25 : decode cX1_init 25 = .ok (.putfield 18, 3) := by decide +kernel
theorem dX1_init_28 : decode cX1_init 28 = .ok (.aload_n 0, 1) := by decide +kernel
theorem dX1_init_29 : decode cX1_init 29 = .ok (.bipush 6, 2) := by decide +kernel
theorem dX1_init_31 : decode cX1_init 31 = .ok (.newarray .int, 2) := by decide +kernel
theorem dX1_init_33 : decode cX1_init 33 = .ok (.putfield 21, 3) := by decide +kernel
theorem dX1_init_36 : decode cX1_init 36 = .ok (.aload_n 0, 1) := by decide +kernel
theorem dX1_init_37 : decode cX1_init 37 = .ok (.bipush 36, 2) := by decide +kernel
theorem dX1_init_39 : decode cX1_init 39 = .ok (.newarray .int, 2) := by decide +kernel
theorem dX1_init_41 : decode cX1_init 41 = .ok (.putfield 24, 3) := by decide +kernel
theorem dX1_init_44 : decode cX1_init 44 = .ok (.return_, 1) := by decide +kernel
theorem dX1_has_0 : decode cX1_has 0 = .ok (.iload_n 1, 1) := by decide +kernel
theorem dX1_has_1 : decode cX1_has 1 = .ok (.iconst 0, 1) := by decide +kernel
theorem dX1_has_2 : decode cX1_has 2 = .ok (.iconst 5, 1) := by decide +kernel
theorem dX1_has_3 : decode cX1_has 3 = .ok (.invokestatic 27, 3) := by decide +kernel
theorem dX1_has_6 : decode cX1_has 6 = .ok (.ifCond .eq 19, 3) := by decide +kernel
theorem dX1_has_9 : decode cX1_has 9 = .ok (.aload_n 0, 1) := by decide +kernel
theorem dX1_has_10 : decode cX1_has 10 = .ok (.getfield 31, 3) := by decide +kernel
theorem dX1_has_13 : decode cX1_has 13 = .ok (.iload_n 1, 1) := by decide +kernel
theorem dX1_has_14 : decode cX1_has 14 = .ok (.ishr, 1) := by decide +kernel
theorem dX1_has_15 : decode cX1_has 15 = .ok (.iconst 1, 1) := by decide +kernel
theorem dX1_has_16 : decode cX1_has 16 = .ok (.iand, 1) := by decide +kernel
theorem dX1_has_17 : decode cX1_has 17 = .ok (.iconst 1, 1) := by decide +kernel
theorem dX1_has_18 : decode cX1_has 18 = .ok (.if_icmp .ne 7, 3) := by decide +kernel
theorem dX1_has_21 : decode cX1_has 21 = .ok (.iconst 1, 1) := by decide +kernel
theorem dX1_has_22 : decode cX1_has 22 = .ok (.goto 4, 3) := by decide +kernel
theorem dX1_has_25 : decode cX1_has 25 = .ok (.iconst 0, 1) := by decide +kernel
theorem dX1_has_26 : decode cX1_has 26 = .ok (.ireturn, 1) := by decide +kernel
theorem dX1_count_0 : decode cX1_count 0 = .ok (.aload_n 0, 1) := by decide +kernel
theorem dX1_count_1 : decode cX1_count 1 = .ok (.getfield 31, 3) := by decide +kernel
theorem dX1_count_4 : decode cX1_count 4 = .ok (.invokestatic 35, 3) := by decide +kernel
theorem dX1_count_7 : decode cX1_count 7 = .ok (.ireturn, 1) := by decide +kernel
theorem dX1_enter_0 : decode cX1_enter 0 = .ok (.aload_n 0, 1) := by decide +kernel
theorem dX1_enter_1 : decode cX1_enter 1 = .ok (.dup, 1) := by decide +kernel
theorem dX1_enter_2 : decode cX1_enter 2 = .ok (.getfield 31, 3) := by decide +kernel
theorem dX1_enter_5 : decode cX1_enter 5 = .ok (.iconst 1, 1) := by decide +kernel
theorem dX1_enter_6 : decode cX1_enter 6 = .ok (.iload_n 1, 1) := by decide +kernel
theorem dX1_enter_7 : decode cX1_enter 7 = .ok (.ishl, 1) := by decide +kernel
theorem dX1_enter_8 : decode cX1_enter 8 = .ok (.ior, 1) := by decide +kernel
theorem dX1_enter_9 : decode cX1_enter 9 = .ok (.putfield 31, 3) := by decide +kernel
theorem dX1_enter_12 : decode cX1_enter 12 = .ok (.aload_n 0, 1) := by decide +kernel
theorem dX1_enter_13 : decode cX1_enter 13 = .ok (.getfield 9, 3) := by decide +kernel
theorem dX1_enter_16 : decode cX1_enter 16 = .ok (.iload_n 1, 1) := by decide +kernel
theorem dX1_enter_17 : decode cX1_enter 17 = .ok (.iload_n 2, 1) := by decide +kernel
theorem dX1_enter_18 : decode cX1_enter 18 = .ok (.iastore, 1) := by decide +kernel
theorem dX1_enter_19 : decode cX1_enter 19 = .ok (.aload_n 0, 1) := by decide +kernel
theorem dX1_enter_20 : decode cX1_enter 20 = .ok (.getfield 15, 3) := by decide +kernel
theorem dX1_enter_23 : decode cX1_enter 23 = .ok (.iload_n 1, 1) := by decide +kernel
theorem dX1_enter_24 : decode cX1_enter 24 = .ok (.iload_n 3, 1) := by decide +kernel
theorem dX1_enter_25 : decode cX1_enter 25 = .ok (.iastore, 1) := by decide +kernel
theorem dX1_enter_26 : decode cX1_enter 26 = .ok (.return_, 1) := by decide +kernel
theorem dX1_leave_0 : decode cX1_leave 0 = .ok (.aload_n 0, 1) := by decide +kernel
theorem dX1_leave_1 : decode cX1_leave 1 = .ok (.dup, 1) := by decide +kernel
theorem dX1_leave_2 : decode cX1_leave 2 = .ok (.getfield 31, 3) := by decide +kernel
theorem dX1_leave_5 : decode cX1_leave 5 = .ok (.iconst 1, 1) := by decide +kernel
theorem dX1_leave_6 : decode cX1_leave 6 = .ok (.iload_n 1, 1) := by decide +kernel
theorem dX1_leave_7 : decode cX1_leave 7 = .ok (.ishl, 1) := by decide +kernel
theorem dX1_leave_8 : decode cX1_leave 8 = .ok (.iconst (-1), 1) := by decide +kernel
theorem dX1_leave_9 : decode cX1_leave 9 = .ok (.ixor, 1) := by decide +kernel
theorem dX1_leave_10 : decode cX1_leave 10 = .ok (.iand, 1) := by decide +kernel
theorem dX1_leave_11 : decode cX1_leave 11 = .ok (.putfield 31, 3) := by decide +kernel
theorem dX1_leave_14 : decode cX1_leave 14 = .ok (.aload_n 0, 1) := by decide +kernel
theorem dX1_leave_15 : decode cX1_leave 15 = .ok (.getfield 9, 3) := by decide +kernel
theorem dX1_leave_18 : decode cX1_leave 18 = .ok (.iload_n 1, 1) := by decide +kernel
theorem dX1_leave_19 : decode cX1_leave 19 = .ok (.iconst 0, 1) := by decide +kernel
theorem dX1_leave_20 : decode cX1_leave 20 = .ok (.iastore, 1) := by decide +kernel
theorem dX1_leave_21 : decode cX1_leave 21 = .ok (.aload_n 0, 1) := by decide +kernel
theorem dX1_leave_22 : decode cX1_leave 22 = .ok (.getfield 15, 3) := by decide +kernel
theorem dX1_leave_25 : decode cX1_leave 25 = .ok (.iload_n 1, 1) := by decide +kernel
theorem dX1_leave_26 : decode cX1_leave 26 = .ok (.iconst 0, 1) := by decide +kernel
theorem dX1_leave_27 : decode cX1_leave 27 = .ok (.iastore, 1) := by decide +kernel
theorem dX1_leave_28 : decode cX1_leave 28 = .ok (.aload_n 0, 1) := by decide +kernel
theorem dX1_leave_29 : decode cX1_leave 29 = .ok (.getfield 18, 3) := by decide +kernel
theorem dX1_leave_32 : decode cX1_leave 32 = .ok (.iload_n 1, 1) := by decide +kernel
theorem dX1_leave_33 : decode cX1_leave 33 = .ok (.iconst 0, 1) := by decide +kernel
theorem dX1_leave_34 : decode cX1_leave 34 = .ok (.iastore, 1) := by decide +kernel
theorem dX1_leave_35 : decode cX1_leave 35 = .ok (.aload_n 0, 1) := by decide +kernel
theorem dX1_leave_36 : decode cX1_leave 36 = .ok (.getfield 21, 3) := by decide +kernel
theorem dX1_leave_39 : decode cX1_leave 39 = .ok (.iload_n 1, 1) := by decide +kernel
theorem dX1_leave_40 : decode cX1_leave 40 = .ok (.iconst 0, 1) := by decide +kernel
theorem dX1_leave_41 : decode cX1_leave 41 = .ok (.iastore, 1) := by decide +kernel
theorem dX1_leave_42 : decode cX1_leave 42 = .ok (.iconst 0, 1) := by decide +kernel
theorem dX1_leave_43 : decode cX1_leave 43 = .ok (.istore_n 2, 1) := by decide +kernel
theorem dX1_leave_44 : decode cX1_leave 44 = .ok (.iload_n 2, 1) := by decide +kernel
theorem dX1_leave_45 : decode cX1_leave 45 = .ok (.bipush 6, 2) := by decide +kernel
theorem dX1_leave_47 : decode cX1_leave 47 = .ok (.if_icmp .ge 33, 3) := by decide +kernel
theorem dX1_leave_50 : decode cX1_leave 50 = .ok (.aload_n 0, 1) := by decide +kernel
theorem dX1_leave_51 : decode cX1_leave 51 = .ok (.getfield 24, 3) := by decide +kernel
theorem dX1_leave_54 : decode cX1_leave 54 = .ok (.iload_n 1, 1) := by decide +kernel
theorem dX1_leave_55 : decode cX1_leave 55 = .ok (.bipush 6, 2) := by decide +kernel
theorem dX1_leave_57 : decode cX1_leave 57 = .ok (.imul, 1) := by decide +kernel
theorem dX1_leave_58 : decode cX1_leave 58 = .ok (.iload_n 2, 1) := by decide +kernel
theorem dX1_leave_59 : decode cX1_leave 59 = .ok (.iadd, 1) := by decide +kernel
theorem dX1_leave_60 : decode cX1_leave 60 = .ok (.iconst 0, 1) := by decide +kernel
theorem dX1_leave_61 : decode cX1_leave 61 = .ok (.iastore, 1) := by decide +kernel
theorem dX1_leave_62 : decode cX1_leave 62 = .ok (.aload_n 0, 1) := by decide +kernel
theorem dX1_leave_63 : decode cX1_leave 63 = .ok (.getfield 24, 3) := by decide +kernel
theorem dX1_leave_66 : decode cX1_leave 66 = .ok (.iload_n 2, 1) := by decide +kernel
theorem dX1_leave_67 : decode cX1_leave 67 = .ok (.bipush 6, 2) := by decide +kernel
theorem dX1_leave_69 : decode cX1_leave 69 = .ok (.imul, 1) := by decide +kernel
theorem dX1_leave_70 : decode cX1_leave 70 = .ok (.iload_n 1, 1) := by decide +kernel
theorem dX1_leave_71 : decode cX1_leave 71 = .ok (.iadd, 1) := by decide +kernel
theorem dX1_leave_72 : decode cX1_leave 72 = .ok (.iconst 0, 1) := by decide +kernel
theorem dX1_leave_73 : decode cX1_leave 73 = .ok (.iastore, 1) := by decide +kernel
theorem dX1_leave_74 : decode cX1_leave 74 = .ok (.iinc 2 1, 3) := by decide +kernel
theorem dX1_leave_77 : decode cX1_leave 77 = .ok (.goto (-33), 3) := by decide +kernel
theorem dX1_leave_80 : decode cX1_leave 80 = .ok (.return_, 1) := by decide +kernel
theorem dX1_copyFrom_0 : decode cX1_copyFrom 0 = .ok (.aload_n 0, 1) := by decide +kernel
theorem dX1_copyFrom_1 : decode cX1_copyFrom 1 = .ok (.aload_n 1, 1) := by decide +kernel
theorem dX1_copyFrom_2 : decode cX1_copyFrom 2 = .ok (.getfield 31, 3) := by decide +kernel
theorem dX1_copyFrom_5 : decode cX1_copyFrom 5 = .ok (.putfield 31, 3) := by decide +kernel
theorem dX1_copyFrom_8 : decode cX1_copyFrom 8 = .ok (.aload_n 0, 1) := by decide +kernel
theorem dX1_copyFrom_9 : decode cX1_copyFrom 9 = .ok (.aload_n 1, 1) := by decide +kernel
theorem dX1_copyFrom_10 : decode cX1_copyFrom 10 = .ok (.getfield 41, 3) := by decide +kernel
theorem dX1_copyFrom_13 : decode cX1_copyFrom 13 = .ok (.putfield 41, 3) := by decide +kernel
theorem dX1_copyFrom_16 : decode cX1_copyFrom 16 = .ok (.aload_n 1, 1) := by decide +kernel
theorem dX1_copyFrom_17 : decode cX1_copyFrom 17 = .ok (.getfield 9, 3) := by decide +kernel
theorem dX1_copyFrom_20 : decode cX1_copyFrom 20 = .ok (.iconst 0, 1) := by decide +kernel
theorem dX1_copyFrom_21 : decode cX1_copyFrom 21 = .ok (.aload_n 0, 1) := by decide +kernel
theorem dX1_copyFrom_22 : decode cX1_copyFrom 22 = .ok (.getfield 9, 3) := by decide +kernel
theorem dX1_copyFrom_25 : decode cX1_copyFrom 25 = .ok (.iconst 0, 1) := by decide +kernel
theorem dX1_copyFrom_26 : decode cX1_copyFrom 26 = .ok (.bipush 6, 2) := by decide +kernel
theorem dX1_copyFrom_28 : decode cX1_copyFrom 28 = .ok (.invokestatic 44, 3) := by decide +kernel
theorem dX1_copyFrom_31 : decode cX1_copyFrom 31 = .ok (.aload_n 1, 1) := by decide +kernel
theorem dX1_copyFrom_32 : decode cX1_copyFrom 32 = .ok (.getfield 15, 3) := by decide +kernel
theorem dX1_copyFrom_35 : decode cX1_copyFrom 35 = .ok (.iconst 0, 1) := by decide +kernel
theorem dX1_copyFrom_36 : decode cX1_copyFrom 36 = .ok (.aload_n 0, 1) := by decide +kernel
theorem dX1_copyFrom_37 : decode cX1_copyFrom 37 = .ok (.getfield 15, 3) := by decide +kernel
theorem dX1_copyFrom_40 : decode cX1_copyFrom 40 = .ok (.iconst 0, 1) := by decide +kernel
theorem dX1_copyFrom_41 : decode cX1_copyFrom 41 = .ok (.bipush 6, 2) := by decide +kernel
theorem dX1_copyFrom_43 : decode cX1_copyFrom 43 = .ok (.invokestatic 44, 3) := by decide +kernel
theorem dX1_copyFrom_46 : decode cX1_copyFrom 46 = .ok (.aload_n 1, 1) := by decide +kernel
theorem dX1_copyFrom_47 : decode cX1_copyFrom 47 = .ok (.getfield 18, 3) := by decide +kernel
theorem dX1_copyFrom_50 : decode cX1_copyFrom 50 = .ok (.iconst 0, 1) := by decide +kernel
theorem dX1_copyFrom_51 : decode cX1_copyFrom 51 = .ok (.aload_n 0, 1) := by decide +kernel
theorem dX1_copyFrom_52 : decode cX1_copyFrom 52 = .ok (.getfield 18, 3) := by decide +kernel
theorem dX1_copyFrom_55 : decode cX1_copyFrom 55 = .ok (.iconst 0, 1) := by decide +kernel
theorem dX1_copyFrom_56 : decode cX1_copyFrom 56 = .ok (.bipush 6, 2) := by decide +kernel
theorem dX1_copyFrom_58 : decode cX1_copyFrom 58 = .ok (.invokestatic 44, 3) := by decide +kernel
theorem dX1_copyFrom_61 : decode cX1_copyFrom 61 = .ok (.aload_n 1, 1) := by decide +kernel
theorem dX1_copyFrom_62 : decode cX1_copyFrom 62 = .ok (.getfield 21, 3) := by decide +kernel
theorem dX1_copyFrom_65 : decode cX1_copyFrom 65 = .ok (.iconst 0, 1) := by decide +kernel
theorem dX1_copyFrom_66 : decode cX1_copyFrom 66 = .ok (.aload_n 0, 1) := by decide +kernel
theorem dX1_copyFrom_67 : decode cX1_copyFrom 67 = .ok (.getfield 21, 3) := by decide +kernel
theorem dX1_copyFrom_70 : decode cX1_copyFrom 70 = .ok (.iconst 0, 1) := by decide +kernel
theorem dX1_copyFrom_71 : decode cX1_copyFrom 71 = .ok (.bipush 6, 2) := by decide +kernel
theorem dX1_copyFrom_73 : decode cX1_copyFrom 73 = .ok (.invokestatic 44, 3) := by decide +kernel
theorem dX1_copyFrom_76 : decode cX1_copyFrom 76 = .ok (.aload_n 1, 1) := by decide +kernel
theorem dX1_copyFrom_77 : decode cX1_copyFrom 77 = .ok (.getfield 24, 3) := by decide +kernel
theorem dX1_copyFrom_80 : decode cX1_copyFrom 80 = .ok (.iconst 0, 1) := by decide +kernel
theorem dX1_copyFrom_81 : decode cX1_copyFrom 81 = .ok (.aload_n 0, 1) := by decide +kernel
theorem dX1_copyFrom_82 : decode cX1_copyFrom 82 = .ok (.getfield 24, 3) := by decide +kernel
theorem dX1_copyFrom_85 : decode cX1_copyFrom 85 = .ok (.iconst 0, 1) := by decide +kernel
theorem dX1_copyFrom_86 : decode cX1_copyFrom 86 = .ok (.bipush 36, 2) := by decide +kernel
theorem dX1_copyFrom_88 : decode cX1_copyFrom 88 = .ok (.invokestatic 44, 3) := by decide +kernel
theorem dX1_copyFrom_91 : decode cX1_copyFrom 91 = .ok (.return_, 1) := by decide +kernel
theorem dX1_holding_0 : decode cX1_holding 0 = .ok (.iload_n 2, 1) := by decide +kernel
theorem dX1_holding_1 : decode cX1_holding 1 = .ok (.ifCond .ne 10, 3) := by decide +kernel
theorem dX1_holding_4 : decode cX1_holding 4 = .ok (.aload_n 0, 1) := by decide +kernel
theorem dX1_holding_5 : decode cX1_holding 5 = .ok (.getfield 9, 3) := by decide +kernel
theorem dX1_holding_8 : decode cX1_holding 8 = .ok (.iload_n 1, 1) := by decide +kernel
theorem dX1_holding_9 : decode cX1_holding 9 = .ok (.iaload, 1) := by decide +kernel
theorem dX1_holding_10 : decode cX1_holding 10 = .ok (.ireturn, 1) := by decide +kernel
theorem dX1_holding_11 : decode cX1_holding 11 = .ok (.iload_n 2, 1) := by decide +kernel
theorem dX1_holding_12 : decode cX1_holding 12 = .ok (.iconst 1, 1) := by decide +kernel
theorem dX1_holding_13 : decode cX1_holding 13 = .ok (.if_icmp .ne 12, 3) := by decide +kernel
theorem dX1_holding_16 : decode cX1_holding 16 = .ok (.aload_n 0, 1) := by decide +kernel
theorem dX1_holding_17 : decode cX1_holding 17 = .ok (.getfield 18, 3) := by decide +kernel
theorem dX1_holding_20 : decode cX1_holding 20 = .ok (.iload_n 1, 1) := by decide +kernel
theorem dX1_holding_21 : decode cX1_holding 21 = .ok (.iaload, 1) := by decide +kernel
theorem dX1_holding_22 : decode cX1_holding 22 = .ok (.goto 9, 3) := by decide +kernel
theorem dX1_holding_25 : decode cX1_holding 25 = .ok (.aload_n 0, 1) := by decide +kernel
theorem dX1_holding_26 : decode cX1_holding 26 = .ok (.getfield 21, 3) := by decide +kernel
theorem dX1_holding_29 : decode cX1_holding 29 = .ok (.iload_n 1, 1) := by decide +kernel
theorem dX1_holding_30 : decode cX1_holding 30 = .ok (.iaload, 1) := by decide +kernel
theorem dX1_holding_31 : decode cX1_holding 31 = .ok (.ireturn, 1) := by decide +kernel
theorem dX1_debt_0 : decode cX1_debt 0 = .ok (.aload_n 0, 1) := by decide +kernel
theorem dX1_debt_1 : decode cX1_debt 1 = .ok (.getfield 24, 3) := by decide +kernel
theorem dX1_debt_4 : decode cX1_debt 4 = .ok (.iload_n 1, 1) := by decide +kernel
theorem dX1_debt_5 : decode cX1_debt 5 = .ok (.bipush 6, 2) := by decide +kernel
theorem dX1_debt_7 : decode cX1_debt 7 = .ok (.imul, 1) := by decide +kernel
theorem dX1_debt_8 : decode cX1_debt 8 = .ok (.iload_n 2, 1) := by decide +kernel
theorem dX1_debt_9 : decode cX1_debt 9 = .ok (.iadd, 1) := by decide +kernel
theorem dX1_debt_10 : decode cX1_debt 10 = .ok (.iaload, 1) := by decide +kernel
theorem dX1_debt_11 : decode cX1_debt 11 = .ok (.ireturn, 1) := by decide +kernel
theorem dX1_net_0 : decode cX1_net 0 = .ok (.iconst 0, 1) := by decide +kernel
theorem dX1_net_1 : decode cX1_net 1 = .ok (.istore_n 2, 1) := by decide +kernel
theorem dX1_net_2 : decode cX1_net 2 = .ok (.iconst 0, 1) := by decide +kernel
theorem dX1_net_3 : decode cX1_net 3 = .ok (.istore_n 3, 1) := by decide +kernel
theorem dX1_net_4 : decode cX1_net 4 = .ok (.iload_n 3, 1) := by decide +kernel
theorem dX1_net_5 : decode cX1_net 5 = .ok (.bipush 6, 2) := by decide +kernel
theorem dX1_net_7 : decode cX1_net 7 = .ok (.if_icmp .ge 25, 3) := by decide +kernel
theorem dX1_net_10 : decode cX1_net 10 = .ok (.iload_n 2, 1) := by decide +kernel
theorem dX1_net_11 : decode cX1_net 11 = .ok (.aload_n 0, 1) := by decide +kernel
theorem dX1_net_12 : decode cX1_net 12 = .ok (.iload_n 3, 1) := by decide +kernel
theorem dX1_net_13 : decode cX1_net 13 = .ok (.iload_n 1, 1) := by decide +kernel
theorem dX1_net_14 : decode cX1_net 14 = .ok (.invokevirtual 50, 3) := by decide +kernel
theorem dX1_net_17 : decode cX1_net 17 = .ok (.aload_n 0, 1) := by decide +kernel
theorem dX1_net_18 : decode cX1_net 18 = .ok (.iload_n 1, 1) := by decide +kernel
theorem dX1_net_19 : decode cX1_net 19 = .ok (.iload_n 3, 1) := by decide +kernel
theorem dX1_net_20 : decode cX1_net 20 = .ok (.invokevirtual 50, 3) := by decide +kernel
theorem dX1_net_23 : decode cX1_net 23 = .ok (.isub, 1) := by decide +kernel
theorem dX1_net_24 : decode cX1_net 24 = .ok (.iadd, 1) := by decide +kernel
theorem dX1_net_25 : decode cX1_net 25 = .ok (.istore_n 2, 1) := by decide +kernel
theorem dX1_net_26 : decode cX1_net 26 = .ok (.iinc 3 1, 3) := by decide +kernel
theorem dX1_net_29 : decode cX1_net 29 = .ok (.goto (-25), 3) := by decide +kernel
theorem dX1_net_32 : decode cX1_net 32 = .ok (.iload_n 2, 1) := by decide +kernel
theorem dX1_net_33 : decode cX1_net 33 = .ok (.ireturn, 1) := by decide +kernel
theorem dX1_signAct_0 : decode cX1_signAct 0 = .ok (.aload_n 0, 1) := by decide +kernel
theorem dX1_signAct_1 : decode cX1_signAct 1 = .ok (.getfield 9, 3) := by decide +kernel
theorem dX1_signAct_4 : decode cX1_signAct 4 = .ok (.iload_n 1, 1) := by decide +kernel
theorem dX1_signAct_5 : decode cX1_signAct 5 = .ok (.dup2, 1) := by decide +kernel
theorem dX1_signAct_6 : decode cX1_signAct 6 = .ok (.iaload, 1) := by decide +kernel
theorem dX1_signAct_7 : decode cX1_signAct 7 = .ok (.iconst 1, 1) := by decide +kernel
theorem dX1_signAct_8 : decode cX1_signAct 8 = .ok (.isub, 1) := by decide +kernel
theorem dX1_signAct_9 : decode cX1_signAct 9 = .ok (.iastore, 1) := by decide +kernel
theorem dX1_signAct_10 : decode cX1_signAct 10 = .ok (.aload_n 0, 1) := by decide +kernel
theorem dX1_signAct_11 : decode cX1_signAct 11 = .ok (.iload_n 1, 1) := by decide +kernel
theorem dX1_signAct_12 : decode cX1_signAct 12 = .ok (.iload_n 2, 1) := by decide +kernel
theorem dX1_signAct_13 : decode cX1_signAct 13 = .ok (.invokevirtual 54, 3) := by decide +kernel
theorem dX1_signAct_16 : decode cX1_signAct 16 = .ok (.return_, 1) := by decide +kernel
theorem dX1_forgeAct_0 : decode cX1_forgeAct 0 = .ok (.aload_n 0, 1) := by decide +kernel
theorem dX1_forgeAct_1 : decode cX1_forgeAct 1 = .ok (.getfield 21, 3) := by decide +kernel
theorem dX1_forgeAct_4 : decode cX1_forgeAct 4 = .ok (.iload_n 1, 1) := by decide +kernel
theorem dX1_forgeAct_5 : decode cX1_forgeAct 5 = .ok (.dup2, 1) := by decide +kernel
theorem dX1_forgeAct_6 : decode cX1_forgeAct 6 = .ok (.iaload, 1) := by decide +kernel
theorem dX1_forgeAct_7 : decode cX1_forgeAct 7 = .ok (.iconst 1, 1) := by decide +kernel
theorem dX1_forgeAct_8 : decode cX1_forgeAct 8 = .ok (.iadd, 1) := by decide +kernel
theorem dX1_forgeAct_9 : decode cX1_forgeAct 9 = .ok (.iastore, 1) := by decide +kernel
theorem dX1_forgeAct_10 : decode cX1_forgeAct 10 = .ok (.aload_n 0, 1) := by decide +kernel
theorem dX1_forgeAct_11 : decode cX1_forgeAct 11 = .ok (.iload_n 1, 1) := by decide +kernel
theorem dX1_forgeAct_12 : decode cX1_forgeAct 12 = .ok (.iload_n 2, 1) := by decide +kernel
theorem dX1_forgeAct_13 : decode cX1_forgeAct 13 = .ok (.invokevirtual 54, 3) := by decide +kernel
theorem dX1_forgeAct_16 : decode cX1_forgeAct 16 = .ok (.return_, 1) := by decide +kernel
theorem dX1_earn_0 : decode cX1_earn 0 = .ok (.aload_n 0, 1) := by decide +kernel
theorem dX1_earn_1 : decode cX1_earn 1 = .ok (.getfield 18, 3) := by decide +kernel
theorem dX1_earn_4 : decode cX1_earn 4 = .ok (.iload_n 1, 1) := by decide +kernel
theorem dX1_earn_5 : decode cX1_earn 5 = .ok (.sipush 9999, 3) := by decide +kernel
theorem dX1_earn_8 : decode cX1_earn 8 = .ok (.aload_n 0, 1) := by decide +kernel
theorem dX1_earn_9 : decode cX1_earn 9 = .ok (.getfield 18, 3) := by decide +kernel
theorem dX1_earn_12 : decode cX1_earn 12 = .ok (.iload_n 1, 1) := by decide +kernel
theorem dX1_earn_13 : decode cX1_earn 13 = .ok (.iaload, 1) := by decide +kernel
theorem dX1_earn_14 : decode cX1_earn 14 = .ok (.iload_n 2, 1) := by decide +kernel
theorem dX1_earn_15 : decode cX1_earn 15 = .ok (.iadd, 1) := by decide +kernel
theorem dX1_earn_16 : decode cX1_earn 16 = .ok (.invokestatic 58, 3) := by decide +kernel
theorem dX1_earn_19 : decode cX1_earn 19 = .ok (.iastore, 1) := by decide +kernel
theorem dX1_earn_20 : decode cX1_earn 20 = .ok (.return_, 1) := by decide +kernel
theorem dX1_move_0 : decode cX1_move 0 = .ok (.aload_n 0, 1) := by decide +kernel
theorem dX1_move_1 : decode cX1_move 1 = .ok (.getfield 9, 3) := by decide +kernel
theorem dX1_move_4 : decode cX1_move 4 = .ok (.iload_n 1, 1) := by decide +kernel
theorem dX1_move_5 : decode cX1_move 5 = .ok (.dup2, 1) := by decide +kernel
theorem dX1_move_6 : decode cX1_move 6 = .ok (.iaload, 1) := by decide +kernel
theorem dX1_move_7 : decode cX1_move 7 = .ok (.iload_n 3, 1) := by decide +kernel
theorem dX1_move_8 : decode cX1_move 8 = .ok (.isub, 1) := by decide +kernel
theorem dX1_move_9 : decode cX1_move 9 = .ok (.iastore, 1) := by decide +kernel
theorem dX1_move_10 : decode cX1_move 10 = .ok (.aload_n 0, 1) := by decide +kernel
theorem dX1_move_11 : decode cX1_move 11 = .ok (.getfield 9, 3) := by decide +kernel
theorem dX1_move_14 : decode cX1_move 14 = .ok (.iload_n 2, 1) := by decide +kernel
theorem dX1_move_15 : decode cX1_move 15 = .ok (.sipush 400, 3) := by decide +kernel
theorem dX1_move_18 : decode cX1_move 18 = .ok (.aload_n 0, 1) := by decide +kernel
theorem dX1_move_19 : decode cX1_move 19 = .ok (.getfield 9, 3) := by decide +kernel
theorem dX1_move_22 : decode cX1_move 22 = .ok (.iload_n 2, 1) := by decide +kernel
theorem dX1_move_23 : decode cX1_move 23 = .ok (.iaload, 1) := by decide +kernel
theorem dX1_move_24 : decode cX1_move 24 = .ok (.iload_n 3, 1) := by decide +kernel
theorem dX1_move_25 : decode cX1_move 25 = .ok (.iadd, 1) := by decide +kernel
theorem dX1_move_26 : decode cX1_move 26 = .ok (.invokestatic 58, 3) := by decide +kernel
theorem dX1_move_29 : decode cX1_move 29 = .ok (.iastore, 1) := by decide +kernel
theorem dX1_move_30 : decode cX1_move 30 = .ok (.return_, 1) := by decide +kernel
theorem dX1_owe_0 : decode cX1_owe 0 = .ok (.aload_n 0, 1) := by decide +kernel
theorem dX1_owe_1 : decode cX1_owe 1 = .ok (.getfield 24, 3) := by decide +kernel
theorem dX1_owe_4 : decode cX1_owe 4 = .ok (.iload_n 1, 1) := by decide +kernel
theorem dX1_owe_5 : decode cX1_owe 5 = .ok (.bipush 6, 2) := by decide +kernel
theorem dX1_owe_7 : decode cX1_owe 7 = .ok (.imul, 1) := by decide +kernel
theorem dX1_owe_8 : decode cX1_owe 8 = .ok (.iload_n 2, 1) := by decide +kernel
theorem dX1_owe_9 : decode cX1_owe 9 = .ok (.iadd, 1) := by decide +kernel
theorem dX1_owe_10 : decode cX1_owe 10 = .ok (.dup2, 1) := by decide +kernel
theorem dX1_owe_11 : decode cX1_owe 11 = .ok (.iaload, 1) := by decide +kernel
theorem dX1_owe_12 : decode cX1_owe 12 = .ok (.iload_n 3, 1) := by decide +kernel
theorem dX1_owe_13 : decode cX1_owe 13 = .ok (.iadd, 1) := by decide +kernel
theorem dX1_owe_14 : decode cX1_owe 14 = .ok (.iastore, 1) := by decide +kernel
theorem dX1_owe_15 : decode cX1_owe 15 = .ok (.return_, 1) := by decide +kernel
theorem dX1_bare_0 : decode cX1_bare 0 = .ok (.iconst 0, 1) := by decide +kernel
theorem dX1_bare_1 : decode cX1_bare 1 = .ok (.istore_n 1, 1) := by decide +kernel
theorem dX1_bare_2 : decode cX1_bare 2 = .ok (.iconst 0, 1) := by decide +kernel
theorem dX1_bare_3 : decode cX1_bare 3 = .ok (.istore_n 2, 1) := by decide +kernel
theorem dX1_bare_4 : decode cX1_bare 4 = .ok (.iload_n 2, 1) := by decide +kernel
theorem dX1_bare_5 : decode cX1_bare 5 = .ok (.bipush 6, 2) := by decide +kernel
theorem dX1_bare_7 : decode cX1_bare 7 = .ok (.if_icmp .ge 32, 3) := by decide +kernel
theorem dX1_bare_10 : decode cX1_bare 10 = .ok (.aload_n 0, 1) := by decide +kernel
theorem dX1_bare_11 : decode cX1_bare 11 = .ok (.iload_n 2, 1) := by decide +kernel
theorem dX1_bare_12 : decode cX1_bare 12 = .ok (.invokevirtual 63, 3) := by decide +kernel
theorem dX1_bare_15 : decode cX1_bare 15 = .ok (.ifCond .eq 18, 3) := by decide +kernel
theorem dX1_bare_18 : decode cX1_bare 18 = .ok (.aload_n 0, 1) := by decide +kernel
theorem dX1_bare_19 : decode cX1_bare 19 = .ok (.getfield 9, 3) := by decide +kernel
theorem dX1_bare_22 : decode cX1_bare 22 = .ok (.iload_n 2, 1) := by decide +kernel
theorem dX1_bare_23 : decode cX1_bare 23 = .ok (.iaload, 1) := by decide +kernel
theorem dX1_bare_24 : decode cX1_bare 24 = .ok (.ifCond .ne 9, 3) := by decide +kernel
theorem dX1_bare_27 : decode cX1_bare 27 = .ok (.iload_n 1, 1) := by decide +kernel
theorem dX1_bare_28 : decode cX1_bare 28 = .ok (.iconst 1, 1) := by decide +kernel
theorem dX1_bare_29 : decode cX1_bare 29 = .ok (.iload_n 2, 1) := by decide +kernel
theorem dX1_bare_30 : decode cX1_bare 30 = .ok (.ishl, 1) := by decide +kernel
theorem dX1_bare_31 : decode cX1_bare 31 = .ok (.ior, 1) := by decide +kernel
theorem dX1_bare_32 : decode cX1_bare 32 = .ok (.istore_n 1, 1) := by decide +kernel
theorem dX1_bare_33 : decode cX1_bare 33 = .ok (.iinc 2 1, 3) := by decide +kernel
theorem dX1_bare_36 : decode cX1_bare 36 = .ok (.goto (-32), 3) := by decide +kernel
theorem dX1_bare_39 : decode cX1_bare 39 = .ok (.iload_n 1, 1) := by decide +kernel
theorem dX1_bare_40 : decode cX1_bare 40 = .ok (.ireturn, 1) := by decide +kernel
theorem dX1_honest_0 : decode cX1_honest 0 = .ok (.iconst 0, 1) := by decide +kernel
theorem dX1_honest_1 : decode cX1_honest 1 = .ok (.istore_n 1, 1) := by decide +kernel
theorem dX1_honest_2 : decode cX1_honest 2 = .ok (.iconst 0, 1) := by decide +kernel
theorem dX1_honest_3 : decode cX1_honest 3 = .ok (.istore_n 2, 1) := by decide +kernel
theorem dX1_honest_4 : decode cX1_honest 4 = .ok (.iload_n 2, 1) := by decide +kernel
theorem dX1_honest_5 : decode cX1_honest 5 = .ok (.bipush 6, 2) := by decide +kernel
theorem dX1_honest_7 : decode cX1_honest 7 = .ok (.if_icmp .ge 32, 3) := by decide +kernel
theorem dX1_honest_10 : decode cX1_honest 10 = .ok (.aload_n 0, 1) := by decide +kernel
theorem dX1_honest_11 : decode cX1_honest 11 = .ok (.iload_n 2, 1) := by decide +kernel
theorem dX1_honest_12 : decode cX1_honest 12 = .ok (.invokevirtual 63, 3) := by decide +kernel
theorem dX1_honest_15 : decode cX1_honest 15 = .ok (.ifCond .eq 18, 3) := by decide +kernel
theorem dX1_honest_18 : decode cX1_honest 18 = .ok (.aload_n 0, 1) := by decide +kernel
theorem dX1_honest_19 : decode cX1_honest 19 = .ok (.getfield 21, 3) := by decide +kernel
theorem dX1_honest_22 : decode cX1_honest 22 = .ok (.iload_n 2, 1) := by decide +kernel
theorem dX1_honest_23 : decode cX1_honest 23 = .ok (.iaload, 1) := by decide +kernel
theorem dX1_honest_24 : decode cX1_honest 24 = .ok (.ifCond .ne 9, 3) := by decide +kernel
theorem dX1_honest_27 : decode cX1_honest 27 = .ok (.iload_n 1, 1) := by decide +kernel
theorem dX1_honest_28 : decode cX1_honest 28 = .ok (.iconst 1, 1) := by decide +kernel
theorem dX1_honest_29 : decode cX1_honest 29 = .ok (.iload_n 2, 1) := by decide +kernel
theorem dX1_honest_30 : decode cX1_honest 30 = .ok (.ishl, 1) := by decide +kernel
theorem dX1_honest_31 : decode cX1_honest 31 = .ok (.ior, 1) := by decide +kernel
theorem dX1_honest_32 : decode cX1_honest 32 = .ok (.istore_n 1, 1) := by decide +kernel
theorem dX1_honest_33 : decode cX1_honest 33 = .ok (.iinc 2 1, 3) := by decide +kernel
theorem dX1_honest_36 : decode cX1_honest 36 = .ok (.goto (-32), 3) := by decide +kernel
theorem dX1_honest_39 : decode cX1_honest 39 = .ok (.iload_n 1, 1) := by decide +kernel
theorem dX1_honest_40 : decode cX1_honest 40 = .ok (.ireturn, 1) := by decide +kernel
theorem dX1_richest_0 : decode cX1_richest 0 = .ok (.bipush (-6), 2) := by decide +kernel
theorem dX1_richest_2 : decode cX1_richest 2 = .ok (.istore_n 1, 1) := by decide +kernel
theorem dX1_richest_3 : decode cX1_richest 3 = .ok (.iconst (-1), 1) := by decide +kernel
theorem dX1_richest_4 : decode cX1_richest 4 = .ok (.istore_n 2, 1) := by decide +kernel
theorem dX1_richest_5 : decode cX1_richest 5 = .ok (.iconst 0, 1) := by decide +kernel
theorem dX1_richest_6 : decode cX1_richest 6 = .ok (.istore_n 3, 1) := by decide +kernel
theorem dX1_richest_7 : decode cX1_richest 7 = .ok (.iload_n 3, 1) := by decide +kernel
theorem dX1_richest_8 : decode cX1_richest 8 = .ok (.bipush 6, 2) := by decide +kernel
theorem dX1_richest_10 : decode cX1_richest 10 = .ok (.if_icmp .ge 36, 3) := by decide +kernel
theorem dX1_richest_13 : decode cX1_richest 13 = .ok (.aload_n 0, 1) := by decide +kernel
theorem dX1_richest_14 : decode cX1_richest 14 = .ok (.iload_n 3, 1) := by decide +kernel
theorem dX1_richest_15 : decode cX1_richest 15 = .ok (.invokevirtual 63, 3) := by decide +kernel
theorem dX1_richest_18 : decode cX1_richest 18 = .ok (.ifCond .eq 22, 3) := by decide +kernel
theorem dX1_richest_21 : decode cX1_richest 21 = .ok (.aload_n 0, 1) := by decide +kernel
theorem dX1_richest_22 : decode cX1_richest 22 = .ok (.getfield 18, 3) := by decide +kernel
theorem dX1_richest_25 : decode cX1_richest 25 = .ok (.iload_n 3, 1) := by decide +kernel
theorem dX1_richest_26 : decode cX1_richest 26 = .ok (.iaload, 1) := by decide +kernel
theorem dX1_richest_27 : decode cX1_richest 27 = .ok (.iload_n 2, 1) := by decide +kernel
theorem dX1_richest_28 : decode cX1_richest 28 = .ok (.if_icmp .le 12, 3) := by decide +kernel
theorem dX1_richest_31 : decode cX1_richest 31 = .ok (.iload_n 3, 1) := by decide +kernel
theorem dX1_richest_32 : decode cX1_richest 32 = .ok (.istore_n 1, 1) := by decide +kernel
theorem dX1_richest_33 : decode cX1_richest 33 = .ok (.aload_n 0, 1) := by decide +kernel
theorem dX1_richest_34 : decode cX1_richest 34 = .ok (.getfield 18, 3) := by decide +kernel
theorem dX1_richest_37 : decode cX1_richest 37 = .ok (.iload_n 3, 1) := by decide +kernel
theorem dX1_richest_38 : decode cX1_richest 38 = .ok (.iaload, 1) := by decide +kernel
theorem dX1_richest_39 : decode cX1_richest 39 = .ok (.istore_n 2, 1) := by decide +kernel
theorem dX1_richest_40 : decode cX1_richest 40 = .ok (.iinc 3 1, 3) := by decide +kernel
theorem dX1_richest_43 : decode cX1_richest 43 = .ok (.goto (-36), 3) := by decide +kernel
theorem dX1_richest_46 : decode cX1_richest 46 = .ok (.iload_n 1, 1) := by decide +kernel
theorem dX1_richest_47 : decode cX1_richest 47 = .ok (.ireturn, 1) := by decide +kernel
theorem dX1_worthOfAll_0 : decode cX1_worthOfAll 0 = .ok (.iconst 0, 1) := by decide +kernel
theorem dX1_worthOfAll_1 : decode cX1_worthOfAll 1 = .ok (.istore_n 1, 1) := by decide +kernel
theorem dX1_worthOfAll_2 : decode cX1_worthOfAll 2 = .ok (.iconst 0, 1) := by decide +kernel
theorem dX1_worthOfAll_3 : decode cX1_worthOfAll 3 = .ok (.istore_n 2, 1) := by decide +kernel
theorem dX1_worthOfAll_4 : decode cX1_worthOfAll 4 = .ok (.iload_n 2, 1) := by decide +kernel
theorem dX1_worthOfAll_5 : decode cX1_worthOfAll 5 = .ok (.bipush 6, 2) := by decide +kernel
theorem dX1_worthOfAll_7 : decode cX1_worthOfAll 7 = .ok (.if_icmp .ge 18, 3) := by decide +kernel
theorem dX1_worthOfAll_10 : decode cX1_worthOfAll 10 = .ok (.iload_n 1, 1) := by decide +kernel
theorem dX1_worthOfAll_11 : decode cX1_worthOfAll 11 = .ok (.aload_n 0, 1) := by decide +kernel
theorem dX1_worthOfAll_12 : decode cX1_worthOfAll 12 = .ok (.getfield 18, 3) := by decide +kernel
theorem dX1_worthOfAll_15 : decode cX1_worthOfAll 15 = .ok (.iload_n 2, 1) := by decide +kernel
theorem dX1_worthOfAll_16 : decode cX1_worthOfAll 16 = .ok (.iaload, 1) := by decide +kernel
theorem dX1_worthOfAll_17 : decode cX1_worthOfAll 17 = .ok (.iadd, 1) := by decide +kernel
theorem dX1_worthOfAll_18 : decode cX1_worthOfAll 18 = .ok (.istore_n 1, 1) := by decide +kernel
theorem dX1_worthOfAll_19 : decode cX1_worthOfAll 19 = .ok (.iinc 2 1, 3) := by decide +kernel
theorem dX1_worthOfAll_22 : decode cX1_worthOfAll 22 = .ok (.goto (-18), 3) := by decide +kernel
theorem dX1_worthOfAll_25 : decode cX1_worthOfAll 25 = .ok (.iload_n 1, 1) := by decide +kernel
theorem dX1_worthOfAll_26 : decode cX1_worthOfAll 26 = .ok (.ireturn, 1) := by decide +kernel
theorem dX2_init_0 : decode cX2_init 0 = .ok (.aload_n 0, 1) := by decide +kernel
theorem dX2_init_1 : decode cX2_init 1 = .ok (.invokespecial 3, 3) := by decide +kernel
theorem dX2_init_4 : decode cX2_init 4 = .ok (.aload_n 0, 1) := by decide +kernel
theorem dX2_init_5 : decode cX2_init 5 = .ok (.new 9, 3) := by decide +kernel
theorem dX2_init_8 : decode cX2_init 8 = .ok (.dup, 1) := by decide +kernel
theorem dX2_init_9 : decode cX2_init 9 = .ok (.invokespecial 11, 3) := by decide +kernel
theorem dX2_init_12 : decode cX2_init 12 = .ok (.putfield 12, 3) := by decide +kernel
theorem dX2_init_15 : decode cX2_init 15 = .ok (.aload_n 0, 1) := by decide +kernel
theorem dX2_init_16 : decode cX2_init 16 = .ok (.new 18, 3) := by decide +kernel
theorem dX2_init_19 : decode cX2_init 19 = .ok (.dup, 1) := by decide +kernel
theorem dX2_init_20 : decode cX2_init 20 = .ok (.invokespecial 20, 3) := by decide +kernel
theorem dX2_init_23 : decode cX2_init 23 = .ok (.putfield 21, 3) := by decide +kernel
theorem dX2_init_26 : decode cX2_init 26 = .ok (.return_, 1) := by decide +kernel
theorem dX2_tell_0 : decode cX2_tell 0 = .ok (.aload_n 0, 1) := by decide +kernel
theorem dX2_tell_1 : decode cX2_tell 1 = .ok (.getfield 12, 3) := by decide +kernel
theorem dX2_tell_4 : decode cX2_tell 4 = .ok (.aload_n 1, 1) := by decide +kernel
theorem dX2_tell_5 : decode cX2_tell 5 = .ok (.invokevirtual 25, 3) := by decide +kernel
theorem dX2_tell_8 : decode cX2_tell 8 = .ok (.aload_n 0, 1) := by decide +kernel
theorem dX2_tell_9 : decode cX2_tell 9 = .ok (.iconst 0, 1) := by decide +kernel
theorem dX2_tell_10 : decode cX2_tell 10 = .ok (.putfield 29, 3) := by decide +kernel
theorem dX2_tell_13 : decode cX2_tell 13 = .ok (.aload_n 0, 1) := by decide +kernel
theorem dX2_tell_14 : decode cX2_tell 14 = .ok (.bipush (-6), 2) := by decide +kernel
theorem dX2_tell_16 : decode cX2_tell 16 = .ok (.putfield 33, 3) := by decide +kernel
theorem dX2_tell_19 : decode cX2_tell 19 = .ok (.aload_n 0, 1) := by decide +kernel
theorem dX2_tell_20 : decode cX2_tell 20 = .ok (.bipush (-6), 2) := by decide +kernel
theorem dX2_tell_22 : decode cX2_tell 22 = .ok (.putfield 36, 3) := by decide +kernel
theorem dX2_tell_25 : decode cX2_tell 25 = .ok (.aload_n 0, 1) := by decide +kernel
theorem dX2_tell_26 : decode cX2_tell 26 = .ok (.iconst 0, 1) := by decide +kernel
theorem dX2_tell_27 : decode cX2_tell 27 = .ok (.putfield 39, 3) := by decide +kernel
theorem dX2_tell_30 : decode cX2_tell 30 = .ok (.aload_n 0, 1) := by decide +kernel
theorem dX2_tell_31 : decode cX2_tell 31 = .ok (.bipush (-6), 2) := by decide +kernel
theorem dX2_tell_33 : decode cX2_tell 33 = .ok (.putfield 42, 3) := by decide +kernel
theorem dX2_tell_36 : decode cX2_tell 36 = .ok (.iconst 0, 1) := by decide +kernel
theorem dX2_tell_37 : decode cX2_tell 37 = .ok (.istore_n 3, 1) := by decide +kernel
theorem dX2_tell_38 : decode cX2_tell 38 = .ok (.iconst 0, 1) := by decide +kernel
theorem dX2_tell_39 : decode cX2_tell 39 = .ok (.istore 4, 2) := by decide +kernel
theorem dX2_tell_41 : decode cX2_tell 41 = .ok (.iload 4, 2) := by decide +kernel
theorem dX2_tell_43 : decode cX2_tell 43 = .ok (.bipush 60, 2) := by decide +kernel
theorem dX2_tell_45 : decode cX2_tell 45 = .ok (.if_icmp .ge 49, 3) := by decide +kernel
theorem dX2_tell_48 : decode cX2_tell 48 = .ok (.iload_n 3, 1) := by decide +kernel
theorem dX2_tell_49 : decode cX2_tell 49 = .ok (.aload_n 2, 1) := by decide +kernel
theorem dX2_tell_50 : decode cX2_tell 50 = .ok (.getfield 45, 3) := by decide +kernel
theorem dX2_tell_53 : decode cX2_tell 53 = .ok (.if_icmp .ge 41, 3) := by decide +kernel
theorem dX2_tell_56 : decode cX2_tell 56 = .ok (.aload_n 0, 1) := by decide +kernel
theorem dX2_tell_57 : decode cX2_tell 57 = .ok (.getfield 33, 3) := by decide +kernel
theorem dX2_tell_60 : decode cX2_tell 60 = .ok (.bipush (-6), 2) := by decide +kernel
theorem dX2_tell_62 : decode cX2_tell 62 = .ok (.if_icmp .ne 32, 3) := by decide +kernel
theorem dX2_tell_65 : decode cX2_tell 65 = .ok (.aload_n 0, 1) := by decide +kernel
theorem dX2_tell_66 : decode cX2_tell 66 = .ok (.getfield 21, 3) := by decide +kernel
theorem dX2_tell_69 : decode cX2_tell 69 = .ok (.aload_n 2, 1) := by decide +kernel
theorem dX2_tell_70 : decode cX2_tell 70 = .ok (.iload_n 3, 1) := by decide +kernel
theorem dX2_tell_71 : decode cX2_tell 71 = .ok (.invokevirtual 50, 3) := by decide +kernel
theorem dX2_tell_74 : decode cX2_tell 74 = .ok (.iload_n 3, 1) := by decide +kernel
theorem dX2_tell_75 : decode cX2_tell 75 = .ok (.aload_n 0, 1) := by decide +kernel
theorem dX2_tell_76 : decode cX2_tell 76 = .ok (.getfield 21, 3) := by decide +kernel
theorem dX2_tell_79 : decode cX2_tell 79 = .ok (.getfield 54, 3) := by decide +kernel
theorem dX2_tell_82 : decode cX2_tell 82 = .ok (.iadd, 1) := by decide +kernel
theorem dX2_tell_83 : decode cX2_tell 83 = .ok (.istore_n 3, 1) := by decide +kernel
theorem dX2_tell_84 : decode cX2_tell 84 = .ok (.aload_n 0, 1) := by decide +kernel
theorem dX2_tell_85 : decode cX2_tell 85 = .ok (.invokevirtual 57, 3) := by decide +kernel
theorem dX2_tell_88 : decode cX2_tell 88 = .ok (.iinc 4 1, 3) := by decide +kernel
theorem dX2_tell_91 : decode cX2_tell 91 = .ok (.goto (-50), 3) := by decide +kernel
theorem dX2_tell_94 : decode cX2_tell 94 = .ok (.return_, 1) := by decide +kernel
theorem dX2_tellAct_0 : decode cX2_tellAct 0 = .ok (.aload_n 0, 1) := by decide +kernel
theorem dX2_tellAct_1 : decode cX2_tellAct 1 = .ok (.getfield 21, 3) := by decide +kernel
theorem dX2_tellAct_4 : decode cX2_tellAct 4 = .ok (.aload_n 0, 1) := by decide +kernel
theorem dX2_tellAct_5 : decode cX2_tellAct 5 = .ok (.getfield 12, 3) := by decide +kernel
theorem dX2_tellAct_8 : decode cX2_tellAct 8 = .ok (.invokevirtual 60, 3) := by decide +kernel
theorem dX2_tellAct_11 : decode cX2_tellAct 11 = .ok (.istore_n 1, 1) := by decide +kernel
theorem dX2_tellAct_12 : decode cX2_tellAct 12 = .ok (.iload_n 1, 1) := by decide +kernel
theorem dX2_tellAct_13 : decode cX2_tellAct 13 = .ok (.ifCond .eq 17, 3) := by decide +kernel
theorem dX2_tellAct_16 : decode cX2_tellAct 16 = .ok (.aload_n 0, 1) := by decide +kernel
theorem dX2_tellAct_17 : decode cX2_tellAct 17 = .ok (.aload_n 0, 1) := by decide +kernel
theorem dX2_tellAct_18 : decode cX2_tellAct 18 = .ok (.getfield 29, 3) := by decide +kernel
theorem dX2_tellAct_21 : decode cX2_tellAct 21 = .ok (.putfield 33, 3) := by decide +kernel
theorem dX2_tellAct_24 : decode cX2_tellAct 24 = .ok (.aload_n 0, 1) := by decide +kernel
theorem dX2_tellAct_25 : decode cX2_tellAct 25 = .ok (.iload_n 1, 1) := by decide +kernel
theorem dX2_tellAct_26 : decode cX2_tellAct 26 = .ok (.putfield 36, 3) := by decide +kernel
theorem dX2_tellAct_29 : decode cX2_tellAct 29 = .ok (.return_, 1) := by decide +kernel
theorem dX2_tellAct_30 : decode cX2_tellAct 30 = .ok (.aload_n 0, 1) := by decide +kernel
theorem dX2_tellAct_31 : decode cX2_tellAct 31 = .ok (.getfield 12, 3) := by decide +kernel
theorem dX2_tellAct_34 : decode cX2_tellAct 34 = .ok (.invokevirtual 64, 3) := by decide +kernel
theorem dX2_tellAct_37 : decode cX2_tellAct 37 = .ok (.istore_n 2, 1) := by decide +kernel
theorem dX2_tellAct_38 : decode cX2_tellAct 38 = .ok (.aload_n 0, 1) := by decide +kernel
theorem dX2_tellAct_39 : decode cX2_tellAct 39 = .ok (.getfield 21, 3) := by decide +kernel
theorem dX2_tellAct_42 : decode cX2_tellAct 42 = .ok (.aload_n 0, 1) := by decide +kernel
theorem dX2_tellAct_43 : decode cX2_tellAct 43 = .ok (.getfield 12, 3) := by decide +kernel
theorem dX2_tellAct_46 : decode cX2_tellAct 46 = .ok (.invokevirtual 68, 3) := by decide +kernel
theorem dX2_tellAct_49 : decode cX2_tellAct 49 = .ok (.aload_n 0, 1) := by decide +kernel
theorem dX2_tellAct_50 : decode cX2_tellAct 50 = .ok (.getfield 42, 3) := by decide +kernel
theorem dX2_tellAct_53 : decode cX2_tellAct 53 = .ok (.bipush (-6), 2) := by decide +kernel
theorem dX2_tellAct_55 : decode cX2_tellAct 55 = .ok (.if_icmp .ne 25, 3) := by decide +kernel
theorem dX2_tellAct_58 : decode cX2_tellAct 58 = .ok (.aload_n 0, 1) := by decide +kernel
theorem dX2_tellAct_59 : decode cX2_tellAct 59 = .ok (.getfield 12, 3) := by decide +kernel
theorem dX2_tellAct_62 : decode cX2_tellAct 62 = .ok (.invokevirtual 64, 3) := by decide +kernel
theorem dX2_tellAct_65 : decode cX2_tellAct 65 = .ok (.iload_n 2, 1) := by decide +kernel
theorem dX2_tellAct_66 : decode cX2_tellAct 66 = .ok (.iconst (-1), 1) := by decide +kernel
theorem dX2_tellAct_67 : decode cX2_tellAct 67 = .ok (.ixor, 1) := by decide +kernel
theorem dX2_tellAct_68 : decode cX2_tellAct 68 = .ok (.iand, 1) := by decide +kernel
theorem dX2_tellAct_69 : decode cX2_tellAct 69 = .ok (.ifCond .eq 11, 3) := by decide +kernel
theorem dX2_tellAct_72 : decode cX2_tellAct 72 = .ok (.aload_n 0, 1) := by decide +kernel
theorem dX2_tellAct_73 : decode cX2_tellAct 73 = .ok (.aload_n 0, 1) := by decide +kernel
theorem dX2_tellAct_74 : decode cX2_tellAct 74 = .ok (.getfield 29, 3) := by decide +kernel
theorem dX2_tellAct_77 : decode cX2_tellAct 77 = .ok (.putfield 42, 3) := by decide +kernel
theorem dX2_tellAct_80 : decode cX2_tellAct 80 = .ok (.aload_n 0, 1) := by decide +kernel
theorem dX2_tellAct_81 : decode cX2_tellAct 81 = .ok (.getfield 21, 3) := by decide +kernel
theorem dX2_tellAct_84 : decode cX2_tellAct 84 = .ok (.getfield 71, 3) := by decide +kernel
theorem dX2_tellAct_87 : decode cX2_tellAct 87 = .ok (.bipush 49, 2) := by decide +kernel
theorem dX2_tellAct_89 : decode cX2_tellAct 89 = .ok (.if_icmp .ne 13, 3) := by decide +kernel
theorem dX2_tellAct_92 : decode cX2_tellAct 92 = .ok (.aload_n 0, 1) := by decide +kernel
theorem dX2_tellAct_93 : decode cX2_tellAct 93 = .ok (.dup, 1) := by decide +kernel
theorem dX2_tellAct_94 : decode cX2_tellAct 94 = .ok (.getfield 39, 3) := by decide +kernel
theorem dX2_tellAct_97 : decode cX2_tellAct 97 = .ok (.iconst 1, 1) := by decide +kernel
theorem dX2_tellAct_98 : decode cX2_tellAct 98 = .ok (.iadd, 1) := by decide +kernel
theorem dX2_tellAct_99 : decode cX2_tellAct 99 = .ok (.putfield 39, 3) := by decide +kernel
theorem dX2_tellAct_102 : decode cX2_tellAct 102 = .ok (.aload_n 0, 1) := by decide +kernel
theorem dX2_tellAct_103 : decode cX2_tellAct 103 = .ok (.dup, 1) := by decide +kernel
theorem dX2_tellAct_104 : decode cX2_tellAct 104 = .ok (.getfield 29, 3) := by decide +kernel
theorem dX2_tellAct_107 : decode cX2_tellAct 107 = .ok (.iconst 1, 1) := by decide +kernel
theorem dX2_tellAct_108 : decode cX2_tellAct 108 = .ok (.iadd, 1) := by decide +kernel
theorem dX2_tellAct_109 : decode cX2_tellAct 109 = .ok (.putfield 29, 3) := by decide +kernel
theorem dX2_tellAct_112 : decode cX2_tellAct 112 = .ok (.return_, 1) := by decide +kernel
theorem dX2_draw_0 : decode cX2_draw 0 = .ok (.aload_n 0, 1) := by decide +kernel
theorem dX2_draw_1 : decode cX2_draw 1 = .ok (.getfield 12, 3) := by decide +kernel
theorem dX2_draw_4 : decode cX2_draw 4 = .ok (.aload_n 1, 1) := by decide +kernel
theorem dX2_draw_5 : decode cX2_draw 5 = .ok (.invokevirtual 25, 3) := by decide +kernel
theorem dX2_draw_8 : decode cX2_draw 8 = .ok (.iconst 0, 1) := by decide +kernel
theorem dX2_draw_9 : decode cX2_draw 9 = .ok (.istore 4, 2) := by decide +kernel
theorem dX2_draw_11 : decode cX2_draw 11 = .ok (.iload_n 2, 1) := by decide +kernel
theorem dX2_draw_12 : decode cX2_draw 12 = .ok (.istore 5, 2) := by decide +kernel
theorem dX2_draw_14 : decode cX2_draw 14 = .ok (.iconst 0, 1) := by decide +kernel
theorem dX2_draw_15 : decode cX2_draw 15 = .ok (.istore 6, 2) := by decide +kernel
theorem dX2_draw_17 : decode cX2_draw 17 = .ok (.iload 6, 2) := by decide +kernel
theorem dX2_draw_19 : decode cX2_draw 19 = .ok (.iload_n 3, 1) := by decide +kernel
theorem dX2_draw_20 : decode cX2_draw 20 = .ok (.if_icmp .ge 106, 3) := by decide +kernel
theorem dX2_draw_23 : decode cX2_draw 23 = .ok (.bipush 75, 2) := by decide +kernel
theorem dX2_draw_25 : decode cX2_draw 25 = .ok (.iload 5, 2) := by decide +kernel
theorem dX2_draw_27 : decode cX2_draw 27 = .ok (.imul, 1) := by decide +kernel
theorem dX2_draw_28 : decode cX2_draw 28 = .ok (.bipush 74, 2) := by decide +kernel
theorem dX2_draw_30 : decode cX2_draw 30 = .ok (.iadd, 1) := by decide +kernel
theorem dX2_draw_31 : decode cX2_draw 31 = .ok (.ldc 74, 2) := by decide +kernel
theorem dX2_draw_33 : decode cX2_draw 33 = .ok (.irem, 1) := by decide +kernel
theorem dX2_draw_34 : decode cX2_draw 34 = .ok (.istore 5, 2) := by decide +kernel
theorem dX2_draw_36 : decode cX2_draw 36 = .ok (.iload 5, 2) := by decide +kernel
theorem dX2_draw_38 : decode cX2_draw 38 = .ok (.bipush 6, 2) := by decide +kernel
theorem dX2_draw_40 : decode cX2_draw 40 = .ok (.irem, 1) := by decide +kernel
theorem dX2_draw_41 : decode cX2_draw 41 = .ok (.istore 7, 2) := by decide +kernel
theorem dX2_draw_43 : decode cX2_draw 43 = .ok (.iconst 1, 1) := by decide +kernel
theorem dX2_draw_44 : decode cX2_draw 44 = .ok (.iload 5, 2) := by decide +kernel
theorem dX2_draw_46 : decode cX2_draw 46 = .ok (.bipush 6, 2) := by decide +kernel
theorem dX2_draw_48 : decode cX2_draw 48 = .ok (.idiv, 1) := by decide +kernel
theorem dX2_draw_49 : decode cX2_draw 49 = .ok (.bipush 9, 2) := by decide +kernel
theorem dX2_draw_51 : decode cX2_draw 51 = .ok (.irem, 1) := by decide +kernel
theorem dX2_draw_52 : decode cX2_draw 52 = .ok (.iadd, 1) := by decide +kernel
theorem dX2_draw_53 : decode cX2_draw 53 = .ok (.istore 8, 2) := by decide +kernel
theorem dX2_draw_55 : decode cX2_draw 55 = .ok (.aload_n 0, 1) := by decide +kernel
theorem dX2_draw_56 : decode cX2_draw 56 = .ok (.getfield 12, 3) := by decide +kernel
theorem dX2_draw_59 : decode cX2_draw 59 = .ok (.iload 7, 2) := by decide +kernel
theorem dX2_draw_61 : decode cX2_draw 61 = .ok (.invokevirtual 75, 3) := by decide +kernel
theorem dX2_draw_64 : decode cX2_draw 64 = .ok (.ifCond .eq 30, 3) := by decide +kernel
theorem dX2_draw_67 : decode cX2_draw 67 = .ok (.aload_n 0, 1) := by decide +kernel
theorem dX2_draw_68 : decode cX2_draw 68 = .ok (.getfield 12, 3) := by decide +kernel
theorem dX2_draw_71 : decode cX2_draw 71 = .ok (.getfield 79, 3) := by decide +kernel
theorem dX2_draw_74 : decode cX2_draw 74 = .ok (.iload 7, 2) := by decide +kernel
theorem dX2_draw_76 : decode cX2_draw 76 = .ok (.iaload, 1) := by decide +kernel
theorem dX2_draw_77 : decode cX2_draw 77 = .ok (.ifCond .le 17, 3) := by decide +kernel
theorem dX2_draw_80 : decode cX2_draw 80 = .ok (.aload_n 0, 1) := by decide +kernel
theorem dX2_draw_81 : decode cX2_draw 81 = .ok (.getfield 12, 3) := by decide +kernel
theorem dX2_draw_84 : decode cX2_draw 84 = .ok (.iload 7, 2) := by decide +kernel
theorem dX2_draw_86 : decode cX2_draw 86 = .ok (.iload 8, 2) := by decide +kernel
theorem dX2_draw_88 : decode cX2_draw 88 = .ok (.invokevirtual 83, 3) := by decide +kernel
theorem dX2_draw_91 : decode cX2_draw 91 = .ok (.goto 29, 3) := by decide +kernel
theorem dX2_draw_94 : decode cX2_draw 94 = .ok (.aload_n 0, 1) := by decide +kernel
theorem dX2_draw_95 : decode cX2_draw 95 = .ok (.getfield 12, 3) := by decide +kernel
theorem dX2_draw_98 : decode cX2_draw 98 = .ok (.iload 7, 2) := by decide +kernel
theorem dX2_draw_100 : decode cX2_draw 100 = .ok (.invokevirtual 75, 3) := by decide +kernel
theorem dX2_draw_103 : decode cX2_draw 103 = .ok (.ifCond .eq 17, 3) := by decide +kernel
theorem dX2_draw_106 : decode cX2_draw 106 = .ok (.aload_n 0, 1) := by decide +kernel
theorem dX2_draw_107 : decode cX2_draw 107 = .ok (.getfield 12, 3) := by decide +kernel
theorem dX2_draw_110 : decode cX2_draw 110 = .ok (.iload 7, 2) := by decide +kernel
theorem dX2_draw_112 : decode cX2_draw 112 = .ok (.iload 8, 2) := by decide +kernel
theorem dX2_draw_114 : decode cX2_draw 114 = .ok (.invokevirtual 87, 3) := by decide +kernel
theorem dX2_draw_117 : decode cX2_draw 117 = .ok (.iinc 4 1, 3) := by decide +kernel
theorem dX2_draw_120 : decode cX2_draw 120 = .ok (.iinc 6 1, 3) := by decide +kernel
theorem dX2_draw_123 : decode cX2_draw 123 = .ok (.goto (-106), 3) := by decide +kernel
theorem dX2_draw_126 : decode cX2_draw 126 = .ok (.iload 4, 2) := by decide +kernel
theorem dX2_draw_128 : decode cX2_draw 128 = .ok (.ireturn, 1) := by decide +kernel
theorem dX3_init_0 : decode cX3_init 0 = .ok (.aload_n 0, 1) := by decide +kernel
theorem dX3_init_1 : decode cX3_init 1 = .ok (.invokespecial 3, 3) := by decide +kernel
theorem dX3_init_4 : decode cX3_init 4 = .ok (.aload_n 0, 1) := by decide +kernel
theorem dX3_init_5 : decode cX3_init 5 = .ok (.bipush 64, 2) := by decide +kernel
theorem dX3_init_7 : decode cX3_init 7 = .ok (.newarray .int, 2) := by decide +kernel
theorem dX3_init_9 : decode cX3_init 9 = .ok (.putfield 9, 3) := by decide +kernel
theorem dX3_init_12 : decode cX3_init 12 = .ok (.aload_n 0, 1) := by decide +kernel
theorem dX3_init_13 : decode cX3_init 13 = .ok (.bipush 64, 2) := by decide +kernel
theorem dX3_init_15 : decode cX3_init 15 = .ok (.newarray .int, 2) := by decide +kernel
theorem dX3_init_17 : decode cX3_init 17 = .ok (.putfield 15, 3) := by decide +kernel
theorem dX3_init_20 : decode cX3_init 20 = .ok (.aload_n 0, 1) := by decide +kernel
theorem dX3_init_21 : decode cX3_init 21 = .ok (.bipush 6, 2) := by decide +kernel
theorem dX3_init_23 : decode cX3_init 23 = .ok (.newarray .int, 2) := by decide +kernel
theorem dX3_init_25 : decode cX3_init 25 = .ok (.putfield 18, 3) := by decide +kernel
theorem dX3_init_28 : decode cX3_init 28 = .ok (.return_, 1) := by decide +kernel
theorem dX3_weigh_0 : decode cX3_weigh 0 = .ok (.iload_n 2, 1) := by decide +kernel
theorem dX3_weigh_1 : decode cX3_weigh 1 = .ok (.istore_n 3, 1) := by decide +kernel
theorem dX3_weigh_2 : decode cX3_weigh 2 = .ok (.aload_n 1, 1) := by decide +kernel
theorem dX3_weigh_3 : decode cX3_weigh 3 = .ok (.invokevirtual 21, 3) := by decide +kernel
theorem dX3_weigh_6 : decode cX3_weigh 6 = .ok (.iconst 1, 1) := by decide +kernel
theorem dX3_weigh_7 : decode cX3_weigh 7 = .ok (.isub, 1) := by decide +kernel
theorem dX3_weigh_8 : decode cX3_weigh 8 = .ok (.istore 4, 2) := by decide +kernel
theorem dX3_weigh_10 : decode cX3_weigh 10 = .ok (.iload 4, 2) := by decide +kernel
theorem dX3_weigh_12 : decode cX3_weigh 12 = .ok (.ifCond .lt 25, 3) := by decide +kernel
theorem dX3_weigh_15 : decode cX3_weigh 15 = .ok (.aload_n 0, 1) := by decide +kernel
theorem dX3_weigh_16 : decode cX3_weigh 16 = .ok (.getfield 18, 3) := by decide +kernel
theorem dX3_weigh_19 : decode cX3_weigh 19 = .ok (.iload 4, 2) := by decide +kernel
theorem dX3_weigh_21 : decode cX3_weigh 21 = .ok (.iload_n 3, 1) := by decide +kernel
theorem dX3_weigh_22 : decode cX3_weigh 22 = .ok (.bipush 10, 2) := by decide +kernel
theorem dX3_weigh_24 : decode cX3_weigh 24 = .ok (.irem, 1) := by decide +kernel
theorem dX3_weigh_25 : decode cX3_weigh 25 = .ok (.iastore, 1) := by decide +kernel
theorem dX3_weigh_26 : decode cX3_weigh 26 = .ok (.iload_n 3, 1) := by decide +kernel
theorem dX3_weigh_27 : decode cX3_weigh 27 = .ok (.bipush 10, 2) := by decide +kernel
theorem dX3_weigh_29 : decode cX3_weigh 29 = .ok (.idiv, 1) := by decide +kernel
theorem dX3_weigh_30 : decode cX3_weigh 30 = .ok (.istore_n 3, 1) := by decide +kernel
theorem dX3_weigh_31 : decode cX3_weigh 31 = .ok (.iinc 4 (-1), 3) := by decide +kernel
theorem dX3_weigh_34 : decode cX3_weigh 34 = .ok (.goto (-24), 3) := by decide +kernel
theorem dX3_weigh_37 : decode cX3_weigh 37 = .ok (.aload_n 0, 1) := by decide +kernel
theorem dX3_weigh_38 : decode cX3_weigh 38 = .ok (.getfield 9, 3) := by decide +kernel
theorem dX3_weigh_41 : decode cX3_weigh 41 = .ok (.aload_n 1, 1) := by decide +kernel
theorem dX3_weigh_42 : decode cX3_weigh 42 = .ok (.getfield 27, 3) := by decide +kernel
theorem dX3_weigh_45 : decode cX3_weigh 45 = .ok (.iconst 0, 1) := by decide +kernel
theorem dX3_weigh_46 : decode cX3_weigh 46 = .ok (.iastore, 1) := by decide +kernel
theorem dX3_weigh_47 : decode cX3_weigh 47 = .ok (.aload_n 0, 1) := by decide +kernel
theorem dX3_weigh_48 : decode cX3_weigh 48 = .ok (.getfield 15, 3) := by decide +kernel
theorem dX3_weigh_51 : decode cX3_weigh 51 = .ok (.aload_n 1, 1) := by decide +kernel
theorem dX3_weigh_52 : decode cX3_weigh 52 = .ok (.getfield 27, 3) := by decide +kernel
theorem dX3_weigh_55 : decode cX3_weigh 55 = .ok (.iconst 1, 1) := by decide +kernel
theorem dX3_weigh_56 : decode cX3_weigh 56 = .ok (.iastore, 1) := by decide +kernel
theorem dX3_weigh_57 : decode cX3_weigh 57 = .ok (.aload_n 1, 1) := by decide +kernel
theorem dX3_weigh_58 : decode cX3_weigh 58 = .ok (.getfield 27, 3) := by decide +kernel
theorem dX3_weigh_61 : decode cX3_weigh 61 = .ok (.iconst 1, 1) := by decide +kernel
theorem dX3_weigh_62 : decode cX3_weigh 62 = .ok (.isub, 1) := by decide +kernel
theorem dX3_weigh_63 : decode cX3_weigh 63 = .ok (.istore 4, 2) := by decide +kernel
theorem dX3_weigh_65 : decode cX3_weigh 65 = .ok (.iload 4, 2) := by decide +kernel
theorem dX3_weigh_67 : decode cX3_weigh 67 = .ok (.ifCond .lt 28, 3) := by decide +kernel
theorem dX3_weigh_70 : decode cX3_weigh 70 = .ok (.iload 4, 2) := by decide +kernel
theorem dX3_weigh_72 : decode cX3_weigh 72 = .ok (.aload_n 1, 1) := by decide +kernel
theorem dX3_weigh_73 : decode cX3_weigh 73 = .ok (.getfield 27, 3) := by decide +kernel
theorem dX3_weigh_76 : decode cX3_weigh 76 = .ok (.iconst (-1), 1) := by decide +kernel
theorem dX3_weigh_77 : decode cX3_weigh 77 = .ok (.ixor, 1) := by decide +kernel
theorem dX3_weigh_78 : decode cX3_weigh 78 = .ok (.iand, 1) := by decide +kernel
theorem dX3_weigh_79 : decode cX3_weigh 79 = .ok (.ifCond .ne 10, 3) := by decide +kernel
theorem dX3_weigh_82 : decode cX3_weigh 82 = .ok (.aload_n 0, 1) := by decide +kernel
theorem dX3_weigh_83 : decode cX3_weigh 83 = .ok (.aload_n 1, 1) := by decide +kernel
theorem dX3_weigh_84 : decode cX3_weigh 84 = .ok (.iload 4, 2) := by decide +kernel
theorem dX3_weigh_86 : decode cX3_weigh 86 = .ok (.invokevirtual 31, 3) := by decide +kernel
theorem dX3_weigh_89 : decode cX3_weigh 89 = .ok (.iinc 4 (-1), 3) := by decide +kernel
theorem dX3_weigh_92 : decode cX3_weigh 92 = .ok (.goto (-27), 3) := by decide +kernel
theorem dX3_weigh_95 : decode cX3_weigh 95 = .ok (.return_, 1) := by decide +kernel
theorem dX3_weighSet_0 : decode cX3_weighSet 0 = .ok (.bipush 60, 2) := by decide +kernel
theorem dX3_weighSet_2 : decode cX3_weighSet 2 = .ok (.istore_n 3, 1) := by decide +kernel
theorem dX3_weighSet_3 : decode cX3_weighSet 3 = .ok (.iconst 0, 1) := by decide +kernel
theorem dX3_weighSet_4 : decode cX3_weighSet 4 = .ok (.istore 4, 2) := by decide +kernel
theorem dX3_weighSet_6 : decode cX3_weighSet 6 = .ok (.iconst 0, 1) := by decide +kernel
theorem dX3_weighSet_7 : decode cX3_weighSet 7 = .ok (.istore 5, 2) := by decide +kernel
theorem dX3_weighSet_9 : decode cX3_weighSet 9 = .ok (.iload 5, 2) := by decide +kernel
theorem dX3_weighSet_11 : decode cX3_weighSet 11 = .ok (.bipush 6, 2) := by decide +kernel
theorem dX3_weighSet_13 : decode cX3_weighSet 13 = .ok (.if_icmp .ge 63, 3) := by decide +kernel
theorem dX3_weighSet_16 : decode cX3_weighSet 16 = .ok (.aload_n 1, 1) := by decide +kernel
theorem dX3_weighSet_17 : decode cX3_weighSet 17 = .ok (.iload_n 2, 1) := by decide +kernel
theorem dX3_weighSet_18 : decode cX3_weighSet 18 = .ok (.iload 5, 2) := by decide +kernel
theorem dX3_weighSet_20 : decode cX3_weighSet 20 = .ok (.invokestatic 35, 3) := by decide +kernel
theorem dX3_weighSet_23 : decode cX3_weighSet 23 = .ok (.ifCond .eq 47, 3) := by decide +kernel
theorem dX3_weighSet_26 : decode cX3_weighSet 26 = .ok (.aload_n 0, 1) := by decide +kernel
theorem dX3_weighSet_27 : decode cX3_weighSet 27 = .ok (.aload_n 1, 1) := by decide +kernel
theorem dX3_weighSet_28 : decode cX3_weighSet 28 = .ok (.iload_n 2, 1) := by decide +kernel
theorem dX3_weighSet_29 : decode cX3_weighSet 29 = .ok (.iload 5, 2) := by decide +kernel
theorem dX3_weighSet_31 : decode cX3_weighSet 31 = .ok (.invokevirtual 39, 3) := by decide +kernel
theorem dX3_weighSet_34 : decode cX3_weighSet 34 = .ok (.istore 6, 2) := by decide +kernel
theorem dX3_weighSet_36 : decode cX3_weighSet 36 = .ok (.iload 6, 2) := by decide +kernel
theorem dX3_weighSet_38 : decode cX3_weighSet 38 = .ok (.iload_n 3, 1) := by decide +kernel
theorem dX3_weighSet_39 : decode cX3_weighSet 39 = .ok (.if_icmp .ge 9, 3) := by decide +kernel
theorem dX3_weighSet_42 : decode cX3_weighSet 42 = .ok (.iload 6, 2) := by decide +kernel
theorem dX3_weighSet_44 : decode cX3_weighSet 44 = .ok (.istore_n 3, 1) := by decide +kernel
theorem dX3_weighSet_45 : decode cX3_weighSet 45 = .ok (.iconst 0, 1) := by decide +kernel
theorem dX3_weighSet_46 : decode cX3_weighSet 46 = .ok (.istore 4, 2) := by decide +kernel
theorem dX3_weighSet_48 : decode cX3_weighSet 48 = .ok (.iload 6, 2) := by decide +kernel
theorem dX3_weighSet_50 : decode cX3_weighSet 50 = .ok (.iload_n 3, 1) := by decide +kernel
theorem dX3_weighSet_51 : decode cX3_weighSet 51 = .ok (.if_icmp .ne 19, 3) := by decide +kernel
theorem dX3_weighSet_54 : decode cX3_weighSet 54 = .ok (.iload 4, 2) := by decide +kernel
theorem dX3_weighSet_56 : decode cX3_weighSet 56 = .ok (.aload_n 0, 1) := by decide +kernel
theorem dX3_weighSet_57 : decode cX3_weighSet 57 = .ok (.getfield 15, 3) := by decide +kernel
theorem dX3_weighSet_60 : decode cX3_weighSet 60 = .ok (.iload_n 2, 1) := by decide +kernel
theorem dX3_weighSet_61 : decode cX3_weighSet 61 = .ok (.iconst 1, 1) := by decide +kernel
theorem dX3_weighSet_62 : decode cX3_weighSet 62 = .ok (.iload 5, 2) := by decide +kernel
theorem dX3_weighSet_64 : decode cX3_weighSet 64 = .ok (.ishl, 1) := by decide +kernel
theorem dX3_weighSet_65 : decode cX3_weighSet 65 = .ok (.ior, 1) := by decide +kernel
theorem dX3_weighSet_66 : decode cX3_weighSet 66 = .ok (.iaload, 1) := by decide +kernel
theorem dX3_weighSet_67 : decode cX3_weighSet 67 = .ok (.iadd, 1) := by decide +kernel
theorem dX3_weighSet_68 : decode cX3_weighSet 68 = .ok (.istore 4, 2) := by decide +kernel
theorem dX3_weighSet_70 : decode cX3_weighSet 70 = .ok (.iinc 5 1, 3) := by decide +kernel
theorem dX3_weighSet_73 : decode cX3_weighSet 73 = .ok (.goto (-64), 3) := by decide +kernel
theorem dX3_weighSet_76 : decode cX3_weighSet 76 = .ok (.aload_n 0, 1) := by decide +kernel
theorem dX3_weighSet_77 : decode cX3_weighSet 77 = .ok (.getfield 9, 3) := by decide +kernel
theorem dX3_weighSet_80 : decode cX3_weighSet 80 = .ok (.iload_n 2, 1) := by decide +kernel
theorem dX3_weighSet_81 : decode cX3_weighSet 81 = .ok (.iload_n 3, 1) := by decide +kernel
theorem dX3_weighSet_82 : decode cX3_weighSet 82 = .ok (.iastore, 1) := by decide +kernel
theorem dX3_weighSet_83 : decode cX3_weighSet 83 = .ok (.aload_n 0, 1) := by decide +kernel
theorem dX3_weighSet_84 : decode cX3_weighSet 84 = .ok (.getfield 15, 3) := by decide +kernel
theorem dX3_weighSet_87 : decode cX3_weighSet 87 = .ok (.iload_n 2, 1) := by decide +kernel
theorem dX3_weighSet_88 : decode cX3_weighSet 88 = .ok (.iload 4, 2) := by decide +kernel
theorem dX3_weighSet_90 : decode cX3_weighSet 90 = .ok (.iastore, 1) := by decide +kernel
theorem dX3_weighSet_91 : decode cX3_weighSet 91 = .ok (.return_, 1) := by decide +kernel
theorem dX3_isLeft_0 : decode cX3_isLeft 0 = .ok (.aload_n 0, 1) := by decide +kernel
theorem dX3_isLeft_1 : decode cX3_isLeft 1 = .ok (.iload_n 2, 1) := by decide +kernel
theorem dX3_isLeft_2 : decode cX3_isLeft 2 = .ok (.invokevirtual 43, 3) := by decide +kernel
theorem dX3_isLeft_5 : decode cX3_isLeft 5 = .ok (.ifCond .eq 15, 3) := by decide +kernel
theorem dX3_isLeft_8 : decode cX3_isLeft 8 = .ok (.iload_n 1, 1) := by decide +kernel
theorem dX3_isLeft_9 : decode cX3_isLeft 9 = .ok (.iload_n 2, 1) := by decide +kernel
theorem dX3_isLeft_10 : decode cX3_isLeft 10 = .ok (.ishr, 1) := by decide +kernel
theorem dX3_isLeft_11 : decode cX3_isLeft 11 = .ok (.iconst 1, 1) := by decide +kernel
theorem dX3_isLeft_12 : decode cX3_isLeft 12 = .ok (.iand, 1) := by decide +kernel
theorem dX3_isLeft_13 : decode cX3_isLeft 13 = .ok (.ifCond .ne 7, 3) := by decide +kernel
theorem dX3_isLeft_16 : decode cX3_isLeft 16 = .ok (.iconst 1, 1) := by decide +kernel
theorem dX3_isLeft_17 : decode cX3_isLeft 17 = .ok (.goto 4, 3) := by decide +kernel
theorem dX3_isLeft_20 : decode cX3_isLeft 20 = .ok (.iconst 0, 1) := by decide +kernel
theorem dX3_isLeft_21 : decode cX3_isLeft 21 = .ok (.ireturn, 1) := by decide +kernel
theorem dX3_slipsWith_0 : decode cX3_slipsWith 0 = .ok (.iload_n 2, 1) := by decide +kernel
theorem dX3_slipsWith_1 : decode cX3_slipsWith 1 = .ok (.invokestatic 47, 3) := by decide +kernel
theorem dX3_slipsWith_4 : decode cX3_slipsWith 4 = .ok (.istore 4, 2) := by decide +kernel
theorem dX3_slipsWith_6 : decode cX3_slipsWith 6 = .ok (.aload_n 0, 1) := by decide +kernel
theorem dX3_slipsWith_7 : decode cX3_slipsWith 7 = .ok (.getfield 18, 3) := by decide +kernel
theorem dX3_slipsWith_10 : decode cX3_slipsWith 10 = .ok (.iload 4, 2) := by decide +kernel
theorem dX3_slipsWith_12 : decode cX3_slipsWith 12 = .ok (.iaload, 1) := by decide +kernel
theorem dX3_slipsWith_13 : decode cX3_slipsWith 13 = .ok (.aload_n 1, 1) := by decide +kernel
theorem dX3_slipsWith_14 : decode cX3_slipsWith 14 = .ok (.getfield 53, 3) := by decide +kernel
theorem dX3_slipsWith_17 : decode cX3_slipsWith 17 = .ok (.iload_n 3, 1) := by decide +kernel
theorem dX3_slipsWith_18 : decode cX3_slipsWith 18 = .ok (.iaload, 1) := by decide +kernel
theorem dX3_slipsWith_19 : decode cX3_slipsWith 19 = .ok (.isub, 1) := by decide +kernel
theorem dX3_slipsWith_20 : decode cX3_slipsWith 20 = .ok (.invokestatic 56, 3) := by decide +kernel
theorem dX3_slipsWith_23 : decode cX3_slipsWith 23 = .ok (.aload_n 0, 1) := by decide +kernel
theorem dX3_slipsWith_24 : decode cX3_slipsWith 24 = .ok (.getfield 9, 3) := by decide +kernel
theorem dX3_slipsWith_27 : decode cX3_slipsWith 27 = .ok (.iload_n 2, 1) := by decide +kernel
theorem dX3_slipsWith_28 : decode cX3_slipsWith 28 = .ok (.iconst 1, 1) := by decide +kernel
theorem dX3_slipsWith_29 : decode cX3_slipsWith 29 = .ok (.iload_n 3, 1) := by decide +kernel
theorem dX3_slipsWith_30 : decode cX3_slipsWith 30 = .ok (.ishl, 1) := by decide +kernel
theorem dX3_slipsWith_31 : decode cX3_slipsWith 31 = .ok (.ior, 1) := by decide +kernel
theorem dX3_slipsWith_32 : decode cX3_slipsWith 32 = .ok (.iaload, 1) := by decide +kernel
theorem dX3_slipsWith_33 : decode cX3_slipsWith 33 = .ok (.iadd, 1) := by decide +kernel
theorem dX3_slipsWith_34 : decode cX3_slipsWith 34 = .ok (.ireturn, 1) := by decide +kernel
theorem dX3_writerOf_0 : decode cX3_writerOf 0 = .ok (.iconst 0, 1) := by decide +kernel
theorem dX3_writerOf_1 : decode cX3_writerOf 1 = .ok (.istore_n 3, 1) := by decide +kernel
theorem dX3_writerOf_2 : decode cX3_writerOf 2 = .ok (.bipush (-6), 2) := by decide +kernel
theorem dX3_writerOf_4 : decode cX3_writerOf 4 = .ok (.istore 4, 2) := by decide +kernel
theorem dX3_writerOf_6 : decode cX3_writerOf 6 = .ok (.iconst 0, 1) := by decide +kernel
theorem dX3_writerOf_7 : decode cX3_writerOf 7 = .ok (.istore 5, 2) := by decide +kernel
theorem dX3_writerOf_9 : decode cX3_writerOf 9 = .ok (.iload 5, 2) := by decide +kernel
theorem dX3_writerOf_11 : decode cX3_writerOf 11 = .ok (.iload_n 2, 1) := by decide +kernel
theorem dX3_writerOf_12 : decode cX3_writerOf 12 = .ok (.if_icmp .gt 34, 3) := by decide +kernel
theorem dX3_writerOf_15 : decode cX3_writerOf 15 = .ok (.aload_n 0, 1) := by decide +kernel
theorem dX3_writerOf_16 : decode cX3_writerOf 16 = .ok (.aload_n 1, 1) := by decide +kernel
theorem dX3_writerOf_17 : decode cX3_writerOf 17 = .ok (.iload_n 3, 1) := by decide +kernel
theorem dX3_writerOf_18 : decode cX3_writerOf 18 = .ok (.invokevirtual 61, 3) := by decide +kernel
theorem dX3_writerOf_21 : decode cX3_writerOf 21 = .ok (.istore 4, 2) := by decide +kernel
theorem dX3_writerOf_23 : decode cX3_writerOf 23 = .ok (.iload 4, 2) := by decide +kernel
theorem dX3_writerOf_25 : decode cX3_writerOf 25 = .ok (.bipush (-6), 2) := by decide +kernel
theorem dX3_writerOf_27 : decode cX3_writerOf 27 = .ok (.if_icmp .ne 6, 3) := by decide +kernel
theorem dX3_writerOf_30 : decode cX3_writerOf 30 = .ok (.bipush (-6), 2) := by decide +kernel
theorem dX3_writerOf_32 : decode cX3_writerOf 32 = .ok (.ireturn, 1) := by decide +kernel
theorem dX3_writerOf_33 : decode cX3_writerOf 33 = .ok (.iload_n 3, 1) := by decide +kernel
theorem dX3_writerOf_34 : decode cX3_writerOf 34 = .ok (.iconst 1, 1) := by decide +kernel
theorem dX3_writerOf_35 : decode cX3_writerOf 35 = .ok (.iload 4, 2) := by decide +kernel
theorem dX3_writerOf_37 : decode cX3_writerOf 37 = .ok (.ishl, 1) := by decide +kernel
theorem dX3_writerOf_38 : decode cX3_writerOf 38 = .ok (.ior, 1) := by decide +kernel
theorem dX3_writerOf_39 : decode cX3_writerOf 39 = .ok (.istore_n 3, 1) := by decide +kernel
theorem dX3_writerOf_40 : decode cX3_writerOf 40 = .ok (.iinc 5 1, 3) := by decide +kernel
theorem dX3_writerOf_43 : decode cX3_writerOf 43 = .ok (.goto (-34), 3) := by decide +kernel
theorem dX3_writerOf_46 : decode cX3_writerOf 46 = .ok (.iload 4, 2) := by decide +kernel
theorem dX3_writerOf_48 : decode cX3_writerOf 48 = .ok (.ireturn, 1) := by decide +kernel
theorem dX3_firstWriter_0 : decode cX3_firstWriter 0 = .ok (.iconst 0, 1) := by decide +kernel
theorem dX3_firstWriter_1 : decode cX3_firstWriter 1 = .ok (.istore_n 3, 1) := by decide +kernel
theorem dX3_firstWriter_2 : decode cX3_firstWriter 2 = .ok (.iload_n 3, 1) := by decide +kernel
theorem dX3_firstWriter_3 : decode cX3_firstWriter 3 = .ok (.bipush 6, 2) := by decide +kernel
theorem dX3_firstWriter_5 : decode cX3_firstWriter 5 = .ok (.if_icmp .ge 36, 3) := by decide +kernel
theorem dX3_firstWriter_8 : decode cX3_firstWriter 8 = .ok (.aload_n 1, 1) := by decide +kernel
theorem dX3_firstWriter_9 : decode cX3_firstWriter 9 = .ok (.iload_n 2, 1) := by decide +kernel
theorem dX3_firstWriter_10 : decode cX3_firstWriter 10 = .ok (.iload_n 3, 1) := by decide +kernel
theorem dX3_firstWriter_11 : decode cX3_firstWriter 11 = .ok (.invokestatic 35, 3) := by decide +kernel
theorem dX3_firstWriter_14 : decode cX3_firstWriter 14 = .ok (.ifCond .eq 21, 3) := by decide +kernel
theorem dX3_firstWriter_17 : decode cX3_firstWriter 17 = .ok (.aload_n 0, 1) := by decide +kernel
theorem dX3_firstWriter_18 : decode cX3_firstWriter 18 = .ok (.aload_n 1, 1) := by decide +kernel
theorem dX3_firstWriter_19 : decode cX3_firstWriter 19 = .ok (.iload_n 2, 1) := by decide +kernel
theorem dX3_firstWriter_20 : decode cX3_firstWriter 20 = .ok (.iload_n 3, 1) := by decide +kernel
theorem dX3_firstWriter_21 : decode cX3_firstWriter 21 = .ok (.invokevirtual 39, 3) := by decide +kernel
theorem dX3_firstWriter_24 : decode cX3_firstWriter 24 = .ok (.aload_n 0, 1) := by decide +kernel
theorem dX3_firstWriter_25 : decode cX3_firstWriter 25 = .ok (.getfield 9, 3) := by decide +kernel
theorem dX3_firstWriter_28 : decode cX3_firstWriter 28 = .ok (.iload_n 2, 1) := by decide +kernel
theorem dX3_firstWriter_29 : decode cX3_firstWriter 29 = .ok (.iaload, 1) := by decide +kernel
theorem dX3_firstWriter_30 : decode cX3_firstWriter 30 = .ok (.if_icmp .ne 5, 3) := by decide +kernel
theorem dX3_firstWriter_33 : decode cX3_firstWriter 33 = .ok (.iload_n 3, 1) := by decide +kernel
theorem dX3_firstWriter_34 : decode cX3_firstWriter 34 = .ok (.ireturn, 1) := by decide +kernel
theorem dX3_firstWriter_35 : decode cX3_firstWriter 35 = .ok (.iinc 3 1, 3) := by decide +kernel
theorem dX3_firstWriter_38 : decode cX3_firstWriter 38 = .ok (.goto (-36), 3) := by decide +kernel
theorem dX3_firstWriter_41 : decode cX3_firstWriter 41 = .ok (.bipush (-6), 2) := by decide +kernel
theorem dX3_firstWriter_43 : decode cX3_firstWriter 43 = .ok (.ireturn, 1) := by decide +kernel
theorem dX4_init_0 : decode cX4_init 0 = .ok (.aload_n 0, 1) := by decide +kernel
theorem dX4_init_1 : decode cX4_init 1 = .ok (.invokespecial 3, 3) := by decide +kernel
theorem dX4_init_4 : decode cX4_init 4 = .ok (.aload_n 0, 1) := by decide +kernel
theorem dX4_init_5 : decode cX4_init 5 = .ok (.bipush 64, 2) := by decide +kernel
theorem dX4_init_7 : decode cX4_init 7 = .ok (.newarray .int, 2) := by decide +kernel
theorem dX4_init_9 : decode cX4_init 9 = .ok (.putfield 9, 3) := by decide +kernel
theorem dX4_init_12 : decode cX4_init 12 = .ok (.aload_n 0, 1) := by decide +kernel
theorem dX4_init_13 : decode cX4_init 13 = .ok (.bipush 64, 2) := by decide +kernel
theorem dX4_init_15 : decode cX4_init 15 = .ok (.newarray .int, 2) := by decide +kernel
theorem dX4_init_17 : decode cX4_init 17 = .ok (.putfield 15, 3) := by decide +kernel
theorem dX4_init_20 : decode cX4_init 20 = .ok (.return_, 1) := by decide +kernel
theorem dX4_fewestHands_0 : decode cX4_fewestHands 0 = .ok (.iconst 1, 1) := by decide +kernel
theorem dX4_fewestHands_1 : decode cX4_fewestHands 1 = .ok (.istore_n 2, 1) := by decide +kernel
theorem dX4_fewestHands_2 : decode cX4_fewestHands 2 = .ok (.iload_n 2, 1) := by decide +kernel
theorem dX4_fewestHands_3 : decode cX4_fewestHands 3 = .ok (.bipush 64, 2) := by decide +kernel
theorem dX4_fewestHands_5 : decode cX4_fewestHands 5 = .ok (.if_icmp .ge 62, 3) := by decide +kernel
theorem dX4_fewestHands_8 : decode cX4_fewestHands 8 = .ok (.iload_n 2, 1) := by decide +kernel
theorem dX4_fewestHands_9 : decode cX4_fewestHands 9 = .ok (.invokestatic 18, 3) := by decide +kernel
theorem dX4_fewestHands_12 : decode cX4_fewestHands 12 = .ok (.istore_n 3, 1) := by decide +kernel
theorem dX4_fewestHands_13 : decode cX4_fewestHands 13 = .ok (.aload_n 0, 1) := by decide +kernel
theorem dX4_fewestHands_14 : decode cX4_fewestHands 14 = .ok (.getfield 9, 3) := by decide +kernel
theorem dX4_fewestHands_17 : decode cX4_fewestHands 17 = .ok (.iload_n 2, 1) := by decide +kernel
theorem dX4_fewestHands_18 : decode cX4_fewestHands 18 = .ok (.aload_n 0, 1) := by decide +kernel
theorem dX4_fewestHands_19 : decode cX4_fewestHands 19 = .ok (.getfield 9, 3) := by decide +kernel
theorem dX4_fewestHands_22 : decode cX4_fewestHands 22 = .ok (.iload_n 2, 1) := by decide +kernel
theorem dX4_fewestHands_23 : decode cX4_fewestHands 23 = .ok (.iload_n 2, 1) := by decide +kernel
theorem dX4_fewestHands_24 : decode cX4_fewestHands 24 = .ok (.iconst 1, 1) := by decide +kernel
theorem dX4_fewestHands_25 : decode cX4_fewestHands 25 = .ok (.isub, 1) := by decide +kernel
theorem dX4_fewestHands_26 : decode cX4_fewestHands 26 = .ok (.iand, 1) := by decide +kernel
theorem dX4_fewestHands_27 : decode cX4_fewestHands 27 = .ok (.iaload, 1) := by decide +kernel
theorem dX4_fewestHands_28 : decode cX4_fewestHands 28 = .ok (.aload_n 1, 1) := by decide +kernel
theorem dX4_fewestHands_29 : decode cX4_fewestHands 29 = .ok (.iload_n 3, 1) := by decide +kernel
theorem dX4_fewestHands_30 : decode cX4_fewestHands 30 = .ok (.invokevirtual 24, 3) := by decide +kernel
theorem dX4_fewestHands_33 : decode cX4_fewestHands 33 = .ok (.iadd, 1) := by decide +kernel
theorem dX4_fewestHands_34 : decode cX4_fewestHands 34 = .ok (.iastore, 1) := by decide +kernel
theorem dX4_fewestHands_35 : decode cX4_fewestHands 35 = .ok (.aload_n 0, 1) := by decide +kernel
theorem dX4_fewestHands_36 : decode cX4_fewestHands 36 = .ok (.getfield 15, 3) := by decide +kernel
theorem dX4_fewestHands_39 : decode cX4_fewestHands 39 = .ok (.iload_n 2, 1) := by decide +kernel
theorem dX4_fewestHands_40 : decode cX4_fewestHands 40 = .ok (.aload_n 0, 1) := by decide +kernel
theorem dX4_fewestHands_41 : decode cX4_fewestHands 41 = .ok (.iload_n 2, 1) := by decide +kernel
theorem dX4_fewestHands_42 : decode cX4_fewestHands 42 = .ok (.invokevirtual 29, 3) := by decide +kernel
theorem dX4_fewestHands_45 : decode cX4_fewestHands 45 = .ok (.aload_n 0, 1) := by decide +kernel
theorem dX4_fewestHands_46 : decode cX4_fewestHands 46 = .ok (.getfield 9, 3) := by decide +kernel
theorem dX4_fewestHands_49 : decode cX4_fewestHands 49 = .ok (.iload_n 2, 1) := by decide +kernel
theorem dX4_fewestHands_50 : decode cX4_fewestHands 50 = .ok (.iaload, 1) := by decide +kernel
theorem dX4_fewestHands_51 : decode cX4_fewestHands 51 = .ok (.ifCond .ne 7, 3) := by decide +kernel
theorem dX4_fewestHands_54 : decode cX4_fewestHands 54 = .ok (.iconst 1, 1) := by decide +kernel
theorem dX4_fewestHands_55 : decode cX4_fewestHands 55 = .ok (.goto 4, 3) := by decide +kernel
theorem dX4_fewestHands_58 : decode cX4_fewestHands 58 = .ok (.iconst 0, 1) := by decide +kernel
theorem dX4_fewestHands_59 : decode cX4_fewestHands 59 = .ok (.iadd, 1) := by decide +kernel
theorem dX4_fewestHands_60 : decode cX4_fewestHands 60 = .ok (.iastore, 1) := by decide +kernel
theorem dX4_fewestHands_61 : decode cX4_fewestHands 61 = .ok (.iinc 2 1, 3) := by decide +kernel
theorem dX4_fewestHands_64 : decode cX4_fewestHands 64 = .ok (.goto (-62), 3) := by decide +kernel
theorem dX4_fewestHands_67 : decode cX4_fewestHands 67 = .ok (.bipush 6, 2) := by decide +kernel
theorem dX4_fewestHands_69 : decode cX4_fewestHands 69 = .ok (.aload_n 0, 1) := by decide +kernel
theorem dX4_fewestHands_70 : decode cX4_fewestHands 70 = .ok (.getfield 15, 3) := by decide +kernel
theorem dX4_fewestHands_73 : decode cX4_fewestHands 73 = .ok (.bipush 63, 2) := by decide +kernel
theorem dX4_fewestHands_75 : decode cX4_fewestHands 75 = .ok (.iaload, 1) := by decide +kernel
theorem dX4_fewestHands_76 : decode cX4_fewestHands 76 = .ok (.isub, 1) := by decide +kernel
theorem dX4_fewestHands_77 : decode cX4_fewestHands 77 = .ok (.ireturn, 1) := by decide +kernel
theorem dX4_mostCirclesInside_0 : decode cX4_mostCirclesInside 0 = .ok (.iconst 0, 1) := by decide +kernel
theorem dX4_mostCirclesInside_1 : decode cX4_mostCirclesInside 1 = .ok (.istore_n 2, 1) := by decide +kernel
theorem dX4_mostCirclesInside_2 : decode cX4_mostCirclesInside 2 = .ok (.iconst 0, 1) := by decide +kernel
theorem dX4_mostCirclesInside_3 : decode cX4_mostCirclesInside 3 = .ok (.istore_n 3, 1) := by decide +kernel
theorem dX4_mostCirclesInside_4 : decode cX4_mostCirclesInside 4 = .ok (.iload_n 3, 1) := by decide +kernel
theorem dX4_mostCirclesInside_5 : decode cX4_mostCirclesInside 5 = .ok (.bipush 6, 2) := by decide +kernel
theorem dX4_mostCirclesInside_7 : decode cX4_mostCirclesInside 7 = .ok (.if_icmp .ge 33, 3) := by decide +kernel
theorem dX4_mostCirclesInside_10 : decode cX4_mostCirclesInside 10 = .ok (.iload_n 1, 1) := by decide +kernel
theorem dX4_mostCirclesInside_11 : decode cX4_mostCirclesInside 11 = .ok (.iload_n 3, 1) := by decide +kernel
theorem dX4_mostCirclesInside_12 : decode cX4_mostCirclesInside 12 = .ok (.ishr, 1) := by decide +kernel
theorem dX4_mostCirclesInside_13 : decode cX4_mostCirclesInside 13 = .ok (.iconst 1, 1) := by decide +kernel
theorem dX4_mostCirclesInside_14 : decode cX4_mostCirclesInside 14 = .ok (.iand, 1) := by decide +kernel
theorem dX4_mostCirclesInside_15 : decode cX4_mostCirclesInside 15 = .ok (.iconst 1, 1) := by decide +kernel
theorem dX4_mostCirclesInside_16 : decode cX4_mostCirclesInside 16 = .ok (.if_icmp .ne 18, 3) := by decide +kernel
theorem dX4_mostCirclesInside_19 : decode cX4_mostCirclesInside 19 = .ok (.iload_n 2, 1) := by decide +kernel
theorem dX4_mostCirclesInside_20 : decode cX4_mostCirclesInside 20 = .ok (.aload_n 0, 1) := by decide +kernel
theorem dX4_mostCirclesInside_21 : decode cX4_mostCirclesInside 21 = .ok (.getfield 15, 3) := by decide +kernel
theorem dX4_mostCirclesInside_24 : decode cX4_mostCirclesInside 24 = .ok (.iload_n 1, 1) := by decide +kernel
theorem dX4_mostCirclesInside_25 : decode cX4_mostCirclesInside 25 = .ok (.iconst 1, 1) := by decide +kernel
theorem dX4_mostCirclesInside_26 : decode cX4_mostCirclesInside 26 = .ok (.iload_n 3, 1) := by decide +kernel
theorem dX4_mostCirclesInside_27 : decode cX4_mostCirclesInside 27 = .ok (.ishl, 1) := by decide +kernel
theorem dX4_mostCirclesInside_28 : decode cX4_mostCirclesInside 28 = .ok (.ixor, 1) := by decide +kernel
theorem dX4_mostCirclesInside_29 : decode cX4_mostCirclesInside 29 = .ok (.iaload, 1) := by decide +kernel
theorem dX4_mostCirclesInside_30 : decode cX4_mostCirclesInside 30 = .ok (.invokestatic 32, 3) := by decide +kernel
theorem dX4_mostCirclesInside_33 : decode cX4_mostCirclesInside 33 = .ok (.istore_n 2, 1) := by decide +kernel
theorem dX4_mostCirclesInside_34 : decode cX4_mostCirclesInside 34 = .ok (.iinc 3 1, 3) := by decide +kernel
theorem dX4_mostCirclesInside_37 : decode cX4_mostCirclesInside 37 = .ok (.goto (-33), 3) := by decide +kernel
theorem dX4_mostCirclesInside_40 : decode cX4_mostCirclesInside 40 = .ok (.iload_n 2, 1) := by decide +kernel
theorem dX4_mostCirclesInside_41 : decode cX4_mostCirclesInside 41 = .ok (.ireturn, 1) := by decide +kernel
theorem dX5_init_0 : decode cX5_init 0 = .ok (.aload_n 0, 1) := by decide +kernel
theorem dX5_init_1 : decode cX5_init 1 = .ok (.invokespecial 3, 3) := by decide +kernel
theorem dX5_init_4 : decode cX5_init 4 = .ok (.aload_n 0, 1) := by decide +kernel
theorem dX5_init_5 : decode cX5_init 5 = .ok (.bipush 60, 2) := by decide +kernel
theorem dX5_init_7 : decode cX5_init 7 = .ok (.newarray .int, 2) := by decide +kernel
theorem dX5_init_9 : decode cX5_init 9 = .ok (.putfield 9, 3) := by decide +kernel
theorem dX5_init_12 : decode cX5_init 12 = .ok (.return_, 1) := by decide +kernel
theorem dX5_add_0 : decode cX5_add 0 = .ok (.aload_n 0, 1) := by decide +kernel
theorem dX5_add_1 : decode cX5_add 1 = .ok (.getfield 9, 3) := by decide +kernel
theorem dX5_add_4 : decode cX5_add 4 = .ok (.aload_n 0, 1) := by decide +kernel
theorem dX5_add_5 : decode cX5_add 5 = .ok (.getfield 15, 3) := by decide +kernel
theorem dX5_add_8 : decode cX5_add 8 = .ok (.iload_n 1, 1) := by decide +kernel
theorem dX5_add_9 : decode cX5_add 9 = .ok (.iastore, 1) := by decide +kernel
theorem dX5_add_10 : decode cX5_add 10 = .ok (.aload_n 0, 1) := by decide +kernel
theorem dX5_add_11 : decode cX5_add 11 = .ok (.dup, 1) := by decide +kernel
theorem dX5_add_12 : decode cX5_add 12 = .ok (.getfield 15, 3) := by decide +kernel
theorem dX5_add_15 : decode cX5_add 15 = .ok (.iconst 1, 1) := by decide +kernel
theorem dX5_add_16 : decode cX5_add 16 = .ok (.iadd, 1) := by decide +kernel
theorem dX5_add_17 : decode cX5_add 17 = .ok (.putfield 15, 3) := by decide +kernel
theorem dX5_add_20 : decode cX5_add 20 = .ok (.return_, 1) := by decide +kernel
theorem dX5_signAt_0 : decode cX5_signAt 0 = .ok (.iload_n 1, 1) := by decide +kernel
theorem dX5_signAt_1 : decode cX5_signAt 1 = .ok (.ifCond .lt 20, 3) := by decide +kernel
theorem dX5_signAt_4 : decode cX5_signAt 4 = .ok (.iload_n 1, 1) := by decide +kernel
theorem dX5_signAt_5 : decode cX5_signAt 5 = .ok (.aload_n 0, 1) := by decide +kernel
theorem dX5_signAt_6 : decode cX5_signAt 6 = .ok (.getfield 15, 3) := by decide +kernel
theorem dX5_signAt_9 : decode cX5_signAt 9 = .ok (.if_icmp .ge 12, 3) := by decide +kernel
theorem dX5_signAt_12 : decode cX5_signAt 12 = .ok (.aload_n 0, 1) := by decide +kernel
theorem dX5_signAt_13 : decode cX5_signAt 13 = .ok (.getfield 9, 3) := by decide +kernel
theorem dX5_signAt_16 : decode cX5_signAt 16 = .ok (.iload_n 1, 1) := by decide +kernel
theorem dX5_signAt_17 : decode cX5_signAt 17 = .ok (.iaload, 1) := by decide +kernel
theorem dX5_signAt_18 : decode cX5_signAt 18 = .ok (.goto 4, 3) := by decide +kernel
theorem dX5_signAt_21 : decode cX5_signAt 21 = .ok (.iconst 0, 1) := by decide +kernel
theorem dX5_signAt_22 : decode cX5_signAt 22 = .ok (.ireturn, 1) := by decide +kernel
theorem dX5_firstFault_0 : decode cX5_firstFault 0 = .ok (.iconst 0, 1) := by decide +kernel
theorem dX5_firstFault_1 : decode cX5_firstFault 1 = .ok (.istore_n 1, 1) := by decide +kernel
theorem dX5_firstFault_2 : decode cX5_firstFault 2 = .ok (.iconst 0, 1) := by decide +kernel
theorem dX5_firstFault_3 : decode cX5_firstFault 3 = .ok (.istore_n 2, 1) := by decide +kernel
theorem dX5_firstFault_4 : decode cX5_firstFault 4 = .ok (.iload_n 2, 1) := by decide +kernel
theorem dX5_firstFault_5 : decode cX5_firstFault 5 = .ok (.aload_n 0, 1) := by decide +kernel
theorem dX5_firstFault_6 : decode cX5_firstFault 6 = .ok (.getfield 15, 3) := by decide +kernel
theorem dX5_firstFault_9 : decode cX5_firstFault 9 = .ok (.if_icmp .ge 27, 3) := by decide +kernel
theorem dX5_firstFault_12 : decode cX5_firstFault 12 = .ok (.iload_n 1, 1) := by decide +kernel
theorem dX5_firstFault_13 : decode cX5_firstFault 13 = .ok (.aload_n 0, 1) := by decide +kernel
theorem dX5_firstFault_14 : decode cX5_firstFault 14 = .ok (.getfield 9, 3) := by decide +kernel
theorem dX5_firstFault_17 : decode cX5_firstFault 17 = .ok (.iload_n 2, 1) := by decide +kernel
theorem dX5_firstFault_18 : decode cX5_firstFault 18 = .ok (.iaload, 1) := by decide +kernel
theorem dX5_firstFault_19 : decode cX5_firstFault 19 = .ok (.invokestatic 19, 3) := by decide +kernel
theorem dX5_firstFault_22 : decode cX5_firstFault 22 = .ok (.istore_n 1, 1) := by decide +kernel
theorem dX5_firstFault_23 : decode cX5_firstFault 23 = .ok (.iload_n 1, 1) := by decide +kernel
theorem dX5_firstFault_24 : decode cX5_firstFault 24 = .ok (.iconst (-1), 1) := by decide +kernel
theorem dX5_firstFault_25 : decode cX5_firstFault 25 = .ok (.if_icmp .ne 5, 3) := by decide +kernel
theorem dX5_firstFault_28 : decode cX5_firstFault 28 = .ok (.iload_n 2, 1) := by decide +kernel
theorem dX5_firstFault_29 : decode cX5_firstFault 29 = .ok (.ireturn, 1) := by decide +kernel
theorem dX5_firstFault_30 : decode cX5_firstFault 30 = .ok (.iinc 2 1, 3) := by decide +kernel
theorem dX5_firstFault_33 : decode cX5_firstFault 33 = .ok (.goto (-29), 3) := by decide +kernel
theorem dX5_firstFault_36 : decode cX5_firstFault 36 = .ok (.iload_n 1, 1) := by decide +kernel
theorem dX5_firstFault_37 : decode cX5_firstFault 37 = .ok (.ifCond .ne 8, 3) := by decide +kernel
theorem dX5_firstFault_40 : decode cX5_firstFault 40 = .ok (.bipush (-6), 2) := by decide +kernel
theorem dX5_firstFault_42 : decode cX5_firstFault 42 = .ok (.goto 7, 3) := by decide +kernel
theorem dX5_firstFault_45 : decode cX5_firstFault 45 = .ok (.aload_n 0, 1) := by decide +kernel
theorem dX5_firstFault_46 : decode cX5_firstFault 46 = .ok (.getfield 15, 3) := by decide +kernel
theorem dX5_firstFault_49 : decode cX5_firstFault 49 = .ok (.ireturn, 1) := by decide +kernel
theorem dX5_awaitedBehind_0 : decode cX5_awaitedBehind 0 = .ok (.iload_n 0, 1) := by decide +kernel
theorem dX5_awaitedBehind_1 : decode cX5_awaitedBehind 1 = .ok (.tableswitch 85 0 3 #[31, 54, 59, 72], 31) := by decide +kernel
theorem dX5_awaitedBehind_32 : decode cX5_awaitedBehind 32 = .ok (.iload_n 1, 1) := by decide +kernel
theorem dX5_awaitedBehind_33 : decode cX5_awaitedBehind 33 = .ok (.bipush 46, 2) := by decide +kernel
theorem dX5_awaitedBehind_35 : decode cX5_awaitedBehind 35 = .ok (.if_icmp .ne 7, 3) := by decide +kernel
theorem dX5_awaitedBehind_38 : decode cX5_awaitedBehind 38 = .ok (.iconst 0, 1) := by decide +kernel
theorem dX5_awaitedBehind_39 : decode cX5_awaitedBehind 39 = .ok (.goto 15, 3) := by decide +kernel
theorem dX5_awaitedBehind_42 : decode cX5_awaitedBehind 42 = .ok (.iload_n 1, 1) := by decide +kernel
theorem dX5_awaitedBehind_43 : decode cX5_awaitedBehind 43 = .ok (.invokestatic 23, 3) := by decide +kernel
theorem dX5_awaitedBehind_46 : decode cX5_awaitedBehind 46 = .ok (.ifCond .eq 7, 3) := by decide +kernel
theorem dX5_awaitedBehind_49 : decode cX5_awaitedBehind 49 = .ok (.iconst 1, 1) := by decide +kernel
theorem dX5_awaitedBehind_50 : decode cX5_awaitedBehind 50 = .ok (.goto 4, 3) := by decide +kernel
theorem dX5_awaitedBehind_53 : decode cX5_awaitedBehind 53 = .ok (.iconst (-1), 1) := by decide +kernel
theorem dX5_awaitedBehind_54 : decode cX5_awaitedBehind 54 = .ok (.ireturn, 1) := by decide +kernel
theorem dX5_awaitedBehind_55 : decode cX5_awaitedBehind 55 = .ok (.iload_n 1, 1) := by decide +kernel
theorem dX5_awaitedBehind_56 : decode cX5_awaitedBehind 56 = .ok (.invokestatic 27, 3) := by decide +kernel
theorem dX5_awaitedBehind_59 : decode cX5_awaitedBehind 59 = .ok (.ireturn, 1) := by decide +kernel
theorem dX5_awaitedBehind_60 : decode cX5_awaitedBehind 60 = .ok (.iload_n 1, 1) := by decide +kernel
theorem dX5_awaitedBehind_61 : decode cX5_awaitedBehind 61 = .ok (.invokestatic 31, 3) := by decide +kernel
theorem dX5_awaitedBehind_64 : decode cX5_awaitedBehind 64 = .ok (.ifCond .eq 7, 3) := by decide +kernel
theorem dX5_awaitedBehind_67 : decode cX5_awaitedBehind 67 = .ok (.iconst 0, 1) := by decide +kernel
theorem dX5_awaitedBehind_68 : decode cX5_awaitedBehind 68 = .ok (.goto 4, 3) := by decide +kernel
theorem dX5_awaitedBehind_71 : decode cX5_awaitedBehind 71 = .ok (.iconst (-1), 1) := by decide +kernel
theorem dX5_awaitedBehind_72 : decode cX5_awaitedBehind 72 = .ok (.ireturn, 1) := by decide +kernel
theorem dX5_awaitedBehind_73 : decode cX5_awaitedBehind 73 = .ok (.iload_n 1, 1) := by decide +kernel
theorem dX5_awaitedBehind_74 : decode cX5_awaitedBehind 74 = .ok (.invokestatic 31, 3) := by decide +kernel
theorem dX5_awaitedBehind_77 : decode cX5_awaitedBehind 77 = .ok (.ifCond .eq 7, 3) := by decide +kernel
theorem dX5_awaitedBehind_80 : decode cX5_awaitedBehind 80 = .ok (.iconst 4, 1) := by decide +kernel
theorem dX5_awaitedBehind_81 : decode cX5_awaitedBehind 81 = .ok (.goto 4, 3) := by decide +kernel
theorem dX5_awaitedBehind_84 : decode cX5_awaitedBehind 84 = .ok (.iconst (-1), 1) := by decide +kernel
theorem dX5_awaitedBehind_85 : decode cX5_awaitedBehind 85 = .ok (.ireturn, 1) := by decide +kernel
theorem dX5_awaitedBehind_86 : decode cX5_awaitedBehind 86 = .ok (.iload_n 1, 1) := by decide +kernel
theorem dX5_awaitedBehind_87 : decode cX5_awaitedBehind 87 = .ok (.invokestatic 23, 3) := by decide +kernel
theorem dX5_awaitedBehind_90 : decode cX5_awaitedBehind 90 = .ok (.ifCond .eq 7, 3) := by decide +kernel
theorem dX5_awaitedBehind_93 : decode cX5_awaitedBehind 93 = .ok (.iconst 0, 1) := by decide +kernel
theorem dX5_awaitedBehind_94 : decode cX5_awaitedBehind 94 = .ok (.goto 4, 3) := by decide +kernel
theorem dX5_awaitedBehind_97 : decode cX5_awaitedBehind 97 = .ok (.iconst (-1), 1) := by decide +kernel
theorem dX5_awaitedBehind_98 : decode cX5_awaitedBehind 98 = .ok (.ireturn, 1) := by decide +kernel
theorem dX5_awaitedBehindDeed_0 : decode cX5_awaitedBehindDeed 0 = .ok (.iload_n 0, 1) := by decide +kernel
theorem dX5_awaitedBehindDeed_1 : decode cX5_awaitedBehindDeed 1 = .ok (.invokestatic 31, 3) := by decide +kernel
theorem dX5_awaitedBehindDeed_4 : decode cX5_awaitedBehindDeed 4 = .ok (.ifCond .ne 9, 3) := by decide +kernel
theorem dX5_awaitedBehindDeed_7 : decode cX5_awaitedBehindDeed 7 = .ok (.iload_n 0, 1) := by decide +kernel
theorem dX5_awaitedBehindDeed_8 : decode cX5_awaitedBehindDeed 8 = .ok (.bipush 42, 2) := by decide +kernel
theorem dX5_awaitedBehindDeed_10 : decode cX5_awaitedBehindDeed 10 = .ok (.if_icmp .ne 5, 3) := by decide +kernel
theorem dX5_awaitedBehindDeed_13 : decode cX5_awaitedBehindDeed 13 = .ok (.iconst 0, 1) := by decide +kernel
theorem dX5_awaitedBehindDeed_14 : decode cX5_awaitedBehindDeed 14 = .ok (.ireturn, 1) := by decide +kernel
theorem dX5_awaitedBehindDeed_15 : decode cX5_awaitedBehindDeed 15 = .ok (.iload_n 0, 1) := by decide +kernel
theorem dX5_awaitedBehindDeed_16 : decode cX5_awaitedBehindDeed 16 = .ok (.bipush 33, 2) := by decide +kernel
theorem dX5_awaitedBehindDeed_18 : decode cX5_awaitedBehindDeed 18 = .ok (.if_icmp .ne 5, 3) := by decide +kernel
theorem dX5_awaitedBehindDeed_21 : decode cX5_awaitedBehindDeed 21 = .ok (.iconst 2, 1) := by decide +kernel
theorem dX5_awaitedBehindDeed_22 : decode cX5_awaitedBehindDeed 22 = .ok (.ireturn, 1) := by decide +kernel
theorem dX5_awaitedBehindDeed_23 : decode cX5_awaitedBehindDeed 23 = .ok (.iload_n 0, 1) := by decide +kernel
theorem dX5_awaitedBehindDeed_24 : decode cX5_awaitedBehindDeed 24 = .ok (.bipush 62, 2) := by decide +kernel
theorem dX5_awaitedBehindDeed_26 : decode cX5_awaitedBehindDeed 26 = .ok (.if_icmp .eq 15, 3) := by decide +kernel
theorem dX5_awaitedBehindDeed_29 : decode cX5_awaitedBehindDeed 29 = .ok (.iload_n 0, 1) := by decide +kernel
theorem dX5_awaitedBehindDeed_30 : decode cX5_awaitedBehindDeed 30 = .ok (.bipush 61, 2) := by decide +kernel
theorem dX5_awaitedBehindDeed_32 : decode cX5_awaitedBehindDeed 32 = .ok (.if_icmp .eq 9, 3) := by decide +kernel
theorem dX5_awaitedBehindDeed_35 : decode cX5_awaitedBehindDeed 35 = .ok (.iload_n 0, 1) := by decide +kernel
theorem dX5_awaitedBehindDeed_36 : decode cX5_awaitedBehindDeed 36 = .ok (.bipush 60, 2) := by decide +kernel
theorem dX5_awaitedBehindDeed_38 : decode cX5_awaitedBehindDeed 38 = .ok (.if_icmp .ne 7, 3) := by decide +kernel
theorem dX5_awaitedBehindDeed_41 : decode cX5_awaitedBehindDeed 41 = .ok (.iconst 3, 1) := by decide +kernel
theorem dX5_awaitedBehindDeed_42 : decode cX5_awaitedBehindDeed 42 = .ok (.goto 4, 3) := by decide +kernel
theorem dX5_awaitedBehindDeed_45 : decode cX5_awaitedBehindDeed 45 = .ok (.iconst (-1), 1) := by decide +kernel
theorem dX5_awaitedBehindDeed_46 : decode cX5_awaitedBehindDeed 46 = .ok (.ireturn, 1) := by decide +kernel
theorem dX5_isLetter_0 : decode cX5_isLetter 0 = .ok (.iload_n 0, 1) := by decide +kernel
theorem dX5_isLetter_1 : decode cX5_isLetter 1 = .ok (.bipush 65, 2) := by decide +kernel
theorem dX5_isLetter_3 : decode cX5_isLetter 3 = .ok (.bipush 70, 2) := by decide +kernel
theorem dX5_isLetter_5 : decode cX5_isLetter 5 = .ok (.invokestatic 34, 3) := by decide +kernel
theorem dX5_isLetter_8 : decode cX5_isLetter 8 = .ok (.ireturn, 1) := by decide +kernel
theorem dX5_isDigit_0 : decode cX5_isDigit 0 = .ok (.iload_n 0, 1) := by decide +kernel
theorem dX5_isDigit_1 : decode cX5_isDigit 1 = .ok (.bipush 49, 2) := by decide +kernel
theorem dX5_isDigit_3 : decode cX5_isDigit 3 = .ok (.bipush 57, 2) := by decide +kernel
theorem dX5_isDigit_5 : decode cX5_isDigit 5 = .ok (.invokestatic 34, 3) := by decide +kernel
theorem dX5_isDigit_8 : decode cX5_isDigit 8 = .ok (.ireturn, 1) := by decide +kernel
theorem dX6_init_0 : decode cX6_init 0 = .ok (.aload_n 0, 1) := by decide +kernel
theorem dX6_init_1 : decode cX6_init 1 = .ok (.invokespecial 3, 3) := by decide +kernel
theorem dX6_init_4 : decode cX6_init 4 = .ok (.aload_n 0, 1) := by decide +kernel
theorem dX6_init_5 : decode cX6_init 5 = .ok (.bipush 90, 2) := by decide +kernel
theorem dX6_init_7 : decode cX6_init 7 = .ok (.newarray .long, 2) := by decide +kernel
theorem dX6_init_9 : decode cX6_init 9 = .ok (.putfield 11, 3) := by decide +kernel
theorem dX6_init_12 : decode cX6_init 12 = .ok (.aload_n 0, 1) := by decide +kernel
theorem dX6_init_13 : decode cX6_init 13 = .ok (.bipush 9, 2) := by decide +kernel
theorem dX6_init_15 : decode cX6_init 15 = .ok (.newarray .long, 2) := by decide +kernel
theorem dX6_init_17 : decode cX6_init 17 = .ok (.putfield 15, 3) := by decide +kernel
theorem dX6_init_20 : decode cX6_init 20 = .ok (.return_, 1) := by decide +kernel
end
section
theorem dX6_forgetValues_0 : decode cX6_forgetValues 0 = .ok (.aload_n 0, 1) := by decide +kernel
theorem dX6_forgetValues_1 : decode cX6_forgetValues 1 = .ok (.iconst 0, 1) := by decide +kernel
theorem dX6_forgetValues_2 : decode cX6_forgetValues 2 = .ok (.putfield 18, 3) := by decide +kernel
theorem dX6_forgetValues_5 : decode cX6_forgetValues 5 = .ok (.return_, 1) := by decide +kernel
theorem dX6_learn_0 : decode cX6_learn 0 = .ok (.aload_n 0, 1) := by decide +kernel
theorem dX6_learn_1 : decode cX6_learn 1 = .ok (.getfield 18, 3) := by decide +kernel
theorem dX6_learn_4 : decode cX6_learn 4 = .ok (.ifCond .eq 4, 3) := by decide +kernel
theorem dX6_learn_7 : decode cX6_learn 7 = .ok (.return_, 1) := by decide +kernel
theorem dX6_learn_8 : decode cX6_learn 8 = .ok (.aload_n 1, 1) := by decide +kernel
theorem dX6_learn_9 : decode cX6_learn 9 = .ok (.invokevirtual 22, 3) := by decide +kernel
theorem dX6_learn_12 : decode cX6_learn 12 = .ok (.istore_n 2, 1) := by decide +kernel
theorem dX6_learn_13 : decode cX6_learn 13 = .ok (.aload_n 0, 1) := by decide +kernel
theorem dX6_learn_14 : decode cX6_learn 14 = .ok (.getfield 15, 3) := by decide +kernel
theorem dX6_learn_17 : decode cX6_learn 17 = .ok (.iconst 0, 1) := by decide +kernel
theorem dX6_learn_18 : decode cX6_learn 18 = .ok (.lconst 1, 1) := by decide +kernel
theorem dX6_learn_19 : decode cX6_learn 19 = .ok (.lastore, 1) := by decide +kernel
theorem dX6_learn_20 : decode cX6_learn 20 = .ok (.iconst 1, 1) := by decide +kernel
theorem dX6_learn_21 : decode cX6_learn 21 = .ok (.istore_n 3, 1) := by decide +kernel
theorem dX6_learn_22 : decode cX6_learn 22 = .ok (.iload_n 3, 1) := by decide +kernel
theorem dX6_learn_23 : decode cX6_learn 23 = .ok (.bipush 8, 2) := by decide +kernel
theorem dX6_learn_25 : decode cX6_learn 25 = .ok (.if_icmp .gt 65, 3) := by decide +kernel
theorem dX6_learn_28 : decode cX6_learn 28 = .ok (.aload_n 0, 1) := by decide +kernel
theorem dX6_learn_29 : decode cX6_learn 29 = .ok (.getfield 15, 3) := by decide +kernel
theorem dX6_learn_32 : decode cX6_learn 32 = .ok (.iload_n 3, 1) := by decide +kernel
theorem dX6_learn_33 : decode cX6_learn 33 = .ok (.aload_n 0, 1) := by decide +kernel
theorem dX6_learn_34 : decode cX6_learn 34 = .ok (.getfield 15, 3) := by decide +kernel
theorem dX6_learn_37 : decode cX6_learn 37 = .ok (.iload_n 3, 1) := by decide +kernel
theorem dX6_learn_38 : decode cX6_learn 38 = .ok (.iconst 1, 1) := by decide +kernel
theorem dX6_learn_39 : decode cX6_learn 39 = .ok (.isub, 1) := by decide +kernel
theorem dX6_learn_40 : decode cX6_learn 40 = .ok (.laload, 1) := by decide +kernel
theorem dX6_learn_41 : decode cX6_learn 41 = .ok (.iload_n 2, 1) := by decide +kernel
theorem dX6_learn_42 : decode cX6_learn 42 = .ok (.i2l, 1) := by decide +kernel
theorem dX6_learn_43 : decode cX6_learn 43 = .ok (.lmul, 1) := by decide +kernel
theorem dX6_learn_44 : decode cX6_learn 44 = .ok (.lastore, 1) := by decide +kernel
theorem dX6_learn_45 : decode cX6_learn 45 = .ok (.iconst 1, 1) := by decide +kernel
theorem dX6_learn_46 : decode cX6_learn 46 = .ok (.istore 4, 2) := by decide +kernel
theorem dX6_learn_48 : decode cX6_learn 48 = .ok (.iload 4, 2) := by decide +kernel
theorem dX6_learn_50 : decode cX6_learn 50 = .ok (.bipush 9, 2) := by decide +kernel
theorem dX6_learn_52 : decode cX6_learn 52 = .ok (.if_icmp .gt 32, 3) := by decide +kernel
theorem dX6_learn_55 : decode cX6_learn 55 = .ok (.aload_n 0, 1) := by decide +kernel
theorem dX6_learn_56 : decode cX6_learn 56 = .ok (.getfield 11, 3) := by decide +kernel
theorem dX6_learn_59 : decode cX6_learn 59 = .ok (.iload 4, 2) := by decide +kernel
theorem dX6_learn_61 : decode cX6_learn 61 = .ok (.bipush 9, 2) := by decide +kernel
theorem dX6_learn_63 : decode cX6_learn 63 = .ok (.imul, 1) := by decide +kernel
theorem dX6_learn_64 : decode cX6_learn 64 = .ok (.iload_n 3, 1) := by decide +kernel
theorem dX6_learn_65 : decode cX6_learn 65 = .ok (.iadd, 1) := by decide +kernel
theorem dX6_learn_66 : decode cX6_learn 66 = .ok (.aload_n 0, 1) := by decide +kernel
theorem dX6_learn_67 : decode cX6_learn 67 = .ok (.aload_n 1, 1) := by decide +kernel
theorem dX6_learn_68 : decode cX6_learn 68 = .ok (.getfield 28, 3) := by decide +kernel
theorem dX6_learn_71 : decode cX6_learn 71 = .ok (.iload 4, 2) := by decide +kernel
theorem dX6_learn_73 : decode cX6_learn 73 = .ok (.iload_n 3, 1) := by decide +kernel
theorem dX6_learn_74 : decode cX6_learn 74 = .ok (.invokevirtual 32, 3) := by decide +kernel
theorem dX6_learn_77 : decode cX6_learn 77 = .ok (.lastore, 1) := by decide +kernel
theorem dX6_learn_78 : decode cX6_learn 78 = .ok (.iinc 4 1, 3) := by decide +kernel
theorem dX6_learn_81 : decode cX6_learn 81 = .ok (.goto (-33), 3) := by decide +kernel
theorem dX6_learn_84 : decode cX6_learn 84 = .ok (.iinc 3 1, 3) := by decide +kernel
theorem dX6_learn_87 : decode cX6_learn 87 = .ok (.goto (-65), 3) := by decide +kernel
theorem dX6_learn_90 : decode cX6_learn 90 = .ok (.aload_n 0, 1) := by decide +kernel
theorem dX6_learn_91 : decode cX6_learn 91 = .ok (.iconst 1, 1) := by decide +kernel
theorem dX6_learn_92 : decode cX6_learn 92 = .ok (.putfield 18, 3) := by decide +kernel
theorem dX6_learn_95 : decode cX6_learn 95 = .ok (.return_, 1) := by decide +kernel
theorem dX6_meanOfBetter_0 : decode cX6_meanOfBetter 0 = .ok (.lconst 0, 1) := by decide +kernel
theorem dX6_meanOfBetter_1 : decode cX6_meanOfBetter 1 = .ok (.lstore 4, 2) := by decide +kernel
theorem dX6_meanOfBetter_3 : decode cX6_meanOfBetter 3 = .ok (.iconst 1, 1) := by decide +kernel
theorem dX6_meanOfBetter_4 : decode cX6_meanOfBetter 4 = .ok (.istore 6, 2) := by decide +kernel
theorem dX6_meanOfBetter_6 : decode cX6_meanOfBetter 6 = .ok (.iload 6, 2) := by decide +kernel
theorem dX6_meanOfBetter_8 : decode cX6_meanOfBetter 8 = .ok (.bipush 9, 2) := by decide +kernel
theorem dX6_meanOfBetter_10 : decode cX6_meanOfBetter 10 = .ok (.if_icmp .gt 39, 3) := by decide +kernel
theorem dX6_meanOfBetter_13 : decode cX6_meanOfBetter 13 = .ok (.lload 4, 2) := by decide +kernel
theorem dX6_meanOfBetter_15 : decode cX6_meanOfBetter 15 = .ok (.aload_n 1, 1) := by decide +kernel
theorem dX6_meanOfBetter_16 : decode cX6_meanOfBetter 16 = .ok (.iload 6, 2) := by decide +kernel
theorem dX6_meanOfBetter_18 : decode cX6_meanOfBetter 18 = .ok (.iaload, 1) := by decide +kernel
theorem dX6_meanOfBetter_19 : decode cX6_meanOfBetter 19 = .ok (.i2l, 1) := by decide +kernel
theorem dX6_meanOfBetter_20 : decode cX6_meanOfBetter 20 = .ok (.aload_n 0, 1) := by decide +kernel
theorem dX6_meanOfBetter_21 : decode cX6_meanOfBetter 21 = .ok (.iload_n 2, 1) := by decide +kernel
theorem dX6_meanOfBetter_22 : decode cX6_meanOfBetter 22 = .ok (.iload_n 3, 1) := by decide +kernel
theorem dX6_meanOfBetter_23 : decode cX6_meanOfBetter 23 = .ok (.iconst 1, 1) := by decide +kernel
theorem dX6_meanOfBetter_24 : decode cX6_meanOfBetter 24 = .ok (.isub, 1) := by decide +kernel
theorem dX6_meanOfBetter_25 : decode cX6_meanOfBetter 25 = .ok (.invokevirtual 36, 3) := by decide +kernel
theorem dX6_meanOfBetter_28 : decode cX6_meanOfBetter 28 = .ok (.aload_n 0, 1) := by decide +kernel
theorem dX6_meanOfBetter_29 : decode cX6_meanOfBetter 29 = .ok (.iload_n 2, 1) := by decide +kernel
theorem dX6_meanOfBetter_30 : decode cX6_meanOfBetter 30 = .ok (.iload_n 3, 1) := by decide +kernel
theorem dX6_meanOfBetter_31 : decode cX6_meanOfBetter 31 = .ok (.iload 6, 2) := by decide +kernel
theorem dX6_meanOfBetter_33 : decode cX6_meanOfBetter 33 = .ok (.invokevirtual 40, 3) := by decide +kernel
theorem dX6_meanOfBetter_36 : decode cX6_meanOfBetter 36 = .ok (.invokestatic 44, 3) := by decide +kernel
theorem dX6_meanOfBetter_39 : decode cX6_meanOfBetter 39 = .ok (.lmul, 1) := by decide +kernel
theorem dX6_meanOfBetter_40 : decode cX6_meanOfBetter 40 = .ok (.ladd, 1) := by decide +kernel
theorem dX6_meanOfBetter_41 : decode cX6_meanOfBetter 41 = .ok (.lstore 4, 2) := by decide +kernel
theorem dX6_meanOfBetter_43 : decode cX6_meanOfBetter 43 = .ok (.iinc 6 1, 3) := by decide +kernel
theorem dX6_meanOfBetter_46 : decode cX6_meanOfBetter 46 = .ok (.goto (-40), 3) := by decide +kernel
theorem dX6_meanOfBetter_49 : decode cX6_meanOfBetter 49 = .ok (.lload 4, 2) := by decide +kernel
theorem dX6_meanOfBetter_51 : decode cX6_meanOfBetter 51 = .ok (.lreturn, 1) := by decide +kernel
theorem dX6_valueOfSigning_0 : decode cX6_valueOfSigning 0 = .ok (.iload_n 3, 1) := by decide +kernel
theorem dX6_valueOfSigning_1 : decode cX6_valueOfSigning 1 = .ok (.i2l, 1) := by decide +kernel
theorem dX6_valueOfSigning_2 : decode cX6_valueOfSigning 2 = .ok (.aload_n 0, 1) := by decide +kernel
theorem dX6_valueOfSigning_3 : decode cX6_valueOfSigning 3 = .ok (.getfield 15, 3) := by decide +kernel
theorem dX6_valueOfSigning_6 : decode cX6_valueOfSigning 6 = .ok (.iload_n 2, 1) := by decide +kernel
theorem dX6_valueOfSigning_7 : decode cX6_valueOfSigning 7 = .ok (.iconst 1, 1) := by decide +kernel
theorem dX6_valueOfSigning_8 : decode cX6_valueOfSigning 8 = .ok (.isub, 1) := by decide +kernel
theorem dX6_valueOfSigning_9 : decode cX6_valueOfSigning 9 = .ok (.laload, 1) := by decide +kernel
theorem dX6_valueOfSigning_10 : decode cX6_valueOfSigning 10 = .ok (.lmul, 1) := by decide +kernel
theorem dX6_valueOfSigning_11 : decode cX6_valueOfSigning 11 = .ok (.aload_n 0, 1) := by decide +kernel
theorem dX6_valueOfSigning_12 : decode cX6_valueOfSigning 12 = .ok (.iload_n 1, 1) := by decide +kernel
theorem dX6_valueOfSigning_13 : decode cX6_valueOfSigning 13 = .ok (.iconst 1, 1) := by decide +kernel
theorem dX6_valueOfSigning_14 : decode cX6_valueOfSigning 14 = .ok (.isub, 1) := by decide +kernel
theorem dX6_valueOfSigning_15 : decode cX6_valueOfSigning 15 = .ok (.iload_n 2, 1) := by decide +kernel
theorem dX6_valueOfSigning_16 : decode cX6_valueOfSigning 16 = .ok (.iconst 1, 1) := by decide +kernel
theorem dX6_valueOfSigning_17 : decode cX6_valueOfSigning 17 = .ok (.isub, 1) := by decide +kernel
theorem dX6_valueOfSigning_18 : decode cX6_valueOfSigning 18 = .ok (.invokevirtual 36, 3) := by decide +kernel
theorem dX6_valueOfSigning_21 : decode cX6_valueOfSigning 21 = .ok (.ladd, 1) := by decide +kernel
theorem dX6_valueOfSigning_22 : decode cX6_valueOfSigning 22 = .ok (.lreturn, 1) := by decide +kernel
theorem dX6_value_0 : decode cX6_value 0 = .ok (.aload_n 0, 1) := by decide +kernel
theorem dX6_value_1 : decode cX6_value 1 = .ok (.getfield 11, 3) := by decide +kernel
theorem dX6_value_4 : decode cX6_value 4 = .ok (.iload_n 1, 1) := by decide +kernel
theorem dX6_value_5 : decode cX6_value 5 = .ok (.bipush 9, 2) := by decide +kernel
theorem dX6_value_7 : decode cX6_value 7 = .ok (.imul, 1) := by decide +kernel
theorem dX6_value_8 : decode cX6_value 8 = .ok (.iload_n 2, 1) := by decide +kernel
theorem dX6_value_9 : decode cX6_value 9 = .ok (.iadd, 1) := by decide +kernel
theorem dX6_value_10 : decode cX6_value 10 = .ok (.laload, 1) := by decide +kernel
theorem dX6_value_11 : decode cX6_value 11 = .ok (.lreturn, 1) := by decide +kernel
theorem dX6_scale_0 : decode cX6_scale 0 = .ok (.aload_n 0, 1) := by decide +kernel
theorem dX6_scale_1 : decode cX6_scale 1 = .ok (.getfield 15, 3) := by decide +kernel
theorem dX6_scale_4 : decode cX6_scale 4 = .ok (.iload_n 1, 1) := by decide +kernel
theorem dX6_scale_5 : decode cX6_scale 5 = .ok (.laload, 1) := by decide +kernel
theorem dX6_scale_6 : decode cX6_scale 6 = .ok (.lreturn, 1) := by decide +kernel
theorem dX6_isToSign_0 : decode cX6_isToSign 0 = .ok (.aload_n 0, 1) := by decide +kernel
theorem dX6_isToSign_1 : decode cX6_isToSign 1 = .ok (.iload_n 1, 1) := by decide +kernel
theorem dX6_isToSign_2 : decode cX6_isToSign 2 = .ok (.iload_n 2, 1) := by decide +kernel
theorem dX6_isToSign_3 : decode cX6_isToSign 3 = .ok (.iload_n 3, 1) := by decide +kernel
theorem dX6_isToSign_4 : decode cX6_isToSign 4 = .ok (.invokevirtual 40, 3) := by decide +kernel
theorem dX6_isToSign_7 : decode cX6_isToSign 7 = .ok (.aload_n 0, 1) := by decide +kernel
theorem dX6_isToSign_8 : decode cX6_isToSign 8 = .ok (.iload_n 1, 1) := by decide +kernel
theorem dX6_isToSign_9 : decode cX6_isToSign 9 = .ok (.iload_n 2, 1) := by decide +kernel
theorem dX6_isToSign_10 : decode cX6_isToSign 10 = .ok (.iconst 1, 1) := by decide +kernel
theorem dX6_isToSign_11 : decode cX6_isToSign 11 = .ok (.isub, 1) := by decide +kernel
theorem dX6_isToSign_12 : decode cX6_isToSign 12 = .ok (.invokevirtual 36, 3) := by decide +kernel
theorem dX6_isToSign_15 : decode cX6_isToSign 15 = .ok (.lcmp, 1) := by decide +kernel
theorem dX6_isToSign_16 : decode cX6_isToSign 16 = .ok (.ifCond .lt 7, 3) := by decide +kernel
theorem dX6_isToSign_19 : decode cX6_isToSign 19 = .ok (.iconst 1, 1) := by decide +kernel
theorem dX6_isToSign_20 : decode cX6_isToSign 20 = .ok (.goto 4, 3) := by decide +kernel
theorem dX6_isToSign_23 : decode cX6_isToSign 23 = .ok (.iconst 0, 1) := by decide +kernel
theorem dX6_isToSign_24 : decode cX6_isToSign 24 = .ok (.ireturn, 1) := by decide +kernel
theorem dX6_leastToSign_0 : decode cX6_leastToSign 0 = .ok (.iconst 1, 1) := by decide +kernel
theorem dX6_leastToSign_1 : decode cX6_leastToSign 1 = .ok (.istore_n 3, 1) := by decide +kernel
theorem dX6_leastToSign_2 : decode cX6_leastToSign 2 = .ok (.iload_n 3, 1) := by decide +kernel
theorem dX6_leastToSign_3 : decode cX6_leastToSign 3 = .ok (.bipush 9, 2) := by decide +kernel
theorem dX6_leastToSign_5 : decode cX6_leastToSign 5 = .ok (.if_icmp .ge 19, 3) := by decide +kernel
theorem dX6_leastToSign_8 : decode cX6_leastToSign 8 = .ok (.aload_n 0, 1) := by decide +kernel
theorem dX6_leastToSign_9 : decode cX6_leastToSign 9 = .ok (.iload_n 1, 1) := by decide +kernel
theorem dX6_leastToSign_10 : decode cX6_leastToSign 10 = .ok (.iload_n 2, 1) := by decide +kernel
theorem dX6_leastToSign_11 : decode cX6_leastToSign 11 = .ok (.iload_n 3, 1) := by decide +kernel
theorem dX6_leastToSign_12 : decode cX6_leastToSign 12 = .ok (.invokevirtual 50, 3) := by decide +kernel
theorem dX6_leastToSign_15 : decode cX6_leastToSign 15 = .ok (.ifCond .ne 9, 3) := by decide +kernel
theorem dX6_leastToSign_18 : decode cX6_leastToSign 18 = .ok (.iinc 3 1, 3) := by decide +kernel
theorem dX6_leastToSign_21 : decode cX6_leastToSign 21 = .ok (.goto (-19), 3) := by decide +kernel
theorem dX6_leastToSign_24 : decode cX6_leastToSign 24 = .ok (.iload_n 3, 1) := by decide +kernel
theorem dX6_leastToSign_25 : decode cX6_leastToSign 25 = .ok (.ireturn, 1) := by decide +kernel
theorem dX7_init_0 : decode cX7_init 0 = .ok (.aload_n 0, 1) := by decide +kernel
theorem dX7_init_1 : decode cX7_init 1 = .ok (.invokespecial 3, 3) := by decide +kernel
theorem dX7_init_4 : decode cX7_init 4 = .ok (.aload_n 0, 1) := by decide +kernel
theorem dX7_init_5 : decode cX7_init 5 = .ok (.new 9, 3) := by decide +kernel
theorem dX7_init_8 : decode cX7_init 8 = .ok (.dup, 1) := by decide +kernel
theorem dX7_init_9 : decode cX7_init 9 = .ok (.invokespecial 11, 3) := by decide +kernel
theorem dX7_init_12 : decode cX7_init 12 = .ok (.putfield 12, 3) := by decide +kernel
theorem dX7_init_15 : decode cX7_init 15 = .ok (.aload_n 0, 1) := by decide +kernel
theorem dX7_init_16 : decode cX7_init 16 = .ok (.bipush 10, 2) := by decide +kernel
theorem dX7_init_18 : decode cX7_init 18 = .ok (.newarray .int, 2) := by decide +kernel
theorem dX7_init_20 : decode cX7_init 20 = .ok (.putfield 18, 3) := by decide +kernel
theorem dX7_init_23 : decode cX7_init 23 = .ok (.aload_n 0, 1) := by decide +kernel
theorem dX7_init_24 : decode cX7_init 24 = .ok (.bipush 8, 2) := by decide +kernel
theorem dX7_init_26 : decode cX7_init 26 = .ok (.newarray .int, 2) := by decide +kernel
theorem dX7_init_28 : decode cX7_init 28 = .ok (.putfield 22, 3) := by decide +kernel
theorem dX7_init_31 : decode cX7_init 31 = .ok (.aload_n 0, 1) := by decide +kernel
theorem dX7_init_32 : decode cX7_init 32 = .ok (.bipush 8, 2) := by decide +kernel
theorem dX7_init_34 : decode cX7_init 34 = .ok (.newarray .boolean, 2) := by decide +kernel
theorem dX7_init_36 : decode cX7_init 36 = .ok (.putfield 25, 3) := by decide +kernel
theorem dX7_init_39 : decode cX7_init 39 = .ok (.iconst 1, 1) := by decide +kernel
theorem dX7_init_40 : decode cX7_init 40 = .ok (.istore_n 1, 1) := by decide +kernel
theorem dX7_init_41 : decode cX7_init 41 = .ok (.iload_n 1, 1) := by decide +kernel
theorem dX7_init_42 : decode cX7_init 42 = .ok (.bipush 9, 2) := by decide +kernel
theorem dX7_init_44 : decode cX7_init 44 = .ok (.if_icmp .gt 16, 3) := by decide +kernel
theorem dX7_init_47 : decode cX7_init 47 = .ok (.aload_n 0, 1) := by decide +kernel
theorem dX7_init_48 : decode cX7_init 48 = .ok (.getfield 18, 3) := by decide +kernel
theorem dX7_init_51 : decode cX7_init 51 = .ok (.iload_n 1, 1) := by decide +kernel
theorem dX7_init_52 : decode cX7_init 52 = .ok (.iconst 1, 1) := by decide +kernel
theorem dX7_init_53 : decode cX7_init 53 = .ok (.iastore, 1) := by decide +kernel
theorem dX7_init_54 : decode cX7_init 54 = .ok (.iinc 1 1, 3) := by decide +kernel
theorem dX7_init_57 : decode cX7_init 57 = .ok (.goto (-16), 3) := by decide +kernel
theorem dX7_init_60 : decode cX7_init 60 = .ok (.return_, 1) := by decide +kernel
theorem dX7_weightOfAll_0 : decode cX7_weightOfAll 0 = .ok (.iconst 0, 1) := by decide +kernel
theorem dX7_weightOfAll_1 : decode cX7_weightOfAll 1 = .ok (.istore_n 1, 1) := by decide +kernel
theorem dX7_weightOfAll_2 : decode cX7_weightOfAll 2 = .ok (.iconst 1, 1) := by decide +kernel
theorem dX7_weightOfAll_3 : decode cX7_weightOfAll 3 = .ok (.istore_n 2, 1) := by decide +kernel
theorem dX7_weightOfAll_4 : decode cX7_weightOfAll 4 = .ok (.iload_n 2, 1) := by decide +kernel
theorem dX7_weightOfAll_5 : decode cX7_weightOfAll 5 = .ok (.bipush 9, 2) := by decide +kernel
theorem dX7_weightOfAll_7 : decode cX7_weightOfAll 7 = .ok (.if_icmp .gt 18, 3) := by decide +kernel
theorem dX7_weightOfAll_10 : decode cX7_weightOfAll 10 = .ok (.iload_n 1, 1) := by decide +kernel
theorem dX7_weightOfAll_11 : decode cX7_weightOfAll 11 = .ok (.aload_n 0, 1) := by decide +kernel
theorem dX7_weightOfAll_12 : decode cX7_weightOfAll 12 = .ok (.getfield 18, 3) := by decide +kernel
theorem dX7_weightOfAll_15 : decode cX7_weightOfAll 15 = .ok (.iload_n 2, 1) := by decide +kernel
theorem dX7_weightOfAll_16 : decode cX7_weightOfAll 16 = .ok (.iaload, 1) := by decide +kernel
theorem dX7_weightOfAll_17 : decode cX7_weightOfAll 17 = .ok (.iadd, 1) := by decide +kernel
theorem dX7_weightOfAll_18 : decode cX7_weightOfAll 18 = .ok (.istore_n 1, 1) := by decide +kernel
theorem dX7_weightOfAll_19 : decode cX7_weightOfAll 19 = .ok (.iinc 2 1, 3) := by decide +kernel
theorem dX7_weightOfAll_22 : decode cX7_weightOfAll 22 = .ok (.goto (-18), 3) := by decide +kernel
theorem dX7_weightOfAll_25 : decode cX7_weightOfAll 25 = .ok (.iload_n 1, 1) := by decide +kernel
theorem dX7_weightOfAll_26 : decode cX7_weightOfAll 26 = .ok (.ireturn, 1) := by decide +kernel
theorem dX7_addSight_0 : decode cX7_addSight 0 = .ok (.aload_n 0, 1) := by decide +kernel
theorem dX7_addSight_1 : decode cX7_addSight 1 = .ok (.getfield 22, 3) := by decide +kernel
theorem dX7_addSight_4 : decode cX7_addSight 4 = .ok (.aload_n 0, 1) := by decide +kernel
theorem dX7_addSight_5 : decode cX7_addSight 5 = .ok (.getfield 29, 3) := by decide +kernel
theorem dX7_addSight_8 : decode cX7_addSight 8 = .ok (.bipush 100, 2) := by decide +kernel
theorem dX7_addSight_10 : decode cX7_addSight 10 = .ok (.iload_n 1, 1) := by decide +kernel
theorem dX7_addSight_11 : decode cX7_addSight 11 = .ok (.imul, 1) := by decide +kernel
theorem dX7_addSight_12 : decode cX7_addSight 12 = .ok (.bipush 10, 2) := by decide +kernel
theorem dX7_addSight_14 : decode cX7_addSight 14 = .ok (.iload_n 2, 1) := by decide +kernel
theorem dX7_addSight_15 : decode cX7_addSight 15 = .ok (.imul, 1) := by decide +kernel
theorem dX7_addSight_16 : decode cX7_addSight 16 = .ok (.iadd, 1) := by decide +kernel
theorem dX7_addSight_17 : decode cX7_addSight 17 = .ok (.iload_n 3, 1) := by decide +kernel
theorem dX7_addSight_18 : decode cX7_addSight 18 = .ok (.iadd, 1) := by decide +kernel
theorem dX7_addSight_19 : decode cX7_addSight 19 = .ok (.iastore, 1) := by decide +kernel
theorem dX7_addSight_20 : decode cX7_addSight 20 = .ok (.aload_n 0, 1) := by decide +kernel
theorem dX7_addSight_21 : decode cX7_addSight 21 = .ok (.getfield 25, 3) := by decide +kernel
theorem dX7_addSight_24 : decode cX7_addSight 24 = .ok (.aload_n 0, 1) := by decide +kernel
theorem dX7_addSight_25 : decode cX7_addSight 25 = .ok (.getfield 29, 3) := by decide +kernel
theorem dX7_addSight_28 : decode cX7_addSight 28 = .ok (.iload 4, 2) := by decide +kernel
theorem dX7_addSight_30 : decode cX7_addSight 30 = .ok (.bastore, 1) := by decide +kernel
theorem dX7_addSight_31 : decode cX7_addSight 31 = .ok (.aload_n 0, 1) := by decide +kernel
theorem dX7_addSight_32 : decode cX7_addSight 32 = .ok (.dup, 1) := by decide +kernel
theorem dX7_addSight_33 : decode cX7_addSight 33 = .ok (.getfield 29, 3) := by decide +kernel
theorem dX7_addSight_36 : decode cX7_addSight 36 = .ok (.iconst 1, 1) := by decide +kernel
theorem dX7_addSight_37 : decode cX7_addSight 37 = .ok (.iadd, 1) := by decide +kernel
theorem dX7_addSight_38 : decode cX7_addSight 38 = .ok (.putfield 29, 3) := by decide +kernel
theorem dX7_addSight_41 : decode cX7_addSight 41 = .ok (.return_, 1) := by decide +kernel
theorem dX7_copyFrom_0 : decode cX7_copyFrom 0 = .ok (.aload_n 0, 1) := by decide +kernel
theorem dX7_copyFrom_1 : decode cX7_copyFrom 1 = .ok (.getfield 12, 3) := by decide +kernel
theorem dX7_copyFrom_4 : decode cX7_copyFrom 4 = .ok (.aload_n 1, 1) := by decide +kernel
theorem dX7_copyFrom_5 : decode cX7_copyFrom 5 = .ok (.getfield 12, 3) := by decide +kernel
theorem dX7_copyFrom_8 : decode cX7_copyFrom 8 = .ok (.invokevirtual 33, 3) := by decide +kernel
theorem dX7_copyFrom_11 : decode cX7_copyFrom 11 = .ok (.aload_n 1, 1) := by decide +kernel
theorem dX7_copyFrom_12 : decode cX7_copyFrom 12 = .ok (.getfield 18, 3) := by decide +kernel
theorem dX7_copyFrom_15 : decode cX7_copyFrom 15 = .ok (.iconst 0, 1) := by decide +kernel
theorem dX7_copyFrom_16 : decode cX7_copyFrom 16 = .ok (.aload_n 0, 1) := by decide +kernel
theorem dX7_copyFrom_17 : decode cX7_copyFrom 17 = .ok (.getfield 18, 3) := by decide +kernel
theorem dX7_copyFrom_20 : decode cX7_copyFrom 20 = .ok (.iconst 0, 1) := by decide +kernel
theorem dX7_copyFrom_21 : decode cX7_copyFrom 21 = .ok (.bipush 10, 2) := by decide +kernel
theorem dX7_copyFrom_23 : decode cX7_copyFrom 23 = .ok (.invokestatic 37, 3) := by decide +kernel
theorem dX7_copyFrom_26 : decode cX7_copyFrom 26 = .ok (.aload_n 0, 1) := by decide +kernel
theorem dX7_copyFrom_27 : decode cX7_copyFrom 27 = .ok (.aload_n 1, 1) := by decide +kernel
theorem dX7_copyFrom_28 : decode cX7_copyFrom 28 = .ok (.getfield 29, 3) := by decide +kernel
theorem dX7_copyFrom_31 : decode cX7_copyFrom 31 = .ok (.putfield 29, 3) := by decide +kernel
theorem dX7_copyFrom_34 : decode cX7_copyFrom 34 = .ok (.iconst 0, 1) := by decide +kernel
theorem dX7_copyFrom_35 : decode cX7_copyFrom 35 = .ok (.istore_n 2, 1) := by decide +kernel
theorem dX7_copyFrom_36 : decode cX7_copyFrom 36 = .ok (.iload_n 2, 1) := by decide +kernel
theorem dX7_copyFrom_37 : decode cX7_copyFrom 37 = .ok (.bipush 8, 2) := by decide +kernel
theorem dX7_copyFrom_39 : decode cX7_copyFrom 39 = .ok (.if_icmp .ge 33, 3) := by decide +kernel
theorem dX7_copyFrom_42 : decode cX7_copyFrom 42 = .ok (.aload_n 0, 1) := by decide +kernel
theorem dX7_copyFrom_43 : decode cX7_copyFrom 43 = .ok (.getfield 22, 3) := by decide +kernel
theorem dX7_copyFrom_46 : decode cX7_copyFrom 46 = .ok (.iload_n 2, 1) := by decide +kernel
theorem dX7_copyFrom_47 : decode cX7_copyFrom 47 = .ok (.aload_n 1, 1) := by decide +kernel
theorem dX7_copyFrom_48 : decode cX7_copyFrom 48 = .ok (.getfield 22, 3) := by decide +kernel
theorem dX7_copyFrom_51 : decode cX7_copyFrom 51 = .ok (.iload_n 2, 1) := by decide +kernel
theorem dX7_copyFrom_52 : decode cX7_copyFrom 52 = .ok (.iaload, 1) := by decide +kernel
theorem dX7_copyFrom_53 : decode cX7_copyFrom 53 = .ok (.iastore, 1) := by decide +kernel
theorem dX7_copyFrom_54 : decode cX7_copyFrom 54 = .ok (.aload_n 0, 1) := by decide +kernel
theorem dX7_copyFrom_55 : decode cX7_copyFrom 55 = .ok (.getfield 25, 3) := by decide +kernel
theorem dX7_copyFrom_58 : decode cX7_copyFrom 58 = .ok (.iload_n 2, 1) := by decide +kernel
theorem dX7_copyFrom_59 : decode cX7_copyFrom 59 = .ok (.aload_n 1, 1) := by decide +kernel
theorem dX7_copyFrom_60 : decode cX7_copyFrom 60 = .ok (.getfield 25, 3) := by decide +kernel
theorem dX7_copyFrom_63 : decode cX7_copyFrom 63 = .ok (.iload_n 2, 1) := by decide +kernel
theorem dX7_copyFrom_64 : decode cX7_copyFrom 64 = .ok (.baload, 1) := by decide +kernel
theorem dX7_copyFrom_65 : decode cX7_copyFrom 65 = .ok (.bastore, 1) := by decide +kernel
theorem dX7_copyFrom_66 : decode cX7_copyFrom 66 = .ok (.iinc 2 1, 3) := by decide +kernel
theorem dX7_copyFrom_69 : decode cX7_copyFrom 69 = .ok (.goto (-33), 3) := by decide +kernel
theorem dX7_copyFrom_72 : decode cX7_copyFrom 72 = .ok (.return_, 1) := by decide +kernel
theorem dX8_init_0 : decode cX8_init 0 = .ok (.aload_n 0, 1) := by decide +kernel
theorem dX8_init_1 : decode cX8_init 1 = .ok (.invokespecial 1, 3) := by decide +kernel
theorem dX8_init_4 : decode cX8_init 4 = .ok (.aload_n 0, 1) := by decide +kernel
theorem dX8_init_5 : decode cX8_init 5 = .ok (.new 7, 3) := by decide +kernel
theorem dX8_init_8 : decode cX8_init 8 = .ok (.dup, 1) := by decide +kernel
theorem dX8_init_9 : decode cX8_init 9 = .ok (.invokespecial 9, 3) := by decide +kernel
theorem dX8_init_12 : decode cX8_init 12 = .ok (.putfield 10, 3) := by decide +kernel
theorem dX8_init_15 : decode cX8_init 15 = .ok (.aload_n 0, 1) := by decide +kernel
theorem dX8_init_16 : decode cX8_init 16 = .ok (.iconst 2, 1) := by decide +kernel
theorem dX8_init_17 : decode cX8_init 17 = .ok (.anewarray 7, 3) := by decide +kernel
theorem dX8_init_20 : decode cX8_init 20 = .ok (.putfield 16, 3) := by decide +kernel
theorem dX8_init_23 : decode cX8_init 23 = .ok (.iconst 0, 1) := by decide +kernel
theorem dX8_init_24 : decode cX8_init 24 = .ok (.istore_n 1, 1) := by decide +kernel
theorem dX8_init_25 : decode cX8_init 25 = .ok (.iload_n 1, 1) := by decide +kernel
theorem dX8_init_26 : decode cX8_init 26 = .ok (.iconst 2, 1) := by decide +kernel
theorem dX8_init_27 : decode cX8_init 27 = .ok (.if_icmp .ge 22, 3) := by decide +kernel
theorem dX8_init_30 : decode cX8_init 30 = .ok (.aload_n 0, 1) := by decide +kernel
theorem dX8_init_31 : decode cX8_init 31 = .ok (.getfield 16, 3) := by decide +kernel
theorem dX8_init_34 : decode cX8_init 34 = .ok (.iload_n 1, 1) := by decide +kernel
theorem dX8_init_35 : decode cX8_init 35 = .ok (.new 7, 3) := by decide +kernel
theorem dX8_init_38 : decode cX8_init 38 = .ok (.dup, 1) := by decide +kernel
theorem dX8_init_39 : decode cX8_init 39 = .ok (.invokespecial 9, 3) := by decide +kernel
theorem dX8_init_42 : decode cX8_init 42 = .ok (.aastore, 1) := by decide +kernel
theorem dX8_init_43 : decode cX8_init 43 = .ok (.iinc 1 1, 3) := by decide +kernel
theorem dX8_init_46 : decode cX8_init 46 = .ok (.goto (-21), 3) := by decide +kernel
theorem dX8_init_49 : decode cX8_init 49 = .ok (.aload_n 0, 1) := by decide +kernel
theorem dX8_init_50 : decode cX8_init 50 = .ok (.new 20, 3) := by decide +kernel
theorem dX8_init_53 : decode cX8_init 53 = .ok (.dup, 1) := by decide +kernel
theorem dX8_init_54 : decode cX8_init 54 = .ok (.invokespecial 22, 3) := by decide +kernel
theorem dX8_init_57 : decode cX8_init 57 = .ok (.putfield 23, 3) := by decide +kernel
theorem dX8_init_60 : decode cX8_init 60 = .ok (.aload_n 0, 1) := by decide +kernel
theorem dX8_init_61 : decode cX8_init 61 = .ok (.new 27, 3) := by decide +kernel
theorem dX8_init_64 : decode cX8_init 64 = .ok (.dup, 1) := by decide +kernel
theorem dX8_init_65 : decode cX8_init 65 = .ok (.invokespecial 29, 3) := by decide +kernel
theorem dX8_init_68 : decode cX8_init 68 = .ok (.putfield 30, 3) := by decide +kernel
theorem dX8_init_71 : decode cX8_init 71 = .ok (.aload_n 0, 1) := by decide +kernel
theorem dX8_init_72 : decode cX8_init 72 = .ok (.new 34, 3) := by decide +kernel
theorem dX8_init_75 : decode cX8_init 75 = .ok (.dup, 1) := by decide +kernel
theorem dX8_init_76 : decode cX8_init 76 = .ok (.invokespecial 36, 3) := by decide +kernel
theorem dX8_init_79 : decode cX8_init 79 = .ok (.putfield 37, 3) := by decide +kernel
theorem dX8_init_82 : decode cX8_init 82 = .ok (.aload_n 0, 1) := by decide +kernel
theorem dX8_init_83 : decode cX8_init 83 = .ok (.new 41, 3) := by decide +kernel
theorem dX8_init_86 : decode cX8_init 86 = .ok (.dup, 1) := by decide +kernel
theorem dX8_init_87 : decode cX8_init 87 = .ok (.invokespecial 43, 3) := by decide +kernel
theorem dX8_init_90 : decode cX8_init 90 = .ok (.putfield 44, 3) := by decide +kernel
theorem dX8_init_93 : decode cX8_init 93 = .ok (.aload_n 0, 1) := by decide +kernel
theorem dX8_init_94 : decode cX8_init 94 = .ok (.new 48, 3) := by decide +kernel
theorem dX8_init_97 : decode cX8_init 97 = .ok (.dup, 1) := by decide +kernel
theorem dX8_init_98 : decode cX8_init 98 = .ok (.invokespecial 50, 3) := by decide +kernel
theorem dX8_init_101 : decode cX8_init 101 = .ok (.putfield 51, 3) := by decide +kernel
theorem dX8_init_104 : decode cX8_init 104 = .ok (.return_, 1) := by decide +kernel
theorem dX8_person_0 : decode cX8_person 0 = .ok (.iload_n 1, 1) := by decide +kernel
theorem dX8_person_1 : decode cX8_person 1 = .ok (.iconst 0, 1) := by decide +kernel
theorem dX8_person_2 : decode cX8_person 2 = .ok (.iconst 5, 1) := by decide +kernel
theorem dX8_person_3 : decode cX8_person 3 = .ok (.invokestatic 55, 3) := by decide +kernel
theorem dX8_person_6 : decode cX8_person 6 = .ok (.ifCond .ne 5, 3) := by decide +kernel
theorem dX8_person_9 : decode cX8_person 9 = .ok (.iconst (-1), 1) := by decide +kernel
theorem dX8_person_10 : decode cX8_person 10 = .ok (.ireturn, 1) := by decide +kernel
theorem dX8_person_11 : decode cX8_person 11 = .ok (.iload_n 2, 1) := by decide +kernel
theorem dX8_person_12 : decode cX8_person 12 = .ok (.iconst 0, 1) := by decide +kernel
theorem dX8_person_13 : decode cX8_person 13 = .ok (.sipush 400, 3) := by decide +kernel
theorem dX8_person_16 : decode cX8_person 16 = .ok (.invokestatic 55, 3) := by decide +kernel
theorem dX8_person_19 : decode cX8_person 19 = .ok (.ifCond .eq 13, 3) := by decide +kernel
theorem dX8_person_22 : decode cX8_person 22 = .ok (.iload_n 3, 1) := by decide +kernel
theorem dX8_person_23 : decode cX8_person 23 = .ok (.iconst 0, 1) := by decide +kernel
theorem dX8_person_24 : decode cX8_person 24 = .ok (.bipush 9, 2) := by decide +kernel
theorem dX8_person_26 : decode cX8_person 26 = .ok (.invokestatic 55, 3) := by decide +kernel
theorem dX8_person_29 : decode cX8_person 29 = .ok (.ifCond .ne 6, 3) := by decide +kernel
theorem dX8_person_32 : decode cX8_person 32 = .ok (.bipush (-2), 2) := by decide +kernel
theorem dX8_person_34 : decode cX8_person 34 = .ok (.ireturn, 1) := by decide +kernel
theorem dX8_person_35 : decode cX8_person 35 = .ok (.aload_n 0, 1) := by decide +kernel
theorem dX8_person_36 : decode cX8_person 36 = .ok (.getfield 10, 3) := by decide +kernel
theorem dX8_person_39 : decode cX8_person 39 = .ok (.getfield 59, 3) := by decide +kernel
theorem dX8_person_42 : decode cX8_person 42 = .ok (.iload_n 1, 1) := by decide +kernel
theorem dX8_person_43 : decode cX8_person 43 = .ok (.iload_n 2, 1) := by decide +kernel
theorem dX8_person_44 : decode cX8_person 44 = .ok (.iload_n 3, 1) := by decide +kernel
theorem dX8_person_45 : decode cX8_person 45 = .ok (.invokevirtual 63, 3) := by decide +kernel
theorem dX8_person_48 : decode cX8_person 48 = .ok (.aload_n 0, 1) := by decide +kernel
theorem dX8_person_49 : decode cX8_person 49 = .ok (.getfield 10, 3) := by decide +kernel
theorem dX8_person_52 : decode cX8_person 52 = .ok (.getfield 59, 3) := by decide +kernel
theorem dX8_person_55 : decode cX8_person 55 = .ok (.invokevirtual 69, 3) := by decide +kernel
theorem dX8_person_58 : decode cX8_person 58 = .ok (.ireturn, 1) := by decide +kernel
theorem dX8_die_0 : decode cX8_die 0 = .ok (.aload_n 0, 1) := by decide +kernel
theorem dX8_die_1 : decode cX8_die 1 = .ok (.getfield 10, 3) := by decide +kernel
theorem dX8_die_4 : decode cX8_die 4 = .ok (.getfield 59, 3) := by decide +kernel
theorem dX8_die_7 : decode cX8_die 7 = .ok (.iload_n 1, 1) := by decide +kernel
theorem dX8_die_8 : decode cX8_die 8 = .ok (.invokevirtual 73, 3) := by decide +kernel
theorem dX8_die_11 : decode cX8_die 11 = .ok (.ifCond .ne 5, 3) := by decide +kernel
theorem dX8_die_14 : decode cX8_die 14 = .ok (.iconst (-1), 1) := by decide +kernel
theorem dX8_die_15 : decode cX8_die 15 = .ok (.ireturn, 1) := by decide +kernel
theorem dX8_die_16 : decode cX8_die 16 = .ok (.aload_n 0, 1) := by decide +kernel
theorem dX8_die_17 : decode cX8_die 17 = .ok (.getfield 10, 3) := by decide +kernel
theorem dX8_die_20 : decode cX8_die 20 = .ok (.getfield 59, 3) := by decide +kernel
theorem dX8_die_23 : decode cX8_die 23 = .ok (.iload_n 1, 1) := by decide +kernel
theorem dX8_die_24 : decode cX8_die 24 = .ok (.invokevirtual 77, 3) := by decide +kernel
theorem dX8_die_27 : decode cX8_die 27 = .ok (.aload_n 0, 1) := by decide +kernel
theorem dX8_die_28 : decode cX8_die 28 = .ok (.getfield 10, 3) := by decide +kernel
theorem dX8_die_31 : decode cX8_die 31 = .ok (.getfield 59, 3) := by decide +kernel
theorem dX8_die_34 : decode cX8_die 34 = .ok (.invokevirtual 69, 3) := by decide +kernel
theorem dX8_die_37 : decode cX8_die 37 = .ok (.ireturn, 1) := by decide +kernel
theorem dX8_weight_0 : decode cX8_weight 0 = .ok (.iload_n 1, 1) := by decide +kernel
theorem dX8_weight_1 : decode cX8_weight 1 = .ok (.iconst 1, 1) := by decide +kernel
theorem dX8_weight_2 : decode cX8_weight 2 = .ok (.bipush 9, 2) := by decide +kernel
theorem dX8_weight_4 : decode cX8_weight 4 = .ok (.invokestatic 55, 3) := by decide +kernel
theorem dX8_weight_7 : decode cX8_weight 7 = .ok (.ifCond .eq 13, 3) := by decide +kernel
theorem dX8_weight_10 : decode cX8_weight 10 = .ok (.iload_n 2, 1) := by decide +kernel
theorem dX8_weight_11 : decode cX8_weight 11 = .ok (.iconst 0, 1) := by decide +kernel
theorem dX8_weight_12 : decode cX8_weight 12 = .ok (.bipush 9, 2) := by decide +kernel
theorem dX8_weight_14 : decode cX8_weight 14 = .ok (.invokestatic 55, 3) := by decide +kernel
theorem dX8_weight_17 : decode cX8_weight 17 = .ok (.ifCond .ne 6, 3) := by decide +kernel
theorem dX8_weight_20 : decode cX8_weight 20 = .ok (.bipush (-2), 2) := by decide +kernel
theorem dX8_weight_22 : decode cX8_weight 22 = .ok (.ireturn, 1) := by decide +kernel
theorem dX8_weight_23 : decode cX8_weight 23 = .ok (.aload_n 0, 1) := by decide +kernel
theorem dX8_weight_24 : decode cX8_weight 24 = .ok (.getfield 10, 3) := by decide +kernel
theorem dX8_weight_27 : decode cX8_weight 27 = .ok (.getfield 81, 3) := by decide +kernel
theorem dX8_weight_30 : decode cX8_weight 30 = .ok (.iload_n 1, 1) := by decide +kernel
theorem dX8_weight_31 : decode cX8_weight 31 = .ok (.iaload, 1) := by decide +kernel
theorem dX8_weight_32 : decode cX8_weight 32 = .ok (.istore_n 3, 1) := by decide +kernel
theorem dX8_weight_33 : decode cX8_weight 33 = .ok (.iload_n 2, 1) := by decide +kernel
theorem dX8_weight_34 : decode cX8_weight 34 = .ok (.ifCond .ne 17, 3) := by decide +kernel
theorem dX8_weight_37 : decode cX8_weight 37 = .ok (.aload_n 0, 1) := by decide +kernel
theorem dX8_weight_38 : decode cX8_weight 38 = .ok (.getfield 10, 3) := by decide +kernel
theorem dX8_weight_41 : decode cX8_weight 41 = .ok (.invokevirtual 85, 3) := by decide +kernel
theorem dX8_weight_44 : decode cX8_weight 44 = .ok (.iload_n 3, 1) := by decide +kernel
theorem dX8_weight_45 : decode cX8_weight 45 = .ok (.if_icmp .ne 6, 3) := by decide +kernel
theorem dX8_weight_48 : decode cX8_weight 48 = .ok (.bipush (-3), 2) := by decide +kernel
theorem dX8_weight_50 : decode cX8_weight 50 = .ok (.ireturn, 1) := by decide +kernel
theorem dX8_weight_51 : decode cX8_weight 51 = .ok (.aload_n 0, 1) := by decide +kernel
theorem dX8_weight_52 : decode cX8_weight 52 = .ok (.getfield 10, 3) := by decide +kernel
theorem dX8_weight_55 : decode cX8_weight 55 = .ok (.getfield 81, 3) := by decide +kernel
theorem dX8_weight_58 : decode cX8_weight 58 = .ok (.iload_n 1, 1) := by decide +kernel
theorem dX8_weight_59 : decode cX8_weight 59 = .ok (.iload_n 2, 1) := by decide +kernel
theorem dX8_weight_60 : decode cX8_weight 60 = .ok (.iastore, 1) := by decide +kernel
theorem dX8_weight_61 : decode cX8_weight 61 = .ok (.aload_n 0, 1) := by decide +kernel
theorem dX8_weight_62 : decode cX8_weight 62 = .ok (.getfield 37, 3) := by decide +kernel
theorem dX8_weight_65 : decode cX8_weight 65 = .ok (.invokevirtual 88, 3) := by decide +kernel
theorem dX8_weight_68 : decode cX8_weight 68 = .ok (.iload_n 3, 1) := by decide +kernel
theorem dX8_weight_69 : decode cX8_weight 69 = .ok (.ireturn, 1) := by decide +kernel
theorem dX8_say_0 : decode cX8_say 0 = .ok (.iload_n 1, 1) := by decide +kernel
theorem dX8_say_1 : decode cX8_say 1 = .ok (.bipush 33, 2) := by decide +kernel
theorem dX8_say_3 : decode cX8_say 3 = .ok (.bipush 126, 2) := by decide +kernel
theorem dX8_say_5 : decode cX8_say 5 = .ok (.invokestatic 55, 3) := by decide +kernel
theorem dX8_say_8 : decode cX8_say 8 = .ok (.ifCond .ne 6, 3) := by decide +kernel
theorem dX8_say_11 : decode cX8_say 11 = .ok (.bipush (-2), 2) := by decide +kernel
theorem dX8_say_13 : decode cX8_say 13 = .ok (.ireturn, 1) := by decide +kernel
theorem dX8_say_14 : decode cX8_say 14 = .ok (.aload_n 0, 1) := by decide +kernel
theorem dX8_say_15 : decode cX8_say 15 = .ok (.getfield 23, 3) := by decide +kernel
theorem dX8_say_18 : decode cX8_say 18 = .ok (.getfield 91, 3) := by decide +kernel
theorem dX8_say_21 : decode cX8_say 21 = .ok (.bipush 60, 2) := by decide +kernel
theorem dX8_say_23 : decode cX8_say 23 = .ok (.if_icmp .lt 6, 3) := by decide +kernel
theorem dX8_say_26 : decode cX8_say 26 = .ok (.bipush (-4), 2) := by decide +kernel
theorem dX8_say_28 : decode cX8_say 28 = .ok (.ireturn, 1) := by decide +kernel
theorem dX8_say_29 : decode cX8_say 29 = .ok (.aload_n 0, 1) := by decide +kernel
theorem dX8_say_30 : decode cX8_say 30 = .ok (.getfield 23, 3) := by decide +kernel
theorem dX8_say_33 : decode cX8_say 33 = .ok (.iload_n 1, 1) := by decide +kernel
theorem dX8_say_34 : decode cX8_say 34 = .ok (.invokevirtual 94, 3) := by decide +kernel
theorem dX8_say_37 : decode cX8_say 37 = .ok (.aload_n 0, 1) := by decide +kernel
theorem dX8_say_38 : decode cX8_say 38 = .ok (.getfield 23, 3) := by decide +kernel
theorem dX8_say_41 : decode cX8_say 41 = .ok (.getfield 91, 3) := by decide +kernel
theorem dX8_say_44 : decode cX8_say 44 = .ok (.ireturn, 1) := by decide +kernel
theorem dX8_wipe_0 : decode cX8_wipe 0 = .ok (.aload_n 0, 1) := by decide +kernel
theorem dX8_wipe_1 : decode cX8_wipe 1 = .ok (.getfield 23, 3) := by decide +kernel
theorem dX8_wipe_4 : decode cX8_wipe 4 = .ok (.getfield 91, 3) := by decide +kernel
theorem dX8_wipe_7 : decode cX8_wipe 7 = .ok (.istore_n 1, 1) := by decide +kernel
theorem dX8_wipe_8 : decode cX8_wipe 8 = .ok (.aload_n 0, 1) := by decide +kernel
theorem dX8_wipe_9 : decode cX8_wipe 9 = .ok (.getfield 23, 3) := by decide +kernel
theorem dX8_wipe_12 : decode cX8_wipe 12 = .ok (.iconst 0, 1) := by decide +kernel
theorem dX8_wipe_13 : decode cX8_wipe 13 = .ok (.putfield 91, 3) := by decide +kernel
theorem dX8_wipe_16 : decode cX8_wipe 16 = .ok (.iload_n 1, 1) := by decide +kernel
theorem dX8_wipe_17 : decode cX8_wipe 17 = .ok (.ireturn, 1) := by decide +kernel
theorem dX8_fault_0 : decode cX8_fault 0 = .ok (.aload_n 0, 1) := by decide +kernel
theorem dX8_fault_1 : decode cX8_fault 1 = .ok (.getfield 23, 3) := by decide +kernel
theorem dX8_fault_4 : decode cX8_fault 4 = .ok (.invokevirtual 97, 3) := by decide +kernel
theorem dX8_fault_7 : decode cX8_fault 7 = .ok (.ireturn, 1) := by decide +kernel
theorem dX8_judge_0 : decode cX8_judge 0 = .ok (.iload_n 1, 1) := by decide +kernel
theorem dX8_judge_1 : decode cX8_judge 1 = .ok (.iconst 0, 1) := by decide +kernel
theorem dX8_judge_2 : decode cX8_judge 2 = .ok (.iconst 1, 1) := by decide +kernel
theorem dX8_judge_3 : decode cX8_judge 3 = .ok (.invokestatic 55, 3) := by decide +kernel
theorem dX8_judge_6 : decode cX8_judge 6 = .ok (.ifCond .ne 6, 3) := by decide +kernel
theorem dX8_judge_9 : decode cX8_judge 9 = .ok (.bipush (-2), 2) := by decide +kernel
theorem dX8_judge_11 : decode cX8_judge 11 = .ok (.ireturn, 1) := by decide +kernel
theorem dX8_judge_12 : decode cX8_judge 12 = .ok (.aload_n 0, 1) := by decide +kernel
theorem dX8_judge_13 : decode cX8_judge 13 = .ok (.getfield 23, 3) := by decide +kernel
theorem dX8_judge_16 : decode cX8_judge 16 = .ok (.invokevirtual 97, 3) := by decide +kernel
theorem dX8_judge_19 : decode cX8_judge 19 = .ok (.bipush (-6), 2) := by decide +kernel
theorem dX8_judge_21 : decode cX8_judge 21 = .ok (.if_icmp .eq 6, 3) := by decide +kernel
theorem dX8_judge_24 : decode cX8_judge 24 = .ok (.bipush (-5), 2) := by decide +kernel
theorem dX8_judge_26 : decode cX8_judge 26 = .ok (.ireturn, 1) := by decide +kernel
theorem dX8_judge_27 : decode cX8_judge 27 = .ok (.aload_n 0, 1) := by decide +kernel
theorem dX8_judge_28 : decode cX8_judge 28 = .ok (.getfield 30, 3) := by decide +kernel
theorem dX8_judge_31 : decode cX8_judge 31 = .ok (.aload_n 0, 1) := by decide +kernel
theorem dX8_judge_32 : decode cX8_judge 32 = .ok (.getfield 10, 3) := by decide +kernel
theorem dX8_judge_35 : decode cX8_judge 35 = .ok (.getfield 59, 3) := by decide +kernel
theorem dX8_judge_38 : decode cX8_judge 38 = .ok (.aload_n 0, 1) := by decide +kernel
theorem dX8_judge_39 : decode cX8_judge 39 = .ok (.getfield 23, 3) := by decide +kernel
theorem dX8_judge_42 : decode cX8_judge 42 = .ok (.invokevirtual 100, 3) := by decide +kernel
theorem dX8_judge_45 : decode cX8_judge 45 = .ok (.iload_n 1, 1) := by decide +kernel
theorem dX8_judge_46 : decode cX8_judge 46 = .ok (.ifCond .ne 13, 3) := by decide +kernel
theorem dX8_judge_49 : decode cX8_judge 49 = .ok (.aload_n 0, 1) := by decide +kernel
theorem dX8_judge_50 : decode cX8_judge 50 = .ok (.getfield 30, 3) := by decide +kernel
theorem dX8_judge_53 : decode cX8_judge 53 = .ok (.getfield 104, 3) := by decide +kernel
theorem dX8_judge_56 : decode cX8_judge 56 = .ok (.goto 10, 3) := by decide +kernel
theorem dX8_judge_59 : decode cX8_judge 59 = .ok (.aload_n 0, 1) := by decide +kernel
theorem dX8_judge_60 : decode cX8_judge 60 = .ok (.getfield 30, 3) := by decide +kernel
theorem dX8_judge_63 : decode cX8_judge 63 = .ok (.getfield 107, 3) := by decide +kernel
theorem dX8_judge_66 : decode cX8_judge 66 = .ok (.ireturn, 1) := by decide +kernel
theorem dX8_done_0 : decode cX8_done 0 = .ok (.aload_n 0, 1) := by decide +kernel
theorem dX8_done_1 : decode cX8_done 1 = .ok (.invokevirtual 110, 3) := by decide +kernel
theorem dX8_done_4 : decode cX8_done 4 = .ok (.ifCond .ne 6, 3) := by decide +kernel
theorem dX8_done_7 : decode cX8_done 7 = .ok (.bipush (-5), 2) := by decide +kernel
theorem dX8_done_9 : decode cX8_done 9 = .ok (.ireturn, 1) := by decide +kernel
theorem dX8_done_10 : decode cX8_done 10 = .ok (.aload_n 0, 1) := by decide +kernel
theorem dX8_done_11 : decode cX8_done 11 = .ok (.getfield 10, 3) := by decide +kernel
theorem dX8_done_14 : decode cX8_done 14 = .ok (.getfield 59, 3) := by decide +kernel
theorem dX8_done_17 : decode cX8_done 17 = .ok (.aload_n 0, 1) := by decide +kernel
theorem dX8_done_18 : decode cX8_done 18 = .ok (.getfield 30, 3) := by decide +kernel
theorem dX8_done_21 : decode cX8_done 21 = .ok (.getfield 114, 3) := by decide +kernel
theorem dX8_done_24 : decode cX8_done 24 = .ok (.invokevirtual 117, 3) := by decide +kernel
theorem dX8_done_27 : decode cX8_done 27 = .ok (.aload_n 0, 1) := by decide +kernel
theorem dX8_done_28 : decode cX8_done 28 = .ok (.getfield 23, 3) := by decide +kernel
theorem dX8_done_31 : decode cX8_done 31 = .ok (.iconst 0, 1) := by decide +kernel
theorem dX8_done_32 : decode cX8_done 32 = .ok (.putfield 91, 3) := by decide +kernel
theorem dX8_done_35 : decode cX8_done 35 = .ok (.aload_n 0, 1) := by decide +kernel
theorem dX8_done_36 : decode cX8_done 36 = .ok (.getfield 30, 3) := by decide +kernel
theorem dX8_done_39 : decode cX8_done 39 = .ok (.getfield 121, 3) := by decide +kernel
theorem dX8_done_42 : decode cX8_done 42 = .ok (.ireturn, 1) := by decide +kernel
theorem dX8_state_0 : decode cX8_state 0 = .ok (.aload_n 0, 1) := by decide +kernel
theorem dX8_state_1 : decode cX8_state 1 = .ok (.getfield 10, 3) := by decide +kernel
theorem dX8_state_4 : decode cX8_state 4 = .ok (.getfield 59, 3) := by decide +kernel
theorem dX8_state_7 : decode cX8_state 7 = .ok (.iload_n 1, 1) := by decide +kernel
theorem dX8_state_8 : decode cX8_state 8 = .ok (.invokevirtual 73, 3) := by decide +kernel
theorem dX8_state_11 : decode cX8_state 11 = .ok (.ifCond .ne 5, 3) := by decide +kernel
theorem dX8_state_14 : decode cX8_state 14 = .ok (.iconst (-1), 1) := by decide +kernel
theorem dX8_state_15 : decode cX8_state 15 = .ok (.ireturn, 1) := by decide +kernel
theorem dX8_state_16 : decode cX8_state 16 = .ok (.iload_n 2, 1) := by decide +kernel
theorem dX8_state_17 : decode cX8_state 17 = .ok (.iconst 0, 1) := by decide +kernel
theorem dX8_state_18 : decode cX8_state 18 = .ok (.iconst 2, 1) := by decide +kernel
theorem dX8_state_19 : decode cX8_state 19 = .ok (.invokestatic 55, 3) := by decide +kernel
theorem dX8_state_22 : decode cX8_state 22 = .ok (.ifCond .ne 6, 3) := by decide +kernel
theorem dX8_state_25 : decode cX8_state 25 = .ok (.bipush (-2), 2) := by decide +kernel
theorem dX8_state_27 : decode cX8_state 27 = .ok (.ireturn, 1) := by decide +kernel
theorem dX8_state_28 : decode cX8_state 28 = .ok (.aload_n 0, 1) := by decide +kernel
theorem dX8_state_29 : decode cX8_state 29 = .ok (.getfield 10, 3) := by decide +kernel
theorem dX8_state_32 : decode cX8_state 32 = .ok (.getfield 59, 3) := by decide +kernel
theorem dX8_state_35 : decode cX8_state 35 = .ok (.iload_n 1, 1) := by decide +kernel
theorem dX8_state_36 : decode cX8_state 36 = .ok (.iload_n 2, 1) := by decide +kernel
theorem dX8_state_37 : decode cX8_state 37 = .ok (.invokevirtual 124, 3) := by decide +kernel
theorem dX8_state_40 : decode cX8_state 40 = .ok (.ireturn, 1) := by decide +kernel
theorem dX8_behind_0 : decode cX8_behind 0 = .ok (.aload_n 0, 1) := by decide +kernel
theorem dX8_behind_1 : decode cX8_behind 1 = .ok (.getfield 10, 3) := by decide +kernel
theorem dX8_behind_4 : decode cX8_behind 4 = .ok (.getfield 59, 3) := by decide +kernel
theorem dX8_behind_7 : decode cX8_behind 7 = .ok (.iload_n 1, 1) := by decide +kernel
theorem dX8_behind_8 : decode cX8_behind 8 = .ok (.invokevirtual 73, 3) := by decide +kernel
theorem dX8_behind_11 : decode cX8_behind 11 = .ok (.ifCond .ne 5, 3) := by decide +kernel
theorem dX8_behind_14 : decode cX8_behind 14 = .ok (.iconst (-1), 1) := by decide +kernel
theorem dX8_behind_15 : decode cX8_behind 15 = .ok (.ireturn, 1) := by decide +kernel
theorem dX8_behind_16 : decode cX8_behind 16 = .ok (.iload_n 2, 1) := by decide +kernel
theorem dX8_behind_17 : decode cX8_behind 17 = .ok (.iconst 0, 1) := by decide +kernel
theorem dX8_behind_18 : decode cX8_behind 18 = .ok (.iconst 2, 1) := by decide +kernel
theorem dX8_behind_19 : decode cX8_behind 19 = .ok (.invokestatic 55, 3) := by decide +kernel
theorem dX8_behind_22 : decode cX8_behind 22 = .ok (.ifCond .ne 6, 3) := by decide +kernel
theorem dX8_behind_25 : decode cX8_behind 25 = .ok (.bipush (-2), 2) := by decide +kernel
theorem dX8_behind_27 : decode cX8_behind 27 = .ok (.ireturn, 1) := by decide +kernel
theorem dX8_behind_28 : decode cX8_behind 28 = .ok (.aload_n 0, 1) := by decide +kernel
theorem dX8_behind_29 : decode cX8_behind 29 = .ok (.invokevirtual 110, 3) := by decide +kernel
theorem dX8_behind_32 : decode cX8_behind 32 = .ok (.ifCond .ne 6, 3) := by decide +kernel
theorem dX8_behind_35 : decode cX8_behind 35 = .ok (.bipush (-5), 2) := by decide +kernel
theorem dX8_behind_37 : decode cX8_behind 37 = .ok (.ireturn, 1) := by decide +kernel
theorem dX8_behind_38 : decode cX8_behind 38 = .ok (.aload_n 0, 1) := by decide +kernel
theorem dX8_behind_39 : decode cX8_behind 39 = .ok (.getfield 30, 3) := by decide +kernel
theorem dX8_behind_42 : decode cX8_behind 42 = .ok (.getfield 114, 3) := by decide +kernel
theorem dX8_behind_45 : decode cX8_behind 45 = .ok (.iload_n 1, 1) := by decide +kernel
theorem dX8_behind_46 : decode cX8_behind 46 = .ok (.iload_n 2, 1) := by decide +kernel
theorem dX8_behind_47 : decode cX8_behind 47 = .ok (.invokevirtual 124, 3) := by decide +kernel
theorem dX8_behind_50 : decode cX8_behind 50 = .ok (.ireturn, 1) := by decide +kernel
theorem dX8_acts_0 : decode cX8_acts 0 = .ok (.iload_n 1, 1) := by decide +kernel
theorem dX8_acts_1 : decode cX8_acts 1 = .ok (.iconst 0, 1) := by decide +kernel
theorem dX8_acts_2 : decode cX8_acts 2 = .ok (.iconst 1, 1) := by decide +kernel
theorem dX8_acts_3 : decode cX8_acts 3 = .ok (.invokestatic 55, 3) := by decide +kernel
theorem dX8_acts_6 : decode cX8_acts 6 = .ok (.ifCond .ne 6, 3) := by decide +kernel
theorem dX8_acts_9 : decode cX8_acts 9 = .ok (.bipush (-2), 2) := by decide +kernel
theorem dX8_acts_11 : decode cX8_acts 11 = .ok (.ireturn, 1) := by decide +kernel
theorem dX8_acts_12 : decode cX8_acts 12 = .ok (.aload_n 0, 1) := by decide +kernel
theorem dX8_acts_13 : decode cX8_acts 13 = .ok (.invokevirtual 110, 3) := by decide +kernel
theorem dX8_acts_16 : decode cX8_acts 16 = .ok (.ifCond .ne 6, 3) := by decide +kernel
theorem dX8_acts_19 : decode cX8_acts 19 = .ok (.bipush (-5), 2) := by decide +kernel
theorem dX8_acts_21 : decode cX8_acts 21 = .ok (.ireturn, 1) := by decide +kernel
theorem dX8_acts_22 : decode cX8_acts 22 = .ok (.iload_n 1, 1) := by decide +kernel
theorem dX8_acts_23 : decode cX8_acts 23 = .ok (.ifCond .ne 13, 3) := by decide +kernel
theorem dX8_acts_26 : decode cX8_acts 26 = .ok (.aload_n 0, 1) := by decide +kernel
theorem dX8_acts_27 : decode cX8_acts 27 = .ok (.getfield 30, 3) := by decide +kernel
theorem dX8_acts_30 : decode cX8_acts 30 = .ok (.getfield 128, 3) := by decide +kernel
theorem dX8_acts_33 : decode cX8_acts 33 = .ok (.goto 10, 3) := by decide +kernel
theorem dX8_acts_36 : decode cX8_acts 36 = .ok (.aload_n 0, 1) := by decide +kernel
theorem dX8_acts_37 : decode cX8_acts 37 = .ok (.getfield 30, 3) := by decide +kernel
theorem dX8_acts_40 : decode cX8_acts 40 = .ok (.getfield 131, 3) := by decide +kernel
theorem dX8_acts_43 : decode cX8_acts 43 = .ok (.ireturn, 1) := by decide +kernel
theorem dX8_owes_0 : decode cX8_owes 0 = .ok (.aload_n 0, 1) := by decide +kernel
theorem dX8_owes_1 : decode cX8_owes 1 = .ok (.getfield 10, 3) := by decide +kernel
theorem dX8_owes_4 : decode cX8_owes 4 = .ok (.getfield 59, 3) := by decide +kernel
theorem dX8_owes_7 : decode cX8_owes 7 = .ok (.iload_n 1, 1) := by decide +kernel
theorem dX8_owes_8 : decode cX8_owes 8 = .ok (.invokevirtual 73, 3) := by decide +kernel
theorem dX8_owes_11 : decode cX8_owes 11 = .ok (.ifCond .eq 22, 3) := by decide +kernel
theorem dX8_owes_14 : decode cX8_owes 14 = .ok (.aload_n 0, 1) := by decide +kernel
theorem dX8_owes_15 : decode cX8_owes 15 = .ok (.getfield 10, 3) := by decide +kernel
theorem dX8_owes_18 : decode cX8_owes 18 = .ok (.getfield 59, 3) := by decide +kernel
theorem dX8_owes_21 : decode cX8_owes 21 = .ok (.iload_n 2, 1) := by decide +kernel
theorem dX8_owes_22 : decode cX8_owes 22 = .ok (.invokevirtual 73, 3) := by decide +kernel
theorem dX8_owes_25 : decode cX8_owes 25 = .ok (.ifCond .eq 8, 3) := by decide +kernel
theorem dX8_owes_28 : decode cX8_owes 28 = .ok (.iload_n 1, 1) := by decide +kernel
theorem dX8_owes_29 : decode cX8_owes 29 = .ok (.iload_n 2, 1) := by decide +kernel
theorem dX8_owes_30 : decode cX8_owes 30 = .ok (.if_icmp .ne 5, 3) := by decide +kernel
theorem dX8_owes_33 : decode cX8_owes 33 = .ok (.iconst (-1), 1) := by decide +kernel
theorem dX8_owes_34 : decode cX8_owes 34 = .ok (.ireturn, 1) := by decide +kernel
theorem dX8_owes_35 : decode cX8_owes 35 = .ok (.aload_n 0, 1) := by decide +kernel
theorem dX8_owes_36 : decode cX8_owes 36 = .ok (.getfield 10, 3) := by decide +kernel
theorem dX8_owes_39 : decode cX8_owes 39 = .ok (.getfield 59, 3) := by decide +kernel
theorem dX8_owes_42 : decode cX8_owes 42 = .ok (.iload_n 1, 1) := by decide +kernel
theorem dX8_owes_43 : decode cX8_owes 43 = .ok (.iload_n 2, 1) := by decide +kernel
theorem dX8_owes_44 : decode cX8_owes 44 = .ok (.invokevirtual 134, 3) := by decide +kernel
theorem dX8_owes_47 : decode cX8_owes 47 = .ok (.ireturn, 1) := by decide +kernel
theorem dX8_who_0 : decode cX8_who 0 = .ok (.iload_n 1, 1) := by decide +kernel
theorem dX8_who_1 : decode cX8_who 1 = .ok (.iconst 0, 1) := by decide +kernel
theorem dX8_who_2 : decode cX8_who 2 = .ok (.iconst 1, 1) := by decide +kernel
theorem dX8_who_3 : decode cX8_who 3 = .ok (.invokestatic 55, 3) := by decide +kernel
theorem dX8_who_6 : decode cX8_who 6 = .ok (.ifCond .ne 6, 3) := by decide +kernel
theorem dX8_who_9 : decode cX8_who 9 = .ok (.bipush (-2), 2) := by decide +kernel
theorem dX8_who_11 : decode cX8_who 11 = .ok (.ireturn, 1) := by decide +kernel
theorem dX8_who_12 : decode cX8_who 12 = .ok (.iload_n 1, 1) := by decide +kernel
theorem dX8_who_13 : decode cX8_who 13 = .ok (.ifCond .ne 16, 3) := by decide +kernel
theorem dX8_who_16 : decode cX8_who 16 = .ok (.aload_n 0, 1) := by decide +kernel
theorem dX8_who_17 : decode cX8_who 17 = .ok (.getfield 10, 3) := by decide +kernel
theorem dX8_who_20 : decode cX8_who 20 = .ok (.getfield 59, 3) := by decide +kernel
theorem dX8_who_23 : decode cX8_who 23 = .ok (.invokevirtual 137, 3) := by decide +kernel
theorem dX8_who_26 : decode cX8_who 26 = .ok (.goto 13, 3) := by decide +kernel
theorem dX8_who_29 : decode cX8_who 29 = .ok (.aload_n 0, 1) := by decide +kernel
theorem dX8_who_30 : decode cX8_who 30 = .ok (.getfield 10, 3) := by decide +kernel
theorem dX8_who_33 : decode cX8_who 33 = .ok (.getfield 59, 3) := by decide +kernel
theorem dX8_who_36 : decode cX8_who 36 = .ok (.invokevirtual 140, 3) := by decide +kernel
theorem dX8_who_39 : decode cX8_who 39 = .ok (.ireturn, 1) := by decide +kernel
theorem dX8_allCanBe_0 : decode cX8_allCanBe 0 = .ok (.aload_n 0, 1) := by decide +kernel
theorem dX8_allCanBe_1 : decode cX8_allCanBe 1 = .ok (.getfield 23, 3) := by decide +kernel
theorem dX8_allCanBe_4 : decode cX8_allCanBe 4 = .ok (.invokevirtual 97, 3) := by decide +kernel
theorem dX8_allCanBe_7 : decode cX8_allCanBe 7 = .ok (.bipush (-6), 2) := by decide +kernel
theorem dX8_allCanBe_9 : decode cX8_allCanBe 9 = .ok (.if_icmp .eq 5, 3) := by decide +kernel
theorem dX8_allCanBe_12 : decode cX8_allCanBe 12 = .ok (.iconst 0, 1) := by decide +kernel
theorem dX8_allCanBe_13 : decode cX8_allCanBe 13 = .ok (.ireturn, 1) := by decide +kernel
theorem dX8_allCanBe_14 : decode cX8_allCanBe 14 = .ok (.aload_n 0, 1) := by decide +kernel
theorem dX8_allCanBe_15 : decode cX8_allCanBe 15 = .ok (.getfield 30, 3) := by decide +kernel
theorem dX8_allCanBe_18 : decode cX8_allCanBe 18 = .ok (.aload_n 0, 1) := by decide +kernel
theorem dX8_allCanBe_19 : decode cX8_allCanBe 19 = .ok (.getfield 10, 3) := by decide +kernel
theorem dX8_allCanBe_22 : decode cX8_allCanBe 22 = .ok (.getfield 59, 3) := by decide +kernel
theorem dX8_allCanBe_25 : decode cX8_allCanBe 25 = .ok (.aload_n 0, 1) := by decide +kernel
theorem dX8_allCanBe_26 : decode cX8_allCanBe 26 = .ok (.getfield 23, 3) := by decide +kernel
theorem dX8_allCanBe_29 : decode cX8_allCanBe 29 = .ok (.invokevirtual 100, 3) := by decide +kernel
theorem dX8_allCanBe_32 : decode cX8_allCanBe 32 = .ok (.aload_n 0, 1) := by decide +kernel
theorem dX8_allCanBe_33 : decode cX8_allCanBe 33 = .ok (.getfield 30, 3) := by decide +kernel
theorem dX8_allCanBe_36 : decode cX8_allCanBe 36 = .ok (.getfield 104, 3) := by decide +kernel
theorem dX8_allCanBe_39 : decode cX8_allCanBe 39 = .ok (.bipush (-6), 2) := by decide +kernel
theorem dX8_allCanBe_41 : decode cX8_allCanBe 41 = .ok (.if_icmp .ne 7, 3) := by decide +kernel
theorem dX8_allCanBe_44 : decode cX8_allCanBe 44 = .ok (.iconst 1, 1) := by decide +kernel
theorem dX8_allCanBe_45 : decode cX8_allCanBe 45 = .ok (.goto 4, 3) := by decide +kernel
theorem dX8_allCanBe_48 : decode cX8_allCanBe 48 = .ok (.iconst 0, 1) := by decide +kernel
theorem dX8_allCanBe_49 : decode cX8_allCanBe 49 = .ok (.ireturn, 1) := by decide +kernel
theorem dX8_best_0 : decode cX8_best 0 = .ok (.iload_n 1, 1) := by decide +kernel
theorem dX8_best_1 : decode cX8_best 1 = .ok (.iload_n 2, 1) := by decide +kernel
theorem dX8_best_2 : decode cX8_best 2 = .ok (.invokestatic 143, 3) := by decide +kernel
theorem dX8_best_5 : decode cX8_best 5 = .ok (.ifCond .eq 12, 3) := by decide +kernel
theorem dX8_best_8 : decode cX8_best 8 = .ok (.iload_n 3, 1) := by decide +kernel
theorem dX8_best_9 : decode cX8_best 9 = .ok (.iconst 0, 1) := by decide +kernel
theorem dX8_best_10 : decode cX8_best 10 = .ok (.iconst 1, 1) := by decide +kernel
theorem dX8_best_11 : decode cX8_best 11 = .ok (.invokestatic 55, 3) := by decide +kernel
theorem dX8_best_14 : decode cX8_best 14 = .ok (.ifCond .ne 7, 3) := by decide +kernel
theorem dX8_best_17 : decode cX8_best 17 = .ok (.ldc2_w 147, 3) := by decide +kernel
theorem dX8_best_20 : decode cX8_best 20 = .ok (.lreturn, 1) := by decide +kernel
theorem dX8_best_21 : decode cX8_best 21 = .ok (.aload_n 0, 1) := by decide +kernel
theorem dX8_best_22 : decode cX8_best 22 = .ok (.getfield 37, 3) := by decide +kernel
theorem dX8_best_25 : decode cX8_best 25 = .ok (.aload_n 0, 1) := by decide +kernel
theorem dX8_best_26 : decode cX8_best 26 = .ok (.getfield 10, 3) := by decide +kernel
theorem dX8_best_29 : decode cX8_best 29 = .ok (.invokevirtual 149, 3) := by decide +kernel
theorem dX8_best_32 : decode cX8_best 32 = .ok (.aload_n 0, 1) := by decide +kernel
theorem dX8_best_33 : decode cX8_best 33 = .ok (.getfield 37, 3) := by decide +kernel
theorem dX8_best_36 : decode cX8_best 36 = .ok (.iload_n 1, 1) := by decide +kernel
theorem dX8_best_37 : decode cX8_best 37 = .ok (.iload_n 2, 1) := by decide +kernel
theorem dX8_best_38 : decode cX8_best 38 = .ok (.invokevirtual 153, 3) := by decide +kernel
theorem dX8_best_41 : decode cX8_best 41 = .ok (.aload_n 0, 1) := by decide +kernel
theorem dX8_best_42 : decode cX8_best 42 = .ok (.getfield 37, 3) := by decide +kernel
theorem dX8_best_45 : decode cX8_best 45 = .ok (.iload_n 2, 1) := by decide +kernel
theorem dX8_best_46 : decode cX8_best 46 = .ok (.invokevirtual 157, 3) := by decide +kernel
theorem dX8_best_49 : decode cX8_best 49 = .ok (.iload_n 3, 1) := by decide +kernel
theorem dX8_best_50 : decode cX8_best 50 = .ok (.invokestatic 161, 3) := by decide +kernel
theorem dX8_best_53 : decode cX8_best 53 = .ok (.lreturn, 1) := by decide +kernel
theorem dX8_least_0 : decode cX8_least 0 = .ok (.iload_n 1, 1) := by decide +kernel
theorem dX8_least_1 : decode cX8_least 1 = .ok (.iload_n 2, 1) := by decide +kernel
theorem dX8_least_2 : decode cX8_least 2 = .ok (.invokestatic 143, 3) := by decide +kernel
theorem dX8_least_5 : decode cX8_least 5 = .ok (.ifCond .ne 6, 3) := by decide +kernel
theorem dX8_least_8 : decode cX8_least 8 = .ok (.bipush (-2), 2) := by decide +kernel
theorem dX8_least_10 : decode cX8_least 10 = .ok (.ireturn, 1) := by decide +kernel
theorem dX8_least_11 : decode cX8_least 11 = .ok (.iload_n 1, 1) := by decide +kernel
theorem dX8_least_12 : decode cX8_least 12 = .ok (.ifCond .eq 7, 3) := by decide +kernel
theorem dX8_least_15 : decode cX8_least 15 = .ok (.iload_n 2, 1) := by decide +kernel
theorem dX8_least_16 : decode cX8_least 16 = .ok (.ifCond .ne 6, 3) := by decide +kernel
theorem dX8_least_19 : decode cX8_least 19 = .ok (.bipush (-6), 2) := by decide +kernel
theorem dX8_least_21 : decode cX8_least 21 = .ok (.ireturn, 1) := by decide +kernel
theorem dX8_least_22 : decode cX8_least 22 = .ok (.aload_n 0, 1) := by decide +kernel
theorem dX8_least_23 : decode cX8_least 23 = .ok (.getfield 37, 3) := by decide +kernel
theorem dX8_least_26 : decode cX8_least 26 = .ok (.aload_n 0, 1) := by decide +kernel
theorem dX8_least_27 : decode cX8_least 27 = .ok (.getfield 10, 3) := by decide +kernel
theorem dX8_least_30 : decode cX8_least 30 = .ok (.invokevirtual 149, 3) := by decide +kernel
theorem dX8_least_33 : decode cX8_least 33 = .ok (.aload_n 0, 1) := by decide +kernel
theorem dX8_least_34 : decode cX8_least 34 = .ok (.getfield 37, 3) := by decide +kernel
theorem dX8_least_37 : decode cX8_least 37 = .ok (.iload_n 1, 1) := by decide +kernel
theorem dX8_least_38 : decode cX8_least 38 = .ok (.iload_n 2, 1) := by decide +kernel
theorem dX8_least_39 : decode cX8_least 39 = .ok (.invokevirtual 165, 3) := by decide +kernel
theorem dX8_least_42 : decode cX8_least 42 = .ok (.ireturn, 1) := by decide +kernel
theorem dX8_price_0 : decode cX8_price 0 = .ok (.iload_n 1, 1) := by decide +kernel
theorem dX8_price_1 : decode cX8_price 1 = .ok (.iconst 0, 1) := by decide +kernel
theorem dX8_price_2 : decode cX8_price 2 = .ok (.bipush 8, 2) := by decide +kernel
theorem dX8_price_4 : decode cX8_price 4 = .ok (.invokestatic 55, 3) := by decide +kernel
theorem dX8_price_7 : decode cX8_price 7 = .ok (.ifCond .eq 20, 3) := by decide +kernel
theorem dX8_price_10 : decode cX8_price 10 = .ok (.iload_n 1, 1) := by decide +kernel
theorem dX8_price_11 : decode cX8_price 11 = .ok (.iload_n 2, 1) := by decide +kernel
theorem dX8_price_12 : decode cX8_price 12 = .ok (.invokestatic 143, 3) := by decide +kernel
theorem dX8_price_15 : decode cX8_price 15 = .ok (.ifCond .eq 12, 3) := by decide +kernel
theorem dX8_price_18 : decode cX8_price 18 = .ok (.iload_n 3, 1) := by decide +kernel
theorem dX8_price_19 : decode cX8_price 19 = .ok (.iconst 0, 1) := by decide +kernel
theorem dX8_price_20 : decode cX8_price 20 = .ok (.iconst 1, 1) := by decide +kernel
theorem dX8_price_21 : decode cX8_price 21 = .ok (.invokestatic 55, 3) := by decide +kernel
theorem dX8_price_24 : decode cX8_price 24 = .ok (.ifCond .ne 7, 3) := by decide +kernel
theorem dX8_price_27 : decode cX8_price 27 = .ok (.ldc2_w 147, 3) := by decide +kernel
theorem dX8_price_30 : decode cX8_price 30 = .ok (.lreturn, 1) := by decide +kernel
theorem dX8_price_31 : decode cX8_price 31 = .ok (.aload_n 0, 1) := by decide +kernel
theorem dX8_price_32 : decode cX8_price 32 = .ok (.getfield 37, 3) := by decide +kernel
theorem dX8_price_35 : decode cX8_price 35 = .ok (.aload_n 0, 1) := by decide +kernel
theorem dX8_price_36 : decode cX8_price 36 = .ok (.getfield 10, 3) := by decide +kernel
theorem dX8_price_39 : decode cX8_price 39 = .ok (.invokevirtual 149, 3) := by decide +kernel
theorem dX8_price_42 : decode cX8_price 42 = .ok (.aload_n 0, 1) := by decide +kernel
theorem dX8_price_43 : decode cX8_price 43 = .ok (.getfield 37, 3) := by decide +kernel
theorem dX8_price_46 : decode cX8_price 46 = .ok (.iload_n 1, 1) := by decide +kernel
theorem dX8_price_47 : decode cX8_price 47 = .ok (.iconst 1, 1) := by decide +kernel
theorem dX8_price_48 : decode cX8_price 48 = .ok (.iadd, 1) := by decide +kernel
theorem dX8_price_49 : decode cX8_price 49 = .ok (.iload_n 2, 1) := by decide +kernel
theorem dX8_price_50 : decode cX8_price 50 = .ok (.invokevirtual 153, 3) := by decide +kernel
theorem dX8_price_53 : decode cX8_price 53 = .ok (.aload_n 0, 1) := by decide +kernel
theorem dX8_price_54 : decode cX8_price 54 = .ok (.getfield 37, 3) := by decide +kernel
theorem dX8_price_57 : decode cX8_price 57 = .ok (.iload_n 1, 1) := by decide +kernel
theorem dX8_price_58 : decode cX8_price 58 = .ok (.iload_n 2, 1) := by decide +kernel
theorem dX8_price_59 : decode cX8_price 59 = .ok (.invokevirtual 153, 3) := by decide +kernel
theorem dX8_price_62 : decode cX8_price 62 = .ok (.lsub, 1) := by decide +kernel
theorem dX8_price_63 : decode cX8_price 63 = .ok (.aload_n 0, 1) := by decide +kernel
theorem dX8_price_64 : decode cX8_price 64 = .ok (.getfield 37, 3) := by decide +kernel
theorem dX8_price_67 : decode cX8_price 67 = .ok (.iload_n 2, 1) := by decide +kernel
theorem dX8_price_68 : decode cX8_price 68 = .ok (.invokevirtual 157, 3) := by decide +kernel
theorem dX8_price_71 : decode cX8_price 71 = .ok (.iload_n 3, 1) := by decide +kernel
theorem dX8_price_72 : decode cX8_price 72 = .ok (.invokestatic 161, 3) := by decide +kernel
theorem dX8_price_75 : decode cX8_price 75 = .ok (.lreturn, 1) := by decide +kernel
theorem dX8_last_0 : decode cX8_last 0 = .ok (.iload_n 1, 1) := by decide +kernel
theorem dX8_last_1 : decode cX8_last 1 = .ok (.iconst 0, 1) := by decide +kernel
theorem dX8_last_2 : decode cX8_last 2 = .ok (.sipush 400, 3) := by decide +kernel
theorem dX8_last_5 : decode cX8_last 5 = .ok (.invokestatic 55, 3) := by decide +kernel
theorem dX8_last_8 : decode cX8_last 8 = .ok (.ifCond .eq 33, 3) := by decide +kernel
theorem dX8_last_11 : decode cX8_last 11 = .ok (.iload_n 2, 1) := by decide +kernel
theorem dX8_last_12 : decode cX8_last 12 = .ok (.iconst 0, 1) := by decide +kernel
theorem dX8_last_13 : decode cX8_last 13 = .ok (.bipush 9, 2) := by decide +kernel
theorem dX8_last_15 : decode cX8_last 15 = .ok (.invokestatic 55, 3) := by decide +kernel
theorem dX8_last_18 : decode cX8_last 18 = .ok (.ifCond .eq 23, 3) := by decide +kernel
theorem dX8_last_21 : decode cX8_last 21 = .ok (.iload_n 3, 1) := by decide +kernel
theorem dX8_last_22 : decode cX8_last 22 = .ok (.iconst 0, 1) := by decide +kernel
theorem dX8_last_23 : decode cX8_last 23 = .ok (.bipush 10, 2) := by decide +kernel
theorem dX8_last_25 : decode cX8_last 25 = .ok (.invokestatic 55, 3) := by decide +kernel
theorem dX8_last_28 : decode cX8_last 28 = .ok (.ifCond .eq 13, 3) := by decide +kernel
theorem dX8_last_31 : decode cX8_last 31 = .ok (.iload 4, 2) := by decide +kernel
theorem dX8_last_33 : decode cX8_last 33 = .ok (.iconst 0, 1) := by decide +kernel
theorem dX8_last_34 : decode cX8_last 34 = .ok (.iconst 1, 1) := by decide +kernel
theorem dX8_last_35 : decode cX8_last 35 = .ok (.invokestatic 55, 3) := by decide +kernel
theorem dX8_last_38 : decode cX8_last 38 = .ok (.ifCond .ne 7, 3) := by decide +kernel
theorem dX8_last_41 : decode cX8_last 41 = .ok (.ldc2_w 147, 3) := by decide +kernel
theorem dX8_last_44 : decode cX8_last 44 = .ok (.lreturn, 1) := by decide +kernel
theorem dX8_last_45 : decode cX8_last 45 = .ok (.iload_n 1, 1) := by decide +kernel
theorem dX8_last_46 : decode cX8_last 46 = .ok (.iload_n 2, 1) := by decide +kernel
theorem dX8_last_47 : decode cX8_last 47 = .ok (.iload_n 3, 1) := by decide +kernel
theorem dX8_last_48 : decode cX8_last 48 = .ok (.invokestatic 168, 3) := by decide +kernel
theorem dX8_last_51 : decode cX8_last 51 = .ok (.bipush 10, 2) := by decide +kernel
theorem dX8_last_53 : decode cX8_last 53 = .ok (.iload_n 2, 1) := by decide +kernel
theorem dX8_last_54 : decode cX8_last 54 = .ok (.invokestatic 172, 3) := by decide +kernel
theorem dX8_last_57 : decode cX8_last 57 = .ok (.iload 4, 2) := by decide +kernel
theorem dX8_last_59 : decode cX8_last 59 = .ok (.invokestatic 161, 3) := by decide +kernel
theorem dX8_last_62 : decode cX8_last 62 = .ok (.lreturn, 1) := by decide +kernel
theorem dX8_netted_0 : decode cX8_netted 0 = .ok (.aload_n 0, 1) := by decide +kernel
theorem dX8_netted_1 : decode cX8_netted 1 = .ok (.getfield 10, 3) := by decide +kernel
theorem dX8_netted_4 : decode cX8_netted 4 = .ok (.getfield 59, 3) := by decide +kernel
theorem dX8_netted_7 : decode cX8_netted 7 = .ok (.iload_n 1, 1) := by decide +kernel
theorem dX8_netted_8 : decode cX8_netted 8 = .ok (.invokevirtual 73, 3) := by decide +kernel
theorem dX8_netted_11 : decode cX8_netted 11 = .ok (.ifCond .ne 5, 3) := by decide +kernel
theorem dX8_netted_14 : decode cX8_netted 14 = .ok (.iconst (-1), 1) := by decide +kernel
theorem dX8_netted_15 : decode cX8_netted 15 = .ok (.ireturn, 1) := by decide +kernel
theorem dX8_netted_16 : decode cX8_netted 16 = .ok (.aload_n 0, 1) := by decide +kernel
theorem dX8_netted_17 : decode cX8_netted 17 = .ok (.getfield 10, 3) := by decide +kernel
theorem dX8_netted_20 : decode cX8_netted 20 = .ok (.getfield 59, 3) := by decide +kernel
theorem dX8_netted_23 : decode cX8_netted 23 = .ok (.iload_n 1, 1) := by decide +kernel
theorem dX8_netted_24 : decode cX8_netted 24 = .ok (.invokevirtual 175, 3) := by decide +kernel
theorem dX8_netted_27 : decode cX8_netted 27 = .ok (.sipush 1000, 3) := by decide +kernel
theorem dX8_netted_30 : decode cX8_netted 30 = .ok (.iadd, 1) := by decide +kernel
theorem dX8_netted_31 : decode cX8_netted 31 = .ok (.ireturn, 1) := by decide +kernel
theorem dX8_hands_0 : decode cX8_hands 0 = .ok (.aload_n 0, 1) := by decide +kernel
theorem dX8_hands_1 : decode cX8_hands 1 = .ok (.getfield 51, 3) := by decide +kernel
theorem dX8_hands_4 : decode cX8_hands 4 = .ok (.aload_n 0, 1) := by decide +kernel
theorem dX8_hands_5 : decode cX8_hands 5 = .ok (.getfield 10, 3) := by decide +kernel
theorem dX8_hands_8 : decode cX8_hands 8 = .ok (.getfield 59, 3) := by decide +kernel
theorem dX8_hands_11 : decode cX8_hands 11 = .ok (.invokevirtual 179, 3) := by decide +kernel
theorem dX8_hands_14 : decode cX8_hands 14 = .ok (.ireturn, 1) := by decide +kernel
theorem dX8_isPlan_0 : decode cX8_isPlan 0 = .ok (.iload_n 0, 1) := by decide +kernel
theorem dX8_isPlan_1 : decode cX8_isPlan 1 = .ok (.iconst 0, 1) := by decide +kernel
theorem dX8_isPlan_2 : decode cX8_isPlan 2 = .ok (.bipush 9, 2) := by decide +kernel
theorem dX8_isPlan_4 : decode cX8_isPlan 4 = .ok (.invokestatic 55, 3) := by decide +kernel
theorem dX8_isPlan_7 : decode cX8_isPlan 7 = .ok (.ifCond .eq 17, 3) := by decide +kernel
theorem dX8_isPlan_10 : decode cX8_isPlan 10 = .ok (.iload_n 1, 1) := by decide +kernel
theorem dX8_isPlan_11 : decode cX8_isPlan 11 = .ok (.iconst 0, 1) := by decide +kernel
theorem dX8_isPlan_12 : decode cX8_isPlan 12 = .ok (.bipush 8, 2) := by decide +kernel
theorem dX8_isPlan_14 : decode cX8_isPlan 14 = .ok (.invokestatic 55, 3) := by decide +kernel
theorem dX8_isPlan_17 : decode cX8_isPlan 17 = .ok (.ifCond .eq 7, 3) := by decide +kernel
theorem dX8_isPlan_20 : decode cX8_isPlan 20 = .ok (.iconst 1, 1) := by decide +kernel
theorem dX8_isPlan_21 : decode cX8_isPlan 21 = .ok (.goto 4, 3) := by decide +kernel
theorem dX8_isPlan_24 : decode cX8_isPlan 24 = .ok (.iconst 0, 1) := by decide +kernel
theorem dX8_isPlan_25 : decode cX8_isPlan 25 = .ok (.ireturn, 1) := by decide +kernel
theorem dX8_match_0 : decode cX8_match 0 = .ok (.aload_n 0, 1) := by decide +kernel
theorem dX8_match_1 : decode cX8_match 1 = .ok (.iload_n 1, 1) := by decide +kernel
theorem dX8_match_2 : decode cX8_match 2 = .ok (.invokevirtual 183, 3) := by decide +kernel
theorem dX8_match_5 : decode cX8_match 5 = .ok (.ifCond .eq 12, 3) := by decide +kernel
theorem dX8_match_8 : decode cX8_match 8 = .ok (.iload_n 2, 1) := by decide +kernel
theorem dX8_match_9 : decode cX8_match 9 = .ok (.iconst 0, 1) := by decide +kernel
theorem dX8_match_10 : decode cX8_match 10 = .ok (.iconst 1, 1) := by decide +kernel
theorem dX8_match_11 : decode cX8_match 11 = .ok (.invokestatic 55, 3) := by decide +kernel
theorem dX8_match_14 : decode cX8_match 14 = .ok (.ifCond .ne 6, 3) := by decide +kernel
theorem dX8_match_17 : decode cX8_match 17 = .ok (.bipush (-2), 2) := by decide +kernel
theorem dX8_match_19 : decode cX8_match 19 = .ok (.ireturn, 1) := by decide +kernel
theorem dX8_match_20 : decode cX8_match 20 = .ok (.aload_n 0, 1) := by decide +kernel
theorem dX8_match_21 : decode cX8_match 21 = .ok (.getfield 44, 3) := by decide +kernel
theorem dX8_match_24 : decode cX8_match 24 = .ok (.aload_n 0, 1) := by decide +kernel
theorem dX8_match_25 : decode cX8_match 25 = .ok (.getfield 10, 3) := by decide +kernel
theorem dX8_match_28 : decode cX8_match 28 = .ok (.getfield 59, 3) := by decide +kernel
theorem dX8_match_31 : decode cX8_match 31 = .ok (.iload_n 1, 1) := by decide +kernel
theorem dX8_match_32 : decode cX8_match 32 = .ok (.invokevirtual 186, 3) := by decide +kernel
theorem dX8_match_35 : decode cX8_match 35 = .ok (.iload_n 2, 1) := by decide +kernel
theorem dX8_match_36 : decode cX8_match 36 = .ok (.ifCond .ne 15, 3) := by decide +kernel
theorem dX8_match_39 : decode cX8_match 39 = .ok (.aload_n 0, 1) := by decide +kernel
theorem dX8_match_40 : decode cX8_match 40 = .ok (.getfield 44, 3) := by decide +kernel
theorem dX8_match_43 : decode cX8_match 43 = .ok (.getfield 190, 3) := by decide +kernel
theorem dX8_match_46 : decode cX8_match 46 = .ok (.iconst 0, 1) := by decide +kernel
theorem dX8_match_47 : decode cX8_match 47 = .ok (.iaload, 1) := by decide +kernel
theorem dX8_match_48 : decode cX8_match 48 = .ok (.goto 12, 3) := by decide +kernel
theorem dX8_match_51 : decode cX8_match 51 = .ok (.aload_n 0, 1) := by decide +kernel
theorem dX8_match_52 : decode cX8_match 52 = .ok (.getfield 44, 3) := by decide +kernel
theorem dX8_match_55 : decode cX8_match 55 = .ok (.getfield 193, 3) := by decide +kernel
theorem dX8_match_58 : decode cX8_match 58 = .ok (.iconst 0, 1) := by decide +kernel
theorem dX8_match_59 : decode cX8_match 59 = .ok (.iaload, 1) := by decide +kernel
theorem dX8_match_60 : decode cX8_match 60 = .ok (.ireturn, 1) := by decide +kernel
theorem dX8_wrote_0 : decode cX8_wrote 0 = .ok (.aload_n 0, 1) := by decide +kernel
theorem dX8_wrote_1 : decode cX8_wrote 1 = .ok (.iload_n 1, 1) := by decide +kernel
theorem dX8_wrote_2 : decode cX8_wrote 2 = .ok (.invokevirtual 183, 3) := by decide +kernel
theorem dX8_wrote_5 : decode cX8_wrote 5 = .ok (.ifCond .eq 23, 3) := by decide +kernel
theorem dX8_wrote_8 : decode cX8_wrote 8 = .ok (.iload_n 2, 1) := by decide +kernel
theorem dX8_wrote_9 : decode cX8_wrote 9 = .ok (.iconst 0, 1) := by decide +kernel
theorem dX8_wrote_10 : decode cX8_wrote 10 = .ok (.aload_n 0, 1) := by decide +kernel
theorem dX8_wrote_11 : decode cX8_wrote 11 = .ok (.getfield 10, 3) := by decide +kernel
theorem dX8_wrote_14 : decode cX8_wrote 14 = .ok (.getfield 59, 3) := by decide +kernel
theorem dX8_wrote_17 : decode cX8_wrote 17 = .ok (.invokevirtual 69, 3) := by decide +kernel
theorem dX8_wrote_20 : decode cX8_wrote 20 = .ok (.iconst 1, 1) := by decide +kernel
theorem dX8_wrote_21 : decode cX8_wrote 21 = .ok (.isub, 1) := by decide +kernel
theorem dX8_wrote_22 : decode cX8_wrote 22 = .ok (.invokestatic 55, 3) := by decide +kernel
theorem dX8_wrote_25 : decode cX8_wrote 25 = .ok (.ifCond .ne 6, 3) := by decide +kernel
theorem dX8_wrote_28 : decode cX8_wrote 28 = .ok (.bipush (-2), 2) := by decide +kernel
theorem dX8_wrote_30 : decode cX8_wrote 30 = .ok (.ireturn, 1) := by decide +kernel
theorem dX8_wrote_31 : decode cX8_wrote 31 = .ok (.aload_n 0, 1) := by decide +kernel
theorem dX8_wrote_32 : decode cX8_wrote 32 = .ok (.getfield 44, 3) := by decide +kernel
theorem dX8_wrote_35 : decode cX8_wrote 35 = .ok (.aload_n 0, 1) := by decide +kernel
theorem dX8_wrote_36 : decode cX8_wrote 36 = .ok (.getfield 10, 3) := by decide +kernel
theorem dX8_wrote_39 : decode cX8_wrote 39 = .ok (.getfield 59, 3) := by decide +kernel
theorem dX8_wrote_42 : decode cX8_wrote 42 = .ok (.iload_n 1, 1) := by decide +kernel
theorem dX8_wrote_43 : decode cX8_wrote 43 = .ok (.invokevirtual 186, 3) := by decide +kernel
theorem dX8_wrote_46 : decode cX8_wrote 46 = .ok (.aload_n 0, 1) := by decide +kernel
theorem dX8_wrote_47 : decode cX8_wrote 47 = .ok (.getfield 44, 3) := by decide +kernel
theorem dX8_wrote_50 : decode cX8_wrote 50 = .ok (.aload_n 0, 1) := by decide +kernel
theorem dX8_wrote_51 : decode cX8_wrote 51 = .ok (.getfield 10, 3) := by decide +kernel
theorem dX8_wrote_54 : decode cX8_wrote 54 = .ok (.getfield 59, 3) := by decide +kernel
theorem dX8_wrote_57 : decode cX8_wrote 57 = .ok (.iload_n 2, 1) := by decide +kernel
theorem dX8_wrote_58 : decode cX8_wrote 58 = .ok (.invokevirtual 196, 3) := by decide +kernel
theorem dX8_wrote_61 : decode cX8_wrote 61 = .ok (.ireturn, 1) := by decide +kernel
theorem dX8_compare_0 : decode cX8_compare 0 = .ok (.iload_n 1, 1) := by decide +kernel
theorem dX8_compare_1 : decode cX8_compare 1 = .ok (.iconst 1, 1) := by decide +kernel
theorem dX8_compare_2 : decode cX8_compare 2 = .ok (.bipush 99, 2) := by decide +kernel
theorem dX8_compare_4 : decode cX8_compare 4 = .ok (.invokestatic 55, 3) := by decide +kernel
theorem dX8_compare_7 : decode cX8_compare 7 = .ok (.ifCond .ne 6, 3) := by decide +kernel
theorem dX8_compare_10 : decode cX8_compare 10 = .ok (.bipush (-2), 2) := by decide +kernel
theorem dX8_compare_12 : decode cX8_compare 12 = .ok (.ireturn, 1) := by decide +kernel
theorem dX8_compare_13 : decode cX8_compare 13 = .ok (.iconst 0, 1) := by decide +kernel
theorem dX8_compare_14 : decode cX8_compare 14 = .ok (.istore_n 2, 1) := by decide +kernel
theorem dX8_compare_15 : decode cX8_compare 15 = .ok (.iconst 1, 1) := by decide +kernel
theorem dX8_compare_16 : decode cX8_compare 16 = .ok (.istore_n 3, 1) := by decide +kernel
theorem dX8_compare_17 : decode cX8_compare 17 = .ok (.iload_n 3, 1) := by decide +kernel
theorem dX8_compare_18 : decode cX8_compare 18 = .ok (.iload_n 1, 1) := by decide +kernel
theorem dX8_compare_19 : decode cX8_compare 19 = .ok (.iconst 1, 1) := by decide +kernel
theorem dX8_compare_20 : decode cX8_compare 20 = .ok (.iadd, 1) := by decide +kernel
theorem dX8_compare_21 : decode cX8_compare 21 = .ok (.if_icmp .ge 13, 3) := by decide +kernel
theorem dX8_compare_24 : decode cX8_compare 24 = .ok (.iinc 2 1, 3) := by decide +kernel
theorem dX8_compare_27 : decode cX8_compare 27 = .ok (.iload_n 3, 1) := by decide +kernel
theorem dX8_compare_28 : decode cX8_compare 28 = .ok (.iconst 2, 1) := by decide +kernel
theorem dX8_compare_29 : decode cX8_compare 29 = .ok (.imul, 1) := by decide +kernel
theorem dX8_compare_30 : decode cX8_compare 30 = .ok (.istore_n 3, 1) := by decide +kernel
theorem dX8_compare_31 : decode cX8_compare 31 = .ok (.goto (-14), 3) := by decide +kernel
theorem dX8_compare_34 : decode cX8_compare 34 = .ok (.iload_n 2, 1) := by decide +kernel
theorem dX8_compare_35 : decode cX8_compare 35 = .ok (.ireturn, 1) := by decide +kernel
theorem dX8_blots_0 : decode cX8_blots 0 = .ok (.iload_n 1, 1) := by decide +kernel
theorem dX8_blots_1 : decode cX8_blots 1 = .ok (.iconst 0, 1) := by decide +kernel
theorem dX8_blots_2 : decode cX8_blots 2 = .ok (.bipush 9, 2) := by decide +kernel
theorem dX8_blots_4 : decode cX8_blots 4 = .ok (.invokestatic 55, 3) := by decide +kernel
theorem dX8_blots_7 : decode cX8_blots 7 = .ok (.ifCond .eq 32, 3) := by decide +kernel
theorem dX8_blots_10 : decode cX8_blots 10 = .ok (.iload_n 2, 1) := by decide +kernel
theorem dX8_blots_11 : decode cX8_blots 11 = .ok (.iconst 0, 1) := by decide +kernel
theorem dX8_blots_12 : decode cX8_blots 12 = .ok (.iload_n 1, 1) := by decide +kernel
theorem dX8_blots_13 : decode cX8_blots 13 = .ok (.invokestatic 55, 3) := by decide +kernel
theorem dX8_blots_16 : decode cX8_blots 16 = .ok (.ifCond .eq 23, 3) := by decide +kernel
theorem dX8_blots_19 : decode cX8_blots 19 = .ok (.iload_n 3, 1) := by decide +kernel
theorem dX8_blots_20 : decode cX8_blots 20 = .ok (.iconst 0, 1) := by decide +kernel
theorem dX8_blots_21 : decode cX8_blots 21 = .ok (.bipush 10, 2) := by decide +kernel
theorem dX8_blots_23 : decode cX8_blots 23 = .ok (.invokestatic 55, 3) := by decide +kernel
theorem dX8_blots_26 : decode cX8_blots 26 = .ok (.ifCond .eq 13, 3) := by decide +kernel
theorem dX8_blots_29 : decode cX8_blots 29 = .ok (.iload 4, 2) := by decide +kernel
theorem dX8_blots_31 : decode cX8_blots 31 = .ok (.iconst 0, 1) := by decide +kernel
theorem dX8_blots_32 : decode cX8_blots 32 = .ok (.iconst 1, 1) := by decide +kernel
theorem dX8_blots_33 : decode cX8_blots 33 = .ok (.invokestatic 55, 3) := by decide +kernel
theorem dX8_blots_36 : decode cX8_blots 36 = .ok (.ifCond .ne 7, 3) := by decide +kernel
theorem dX8_blots_39 : decode cX8_blots 39 = .ok (.ldc2_w 147, 3) := by decide +kernel
theorem dX8_blots_42 : decode cX8_blots 42 = .ok (.lreturn, 1) := by decide +kernel
theorem dX8_blots_43 : decode cX8_blots 43 = .ok (.iload_n 1, 1) := by decide +kernel
theorem dX8_blots_44 : decode cX8_blots 44 = .ok (.iload_n 2, 1) := by decide +kernel
theorem dX8_blots_45 : decode cX8_blots 45 = .ok (.isub, 1) := by decide +kernel
theorem dX8_blots_46 : decode cX8_blots 46 = .ok (.iload_n 1, 1) := by decide +kernel
theorem dX8_blots_47 : decode cX8_blots 47 = .ok (.iload_n 3, 1) := by decide +kernel
theorem dX8_blots_48 : decode cX8_blots 48 = .ok (.invokestatic 168, 3) := by decide +kernel
theorem dX8_blots_51 : decode cX8_blots 51 = .ok (.bipush 10, 2) := by decide +kernel
theorem dX8_blots_53 : decode cX8_blots 53 = .ok (.iload_n 1, 1) := by decide +kernel
theorem dX8_blots_54 : decode cX8_blots 54 = .ok (.invokestatic 172, 3) := by decide +kernel
theorem dX8_blots_57 : decode cX8_blots 57 = .ok (.iload 4, 2) := by decide +kernel
theorem dX8_blots_59 : decode cX8_blots 59 = .ok (.invokestatic 161, 3) := by decide +kernel
theorem dX8_blots_62 : decode cX8_blots 62 = .ok (.lreturn, 1) := by decide +kernel
theorem dX8_seen_0 : decode cX8_seen 0 = .ok (.iload_n 1, 1) := by decide +kernel
theorem dX8_seen_1 : decode cX8_seen 1 = .ok (.iconst 0, 1) := by decide +kernel
theorem dX8_seen_2 : decode cX8_seen 2 = .ok (.bipush 9, 2) := by decide +kernel
theorem dX8_seen_4 : decode cX8_seen 4 = .ok (.invokestatic 55, 3) := by decide +kernel
theorem dX8_seen_7 : decode cX8_seen 7 = .ok (.ifCond .eq 23, 3) := by decide +kernel
theorem dX8_seen_10 : decode cX8_seen 10 = .ok (.iload_n 2, 1) := by decide +kernel
theorem dX8_seen_11 : decode cX8_seen 11 = .ok (.iconst 1, 1) := by decide +kernel
theorem dX8_seen_12 : decode cX8_seen 12 = .ok (.bipush 8, 2) := by decide +kernel
theorem dX8_seen_14 : decode cX8_seen 14 = .ok (.invokestatic 55, 3) := by decide +kernel
theorem dX8_seen_17 : decode cX8_seen 17 = .ok (.ifCond .eq 13, 3) := by decide +kernel
theorem dX8_seen_20 : decode cX8_seen 20 = .ok (.iload_n 3, 1) := by decide +kernel
theorem dX8_seen_21 : decode cX8_seen 21 = .ok (.iconst 1, 1) := by decide +kernel
theorem dX8_seen_22 : decode cX8_seen 22 = .ok (.bipush 9, 2) := by decide +kernel
theorem dX8_seen_24 : decode cX8_seen 24 = .ok (.invokestatic 55, 3) := by decide +kernel
theorem dX8_seen_27 : decode cX8_seen 27 = .ok (.ifCond .ne 6, 3) := by decide +kernel
theorem dX8_seen_30 : decode cX8_seen 30 = .ok (.bipush (-2), 2) := by decide +kernel
theorem dX8_seen_32 : decode cX8_seen 32 = .ok (.ireturn, 1) := by decide +kernel
theorem dX8_seen_33 : decode cX8_seen 33 = .ok (.aload_n 0, 1) := by decide +kernel
theorem dX8_seen_34 : decode cX8_seen 34 = .ok (.getfield 10, 3) := by decide +kernel
theorem dX8_seen_37 : decode cX8_seen 37 = .ok (.getfield 200, 3) := by decide +kernel
theorem dX8_seen_40 : decode cX8_seen 40 = .ok (.bipush 8, 2) := by decide +kernel
theorem dX8_seen_42 : decode cX8_seen 42 = .ok (.if_icmp .lt 6, 3) := by decide +kernel
theorem dX8_seen_45 : decode cX8_seen 45 = .ok (.bipush (-4), 2) := by decide +kernel
theorem dX8_seen_47 : decode cX8_seen 47 = .ok (.ireturn, 1) := by decide +kernel
theorem dX8_seen_48 : decode cX8_seen 48 = .ok (.aload_n 0, 1) := by decide +kernel
theorem dX8_seen_49 : decode cX8_seen 49 = .ok (.getfield 10, 3) := by decide +kernel
theorem dX8_seen_52 : decode cX8_seen 52 = .ok (.iload_n 1, 1) := by decide +kernel
theorem dX8_seen_53 : decode cX8_seen 53 = .ok (.iload_n 2, 1) := by decide +kernel
theorem dX8_seen_54 : decode cX8_seen 54 = .ok (.iload_n 3, 1) := by decide +kernel
theorem dX8_seen_55 : decode cX8_seen 55 = .ok (.iload 4, 2) := by decide +kernel
theorem dX8_seen_57 : decode cX8_seen 57 = .ok (.invokevirtual 203, 3) := by decide +kernel
theorem dX8_seen_60 : decode cX8_seen 60 = .ok (.aload_n 0, 1) := by decide +kernel
theorem dX8_seen_61 : decode cX8_seen 61 = .ok (.getfield 10, 3) := by decide +kernel
theorem dX8_seen_64 : decode cX8_seen 64 = .ok (.getfield 200, 3) := by decide +kernel
theorem dX8_seen_67 : decode cX8_seen 67 = .ok (.ireturn, 1) := by decide +kernel
theorem dX8_forget_0 : decode cX8_forget 0 = .ok (.aload_n 0, 1) := by decide +kernel
theorem dX8_forget_1 : decode cX8_forget 1 = .ok (.getfield 10, 3) := by decide +kernel
theorem dX8_forget_4 : decode cX8_forget 4 = .ok (.getfield 200, 3) := by decide +kernel
theorem dX8_forget_7 : decode cX8_forget 7 = .ok (.istore_n 1, 1) := by decide +kernel
theorem dX8_forget_8 : decode cX8_forget 8 = .ok (.aload_n 0, 1) := by decide +kernel
theorem dX8_forget_9 : decode cX8_forget 9 = .ok (.getfield 10, 3) := by decide +kernel
theorem dX8_forget_12 : decode cX8_forget 12 = .ok (.iconst 0, 1) := by decide +kernel
theorem dX8_forget_13 : decode cX8_forget 13 = .ok (.putfield 200, 3) := by decide +kernel
theorem dX8_forget_16 : decode cX8_forget 16 = .ok (.iload_n 1, 1) := by decide +kernel
theorem dX8_forget_17 : decode cX8_forget 17 = .ok (.ireturn, 1) := by decide +kernel
theorem dX8_signs_0 : decode cX8_signs 0 = .ok (.aload_n 0, 1) := by decide +kernel
theorem dX8_signs_1 : decode cX8_signs 1 = .ok (.getfield 37, 3) := by decide +kernel
theorem dX8_signs_4 : decode cX8_signs 4 = .ok (.aload_n 0, 1) := by decide +kernel
theorem dX8_signs_5 : decode cX8_signs 5 = .ok (.getfield 10, 3) := by decide +kernel
theorem dX8_signs_8 : decode cX8_signs 8 = .ok (.invokevirtual 149, 3) := by decide +kernel
theorem dX8_signs_11 : decode cX8_signs 11 = .ok (.aload_n 0, 1) := by decide +kernel
theorem dX8_signs_12 : decode cX8_signs 12 = .ok (.invokevirtual 207, 3) := by decide +kernel
theorem dX8_signs_15 : decode cX8_signs 15 = .ok (.ireturn, 1) := by decide +kernel
theorem dX8_watch_0 : decode cX8_watch 0 = .ok (.iload_n 1, 1) := by decide +kernel
theorem dX8_watch_1 : decode cX8_watch 1 = .ok (.iconst 0, 1) := by decide +kernel
theorem dX8_watch_2 : decode cX8_watch 2 = .ok (.iconst 1, 1) := by decide +kernel
theorem dX8_watch_3 : decode cX8_watch 3 = .ok (.invokestatic 55, 3) := by decide +kernel
theorem dX8_watch_6 : decode cX8_watch 6 = .ok (.ifCond .ne 6, 3) := by decide +kernel
theorem dX8_watch_9 : decode cX8_watch 9 = .ok (.bipush (-2), 2) := by decide +kernel
theorem dX8_watch_11 : decode cX8_watch 11 = .ok (.ireturn, 1) := by decide +kernel
theorem dX8_watch_12 : decode cX8_watch 12 = .ok (.aload_n 0, 1) := by decide +kernel
theorem dX8_watch_13 : decode cX8_watch 13 = .ok (.getfield 37, 3) := by decide +kernel
theorem dX8_watch_16 : decode cX8_watch 16 = .ok (.aload_n 0, 1) := by decide +kernel
theorem dX8_watch_17 : decode cX8_watch 17 = .ok (.getfield 10, 3) := by decide +kernel
theorem dX8_watch_20 : decode cX8_watch 20 = .ok (.invokevirtual 149, 3) := by decide +kernel
theorem dX8_watch_23 : decode cX8_watch 23 = .ok (.aload_n 0, 1) := by decide +kernel
theorem dX8_watch_24 : decode cX8_watch 24 = .ok (.invokevirtual 207, 3) := by decide +kernel
theorem dX8_watch_27 : decode cX8_watch 27 = .ok (.istore_n 2, 1) := by decide +kernel
theorem dX8_watch_28 : decode cX8_watch 28 = .ok (.iload_n 2, 1) := by decide +kernel
theorem dX8_watch_29 : decode cX8_watch 29 = .ok (.ifCond .ne 6, 3) := by decide +kernel
theorem dX8_watch_32 : decode cX8_watch 32 = .ok (.bipush (-6), 2) := by decide +kernel
theorem dX8_watch_34 : decode cX8_watch 34 = .ok (.ireturn, 1) := by decide +kernel
theorem dX8_watch_35 : decode cX8_watch 35 = .ok (.aload_n 0, 1) := by decide +kernel
theorem dX8_watch_36 : decode cX8_watch 36 = .ok (.iload_n 2, 1) := by decide +kernel
theorem dX8_watch_37 : decode cX8_watch 37 = .ok (.iload_n 1, 1) := by decide +kernel
theorem dX8_watch_38 : decode cX8_watch 38 = .ok (.invokevirtual 210, 3) := by decide +kernel
theorem dX8_watch_41 : decode cX8_watch 41 = .ok (.ireturn, 1) := by decide +kernel
theorem dX8_book_0 : decode cX8_book 0 = .ok (.iload_n 1, 1) := by decide +kernel
theorem dX8_book_1 : decode cX8_book 1 = .ok (.iconst 0, 1) := by decide +kernel
theorem dX8_book_2 : decode cX8_book 2 = .ok (.sipush 9999, 3) := by decide +kernel
theorem dX8_book_5 : decode cX8_book 5 = .ok (.invokestatic 55, 3) := by decide +kernel
theorem dX8_book_8 : decode cX8_book 8 = .ok (.ifCond .eq 22, 3) := by decide +kernel
theorem dX8_book_11 : decode cX8_book 11 = .ok (.iload_n 2, 1) := by decide +kernel
theorem dX8_book_12 : decode cX8_book 12 = .ok (.iconst 1, 1) := by decide +kernel
theorem dX8_book_13 : decode cX8_book 13 = .ok (.bipush 99, 2) := by decide +kernel
theorem dX8_book_15 : decode cX8_book 15 = .ok (.invokestatic 55, 3) := by decide +kernel
theorem dX8_book_18 : decode cX8_book 18 = .ok (.ifCond .eq 12, 3) := by decide +kernel
theorem dX8_book_21 : decode cX8_book 21 = .ok (.iload_n 3, 1) := by decide +kernel
theorem dX8_book_22 : decode cX8_book 22 = .ok (.iconst 0, 1) := by decide +kernel
theorem dX8_book_23 : decode cX8_book 23 = .ok (.iconst 2, 1) := by decide +kernel
theorem dX8_book_24 : decode cX8_book 24 = .ok (.invokestatic 55, 3) := by decide +kernel
theorem dX8_book_27 : decode cX8_book 27 = .ok (.ifCond .ne 6, 3) := by decide +kernel
theorem dX8_book_30 : decode cX8_book 30 = .ok (.bipush (-2), 2) := by decide +kernel
theorem dX8_book_32 : decode cX8_book 32 = .ok (.ireturn, 1) := by decide +kernel
theorem dX8_book_33 : decode cX8_book 33 = .ok (.aload_n 0, 1) := by decide +kernel
theorem dX8_book_34 : decode cX8_book 34 = .ok (.getfield 30, 3) := by decide +kernel
theorem dX8_book_37 : decode cX8_book 37 = .ok (.aload_n 0, 1) := by decide +kernel
theorem dX8_book_38 : decode cX8_book 38 = .ok (.getfield 10, 3) := by decide +kernel
theorem dX8_book_41 : decode cX8_book 41 = .ok (.getfield 59, 3) := by decide +kernel
theorem dX8_book_44 : decode cX8_book 44 = .ok (.iload_n 1, 1) := by decide +kernel
theorem dX8_book_45 : decode cX8_book 45 = .ok (.iload_n 2, 1) := by decide +kernel
theorem dX8_book_46 : decode cX8_book 46 = .ok (.invokevirtual 213, 3) := by decide +kernel
theorem dX8_book_49 : decode cX8_book 49 = .ok (.istore 4, 2) := by decide +kernel
theorem dX8_book_51 : decode cX8_book 51 = .ok (.iload_n 3, 1) := by decide +kernel
theorem dX8_book_52 : decode cX8_book 52 = .ok (.ifCond .ne 14, 3) := by decide +kernel
theorem dX8_book_55 : decode cX8_book 55 = .ok (.aload_n 0, 1) := by decide +kernel
theorem dX8_book_56 : decode cX8_book 56 = .ok (.getfield 30, 3) := by decide +kernel
theorem dX8_book_59 : decode cX8_book 59 = .ok (.getfield 114, 3) := by decide +kernel
theorem dX8_book_62 : decode cX8_book 62 = .ok (.invokevirtual 217, 3) := by decide +kernel
theorem dX8_book_65 : decode cX8_book 65 = .ok (.ireturn, 1) := by decide +kernel
theorem dX8_book_66 : decode cX8_book 66 = .ok (.iload_n 3, 1) := by decide +kernel
theorem dX8_book_67 : decode cX8_book 67 = .ok (.iconst 1, 1) := by decide +kernel
theorem dX8_book_68 : decode cX8_book 68 = .ok (.if_icmp .ne 8, 3) := by decide +kernel
theorem dX8_book_71 : decode cX8_book 71 = .ok (.iload 4, 2) := by decide +kernel
theorem dX8_book_73 : decode cX8_book 73 = .ok (.goto 16, 3) := by decide +kernel
theorem dX8_book_76 : decode cX8_book 76 = .ok (.aload_n 0, 1) := by decide +kernel
theorem dX8_book_77 : decode cX8_book 77 = .ok (.getfield 30, 3) := by decide +kernel
theorem dX8_book_80 : decode cX8_book 80 = .ok (.getfield 114, 3) := by decide +kernel
theorem dX8_book_83 : decode cX8_book 83 = .ok (.invokevirtual 220, 3) := by decide +kernel
theorem dX8_book_86 : decode cX8_book 86 = .ok (.invokestatic 223, 3) := by decide +kernel
theorem dX8_book_89 : decode cX8_book 89 = .ok (.ireturn, 1) := by decide +kernel
theorem dX8_image_0 : decode cX8_image 0 = .ok (.iload_n 1, 1) := by decide +kernel
theorem dX8_image_1 : decode cX8_image 1 = .ok (.iconst 0, 1) := by decide +kernel
theorem dX8_image_2 : decode cX8_image 2 = .ok (.iconst 1, 1) := by decide +kernel
theorem dX8_image_3 : decode cX8_image 3 = .ok (.invokestatic 55, 3) := by decide +kernel
theorem dX8_image_6 : decode cX8_image 6 = .ok (.ifCond .ne 6, 3) := by decide +kernel
theorem dX8_image_9 : decode cX8_image 9 = .ok (.bipush (-2), 2) := by decide +kernel
theorem dX8_image_11 : decode cX8_image 11 = .ok (.ireturn, 1) := by decide +kernel
theorem dX8_image_12 : decode cX8_image 12 = .ok (.aload_n 0, 1) := by decide +kernel
theorem dX8_image_13 : decode cX8_image 13 = .ok (.getfield 16, 3) := by decide +kernel
theorem dX8_image_16 : decode cX8_image 16 = .ok (.iload_n 1, 1) := by decide +kernel
theorem dX8_image_17 : decode cX8_image 17 = .ok (.aaload, 1) := by decide +kernel
theorem dX8_image_18 : decode cX8_image 18 = .ok (.aload_n 0, 1) := by decide +kernel
theorem dX8_image_19 : decode cX8_image 19 = .ok (.getfield 10, 3) := by decide +kernel
theorem dX8_image_22 : decode cX8_image 22 = .ok (.invokevirtual 228, 3) := by decide +kernel
theorem dX8_image_25 : decode cX8_image 25 = .ok (.aload_n 0, 1) := by decide +kernel
theorem dX8_image_26 : decode cX8_image 26 = .ok (.getfield 16, 3) := by decide +kernel
theorem dX8_image_29 : decode cX8_image 29 = .ok (.iload_n 1, 1) := by decide +kernel
theorem dX8_image_30 : decode cX8_image 30 = .ok (.aaload, 1) := by decide +kernel
theorem dX8_image_31 : decode cX8_image 31 = .ok (.iconst 1, 1) := by decide +kernel
theorem dX8_image_32 : decode cX8_image 32 = .ok (.putfield 230, 3) := by decide +kernel
theorem dX8_image_35 : decode cX8_image 35 = .ok (.iconst 1, 1) := by decide +kernel
theorem dX8_image_36 : decode cX8_image 36 = .ok (.ireturn, 1) := by decide +kernel
theorem dX8_restore_0 : decode cX8_restore 0 = .ok (.iload_n 1, 1) := by decide +kernel
theorem dX8_restore_1 : decode cX8_restore 1 = .ok (.iconst 0, 1) := by decide +kernel
theorem dX8_restore_2 : decode cX8_restore 2 = .ok (.iconst 1, 1) := by decide +kernel
theorem dX8_restore_3 : decode cX8_restore 3 = .ok (.invokestatic 55, 3) := by decide +kernel
theorem dX8_restore_6 : decode cX8_restore 6 = .ok (.ifCond .ne 6, 3) := by decide +kernel
theorem dX8_restore_9 : decode cX8_restore 9 = .ok (.bipush (-2), 2) := by decide +kernel
theorem dX8_restore_11 : decode cX8_restore 11 = .ok (.ireturn, 1) := by decide +kernel
theorem dX8_restore_12 : decode cX8_restore 12 = .ok (.aload_n 0, 1) := by decide +kernel
theorem dX8_restore_13 : decode cX8_restore 13 = .ok (.getfield 16, 3) := by decide +kernel
theorem dX8_restore_16 : decode cX8_restore 16 = .ok (.iload_n 1, 1) := by decide +kernel
theorem dX8_restore_17 : decode cX8_restore 17 = .ok (.aaload, 1) := by decide +kernel
theorem dX8_restore_18 : decode cX8_restore 18 = .ok (.getfield 230, 3) := by decide +kernel
theorem dX8_restore_21 : decode cX8_restore 21 = .ok (.ifCond .ne 6, 3) := by decide +kernel
theorem dX8_restore_24 : decode cX8_restore 24 = .ok (.bipush (-3), 2) := by decide +kernel
theorem dX8_restore_26 : decode cX8_restore 26 = .ok (.ireturn, 1) := by decide +kernel
theorem dX8_restore_27 : decode cX8_restore 27 = .ok (.aload_n 0, 1) := by decide +kernel
theorem dX8_restore_28 : decode cX8_restore 28 = .ok (.getfield 10, 3) := by decide +kernel
theorem dX8_restore_31 : decode cX8_restore 31 = .ok (.aload_n 0, 1) := by decide +kernel
theorem dX8_restore_32 : decode cX8_restore 32 = .ok (.getfield 16, 3) := by decide +kernel
theorem dX8_restore_35 : decode cX8_restore 35 = .ok (.iload_n 1, 1) := by decide +kernel
theorem dX8_restore_36 : decode cX8_restore 36 = .ok (.aaload, 1) := by decide +kernel
theorem dX8_restore_37 : decode cX8_restore 37 = .ok (.invokevirtual 228, 3) := by decide +kernel
theorem dX8_restore_40 : decode cX8_restore 40 = .ok (.aload_n 0, 1) := by decide +kernel
theorem dX8_restore_41 : decode cX8_restore 41 = .ok (.getfield 37, 3) := by decide +kernel
theorem dX8_restore_44 : decode cX8_restore 44 = .ok (.invokevirtual 88, 3) := by decide +kernel
theorem dX8_restore_47 : decode cX8_restore 47 = .ok (.iconst 1, 1) := by decide +kernel
theorem dX8_restore_48 : decode cX8_restore 48 = .ok (.ireturn, 1) := by decide +kernel
theorem dX8_told_0 : decode cX8_told 0 = .ok (.iload_n 1, 1) := by decide +kernel
theorem dX8_told_1 : decode cX8_told 1 = .ok (.ifCond .ne 11, 3) := by decide +kernel
theorem dX8_told_4 : decode cX8_told 4 = .ok (.aload_n 0, 1) := by decide +kernel
theorem dX8_told_5 : decode cX8_told 5 = .ok (.getfield 23, 3) := by decide +kernel
theorem dX8_told_8 : decode cX8_told 8 = .ok (.getfield 91, 3) := by decide +kernel
theorem dX8_told_11 : decode cX8_told 11 = .ok (.ireturn, 1) := by decide +kernel
theorem dX8_told_12 : decode cX8_told 12 = .ok (.iload_n 1, 1) := by decide +kernel
theorem dX8_told_13 : decode cX8_told 13 = .ok (.iconst 1, 1) := by decide +kernel
theorem dX8_told_14 : decode cX8_told 14 = .ok (.if_icmp .ne 14, 3) := by decide +kernel
theorem dX8_told_17 : decode cX8_told 17 = .ok (.aload_n 0, 1) := by decide +kernel
theorem dX8_told_18 : decode cX8_told 18 = .ok (.getfield 10, 3) := by decide +kernel
theorem dX8_told_21 : decode cX8_told 21 = .ok (.getfield 59, 3) := by decide +kernel
theorem dX8_told_24 : decode cX8_told 24 = .ok (.getfield 234, 3) := by decide +kernel
theorem dX8_told_27 : decode cX8_told 27 = .ok (.ireturn, 1) := by decide +kernel
theorem dX8_told_28 : decode cX8_told 28 = .ok (.iload_n 1, 1) := by decide +kernel
theorem dX8_told_29 : decode cX8_told 29 = .ok (.iconst 2, 1) := by decide +kernel
theorem dX8_told_30 : decode cX8_told 30 = .ok (.if_icmp .ne 14, 3) := by decide +kernel
theorem dX8_told_33 : decode cX8_told 33 = .ok (.aload_n 0, 1) := by decide +kernel
theorem dX8_told_34 : decode cX8_told 34 = .ok (.getfield 10, 3) := by decide +kernel
theorem dX8_told_37 : decode cX8_told 37 = .ok (.getfield 59, 3) := by decide +kernel
theorem dX8_told_40 : decode cX8_told 40 = .ok (.getfield 237, 3) := by decide +kernel
theorem dX8_told_43 : decode cX8_told 43 = .ok (.ireturn, 1) := by decide +kernel
theorem dX8_told_44 : decode cX8_told 44 = .ok (.iload_n 1, 1) := by decide +kernel
theorem dX8_told_45 : decode cX8_told 45 = .ok (.iconst 3, 1) := by decide +kernel
theorem dX8_told_46 : decode cX8_told 46 = .ok (.if_icmp .ne 11, 3) := by decide +kernel
theorem dX8_told_49 : decode cX8_told 49 = .ok (.aload_n 0, 1) := by decide +kernel
theorem dX8_told_50 : decode cX8_told 50 = .ok (.getfield 10, 3) := by decide +kernel
theorem dX8_told_53 : decode cX8_told 53 = .ok (.getfield 200, 3) := by decide +kernel
theorem dX8_told_56 : decode cX8_told 56 = .ok (.ireturn, 1) := by decide +kernel
theorem dX8_told_57 : decode cX8_told 57 = .ok (.iload_n 1, 1) := by decide +kernel
theorem dX8_told_58 : decode cX8_told 58 = .ok (.bipush 11, 2) := by decide +kernel
theorem dX8_told_60 : decode cX8_told 60 = .ok (.bipush 19, 2) := by decide +kernel
theorem dX8_told_62 : decode cX8_told 62 = .ok (.invokestatic 55, 3) := by decide +kernel
theorem dX8_told_65 : decode cX8_told 65 = .ok (.ifCond .eq 16, 3) := by decide +kernel
theorem dX8_told_68 : decode cX8_told 68 = .ok (.aload_n 0, 1) := by decide +kernel
theorem dX8_told_69 : decode cX8_told 69 = .ok (.getfield 10, 3) := by decide +kernel
theorem dX8_told_72 : decode cX8_told 72 = .ok (.getfield 81, 3) := by decide +kernel
theorem dX8_told_75 : decode cX8_told 75 = .ok (.iload_n 1, 1) := by decide +kernel
theorem dX8_told_76 : decode cX8_told 76 = .ok (.bipush 10, 2) := by decide +kernel
theorem dX8_told_78 : decode cX8_told 78 = .ok (.isub, 1) := by decide +kernel
theorem dX8_told_79 : decode cX8_told 79 = .ok (.iaload, 1) := by decide +kernel
theorem dX8_told_80 : decode cX8_told 80 = .ok (.ireturn, 1) := by decide +kernel
theorem dX8_told_81 : decode cX8_told 81 = .ok (.iload_n 1, 1) := by decide +kernel
theorem dX8_told_82 : decode cX8_told 82 = .ok (.bipush 20, 2) := by decide +kernel
theorem dX8_told_84 : decode cX8_told 84 = .ok (.bipush 25, 2) := by decide +kernel
theorem dX8_told_86 : decode cX8_told 86 = .ok (.invokestatic 55, 3) := by decide +kernel
theorem dX8_told_89 : decode cX8_told 89 = .ok (.ifCond .eq 36, 3) := by decide +kernel
theorem dX8_told_92 : decode cX8_told 92 = .ok (.aload_n 0, 1) := by decide +kernel
theorem dX8_told_93 : decode cX8_told 93 = .ok (.getfield 10, 3) := by decide +kernel
theorem dX8_told_96 : decode cX8_told 96 = .ok (.getfield 59, 3) := by decide +kernel
theorem dX8_told_99 : decode cX8_told 99 = .ok (.iload_n 1, 1) := by decide +kernel
theorem dX8_told_100 : decode cX8_told 100 = .ok (.bipush 20, 2) := by decide +kernel
theorem dX8_told_102 : decode cX8_told 102 = .ok (.isub, 1) := by decide +kernel
theorem dX8_told_103 : decode cX8_told 103 = .ok (.invokevirtual 73, 3) := by decide +kernel
theorem dX8_told_106 : decode cX8_told 106 = .ok (.ifCond .eq 19, 3) := by decide +kernel
theorem dX8_told_109 : decode cX8_told 109 = .ok (.aload_n 0, 1) := by decide +kernel
theorem dX8_told_110 : decode cX8_told 110 = .ok (.getfield 10, 3) := by decide +kernel
theorem dX8_told_113 : decode cX8_told 113 = .ok (.getfield 59, 3) := by decide +kernel
theorem dX8_told_116 : decode cX8_told 116 = .ok (.getfield 240, 3) := by decide +kernel
theorem dX8_told_119 : decode cX8_told 119 = .ok (.iload_n 1, 1) := by decide +kernel
theorem dX8_told_120 : decode cX8_told 120 = .ok (.bipush 20, 2) := by decide +kernel
theorem dX8_told_122 : decode cX8_told 122 = .ok (.isub, 1) := by decide +kernel
theorem dX8_told_123 : decode cX8_told 123 = .ok (.iaload, 1) := by decide +kernel
theorem dX8_told_124 : decode cX8_told 124 = .ok (.ireturn, 1) := by decide +kernel
theorem dX8_told_125 : decode cX8_told 125 = .ok (.bipush (-2), 2) := by decide +kernel
theorem dX8_told_127 : decode cX8_told 127 = .ok (.ireturn, 1) := by decide +kernel
theorem dX8_areTails_0 : decode cX8_areTails 0 = .ok (.iload_n 1, 1) := by decide +kernel
theorem dX8_areTails_1 : decode cX8_areTails 1 = .ok (.ifCond .lt 28, 3) := by decide +kernel
theorem dX8_areTails_4 : decode cX8_areTails 4 = .ok (.iload_n 1, 1) := by decide +kernel
theorem dX8_areTails_5 : decode cX8_areTails 5 = .ok (.i2l, 1) := by decide +kernel
theorem dX8_areTails_6 : decode cX8_areTails 6 = .ok (.bipush 10, 2) := by decide +kernel
theorem dX8_areTails_8 : decode cX8_areTails 8 = .ok (.aload_n 0, 1) := by decide +kernel
theorem dX8_areTails_9 : decode cX8_areTails 9 = .ok (.getfield 10, 3) := by decide +kernel
theorem dX8_areTails_12 : decode cX8_areTails 12 = .ok (.getfield 59, 3) := by decide +kernel
theorem dX8_areTails_15 : decode cX8_areTails 15 = .ok (.invokevirtual 69, 3) := by decide +kernel
theorem dX8_areTails_18 : decode cX8_areTails 18 = .ok (.invokestatic 172, 3) := by decide +kernel
theorem dX8_areTails_21 : decode cX8_areTails 21 = .ok (.lcmp, 1) := by decide +kernel
theorem dX8_areTails_22 : decode cX8_areTails 22 = .ok (.ifCond .ge 7, 3) := by decide +kernel
theorem dX8_areTails_25 : decode cX8_areTails 25 = .ok (.iconst 1, 1) := by decide +kernel
theorem dX8_areTails_26 : decode cX8_areTails 26 = .ok (.goto 4, 3) := by decide +kernel
theorem dX8_areTails_29 : decode cX8_areTails 29 = .ok (.iconst 0, 1) := by decide +kernel
theorem dX8_areTails_30 : decode cX8_areTails 30 = .ok (.ireturn, 1) := by decide +kernel
theorem dX8_signingHabits_0 : decode cX8_signingHabits 0 = .ok (.iload_n 1, 1) := by decide +kernel
theorem dX8_signingHabits_1 : decode cX8_signingHabits 1 = .ok (.ifCond .ne 5, 3) := by decide +kernel
theorem dX8_signingHabits_4 : decode cX8_signingHabits 4 = .ok (.iconst 0, 1) := by decide +kernel
theorem dX8_signingHabits_5 : decode cX8_signingHabits 5 = .ok (.ireturn, 1) := by decide +kernel
theorem dX8_signingHabits_6 : decode cX8_signingHabits 6 = .ok (.iconst 1, 1) := by decide +kernel
theorem dX8_signingHabits_7 : decode cX8_signingHabits 7 = .ok (.iload_n 3, 1) := by decide +kernel
theorem dX8_signingHabits_8 : decode cX8_signingHabits 8 = .ok (.iconst 1, 1) := by decide +kernel
theorem dX8_signingHabits_9 : decode cX8_signingHabits 9 = .ok (.iadd, 1) := by decide +kernel
theorem dX8_signingHabits_10 : decode cX8_signingHabits 10 = .ok (.ishl, 1) := by decide +kernel
theorem dX8_signingHabits_11 : decode cX8_signingHabits 11 = .ok (.iconst 1, 1) := by decide +kernel
theorem dX8_signingHabits_12 : decode cX8_signingHabits 12 = .ok (.isub, 1) := by decide +kernel
theorem dX8_signingHabits_13 : decode cX8_signingHabits 13 = .ok (.istore 4, 2) := by decide +kernel
theorem dX8_signingHabits_15 : decode cX8_signingHabits 15 = .ok (.aload_n 0, 1) := by decide +kernel
theorem dX8_signingHabits_16 : decode cX8_signingHabits 16 = .ok (.getfield 37, 3) := by decide +kernel
theorem dX8_signingHabits_19 : decode cX8_signingHabits 19 = .ok (.iload_n 1, 1) := by decide +kernel
theorem dX8_signingHabits_20 : decode cX8_signingHabits 20 = .ok (.iload_n 2, 1) := by decide +kernel
theorem dX8_signingHabits_21 : decode cX8_signingHabits 21 = .ok (.iload_n 3, 1) := by decide +kernel
theorem dX8_signingHabits_22 : decode cX8_signingHabits 22 = .ok (.invokevirtual 243, 3) := by decide +kernel
theorem dX8_signingHabits_25 : decode cX8_signingHabits 25 = .ok (.ifCond .eq 11, 3) := by decide +kernel
theorem dX8_signingHabits_28 : decode cX8_signingHabits 28 = .ok (.iload 4, 2) := by decide +kernel
theorem dX8_signingHabits_30 : decode cX8_signingHabits 30 = .ok (.sipush 1024, 3) := by decide +kernel
theorem dX8_signingHabits_33 : decode cX8_signingHabits 33 = .ok (.ior, 1) := by decide +kernel
theorem dX8_signingHabits_34 : decode cX8_signingHabits 34 = .ok (.istore 4, 2) := by decide +kernel
theorem dX8_signingHabits_36 : decode cX8_signingHabits 36 = .ok (.iload_n 1, 1) := by decide +kernel
theorem dX8_signingHabits_37 : decode cX8_signingHabits 37 = .ok (.iload_n 2, 1) := by decide +kernel
theorem dX8_signingHabits_38 : decode cX8_signingHabits 38 = .ok (.if_icmp .ge 8, 3) := by decide +kernel
theorem dX8_signingHabits_41 : decode cX8_signingHabits 41 = .ok (.iload_n 3, 1) := by decide +kernel
theorem dX8_signingHabits_42 : decode cX8_signingHabits 42 = .ok (.iconst 5, 1) := by decide +kernel
theorem dX8_signingHabits_43 : decode cX8_signingHabits 43 = .ok (.if_icmp .lt 11, 3) := by decide +kernel
theorem dX8_signingHabits_46 : decode cX8_signingHabits 46 = .ok (.iload 4, 2) := by decide +kernel
theorem dX8_signingHabits_48 : decode cX8_signingHabits 48 = .ok (.sipush 2048, 3) := by decide +kernel
theorem dX8_signingHabits_51 : decode cX8_signingHabits 51 = .ok (.ior, 1) := by decide +kernel
theorem dX8_signingHabits_52 : decode cX8_signingHabits 52 = .ok (.istore 4, 2) := by decide +kernel
theorem dX8_signingHabits_54 : decode cX8_signingHabits 54 = .ok (.iload 4, 2) := by decide +kernel
theorem dX8_signingHabits_56 : decode cX8_signingHabits 56 = .ok (.ireturn, 1) := by decide +kernel
theorem dX8_fittingHabits_0 : decode cX8_fittingHabits 0 = .ok (.sipush 4095, 3) := by decide +kernel
theorem dX8_fittingHabits_3 : decode cX8_fittingHabits 3 = .ok (.istore_n 1, 1) := by decide +kernel
theorem dX8_fittingHabits_4 : decode cX8_fittingHabits 4 = .ok (.iconst 0, 1) := by decide +kernel
theorem dX8_fittingHabits_5 : decode cX8_fittingHabits 5 = .ok (.istore_n 2, 1) := by decide +kernel
theorem dX8_fittingHabits_6 : decode cX8_fittingHabits 6 = .ok (.iload_n 2, 1) := by decide +kernel
theorem dX8_fittingHabits_7 : decode cX8_fittingHabits 7 = .ok (.aload_n 0, 1) := by decide +kernel
theorem dX8_fittingHabits_8 : decode cX8_fittingHabits 8 = .ok (.getfield 10, 3) := by decide +kernel
theorem dX8_fittingHabits_11 : decode cX8_fittingHabits 11 = .ok (.getfield 200, 3) := by decide +kernel
theorem dX8_fittingHabits_14 : decode cX8_fittingHabits 14 = .ok (.if_icmp .ge 64, 3) := by decide +kernel
theorem dX8_fittingHabits_17 : decode cX8_fittingHabits 17 = .ok (.aload_n 0, 1) := by decide +kernel
theorem dX8_fittingHabits_18 : decode cX8_fittingHabits 18 = .ok (.getfield 10, 3) := by decide +kernel
theorem dX8_fittingHabits_21 : decode cX8_fittingHabits 21 = .ok (.getfield 246, 3) := by decide +kernel
theorem dX8_fittingHabits_24 : decode cX8_fittingHabits 24 = .ok (.iload_n 2, 1) := by decide +kernel
theorem dX8_fittingHabits_25 : decode cX8_fittingHabits 25 = .ok (.iaload, 1) := by decide +kernel
theorem dX8_fittingHabits_26 : decode cX8_fittingHabits 26 = .ok (.istore_n 3, 1) := by decide +kernel
theorem dX8_fittingHabits_27 : decode cX8_fittingHabits 27 = .ok (.aload_n 0, 1) := by decide +kernel
theorem dX8_fittingHabits_28 : decode cX8_fittingHabits 28 = .ok (.iload_n 3, 1) := by decide +kernel
theorem dX8_fittingHabits_29 : decode cX8_fittingHabits 29 = .ok (.bipush 100, 2) := by decide +kernel
theorem dX8_fittingHabits_31 : decode cX8_fittingHabits 31 = .ok (.idiv, 1) := by decide +kernel
theorem dX8_fittingHabits_32 : decode cX8_fittingHabits 32 = .ok (.iload_n 3, 1) := by decide +kernel
theorem dX8_fittingHabits_33 : decode cX8_fittingHabits 33 = .ok (.bipush 10, 2) := by decide +kernel
theorem dX8_fittingHabits_35 : decode cX8_fittingHabits 35 = .ok (.idiv, 1) := by decide +kernel
theorem dX8_fittingHabits_36 : decode cX8_fittingHabits 36 = .ok (.bipush 10, 2) := by decide +kernel
theorem dX8_fittingHabits_38 : decode cX8_fittingHabits 38 = .ok (.irem, 1) := by decide +kernel
theorem dX8_fittingHabits_39 : decode cX8_fittingHabits 39 = .ok (.iload_n 3, 1) := by decide +kernel
theorem dX8_fittingHabits_40 : decode cX8_fittingHabits 40 = .ok (.bipush 10, 2) := by decide +kernel
theorem dX8_fittingHabits_42 : decode cX8_fittingHabits 42 = .ok (.irem, 1) := by decide +kernel
theorem dX8_fittingHabits_43 : decode cX8_fittingHabits 43 = .ok (.invokevirtual 249, 3) := by decide +kernel
theorem dX8_fittingHabits_46 : decode cX8_fittingHabits 46 = .ok (.istore 4, 2) := by decide +kernel
theorem dX8_fittingHabits_48 : decode cX8_fittingHabits 48 = .ok (.iload_n 1, 1) := by decide +kernel
theorem dX8_fittingHabits_49 : decode cX8_fittingHabits 49 = .ok (.aload_n 0, 1) := by decide +kernel
theorem dX8_fittingHabits_50 : decode cX8_fittingHabits 50 = .ok (.getfield 10, 3) := by decide +kernel
theorem dX8_fittingHabits_53 : decode cX8_fittingHabits 53 = .ok (.getfield 253, 3) := by decide +kernel
theorem dX8_fittingHabits_56 : decode cX8_fittingHabits 56 = .ok (.iload_n 2, 1) := by decide +kernel
theorem dX8_fittingHabits_57 : decode cX8_fittingHabits 57 = .ok (.baload, 1) := by decide +kernel
theorem dX8_fittingHabits_58 : decode cX8_fittingHabits 58 = .ok (.ifCond .eq 8, 3) := by decide +kernel
theorem dX8_fittingHabits_61 : decode cX8_fittingHabits 61 = .ok (.iload 4, 2) := by decide +kernel
theorem dX8_fittingHabits_63 : decode cX8_fittingHabits 63 = .ok (.goto 7, 3) := by decide +kernel
theorem dX8_fittingHabits_66 : decode cX8_fittingHabits 66 = .ok (.iload 4, 2) := by decide +kernel
theorem dX8_fittingHabits_68 : decode cX8_fittingHabits 68 = .ok (.iconst (-1), 1) := by decide +kernel
theorem dX8_fittingHabits_69 : decode cX8_fittingHabits 69 = .ok (.ixor, 1) := by decide +kernel
theorem dX8_fittingHabits_70 : decode cX8_fittingHabits 70 = .ok (.iand, 1) := by decide +kernel
theorem dX8_fittingHabits_71 : decode cX8_fittingHabits 71 = .ok (.istore_n 1, 1) := by decide +kernel
theorem dX8_fittingHabits_72 : decode cX8_fittingHabits 72 = .ok (.iinc 2 1, 3) := by decide +kernel
theorem dX8_fittingHabits_75 : decode cX8_fittingHabits 75 = .ok (.goto (-69), 3) := by decide +kernel
theorem dX8_fittingHabits_78 : decode cX8_fittingHabits 78 = .ok (.iload_n 1, 1) := by decide +kernel
theorem dX8_fittingHabits_79 : decode cX8_fittingHabits 79 = .ok (.ireturn, 1) := by decide +kernel
end
section
theorem dX8_bestWatch_0 : decode cX8_bestWatch 0 = .ok (.bipush (-6), 2) := by decide +kernel
theorem dX8_bestWatch_2 : decode cX8_bestWatch 2 = .ok (.istore_n 3, 1) := by decide +kernel
theorem dX8_bestWatch_3 : decode cX8_bestWatch 3 = .ok (.bipush 13, 2) := by decide +kernel
theorem dX8_bestWatch_5 : decode cX8_bestWatch 5 = .ok (.istore 4, 2) := by decide +kernel
theorem dX8_bestWatch_7 : decode cX8_bestWatch 7 = .ok (.iconst 0, 1) := by decide +kernel
theorem dX8_bestWatch_8 : decode cX8_bestWatch 8 = .ok (.istore 5, 2) := by decide +kernel
theorem dX8_bestWatch_10 : decode cX8_bestWatch 10 = .ok (.iload 5, 2) := by decide +kernel
theorem dX8_bestWatch_12 : decode cX8_bestWatch 12 = .ok (.bipush 9, 2) := by decide +kernel
theorem dX8_bestWatch_14 : decode cX8_bestWatch 14 = .ok (.if_icmp .gt 100, 3) := by decide +kernel
theorem dX8_bestWatch_17 : decode cX8_bestWatch 17 = .ok (.iconst 1, 1) := by decide +kernel
theorem dX8_bestWatch_18 : decode cX8_bestWatch 18 = .ok (.istore 6, 2) := by decide +kernel
theorem dX8_bestWatch_20 : decode cX8_bestWatch 20 = .ok (.iload 6, 2) := by decide +kernel
theorem dX8_bestWatch_22 : decode cX8_bestWatch 22 = .ok (.bipush 8, 2) := by decide +kernel
theorem dX8_bestWatch_24 : decode cX8_bestWatch 24 = .ok (.if_icmp .gt 84, 3) := by decide +kernel
theorem dX8_bestWatch_27 : decode cX8_bestWatch 27 = .ok (.iconst 1, 1) := by decide +kernel
theorem dX8_bestWatch_28 : decode cX8_bestWatch 28 = .ok (.istore 7, 2) := by decide +kernel
theorem dX8_bestWatch_30 : decode cX8_bestWatch 30 = .ok (.iload 7, 2) := by decide +kernel
theorem dX8_bestWatch_32 : decode cX8_bestWatch 32 = .ok (.bipush 9, 2) := by decide +kernel
theorem dX8_bestWatch_34 : decode cX8_bestWatch 34 = .ok (.if_icmp .gt 68, 3) := by decide +kernel
theorem dX8_bestWatch_37 : decode cX8_bestWatch 37 = .ok (.aload_n 0, 1) := by decide +kernel
theorem dX8_bestWatch_38 : decode cX8_bestWatch 38 = .ok (.iload 5, 2) := by decide +kernel
theorem dX8_bestWatch_40 : decode cX8_bestWatch 40 = .ok (.iload 6, 2) := by decide +kernel
theorem dX8_bestWatch_42 : decode cX8_bestWatch 42 = .ok (.iload 7, 2) := by decide +kernel
theorem dX8_bestWatch_44 : decode cX8_bestWatch 44 = .ok (.invokevirtual 249, 3) := by decide +kernel
theorem dX8_bestWatch_47 : decode cX8_bestWatch 47 = .ok (.istore 8, 2) := by decide +kernel
theorem dX8_bestWatch_49 : decode cX8_bestWatch 49 = .ok (.iload_n 1, 1) := by decide +kernel
theorem dX8_bestWatch_50 : decode cX8_bestWatch 50 = .ok (.iload 8, 2) := by decide +kernel
theorem dX8_bestWatch_52 : decode cX8_bestWatch 52 = .ok (.iand, 1) := by decide +kernel
theorem dX8_bestWatch_53 : decode cX8_bestWatch 53 = .ok (.invokestatic 223, 3) := by decide +kernel
theorem dX8_bestWatch_56 : decode cX8_bestWatch 56 = .ok (.iload_n 1, 1) := by decide +kernel
theorem dX8_bestWatch_57 : decode cX8_bestWatch 57 = .ok (.iload 8, 2) := by decide +kernel
theorem dX8_bestWatch_59 : decode cX8_bestWatch 59 = .ok (.iconst (-1), 1) := by decide +kernel
theorem dX8_bestWatch_60 : decode cX8_bestWatch 60 = .ok (.ixor, 1) := by decide +kernel
theorem dX8_bestWatch_61 : decode cX8_bestWatch 61 = .ok (.iand, 1) := by decide +kernel
theorem dX8_bestWatch_62 : decode cX8_bestWatch 62 = .ok (.invokestatic 223, 3) := by decide +kernel
theorem dX8_bestWatch_65 : decode cX8_bestWatch 65 = .ok (.invokestatic 257, 3) := by decide +kernel
theorem dX8_bestWatch_68 : decode cX8_bestWatch 68 = .ok (.istore 9, 2) := by decide +kernel
theorem dX8_bestWatch_70 : decode cX8_bestWatch 70 = .ok (.iload 9, 2) := by decide +kernel
theorem dX8_bestWatch_72 : decode cX8_bestWatch 72 = .ok (.iload 4, 2) := by decide +kernel
theorem dX8_bestWatch_74 : decode cX8_bestWatch 74 = .ok (.if_icmp .ge 22, 3) := by decide +kernel
theorem dX8_bestWatch_77 : decode cX8_bestWatch 77 = .ok (.iload 9, 2) := by decide +kernel
theorem dX8_bestWatch_79 : decode cX8_bestWatch 79 = .ok (.istore 4, 2) := by decide +kernel
theorem dX8_bestWatch_81 : decode cX8_bestWatch 81 = .ok (.bipush 100, 2) := by decide +kernel
theorem dX8_bestWatch_83 : decode cX8_bestWatch 83 = .ok (.iload 5, 2) := by decide +kernel
theorem dX8_bestWatch_85 : decode cX8_bestWatch 85 = .ok (.imul, 1) := by decide +kernel
theorem dX8_bestWatch_86 : decode cX8_bestWatch 86 = .ok (.bipush 10, 2) := by decide +kernel
theorem dX8_bestWatch_88 : decode cX8_bestWatch 88 = .ok (.iload 6, 2) := by decide +kernel
theorem dX8_bestWatch_90 : decode cX8_bestWatch 90 = .ok (.imul, 1) := by decide +kernel
theorem dX8_bestWatch_91 : decode cX8_bestWatch 91 = .ok (.iadd, 1) := by decide +kernel
theorem dX8_bestWatch_92 : decode cX8_bestWatch 92 = .ok (.iload 7, 2) := by decide +kernel
theorem dX8_bestWatch_94 : decode cX8_bestWatch 94 = .ok (.iadd, 1) := by decide +kernel
theorem dX8_bestWatch_95 : decode cX8_bestWatch 95 = .ok (.istore_n 3, 1) := by decide +kernel
theorem dX8_bestWatch_96 : decode cX8_bestWatch 96 = .ok (.iinc 7 1, 3) := by decide +kernel
theorem dX8_bestWatch_99 : decode cX8_bestWatch 99 = .ok (.goto (-69), 3) := by decide +kernel
theorem dX8_bestWatch_102 : decode cX8_bestWatch 102 = .ok (.iinc 6 1, 3) := by decide +kernel
theorem dX8_bestWatch_105 : decode cX8_bestWatch 105 = .ok (.goto (-85), 3) := by decide +kernel
theorem dX8_bestWatch_108 : decode cX8_bestWatch 108 = .ok (.iinc 5 1, 3) := by decide +kernel
theorem dX8_bestWatch_111 : decode cX8_bestWatch 111 = .ok (.goto (-101), 3) := by decide +kernel
theorem dX8_bestWatch_114 : decode cX8_bestWatch 114 = .ok (.iload_n 2, 1) := by decide +kernel
theorem dX8_bestWatch_115 : decode cX8_bestWatch 115 = .ok (.ifCond .ne 7, 3) := by decide +kernel
theorem dX8_bestWatch_118 : decode cX8_bestWatch 118 = .ok (.iload_n 3, 1) := by decide +kernel
theorem dX8_bestWatch_119 : decode cX8_bestWatch 119 = .ok (.goto 5, 3) := by decide +kernel
theorem dX8_bestWatch_122 : decode cX8_bestWatch 122 = .ok (.iload 4, 2) := by decide +kernel
theorem dX8_bestWatch_124 : decode cX8_bestWatch 124 = .ok (.ireturn, 1) := by decide +kernel
theorem dX8_isIn_0 : decode cX8_isIn 0 = .ok (.iload_n 0, 1) := by decide +kernel
theorem dX8_isIn_1 : decode cX8_isIn 1 = .ok (.iload_n 1, 1) := by decide +kernel
theorem dX8_isIn_2 : decode cX8_isIn 2 = .ok (.if_icmp .lt 12, 3) := by decide +kernel
theorem dX8_isIn_5 : decode cX8_isIn 5 = .ok (.iload_n 0, 1) := by decide +kernel
theorem dX8_isIn_6 : decode cX8_isIn 6 = .ok (.iload_n 2, 1) := by decide +kernel
theorem dX8_isIn_7 : decode cX8_isIn 7 = .ok (.if_icmp .gt 7, 3) := by decide +kernel
theorem dX8_isIn_10 : decode cX8_isIn 10 = .ok (.iconst 1, 1) := by decide +kernel
theorem dX8_isIn_11 : decode cX8_isIn 11 = .ok (.goto 4, 3) := by decide +kernel
theorem dX8_isIn_14 : decode cX8_isIn 14 = .ok (.iconst 0, 1) := by decide +kernel
theorem dX8_isIn_15 : decode cX8_isIn 15 = .ok (.ireturn, 1) := by decide +kernel
theorem dX8_power_0 : decode cX8_power 0 = .ok (.lconst 1, 1) := by decide +kernel
theorem dX8_power_1 : decode cX8_power 1 = .ok (.lstore_n 2, 1) := by decide +kernel
theorem dX8_power_2 : decode cX8_power 2 = .ok (.iconst 0, 1) := by decide +kernel
theorem dX8_power_3 : decode cX8_power 3 = .ok (.istore 4, 2) := by decide +kernel
theorem dX8_power_5 : decode cX8_power 5 = .ok (.iload 4, 2) := by decide +kernel
theorem dX8_power_7 : decode cX8_power 7 = .ok (.iload_n 1, 1) := by decide +kernel
theorem dX8_power_8 : decode cX8_power 8 = .ok (.if_icmp .ge 14, 3) := by decide +kernel
theorem dX8_power_11 : decode cX8_power 11 = .ok (.lload_n 2, 1) := by decide +kernel
theorem dX8_power_12 : decode cX8_power 12 = .ok (.iload_n 0, 1) := by decide +kernel
theorem dX8_power_13 : decode cX8_power 13 = .ok (.i2l, 1) := by decide +kernel
theorem dX8_power_14 : decode cX8_power 14 = .ok (.lmul, 1) := by decide +kernel
theorem dX8_power_15 : decode cX8_power 15 = .ok (.lstore_n 2, 1) := by decide +kernel
theorem dX8_power_16 : decode cX8_power 16 = .ok (.iinc 4 1, 3) := by decide +kernel
theorem dX8_power_19 : decode cX8_power 19 = .ok (.goto (-14), 3) := by decide +kernel
theorem dX8_power_22 : decode cX8_power 22 = .ok (.lload_n 2, 1) := by decide +kernel
theorem dX8_power_23 : decode cX8_power 23 = .ok (.lreturn, 1) := by decide +kernel
theorem dX8_waysOfAtMost_0 : decode cX8_waysOfAtMost 0 = .ok (.lconst 0, 1) := by decide +kernel
theorem dX8_waysOfAtMost_1 : decode cX8_waysOfAtMost 1 = .ok (.lstore_n 3, 1) := by decide +kernel
theorem dX8_waysOfAtMost_2 : decode cX8_waysOfAtMost 2 = .ok (.lconst 1, 1) := by decide +kernel
theorem dX8_waysOfAtMost_3 : decode cX8_waysOfAtMost 3 = .ok (.lstore 5, 2) := by decide +kernel
theorem dX8_waysOfAtMost_5 : decode cX8_waysOfAtMost 5 = .ok (.iconst 0, 1) := by decide +kernel
theorem dX8_waysOfAtMost_6 : decode cX8_waysOfAtMost 6 = .ok (.istore 7, 2) := by decide +kernel
theorem dX8_waysOfAtMost_8 : decode cX8_waysOfAtMost 8 = .ok (.iload 7, 2) := by decide +kernel
theorem dX8_waysOfAtMost_10 : decode cX8_waysOfAtMost 10 = .ok (.iload_n 1, 1) := by decide +kernel
theorem dX8_waysOfAtMost_11 : decode cX8_waysOfAtMost 11 = .ok (.if_icmp .gt 55, 3) := by decide +kernel
theorem dX8_waysOfAtMost_14 : decode cX8_waysOfAtMost 14 = .ok (.iload 7, 2) := by decide +kernel
theorem dX8_waysOfAtMost_16 : decode cX8_waysOfAtMost 16 = .ok (.iload_n 0, 1) := by decide +kernel
theorem dX8_waysOfAtMost_17 : decode cX8_waysOfAtMost 17 = .ok (.if_icmp .gt 49, 3) := by decide +kernel
theorem dX8_waysOfAtMost_20 : decode cX8_waysOfAtMost 20 = .ok (.lload_n 3, 1) := by decide +kernel
theorem dX8_waysOfAtMost_21 : decode cX8_waysOfAtMost 21 = .ok (.lload 5, 2) := by decide +kernel
theorem dX8_waysOfAtMost_23 : decode cX8_waysOfAtMost 23 = .ok (.iload_n 2, 1) := by decide +kernel
theorem dX8_waysOfAtMost_24 : decode cX8_waysOfAtMost 24 = .ok (.iload 7, 2) := by decide +kernel
theorem dX8_waysOfAtMost_26 : decode cX8_waysOfAtMost 26 = .ok (.invokestatic 172, 3) := by decide +kernel
theorem dX8_waysOfAtMost_29 : decode cX8_waysOfAtMost 29 = .ok (.lmul, 1) := by decide +kernel
theorem dX8_waysOfAtMost_30 : decode cX8_waysOfAtMost 30 = .ok (.bipush 10, 2) := by decide +kernel
theorem dX8_waysOfAtMost_32 : decode cX8_waysOfAtMost 32 = .ok (.iload_n 2, 1) := by decide +kernel
theorem dX8_waysOfAtMost_33 : decode cX8_waysOfAtMost 33 = .ok (.isub, 1) := by decide +kernel
theorem dX8_waysOfAtMost_34 : decode cX8_waysOfAtMost 34 = .ok (.iload_n 1, 1) := by decide +kernel
theorem dX8_waysOfAtMost_35 : decode cX8_waysOfAtMost 35 = .ok (.iload 7, 2) := by decide +kernel
theorem dX8_waysOfAtMost_37 : decode cX8_waysOfAtMost 37 = .ok (.isub, 1) := by decide +kernel
theorem dX8_waysOfAtMost_38 : decode cX8_waysOfAtMost 38 = .ok (.invokestatic 172, 3) := by decide +kernel
theorem dX8_waysOfAtMost_41 : decode cX8_waysOfAtMost 41 = .ok (.lmul, 1) := by decide +kernel
theorem dX8_waysOfAtMost_42 : decode cX8_waysOfAtMost 42 = .ok (.ladd, 1) := by decide +kernel
theorem dX8_waysOfAtMost_43 : decode cX8_waysOfAtMost 43 = .ok (.lstore_n 3, 1) := by decide +kernel
theorem dX8_waysOfAtMost_44 : decode cX8_waysOfAtMost 44 = .ok (.lload 5, 2) := by decide +kernel
theorem dX8_waysOfAtMost_46 : decode cX8_waysOfAtMost 46 = .ok (.iload_n 1, 1) := by decide +kernel
theorem dX8_waysOfAtMost_47 : decode cX8_waysOfAtMost 47 = .ok (.iload 7, 2) := by decide +kernel
theorem dX8_waysOfAtMost_49 : decode cX8_waysOfAtMost 49 = .ok (.isub, 1) := by decide +kernel
theorem dX8_waysOfAtMost_50 : decode cX8_waysOfAtMost 50 = .ok (.i2l, 1) := by decide +kernel
theorem dX8_waysOfAtMost_51 : decode cX8_waysOfAtMost 51 = .ok (.lmul, 1) := by decide +kernel
theorem dX8_waysOfAtMost_52 : decode cX8_waysOfAtMost 52 = .ok (.iload 7, 2) := by decide +kernel
theorem dX8_waysOfAtMost_54 : decode cX8_waysOfAtMost 54 = .ok (.iconst 1, 1) := by decide +kernel
theorem dX8_waysOfAtMost_55 : decode cX8_waysOfAtMost 55 = .ok (.iadd, 1) := by decide +kernel
theorem dX8_waysOfAtMost_56 : decode cX8_waysOfAtMost 56 = .ok (.i2l, 1) := by decide +kernel
theorem dX8_waysOfAtMost_57 : decode cX8_waysOfAtMost 57 = .ok (.ldiv, 1) := by decide +kernel
theorem dX8_waysOfAtMost_58 : decode cX8_waysOfAtMost 58 = .ok (.lstore 5, 2) := by decide +kernel
theorem dX8_waysOfAtMost_60 : decode cX8_waysOfAtMost 60 = .ok (.iinc 7 1, 3) := by decide +kernel
theorem dX8_waysOfAtMost_63 : decode cX8_waysOfAtMost 63 = .ok (.goto (-55), 3) := by decide +kernel
theorem dX8_waysOfAtMost_66 : decode cX8_waysOfAtMost 66 = .ok (.lload_n 3, 1) := by decide +kernel
theorem dX8_waysOfAtMost_67 : decode cX8_waysOfAtMost 67 = .ok (.lreturn, 1) := by decide +kernel
theorem dX8_fractionPart_0 : decode cX8_fractionPart 0 = .ok (.lload_n 0, 1) := by decide +kernel
theorem dX8_fractionPart_1 : decode cX8_fractionPart 1 = .ok (.lload_n 2, 1) := by decide +kernel
theorem dX8_fractionPart_2 : decode cX8_fractionPart 2 = .ok (.invokestatic 262, 3) := by decide +kernel
theorem dX8_fractionPart_5 : decode cX8_fractionPart 5 = .ok (.lstore 5, 2) := by decide +kernel
theorem dX8_fractionPart_7 : decode cX8_fractionPart 7 = .ok (.iload 4, 2) := by decide +kernel
theorem dX8_fractionPart_9 : decode cX8_fractionPart 9 = .ok (.ifCond .ne 10, 3) := by decide +kernel
theorem dX8_fractionPart_12 : decode cX8_fractionPart 12 = .ok (.lload_n 0, 1) := by decide +kernel
theorem dX8_fractionPart_13 : decode cX8_fractionPart 13 = .ok (.lload 5, 2) := by decide +kernel
theorem dX8_fractionPart_15 : decode cX8_fractionPart 15 = .ok (.ldiv, 1) := by decide +kernel
theorem dX8_fractionPart_16 : decode cX8_fractionPart 16 = .ok (.goto 7, 3) := by decide +kernel
theorem dX8_fractionPart_19 : decode cX8_fractionPart 19 = .ok (.lload_n 2, 1) := by decide +kernel
theorem dX8_fractionPart_20 : decode cX8_fractionPart 20 = .ok (.lload 5, 2) := by decide +kernel
theorem dX8_fractionPart_22 : decode cX8_fractionPart 22 = .ok (.ldiv, 1) := by decide +kernel
theorem dX8_fractionPart_23 : decode cX8_fractionPart 23 = .ok (.lreturn, 1) := by decide +kernel
theorem dX8_commonDivisor_0 : decode cX8_commonDivisor 0 = .ok (.iconst 0, 1) := by decide +kernel
theorem dX8_commonDivisor_1 : decode cX8_commonDivisor 1 = .ok (.istore 4, 2) := by decide +kernel
theorem dX8_commonDivisor_3 : decode cX8_commonDivisor 3 = .ok (.iload 4, 2) := by decide +kernel
theorem dX8_commonDivisor_5 : decode cX8_commonDivisor 5 = .ok (.bipush 100, 2) := by decide +kernel
theorem dX8_commonDivisor_7 : decode cX8_commonDivisor 7 = .ok (.if_icmp .ge 25, 3) := by decide +kernel
theorem dX8_commonDivisor_10 : decode cX8_commonDivisor 10 = .ok (.lload_n 2, 1) := by decide +kernel
theorem dX8_commonDivisor_11 : decode cX8_commonDivisor 11 = .ok (.lconst 0, 1) := by decide +kernel
theorem dX8_commonDivisor_12 : decode cX8_commonDivisor 12 = .ok (.lcmp, 1) := by decide +kernel
theorem dX8_commonDivisor_13 : decode cX8_commonDivisor 13 = .ok (.ifCond .eq 19, 3) := by decide +kernel
theorem dX8_commonDivisor_16 : decode cX8_commonDivisor 16 = .ok (.lload_n 0, 1) := by decide +kernel
theorem dX8_commonDivisor_17 : decode cX8_commonDivisor 17 = .ok (.lload_n 2, 1) := by decide +kernel
theorem dX8_commonDivisor_18 : decode cX8_commonDivisor 18 = .ok (.lrem, 1) := by decide +kernel
theorem dX8_commonDivisor_19 : decode cX8_commonDivisor 19 = .ok (.lstore 5, 2) := by decide +kernel
theorem dX8_commonDivisor_21 : decode cX8_commonDivisor 21 = .ok (.lload_n 2, 1) := by decide +kernel
theorem dX8_commonDivisor_22 : decode cX8_commonDivisor 22 = .ok (.lstore_n 0, 1) := by decide +kernel
theorem dX8_commonDivisor_23 : decode cX8_commonDivisor 23 = .ok (.lload 5, 2) := by decide +kernel
theorem dX8_commonDivisor_25 : decode cX8_commonDivisor 25 = .ok (.lstore_n 2, 1) := by decide +kernel
theorem dX8_commonDivisor_26 : decode cX8_commonDivisor 26 = .ok (.iinc 4 1, 3) := by decide +kernel
theorem dX8_commonDivisor_29 : decode cX8_commonDivisor 29 = .ok (.goto (-26), 3) := by decide +kernel
theorem dX8_commonDivisor_32 : decode cX8_commonDivisor 32 = .ok (.lconst 1, 1) := by decide +kernel
theorem dX8_commonDivisor_33 : decode cX8_commonDivisor 33 = .ok (.lload_n 0, 1) := by decide +kernel
theorem dX8_commonDivisor_34 : decode cX8_commonDivisor 34 = .ok (.invokestatic 266, 3) := by decide +kernel
theorem dX8_commonDivisor_37 : decode cX8_commonDivisor 37 = .ok (.lreturn, 1) := by decide +kernel
theorem dJ6_numberOfTrailingZeros_0f7a4_0 : decode cJ6_numberOfTrailingZeros_0f7a4 0 = .ok (.iload_n 0, 1) := by decide +kernel
theorem dJ6_numberOfTrailingZeros_0f7a4_1 : decode cJ6_numberOfTrailingZeros_0f7a4 1 = .ok (.iconst (-1), 1) := by decide +kernel
theorem dJ6_numberOfTrailingZeros_0f7a4_2 : decode cJ6_numberOfTrailingZeros_0f7a4 2 = .ok (.ixor, 1) := by decide +kernel
theorem dJ6_numberOfTrailingZeros_0f7a4_3 : decode cJ6_numberOfTrailingZeros_0f7a4 3 = .ok (.iload_n 0, 1) := by decide +kernel
theorem dJ6_numberOfTrailingZeros_0f7a4_4 : decode cJ6_numberOfTrailingZeros_0f7a4 4 = .ok (.iconst 1, 1) := by decide +kernel
theorem dJ6_numberOfTrailingZeros_0f7a4_5 : decode cJ6_numberOfTrailingZeros_0f7a4 5 = .ok (.isub, 1) := by decide +kernel
theorem dJ6_numberOfTrailingZeros_0f7a4_6 : decode cJ6_numberOfTrailingZeros_0f7a4 6 = .ok (.iand, 1) := by decide +kernel
theorem dJ6_numberOfTrailingZeros_0f7a4_7 : decode cJ6_numberOfTrailingZeros_0f7a4 7 = .ok (.istore_n 0, 1) := by decide +kernel
theorem dJ6_numberOfTrailingZeros_0f7a4_8 : decode cJ6_numberOfTrailingZeros_0f7a4 8 = .ok (.iload_n 0, 1) := by decide +kernel
theorem dJ6_numberOfTrailingZeros_0f7a4_9 : decode cJ6_numberOfTrailingZeros_0f7a4 9 = .ok (.ifCond .gt 8, 3) := by decide +kernel
theorem dJ6_numberOfTrailingZeros_0f7a4_12 : decode cJ6_numberOfTrailingZeros_0f7a4 12 = .ok (.iload_n 0, 1) := by decide +kernel
theorem dJ6_numberOfTrailingZeros_0f7a4_13 : decode cJ6_numberOfTrailingZeros_0f7a4 13 = .ok (.bipush 32, 2) := by decide +kernel
theorem dJ6_numberOfTrailingZeros_0f7a4_15 : decode cJ6_numberOfTrailingZeros_0f7a4 15 = .ok (.iand, 1) := by decide +kernel
theorem dJ6_numberOfTrailingZeros_0f7a4_16 : decode cJ6_numberOfTrailingZeros_0f7a4 16 = .ok (.ireturn, 1) := by decide +kernel
theorem dJ6_numberOfTrailingZeros_0f7a4_17 : decode cJ6_numberOfTrailingZeros_0f7a4 17 = .ok (.iconst 1, 1) := by decide +kernel
theorem dJ6_numberOfTrailingZeros_0f7a4_18 : decode cJ6_numberOfTrailingZeros_0f7a4 18 = .ok (.istore_n 1, 1) := by decide +kernel
theorem dJ6_numberOfTrailingZeros_0f7a4_19 : decode cJ6_numberOfTrailingZeros_0f7a4 19 = .ok (.iload_n 0, 1) := by decide +kernel
theorem dJ6_numberOfTrailingZeros_0f7a4_20 : decode cJ6_numberOfTrailingZeros_0f7a4 20 = .ok (.ldc_w 264, 3) := by decide +kernel
theorem dJ6_numberOfTrailingZeros_0f7a4_23 : decode cJ6_numberOfTrailingZeros_0f7a4 23 = .ok (.if_icmp .le 11, 3) := by decide +kernel
theorem dJ6_numberOfTrailingZeros_0f7a4_26 : decode cJ6_numberOfTrailingZeros_0f7a4 26 = .ok (.iinc 1 16, 3) := by decide +kernel
theorem dJ6_numberOfTrailingZeros_0f7a4_29 : decode cJ6_numberOfTrailingZeros_0f7a4 29 = .ok (.iload_n 0, 1) := by decide +kernel
theorem dJ6_numberOfTrailingZeros_0f7a4_30 : decode cJ6_numberOfTrailingZeros_0f7a4 30 = .ok (.bipush 16, 2) := by decide +kernel
theorem dJ6_numberOfTrailingZeros_0f7a4_32 : decode cJ6_numberOfTrailingZeros_0f7a4 32 = .ok (.iushr, 1) := by decide +kernel
theorem dJ6_numberOfTrailingZeros_0f7a4_33 : decode cJ6_numberOfTrailingZeros_0f7a4 33 = .ok (.istore_n 0, 1) := by decide +kernel
theorem dJ6_numberOfTrailingZeros_0f7a4_34 : decode cJ6_numberOfTrailingZeros_0f7a4 34 = .ok (.iload_n 0, 1) := by decide +kernel
theorem dJ6_numberOfTrailingZeros_0f7a4_35 : decode cJ6_numberOfTrailingZeros_0f7a4 35 = .ok (.sipush 256, 3) := by decide +kernel
theorem dJ6_numberOfTrailingZeros_0f7a4_38 : decode cJ6_numberOfTrailingZeros_0f7a4 38 = .ok (.if_icmp .le 11, 3) := by decide +kernel
theorem dJ6_numberOfTrailingZeros_0f7a4_41 : decode cJ6_numberOfTrailingZeros_0f7a4 41 = .ok (.iinc 1 8, 3) := by decide +kernel
theorem dJ6_numberOfTrailingZeros_0f7a4_44 : decode cJ6_numberOfTrailingZeros_0f7a4 44 = .ok (.iload_n 0, 1) := by decide +kernel
theorem dJ6_numberOfTrailingZeros_0f7a4_45 : decode cJ6_numberOfTrailingZeros_0f7a4 45 = .ok (.bipush 8, 2) := by decide +kernel
theorem dJ6_numberOfTrailingZeros_0f7a4_47 : decode cJ6_numberOfTrailingZeros_0f7a4 47 = .ok (.iushr, 1) := by decide +kernel
theorem dJ6_numberOfTrailingZeros_0f7a4_48 : decode cJ6_numberOfTrailingZeros_0f7a4 48 = .ok (.istore_n 0, 1) := by decide +kernel
theorem dJ6_numberOfTrailingZeros_0f7a4_49 : decode cJ6_numberOfTrailingZeros_0f7a4 49 = .ok (.iload_n 0, 1) := by decide +kernel
theorem dJ6_numberOfTrailingZeros_0f7a4_50 : decode cJ6_numberOfTrailingZeros_0f7a4 50 = .ok (.bipush 16, 2) := by decide +kernel
theorem dJ6_numberOfTrailingZeros_0f7a4_52 : decode cJ6_numberOfTrailingZeros_0f7a4 52 = .ok (.if_icmp .le 10, 3) := by decide +kernel
theorem dJ6_numberOfTrailingZeros_0f7a4_55 : decode cJ6_numberOfTrailingZeros_0f7a4 55 = .ok (.iinc 1 4, 3) := by decide +kernel
theorem dJ6_numberOfTrailingZeros_0f7a4_58 : decode cJ6_numberOfTrailingZeros_0f7a4 58 = .ok (.iload_n 0, 1) := by decide +kernel
theorem dJ6_numberOfTrailingZeros_0f7a4_59 : decode cJ6_numberOfTrailingZeros_0f7a4 59 = .ok (.iconst 4, 1) := by decide +kernel
theorem dJ6_numberOfTrailingZeros_0f7a4_60 : decode cJ6_numberOfTrailingZeros_0f7a4 60 = .ok (.iushr, 1) := by decide +kernel
theorem dJ6_numberOfTrailingZeros_0f7a4_61 : decode cJ6_numberOfTrailingZeros_0f7a4 61 = .ok (.istore_n 0, 1) := by decide +kernel
theorem dJ6_numberOfTrailingZeros_0f7a4_62 : decode cJ6_numberOfTrailingZeros_0f7a4 62 = .ok (.iload_n 0, 1) := by decide +kernel
theorem dJ6_numberOfTrailingZeros_0f7a4_63 : decode cJ6_numberOfTrailingZeros_0f7a4 63 = .ok (.iconst 4, 1) := by decide +kernel
theorem dJ6_numberOfTrailingZeros_0f7a4_64 : decode cJ6_numberOfTrailingZeros_0f7a4 64 = .ok (.if_icmp .le 10, 3) := by decide +kernel
theorem dJ6_numberOfTrailingZeros_0f7a4_67 : decode cJ6_numberOfTrailingZeros_0f7a4 67 = .ok (.iinc 1 2, 3) := by decide +kernel
theorem dJ6_numberOfTrailingZeros_0f7a4_70 : decode cJ6_numberOfTrailingZeros_0f7a4 70 = .ok (.iload_n 0, 1) := by decide +kernel
theorem dJ6_numberOfTrailingZeros_0f7a4_71 : decode cJ6_numberOfTrailingZeros_0f7a4 71 = .ok (.iconst 2, 1) := by decide +kernel
theorem dJ6_numberOfTrailingZeros_0f7a4_72 : decode cJ6_numberOfTrailingZeros_0f7a4 72 = .ok (.iushr, 1) := by decide +kernel
theorem dJ6_numberOfTrailingZeros_0f7a4_73 : decode cJ6_numberOfTrailingZeros_0f7a4 73 = .ok (.istore_n 0, 1) := by decide +kernel
theorem dJ6_numberOfTrailingZeros_0f7a4_74 : decode cJ6_numberOfTrailingZeros_0f7a4 74 = .ok (.iload_n 1, 1) := by decide +kernel
theorem dJ6_numberOfTrailingZeros_0f7a4_75 : decode cJ6_numberOfTrailingZeros_0f7a4 75 = .ok (.iload_n 0, 1) := by decide +kernel
theorem dJ6_numberOfTrailingZeros_0f7a4_76 : decode cJ6_numberOfTrailingZeros_0f7a4 76 = .ok (.iconst 1, 1) := by decide +kernel
theorem dJ6_numberOfTrailingZeros_0f7a4_77 : decode cJ6_numberOfTrailingZeros_0f7a4 77 = .ok (.iushr, 1) := by decide +kernel
theorem dJ6_numberOfTrailingZeros_0f7a4_78 : decode cJ6_numberOfTrailingZeros_0f7a4 78 = .ok (.iadd, 1) := by decide +kernel
theorem dJ6_numberOfTrailingZeros_0f7a4_79 : decode cJ6_numberOfTrailingZeros_0f7a4 79 = .ok (.ireturn, 1) := by decide +kernel
theorem dJ6_bitCount_0f7a4_0 : decode cJ6_bitCount_0f7a4 0 = .ok (.iload_n 0, 1) := by decide +kernel
theorem dJ6_bitCount_0f7a4_1 : decode cJ6_bitCount_0f7a4 1 = .ok (.iload_n 0, 1) := by decide +kernel
theorem dJ6_bitCount_0f7a4_2 : decode cJ6_bitCount_0f7a4 2 = .ok (.iconst 1, 1) := by decide +kernel
theorem dJ6_bitCount_0f7a4_3 : decode cJ6_bitCount_0f7a4 3 = .ok (.iushr, 1) := by decide +kernel
theorem dJ6_bitCount_0f7a4_4 : decode cJ6_bitCount_0f7a4 4 = .ok (.ldc_w 265, 3) := by decide +kernel
theorem dJ6_bitCount_0f7a4_7 : decode cJ6_bitCount_0f7a4 7 = .ok (.iand, 1) := by decide +kernel
theorem dJ6_bitCount_0f7a4_8 : decode cJ6_bitCount_0f7a4 8 = .ok (.isub, 1) := by decide +kernel
theorem dJ6_bitCount_0f7a4_9 : decode cJ6_bitCount_0f7a4 9 = .ok (.istore_n 0, 1) := by decide +kernel
theorem dJ6_bitCount_0f7a4_10 : decode cJ6_bitCount_0f7a4 10 = .ok (.iload_n 0, 1) := by decide +kernel
theorem dJ6_bitCount_0f7a4_11 : decode cJ6_bitCount_0f7a4 11 = .ok (.ldc_w 266, 3) := by decide +kernel
theorem dJ6_bitCount_0f7a4_14 : decode cJ6_bitCount_0f7a4 14 = .ok (.iand, 1) := by decide +kernel
theorem dJ6_bitCount_0f7a4_15 : decode cJ6_bitCount_0f7a4 15 = .ok (.iload_n 0, 1) := by decide +kernel
theorem dJ6_bitCount_0f7a4_16 : decode cJ6_bitCount_0f7a4 16 = .ok (.iconst 2, 1) := by decide +kernel
theorem dJ6_bitCount_0f7a4_17 : decode cJ6_bitCount_0f7a4 17 = .ok (.iushr, 1) := by decide +kernel
theorem dJ6_bitCount_0f7a4_18 : decode cJ6_bitCount_0f7a4 18 = .ok (.ldc_w 266, 3) := by decide +kernel
theorem dJ6_bitCount_0f7a4_21 : decode cJ6_bitCount_0f7a4 21 = .ok (.iand, 1) := by decide +kernel
theorem dJ6_bitCount_0f7a4_22 : decode cJ6_bitCount_0f7a4 22 = .ok (.iadd, 1) := by decide +kernel
theorem dJ6_bitCount_0f7a4_23 : decode cJ6_bitCount_0f7a4 23 = .ok (.istore_n 0, 1) := by decide +kernel
theorem dJ6_bitCount_0f7a4_24 : decode cJ6_bitCount_0f7a4 24 = .ok (.iload_n 0, 1) := by decide +kernel
theorem dJ6_bitCount_0f7a4_25 : decode cJ6_bitCount_0f7a4 25 = .ok (.iload_n 0, 1) := by decide +kernel
theorem dJ6_bitCount_0f7a4_26 : decode cJ6_bitCount_0f7a4 26 = .ok (.iconst 4, 1) := by decide +kernel
theorem dJ6_bitCount_0f7a4_27 : decode cJ6_bitCount_0f7a4 27 = .ok (.iushr, 1) := by decide +kernel
theorem dJ6_bitCount_0f7a4_28 : decode cJ6_bitCount_0f7a4 28 = .ok (.iadd, 1) := by decide +kernel
theorem dJ6_bitCount_0f7a4_29 : decode cJ6_bitCount_0f7a4 29 = .ok (.ldc_w 267, 3) := by decide +kernel
theorem dJ6_bitCount_0f7a4_32 : decode cJ6_bitCount_0f7a4 32 = .ok (.iand, 1) := by decide +kernel
theorem dJ6_bitCount_0f7a4_33 : decode cJ6_bitCount_0f7a4 33 = .ok (.istore_n 0, 1) := by decide +kernel
theorem dJ6_bitCount_0f7a4_34 : decode cJ6_bitCount_0f7a4 34 = .ok (.iload_n 0, 1) := by decide +kernel
theorem dJ6_bitCount_0f7a4_35 : decode cJ6_bitCount_0f7a4 35 = .ok (.iload_n 0, 1) := by decide +kernel
theorem dJ6_bitCount_0f7a4_36 : decode cJ6_bitCount_0f7a4 36 = .ok (.bipush 8, 2) := by decide +kernel
theorem dJ6_bitCount_0f7a4_38 : decode cJ6_bitCount_0f7a4 38 = .ok (.iushr, 1) := by decide +kernel
theorem dJ6_bitCount_0f7a4_39 : decode cJ6_bitCount_0f7a4 39 = .ok (.iadd, 1) := by decide +kernel
theorem dJ6_bitCount_0f7a4_40 : decode cJ6_bitCount_0f7a4 40 = .ok (.istore_n 0, 1) := by decide +kernel
theorem dJ6_bitCount_0f7a4_41 : decode cJ6_bitCount_0f7a4 41 = .ok (.iload_n 0, 1) := by decide +kernel
theorem dJ6_bitCount_0f7a4_42 : decode cJ6_bitCount_0f7a4 42 = .ok (.iload_n 0, 1) := by decide +kernel
theorem dJ6_bitCount_0f7a4_43 : decode cJ6_bitCount_0f7a4 43 = .ok (.bipush 16, 2) := by decide +kernel
theorem dJ6_bitCount_0f7a4_45 : decode cJ6_bitCount_0f7a4 45 = .ok (.iushr, 1) := by decide +kernel
theorem dJ6_bitCount_0f7a4_46 : decode cJ6_bitCount_0f7a4 46 = .ok (.iadd, 1) := by decide +kernel
theorem dJ6_bitCount_0f7a4_47 : decode cJ6_bitCount_0f7a4 47 = .ok (.istore_n 0, 1) := by decide +kernel
theorem dJ6_bitCount_0f7a4_48 : decode cJ6_bitCount_0f7a4 48 = .ok (.iload_n 0, 1) := by decide +kernel
theorem dJ6_bitCount_0f7a4_49 : decode cJ6_bitCount_0f7a4 49 = .ok (.bipush 63, 2) := by decide +kernel
theorem dJ6_bitCount_0f7a4_51 : decode cJ6_bitCount_0f7a4 51 = .ok (.iand, 1) := by decide +kernel
theorem dJ6_bitCount_0f7a4_52 : decode cJ6_bitCount_0f7a4 52 = .ok (.ireturn, 1) := by decide +kernel
theorem dJ9_abs_0f7a4_0 : decode cJ9_abs_0f7a4 0 = .ok (.iload_n 0, 1) := by decide +kernel
theorem dJ9_abs_0f7a4_1 : decode cJ9_abs_0f7a4 1 = .ok (.ifCond .ge 8, 3) := by decide +kernel
theorem dJ9_abs_0f7a4_4 : decode cJ9_abs_0f7a4 4 = .ok (.iload_n 0, 1) := by decide +kernel
theorem dJ9_abs_0f7a4_5 : decode cJ9_abs_0f7a4 5 = .ok (.ineg, 1) := by decide +kernel
theorem dJ9_abs_0f7a4_6 : decode cJ9_abs_0f7a4 6 = .ok (.goto 4, 3) := by decide +kernel
theorem dJ9_abs_0f7a4_9 : decode cJ9_abs_0f7a4 9 = .ok (.iload_n 0, 1) := by decide +kernel
theorem dJ9_abs_0f7a4_10 : decode cJ9_abs_0f7a4 10 = .ok (.ireturn, 1) := by decide +kernel
theorem dJ9_max_7cf53_0 : decode cJ9_max_7cf53 0 = .ok (.iload_n 0, 1) := by decide +kernel
theorem dJ9_max_7cf53_1 : decode cJ9_max_7cf53 1 = .ok (.iload_n 1, 1) := by decide +kernel
theorem dJ9_max_7cf53_2 : decode cJ9_max_7cf53 2 = .ok (.if_icmp .lt 7, 3) := by decide +kernel
theorem dJ9_max_7cf53_5 : decode cJ9_max_7cf53 5 = .ok (.iload_n 0, 1) := by decide +kernel
theorem dJ9_max_7cf53_6 : decode cJ9_max_7cf53 6 = .ok (.goto 4, 3) := by decide +kernel
theorem dJ9_max_7cf53_9 : decode cJ9_max_7cf53 9 = .ok (.iload_n 1, 1) := by decide +kernel
theorem dJ9_max_7cf53_10 : decode cJ9_max_7cf53 10 = .ok (.ireturn, 1) := by decide +kernel
theorem dJ9_max_f86c9_0 : decode cJ9_max_f86c9 0 = .ok (.lload_n 0, 1) := by decide +kernel
theorem dJ9_max_f86c9_1 : decode cJ9_max_f86c9 1 = .ok (.lload_n 2, 1) := by decide +kernel
theorem dJ9_max_f86c9_2 : decode cJ9_max_f86c9 2 = .ok (.lcmp, 1) := by decide +kernel
theorem dJ9_max_f86c9_3 : decode cJ9_max_f86c9 3 = .ok (.ifCond .lt 7, 3) := by decide +kernel
theorem dJ9_max_f86c9_6 : decode cJ9_max_f86c9 6 = .ok (.lload_n 0, 1) := by decide +kernel
theorem dJ9_max_f86c9_7 : decode cJ9_max_f86c9 7 = .ok (.goto 4, 3) := by decide +kernel
theorem dJ9_max_f86c9_10 : decode cJ9_max_f86c9 10 = .ok (.lload_n 2, 1) := by decide +kernel
theorem dJ9_max_f86c9_11 : decode cJ9_max_f86c9 11 = .ok (.lreturn, 1) := by decide +kernel
theorem dJ9_min_7cf53_0 : decode cJ9_min_7cf53 0 = .ok (.iload_n 0, 1) := by decide +kernel
theorem dJ9_min_7cf53_1 : decode cJ9_min_7cf53 1 = .ok (.iload_n 1, 1) := by decide +kernel
theorem dJ9_min_7cf53_2 : decode cJ9_min_7cf53 2 = .ok (.if_icmp .gt 7, 3) := by decide +kernel
theorem dJ9_min_7cf53_5 : decode cJ9_min_7cf53 5 = .ok (.iload_n 0, 1) := by decide +kernel
theorem dJ9_min_7cf53_6 : decode cJ9_min_7cf53 6 = .ok (.goto 4, 3) := by decide +kernel
theorem dJ9_min_7cf53_9 : decode cJ9_min_7cf53 9 = .ok (.iload_n 1, 1) := by decide +kernel
theorem dJ9_min_7cf53_10 : decode cJ9_min_7cf53 10 = .ok (.ireturn, 1) := by decide +kernel
end
section
theorem dX9_init_0 : decode cX9_init 0 = .ok (.aload_n 0, 1) := by decide +kernel
theorem dX9_init_1 : decode cX9_init 1 = .ok (.invokespecial 1, 3) := by decide +kernel
theorem dX9_init_4 : decode cX9_init 4 = .ok (.aload_n 0, 1) := by decide +kernel
theorem dX9_init_5 : decode cX9_init 5 = .ok (.bipush 61, 2) := by decide +kernel
theorem dX9_init_7 : decode cX9_init 7 = .ok (.newarray .int, 2) := by decide +kernel
theorem dX9_init_9 : decode cX9_init 9 = .ok (.putfield 7, 3) := by decide +kernel
theorem dX9_init_12 : decode cX9_init 12 = .ok (.aload_n 0, 1) := by decide +kernel
theorem dX9_init_13 : decode cX9_init 13 = .ok (.bipush 61, 2) := by decide +kernel
theorem dX9_init_15 : decode cX9_init 15 = .ok (.newarray .int, 2) := by decide +kernel
theorem dX9_init_17 : decode cX9_init 17 = .ok (.putfield 13, 3) := by decide +kernel
theorem dX9_init_20 : decode cX9_init 20 = .ok (.aload_n 0, 1) := by decide +kernel
theorem dX9_init_21 : decode cX9_init 21 = .ok (.bipush 6, 2) := by decide +kernel
theorem dX9_init_23 : decode cX9_init 23 = .ok (.newarray .int, 2) := by decide +kernel
theorem dX9_init_25 : decode cX9_init 25 = .ok (.putfield 16, 3) := by decide +kernel
theorem dX9_init_28 : decode cX9_init 28 = .ok (.aload_n 0, 1) := by decide +kernel
theorem dX9_init_29 : decode cX9_init 29 = .ok (.bipush 10, 2) := by decide +kernel
theorem dX9_init_31 : decode cX9_init 31 = .ok (.newarray .int, 2) := by decide +kernel
theorem dX9_init_33 : decode cX9_init 33 = .ok (.putfield 19, 3) := by decide +kernel
theorem dX9_init_36 : decode cX9_init 36 = .ok (.aload_n 0, 1) := by decide +kernel
theorem dX9_init_37 : decode cX9_init 37 = .ok (.bipush 32, 2) := by decide +kernel
theorem dX9_init_39 : decode cX9_init 39 = .ok (.newarray .int, 2) := by decide +kernel
theorem dX9_init_41 : decode cX9_init 41 = .ok (.putfield 22, 3) := by decide +kernel
theorem dX9_init_44 : decode cX9_init 44 = .ok (.aload_n 0, 1) := by decide +kernel
theorem dX9_init_45 : decode cX9_init 45 = .ok (.bipush 60, 2) := by decide +kernel
theorem dX9_init_47 : decode cX9_init 47 = .ok (.newarray .int, 2) := by decide +kernel
theorem dX9_init_49 : decode cX9_init 49 = .ok (.putfield 25, 3) := by decide +kernel
theorem dX9_init_52 : decode cX9_init 52 = .ok (.aload_n 0, 1) := by decide +kernel
theorem dX9_init_53 : decode cX9_init 53 = .ok (.bipush 110, 2) := by decide +kernel
theorem dX9_init_55 : decode cX9_init 55 = .ok (.newarray .long, 2) := by decide +kernel
theorem dX9_init_57 : decode cX9_init 57 = .ok (.putfield 28, 3) := by decide +kernel
theorem dX9_init_60 : decode cX9_init 60 = .ok (.aload_n 0, 1) := by decide +kernel
theorem dX9_init_61 : decode cX9_init 61 = .ok (.bipush 64, 2) := by decide +kernel
theorem dX9_init_63 : decode cX9_init 63 = .ok (.newarray .int, 2) := by decide +kernel
theorem dX9_init_65 : decode cX9_init 65 = .ok (.putfield 32, 3) := by decide +kernel
theorem dX9_init_68 : decode cX9_init 68 = .ok (.aload_n 0, 1) := by decide +kernel
theorem dX9_init_69 : decode cX9_init 69 = .ok (.bipush 6, 2) := by decide +kernel
theorem dX9_init_71 : decode cX9_init 71 = .ok (.newarray .int, 2) := by decide +kernel
theorem dX9_init_73 : decode cX9_init 73 = .ok (.putfield 35, 3) := by decide +kernel
theorem dX9_init_76 : decode cX9_init 76 = .ok (.aload_n 0, 1) := by decide +kernel
theorem dX9_init_77 : decode cX9_init 77 = .ok (.bipush 6, 2) := by decide +kernel
theorem dX9_init_79 : decode cX9_init 79 = .ok (.newarray .int, 2) := by decide +kernel
theorem dX9_init_81 : decode cX9_init 81 = .ok (.putfield 38, 3) := by decide +kernel
theorem dX9_init_84 : decode cX9_init 84 = .ok (.aload_n 0, 1) := by decide +kernel
theorem dX9_init_85 : decode cX9_init 85 = .ok (.sipush 260, 3) := by decide +kernel
theorem dX9_init_88 : decode cX9_init 88 = .ok (.newarray .int, 2) := by decide +kernel
theorem dX9_init_90 : decode cX9_init 90 = .ok (.putfield 41, 3) := by decide +kernel
theorem dX9_init_93 : decode cX9_init 93 = .ok (.aload_n 0, 1) := by decide +kernel
theorem dX9_init_94 : decode cX9_init 94 = .ok (.iconst 2, 1) := by decide +kernel
theorem dX9_init_95 : decode cX9_init 95 = .ok (.newarray .boolean, 2) := by decide +kernel
theorem dX9_init_97 : decode cX9_init 97 = .ok (.putfield 44, 3) := by decide +kernel
theorem dX9_init_100 : decode cX9_init 100 = .ok (.iconst 1, 1) := by decide +kernel
theorem dX9_init_101 : decode cX9_init 101 = .ok (.istore_n 1, 1) := by decide +kernel
theorem dX9_init_102 : decode cX9_init 102 = .ok (.iload_n 1, 1) := by decide +kernel
theorem dX9_init_103 : decode cX9_init 103 = .ok (.bipush 10, 2) := by decide +kernel
theorem dX9_init_105 : decode cX9_init 105 = .ok (.if_icmp .ge 16, 3) := by decide +kernel
theorem dX9_init_108 : decode cX9_init 108 = .ok (.aload_n 0, 1) := by decide +kernel
theorem dX9_init_109 : decode cX9_init 109 = .ok (.getfield 19, 3) := by decide +kernel
theorem dX9_init_112 : decode cX9_init 112 = .ok (.iload_n 1, 1) := by decide +kernel
theorem dX9_init_113 : decode cX9_init 113 = .ok (.iconst 1, 1) := by decide +kernel
theorem dX9_init_114 : decode cX9_init 114 = .ok (.iastore, 1) := by decide +kernel
theorem dX9_init_115 : decode cX9_init 115 = .ok (.iinc 1 1, 3) := by decide +kernel
theorem dX9_init_118 : decode cX9_init 118 = .ok (.goto (-16), 3) := by decide +kernel
theorem dX9_init_121 : decode cX9_init 121 = .ok (.return_, 1) := by decide +kernel
theorem dX9_in_0 : decode cX9_in 0 = .ok (.iload_n 0, 1) := by decide +kernel
theorem dX9_in_1 : decode cX9_in 1 = .ok (.iload_n 1, 1) := by decide +kernel
theorem dX9_in_2 : decode cX9_in 2 = .ok (.if_icmp .lt 12, 3) := by decide +kernel
theorem dX9_in_5 : decode cX9_in 5 = .ok (.iload_n 0, 1) := by decide +kernel
theorem dX9_in_6 : decode cX9_in 6 = .ok (.iload_n 2, 1) := by decide +kernel
theorem dX9_in_7 : decode cX9_in 7 = .ok (.if_icmp .gt 7, 3) := by decide +kernel
theorem dX9_in_10 : decode cX9_in 10 = .ok (.iconst 1, 1) := by decide +kernel
theorem dX9_in_11 : decode cX9_in 11 = .ok (.goto 4, 3) := by decide +kernel
theorem dX9_in_14 : decode cX9_in 14 = .ok (.iconst 0, 1) := by decide +kernel
theorem dX9_in_15 : decode cX9_in 15 = .ok (.ireturn, 1) := by decide +kernel
theorem dX9_has_0 : decode cX9_has 0 = .ok (.iload_n 0, 1) := by decide +kernel
theorem dX9_has_1 : decode cX9_has 1 = .ok (.iload_n 1, 1) := by decide +kernel
theorem dX9_has_2 : decode cX9_has 2 = .ok (.ishr, 1) := by decide +kernel
theorem dX9_has_3 : decode cX9_has 3 = .ok (.iconst 1, 1) := by decide +kernel
theorem dX9_has_4 : decode cX9_has 4 = .ok (.iand, 1) := by decide +kernel
theorem dX9_has_5 : decode cX9_has 5 = .ok (.iconst 1, 1) := by decide +kernel
theorem dX9_has_6 : decode cX9_has 6 = .ok (.if_icmp .ne 7, 3) := by decide +kernel
theorem dX9_has_9 : decode cX9_has 9 = .ok (.iconst 1, 1) := by decide +kernel
theorem dX9_has_10 : decode cX9_has 10 = .ok (.goto 4, 3) := by decide +kernel
theorem dX9_has_13 : decode cX9_has 13 = .ok (.iconst 0, 1) := by decide +kernel
theorem dX9_has_14 : decode cX9_has 14 = .ok (.ireturn, 1) := by decide +kernel
theorem dX9_bits_0 : decode cX9_bits 0 = .ok (.iconst 0, 1) := by decide +kernel
theorem dX9_bits_1 : decode cX9_bits 1 = .ok (.istore_n 1, 1) := by decide +kernel
theorem dX9_bits_2 : decode cX9_bits 2 = .ok (.iconst 0, 1) := by decide +kernel
theorem dX9_bits_3 : decode cX9_bits 3 = .ok (.istore_n 2, 1) := by decide +kernel
theorem dX9_bits_4 : decode cX9_bits 4 = .ok (.iload_n 2, 1) := by decide +kernel
theorem dX9_bits_5 : decode cX9_bits 5 = .ok (.bipush 12, 2) := by decide +kernel
theorem dX9_bits_7 : decode cX9_bits 7 = .ok (.if_icmp .ge 17, 3) := by decide +kernel
theorem dX9_bits_10 : decode cX9_bits 10 = .ok (.iload_n 1, 1) := by decide +kernel
theorem dX9_bits_11 : decode cX9_bits 11 = .ok (.iload_n 0, 1) := by decide +kernel
theorem dX9_bits_12 : decode cX9_bits 12 = .ok (.iload_n 2, 1) := by decide +kernel
theorem dX9_bits_13 : decode cX9_bits 13 = .ok (.ishr, 1) := by decide +kernel
theorem dX9_bits_14 : decode cX9_bits 14 = .ok (.iconst 1, 1) := by decide +kernel
theorem dX9_bits_15 : decode cX9_bits 15 = .ok (.iand, 1) := by decide +kernel
theorem dX9_bits_16 : decode cX9_bits 16 = .ok (.iadd, 1) := by decide +kernel
theorem dX9_bits_17 : decode cX9_bits 17 = .ok (.istore_n 1, 1) := by decide +kernel
theorem dX9_bits_18 : decode cX9_bits 18 = .ok (.iinc 2 1, 3) := by decide +kernel
theorem dX9_bits_21 : decode cX9_bits 21 = .ok (.goto (-17), 3) := by decide +kernel
theorem dX9_bits_24 : decode cX9_bits 24 = .ok (.iload_n 1, 1) := by decide +kernel
theorem dX9_bits_25 : decode cX9_bits 25 = .ok (.ireturn, 1) := by decide +kernel
theorem dX9_isThere_0 : decode cX9_isThere 0 = .ok (.iload_n 1, 1) := by decide +kernel
theorem dX9_isThere_1 : decode cX9_isThere 1 = .ok (.iconst 0, 1) := by decide +kernel
theorem dX9_isThere_2 : decode cX9_isThere 2 = .ok (.iconst 5, 1) := by decide +kernel
theorem dX9_isThere_3 : decode cX9_isThere 3 = .ok (.invokestatic 48, 3) := by decide +kernel
theorem dX9_isThere_6 : decode cX9_isThere 6 = .ok (.ifCond .eq 18, 3) := by decide +kernel
theorem dX9_isThere_9 : decode cX9_isThere 9 = .ok (.aload_n 0, 1) := by decide +kernel
theorem dX9_isThere_10 : decode cX9_isThere 10 = .ok (.getfield 52, 3) := by decide +kernel
theorem dX9_isThere_13 : decode cX9_isThere 13 = .ok (.iload_n 1, 1) := by decide +kernel
theorem dX9_isThere_14 : decode cX9_isThere 14 = .ok (.invokestatic 56, 3) := by decide +kernel
theorem dX9_isThere_17 : decode cX9_isThere 17 = .ok (.ifCond .eq 7, 3) := by decide +kernel
theorem dX9_isThere_20 : decode cX9_isThere 20 = .ok (.iconst 1, 1) := by decide +kernel
theorem dX9_isThere_21 : decode cX9_isThere 21 = .ok (.goto 4, 3) := by decide +kernel
theorem dX9_isThere_24 : decode cX9_isThere 24 = .ok (.iconst 0, 1) := by decide +kernel
theorem dX9_isThere_25 : decode cX9_isThere 25 = .ok (.ireturn, 1) := by decide +kernel
theorem dX9_person_0 : decode cX9_person 0 = .ok (.iload_n 1, 1) := by decide +kernel
theorem dX9_person_1 : decode cX9_person 1 = .ok (.iconst 0, 1) := by decide +kernel
theorem dX9_person_2 : decode cX9_person 2 = .ok (.iconst 5, 1) := by decide +kernel
theorem dX9_person_3 : decode cX9_person 3 = .ok (.invokestatic 48, 3) := by decide +kernel
theorem dX9_person_6 : decode cX9_person 6 = .ok (.ifCond .ne 5, 3) := by decide +kernel
theorem dX9_person_9 : decode cX9_person 9 = .ok (.iconst (-1), 1) := by decide +kernel
theorem dX9_person_10 : decode cX9_person 10 = .ok (.ireturn, 1) := by decide +kernel
theorem dX9_person_11 : decode cX9_person 11 = .ok (.iload_n 2, 1) := by decide +kernel
theorem dX9_person_12 : decode cX9_person 12 = .ok (.iconst 0, 1) := by decide +kernel
theorem dX9_person_13 : decode cX9_person 13 = .ok (.sipush 400, 3) := by decide +kernel
theorem dX9_person_16 : decode cX9_person 16 = .ok (.invokestatic 48, 3) := by decide +kernel
theorem dX9_person_19 : decode cX9_person 19 = .ok (.ifCond .eq 13, 3) := by decide +kernel
theorem dX9_person_22 : decode cX9_person 22 = .ok (.iload_n 3, 1) := by decide +kernel
theorem dX9_person_23 : decode cX9_person 23 = .ok (.iconst 0, 1) := by decide +kernel
theorem dX9_person_24 : decode cX9_person 24 = .ok (.bipush 9, 2) := by decide +kernel
theorem dX9_person_26 : decode cX9_person 26 = .ok (.invokestatic 48, 3) := by decide +kernel
theorem dX9_person_29 : decode cX9_person 29 = .ok (.ifCond .ne 6, 3) := by decide +kernel
theorem dX9_person_32 : decode cX9_person 32 = .ok (.bipush (-2), 2) := by decide +kernel
theorem dX9_person_34 : decode cX9_person 34 = .ok (.ireturn, 1) := by decide +kernel
theorem dX9_person_35 : decode cX9_person 35 = .ok (.aload_n 0, 1) := by decide +kernel
theorem dX9_person_36 : decode cX9_person 36 = .ok (.getfield 52, 3) := by decide +kernel
theorem dX9_person_39 : decode cX9_person 39 = .ok (.iload_n 1, 1) := by decide +kernel
theorem dX9_person_40 : decode cX9_person 40 = .ok (.invokestatic 56, 3) := by decide +kernel
theorem dX9_person_43 : decode cX9_person 43 = .ok (.ifCond .ne 23, 3) := by decide +kernel
theorem dX9_person_46 : decode cX9_person 46 = .ok (.aload_n 0, 1) := by decide +kernel
theorem dX9_person_47 : decode cX9_person 47 = .ok (.getfield 7, 3) := by decide +kernel
theorem dX9_person_50 : decode cX9_person 50 = .ok (.bipush 6, 2) := by decide +kernel
theorem dX9_person_52 : decode cX9_person 52 = .ok (.iload_n 1, 1) := by decide +kernel
theorem dX9_person_53 : decode cX9_person 53 = .ok (.iadd, 1) := by decide +kernel
theorem dX9_person_54 : decode cX9_person 54 = .ok (.iconst 0, 1) := by decide +kernel
theorem dX9_person_55 : decode cX9_person 55 = .ok (.iastore, 1) := by decide +kernel
theorem dX9_person_56 : decode cX9_person 56 = .ok (.aload_n 0, 1) := by decide +kernel
theorem dX9_person_57 : decode cX9_person 57 = .ok (.getfield 7, 3) := by decide +kernel
theorem dX9_person_60 : decode cX9_person 60 = .ok (.bipush 12, 2) := by decide +kernel
theorem dX9_person_62 : decode cX9_person 62 = .ok (.iload_n 1, 1) := by decide +kernel
theorem dX9_person_63 : decode cX9_person 63 = .ok (.iadd, 1) := by decide +kernel
theorem dX9_person_64 : decode cX9_person 64 = .ok (.iconst 0, 1) := by decide +kernel
theorem dX9_person_65 : decode cX9_person 65 = .ok (.iastore, 1) := by decide +kernel
theorem dX9_person_66 : decode cX9_person 66 = .ok (.aload_n 0, 1) := by decide +kernel
theorem dX9_person_67 : decode cX9_person 67 = .ok (.dup, 1) := by decide +kernel
theorem dX9_person_68 : decode cX9_person 68 = .ok (.getfield 52, 3) := by decide +kernel
theorem dX9_person_71 : decode cX9_person 71 = .ok (.iconst 1, 1) := by decide +kernel
theorem dX9_person_72 : decode cX9_person 72 = .ok (.iload_n 1, 1) := by decide +kernel
theorem dX9_person_73 : decode cX9_person 73 = .ok (.ishl, 1) := by decide +kernel
theorem dX9_person_74 : decode cX9_person 74 = .ok (.ior, 1) := by decide +kernel
theorem dX9_person_75 : decode cX9_person 75 = .ok (.putfield 52, 3) := by decide +kernel
theorem dX9_person_78 : decode cX9_person 78 = .ok (.aload_n 0, 1) := by decide +kernel
theorem dX9_person_79 : decode cX9_person 79 = .ok (.getfield 7, 3) := by decide +kernel
theorem dX9_person_82 : decode cX9_person 82 = .ok (.iload_n 1, 1) := by decide +kernel
theorem dX9_person_83 : decode cX9_person 83 = .ok (.iload_n 2, 1) := by decide +kernel
theorem dX9_person_84 : decode cX9_person 84 = .ok (.iastore, 1) := by decide +kernel
theorem dX9_person_85 : decode cX9_person 85 = .ok (.aload_n 0, 1) := by decide +kernel
theorem dX9_person_86 : decode cX9_person 86 = .ok (.getfield 16, 3) := by decide +kernel
theorem dX9_person_89 : decode cX9_person 89 = .ok (.iload_n 1, 1) := by decide +kernel
theorem dX9_person_90 : decode cX9_person 90 = .ok (.iload_n 3, 1) := by decide +kernel
theorem dX9_person_91 : decode cX9_person 91 = .ok (.iastore, 1) := by decide +kernel
theorem dX9_person_92 : decode cX9_person 92 = .ok (.aload_n 0, 1) := by decide +kernel
theorem dX9_person_93 : decode cX9_person 93 = .ok (.getfield 52, 3) := by decide +kernel
theorem dX9_person_96 : decode cX9_person 96 = .ok (.invokestatic 60, 3) := by decide +kernel
theorem dX9_person_99 : decode cX9_person 99 = .ok (.ireturn, 1) := by decide +kernel
theorem dX9_die_0 : decode cX9_die 0 = .ok (.aload_n 0, 1) := by decide +kernel
theorem dX9_die_1 : decode cX9_die 1 = .ok (.iload_n 1, 1) := by decide +kernel
theorem dX9_die_2 : decode cX9_die 2 = .ok (.invokevirtual 64, 3) := by decide +kernel
theorem dX9_die_5 : decode cX9_die 5 = .ok (.ifCond .ne 5, 3) := by decide +kernel
theorem dX9_die_8 : decode cX9_die 8 = .ok (.iconst (-1), 1) := by decide +kernel
theorem dX9_die_9 : decode cX9_die 9 = .ok (.ireturn, 1) := by decide +kernel
theorem dX9_die_10 : decode cX9_die 10 = .ok (.aload_n 0, 1) := by decide +kernel
theorem dX9_die_11 : decode cX9_die 11 = .ok (.dup, 1) := by decide +kernel
theorem dX9_die_12 : decode cX9_die 12 = .ok (.getfield 52, 3) := by decide +kernel
theorem dX9_die_15 : decode cX9_die 15 = .ok (.iconst 1, 1) := by decide +kernel
theorem dX9_die_16 : decode cX9_die 16 = .ok (.iload_n 1, 1) := by decide +kernel
theorem dX9_die_17 : decode cX9_die 17 = .ok (.ishl, 1) := by decide +kernel
theorem dX9_die_18 : decode cX9_die 18 = .ok (.iconst (-1), 1) := by decide +kernel
theorem dX9_die_19 : decode cX9_die 19 = .ok (.ixor, 1) := by decide +kernel
theorem dX9_die_20 : decode cX9_die 20 = .ok (.iand, 1) := by decide +kernel
theorem dX9_die_21 : decode cX9_die 21 = .ok (.putfield 52, 3) := by decide +kernel
theorem dX9_die_24 : decode cX9_die 24 = .ok (.iconst 0, 1) := by decide +kernel
theorem dX9_die_25 : decode cX9_die 25 = .ok (.istore_n 2, 1) := by decide +kernel
theorem dX9_die_26 : decode cX9_die 26 = .ok (.iload_n 2, 1) := by decide +kernel
theorem dX9_die_27 : decode cX9_die 27 = .ok (.bipush 6, 2) := by decide +kernel
theorem dX9_die_29 : decode cX9_die 29 = .ok (.if_icmp .ge 39, 3) := by decide +kernel
theorem dX9_die_32 : decode cX9_die 32 = .ok (.aload_n 0, 1) := by decide +kernel
theorem dX9_die_33 : decode cX9_die 33 = .ok (.getfield 7, 3) := by decide +kernel
theorem dX9_die_36 : decode cX9_die 36 = .ok (.bipush 20, 2) := by decide +kernel
theorem dX9_die_38 : decode cX9_die 38 = .ok (.bipush 6, 2) := by decide +kernel
theorem dX9_die_40 : decode cX9_die 40 = .ok (.iload_n 1, 1) := by decide +kernel
theorem dX9_die_41 : decode cX9_die 41 = .ok (.imul, 1) := by decide +kernel
theorem dX9_die_42 : decode cX9_die 42 = .ok (.iadd, 1) := by decide +kernel
theorem dX9_die_43 : decode cX9_die 43 = .ok (.iload_n 2, 1) := by decide +kernel
theorem dX9_die_44 : decode cX9_die 44 = .ok (.iadd, 1) := by decide +kernel
theorem dX9_die_45 : decode cX9_die 45 = .ok (.iconst 0, 1) := by decide +kernel
theorem dX9_die_46 : decode cX9_die 46 = .ok (.iastore, 1) := by decide +kernel
theorem dX9_die_47 : decode cX9_die 47 = .ok (.aload_n 0, 1) := by decide +kernel
theorem dX9_die_48 : decode cX9_die 48 = .ok (.getfield 7, 3) := by decide +kernel
theorem dX9_die_51 : decode cX9_die 51 = .ok (.bipush 20, 2) := by decide +kernel
theorem dX9_die_53 : decode cX9_die 53 = .ok (.bipush 6, 2) := by decide +kernel
theorem dX9_die_55 : decode cX9_die 55 = .ok (.iload_n 2, 1) := by decide +kernel
theorem dX9_die_56 : decode cX9_die 56 = .ok (.imul, 1) := by decide +kernel
theorem dX9_die_57 : decode cX9_die 57 = .ok (.iadd, 1) := by decide +kernel
theorem dX9_die_58 : decode cX9_die 58 = .ok (.iload_n 1, 1) := by decide +kernel
theorem dX9_die_59 : decode cX9_die 59 = .ok (.iadd, 1) := by decide +kernel
theorem dX9_die_60 : decode cX9_die 60 = .ok (.iconst 0, 1) := by decide +kernel
theorem dX9_die_61 : decode cX9_die 61 = .ok (.iastore, 1) := by decide +kernel
theorem dX9_die_62 : decode cX9_die 62 = .ok (.iinc 2 1, 3) := by decide +kernel
theorem dX9_die_65 : decode cX9_die 65 = .ok (.goto (-39), 3) := by decide +kernel
theorem dX9_die_68 : decode cX9_die 68 = .ok (.aload_n 0, 1) := by decide +kernel
theorem dX9_die_69 : decode cX9_die 69 = .ok (.getfield 52, 3) := by decide +kernel
theorem dX9_die_72 : decode cX9_die 72 = .ok (.invokestatic 60, 3) := by decide +kernel
theorem dX9_die_75 : decode cX9_die 75 = .ok (.ireturn, 1) := by decide +kernel
theorem dX9_weight_0 : decode cX9_weight 0 = .ok (.iload_n 1, 1) := by decide +kernel
theorem dX9_weight_1 : decode cX9_weight 1 = .ok (.iconst 1, 1) := by decide +kernel
theorem dX9_weight_2 : decode cX9_weight 2 = .ok (.bipush 9, 2) := by decide +kernel
theorem dX9_weight_4 : decode cX9_weight 4 = .ok (.invokestatic 48, 3) := by decide +kernel
theorem dX9_weight_7 : decode cX9_weight 7 = .ok (.ifCond .eq 13, 3) := by decide +kernel
theorem dX9_weight_10 : decode cX9_weight 10 = .ok (.iload_n 2, 1) := by decide +kernel
theorem dX9_weight_11 : decode cX9_weight 11 = .ok (.iconst 0, 1) := by decide +kernel
theorem dX9_weight_12 : decode cX9_weight 12 = .ok (.bipush 9, 2) := by decide +kernel
theorem dX9_weight_14 : decode cX9_weight 14 = .ok (.invokestatic 48, 3) := by decide +kernel
theorem dX9_weight_17 : decode cX9_weight 17 = .ok (.ifCond .ne 6, 3) := by decide +kernel
theorem dX9_weight_20 : decode cX9_weight 20 = .ok (.bipush (-2), 2) := by decide +kernel
theorem dX9_weight_22 : decode cX9_weight 22 = .ok (.ireturn, 1) := by decide +kernel
theorem dX9_weight_23 : decode cX9_weight 23 = .ok (.iconst 0, 1) := by decide +kernel
theorem dX9_weight_24 : decode cX9_weight 24 = .ok (.istore_n 3, 1) := by decide +kernel
theorem dX9_weight_25 : decode cX9_weight 25 = .ok (.iconst 1, 1) := by decide +kernel
theorem dX9_weight_26 : decode cX9_weight 26 = .ok (.istore 4, 2) := by decide +kernel
theorem dX9_weight_28 : decode cX9_weight 28 = .ok (.iload 4, 2) := by decide +kernel
theorem dX9_weight_30 : decode cX9_weight 30 = .ok (.bipush 10, 2) := by decide +kernel
theorem dX9_weight_32 : decode cX9_weight 32 = .ok (.if_icmp .ge 29, 3) := by decide +kernel
theorem dX9_weight_35 : decode cX9_weight 35 = .ok (.iload_n 3, 1) := by decide +kernel
theorem dX9_weight_36 : decode cX9_weight 36 = .ok (.iload 4, 2) := by decide +kernel
theorem dX9_weight_38 : decode cX9_weight 38 = .ok (.iload_n 1, 1) := by decide +kernel
theorem dX9_weight_39 : decode cX9_weight 39 = .ok (.if_icmp .ne 7, 3) := by decide +kernel
theorem dX9_weight_42 : decode cX9_weight 42 = .ok (.iconst 0, 1) := by decide +kernel
theorem dX9_weight_43 : decode cX9_weight 43 = .ok (.goto 10, 3) := by decide +kernel
theorem dX9_weight_46 : decode cX9_weight 46 = .ok (.aload_n 0, 1) := by decide +kernel
theorem dX9_weight_47 : decode cX9_weight 47 = .ok (.getfield 19, 3) := by decide +kernel
theorem dX9_weight_50 : decode cX9_weight 50 = .ok (.iload 4, 2) := by decide +kernel
theorem dX9_weight_52 : decode cX9_weight 52 = .ok (.iaload, 1) := by decide +kernel
theorem dX9_weight_53 : decode cX9_weight 53 = .ok (.iadd, 1) := by decide +kernel
theorem dX9_weight_54 : decode cX9_weight 54 = .ok (.istore_n 3, 1) := by decide +kernel
theorem dX9_weight_55 : decode cX9_weight 55 = .ok (.iinc 4 1, 3) := by decide +kernel
theorem dX9_weight_58 : decode cX9_weight 58 = .ok (.goto (-30), 3) := by decide +kernel
theorem dX9_weight_61 : decode cX9_weight 61 = .ok (.iload_n 3, 1) := by decide +kernel
theorem dX9_weight_62 : decode cX9_weight 62 = .ok (.iload_n 2, 1) := by decide +kernel
theorem dX9_weight_63 : decode cX9_weight 63 = .ok (.iadd, 1) := by decide +kernel
theorem dX9_weight_64 : decode cX9_weight 64 = .ok (.ifCond .ne 6, 3) := by decide +kernel
theorem dX9_weight_67 : decode cX9_weight 67 = .ok (.bipush (-3), 2) := by decide +kernel
theorem dX9_weight_69 : decode cX9_weight 69 = .ok (.ireturn, 1) := by decide +kernel
theorem dX9_weight_70 : decode cX9_weight 70 = .ok (.aload_n 0, 1) := by decide +kernel
theorem dX9_weight_71 : decode cX9_weight 71 = .ok (.getfield 19, 3) := by decide +kernel
theorem dX9_weight_74 : decode cX9_weight 74 = .ok (.iload_n 1, 1) := by decide +kernel
theorem dX9_weight_75 : decode cX9_weight 75 = .ok (.iaload, 1) := by decide +kernel
theorem dX9_weight_76 : decode cX9_weight 76 = .ok (.istore 4, 2) := by decide +kernel
theorem dX9_weight_78 : decode cX9_weight 78 = .ok (.aload_n 0, 1) := by decide +kernel
theorem dX9_weight_79 : decode cX9_weight 79 = .ok (.getfield 19, 3) := by decide +kernel
theorem dX9_weight_82 : decode cX9_weight 82 = .ok (.iload_n 1, 1) := by decide +kernel
theorem dX9_weight_83 : decode cX9_weight 83 = .ok (.iload_n 2, 1) := by decide +kernel
theorem dX9_weight_84 : decode cX9_weight 84 = .ok (.iastore, 1) := by decide +kernel
theorem dX9_weight_85 : decode cX9_weight 85 = .ok (.iload 4, 2) := by decide +kernel
theorem dX9_weight_87 : decode cX9_weight 87 = .ok (.ireturn, 1) := by decide +kernel
theorem dX9_say_0 : decode cX9_say 0 = .ok (.iload_n 1, 1) := by decide +kernel
theorem dX9_say_1 : decode cX9_say 1 = .ok (.bipush 33, 2) := by decide +kernel
theorem dX9_say_3 : decode cX9_say 3 = .ok (.bipush 126, 2) := by decide +kernel
theorem dX9_say_5 : decode cX9_say 5 = .ok (.invokestatic 48, 3) := by decide +kernel
theorem dX9_say_8 : decode cX9_say 8 = .ok (.ifCond .ne 6, 3) := by decide +kernel
theorem dX9_say_11 : decode cX9_say 11 = .ok (.bipush (-2), 2) := by decide +kernel
theorem dX9_say_13 : decode cX9_say 13 = .ok (.ireturn, 1) := by decide +kernel
theorem dX9_say_14 : decode cX9_say 14 = .ok (.aload_n 0, 1) := by decide +kernel
theorem dX9_say_15 : decode cX9_say 15 = .ok (.getfield 68, 3) := by decide +kernel
theorem dX9_say_18 : decode cX9_say 18 = .ok (.bipush 60, 2) := by decide +kernel
theorem dX9_say_20 : decode cX9_say 20 = .ok (.if_icmp .ne 6, 3) := by decide +kernel
theorem dX9_say_23 : decode cX9_say 23 = .ok (.bipush (-4), 2) := by decide +kernel
theorem dX9_say_25 : decode cX9_say 25 = .ok (.ireturn, 1) := by decide +kernel
theorem dX9_say_26 : decode cX9_say 26 = .ok (.aload_n 0, 1) := by decide +kernel
theorem dX9_say_27 : decode cX9_say 27 = .ok (.getfield 25, 3) := by decide +kernel
theorem dX9_say_30 : decode cX9_say 30 = .ok (.aload_n 0, 1) := by decide +kernel
theorem dX9_say_31 : decode cX9_say 31 = .ok (.getfield 68, 3) := by decide +kernel
theorem dX9_say_34 : decode cX9_say 34 = .ok (.iload_n 1, 1) := by decide +kernel
theorem dX9_say_35 : decode cX9_say 35 = .ok (.iastore, 1) := by decide +kernel
theorem dX9_say_36 : decode cX9_say 36 = .ok (.aload_n 0, 1) := by decide +kernel
theorem dX9_say_37 : decode cX9_say 37 = .ok (.dup, 1) := by decide +kernel
theorem dX9_say_38 : decode cX9_say 38 = .ok (.getfield 68, 3) := by decide +kernel
theorem dX9_say_41 : decode cX9_say 41 = .ok (.iconst 1, 1) := by decide +kernel
theorem dX9_say_42 : decode cX9_say 42 = .ok (.iadd, 1) := by decide +kernel
theorem dX9_say_43 : decode cX9_say 43 = .ok (.putfield 68, 3) := by decide +kernel
theorem dX9_say_46 : decode cX9_say 46 = .ok (.aload_n 0, 1) := by decide +kernel
theorem dX9_say_47 : decode cX9_say 47 = .ok (.getfield 68, 3) := by decide +kernel
theorem dX9_say_50 : decode cX9_say 50 = .ok (.ireturn, 1) := by decide +kernel
theorem dX9_wipe_0 : decode cX9_wipe 0 = .ok (.aload_n 0, 1) := by decide +kernel
theorem dX9_wipe_1 : decode cX9_wipe 1 = .ok (.getfield 68, 3) := by decide +kernel
theorem dX9_wipe_4 : decode cX9_wipe 4 = .ok (.istore_n 1, 1) := by decide +kernel
theorem dX9_wipe_5 : decode cX9_wipe 5 = .ok (.aload_n 0, 1) := by decide +kernel
theorem dX9_wipe_6 : decode cX9_wipe 6 = .ok (.iconst 0, 1) := by decide +kernel
theorem dX9_wipe_7 : decode cX9_wipe 7 = .ok (.putfield 68, 3) := by decide +kernel
theorem dX9_wipe_10 : decode cX9_wipe 10 = .ok (.iload_n 1, 1) := by decide +kernel
theorem dX9_wipe_11 : decode cX9_wipe 11 = .ok (.ireturn, 1) := by decide +kernel
theorem dX9_isLetter_0 : decode cX9_isLetter 0 = .ok (.iload_n 0, 1) := by decide +kernel
theorem dX9_isLetter_1 : decode cX9_isLetter 1 = .ok (.bipush 65, 2) := by decide +kernel
theorem dX9_isLetter_3 : decode cX9_isLetter 3 = .ok (.bipush 70, 2) := by decide +kernel
theorem dX9_isLetter_5 : decode cX9_isLetter 5 = .ok (.invokestatic 48, 3) := by decide +kernel
theorem dX9_isLetter_8 : decode cX9_isLetter 8 = .ok (.ireturn, 1) := by decide +kernel
theorem dX9_isDigit_0 : decode cX9_isDigit 0 = .ok (.iload_n 0, 1) := by decide +kernel
theorem dX9_isDigit_1 : decode cX9_isDigit 1 = .ok (.bipush 49, 2) := by decide +kernel
theorem dX9_isDigit_3 : decode cX9_isDigit 3 = .ok (.bipush 57, 2) := by decide +kernel
theorem dX9_isDigit_5 : decode cX9_isDigit 5 = .ok (.invokestatic 48, 3) := by decide +kernel
theorem dX9_isDigit_8 : decode cX9_isDigit 8 = .ok (.ireturn, 1) := by decide +kernel
theorem dX9_passes_0 : decode cX9_passes 0 = .ok (.iload_n 0, 1) := by decide +kernel
theorem dX9_passes_1 : decode cX9_passes 1 = .ok (.bipush 62, 2) := by decide +kernel
theorem dX9_passes_3 : decode cX9_passes 3 = .ok (.if_icmp .eq 15, 3) := by decide +kernel
theorem dX9_passes_6 : decode cX9_passes 6 = .ok (.iload_n 0, 1) := by decide +kernel
theorem dX9_passes_7 : decode cX9_passes 7 = .ok (.bipush 61, 2) := by decide +kernel
theorem dX9_passes_9 : decode cX9_passes 9 = .ok (.if_icmp .eq 9, 3) := by decide +kernel
theorem dX9_passes_12 : decode cX9_passes 12 = .ok (.iload_n 0, 1) := by decide +kernel
theorem dX9_passes_13 : decode cX9_passes 13 = .ok (.bipush 60, 2) := by decide +kernel
theorem dX9_passes_15 : decode cX9_passes 15 = .ok (.if_icmp .ne 7, 3) := by decide +kernel
theorem dX9_passes_18 : decode cX9_passes 18 = .ok (.iconst 1, 1) := by decide +kernel
theorem dX9_passes_19 : decode cX9_passes 19 = .ok (.goto 4, 3) := by decide +kernel
theorem dX9_passes_22 : decode cX9_passes 22 = .ok (.iconst 0, 1) := by decide +kernel
theorem dX9_passes_23 : decode cX9_passes 23 = .ok (.ireturn, 1) := by decide +kernel
theorem dX9_faultOf_0 : decode cX9_faultOf 0 = .ok (.iconst 0, 1) := by decide +kernel
theorem dX9_faultOf_1 : decode cX9_faultOf 1 = .ok (.istore_n 1, 1) := by decide +kernel
theorem dX9_faultOf_2 : decode cX9_faultOf 2 = .ok (.iconst 0, 1) := by decide +kernel
theorem dX9_faultOf_3 : decode cX9_faultOf 3 = .ok (.istore_n 2, 1) := by decide +kernel
theorem dX9_faultOf_4 : decode cX9_faultOf 4 = .ok (.iload_n 2, 1) := by decide +kernel
theorem dX9_faultOf_5 : decode cX9_faultOf 5 = .ok (.aload_n 0, 1) := by decide +kernel
theorem dX9_faultOf_6 : decode cX9_faultOf 6 = .ok (.getfield 68, 3) := by decide +kernel
theorem dX9_faultOf_9 : decode cX9_faultOf 9 = .ok (.if_icmp .ge 169, 3) := by decide +kernel
theorem dX9_faultOf_12 : decode cX9_faultOf 12 = .ok (.aload_n 0, 1) := by decide +kernel
theorem dX9_faultOf_13 : decode cX9_faultOf 13 = .ok (.getfield 25, 3) := by decide +kernel
theorem dX9_faultOf_16 : decode cX9_faultOf 16 = .ok (.iload_n 2, 1) := by decide +kernel
theorem dX9_faultOf_17 : decode cX9_faultOf 17 = .ok (.iaload, 1) := by decide +kernel
theorem dX9_faultOf_18 : decode cX9_faultOf 18 = .ok (.istore_n 3, 1) := by decide +kernel
theorem dX9_faultOf_19 : decode cX9_faultOf 19 = .ok (.iload_n 1, 1) := by decide +kernel
theorem dX9_faultOf_20 : decode cX9_faultOf 20 = .ok (.ifCond .ne 24, 3) := by decide +kernel
theorem dX9_faultOf_23 : decode cX9_faultOf 23 = .ok (.iload_n 3, 1) := by decide +kernel
theorem dX9_faultOf_24 : decode cX9_faultOf 24 = .ok (.invokestatic 71, 3) := by decide +kernel
theorem dX9_faultOf_27 : decode cX9_faultOf 27 = .ok (.ifCond .ne 9, 3) := by decide +kernel
theorem dX9_faultOf_30 : decode cX9_faultOf 30 = .ok (.iload_n 3, 1) := by decide +kernel
theorem dX9_faultOf_31 : decode cX9_faultOf 31 = .ok (.bipush 46, 2) := by decide +kernel
theorem dX9_faultOf_33 : decode cX9_faultOf 33 = .ok (.if_icmp .ne 7, 3) := by decide +kernel
theorem dX9_faultOf_36 : decode cX9_faultOf 36 = .ok (.iconst 1, 1) := by decide +kernel
theorem dX9_faultOf_37 : decode cX9_faultOf 37 = .ok (.goto 62, 3) := by decide +kernel
theorem dX9_faultOf_40 : decode cX9_faultOf 40 = .ok (.iconst 0, 1) := by decide +kernel
theorem dX9_faultOf_41 : decode cX9_faultOf 41 = .ok (.goto 58, 3) := by decide +kernel
theorem dX9_faultOf_44 : decode cX9_faultOf 44 = .ok (.iload_n 1, 1) := by decide +kernel
theorem dX9_faultOf_45 : decode cX9_faultOf 45 = .ok (.iconst 1, 1) := by decide +kernel
theorem dX9_faultOf_46 : decode cX9_faultOf 46 = .ok (.if_icmp .ne 37, 3) := by decide +kernel
theorem dX9_faultOf_49 : decode cX9_faultOf 49 = .ok (.iload_n 3, 1) := by decide +kernel
theorem dX9_faultOf_50 : decode cX9_faultOf 50 = .ok (.invokestatic 74, 3) := by decide +kernel
theorem dX9_faultOf_53 : decode cX9_faultOf 53 = .ok (.ifCond .ne 22, 3) := by decide +kernel
theorem dX9_faultOf_56 : decode cX9_faultOf 56 = .ok (.iload_n 3, 1) := by decide +kernel
theorem dX9_faultOf_57 : decode cX9_faultOf 57 = .ok (.bipush 33, 2) := by decide +kernel
theorem dX9_faultOf_59 : decode cX9_faultOf 59 = .ok (.if_icmp .eq 16, 3) := by decide +kernel
theorem dX9_faultOf_62 : decode cX9_faultOf 62 = .ok (.iload_n 3, 1) := by decide +kernel
theorem dX9_faultOf_63 : decode cX9_faultOf 63 = .ok (.bipush 42, 2) := by decide +kernel
theorem dX9_faultOf_65 : decode cX9_faultOf 65 = .ok (.if_icmp .eq 10, 3) := by decide +kernel
theorem dX9_faultOf_68 : decode cX9_faultOf 68 = .ok (.iload_n 3, 1) := by decide +kernel
theorem dX9_faultOf_69 : decode cX9_faultOf 69 = .ok (.invokestatic 77, 3) := by decide +kernel
theorem dX9_faultOf_72 : decode cX9_faultOf 72 = .ok (.ifCond .eq 7, 3) := by decide +kernel
theorem dX9_faultOf_75 : decode cX9_faultOf 75 = .ok (.iconst 1, 1) := by decide +kernel
theorem dX9_faultOf_76 : decode cX9_faultOf 76 = .ok (.goto 23, 3) := by decide +kernel
theorem dX9_faultOf_79 : decode cX9_faultOf 79 = .ok (.iconst 0, 1) := by decide +kernel
theorem dX9_faultOf_80 : decode cX9_faultOf 80 = .ok (.goto 19, 3) := by decide +kernel
theorem dX9_faultOf_83 : decode cX9_faultOf 83 = .ok (.iload_n 1, 1) := by decide +kernel
theorem dX9_faultOf_84 : decode cX9_faultOf 84 = .ok (.iconst 4, 1) := by decide +kernel
theorem dX9_faultOf_85 : decode cX9_faultOf 85 = .ok (.if_icmp .ne 10, 3) := by decide +kernel
theorem dX9_faultOf_88 : decode cX9_faultOf 88 = .ok (.iload_n 3, 1) := by decide +kernel
theorem dX9_faultOf_89 : decode cX9_faultOf 89 = .ok (.invokestatic 71, 3) := by decide +kernel
theorem dX9_faultOf_92 : decode cX9_faultOf 92 = .ok (.goto 7, 3) := by decide +kernel
theorem dX9_faultOf_95 : decode cX9_faultOf 95 = .ok (.iload_n 3, 1) := by decide +kernel
theorem dX9_faultOf_96 : decode cX9_faultOf 96 = .ok (.invokestatic 74, 3) := by decide +kernel
theorem dX9_faultOf_99 : decode cX9_faultOf 99 = .ok (.istore 4, 2) := by decide +kernel
theorem dX9_faultOf_101 : decode cX9_faultOf 101 = .ok (.iload 4, 2) := by decide +kernel
theorem dX9_faultOf_103 : decode cX9_faultOf 103 = .ok (.ifCond .ne 5, 3) := by decide +kernel
theorem dX9_faultOf_106 : decode cX9_faultOf 106 = .ok (.iload_n 2, 1) := by decide +kernel
theorem dX9_faultOf_107 : decode cX9_faultOf 107 = .ok (.ireturn, 1) := by decide +kernel
theorem dX9_faultOf_108 : decode cX9_faultOf 108 = .ok (.iload_n 1, 1) := by decide +kernel
theorem dX9_faultOf_109 : decode cX9_faultOf 109 = .ok (.iconst 3, 1) := by decide +kernel
theorem dX9_faultOf_110 : decode cX9_faultOf 110 = .ok (.if_icmp .ne 7, 3) := by decide +kernel
theorem dX9_faultOf_113 : decode cX9_faultOf 113 = .ok (.iconst 4, 1) := by decide +kernel
theorem dX9_faultOf_114 : decode cX9_faultOf 114 = .ok (.goto 4, 3) := by decide +kernel
theorem dX9_faultOf_117 : decode cX9_faultOf 117 = .ok (.iconst 0, 1) := by decide +kernel
theorem dX9_faultOf_118 : decode cX9_faultOf 118 = .ok (.istore 5, 2) := by decide +kernel
theorem dX9_faultOf_120 : decode cX9_faultOf 120 = .ok (.iload_n 1, 1) := by decide +kernel
theorem dX9_faultOf_121 : decode cX9_faultOf 121 = .ok (.ifCond .ne 14, 3) := by decide +kernel
theorem dX9_faultOf_124 : decode cX9_faultOf 124 = .ok (.iload_n 3, 1) := by decide +kernel
theorem dX9_faultOf_125 : decode cX9_faultOf 125 = .ok (.invokestatic 71, 3) := by decide +kernel
theorem dX9_faultOf_128 : decode cX9_faultOf 128 = .ok (.ifCond .eq 7, 3) := by decide +kernel
theorem dX9_faultOf_131 : decode cX9_faultOf 131 = .ok (.iconst 1, 1) := by decide +kernel
theorem dX9_faultOf_132 : decode cX9_faultOf 132 = .ok (.goto 5, 3) := by decide +kernel
theorem dX9_faultOf_135 : decode cX9_faultOf 135 = .ok (.iload 5, 2) := by decide +kernel
theorem dX9_faultOf_137 : decode cX9_faultOf 137 = .ok (.istore 5, 2) := by decide +kernel
theorem dX9_faultOf_139 : decode cX9_faultOf 139 = .ok (.iload_n 1, 1) := by decide +kernel
theorem dX9_faultOf_140 : decode cX9_faultOf 140 = .ok (.iconst 1, 1) := by decide +kernel
theorem dX9_faultOf_141 : decode cX9_faultOf 141 = .ok (.if_icmp .ne 28, 3) := by decide +kernel
theorem dX9_faultOf_144 : decode cX9_faultOf 144 = .ok (.iload_n 3, 1) := by decide +kernel
theorem dX9_faultOf_145 : decode cX9_faultOf 145 = .ok (.bipush 33, 2) := by decide +kernel
theorem dX9_faultOf_147 : decode cX9_faultOf 147 = .ok (.if_icmp .ne 7, 3) := by decide +kernel
theorem dX9_faultOf_150 : decode cX9_faultOf 150 = .ok (.iconst 2, 1) := by decide +kernel
theorem dX9_faultOf_151 : decode cX9_faultOf 151 = .ok (.goto 20, 3) := by decide +kernel
theorem dX9_faultOf_154 : decode cX9_faultOf 154 = .ok (.iload_n 3, 1) := by decide +kernel
theorem dX9_faultOf_155 : decode cX9_faultOf 155 = .ok (.invokestatic 77, 3) := by decide +kernel
theorem dX9_faultOf_158 : decode cX9_faultOf 158 = .ok (.ifCond .eq 7, 3) := by decide +kernel
theorem dX9_faultOf_161 : decode cX9_faultOf 161 = .ok (.iconst 3, 1) := by decide +kernel
theorem dX9_faultOf_162 : decode cX9_faultOf 162 = .ok (.goto 9, 3) := by decide +kernel
theorem dX9_faultOf_165 : decode cX9_faultOf 165 = .ok (.iconst 0, 1) := by decide +kernel
theorem dX9_faultOf_166 : decode cX9_faultOf 166 = .ok (.goto 5, 3) := by decide +kernel
theorem dX9_faultOf_169 : decode cX9_faultOf 169 = .ok (.iload 5, 2) := by decide +kernel
theorem dX9_faultOf_171 : decode cX9_faultOf 171 = .ok (.istore_n 1, 1) := by decide +kernel
theorem dX9_faultOf_172 : decode cX9_faultOf 172 = .ok (.iinc 2 1, 3) := by decide +kernel
theorem dX9_faultOf_175 : decode cX9_faultOf 175 = .ok (.goto (-171), 3) := by decide +kernel
theorem dX9_faultOf_178 : decode cX9_faultOf 178 = .ok (.iload_n 1, 1) := by decide +kernel
theorem dX9_faultOf_179 : decode cX9_faultOf 179 = .ok (.ifCond .ne 8, 3) := by decide +kernel
theorem dX9_faultOf_182 : decode cX9_faultOf 182 = .ok (.bipush (-6), 2) := by decide +kernel
theorem dX9_faultOf_184 : decode cX9_faultOf 184 = .ok (.goto 7, 3) := by decide +kernel
theorem dX9_faultOf_187 : decode cX9_faultOf 187 = .ok (.aload_n 0, 1) := by decide +kernel
theorem dX9_faultOf_188 : decode cX9_faultOf 188 = .ok (.getfield 68, 3) := by decide +kernel
theorem dX9_faultOf_191 : decode cX9_faultOf 191 = .ok (.ireturn, 1) := by decide +kernel
theorem dX9_fault_0 : decode cX9_fault 0 = .ok (.aload_n 0, 1) := by decide +kernel
theorem dX9_fault_1 : decode cX9_fault 1 = .ok (.invokevirtual 80, 3) := by decide +kernel
theorem dX9_fault_4 : decode cX9_fault 4 = .ok (.ireturn, 1) := by decide +kernel
theorem dX9_asNow_0 : decode cX9_asNow 0 = .ok (.iconst 0, 1) := by decide +kernel
theorem dX9_asNow_1 : decode cX9_asNow 1 = .ok (.istore_n 1, 1) := by decide +kernel
theorem dX9_asNow_2 : decode cX9_asNow 2 = .ok (.iload_n 1, 1) := by decide +kernel
theorem dX9_asNow_3 : decode cX9_asNow 3 = .ok (.bipush 61, 2) := by decide +kernel
theorem dX9_asNow_5 : decode cX9_asNow 5 = .ok (.if_icmp .ge 21, 3) := by decide +kernel
theorem dX9_asNow_8 : decode cX9_asNow 8 = .ok (.aload_n 0, 1) := by decide +kernel
theorem dX9_asNow_9 : decode cX9_asNow 9 = .ok (.getfield 13, 3) := by decide +kernel
theorem dX9_asNow_12 : decode cX9_asNow 12 = .ok (.iload_n 1, 1) := by decide +kernel
theorem dX9_asNow_13 : decode cX9_asNow 13 = .ok (.aload_n 0, 1) := by decide +kernel
theorem dX9_asNow_14 : decode cX9_asNow 14 = .ok (.getfield 7, 3) := by decide +kernel
theorem dX9_asNow_17 : decode cX9_asNow 17 = .ok (.iload_n 1, 1) := by decide +kernel
theorem dX9_asNow_18 : decode cX9_asNow 18 = .ok (.iaload, 1) := by decide +kernel
theorem dX9_asNow_19 : decode cX9_asNow 19 = .ok (.iastore, 1) := by decide +kernel
theorem dX9_asNow_20 : decode cX9_asNow 20 = .ok (.iinc 1 1, 3) := by decide +kernel
theorem dX9_asNow_23 : decode cX9_asNow 23 = .ok (.goto (-21), 3) := by decide +kernel
theorem dX9_asNow_26 : decode cX9_asNow 26 = .ok (.aload_n 0, 1) := by decide +kernel
theorem dX9_asNow_27 : decode cX9_asNow 27 = .ok (.iconst 0, 1) := by decide +kernel
theorem dX9_asNow_28 : decode cX9_asNow 28 = .ok (.putfield 84, 3) := by decide +kernel
theorem dX9_asNow_31 : decode cX9_asNow 31 = .ok (.aload_n 0, 1) := by decide +kernel
theorem dX9_asNow_32 : decode cX9_asNow 32 = .ok (.iconst 0, 1) := by decide +kernel
theorem dX9_asNow_33 : decode cX9_asNow 33 = .ok (.putfield 87, 3) := by decide +kernel
theorem dX9_asNow_36 : decode cX9_asNow 36 = .ok (.return_, 1) := by decide +kernel
theorem dX9_gains_0 : decode cX9_gains 0 = .ok (.aload_n 0, 1) := by decide +kernel
theorem dX9_gains_1 : decode cX9_gains 1 = .ok (.getfield 13, 3) := by decide +kernel
theorem dX9_gains_4 : decode cX9_gains 4 = .ok (.bipush 6, 2) := by decide +kernel
theorem dX9_gains_6 : decode cX9_gains 6 = .ok (.iload_n 1, 1) := by decide +kernel
theorem dX9_gains_7 : decode cX9_gains 7 = .ok (.iadd, 1) := by decide +kernel
theorem dX9_gains_8 : decode cX9_gains 8 = .ok (.aload_n 0, 1) := by decide +kernel
theorem dX9_gains_9 : decode cX9_gains 9 = .ok (.getfield 13, 3) := by decide +kernel
theorem dX9_gains_12 : decode cX9_gains 12 = .ok (.bipush 6, 2) := by decide +kernel
theorem dX9_gains_14 : decode cX9_gains 14 = .ok (.iload_n 1, 1) := by decide +kernel
theorem dX9_gains_15 : decode cX9_gains 15 = .ok (.iadd, 1) := by decide +kernel
theorem dX9_gains_16 : decode cX9_gains 16 = .ok (.iaload, 1) := by decide +kernel
theorem dX9_gains_17 : decode cX9_gains 17 = .ok (.iload_n 2, 1) := by decide +kernel
theorem dX9_gains_18 : decode cX9_gains 18 = .ok (.iadd, 1) := by decide +kernel
theorem dX9_gains_19 : decode cX9_gains 19 = .ok (.sipush 9999, 3) := by decide +kernel
theorem dX9_gains_22 : decode cX9_gains 22 = .ok (.if_icmp .le 9, 3) := by decide +kernel
theorem dX9_gains_25 : decode cX9_gains 25 = .ok (.sipush 9999, 3) := by decide +kernel
theorem dX9_gains_28 : decode cX9_gains 28 = .ok (.goto 14, 3) := by decide +kernel
theorem dX9_gains_31 : decode cX9_gains 31 = .ok (.aload_n 0, 1) := by decide +kernel
theorem dX9_gains_32 : decode cX9_gains 32 = .ok (.getfield 13, 3) := by decide +kernel
theorem dX9_gains_35 : decode cX9_gains 35 = .ok (.bipush 6, 2) := by decide +kernel
theorem dX9_gains_37 : decode cX9_gains 37 = .ok (.iload_n 1, 1) := by decide +kernel
theorem dX9_gains_38 : decode cX9_gains 38 = .ok (.iadd, 1) := by decide +kernel
theorem dX9_gains_39 : decode cX9_gains 39 = .ok (.iaload, 1) := by decide +kernel
theorem dX9_gains_40 : decode cX9_gains 40 = .ok (.iload_n 2, 1) := by decide +kernel
theorem dX9_gains_41 : decode cX9_gains 41 = .ok (.iadd, 1) := by decide +kernel
theorem dX9_gains_42 : decode cX9_gains 42 = .ok (.iastore, 1) := by decide +kernel
theorem dX9_gains_43 : decode cX9_gains 43 = .ok (.return_, 1) := by decide +kernel
theorem dX9_gets_0 : decode cX9_gets 0 = .ok (.aload_n 0, 1) := by decide +kernel
theorem dX9_gets_1 : decode cX9_gets 1 = .ok (.getfield 13, 3) := by decide +kernel
theorem dX9_gets_4 : decode cX9_gets 4 = .ok (.iload_n 1, 1) := by decide +kernel
theorem dX9_gets_5 : decode cX9_gets 5 = .ok (.aload_n 0, 1) := by decide +kernel
theorem dX9_gets_6 : decode cX9_gets 6 = .ok (.getfield 13, 3) := by decide +kernel
theorem dX9_gets_9 : decode cX9_gets 9 = .ok (.iload_n 1, 1) := by decide +kernel
theorem dX9_gets_10 : decode cX9_gets 10 = .ok (.iaload, 1) := by decide +kernel
theorem dX9_gets_11 : decode cX9_gets 11 = .ok (.iload_n 2, 1) := by decide +kernel
theorem dX9_gets_12 : decode cX9_gets 12 = .ok (.iadd, 1) := by decide +kernel
theorem dX9_gets_13 : decode cX9_gets 13 = .ok (.sipush 400, 3) := by decide +kernel
theorem dX9_gets_16 : decode cX9_gets 16 = .ok (.if_icmp .le 9, 3) := by decide +kernel
theorem dX9_gets_19 : decode cX9_gets 19 = .ok (.sipush 400, 3) := by decide +kernel
theorem dX9_gets_22 : decode cX9_gets 22 = .ok (.goto 11, 3) := by decide +kernel
theorem dX9_gets_25 : decode cX9_gets 25 = .ok (.aload_n 0, 1) := by decide +kernel
theorem dX9_gets_26 : decode cX9_gets 26 = .ok (.getfield 13, 3) := by decide +kernel
theorem dX9_gets_29 : decode cX9_gets 29 = .ok (.iload_n 1, 1) := by decide +kernel
theorem dX9_gets_30 : decode cX9_gets 30 = .ok (.iaload, 1) := by decide +kernel
theorem dX9_gets_31 : decode cX9_gets 31 = .ok (.iload_n 2, 1) := by decide +kernel
theorem dX9_gets_32 : decode cX9_gets 32 = .ok (.iadd, 1) := by decide +kernel
theorem dX9_gets_33 : decode cX9_gets 33 = .ok (.iastore, 1) := by decide +kernel
theorem dX9_gets_34 : decode cX9_gets 34 = .ok (.return_, 1) := by decide +kernel
theorem dX9_signAct_0 : decode cX9_signAct 0 = .ok (.aload_n 0, 1) := by decide +kernel
theorem dX9_signAct_1 : decode cX9_signAct 1 = .ok (.iload_n 1, 1) := by decide +kernel
theorem dX9_signAct_2 : decode cX9_signAct 2 = .ok (.invokevirtual 64, 3) := by decide +kernel
theorem dX9_signAct_5 : decode cX9_signAct 5 = .ok (.ifCond .ne 5, 3) := by decide +kernel
theorem dX9_signAct_8 : decode cX9_signAct 8 = .ok (.iconst 1, 1) := by decide +kernel
theorem dX9_signAct_9 : decode cX9_signAct 9 = .ok (.ireturn, 1) := by decide +kernel
theorem dX9_signAct_10 : decode cX9_signAct 10 = .ok (.aload_n 0, 1) := by decide +kernel
theorem dX9_signAct_11 : decode cX9_signAct 11 = .ok (.getfield 13, 3) := by decide +kernel
theorem dX9_signAct_14 : decode cX9_signAct 14 = .ok (.iload_n 1, 1) := by decide +kernel
theorem dX9_signAct_15 : decode cX9_signAct 15 = .ok (.iaload, 1) := by decide +kernel
theorem dX9_signAct_16 : decode cX9_signAct 16 = .ok (.ifCond .ne 5, 3) := by decide +kernel
theorem dX9_signAct_19 : decode cX9_signAct 19 = .ok (.iconst 3, 1) := by decide +kernel
theorem dX9_signAct_20 : decode cX9_signAct 20 = .ok (.ireturn, 1) := by decide +kernel
theorem dX9_signAct_21 : decode cX9_signAct 21 = .ok (.aload_n 0, 1) := by decide +kernel
theorem dX9_signAct_22 : decode cX9_signAct 22 = .ok (.getfield 13, 3) := by decide +kernel
theorem dX9_signAct_25 : decode cX9_signAct 25 = .ok (.iload_n 1, 1) := by decide +kernel
theorem dX9_signAct_26 : decode cX9_signAct 26 = .ok (.dup2, 1) := by decide +kernel
theorem dX9_signAct_27 : decode cX9_signAct 27 = .ok (.iaload, 1) := by decide +kernel
theorem dX9_signAct_28 : decode cX9_signAct 28 = .ok (.iconst 1, 1) := by decide +kernel
theorem dX9_signAct_29 : decode cX9_signAct 29 = .ok (.isub, 1) := by decide +kernel
theorem dX9_signAct_30 : decode cX9_signAct 30 = .ok (.iastore, 1) := by decide +kernel
theorem dX9_signAct_31 : decode cX9_signAct 31 = .ok (.aload_n 0, 1) := by decide +kernel
theorem dX9_signAct_32 : decode cX9_signAct 32 = .ok (.iload_n 1, 1) := by decide +kernel
theorem dX9_signAct_33 : decode cX9_signAct 33 = .ok (.iload_n 2, 1) := by decide +kernel
theorem dX9_signAct_34 : decode cX9_signAct 34 = .ok (.invokevirtual 90, 3) := by decide +kernel
theorem dX9_signAct_37 : decode cX9_signAct 37 = .ok (.aload_n 0, 1) := by decide +kernel
theorem dX9_signAct_38 : decode cX9_signAct 38 = .ok (.dup, 1) := by decide +kernel
theorem dX9_signAct_39 : decode cX9_signAct 39 = .ok (.getfield 84, 3) := by decide +kernel
theorem dX9_signAct_42 : decode cX9_signAct 42 = .ok (.iconst 1, 1) := by decide +kernel
theorem dX9_signAct_43 : decode cX9_signAct 43 = .ok (.iadd, 1) := by decide +kernel
theorem dX9_signAct_44 : decode cX9_signAct 44 = .ok (.putfield 84, 3) := by decide +kernel
theorem dX9_signAct_47 : decode cX9_signAct 47 = .ok (.iconst 0, 1) := by decide +kernel
theorem dX9_signAct_48 : decode cX9_signAct 48 = .ok (.ireturn, 1) := by decide +kernel
theorem dX9_forge_0 : decode cX9_forge 0 = .ok (.aload_n 0, 1) := by decide +kernel
theorem dX9_forge_1 : decode cX9_forge 1 = .ok (.iload_n 1, 1) := by decide +kernel
theorem dX9_forge_2 : decode cX9_forge 2 = .ok (.invokevirtual 64, 3) := by decide +kernel
theorem dX9_forge_5 : decode cX9_forge 5 = .ok (.ifCond .ne 5, 3) := by decide +kernel
theorem dX9_forge_8 : decode cX9_forge 8 = .ok (.iconst 1, 1) := by decide +kernel
theorem dX9_forge_9 : decode cX9_forge 9 = .ok (.ireturn, 1) := by decide +kernel
theorem dX9_forge_10 : decode cX9_forge 10 = .ok (.aload_n 0, 1) := by decide +kernel
theorem dX9_forge_11 : decode cX9_forge 11 = .ok (.iload_n 1, 1) := by decide +kernel
theorem dX9_forge_12 : decode cX9_forge 12 = .ok (.iload_n 2, 1) := by decide +kernel
theorem dX9_forge_13 : decode cX9_forge 13 = .ok (.invokevirtual 90, 3) := by decide +kernel
theorem dX9_forge_16 : decode cX9_forge 16 = .ok (.aload_n 0, 1) := by decide +kernel
theorem dX9_forge_17 : decode cX9_forge 17 = .ok (.getfield 13, 3) := by decide +kernel
theorem dX9_forge_20 : decode cX9_forge 20 = .ok (.bipush 12, 2) := by decide +kernel
theorem dX9_forge_22 : decode cX9_forge 22 = .ok (.iload_n 1, 1) := by decide +kernel
theorem dX9_forge_23 : decode cX9_forge 23 = .ok (.iadd, 1) := by decide +kernel
theorem dX9_forge_24 : decode cX9_forge 24 = .ok (.dup2, 1) := by decide +kernel
theorem dX9_forge_25 : decode cX9_forge 25 = .ok (.iaload, 1) := by decide +kernel
theorem dX9_forge_26 : decode cX9_forge 26 = .ok (.iconst 1, 1) := by decide +kernel
theorem dX9_forge_27 : decode cX9_forge 27 = .ok (.iadd, 1) := by decide +kernel
theorem dX9_forge_28 : decode cX9_forge 28 = .ok (.iastore, 1) := by decide +kernel
theorem dX9_forge_29 : decode cX9_forge 29 = .ok (.aload_n 0, 1) := by decide +kernel
theorem dX9_forge_30 : decode cX9_forge 30 = .ok (.dup, 1) := by decide +kernel
theorem dX9_forge_31 : decode cX9_forge 31 = .ok (.getfield 87, 3) := by decide +kernel
theorem dX9_forge_34 : decode cX9_forge 34 = .ok (.iconst 1, 1) := by decide +kernel
theorem dX9_forge_35 : decode cX9_forge 35 = .ok (.iadd, 1) := by decide +kernel
theorem dX9_forge_36 : decode cX9_forge 36 = .ok (.putfield 87, 3) := by decide +kernel
theorem dX9_forge_39 : decode cX9_forge 39 = .ok (.iconst 0, 1) := by decide +kernel
theorem dX9_forge_40 : decode cX9_forge 40 = .ok (.ireturn, 1) := by decide +kernel
theorem dX9_blot_0 : decode cX9_blot 0 = .ok (.aload_n 0, 1) := by decide +kernel
theorem dX9_blot_1 : decode cX9_blot 1 = .ok (.iload_n 1, 1) := by decide +kernel
theorem dX9_blot_2 : decode cX9_blot 2 = .ok (.invokevirtual 64, 3) := by decide +kernel
theorem dX9_blot_5 : decode cX9_blot 5 = .ok (.ifCond .ne 5, 3) := by decide +kernel
theorem dX9_blot_8 : decode cX9_blot 8 = .ok (.iconst 1, 1) := by decide +kernel
theorem dX9_blot_9 : decode cX9_blot 9 = .ok (.ireturn, 1) := by decide +kernel
theorem dX9_blot_10 : decode cX9_blot 10 = .ok (.aload_n 0, 1) := by decide +kernel
theorem dX9_blot_11 : decode cX9_blot 11 = .ok (.getfield 13, 3) := by decide +kernel
theorem dX9_blot_14 : decode cX9_blot 14 = .ok (.iload_n 1, 1) := by decide +kernel
theorem dX9_blot_15 : decode cX9_blot 15 = .ok (.iaload, 1) := by decide +kernel
theorem dX9_blot_16 : decode cX9_blot 16 = .ok (.ifCond .ne 5, 3) := by decide +kernel
theorem dX9_blot_19 : decode cX9_blot 19 = .ok (.iconst 3, 1) := by decide +kernel
theorem dX9_blot_20 : decode cX9_blot 20 = .ok (.ireturn, 1) := by decide +kernel
theorem dX9_blot_21 : decode cX9_blot 21 = .ok (.aload_n 0, 1) := by decide +kernel
theorem dX9_blot_22 : decode cX9_blot 22 = .ok (.getfield 13, 3) := by decide +kernel
theorem dX9_blot_25 : decode cX9_blot 25 = .ok (.iload_n 1, 1) := by decide +kernel
theorem dX9_blot_26 : decode cX9_blot 26 = .ok (.dup2, 1) := by decide +kernel
theorem dX9_blot_27 : decode cX9_blot 27 = .ok (.iaload, 1) := by decide +kernel
theorem dX9_blot_28 : decode cX9_blot 28 = .ok (.iconst 1, 1) := by decide +kernel
theorem dX9_blot_29 : decode cX9_blot 29 = .ok (.isub, 1) := by decide +kernel
theorem dX9_blot_30 : decode cX9_blot 30 = .ok (.iastore, 1) := by decide +kernel
theorem dX9_blot_31 : decode cX9_blot 31 = .ok (.iconst 0, 1) := by decide +kernel
theorem dX9_blot_32 : decode cX9_blot 32 = .ok (.ireturn, 1) := by decide +kernel
theorem dX9_hand_0 : decode cX9_hand 0 = .ok (.aload_n 0, 1) := by decide +kernel
theorem dX9_hand_1 : decode cX9_hand 1 = .ok (.iload_n 1, 1) := by decide +kernel
theorem dX9_hand_2 : decode cX9_hand 2 = .ok (.invokevirtual 64, 3) := by decide +kernel
theorem dX9_hand_5 : decode cX9_hand 5 = .ok (.ifCond .eq 12, 3) := by decide +kernel
theorem dX9_hand_8 : decode cX9_hand 8 = .ok (.aload_n 0, 1) := by decide +kernel
theorem dX9_hand_9 : decode cX9_hand 9 = .ok (.iload 4, 2) := by decide +kernel
theorem dX9_hand_11 : decode cX9_hand 11 = .ok (.invokevirtual 64, 3) := by decide +kernel
theorem dX9_hand_14 : decode cX9_hand 14 = .ok (.ifCond .ne 5, 3) := by decide +kernel
theorem dX9_hand_17 : decode cX9_hand 17 = .ok (.iconst 1, 1) := by decide +kernel
theorem dX9_hand_18 : decode cX9_hand 18 = .ok (.ireturn, 1) := by decide +kernel
theorem dX9_hand_19 : decode cX9_hand 19 = .ok (.iload_n 1, 1) := by decide +kernel
theorem dX9_hand_20 : decode cX9_hand 20 = .ok (.iload 4, 2) := by decide +kernel
theorem dX9_hand_22 : decode cX9_hand 22 = .ok (.if_icmp .ne 5, 3) := by decide +kernel
theorem dX9_hand_25 : decode cX9_hand 25 = .ok (.iconst 2, 1) := by decide +kernel
theorem dX9_hand_26 : decode cX9_hand 26 = .ok (.ireturn, 1) := by decide +kernel
theorem dX9_hand_27 : decode cX9_hand 27 = .ok (.iload_n 2, 1) := by decide +kernel
theorem dX9_hand_28 : decode cX9_hand 28 = .ok (.bipush 60, 2) := by decide +kernel
theorem dX9_hand_30 : decode cX9_hand 30 = .ok (.if_icmp .ne 8, 3) := by decide +kernel
theorem dX9_hand_33 : decode cX9_hand 33 = .ok (.iload 4, 2) := by decide +kernel
theorem dX9_hand_35 : decode cX9_hand 35 = .ok (.goto 4, 3) := by decide +kernel
theorem dX9_hand_38 : decode cX9_hand 38 = .ok (.iload_n 1, 1) := by decide +kernel
theorem dX9_hand_39 : decode cX9_hand 39 = .ok (.istore 5, 2) := by decide +kernel
theorem dX9_hand_41 : decode cX9_hand 41 = .ok (.iload_n 2, 1) := by decide +kernel
theorem dX9_hand_42 : decode cX9_hand 42 = .ok (.bipush 60, 2) := by decide +kernel
theorem dX9_hand_44 : decode cX9_hand 44 = .ok (.if_icmp .ne 7, 3) := by decide +kernel
theorem dX9_hand_47 : decode cX9_hand 47 = .ok (.iload_n 1, 1) := by decide +kernel
theorem dX9_hand_48 : decode cX9_hand 48 = .ok (.goto 5, 3) := by decide +kernel
theorem dX9_hand_51 : decode cX9_hand 51 = .ok (.iload 4, 2) := by decide +kernel
theorem dX9_hand_53 : decode cX9_hand 53 = .ok (.istore 6, 2) := by decide +kernel
theorem dX9_hand_55 : decode cX9_hand 55 = .ok (.aload_n 0, 1) := by decide +kernel
theorem dX9_hand_56 : decode cX9_hand 56 = .ok (.getfield 13, 3) := by decide +kernel
theorem dX9_hand_59 : decode cX9_hand 59 = .ok (.iload 5, 2) := by decide +kernel
theorem dX9_hand_61 : decode cX9_hand 61 = .ok (.iaload, 1) := by decide +kernel
theorem dX9_hand_62 : decode cX9_hand 62 = .ok (.iload_n 3, 1) := by decide +kernel
theorem dX9_hand_63 : decode cX9_hand 63 = .ok (.if_icmp .ge 5, 3) := by decide +kernel
theorem dX9_hand_66 : decode cX9_hand 66 = .ok (.iconst 3, 1) := by decide +kernel
theorem dX9_hand_67 : decode cX9_hand 67 = .ok (.ireturn, 1) := by decide +kernel
theorem dX9_hand_68 : decode cX9_hand 68 = .ok (.bipush 20, 2) := by decide +kernel
theorem dX9_hand_70 : decode cX9_hand 70 = .ok (.bipush 6, 2) := by decide +kernel
theorem dX9_hand_72 : decode cX9_hand 72 = .ok (.iload 4, 2) := by decide +kernel
theorem dX9_hand_74 : decode cX9_hand 74 = .ok (.imul, 1) := by decide +kernel
theorem dX9_hand_75 : decode cX9_hand 75 = .ok (.iadd, 1) := by decide +kernel
theorem dX9_hand_76 : decode cX9_hand 76 = .ok (.iload_n 1, 1) := by decide +kernel
theorem dX9_hand_77 : decode cX9_hand 77 = .ok (.iadd, 1) := by decide +kernel
theorem dX9_hand_78 : decode cX9_hand 78 = .ok (.istore 7, 2) := by decide +kernel
theorem dX9_hand_80 : decode cX9_hand 80 = .ok (.iload_n 2, 1) := by decide +kernel
theorem dX9_hand_81 : decode cX9_hand 81 = .ok (.bipush 61, 2) := by decide +kernel
theorem dX9_hand_83 : decode cX9_hand 83 = .ok (.if_icmp .ne 19, 3) := by decide +kernel
theorem dX9_hand_86 : decode cX9_hand 86 = .ok (.aload_n 0, 1) := by decide +kernel
theorem dX9_hand_87 : decode cX9_hand 87 = .ok (.getfield 13, 3) := by decide +kernel
theorem dX9_hand_90 : decode cX9_hand 90 = .ok (.iload 7, 2) := by decide +kernel
theorem dX9_hand_92 : decode cX9_hand 92 = .ok (.iaload, 1) := by decide +kernel
theorem dX9_hand_93 : decode cX9_hand 93 = .ok (.iload_n 3, 1) := by decide +kernel
theorem dX9_hand_94 : decode cX9_hand 94 = .ok (.iadd, 1) := by decide +kernel
theorem dX9_hand_95 : decode cX9_hand 95 = .ok (.bipush 99, 2) := by decide +kernel
theorem dX9_hand_97 : decode cX9_hand 97 = .ok (.if_icmp .le 5, 3) := by decide +kernel
theorem dX9_hand_100 : decode cX9_hand 100 = .ok (.iconst 5, 1) := by decide +kernel
theorem dX9_hand_101 : decode cX9_hand 101 = .ok (.ireturn, 1) := by decide +kernel
theorem dX9_hand_102 : decode cX9_hand 102 = .ok (.aload_n 0, 1) := by decide +kernel
theorem dX9_hand_103 : decode cX9_hand 103 = .ok (.getfield 13, 3) := by decide +kernel
theorem dX9_hand_106 : decode cX9_hand 106 = .ok (.iload 7, 2) := by decide +kernel
theorem dX9_hand_108 : decode cX9_hand 108 = .ok (.dup2, 1) := by decide +kernel
theorem dX9_hand_109 : decode cX9_hand 109 = .ok (.iaload, 1) := by decide +kernel
theorem dX9_hand_110 : decode cX9_hand 110 = .ok (.iload_n 2, 1) := by decide +kernel
theorem dX9_hand_111 : decode cX9_hand 111 = .ok (.bipush 61, 2) := by decide +kernel
theorem dX9_hand_113 : decode cX9_hand 113 = .ok (.if_icmp .ne 7, 3) := by decide +kernel
theorem dX9_hand_116 : decode cX9_hand 116 = .ok (.iload_n 3, 1) := by decide +kernel
theorem dX9_hand_117 : decode cX9_hand 117 = .ok (.goto 4, 3) := by decide +kernel
theorem dX9_hand_120 : decode cX9_hand 120 = .ok (.iconst 0, 1) := by decide +kernel
theorem dX9_hand_121 : decode cX9_hand 121 = .ok (.iadd, 1) := by decide +kernel
theorem dX9_hand_122 : decode cX9_hand 122 = .ok (.iastore, 1) := by decide +kernel
theorem dX9_hand_123 : decode cX9_hand 123 = .ok (.aload_n 0, 1) := by decide +kernel
theorem dX9_hand_124 : decode cX9_hand 124 = .ok (.getfield 13, 3) := by decide +kernel
theorem dX9_hand_127 : decode cX9_hand 127 = .ok (.iload 5, 2) := by decide +kernel
theorem dX9_hand_129 : decode cX9_hand 129 = .ok (.dup2, 1) := by decide +kernel
theorem dX9_hand_130 : decode cX9_hand 130 = .ok (.iaload, 1) := by decide +kernel
theorem dX9_hand_131 : decode cX9_hand 131 = .ok (.iload_n 3, 1) := by decide +kernel
theorem dX9_hand_132 : decode cX9_hand 132 = .ok (.isub, 1) := by decide +kernel
theorem dX9_hand_133 : decode cX9_hand 133 = .ok (.iastore, 1) := by decide +kernel
theorem dX9_hand_134 : decode cX9_hand 134 = .ok (.aload_n 0, 1) := by decide +kernel
theorem dX9_hand_135 : decode cX9_hand 135 = .ok (.iload 6, 2) := by decide +kernel
theorem dX9_hand_137 : decode cX9_hand 137 = .ok (.iload_n 3, 1) := by decide +kernel
theorem dX9_hand_138 : decode cX9_hand 138 = .ok (.invokevirtual 94, 3) := by decide +kernel
theorem dX9_hand_141 : decode cX9_hand 141 = .ok (.iconst 0, 1) := by decide +kernel
theorem dX9_hand_142 : decode cX9_hand 142 = .ok (.ireturn, 1) := by decide +kernel
theorem dX9_endYear_0 : decode cX9_endYear 0 = .ok (.aload_n 0, 1) := by decide +kernel
theorem dX9_endYear_1 : decode cX9_endYear 1 = .ok (.getfield 13, 3) := by decide +kernel
theorem dX9_endYear_4 : decode cX9_endYear 4 = .ok (.bipush 60, 2) := by decide +kernel
theorem dX9_endYear_6 : decode cX9_endYear 6 = .ok (.iaload, 1) := by decide +kernel
theorem dX9_endYear_7 : decode cX9_endYear 7 = .ok (.bipush 99, 2) := by decide +kernel
theorem dX9_endYear_9 : decode cX9_endYear 9 = .ok (.if_icmp .ne 5, 3) := by decide +kernel
theorem dX9_endYear_12 : decode cX9_endYear 12 = .ok (.iconst 4, 1) := by decide +kernel
theorem dX9_endYear_13 : decode cX9_endYear 13 = .ok (.ireturn, 1) := by decide +kernel
theorem dX9_endYear_14 : decode cX9_endYear 14 = .ok (.aload_n 0, 1) := by decide +kernel
theorem dX9_endYear_15 : decode cX9_endYear 15 = .ok (.getfield 13, 3) := by decide +kernel
theorem dX9_endYear_18 : decode cX9_endYear 18 = .ok (.bipush 60, 2) := by decide +kernel
theorem dX9_endYear_20 : decode cX9_endYear 20 = .ok (.dup2, 1) := by decide +kernel
theorem dX9_endYear_21 : decode cX9_endYear 21 = .ok (.iaload, 1) := by decide +kernel
theorem dX9_endYear_22 : decode cX9_endYear 22 = .ok (.iconst 1, 1) := by decide +kernel
theorem dX9_endYear_23 : decode cX9_endYear 23 = .ok (.iadd, 1) := by decide +kernel
theorem dX9_endYear_24 : decode cX9_endYear 24 = .ok (.iastore, 1) := by decide +kernel
theorem dX9_endYear_25 : decode cX9_endYear 25 = .ok (.iconst 0, 1) := by decide +kernel
theorem dX9_endYear_26 : decode cX9_endYear 26 = .ok (.ireturn, 1) := by decide +kernel
theorem dX9_some_0 : decode cX9_some 0 = .ok (.iconst 0, 1) := by decide +kernel
theorem dX9_some_1 : decode cX9_some 1 = .ok (.istore_n 1, 1) := by decide +kernel
theorem dX9_some_2 : decode cX9_some 2 = .ok (.iconst 0, 1) := by decide +kernel
theorem dX9_some_3 : decode cX9_some 3 = .ok (.istore_n 2, 1) := by decide +kernel
theorem dX9_some_4 : decode cX9_some 4 = .ok (.iload_n 2, 1) := by decide +kernel
theorem dX9_some_5 : decode cX9_some 5 = .ok (.bipush 6, 2) := by decide +kernel
theorem dX9_some_7 : decode cX9_some 7 = .ok (.if_icmp .ge 39, 3) := by decide +kernel
theorem dX9_some_10 : decode cX9_some 10 = .ok (.iload_n 1, 1) := by decide +kernel
theorem dX9_some_11 : decode cX9_some 11 = .ok (.aload_n 0, 1) := by decide +kernel
theorem dX9_some_12 : decode cX9_some 12 = .ok (.getfield 52, 3) := by decide +kernel
theorem dX9_some_15 : decode cX9_some 15 = .ok (.iload_n 2, 1) := by decide +kernel
theorem dX9_some_16 : decode cX9_some 16 = .ok (.invokestatic 56, 3) := by decide +kernel
theorem dX9_some_19 : decode cX9_some 19 = .ok (.ifCond .eq 18, 3) := by decide +kernel
theorem dX9_some_22 : decode cX9_some 22 = .ok (.aload_n 0, 1) := by decide +kernel
theorem dX9_some_23 : decode cX9_some 23 = .ok (.getfield 13, 3) := by decide +kernel
theorem dX9_some_26 : decode cX9_some 26 = .ok (.iload_n 2, 1) := by decide +kernel
theorem dX9_some_27 : decode cX9_some 27 = .ok (.iaload, 1) := by decide +kernel
theorem dX9_some_28 : decode cX9_some 28 = .ok (.ifCond .le 9, 3) := by decide +kernel
theorem dX9_some_31 : decode cX9_some 31 = .ok (.iconst 1, 1) := by decide +kernel
theorem dX9_some_32 : decode cX9_some 32 = .ok (.iload_n 2, 1) := by decide +kernel
theorem dX9_some_33 : decode cX9_some 33 = .ok (.ishl, 1) := by decide +kernel
theorem dX9_some_34 : decode cX9_some 34 = .ok (.goto 4, 3) := by decide +kernel
theorem dX9_some_37 : decode cX9_some 37 = .ok (.iconst 0, 1) := by decide +kernel
theorem dX9_some_38 : decode cX9_some 38 = .ok (.ior, 1) := by decide +kernel
theorem dX9_some_39 : decode cX9_some 39 = .ok (.istore_n 1, 1) := by decide +kernel
theorem dX9_some_40 : decode cX9_some 40 = .ok (.iinc 2 1, 3) := by decide +kernel
theorem dX9_some_43 : decode cX9_some 43 = .ok (.goto (-39), 3) := by decide +kernel
theorem dX9_some_46 : decode cX9_some 46 = .ok (.iload_n 1, 1) := by decide +kernel
theorem dX9_some_47 : decode cX9_some 47 = .ok (.ireturn, 1) := by decide +kernel
theorem dX9_goLives_0 : decode cX9_goLives 0 = .ok (.aload_n 0, 1) := by decide +kernel
theorem dX9_goLives_1 : decode cX9_goLives 1 = .ok (.invokevirtual 97, 3) := by decide +kernel
theorem dX9_goLives_4 : decode cX9_goLives 4 = .ok (.aload_n 0, 1) := by decide +kernel
theorem dX9_goLives_5 : decode cX9_goLives 5 = .ok (.iconst 0, 1) := by decide +kernel
theorem dX9_goLives_6 : decode cX9_goLives 6 = .ok (.putfield 100, 3) := by decide +kernel
theorem dX9_goLives_9 : decode cX9_goLives 9 = .ok (.aload_n 0, 1) := by decide +kernel
theorem dX9_goLives_10 : decode cX9_goLives 10 = .ok (.bipush (-6), 2) := by decide +kernel
theorem dX9_goLives_12 : decode cX9_goLives 12 = .ok (.putfield 103, 3) := by decide +kernel
theorem dX9_goLives_15 : decode cX9_goLives 15 = .ok (.iconst 0, 1) := by decide +kernel
theorem dX9_goLives_16 : decode cX9_goLives 16 = .ok (.istore_n 1, 1) := by decide +kernel
theorem dX9_goLives_17 : decode cX9_goLives 17 = .ok (.iload_n 1, 1) := by decide +kernel
theorem dX9_goLives_18 : decode cX9_goLives 18 = .ok (.aload_n 0, 1) := by decide +kernel
theorem dX9_goLives_19 : decode cX9_goLives 19 = .ok (.getfield 68, 3) := by decide +kernel
theorem dX9_goLives_22 : decode cX9_goLives 22 = .ok (.if_icmp .ge 230, 3) := by decide +kernel
theorem dX9_goLives_25 : decode cX9_goLives 25 = .ok (.aload_n 0, 1) := by decide +kernel
theorem dX9_goLives_26 : decode cX9_goLives 26 = .ok (.invokevirtual 106, 3) := by decide +kernel
theorem dX9_goLives_29 : decode cX9_goLives 29 = .ok (.istore_n 2, 1) := by decide +kernel
theorem dX9_goLives_30 : decode cX9_goLives 30 = .ok (.aload_n 0, 1) := by decide +kernel
theorem dX9_goLives_31 : decode cX9_goLives 31 = .ok (.getfield 25, 3) := by decide +kernel
theorem dX9_goLives_34 : decode cX9_goLives 34 = .ok (.iload_n 1, 1) := by decide +kernel
theorem dX9_goLives_35 : decode cX9_goLives 35 = .ok (.iaload, 1) := by decide +kernel
theorem dX9_goLives_36 : decode cX9_goLives 36 = .ok (.bipush 46, 2) := by decide +kernel
theorem dX9_goLives_38 : decode cX9_goLives 38 = .ok (.if_icmp .ne 17, 3) := by decide +kernel
theorem dX9_goLives_41 : decode cX9_goLives 41 = .ok (.aload_n 0, 1) := by decide +kernel
theorem dX9_goLives_42 : decode cX9_goLives 42 = .ok (.aload_n 0, 1) := by decide +kernel
theorem dX9_goLives_43 : decode cX9_goLives 43 = .ok (.invokevirtual 109, 3) := by decide +kernel
theorem dX9_goLives_46 : decode cX9_goLives 46 = .ok (.putfield 112, 3) := by decide +kernel
theorem dX9_goLives_49 : decode cX9_goLives 49 = .ok (.iinc 1 1, 3) := by decide +kernel
theorem dX9_goLives_52 : decode cX9_goLives 52 = .ok (.goto 142, 3) := by decide +kernel
theorem dX9_goLives_55 : decode cX9_goLives 55 = .ok (.aload_n 0, 1) := by decide +kernel
theorem dX9_goLives_56 : decode cX9_goLives 56 = .ok (.getfield 25, 3) := by decide +kernel
theorem dX9_goLives_59 : decode cX9_goLives 59 = .ok (.iload_n 1, 1) := by decide +kernel
theorem dX9_goLives_60 : decode cX9_goLives 60 = .ok (.iaload, 1) := by decide +kernel
theorem dX9_goLives_61 : decode cX9_goLives 61 = .ok (.bipush 65, 2) := by decide +kernel
theorem dX9_goLives_63 : decode cX9_goLives 63 = .ok (.isub, 1) := by decide +kernel
theorem dX9_goLives_64 : decode cX9_goLives 64 = .ok (.istore_n 3, 1) := by decide +kernel
theorem dX9_goLives_65 : decode cX9_goLives 65 = .ok (.aload_n 0, 1) := by decide +kernel
theorem dX9_goLives_66 : decode cX9_goLives 66 = .ok (.getfield 25, 3) := by decide +kernel
theorem dX9_goLives_69 : decode cX9_goLives 69 = .ok (.iload_n 1, 1) := by decide +kernel
theorem dX9_goLives_70 : decode cX9_goLives 70 = .ok (.iconst 1, 1) := by decide +kernel
theorem dX9_goLives_71 : decode cX9_goLives 71 = .ok (.iadd, 1) := by decide +kernel
theorem dX9_goLives_72 : decode cX9_goLives 72 = .ok (.iaload, 1) := by decide +kernel
theorem dX9_goLives_73 : decode cX9_goLives 73 = .ok (.istore 4, 2) := by decide +kernel
theorem dX9_goLives_75 : decode cX9_goLives 75 = .ok (.iload 4, 2) := by decide +kernel
theorem dX9_goLives_77 : decode cX9_goLives 77 = .ok (.invokestatic 74, 3) := by decide +kernel
theorem dX9_goLives_80 : decode cX9_goLives 80 = .ok (.ifCond .eq 23, 3) := by decide +kernel
theorem dX9_goLives_83 : decode cX9_goLives 83 = .ok (.aload_n 0, 1) := by decide +kernel
theorem dX9_goLives_84 : decode cX9_goLives 84 = .ok (.aload_n 0, 1) := by decide +kernel
theorem dX9_goLives_85 : decode cX9_goLives 85 = .ok (.iload_n 3, 1) := by decide +kernel
theorem dX9_goLives_86 : decode cX9_goLives 86 = .ok (.iload 4, 2) := by decide +kernel
theorem dX9_goLives_88 : decode cX9_goLives 88 = .ok (.bipush 48, 2) := by decide +kernel
theorem dX9_goLives_90 : decode cX9_goLives 90 = .ok (.isub, 1) := by decide +kernel
theorem dX9_goLives_91 : decode cX9_goLives 91 = .ok (.invokevirtual 115, 3) := by decide +kernel
theorem dX9_goLives_94 : decode cX9_goLives 94 = .ok (.putfield 112, 3) := by decide +kernel
theorem dX9_goLives_97 : decode cX9_goLives 97 = .ok (.iinc 1 2, 3) := by decide +kernel
theorem dX9_goLives_100 : decode cX9_goLives 100 = .ok (.goto 94, 3) := by decide +kernel
theorem dX9_goLives_103 : decode cX9_goLives 103 = .ok (.iload 4, 2) := by decide +kernel
theorem dX9_goLives_105 : decode cX9_goLives 105 = .ok (.bipush 33, 2) := by decide +kernel
theorem dX9_goLives_107 : decode cX9_goLives 107 = .ok (.if_icmp .ne 29, 3) := by decide +kernel
theorem dX9_goLives_110 : decode cX9_goLives 110 = .ok (.aload_n 0, 1) := by decide +kernel
theorem dX9_goLives_111 : decode cX9_goLives 111 = .ok (.aload_n 0, 1) := by decide +kernel
theorem dX9_goLives_112 : decode cX9_goLives 112 = .ok (.iload_n 3, 1) := by decide +kernel
theorem dX9_goLives_113 : decode cX9_goLives 113 = .ok (.aload_n 0, 1) := by decide +kernel
theorem dX9_goLives_114 : decode cX9_goLives 114 = .ok (.getfield 25, 3) := by decide +kernel
theorem dX9_goLives_117 : decode cX9_goLives 117 = .ok (.iload_n 1, 1) := by decide +kernel
theorem dX9_goLives_118 : decode cX9_goLives 118 = .ok (.iconst 2, 1) := by decide +kernel
theorem dX9_goLives_119 : decode cX9_goLives 119 = .ok (.iadd, 1) := by decide +kernel
theorem dX9_goLives_120 : decode cX9_goLives 120 = .ok (.iaload, 1) := by decide +kernel
theorem dX9_goLives_121 : decode cX9_goLives 121 = .ok (.bipush 48, 2) := by decide +kernel
theorem dX9_goLives_123 : decode cX9_goLives 123 = .ok (.isub, 1) := by decide +kernel
theorem dX9_goLives_124 : decode cX9_goLives 124 = .ok (.invokevirtual 119, 3) := by decide +kernel
theorem dX9_goLives_127 : decode cX9_goLives 127 = .ok (.putfield 112, 3) := by decide +kernel
theorem dX9_goLives_130 : decode cX9_goLives 130 = .ok (.iinc 1 3, 3) := by decide +kernel
theorem dX9_goLives_133 : decode cX9_goLives 133 = .ok (.goto 61, 3) := by decide +kernel
theorem dX9_goLives_136 : decode cX9_goLives 136 = .ok (.iload 4, 2) := by decide +kernel
theorem dX9_goLives_138 : decode cX9_goLives 138 = .ok (.bipush 42, 2) := by decide +kernel
theorem dX9_goLives_140 : decode cX9_goLives 140 = .ok (.if_icmp .ne 18, 3) := by decide +kernel
theorem dX9_goLives_143 : decode cX9_goLives 143 = .ok (.aload_n 0, 1) := by decide +kernel
theorem dX9_goLives_144 : decode cX9_goLives 144 = .ok (.aload_n 0, 1) := by decide +kernel
theorem dX9_goLives_145 : decode cX9_goLives 145 = .ok (.iload_n 3, 1) := by decide +kernel
theorem dX9_goLives_146 : decode cX9_goLives 146 = .ok (.invokevirtual 122, 3) := by decide +kernel
theorem dX9_goLives_149 : decode cX9_goLives 149 = .ok (.putfield 112, 3) := by decide +kernel
theorem dX9_goLives_152 : decode cX9_goLives 152 = .ok (.iinc 1 2, 3) := by decide +kernel
theorem dX9_goLives_155 : decode cX9_goLives 155 = .ok (.goto 39, 3) := by decide +kernel
theorem dX9_goLives_158 : decode cX9_goLives 158 = .ok (.aload_n 0, 1) := by decide +kernel
theorem dX9_goLives_159 : decode cX9_goLives 159 = .ok (.aload_n 0, 1) := by decide +kernel
theorem dX9_goLives_160 : decode cX9_goLives 160 = .ok (.iload_n 3, 1) := by decide +kernel
theorem dX9_goLives_161 : decode cX9_goLives 161 = .ok (.iload 4, 2) := by decide +kernel
theorem dX9_goLives_163 : decode cX9_goLives 163 = .ok (.aload_n 0, 1) := by decide +kernel
theorem dX9_goLives_164 : decode cX9_goLives 164 = .ok (.getfield 25, 3) := by decide +kernel
theorem dX9_goLives_167 : decode cX9_goLives 167 = .ok (.iload_n 1, 1) := by decide +kernel
theorem dX9_goLives_168 : decode cX9_goLives 168 = .ok (.iconst 2, 1) := by decide +kernel
theorem dX9_goLives_169 : decode cX9_goLives 169 = .ok (.iadd, 1) := by decide +kernel
theorem dX9_goLives_170 : decode cX9_goLives 170 = .ok (.iaload, 1) := by decide +kernel
theorem dX9_goLives_171 : decode cX9_goLives 171 = .ok (.bipush 48, 2) := by decide +kernel
theorem dX9_goLives_173 : decode cX9_goLives 173 = .ok (.isub, 1) := by decide +kernel
theorem dX9_goLives_174 : decode cX9_goLives 174 = .ok (.aload_n 0, 1) := by decide +kernel
theorem dX9_goLives_175 : decode cX9_goLives 175 = .ok (.getfield 25, 3) := by decide +kernel
theorem dX9_goLives_178 : decode cX9_goLives 178 = .ok (.iload_n 1, 1) := by decide +kernel
theorem dX9_goLives_179 : decode cX9_goLives 179 = .ok (.iconst 3, 1) := by decide +kernel
theorem dX9_goLives_180 : decode cX9_goLives 180 = .ok (.iadd, 1) := by decide +kernel
theorem dX9_goLives_181 : decode cX9_goLives 181 = .ok (.iaload, 1) := by decide +kernel
theorem dX9_goLives_182 : decode cX9_goLives 182 = .ok (.bipush 65, 2) := by decide +kernel
theorem dX9_goLives_184 : decode cX9_goLives 184 = .ok (.isub, 1) := by decide +kernel
theorem dX9_goLives_185 : decode cX9_goLives 185 = .ok (.invokevirtual 125, 3) := by decide +kernel
theorem dX9_goLives_188 : decode cX9_goLives 188 = .ok (.putfield 112, 3) := by decide +kernel
theorem dX9_goLives_191 : decode cX9_goLives 191 = .ok (.iinc 1 4, 3) := by decide +kernel
theorem dX9_goLives_194 : decode cX9_goLives 194 = .ok (.aload_n 0, 1) := by decide +kernel
theorem dX9_goLives_195 : decode cX9_goLives 195 = .ok (.getfield 112, 3) := by decide +kernel
theorem dX9_goLives_198 : decode cX9_goLives 198 = .ok (.ifCond .le 8, 3) := by decide +kernel
theorem dX9_goLives_201 : decode cX9_goLives 201 = .ok (.aload_n 0, 1) := by decide +kernel
theorem dX9_goLives_202 : decode cX9_goLives 202 = .ok (.getfield 100, 3) := by decide +kernel
theorem dX9_goLives_205 : decode cX9_goLives 205 = .ok (.ireturn, 1) := by decide +kernel
theorem dX9_goLives_206 : decode cX9_goLives 206 = .ok (.aload_n 0, 1) := by decide +kernel
theorem dX9_goLives_207 : decode cX9_goLives 207 = .ok (.aload_n 0, 1) := by decide +kernel
theorem dX9_goLives_208 : decode cX9_goLives 208 = .ok (.getfield 103, 3) := by decide +kernel
theorem dX9_goLives_211 : decode cX9_goLives 211 = .ok (.ifCond .ge 21, 3) := by decide +kernel
theorem dX9_goLives_214 : decode cX9_goLives 214 = .ok (.iload_n 2, 1) := by decide +kernel
theorem dX9_goLives_215 : decode cX9_goLives 215 = .ok (.aload_n 0, 1) := by decide +kernel
theorem dX9_goLives_216 : decode cX9_goLives 216 = .ok (.invokevirtual 106, 3) := by decide +kernel
theorem dX9_goLives_219 : decode cX9_goLives 219 = .ok (.iconst (-1), 1) := by decide +kernel
theorem dX9_goLives_220 : decode cX9_goLives 220 = .ok (.ixor, 1) := by decide +kernel
theorem dX9_goLives_221 : decode cX9_goLives 221 = .ok (.iand, 1) := by decide +kernel
theorem dX9_goLives_222 : decode cX9_goLives 222 = .ok (.ifCond .eq 10, 3) := by decide +kernel
theorem dX9_goLives_225 : decode cX9_goLives 225 = .ok (.aload_n 0, 1) := by decide +kernel
theorem dX9_goLives_226 : decode cX9_goLives 226 = .ok (.getfield 100, 3) := by decide +kernel
theorem dX9_goLives_229 : decode cX9_goLives 229 = .ok (.goto 7, 3) := by decide +kernel
theorem dX9_goLives_232 : decode cX9_goLives 232 = .ok (.aload_n 0, 1) := by decide +kernel
theorem dX9_goLives_233 : decode cX9_goLives 233 = .ok (.getfield 103, 3) := by decide +kernel
theorem dX9_goLives_236 : decode cX9_goLives 236 = .ok (.putfield 103, 3) := by decide +kernel
theorem dX9_goLives_239 : decode cX9_goLives 239 = .ok (.aload_n 0, 1) := by decide +kernel
theorem dX9_goLives_240 : decode cX9_goLives 240 = .ok (.dup, 1) := by decide +kernel
theorem dX9_goLives_241 : decode cX9_goLives 241 = .ok (.getfield 100, 3) := by decide +kernel
theorem dX9_goLives_244 : decode cX9_goLives 244 = .ok (.iconst 1, 1) := by decide +kernel
theorem dX9_goLives_245 : decode cX9_goLives 245 = .ok (.iadd, 1) := by decide +kernel
theorem dX9_goLives_246 : decode cX9_goLives 246 = .ok (.putfield 100, 3) := by decide +kernel
theorem dX9_goLives_249 : decode cX9_goLives 249 = .ok (.goto (-232), 3) := by decide +kernel
theorem dX9_goLives_252 : decode cX9_goLives 252 = .ok (.bipush (-6), 2) := by decide +kernel
theorem dX9_goLives_254 : decode cX9_goLives 254 = .ok (.ireturn, 1) := by decide +kernel
theorem dX9_judge_0 : decode cX9_judge 0 = .ok (.iload_n 1, 1) := by decide +kernel
theorem dX9_judge_1 : decode cX9_judge 1 = .ok (.iconst 0, 1) := by decide +kernel
theorem dX9_judge_2 : decode cX9_judge 2 = .ok (.iconst 1, 1) := by decide +kernel
theorem dX9_judge_3 : decode cX9_judge 3 = .ok (.invokestatic 48, 3) := by decide +kernel
theorem dX9_judge_6 : decode cX9_judge 6 = .ok (.ifCond .ne 6, 3) := by decide +kernel
theorem dX9_judge_9 : decode cX9_judge 9 = .ok (.bipush (-2), 2) := by decide +kernel
theorem dX9_judge_11 : decode cX9_judge 11 = .ok (.ireturn, 1) := by decide +kernel
theorem dX9_judge_12 : decode cX9_judge 12 = .ok (.aload_n 0, 1) := by decide +kernel
theorem dX9_judge_13 : decode cX9_judge 13 = .ok (.invokevirtual 80, 3) := by decide +kernel
theorem dX9_judge_16 : decode cX9_judge 16 = .ok (.ifCond .lt 6, 3) := by decide +kernel
theorem dX9_judge_19 : decode cX9_judge 19 = .ok (.bipush (-5), 2) := by decide +kernel
theorem dX9_judge_21 : decode cX9_judge 21 = .ok (.ireturn, 1) := by decide +kernel
theorem dX9_judge_22 : decode cX9_judge 22 = .ok (.aload_n 0, 1) := by decide +kernel
theorem dX9_judge_23 : decode cX9_judge 23 = .ok (.invokevirtual 129, 3) := by decide +kernel
theorem dX9_judge_26 : decode cX9_judge 26 = .ok (.istore_n 2, 1) := by decide +kernel
theorem dX9_judge_27 : decode cX9_judge 27 = .ok (.iload_n 2, 1) := by decide +kernel
theorem dX9_judge_28 : decode cX9_judge 28 = .ok (.ifCond .lt 7, 3) := by decide +kernel
theorem dX9_judge_31 : decode cX9_judge 31 = .ok (.iload_n 1, 1) := by decide +kernel
theorem dX9_judge_32 : decode cX9_judge 32 = .ok (.ifCond .ne 7, 3) := by decide +kernel
theorem dX9_judge_35 : decode cX9_judge 35 = .ok (.iload_n 2, 1) := by decide +kernel
theorem dX9_judge_36 : decode cX9_judge 36 = .ok (.goto 7, 3) := by decide +kernel
theorem dX9_judge_39 : decode cX9_judge 39 = .ok (.aload_n 0, 1) := by decide +kernel
theorem dX9_judge_40 : decode cX9_judge 40 = .ok (.getfield 112, 3) := by decide +kernel
theorem dX9_judge_43 : decode cX9_judge 43 = .ok (.ireturn, 1) := by decide +kernel
theorem dX9_barOfLives_0 : decode cX9_barOfLives 0 = .ok (.aload_n 0, 1) := by decide +kernel
theorem dX9_barOfLives_1 : decode cX9_barOfLives 1 = .ok (.invokevirtual 80, 3) := by decide +kernel
theorem dX9_barOfLives_4 : decode cX9_barOfLives 4 = .ok (.ifCond .ge 10, 3) := by decide +kernel
theorem dX9_barOfLives_7 : decode cX9_barOfLives 7 = .ok (.aload_n 0, 1) := by decide +kernel
theorem dX9_barOfLives_8 : decode cX9_barOfLives 8 = .ok (.invokevirtual 129, 3) := by decide +kernel
theorem dX9_barOfLives_11 : decode cX9_barOfLives 11 = .ok (.ifCond .lt 8, 3) := by decide +kernel
theorem dX9_barOfLives_14 : decode cX9_barOfLives 14 = .ok (.bipush (-5), 2) := by decide +kernel
theorem dX9_barOfLives_16 : decode cX9_barOfLives 16 = .ok (.goto 4, 3) := by decide +kernel
theorem dX9_barOfLives_19 : decode cX9_barOfLives 19 = .ok (.iconst 0, 1) := by decide +kernel
theorem dX9_barOfLives_20 : decode cX9_barOfLives 20 = .ok (.ireturn, 1) := by decide +kernel
theorem dX9_done_0 : decode cX9_done 0 = .ok (.aload_n 0, 1) := by decide +kernel
theorem dX9_done_1 : decode cX9_done 1 = .ok (.invokevirtual 132, 3) := by decide +kernel
theorem dX9_done_4 : decode cX9_done 4 = .ok (.ifCond .ge 6, 3) := by decide +kernel
theorem dX9_done_7 : decode cX9_done 7 = .ok (.bipush (-5), 2) := by decide +kernel
theorem dX9_done_9 : decode cX9_done 9 = .ok (.ireturn, 1) := by decide +kernel
theorem dX9_done_10 : decode cX9_done 10 = .ok (.iconst 0, 1) := by decide +kernel
theorem dX9_done_11 : decode cX9_done 11 = .ok (.istore_n 1, 1) := by decide +kernel
theorem dX9_done_12 : decode cX9_done 12 = .ok (.iload_n 1, 1) := by decide +kernel
theorem dX9_done_13 : decode cX9_done 13 = .ok (.bipush 61, 2) := by decide +kernel
theorem dX9_done_15 : decode cX9_done 15 = .ok (.if_icmp .ge 21, 3) := by decide +kernel
theorem dX9_done_18 : decode cX9_done 18 = .ok (.aload_n 0, 1) := by decide +kernel
theorem dX9_done_19 : decode cX9_done 19 = .ok (.getfield 7, 3) := by decide +kernel
theorem dX9_done_22 : decode cX9_done 22 = .ok (.iload_n 1, 1) := by decide +kernel
theorem dX9_done_23 : decode cX9_done 23 = .ok (.aload_n 0, 1) := by decide +kernel
theorem dX9_done_24 : decode cX9_done 24 = .ok (.getfield 13, 3) := by decide +kernel
theorem dX9_done_27 : decode cX9_done 27 = .ok (.iload_n 1, 1) := by decide +kernel
theorem dX9_done_28 : decode cX9_done 28 = .ok (.iaload, 1) := by decide +kernel
theorem dX9_done_29 : decode cX9_done 29 = .ok (.iastore, 1) := by decide +kernel
theorem dX9_done_30 : decode cX9_done 30 = .ok (.iinc 1 1, 3) := by decide +kernel
theorem dX9_done_33 : decode cX9_done 33 = .ok (.goto (-21), 3) := by decide +kernel
theorem dX9_done_36 : decode cX9_done 36 = .ok (.aload_n 0, 1) := by decide +kernel
theorem dX9_done_37 : decode cX9_done 37 = .ok (.iconst 0, 1) := by decide +kernel
theorem dX9_done_38 : decode cX9_done 38 = .ok (.putfield 68, 3) := by decide +kernel
theorem dX9_done_41 : decode cX9_done 41 = .ok (.aload_n 0, 1) := by decide +kernel
theorem dX9_done_42 : decode cX9_done 42 = .ok (.getfield 100, 3) := by decide +kernel
theorem dX9_done_45 : decode cX9_done 45 = .ok (.ireturn, 1) := by decide +kernel
theorem dX9_state_0 : decode cX9_state 0 = .ok (.aload_n 0, 1) := by decide +kernel
theorem dX9_state_1 : decode cX9_state 1 = .ok (.iload_n 1, 1) := by decide +kernel
theorem dX9_state_2 : decode cX9_state 2 = .ok (.invokevirtual 64, 3) := by decide +kernel
theorem dX9_state_5 : decode cX9_state 5 = .ok (.ifCond .ne 5, 3) := by decide +kernel
theorem dX9_state_8 : decode cX9_state 8 = .ok (.iconst (-1), 1) := by decide +kernel
theorem dX9_state_9 : decode cX9_state 9 = .ok (.ireturn, 1) := by decide +kernel
theorem dX9_state_10 : decode cX9_state 10 = .ok (.iload_n 2, 1) := by decide +kernel
theorem dX9_state_11 : decode cX9_state 11 = .ok (.iconst 0, 1) := by decide +kernel
theorem dX9_state_12 : decode cX9_state 12 = .ok (.iconst 2, 1) := by decide +kernel
theorem dX9_state_13 : decode cX9_state 13 = .ok (.invokestatic 48, 3) := by decide +kernel
theorem dX9_state_16 : decode cX9_state 16 = .ok (.ifCond .eq 17, 3) := by decide +kernel
theorem dX9_state_19 : decode cX9_state 19 = .ok (.aload_n 0, 1) := by decide +kernel
theorem dX9_state_20 : decode cX9_state 20 = .ok (.getfield 7, 3) := by decide +kernel
theorem dX9_state_23 : decode cX9_state 23 = .ok (.bipush 6, 2) := by decide +kernel
theorem dX9_state_25 : decode cX9_state 25 = .ok (.iload_n 2, 1) := by decide +kernel
theorem dX9_state_26 : decode cX9_state 26 = .ok (.imul, 1) := by decide +kernel
theorem dX9_state_27 : decode cX9_state 27 = .ok (.iload_n 1, 1) := by decide +kernel
theorem dX9_state_28 : decode cX9_state 28 = .ok (.iadd, 1) := by decide +kernel
theorem dX9_state_29 : decode cX9_state 29 = .ok (.iaload, 1) := by decide +kernel
theorem dX9_state_30 : decode cX9_state 30 = .ok (.goto 5, 3) := by decide +kernel
theorem dX9_state_33 : decode cX9_state 33 = .ok (.bipush (-2), 2) := by decide +kernel
theorem dX9_state_35 : decode cX9_state 35 = .ok (.ireturn, 1) := by decide +kernel
theorem dX9_behind_0 : decode cX9_behind 0 = .ok (.aload_n 0, 1) := by decide +kernel
theorem dX9_behind_1 : decode cX9_behind 1 = .ok (.iload_n 1, 1) := by decide +kernel
theorem dX9_behind_2 : decode cX9_behind 2 = .ok (.invokevirtual 64, 3) := by decide +kernel
theorem dX9_behind_5 : decode cX9_behind 5 = .ok (.ifCond .ne 5, 3) := by decide +kernel
theorem dX9_behind_8 : decode cX9_behind 8 = .ok (.iconst (-1), 1) := by decide +kernel
theorem dX9_behind_9 : decode cX9_behind 9 = .ok (.ireturn, 1) := by decide +kernel
theorem dX9_behind_10 : decode cX9_behind 10 = .ok (.iload_n 2, 1) := by decide +kernel
theorem dX9_behind_11 : decode cX9_behind 11 = .ok (.iconst 0, 1) := by decide +kernel
theorem dX9_behind_12 : decode cX9_behind 12 = .ok (.iconst 2, 1) := by decide +kernel
theorem dX9_behind_13 : decode cX9_behind 13 = .ok (.invokestatic 48, 3) := by decide +kernel
theorem dX9_behind_16 : decode cX9_behind 16 = .ok (.ifCond .ne 6, 3) := by decide +kernel
theorem dX9_behind_19 : decode cX9_behind 19 = .ok (.bipush (-2), 2) := by decide +kernel
theorem dX9_behind_21 : decode cX9_behind 21 = .ok (.ireturn, 1) := by decide +kernel
theorem dX9_behind_22 : decode cX9_behind 22 = .ok (.aload_n 0, 1) := by decide +kernel
theorem dX9_behind_23 : decode cX9_behind 23 = .ok (.invokevirtual 132, 3) := by decide +kernel
theorem dX9_behind_26 : decode cX9_behind 26 = .ok (.ifCond .ge 8, 3) := by decide +kernel
theorem dX9_behind_29 : decode cX9_behind 29 = .ok (.bipush (-5), 2) := by decide +kernel
theorem dX9_behind_31 : decode cX9_behind 31 = .ok (.goto 14, 3) := by decide +kernel
theorem dX9_behind_34 : decode cX9_behind 34 = .ok (.aload_n 0, 1) := by decide +kernel
theorem dX9_behind_35 : decode cX9_behind 35 = .ok (.getfield 13, 3) := by decide +kernel
theorem dX9_behind_38 : decode cX9_behind 38 = .ok (.bipush 6, 2) := by decide +kernel
theorem dX9_behind_40 : decode cX9_behind 40 = .ok (.iload_n 2, 1) := by decide +kernel
theorem dX9_behind_41 : decode cX9_behind 41 = .ok (.imul, 1) := by decide +kernel
theorem dX9_behind_42 : decode cX9_behind 42 = .ok (.iload_n 1, 1) := by decide +kernel
theorem dX9_behind_43 : decode cX9_behind 43 = .ok (.iadd, 1) := by decide +kernel
theorem dX9_behind_44 : decode cX9_behind 44 = .ok (.iaload, 1) := by decide +kernel
theorem dX9_behind_45 : decode cX9_behind 45 = .ok (.ireturn, 1) := by decide +kernel
theorem dX9_acts_0 : decode cX9_acts 0 = .ok (.iload_n 1, 1) := by decide +kernel
theorem dX9_acts_1 : decode cX9_acts 1 = .ok (.iconst 0, 1) := by decide +kernel
theorem dX9_acts_2 : decode cX9_acts 2 = .ok (.iconst 1, 1) := by decide +kernel
theorem dX9_acts_3 : decode cX9_acts 3 = .ok (.invokestatic 48, 3) := by decide +kernel
theorem dX9_acts_6 : decode cX9_acts 6 = .ok (.ifCond .ne 6, 3) := by decide +kernel
theorem dX9_acts_9 : decode cX9_acts 9 = .ok (.bipush (-2), 2) := by decide +kernel
theorem dX9_acts_11 : decode cX9_acts 11 = .ok (.ireturn, 1) := by decide +kernel
theorem dX9_acts_12 : decode cX9_acts 12 = .ok (.aload_n 0, 1) := by decide +kernel
theorem dX9_acts_13 : decode cX9_acts 13 = .ok (.invokevirtual 132, 3) := by decide +kernel
theorem dX9_acts_16 : decode cX9_acts 16 = .ok (.ifCond .ge 6, 3) := by decide +kernel
theorem dX9_acts_19 : decode cX9_acts 19 = .ok (.bipush (-5), 2) := by decide +kernel
theorem dX9_acts_21 : decode cX9_acts 21 = .ok (.ireturn, 1) := by decide +kernel
theorem dX9_acts_22 : decode cX9_acts 22 = .ok (.iload_n 1, 1) := by decide +kernel
theorem dX9_acts_23 : decode cX9_acts 23 = .ok (.ifCond .ne 10, 3) := by decide +kernel
theorem dX9_acts_26 : decode cX9_acts 26 = .ok (.aload_n 0, 1) := by decide +kernel
theorem dX9_acts_27 : decode cX9_acts 27 = .ok (.getfield 84, 3) := by decide +kernel
theorem dX9_acts_30 : decode cX9_acts 30 = .ok (.goto 7, 3) := by decide +kernel
theorem dX9_acts_33 : decode cX9_acts 33 = .ok (.aload_n 0, 1) := by decide +kernel
theorem dX9_acts_34 : decode cX9_acts 34 = .ok (.getfield 103, 3) := by decide +kernel
theorem dX9_acts_37 : decode cX9_acts 37 = .ok (.ireturn, 1) := by decide +kernel
theorem dX9_owes_0 : decode cX9_owes 0 = .ok (.aload_n 0, 1) := by decide +kernel
theorem dX9_owes_1 : decode cX9_owes 1 = .ok (.iload_n 1, 1) := by decide +kernel
theorem dX9_owes_2 : decode cX9_owes 2 = .ok (.invokevirtual 64, 3) := by decide +kernel
theorem dX9_owes_5 : decode cX9_owes 5 = .ok (.ifCond .eq 33, 3) := by decide +kernel
theorem dX9_owes_8 : decode cX9_owes 8 = .ok (.aload_n 0, 1) := by decide +kernel
theorem dX9_owes_9 : decode cX9_owes 9 = .ok (.iload_n 2, 1) := by decide +kernel
theorem dX9_owes_10 : decode cX9_owes 10 = .ok (.invokevirtual 64, 3) := by decide +kernel
theorem dX9_owes_13 : decode cX9_owes 13 = .ok (.ifCond .eq 25, 3) := by decide +kernel
theorem dX9_owes_16 : decode cX9_owes 16 = .ok (.iload_n 1, 1) := by decide +kernel
theorem dX9_owes_17 : decode cX9_owes 17 = .ok (.iload_n 2, 1) := by decide +kernel
theorem dX9_owes_18 : decode cX9_owes 18 = .ok (.if_icmp .eq 20, 3) := by decide +kernel
theorem dX9_owes_21 : decode cX9_owes 21 = .ok (.aload_n 0, 1) := by decide +kernel
theorem dX9_owes_22 : decode cX9_owes 22 = .ok (.getfield 7, 3) := by decide +kernel
theorem dX9_owes_25 : decode cX9_owes 25 = .ok (.bipush 20, 2) := by decide +kernel
theorem dX9_owes_27 : decode cX9_owes 27 = .ok (.bipush 6, 2) := by decide +kernel
theorem dX9_owes_29 : decode cX9_owes 29 = .ok (.iload_n 1, 1) := by decide +kernel
theorem dX9_owes_30 : decode cX9_owes 30 = .ok (.imul, 1) := by decide +kernel
theorem dX9_owes_31 : decode cX9_owes 31 = .ok (.iadd, 1) := by decide +kernel
theorem dX9_owes_32 : decode cX9_owes 32 = .ok (.iload_n 2, 1) := by decide +kernel
theorem dX9_owes_33 : decode cX9_owes 33 = .ok (.iadd, 1) := by decide +kernel
theorem dX9_owes_34 : decode cX9_owes 34 = .ok (.iaload, 1) := by decide +kernel
theorem dX9_owes_35 : decode cX9_owes 35 = .ok (.goto 4, 3) := by decide +kernel
theorem dX9_owes_38 : decode cX9_owes 38 = .ok (.iconst (-1), 1) := by decide +kernel
theorem dX9_owes_39 : decode cX9_owes 39 = .ok (.ireturn, 1) := by decide +kernel
theorem dX9_who_0 : decode cX9_who 0 = .ok (.iload_n 1, 1) := by decide +kernel
theorem dX9_who_1 : decode cX9_who 1 = .ok (.iconst 0, 1) := by decide +kernel
theorem dX9_who_2 : decode cX9_who 2 = .ok (.iconst 1, 1) := by decide +kernel
theorem dX9_who_3 : decode cX9_who 3 = .ok (.invokestatic 48, 3) := by decide +kernel
theorem dX9_who_6 : decode cX9_who 6 = .ok (.ifCond .ne 6, 3) := by decide +kernel
theorem dX9_who_9 : decode cX9_who 9 = .ok (.bipush (-2), 2) := by decide +kernel
theorem dX9_who_11 : decode cX9_who 11 = .ok (.ireturn, 1) := by decide +kernel
theorem dX9_who_12 : decode cX9_who 12 = .ok (.bipush (-6), 2) := by decide +kernel
theorem dX9_who_14 : decode cX9_who 14 = .ok (.istore_n 2, 1) := by decide +kernel
theorem dX9_who_15 : decode cX9_who 15 = .ok (.iconst 0, 1) := by decide +kernel
theorem dX9_who_16 : decode cX9_who 16 = .ok (.istore_n 3, 1) := by decide +kernel
theorem dX9_who_17 : decode cX9_who 17 = .ok (.iconst 0, 1) := by decide +kernel
theorem dX9_who_18 : decode cX9_who 18 = .ok (.istore 4, 2) := by decide +kernel
theorem dX9_who_20 : decode cX9_who 20 = .ok (.iload 4, 2) := by decide +kernel
theorem dX9_who_22 : decode cX9_who 22 = .ok (.bipush 6, 2) := by decide +kernel
theorem dX9_who_24 : decode cX9_who 24 = .ok (.if_icmp .ge 78, 3) := by decide +kernel
theorem dX9_who_27 : decode cX9_who 27 = .ok (.aload_n 0, 1) := by decide +kernel
theorem dX9_who_28 : decode cX9_who 28 = .ok (.getfield 52, 3) := by decide +kernel
theorem dX9_who_31 : decode cX9_who 31 = .ok (.iload 4, 2) := by decide +kernel
theorem dX9_who_33 : decode cX9_who 33 = .ok (.invokestatic 56, 3) := by decide +kernel
theorem dX9_who_36 : decode cX9_who 36 = .ok (.ifCond .eq 60, 3) := by decide +kernel
theorem dX9_who_39 : decode cX9_who 39 = .ok (.iload_n 2, 1) := by decide +kernel
theorem dX9_who_40 : decode cX9_who 40 = .ok (.ifCond .lt 25, 3) := by decide +kernel
theorem dX9_who_43 : decode cX9_who 43 = .ok (.aload_n 0, 1) := by decide +kernel
theorem dX9_who_44 : decode cX9_who 44 = .ok (.getfield 7, 3) := by decide +kernel
theorem dX9_who_47 : decode cX9_who 47 = .ok (.bipush 6, 2) := by decide +kernel
theorem dX9_who_49 : decode cX9_who 49 = .ok (.iload 4, 2) := by decide +kernel
theorem dX9_who_51 : decode cX9_who 51 = .ok (.iadd, 1) := by decide +kernel
theorem dX9_who_52 : decode cX9_who 52 = .ok (.iaload, 1) := by decide +kernel
theorem dX9_who_53 : decode cX9_who 53 = .ok (.aload_n 0, 1) := by decide +kernel
theorem dX9_who_54 : decode cX9_who 54 = .ok (.getfield 7, 3) := by decide +kernel
theorem dX9_who_57 : decode cX9_who 57 = .ok (.bipush 6, 2) := by decide +kernel
theorem dX9_who_59 : decode cX9_who 59 = .ok (.iload_n 2, 1) := by decide +kernel
theorem dX9_who_60 : decode cX9_who 60 = .ok (.iadd, 1) := by decide +kernel
theorem dX9_who_61 : decode cX9_who 61 = .ok (.iaload, 1) := by decide +kernel
theorem dX9_who_62 : decode cX9_who 62 = .ok (.if_icmp .le 8, 3) := by decide +kernel
theorem dX9_who_65 : decode cX9_who 65 = .ok (.iload 4, 2) := by decide +kernel
theorem dX9_who_67 : decode cX9_who 67 = .ok (.goto 4, 3) := by decide +kernel
theorem dX9_who_70 : decode cX9_who 70 = .ok (.iload_n 2, 1) := by decide +kernel
theorem dX9_who_71 : decode cX9_who 71 = .ok (.istore_n 2, 1) := by decide +kernel
theorem dX9_who_72 : decode cX9_who 72 = .ok (.iload_n 3, 1) := by decide +kernel
theorem dX9_who_73 : decode cX9_who 73 = .ok (.aload_n 0, 1) := by decide +kernel
theorem dX9_who_74 : decode cX9_who 74 = .ok (.getfield 7, 3) := by decide +kernel
theorem dX9_who_77 : decode cX9_who 77 = .ok (.bipush 12, 2) := by decide +kernel
theorem dX9_who_79 : decode cX9_who 79 = .ok (.iload 4, 2) := by decide +kernel
theorem dX9_who_81 : decode cX9_who 81 = .ok (.iadd, 1) := by decide +kernel
theorem dX9_who_82 : decode cX9_who 82 = .ok (.iaload, 1) := by decide +kernel
theorem dX9_who_83 : decode cX9_who 83 = .ok (.ifCond .ne 10, 3) := by decide +kernel
theorem dX9_who_86 : decode cX9_who 86 = .ok (.iconst 1, 1) := by decide +kernel
theorem dX9_who_87 : decode cX9_who 87 = .ok (.iload 4, 2) := by decide +kernel
theorem dX9_who_89 : decode cX9_who 89 = .ok (.ishl, 1) := by decide +kernel
theorem dX9_who_90 : decode cX9_who 90 = .ok (.goto 4, 3) := by decide +kernel
theorem dX9_who_93 : decode cX9_who 93 = .ok (.iconst 0, 1) := by decide +kernel
theorem dX9_who_94 : decode cX9_who 94 = .ok (.ior, 1) := by decide +kernel
theorem dX9_who_95 : decode cX9_who 95 = .ok (.istore_n 3, 1) := by decide +kernel
theorem dX9_who_96 : decode cX9_who 96 = .ok (.iinc 4 1, 3) := by decide +kernel
theorem dX9_who_99 : decode cX9_who 99 = .ok (.goto (-79), 3) := by decide +kernel
theorem dX9_who_102 : decode cX9_who 102 = .ok (.iload_n 1, 1) := by decide +kernel
theorem dX9_who_103 : decode cX9_who 103 = .ok (.ifCond .ne 7, 3) := by decide +kernel
theorem dX9_who_106 : decode cX9_who 106 = .ok (.iload_n 2, 1) := by decide +kernel
theorem dX9_who_107 : decode cX9_who 107 = .ok (.goto 4, 3) := by decide +kernel
theorem dX9_who_110 : decode cX9_who 110 = .ok (.iload_n 3, 1) := by decide +kernel
theorem dX9_who_111 : decode cX9_who 111 = .ok (.ireturn, 1) := by decide +kernel
theorem dX9_weights_0 : decode cX9_weights 0 = .ok (.iconst 0, 1) := by decide +kernel
theorem dX9_weights_1 : decode cX9_weights 1 = .ok (.istore_n 1, 1) := by decide +kernel
theorem dX9_weights_2 : decode cX9_weights 2 = .ok (.iconst 1, 1) := by decide +kernel
theorem dX9_weights_3 : decode cX9_weights 3 = .ok (.istore_n 2, 1) := by decide +kernel
theorem dX9_weights_4 : decode cX9_weights 4 = .ok (.iload_n 2, 1) := by decide +kernel
theorem dX9_weights_5 : decode cX9_weights 5 = .ok (.bipush 10, 2) := by decide +kernel
theorem dX9_weights_7 : decode cX9_weights 7 = .ok (.if_icmp .ge 18, 3) := by decide +kernel
theorem dX9_weights_10 : decode cX9_weights 10 = .ok (.iload_n 1, 1) := by decide +kernel
theorem dX9_weights_11 : decode cX9_weights 11 = .ok (.aload_n 0, 1) := by decide +kernel
theorem dX9_weights_12 : decode cX9_weights 12 = .ok (.getfield 19, 3) := by decide +kernel
theorem dX9_weights_15 : decode cX9_weights 15 = .ok (.iload_n 2, 1) := by decide +kernel
theorem dX9_weights_16 : decode cX9_weights 16 = .ok (.iaload, 1) := by decide +kernel
theorem dX9_weights_17 : decode cX9_weights 17 = .ok (.iadd, 1) := by decide +kernel
theorem dX9_weights_18 : decode cX9_weights 18 = .ok (.istore_n 1, 1) := by decide +kernel
theorem dX9_weights_19 : decode cX9_weights 19 = .ok (.iinc 2 1, 3) := by decide +kernel
theorem dX9_weights_22 : decode cX9_weights 22 = .ok (.goto (-18), 3) := by decide +kernel
theorem dX9_weights_25 : decode cX9_weights 25 = .ok (.iload_n 1, 1) := by decide +kernel
theorem dX9_weights_26 : decode cX9_weights 26 = .ok (.ireturn, 1) := by decide +kernel
theorem dX9_power_0 : decode cX9_power 0 = .ok (.lconst 1, 1) := by decide +kernel
theorem dX9_power_1 : decode cX9_power 1 = .ok (.lstore_n 3, 1) := by decide +kernel
theorem dX9_power_2 : decode cX9_power 2 = .ok (.iconst 0, 1) := by decide +kernel
theorem dX9_power_3 : decode cX9_power 3 = .ok (.istore 5, 2) := by decide +kernel
theorem dX9_power_5 : decode cX9_power 5 = .ok (.iload 5, 2) := by decide +kernel
theorem dX9_power_7 : decode cX9_power 7 = .ok (.iload_n 2, 1) := by decide +kernel
theorem dX9_power_8 : decode cX9_power 8 = .ok (.if_icmp .ge 13, 3) := by decide +kernel
theorem dX9_power_11 : decode cX9_power 11 = .ok (.lload_n 3, 1) := by decide +kernel
theorem dX9_power_12 : decode cX9_power 12 = .ok (.lload_n 0, 1) := by decide +kernel
theorem dX9_power_13 : decode cX9_power 13 = .ok (.lmul, 1) := by decide +kernel
theorem dX9_power_14 : decode cX9_power 14 = .ok (.lstore_n 3, 1) := by decide +kernel
theorem dX9_power_15 : decode cX9_power 15 = .ok (.iinc 5 1, 3) := by decide +kernel
theorem dX9_power_18 : decode cX9_power 18 = .ok (.goto (-13), 3) := by decide +kernel
theorem dX9_power_21 : decode cX9_power 21 = .ok (.lload_n 3, 1) := by decide +kernel
theorem dX9_power_22 : decode cX9_power 22 = .ok (.lreturn, 1) := by decide +kernel
theorem dX9_layBest_0 : decode cX9_layBest 0 = .ok (.aload_n 0, 1) := by decide +kernel
theorem dX9_layBest_1 : decode cX9_layBest 1 = .ok (.invokevirtual 135, 3) := by decide +kernel
theorem dX9_layBest_4 : decode cX9_layBest 4 = .ok (.i2l, 1) := by decide +kernel
theorem dX9_layBest_5 : decode cX9_layBest 5 = .ok (.lstore_n 1, 1) := by decide +kernel
theorem dX9_layBest_6 : decode cX9_layBest 6 = .ok (.iconst 0, 1) := by decide +kernel
theorem dX9_layBest_7 : decode cX9_layBest 7 = .ok (.istore_n 3, 1) := by decide +kernel
theorem dX9_layBest_8 : decode cX9_layBest 8 = .ok (.iload_n 3, 1) := by decide +kernel
theorem dX9_layBest_9 : decode cX9_layBest 9 = .ok (.bipush 10, 2) := by decide +kernel
theorem dX9_layBest_11 : decode cX9_layBest 11 = .ok (.if_icmp .ge 19, 3) := by decide +kernel
theorem dX9_layBest_14 : decode cX9_layBest 14 = .ok (.aload_n 0, 1) := by decide +kernel
theorem dX9_layBest_15 : decode cX9_layBest 15 = .ok (.getfield 28, 3) := by decide +kernel
theorem dX9_layBest_18 : decode cX9_layBest 18 = .ok (.bipush 11, 2) := by decide +kernel
theorem dX9_layBest_20 : decode cX9_layBest 20 = .ok (.iload_n 3, 1) := by decide +kernel
theorem dX9_layBest_21 : decode cX9_layBest 21 = .ok (.imul, 1) := by decide +kernel
theorem dX9_layBest_22 : decode cX9_layBest 22 = .ok (.lconst 0, 1) := by decide +kernel
theorem dX9_layBest_23 : decode cX9_layBest 23 = .ok (.lastore, 1) := by decide +kernel
theorem dX9_layBest_24 : decode cX9_layBest 24 = .ok (.iinc 3 1, 3) := by decide +kernel
theorem dX9_layBest_27 : decode cX9_layBest 27 = .ok (.goto (-19), 3) := by decide +kernel
theorem dX9_layBest_30 : decode cX9_layBest 30 = .ok (.iconst 1, 1) := by decide +kernel
theorem dX9_layBest_31 : decode cX9_layBest 31 = .ok (.istore_n 3, 1) := by decide +kernel
theorem dX9_layBest_32 : decode cX9_layBest 32 = .ok (.iload_n 3, 1) := by decide +kernel
theorem dX9_layBest_33 : decode cX9_layBest 33 = .ok (.bipush 9, 2) := by decide +kernel
theorem dX9_layBest_35 : decode cX9_layBest 35 = .ok (.if_icmp .ge 144, 3) := by decide +kernel
theorem dX9_layBest_38 : decode cX9_layBest 38 = .ok (.iconst 0, 1) := by decide +kernel
theorem dX9_layBest_39 : decode cX9_layBest 39 = .ok (.istore 4, 2) := by decide +kernel
theorem dX9_layBest_41 : decode cX9_layBest 41 = .ok (.iload 4, 2) := by decide +kernel
theorem dX9_layBest_43 : decode cX9_layBest 43 = .ok (.bipush 10, 2) := by decide +kernel
theorem dX9_layBest_45 : decode cX9_layBest 45 = .ok (.if_icmp .ge 128, 3) := by decide +kernel
theorem dX9_layBest_48 : decode cX9_layBest 48 = .ok (.lconst 0, 1) := by decide +kernel
theorem dX9_layBest_49 : decode cX9_layBest 49 = .ok (.lstore 5, 2) := by decide +kernel
theorem dX9_layBest_51 : decode cX9_layBest 51 = .ok (.iconst 1, 1) := by decide +kernel
theorem dX9_layBest_52 : decode cX9_layBest 52 = .ok (.istore 7, 2) := by decide +kernel
theorem dX9_layBest_54 : decode cX9_layBest 54 = .ok (.iload 7, 2) := by decide +kernel
theorem dX9_layBest_56 : decode cX9_layBest 56 = .ok (.bipush 10, 2) := by decide +kernel
theorem dX9_layBest_58 : decode cX9_layBest 58 = .ok (.if_icmp .ge 95, 3) := by decide +kernel
theorem dX9_layBest_61 : decode cX9_layBest 61 = .ok (.iload 4, 2) := by decide +kernel
theorem dX9_layBest_63 : decode cX9_layBest 63 = .ok (.ifCond .ne 9, 3) := by decide +kernel
theorem dX9_layBest_66 : decode cX9_layBest 66 = .ok (.ldc2_w 138, 3) := by decide +kernel
theorem dX9_layBest_69 : decode cX9_layBest 69 = .ok (.goto 31, 3) := by decide +kernel
theorem dX9_layBest_72 : decode cX9_layBest 72 = .ok (.iload 7, 2) := by decide +kernel
theorem dX9_layBest_74 : decode cX9_layBest 74 = .ok (.i2l, 1) := by decide +kernel
theorem dX9_layBest_75 : decode cX9_layBest 75 = .ok (.lload_n 1, 1) := by decide +kernel
theorem dX9_layBest_76 : decode cX9_layBest 76 = .ok (.iload_n 3, 1) := by decide +kernel
theorem dX9_layBest_77 : decode cX9_layBest 77 = .ok (.iconst 1, 1) := by decide +kernel
theorem dX9_layBest_78 : decode cX9_layBest 78 = .ok (.isub, 1) := by decide +kernel
theorem dX9_layBest_79 : decode cX9_layBest 79 = .ok (.invokestatic 140, 3) := by decide +kernel
theorem dX9_layBest_82 : decode cX9_layBest 82 = .ok (.lmul, 1) := by decide +kernel
theorem dX9_layBest_83 : decode cX9_layBest 83 = .ok (.aload_n 0, 1) := by decide +kernel
theorem dX9_layBest_84 : decode cX9_layBest 84 = .ok (.getfield 28, 3) := by decide +kernel
theorem dX9_layBest_87 : decode cX9_layBest 87 = .ok (.bipush 11, 2) := by decide +kernel
theorem dX9_layBest_89 : decode cX9_layBest 89 = .ok (.iload 4, 2) := by decide +kernel
theorem dX9_layBest_91 : decode cX9_layBest 91 = .ok (.iconst 1, 1) := by decide +kernel
theorem dX9_layBest_92 : decode cX9_layBest 92 = .ok (.isub, 1) := by decide +kernel
theorem dX9_layBest_93 : decode cX9_layBest 93 = .ok (.imul, 1) := by decide +kernel
theorem dX9_layBest_94 : decode cX9_layBest 94 = .ok (.iload_n 3, 1) := by decide +kernel
theorem dX9_layBest_95 : decode cX9_layBest 95 = .ok (.iadd, 1) := by decide +kernel
theorem dX9_layBest_96 : decode cX9_layBest 96 = .ok (.iconst 1, 1) := by decide +kernel
theorem dX9_layBest_97 : decode cX9_layBest 97 = .ok (.isub, 1) := by decide +kernel
theorem dX9_layBest_98 : decode cX9_layBest 98 = .ok (.laload, 1) := by decide +kernel
theorem dX9_layBest_99 : decode cX9_layBest 99 = .ok (.ladd, 1) := by decide +kernel
theorem dX9_layBest_100 : decode cX9_layBest 100 = .ok (.lstore 8, 2) := by decide +kernel
theorem dX9_layBest_102 : decode cX9_layBest 102 = .ok (.aload_n 0, 1) := by decide +kernel
theorem dX9_layBest_103 : decode cX9_layBest 103 = .ok (.getfield 28, 3) := by decide +kernel
theorem dX9_layBest_106 : decode cX9_layBest 106 = .ok (.bipush 11, 2) := by decide +kernel
theorem dX9_layBest_108 : decode cX9_layBest 108 = .ok (.iload 4, 2) := by decide +kernel
theorem dX9_layBest_110 : decode cX9_layBest 110 = .ok (.imul, 1) := by decide +kernel
theorem dX9_layBest_111 : decode cX9_layBest 111 = .ok (.iload_n 3, 1) := by decide +kernel
theorem dX9_layBest_112 : decode cX9_layBest 112 = .ok (.iadd, 1) := by decide +kernel
theorem dX9_layBest_113 : decode cX9_layBest 113 = .ok (.iconst 1, 1) := by decide +kernel
theorem dX9_layBest_114 : decode cX9_layBest 114 = .ok (.isub, 1) := by decide +kernel
theorem dX9_layBest_115 : decode cX9_layBest 115 = .ok (.laload, 1) := by decide +kernel
theorem dX9_layBest_116 : decode cX9_layBest 116 = .ok (.lstore 10, 2) := by decide +kernel
theorem dX9_layBest_118 : decode cX9_layBest 118 = .ok (.lload 5, 2) := by decide +kernel
theorem dX9_layBest_120 : decode cX9_layBest 120 = .ok (.aload_n 0, 1) := by decide +kernel
theorem dX9_layBest_121 : decode cX9_layBest 121 = .ok (.getfield 19, 3) := by decide +kernel
theorem dX9_layBest_124 : decode cX9_layBest 124 = .ok (.iload 7, 2) := by decide +kernel
theorem dX9_layBest_126 : decode cX9_layBest 126 = .ok (.iaload, 1) := by decide +kernel
theorem dX9_layBest_127 : decode cX9_layBest 127 = .ok (.i2l, 1) := by decide +kernel
theorem dX9_layBest_128 : decode cX9_layBest 128 = .ok (.lload 8, 2) := by decide +kernel
theorem dX9_layBest_130 : decode cX9_layBest 130 = .ok (.lload 10, 2) := by decide +kernel
theorem dX9_layBest_132 : decode cX9_layBest 132 = .ok (.lcmp, 1) := by decide +kernel
theorem dX9_layBest_133 : decode cX9_layBest 133 = .ok (.ifCond .le 8, 3) := by decide +kernel
theorem dX9_layBest_136 : decode cX9_layBest 136 = .ok (.lload 8, 2) := by decide +kernel
theorem dX9_layBest_138 : decode cX9_layBest 138 = .ok (.goto 5, 3) := by decide +kernel
theorem dX9_layBest_141 : decode cX9_layBest 141 = .ok (.lload 10, 2) := by decide +kernel
theorem dX9_layBest_143 : decode cX9_layBest 143 = .ok (.lmul, 1) := by decide +kernel
theorem dX9_layBest_144 : decode cX9_layBest 144 = .ok (.ladd, 1) := by decide +kernel
theorem dX9_layBest_145 : decode cX9_layBest 145 = .ok (.lstore 5, 2) := by decide +kernel
theorem dX9_layBest_147 : decode cX9_layBest 147 = .ok (.iinc 7 1, 3) := by decide +kernel
theorem dX9_layBest_150 : decode cX9_layBest 150 = .ok (.goto (-96), 3) := by decide +kernel
theorem dX9_layBest_153 : decode cX9_layBest 153 = .ok (.aload_n 0, 1) := by decide +kernel
theorem dX9_layBest_154 : decode cX9_layBest 154 = .ok (.getfield 28, 3) := by decide +kernel
theorem dX9_layBest_157 : decode cX9_layBest 157 = .ok (.bipush 11, 2) := by decide +kernel
theorem dX9_layBest_159 : decode cX9_layBest 159 = .ok (.iload 4, 2) := by decide +kernel
theorem dX9_layBest_161 : decode cX9_layBest 161 = .ok (.imul, 1) := by decide +kernel
theorem dX9_layBest_162 : decode cX9_layBest 162 = .ok (.iload_n 3, 1) := by decide +kernel
theorem dX9_layBest_163 : decode cX9_layBest 163 = .ok (.iadd, 1) := by decide +kernel
theorem dX9_layBest_164 : decode cX9_layBest 164 = .ok (.lload 5, 2) := by decide +kernel
theorem dX9_layBest_166 : decode cX9_layBest 166 = .ok (.lastore, 1) := by decide +kernel
theorem dX9_layBest_167 : decode cX9_layBest 167 = .ok (.iinc 4 1, 3) := by decide +kernel
theorem dX9_layBest_170 : decode cX9_layBest 170 = .ok (.goto (-129), 3) := by decide +kernel
theorem dX9_layBest_173 : decode cX9_layBest 173 = .ok (.iinc 3 1, 3) := by decide +kernel
theorem dX9_layBest_176 : decode cX9_layBest 176 = .ok (.goto (-144), 3) := by decide +kernel
theorem dX9_layBest_179 : decode cX9_layBest 179 = .ok (.return_, 1) := by decide +kernel
theorem dX9_part_0 : decode cX9_part 0 = .ok (.lload_n 0, 1) := by decide +kernel
theorem dX9_part_1 : decode cX9_part 1 = .ok (.lstore 5, 2) := by decide +kernel
theorem dX9_part_3 : decode cX9_part 3 = .ok (.lload_n 2, 1) := by decide +kernel
theorem dX9_part_4 : decode cX9_part 4 = .ok (.lstore 7, 2) := by decide +kernel
theorem dX9_part_6 : decode cX9_part 6 = .ok (.lload 7, 2) := by decide +kernel
theorem dX9_part_8 : decode cX9_part 8 = .ok (.lconst 0, 1) := by decide +kernel
theorem dX9_part_9 : decode cX9_part 9 = .ok (.lcmp, 1) := by decide +kernel
theorem dX9_part_10 : decode cX9_part 10 = .ok (.ifCond .eq 21, 3) := by decide +kernel
theorem dX9_part_13 : decode cX9_part 13 = .ok (.lload 5, 2) := by decide +kernel
theorem dX9_part_15 : decode cX9_part 15 = .ok (.lload 7, 2) := by decide +kernel
theorem dX9_part_17 : decode cX9_part 17 = .ok (.lrem, 1) := by decide +kernel
theorem dX9_part_18 : decode cX9_part 18 = .ok (.lstore 9, 2) := by decide +kernel
theorem dX9_part_20 : decode cX9_part 20 = .ok (.lload 7, 2) := by decide +kernel
theorem dX9_part_22 : decode cX9_part 22 = .ok (.lstore 5, 2) := by decide +kernel
theorem dX9_part_24 : decode cX9_part 24 = .ok (.lload 9, 2) := by decide +kernel
theorem dX9_part_26 : decode cX9_part 26 = .ok (.lstore 7, 2) := by decide +kernel
theorem dX9_part_28 : decode cX9_part 28 = .ok (.goto (-22), 3) := by decide +kernel
theorem dX9_part_31 : decode cX9_part 31 = .ok (.iload 4, 2) := by decide +kernel
theorem dX9_part_33 : decode cX9_part 33 = .ok (.ifCond .ne 10, 3) := by decide +kernel
theorem dX9_part_36 : decode cX9_part 36 = .ok (.lload_n 0, 1) := by decide +kernel
theorem dX9_part_37 : decode cX9_part 37 = .ok (.lload 5, 2) := by decide +kernel
theorem dX9_part_39 : decode cX9_part 39 = .ok (.ldiv, 1) := by decide +kernel
theorem dX9_part_40 : decode cX9_part 40 = .ok (.goto 7, 3) := by decide +kernel
theorem dX9_part_43 : decode cX9_part 43 = .ok (.lload_n 2, 1) := by decide +kernel
theorem dX9_part_44 : decode cX9_part 44 = .ok (.lload 5, 2) := by decide +kernel
theorem dX9_part_46 : decode cX9_part 46 = .ok (.ldiv, 1) := by decide +kernel
theorem dX9_part_47 : decode cX9_part 47 = .ok (.lreturn, 1) := by decide +kernel
theorem dX9_best_0 : decode cX9_best 0 = .ok (.iload_n 1, 1) := by decide +kernel
theorem dX9_best_1 : decode cX9_best 1 = .ok (.iconst 0, 1) := by decide +kernel
theorem dX9_best_2 : decode cX9_best 2 = .ok (.bipush 9, 2) := by decide +kernel
theorem dX9_best_4 : decode cX9_best 4 = .ok (.invokestatic 48, 3) := by decide +kernel
theorem dX9_best_7 : decode cX9_best 7 = .ok (.ifCond .eq 22, 3) := by decide +kernel
theorem dX9_best_10 : decode cX9_best 10 = .ok (.iload_n 2, 1) := by decide +kernel
theorem dX9_best_11 : decode cX9_best 11 = .ok (.iconst 0, 1) := by decide +kernel
theorem dX9_best_12 : decode cX9_best 12 = .ok (.bipush 8, 2) := by decide +kernel
theorem dX9_best_14 : decode cX9_best 14 = .ok (.invokestatic 48, 3) := by decide +kernel
theorem dX9_best_17 : decode cX9_best 17 = .ok (.ifCond .eq 12, 3) := by decide +kernel
theorem dX9_best_20 : decode cX9_best 20 = .ok (.iload_n 3, 1) := by decide +kernel
theorem dX9_best_21 : decode cX9_best 21 = .ok (.iconst 0, 1) := by decide +kernel
theorem dX9_best_22 : decode cX9_best 22 = .ok (.iconst 1, 1) := by decide +kernel
theorem dX9_best_23 : decode cX9_best 23 = .ok (.invokestatic 48, 3) := by decide +kernel
theorem dX9_best_26 : decode cX9_best 26 = .ok (.ifCond .ne 7, 3) := by decide +kernel
theorem dX9_best_29 : decode cX9_best 29 = .ok (.ldc2_w 144, 3) := by decide +kernel
theorem dX9_best_32 : decode cX9_best 32 = .ok (.lreturn, 1) := by decide +kernel
theorem dX9_best_33 : decode cX9_best 33 = .ok (.aload_n 0, 1) := by decide +kernel
theorem dX9_best_34 : decode cX9_best 34 = .ok (.invokevirtual 146, 3) := by decide +kernel
theorem dX9_best_37 : decode cX9_best 37 = .ok (.aload_n 0, 1) := by decide +kernel
theorem dX9_best_38 : decode cX9_best 38 = .ok (.getfield 28, 3) := by decide +kernel
theorem dX9_best_41 : decode cX9_best 41 = .ok (.bipush 11, 2) := by decide +kernel
theorem dX9_best_43 : decode cX9_best 43 = .ok (.iload_n 1, 1) := by decide +kernel
theorem dX9_best_44 : decode cX9_best 44 = .ok (.imul, 1) := by decide +kernel
theorem dX9_best_45 : decode cX9_best 45 = .ok (.iload_n 2, 1) := by decide +kernel
theorem dX9_best_46 : decode cX9_best 46 = .ok (.iadd, 1) := by decide +kernel
theorem dX9_best_47 : decode cX9_best 47 = .ok (.laload, 1) := by decide +kernel
theorem dX9_best_48 : decode cX9_best 48 = .ok (.aload_n 0, 1) := by decide +kernel
theorem dX9_best_49 : decode cX9_best 49 = .ok (.invokevirtual 135, 3) := by decide +kernel
theorem dX9_best_52 : decode cX9_best 52 = .ok (.i2l, 1) := by decide +kernel
theorem dX9_best_53 : decode cX9_best 53 = .ok (.iload_n 2, 1) := by decide +kernel
theorem dX9_best_54 : decode cX9_best 54 = .ok (.invokestatic 140, 3) := by decide +kernel
theorem dX9_best_57 : decode cX9_best 57 = .ok (.iload_n 3, 1) := by decide +kernel
theorem dX9_best_58 : decode cX9_best 58 = .ok (.invokestatic 149, 3) := by decide +kernel
theorem dX9_best_61 : decode cX9_best 61 = .ok (.lreturn, 1) := by decide +kernel
end
section
theorem dX9_leastOf_0 : decode cX9_leastOf 0 = .ok (.iload_n 1, 1) := by decide +kernel
theorem dX9_leastOf_1 : decode cX9_leastOf 1 = .ok (.ifCond .eq 7, 3) := by decide +kernel
theorem dX9_leastOf_4 : decode cX9_leastOf 4 = .ok (.iload_n 2, 1) := by decide +kernel
theorem dX9_leastOf_5 : decode cX9_leastOf 5 = .ok (.ifCond .ne 6, 3) := by decide +kernel
theorem dX9_leastOf_8 : decode cX9_leastOf 8 = .ok (.bipush (-6), 2) := by decide +kernel
theorem dX9_leastOf_10 : decode cX9_leastOf 10 = .ok (.ireturn, 1) := by decide +kernel
theorem dX9_leastOf_11 : decode cX9_leastOf 11 = .ok (.aload_n 0, 1) := by decide +kernel
theorem dX9_leastOf_12 : decode cX9_leastOf 12 = .ok (.invokevirtual 135, 3) := by decide +kernel
theorem dX9_leastOf_15 : decode cX9_leastOf 15 = .ok (.i2l, 1) := by decide +kernel
theorem dX9_leastOf_16 : decode cX9_leastOf 16 = .ok (.iload_n 2, 1) := by decide +kernel
theorem dX9_leastOf_17 : decode cX9_leastOf 17 = .ok (.iconst 1, 1) := by decide +kernel
theorem dX9_leastOf_18 : decode cX9_leastOf 18 = .ok (.isub, 1) := by decide +kernel
theorem dX9_leastOf_19 : decode cX9_leastOf 19 = .ok (.invokestatic 140, 3) := by decide +kernel
theorem dX9_leastOf_22 : decode cX9_leastOf 22 = .ok (.lstore_n 3, 1) := by decide +kernel
theorem dX9_leastOf_23 : decode cX9_leastOf 23 = .ok (.iconst 1, 1) := by decide +kernel
theorem dX9_leastOf_24 : decode cX9_leastOf 24 = .ok (.istore 5, 2) := by decide +kernel
theorem dX9_leastOf_26 : decode cX9_leastOf 26 = .ok (.iload 5, 2) := by decide +kernel
theorem dX9_leastOf_28 : decode cX9_leastOf 28 = .ok (.bipush 10, 2) := by decide +kernel
theorem dX9_leastOf_30 : decode cX9_leastOf 30 = .ok (.if_icmp .ge 50, 3) := by decide +kernel
theorem dX9_leastOf_33 : decode cX9_leastOf 33 = .ok (.iload 5, 2) := by decide +kernel
theorem dX9_leastOf_35 : decode cX9_leastOf 35 = .ok (.i2l, 1) := by decide +kernel
theorem dX9_leastOf_36 : decode cX9_leastOf 36 = .ok (.lload_n 3, 1) := by decide +kernel
theorem dX9_leastOf_37 : decode cX9_leastOf 37 = .ok (.lmul, 1) := by decide +kernel
theorem dX9_leastOf_38 : decode cX9_leastOf 38 = .ok (.aload_n 0, 1) := by decide +kernel
theorem dX9_leastOf_39 : decode cX9_leastOf 39 = .ok (.getfield 28, 3) := by decide +kernel
theorem dX9_leastOf_42 : decode cX9_leastOf 42 = .ok (.bipush 11, 2) := by decide +kernel
theorem dX9_leastOf_44 : decode cX9_leastOf 44 = .ok (.iload_n 1, 1) := by decide +kernel
theorem dX9_leastOf_45 : decode cX9_leastOf 45 = .ok (.iconst 1, 1) := by decide +kernel
theorem dX9_leastOf_46 : decode cX9_leastOf 46 = .ok (.isub, 1) := by decide +kernel
theorem dX9_leastOf_47 : decode cX9_leastOf 47 = .ok (.imul, 1) := by decide +kernel
theorem dX9_leastOf_48 : decode cX9_leastOf 48 = .ok (.iload_n 2, 1) := by decide +kernel
theorem dX9_leastOf_49 : decode cX9_leastOf 49 = .ok (.iadd, 1) := by decide +kernel
theorem dX9_leastOf_50 : decode cX9_leastOf 50 = .ok (.iconst 1, 1) := by decide +kernel
theorem dX9_leastOf_51 : decode cX9_leastOf 51 = .ok (.isub, 1) := by decide +kernel
theorem dX9_leastOf_52 : decode cX9_leastOf 52 = .ok (.laload, 1) := by decide +kernel
theorem dX9_leastOf_53 : decode cX9_leastOf 53 = .ok (.ladd, 1) := by decide +kernel
theorem dX9_leastOf_54 : decode cX9_leastOf 54 = .ok (.aload_n 0, 1) := by decide +kernel
theorem dX9_leastOf_55 : decode cX9_leastOf 55 = .ok (.getfield 28, 3) := by decide +kernel
theorem dX9_leastOf_58 : decode cX9_leastOf 58 = .ok (.bipush 11, 2) := by decide +kernel
theorem dX9_leastOf_60 : decode cX9_leastOf 60 = .ok (.iload_n 1, 1) := by decide +kernel
theorem dX9_leastOf_61 : decode cX9_leastOf 61 = .ok (.imul, 1) := by decide +kernel
theorem dX9_leastOf_62 : decode cX9_leastOf 62 = .ok (.iload_n 2, 1) := by decide +kernel
theorem dX9_leastOf_63 : decode cX9_leastOf 63 = .ok (.iadd, 1) := by decide +kernel
theorem dX9_leastOf_64 : decode cX9_leastOf 64 = .ok (.iconst 1, 1) := by decide +kernel
theorem dX9_leastOf_65 : decode cX9_leastOf 65 = .ok (.isub, 1) := by decide +kernel
theorem dX9_leastOf_66 : decode cX9_leastOf 66 = .ok (.laload, 1) := by decide +kernel
theorem dX9_leastOf_67 : decode cX9_leastOf 67 = .ok (.lcmp, 1) := by decide +kernel
theorem dX9_leastOf_68 : decode cX9_leastOf 68 = .ok (.ifCond .lt 6, 3) := by decide +kernel
theorem dX9_leastOf_71 : decode cX9_leastOf 71 = .ok (.iload 5, 2) := by decide +kernel
theorem dX9_leastOf_73 : decode cX9_leastOf 73 = .ok (.ireturn, 1) := by decide +kernel
theorem dX9_leastOf_74 : decode cX9_leastOf 74 = .ok (.iinc 5 1, 3) := by decide +kernel
theorem dX9_leastOf_77 : decode cX9_leastOf 77 = .ok (.goto (-51), 3) := by decide +kernel
theorem dX9_leastOf_80 : decode cX9_leastOf 80 = .ok (.bipush (-6), 2) := by decide +kernel
theorem dX9_leastOf_82 : decode cX9_leastOf 82 = .ok (.ireturn, 1) := by decide +kernel
theorem dX9_least_0 : decode cX9_least 0 = .ok (.iload_n 1, 1) := by decide +kernel
theorem dX9_least_1 : decode cX9_least 1 = .ok (.iconst 0, 1) := by decide +kernel
theorem dX9_least_2 : decode cX9_least 2 = .ok (.bipush 9, 2) := by decide +kernel
theorem dX9_least_4 : decode cX9_least 4 = .ok (.invokestatic 48, 3) := by decide +kernel
theorem dX9_least_7 : decode cX9_least 7 = .ok (.ifCond .eq 13, 3) := by decide +kernel
theorem dX9_least_10 : decode cX9_least 10 = .ok (.iload_n 2, 1) := by decide +kernel
theorem dX9_least_11 : decode cX9_least 11 = .ok (.iconst 0, 1) := by decide +kernel
theorem dX9_least_12 : decode cX9_least 12 = .ok (.bipush 8, 2) := by decide +kernel
theorem dX9_least_14 : decode cX9_least 14 = .ok (.invokestatic 48, 3) := by decide +kernel
theorem dX9_least_17 : decode cX9_least 17 = .ok (.ifCond .ne 6, 3) := by decide +kernel
theorem dX9_least_20 : decode cX9_least 20 = .ok (.bipush (-2), 2) := by decide +kernel
theorem dX9_least_22 : decode cX9_least 22 = .ok (.ireturn, 1) := by decide +kernel
theorem dX9_least_23 : decode cX9_least 23 = .ok (.aload_n 0, 1) := by decide +kernel
theorem dX9_least_24 : decode cX9_least 24 = .ok (.invokevirtual 146, 3) := by decide +kernel
theorem dX9_least_27 : decode cX9_least 27 = .ok (.aload_n 0, 1) := by decide +kernel
theorem dX9_least_28 : decode cX9_least 28 = .ok (.iload_n 1, 1) := by decide +kernel
theorem dX9_least_29 : decode cX9_least 29 = .ok (.iload_n 2, 1) := by decide +kernel
theorem dX9_least_30 : decode cX9_least 30 = .ok (.invokevirtual 153, 3) := by decide +kernel
theorem dX9_least_33 : decode cX9_least 33 = .ok (.ireturn, 1) := by decide +kernel
theorem dX9_price_0 : decode cX9_price 0 = .ok (.iload_n 1, 1) := by decide +kernel
theorem dX9_price_1 : decode cX9_price 1 = .ok (.iconst 0, 1) := by decide +kernel
theorem dX9_price_2 : decode cX9_price 2 = .ok (.bipush 8, 2) := by decide +kernel
theorem dX9_price_4 : decode cX9_price 4 = .ok (.invokestatic 48, 3) := by decide +kernel
theorem dX9_price_7 : decode cX9_price 7 = .ok (.ifCond .eq 22, 3) := by decide +kernel
theorem dX9_price_10 : decode cX9_price 10 = .ok (.iload_n 2, 1) := by decide +kernel
theorem dX9_price_11 : decode cX9_price 11 = .ok (.iconst 0, 1) := by decide +kernel
theorem dX9_price_12 : decode cX9_price 12 = .ok (.bipush 8, 2) := by decide +kernel
theorem dX9_price_14 : decode cX9_price 14 = .ok (.invokestatic 48, 3) := by decide +kernel
theorem dX9_price_17 : decode cX9_price 17 = .ok (.ifCond .eq 12, 3) := by decide +kernel
theorem dX9_price_20 : decode cX9_price 20 = .ok (.iload_n 3, 1) := by decide +kernel
theorem dX9_price_21 : decode cX9_price 21 = .ok (.iconst 0, 1) := by decide +kernel
theorem dX9_price_22 : decode cX9_price 22 = .ok (.iconst 1, 1) := by decide +kernel
theorem dX9_price_23 : decode cX9_price 23 = .ok (.invokestatic 48, 3) := by decide +kernel
theorem dX9_price_26 : decode cX9_price 26 = .ok (.ifCond .ne 7, 3) := by decide +kernel
theorem dX9_price_29 : decode cX9_price 29 = .ok (.ldc2_w 144, 3) := by decide +kernel
theorem dX9_price_32 : decode cX9_price 32 = .ok (.lreturn, 1) := by decide +kernel
theorem dX9_price_33 : decode cX9_price 33 = .ok (.aload_n 0, 1) := by decide +kernel
theorem dX9_price_34 : decode cX9_price 34 = .ok (.invokevirtual 146, 3) := by decide +kernel
theorem dX9_price_37 : decode cX9_price 37 = .ok (.aload_n 0, 1) := by decide +kernel
theorem dX9_price_38 : decode cX9_price 38 = .ok (.getfield 28, 3) := by decide +kernel
theorem dX9_price_41 : decode cX9_price 41 = .ok (.bipush 11, 2) := by decide +kernel
theorem dX9_price_43 : decode cX9_price 43 = .ok (.iload_n 1, 1) := by decide +kernel
theorem dX9_price_44 : decode cX9_price 44 = .ok (.iconst 1, 1) := by decide +kernel
theorem dX9_price_45 : decode cX9_price 45 = .ok (.iadd, 1) := by decide +kernel
theorem dX9_price_46 : decode cX9_price 46 = .ok (.imul, 1) := by decide +kernel
theorem dX9_price_47 : decode cX9_price 47 = .ok (.iload_n 2, 1) := by decide +kernel
theorem dX9_price_48 : decode cX9_price 48 = .ok (.iadd, 1) := by decide +kernel
theorem dX9_price_49 : decode cX9_price 49 = .ok (.laload, 1) := by decide +kernel
theorem dX9_price_50 : decode cX9_price 50 = .ok (.aload_n 0, 1) := by decide +kernel
theorem dX9_price_51 : decode cX9_price 51 = .ok (.getfield 28, 3) := by decide +kernel
theorem dX9_price_54 : decode cX9_price 54 = .ok (.bipush 11, 2) := by decide +kernel
theorem dX9_price_56 : decode cX9_price 56 = .ok (.iload_n 1, 1) := by decide +kernel
theorem dX9_price_57 : decode cX9_price 57 = .ok (.imul, 1) := by decide +kernel
theorem dX9_price_58 : decode cX9_price 58 = .ok (.iload_n 2, 1) := by decide +kernel
theorem dX9_price_59 : decode cX9_price 59 = .ok (.iadd, 1) := by decide +kernel
theorem dX9_price_60 : decode cX9_price 60 = .ok (.laload, 1) := by decide +kernel
theorem dX9_price_61 : decode cX9_price 61 = .ok (.lsub, 1) := by decide +kernel
theorem dX9_price_62 : decode cX9_price 62 = .ok (.aload_n 0, 1) := by decide +kernel
theorem dX9_price_63 : decode cX9_price 63 = .ok (.invokevirtual 135, 3) := by decide +kernel
theorem dX9_price_66 : decode cX9_price 66 = .ok (.i2l, 1) := by decide +kernel
theorem dX9_price_67 : decode cX9_price 67 = .ok (.iload_n 2, 1) := by decide +kernel
theorem dX9_price_68 : decode cX9_price 68 = .ok (.invokestatic 140, 3) := by decide +kernel
theorem dX9_price_71 : decode cX9_price 71 = .ok (.iload_n 3, 1) := by decide +kernel
theorem dX9_price_72 : decode cX9_price 72 = .ok (.invokestatic 149, 3) := by decide +kernel
theorem dX9_price_75 : decode cX9_price 75 = .ok (.lreturn, 1) := by decide +kernel
theorem dX9_choices_0 : decode cX9_choices 0 = .ok (.lconst 1, 1) := by decide +kernel
theorem dX9_choices_1 : decode cX9_choices 1 = .ok (.lstore_n 2, 1) := by decide +kernel
theorem dX9_choices_2 : decode cX9_choices 2 = .ok (.iconst 1, 1) := by decide +kernel
theorem dX9_choices_3 : decode cX9_choices 3 = .ok (.istore 4, 2) := by decide +kernel
theorem dX9_choices_5 : decode cX9_choices 5 = .ok (.iload 4, 2) := by decide +kernel
theorem dX9_choices_7 : decode cX9_choices 7 = .ok (.iload_n 1, 1) := by decide +kernel
theorem dX9_choices_8 : decode cX9_choices 8 = .ok (.if_icmp .gt 23, 3) := by decide +kernel
theorem dX9_choices_11 : decode cX9_choices 11 = .ok (.lload_n 2, 1) := by decide +kernel
theorem dX9_choices_12 : decode cX9_choices 12 = .ok (.iload_n 0, 1) := by decide +kernel
theorem dX9_choices_13 : decode cX9_choices 13 = .ok (.iload_n 1, 1) := by decide +kernel
theorem dX9_choices_14 : decode cX9_choices 14 = .ok (.isub, 1) := by decide +kernel
theorem dX9_choices_15 : decode cX9_choices 15 = .ok (.iload 4, 2) := by decide +kernel
theorem dX9_choices_17 : decode cX9_choices 17 = .ok (.iadd, 1) := by decide +kernel
theorem dX9_choices_18 : decode cX9_choices 18 = .ok (.i2l, 1) := by decide +kernel
theorem dX9_choices_19 : decode cX9_choices 19 = .ok (.lmul, 1) := by decide +kernel
theorem dX9_choices_20 : decode cX9_choices 20 = .ok (.iload 4, 2) := by decide +kernel
theorem dX9_choices_22 : decode cX9_choices 22 = .ok (.i2l, 1) := by decide +kernel
theorem dX9_choices_23 : decode cX9_choices 23 = .ok (.ldiv, 1) := by decide +kernel
theorem dX9_choices_24 : decode cX9_choices 24 = .ok (.lstore_n 2, 1) := by decide +kernel
theorem dX9_choices_25 : decode cX9_choices 25 = .ok (.iinc 4 1, 3) := by decide +kernel
theorem dX9_choices_28 : decode cX9_choices 28 = .ok (.goto (-23), 3) := by decide +kernel
theorem dX9_choices_31 : decode cX9_choices 31 = .ok (.lload_n 2, 1) := by decide +kernel
theorem dX9_choices_32 : decode cX9_choices 32 = .ok (.lreturn, 1) := by decide +kernel
theorem dX9_atMost_0 : decode cX9_atMost 0 = .ok (.lconst 0, 1) := by decide +kernel
theorem dX9_atMost_1 : decode cX9_atMost 1 = .ok (.lstore_n 3, 1) := by decide +kernel
theorem dX9_atMost_2 : decode cX9_atMost 2 = .ok (.iconst 0, 1) := by decide +kernel
theorem dX9_atMost_3 : decode cX9_atMost 3 = .ok (.istore 5, 2) := by decide +kernel
theorem dX9_atMost_5 : decode cX9_atMost 5 = .ok (.iload 5, 2) := by decide +kernel
theorem dX9_atMost_7 : decode cX9_atMost 7 = .ok (.iload_n 0, 1) := by decide +kernel
theorem dX9_atMost_8 : decode cX9_atMost 8 = .ok (.if_icmp .gt 46, 3) := by decide +kernel
theorem dX9_atMost_11 : decode cX9_atMost 11 = .ok (.iload 5, 2) := by decide +kernel
theorem dX9_atMost_13 : decode cX9_atMost 13 = .ok (.iload_n 1, 1) := by decide +kernel
theorem dX9_atMost_14 : decode cX9_atMost 14 = .ok (.if_icmp .gt 40, 3) := by decide +kernel
theorem dX9_atMost_17 : decode cX9_atMost 17 = .ok (.lload_n 3, 1) := by decide +kernel
theorem dX9_atMost_18 : decode cX9_atMost 18 = .ok (.iload_n 0, 1) := by decide +kernel
theorem dX9_atMost_19 : decode cX9_atMost 19 = .ok (.iload 5, 2) := by decide +kernel
theorem dX9_atMost_21 : decode cX9_atMost 21 = .ok (.invokestatic 156, 3) := by decide +kernel
theorem dX9_atMost_24 : decode cX9_atMost 24 = .ok (.iload_n 2, 1) := by decide +kernel
theorem dX9_atMost_25 : decode cX9_atMost 25 = .ok (.i2l, 1) := by decide +kernel
theorem dX9_atMost_26 : decode cX9_atMost 26 = .ok (.iload 5, 2) := by decide +kernel
theorem dX9_atMost_28 : decode cX9_atMost 28 = .ok (.invokestatic 140, 3) := by decide +kernel
theorem dX9_atMost_31 : decode cX9_atMost 31 = .ok (.lmul, 1) := by decide +kernel
theorem dX9_atMost_32 : decode cX9_atMost 32 = .ok (.ldc2_w 160, 3) := by decide +kernel
theorem dX9_atMost_35 : decode cX9_atMost 35 = .ok (.iload_n 2, 1) := by decide +kernel
theorem dX9_atMost_36 : decode cX9_atMost 36 = .ok (.i2l, 1) := by decide +kernel
theorem dX9_atMost_37 : decode cX9_atMost 37 = .ok (.lsub, 1) := by decide +kernel
theorem dX9_atMost_38 : decode cX9_atMost 38 = .ok (.iload_n 0, 1) := by decide +kernel
theorem dX9_atMost_39 : decode cX9_atMost 39 = .ok (.iload 5, 2) := by decide +kernel
theorem dX9_atMost_41 : decode cX9_atMost 41 = .ok (.isub, 1) := by decide +kernel
theorem dX9_atMost_42 : decode cX9_atMost 42 = .ok (.invokestatic 140, 3) := by decide +kernel
theorem dX9_atMost_45 : decode cX9_atMost 45 = .ok (.lmul, 1) := by decide +kernel
theorem dX9_atMost_46 : decode cX9_atMost 46 = .ok (.ladd, 1) := by decide +kernel
theorem dX9_atMost_47 : decode cX9_atMost 47 = .ok (.lstore_n 3, 1) := by decide +kernel
theorem dX9_atMost_48 : decode cX9_atMost 48 = .ok (.iinc 5 1, 3) := by decide +kernel
theorem dX9_atMost_51 : decode cX9_atMost 51 = .ok (.goto (-46), 3) := by decide +kernel
theorem dX9_atMost_54 : decode cX9_atMost 54 = .ok (.lload_n 3, 1) := by decide +kernel
theorem dX9_atMost_55 : decode cX9_atMost 55 = .ok (.lreturn, 1) := by decide +kernel
theorem dX9_last_0 : decode cX9_last 0 = .ok (.iload_n 1, 1) := by decide +kernel
theorem dX9_last_1 : decode cX9_last 1 = .ok (.iconst 0, 1) := by decide +kernel
theorem dX9_last_2 : decode cX9_last 2 = .ok (.sipush 400, 3) := by decide +kernel
theorem dX9_last_5 : decode cX9_last 5 = .ok (.invokestatic 48, 3) := by decide +kernel
theorem dX9_last_8 : decode cX9_last 8 = .ok (.ifCond .eq 33, 3) := by decide +kernel
theorem dX9_last_11 : decode cX9_last 11 = .ok (.iload_n 2, 1) := by decide +kernel
theorem dX9_last_12 : decode cX9_last 12 = .ok (.iconst 0, 1) := by decide +kernel
theorem dX9_last_13 : decode cX9_last 13 = .ok (.bipush 9, 2) := by decide +kernel
theorem dX9_last_15 : decode cX9_last 15 = .ok (.invokestatic 48, 3) := by decide +kernel
theorem dX9_last_18 : decode cX9_last 18 = .ok (.ifCond .eq 23, 3) := by decide +kernel
theorem dX9_last_21 : decode cX9_last 21 = .ok (.iload_n 3, 1) := by decide +kernel
theorem dX9_last_22 : decode cX9_last 22 = .ok (.iconst 0, 1) := by decide +kernel
theorem dX9_last_23 : decode cX9_last 23 = .ok (.bipush 10, 2) := by decide +kernel
theorem dX9_last_25 : decode cX9_last 25 = .ok (.invokestatic 48, 3) := by decide +kernel
theorem dX9_last_28 : decode cX9_last 28 = .ok (.ifCond .eq 13, 3) := by decide +kernel
theorem dX9_last_31 : decode cX9_last 31 = .ok (.iload 4, 2) := by decide +kernel
theorem dX9_last_33 : decode cX9_last 33 = .ok (.iconst 0, 1) := by decide +kernel
theorem dX9_last_34 : decode cX9_last 34 = .ok (.iconst 1, 1) := by decide +kernel
theorem dX9_last_35 : decode cX9_last 35 = .ok (.invokestatic 48, 3) := by decide +kernel
theorem dX9_last_38 : decode cX9_last 38 = .ok (.ifCond .ne 7, 3) := by decide +kernel
theorem dX9_last_41 : decode cX9_last 41 = .ok (.ldc2_w 144, 3) := by decide +kernel
theorem dX9_last_44 : decode cX9_last 44 = .ok (.lreturn, 1) := by decide +kernel
theorem dX9_last_45 : decode cX9_last 45 = .ok (.iload_n 2, 1) := by decide +kernel
theorem dX9_last_46 : decode cX9_last 46 = .ok (.iload_n 1, 1) := by decide +kernel
theorem dX9_last_47 : decode cX9_last 47 = .ok (.iload_n 3, 1) := by decide +kernel
theorem dX9_last_48 : decode cX9_last 48 = .ok (.invokestatic 162, 3) := by decide +kernel
theorem dX9_last_51 : decode cX9_last 51 = .ok (.ldc2_w 160, 3) := by decide +kernel
theorem dX9_last_54 : decode cX9_last 54 = .ok (.iload_n 2, 1) := by decide +kernel
theorem dX9_last_55 : decode cX9_last 55 = .ok (.invokestatic 140, 3) := by decide +kernel
theorem dX9_last_58 : decode cX9_last 58 = .ok (.iload 4, 2) := by decide +kernel
theorem dX9_last_60 : decode cX9_last 60 = .ok (.invokestatic 149, 3) := by decide +kernel
theorem dX9_last_63 : decode cX9_last 63 = .ok (.lreturn, 1) := by decide +kernel
theorem dX9_netOf_0 : decode cX9_netOf 0 = .ok (.iconst 0, 1) := by decide +kernel
theorem dX9_netOf_1 : decode cX9_netOf 1 = .ok (.istore_n 2, 1) := by decide +kernel
theorem dX9_netOf_2 : decode cX9_netOf 2 = .ok (.iconst 0, 1) := by decide +kernel
theorem dX9_netOf_3 : decode cX9_netOf 3 = .ok (.istore_n 3, 1) := by decide +kernel
theorem dX9_netOf_4 : decode cX9_netOf 4 = .ok (.iload_n 3, 1) := by decide +kernel
theorem dX9_netOf_5 : decode cX9_netOf 5 = .ok (.bipush 6, 2) := by decide +kernel
theorem dX9_netOf_7 : decode cX9_netOf 7 = .ok (.if_icmp .ge 41, 3) := by decide +kernel
theorem dX9_netOf_10 : decode cX9_netOf 10 = .ok (.iload_n 2, 1) := by decide +kernel
theorem dX9_netOf_11 : decode cX9_netOf 11 = .ok (.aload_n 0, 1) := by decide +kernel
theorem dX9_netOf_12 : decode cX9_netOf 12 = .ok (.getfield 7, 3) := by decide +kernel
theorem dX9_netOf_15 : decode cX9_netOf 15 = .ok (.bipush 20, 2) := by decide +kernel
theorem dX9_netOf_17 : decode cX9_netOf 17 = .ok (.bipush 6, 2) := by decide +kernel
theorem dX9_netOf_19 : decode cX9_netOf 19 = .ok (.iload_n 3, 1) := by decide +kernel
theorem dX9_netOf_20 : decode cX9_netOf 20 = .ok (.imul, 1) := by decide +kernel
theorem dX9_netOf_21 : decode cX9_netOf 21 = .ok (.iadd, 1) := by decide +kernel
theorem dX9_netOf_22 : decode cX9_netOf 22 = .ok (.iload_n 1, 1) := by decide +kernel
theorem dX9_netOf_23 : decode cX9_netOf 23 = .ok (.iadd, 1) := by decide +kernel
theorem dX9_netOf_24 : decode cX9_netOf 24 = .ok (.iaload, 1) := by decide +kernel
theorem dX9_netOf_25 : decode cX9_netOf 25 = .ok (.aload_n 0, 1) := by decide +kernel
theorem dX9_netOf_26 : decode cX9_netOf 26 = .ok (.getfield 7, 3) := by decide +kernel
theorem dX9_netOf_29 : decode cX9_netOf 29 = .ok (.bipush 20, 2) := by decide +kernel
theorem dX9_netOf_31 : decode cX9_netOf 31 = .ok (.bipush 6, 2) := by decide +kernel
theorem dX9_netOf_33 : decode cX9_netOf 33 = .ok (.iload_n 1, 1) := by decide +kernel
theorem dX9_netOf_34 : decode cX9_netOf 34 = .ok (.imul, 1) := by decide +kernel
theorem dX9_netOf_35 : decode cX9_netOf 35 = .ok (.iadd, 1) := by decide +kernel
theorem dX9_netOf_36 : decode cX9_netOf 36 = .ok (.iload_n 3, 1) := by decide +kernel
theorem dX9_netOf_37 : decode cX9_netOf 37 = .ok (.iadd, 1) := by decide +kernel
theorem dX9_netOf_38 : decode cX9_netOf 38 = .ok (.iaload, 1) := by decide +kernel
theorem dX9_netOf_39 : decode cX9_netOf 39 = .ok (.isub, 1) := by decide +kernel
theorem dX9_netOf_40 : decode cX9_netOf 40 = .ok (.iadd, 1) := by decide +kernel
theorem dX9_netOf_41 : decode cX9_netOf 41 = .ok (.istore_n 2, 1) := by decide +kernel
theorem dX9_netOf_42 : decode cX9_netOf 42 = .ok (.iinc 3 1, 3) := by decide +kernel
theorem dX9_netOf_45 : decode cX9_netOf 45 = .ok (.goto (-41), 3) := by decide +kernel
theorem dX9_netOf_48 : decode cX9_netOf 48 = .ok (.iload_n 2, 1) := by decide +kernel
theorem dX9_netOf_49 : decode cX9_netOf 49 = .ok (.ireturn, 1) := by decide +kernel
theorem dX9_netted_0 : decode cX9_netted 0 = .ok (.aload_n 0, 1) := by decide +kernel
theorem dX9_netted_1 : decode cX9_netted 1 = .ok (.iload_n 1, 1) := by decide +kernel
theorem dX9_netted_2 : decode cX9_netted 2 = .ok (.invokevirtual 64, 3) := by decide +kernel
theorem dX9_netted_5 : decode cX9_netted 5 = .ok (.ifCond .eq 15, 3) := by decide +kernel
theorem dX9_netted_8 : decode cX9_netted 8 = .ok (.aload_n 0, 1) := by decide +kernel
theorem dX9_netted_9 : decode cX9_netted 9 = .ok (.iload_n 1, 1) := by decide +kernel
theorem dX9_netted_10 : decode cX9_netted 10 = .ok (.invokevirtual 166, 3) := by decide +kernel
theorem dX9_netted_13 : decode cX9_netted 13 = .ok (.sipush 1000, 3) := by decide +kernel
theorem dX9_netted_16 : decode cX9_netted 16 = .ok (.iadd, 1) := by decide +kernel
theorem dX9_netted_17 : decode cX9_netted 17 = .ok (.goto 4, 3) := by decide +kernel
theorem dX9_netted_20 : decode cX9_netted 20 = .ok (.iconst (-1), 1) := by decide +kernel
theorem dX9_netted_21 : decode cX9_netted 21 = .ok (.ireturn, 1) := by decide +kernel
theorem dX9_hands_0 : decode cX9_hands 0 = .ok (.iconst 0, 1) := by decide +kernel
theorem dX9_hands_1 : decode cX9_hands 1 = .ok (.istore_n 1, 1) := by decide +kernel
theorem dX9_hands_2 : decode cX9_hands 2 = .ok (.iconst 0, 1) := by decide +kernel
theorem dX9_hands_3 : decode cX9_hands 3 = .ok (.istore_n 2, 1) := by decide +kernel
theorem dX9_hands_4 : decode cX9_hands 4 = .ok (.iload_n 2, 1) := by decide +kernel
theorem dX9_hands_5 : decode cX9_hands 5 = .ok (.bipush 6, 2) := by decide +kernel
theorem dX9_hands_7 : decode cX9_hands 7 = .ok (.if_icmp .ge 27, 3) := by decide +kernel
theorem dX9_hands_10 : decode cX9_hands 10 = .ok (.iload_n 1, 1) := by decide +kernel
theorem dX9_hands_11 : decode cX9_hands 11 = .ok (.aload_n 0, 1) := by decide +kernel
theorem dX9_hands_12 : decode cX9_hands 12 = .ok (.iload_n 2, 1) := by decide +kernel
theorem dX9_hands_13 : decode cX9_hands 13 = .ok (.invokevirtual 166, 3) := by decide +kernel
theorem dX9_hands_16 : decode cX9_hands 16 = .ok (.ifCond .eq 9, 3) := by decide +kernel
theorem dX9_hands_19 : decode cX9_hands 19 = .ok (.iconst 1, 1) := by decide +kernel
theorem dX9_hands_20 : decode cX9_hands 20 = .ok (.iload_n 2, 1) := by decide +kernel
theorem dX9_hands_21 : decode cX9_hands 21 = .ok (.ishl, 1) := by decide +kernel
theorem dX9_hands_22 : decode cX9_hands 22 = .ok (.goto 4, 3) := by decide +kernel
theorem dX9_hands_25 : decode cX9_hands 25 = .ok (.iconst 0, 1) := by decide +kernel
theorem dX9_hands_26 : decode cX9_hands 26 = .ok (.ior, 1) := by decide +kernel
theorem dX9_hands_27 : decode cX9_hands 27 = .ok (.istore_n 1, 1) := by decide +kernel
theorem dX9_hands_28 : decode cX9_hands 28 = .ok (.iinc 2 1, 3) := by decide +kernel
theorem dX9_hands_31 : decode cX9_hands 31 = .ok (.goto (-27), 3) := by decide +kernel
theorem dX9_hands_34 : decode cX9_hands 34 = .ok (.aload_n 0, 1) := by decide +kernel
theorem dX9_hands_35 : decode cX9_hands 35 = .ok (.getfield 32, 3) := by decide +kernel
theorem dX9_hands_38 : decode cX9_hands 38 = .ok (.iconst 0, 1) := by decide +kernel
theorem dX9_hands_39 : decode cX9_hands 39 = .ok (.iconst 0, 1) := by decide +kernel
theorem dX9_hands_40 : decode cX9_hands 40 = .ok (.iastore, 1) := by decide +kernel
theorem dX9_hands_41 : decode cX9_hands 41 = .ok (.iconst 1, 1) := by decide +kernel
theorem dX9_hands_42 : decode cX9_hands 42 = .ok (.istore_n 2, 1) := by decide +kernel
theorem dX9_hands_43 : decode cX9_hands 43 = .ok (.iload_n 2, 1) := by decide +kernel
theorem dX9_hands_44 : decode cX9_hands 44 = .ok (.bipush 64, 2) := by decide +kernel
theorem dX9_hands_46 : decode cX9_hands 46 = .ok (.if_icmp .ge 117, 3) := by decide +kernel
theorem dX9_hands_49 : decode cX9_hands 49 = .ok (.iconst 0, 1) := by decide +kernel
theorem dX9_hands_50 : decode cX9_hands 50 = .ok (.istore_n 3, 1) := by decide +kernel
theorem dX9_hands_51 : decode cX9_hands 51 = .ok (.iconst 0, 1) := by decide +kernel
theorem dX9_hands_52 : decode cX9_hands 52 = .ok (.istore 4, 2) := by decide +kernel
theorem dX9_hands_54 : decode cX9_hands 54 = .ok (.iconst 0, 1) := by decide +kernel
theorem dX9_hands_55 : decode cX9_hands 55 = .ok (.istore 5, 2) := by decide +kernel
theorem dX9_hands_57 : decode cX9_hands 57 = .ok (.iload 5, 2) := by decide +kernel
theorem dX9_hands_59 : decode cX9_hands 59 = .ok (.bipush 6, 2) := by decide +kernel
theorem dX9_hands_61 : decode cX9_hands 61 = .ok (.if_icmp .ge 65, 3) := by decide +kernel
theorem dX9_hands_64 : decode cX9_hands 64 = .ok (.iload_n 2, 1) := by decide +kernel
theorem dX9_hands_65 : decode cX9_hands 65 = .ok (.iload 5, 2) := by decide +kernel
theorem dX9_hands_67 : decode cX9_hands 67 = .ok (.invokestatic 56, 3) := by decide +kernel
theorem dX9_hands_70 : decode cX9_hands 70 = .ok (.ifCond .eq 50, 3) := by decide +kernel
theorem dX9_hands_73 : decode cX9_hands 73 = .ok (.iload_n 3, 1) := by decide +kernel
theorem dX9_hands_74 : decode cX9_hands 74 = .ok (.aload_n 0, 1) := by decide +kernel
theorem dX9_hands_75 : decode cX9_hands 75 = .ok (.iload 5, 2) := by decide +kernel
theorem dX9_hands_77 : decode cX9_hands 77 = .ok (.invokevirtual 166, 3) := by decide +kernel
theorem dX9_hands_80 : decode cX9_hands 80 = .ok (.iadd, 1) := by decide +kernel
theorem dX9_hands_81 : decode cX9_hands 81 = .ok (.istore_n 3, 1) := by decide +kernel
theorem dX9_hands_82 : decode cX9_hands 82 = .ok (.aload_n 0, 1) := by decide +kernel
theorem dX9_hands_83 : decode cX9_hands 83 = .ok (.getfield 32, 3) := by decide +kernel
theorem dX9_hands_86 : decode cX9_hands 86 = .ok (.iload_n 2, 1) := by decide +kernel
theorem dX9_hands_87 : decode cX9_hands 87 = .ok (.iconst 1, 1) := by decide +kernel
theorem dX9_hands_88 : decode cX9_hands 88 = .ok (.iload 5, 2) := by decide +kernel
theorem dX9_hands_90 : decode cX9_hands 90 = .ok (.ishl, 1) := by decide +kernel
theorem dX9_hands_91 : decode cX9_hands 91 = .ok (.iconst (-1), 1) := by decide +kernel
theorem dX9_hands_92 : decode cX9_hands 92 = .ok (.ixor, 1) := by decide +kernel
theorem dX9_hands_93 : decode cX9_hands 93 = .ok (.iand, 1) := by decide +kernel
theorem dX9_hands_94 : decode cX9_hands 94 = .ok (.iaload, 1) := by decide +kernel
theorem dX9_hands_95 : decode cX9_hands 95 = .ok (.iload 4, 2) := by decide +kernel
theorem dX9_hands_97 : decode cX9_hands 97 = .ok (.if_icmp .le 19, 3) := by decide +kernel
theorem dX9_hands_100 : decode cX9_hands 100 = .ok (.aload_n 0, 1) := by decide +kernel
theorem dX9_hands_101 : decode cX9_hands 101 = .ok (.getfield 32, 3) := by decide +kernel
theorem dX9_hands_104 : decode cX9_hands 104 = .ok (.iload_n 2, 1) := by decide +kernel
theorem dX9_hands_105 : decode cX9_hands 105 = .ok (.iconst 1, 1) := by decide +kernel
theorem dX9_hands_106 : decode cX9_hands 106 = .ok (.iload 5, 2) := by decide +kernel
theorem dX9_hands_108 : decode cX9_hands 108 = .ok (.ishl, 1) := by decide +kernel
theorem dX9_hands_109 : decode cX9_hands 109 = .ok (.iconst (-1), 1) := by decide +kernel
theorem dX9_hands_110 : decode cX9_hands 110 = .ok (.ixor, 1) := by decide +kernel
theorem dX9_hands_111 : decode cX9_hands 111 = .ok (.iand, 1) := by decide +kernel
theorem dX9_hands_112 : decode cX9_hands 112 = .ok (.iaload, 1) := by decide +kernel
theorem dX9_hands_113 : decode cX9_hands 113 = .ok (.goto 5, 3) := by decide +kernel
theorem dX9_hands_116 : decode cX9_hands 116 = .ok (.iload 4, 2) := by decide +kernel
theorem dX9_hands_118 : decode cX9_hands 118 = .ok (.istore 4, 2) := by decide +kernel
theorem dX9_hands_120 : decode cX9_hands 120 = .ok (.iinc 5 1, 3) := by decide +kernel
theorem dX9_hands_123 : decode cX9_hands 123 = .ok (.goto (-66), 3) := by decide +kernel
theorem dX9_hands_126 : decode cX9_hands 126 = .ok (.aload_n 0, 1) := by decide +kernel
theorem dX9_hands_127 : decode cX9_hands 127 = .ok (.getfield 32, 3) := by decide +kernel
theorem dX9_hands_130 : decode cX9_hands 130 = .ok (.iload_n 2, 1) := by decide +kernel
theorem dX9_hands_131 : decode cX9_hands 131 = .ok (.iload_n 2, 1) := by decide +kernel
theorem dX9_hands_132 : decode cX9_hands 132 = .ok (.iload_n 1, 1) := by decide +kernel
theorem dX9_hands_133 : decode cX9_hands 133 = .ok (.iconst (-1), 1) := by decide +kernel
theorem dX9_hands_134 : decode cX9_hands 134 = .ok (.ixor, 1) := by decide +kernel
theorem dX9_hands_135 : decode cX9_hands 135 = .ok (.iand, 1) := by decide +kernel
theorem dX9_hands_136 : decode cX9_hands 136 = .ok (.ifCond .eq 7, 3) := by decide +kernel
theorem dX9_hands_139 : decode cX9_hands 139 = .ok (.iconst 0, 1) := by decide +kernel
theorem dX9_hands_140 : decode cX9_hands 140 = .ok (.goto 16, 3) := by decide +kernel
theorem dX9_hands_143 : decode cX9_hands 143 = .ok (.iload_n 3, 1) := by decide +kernel
theorem dX9_hands_144 : decode cX9_hands 144 = .ok (.ifCond .ne 10, 3) := by decide +kernel
theorem dX9_hands_147 : decode cX9_hands 147 = .ok (.iload 4, 2) := by decide +kernel
theorem dX9_hands_149 : decode cX9_hands 149 = .ok (.iconst 1, 1) := by decide +kernel
theorem dX9_hands_150 : decode cX9_hands 150 = .ok (.iadd, 1) := by decide +kernel
theorem dX9_hands_151 : decode cX9_hands 151 = .ok (.goto 5, 3) := by decide +kernel
theorem dX9_hands_154 : decode cX9_hands 154 = .ok (.iload 4, 2) := by decide +kernel
theorem dX9_hands_156 : decode cX9_hands 156 = .ok (.iastore, 1) := by decide +kernel
theorem dX9_hands_157 : decode cX9_hands 157 = .ok (.iinc 2 1, 3) := by decide +kernel
theorem dX9_hands_160 : decode cX9_hands 160 = .ok (.goto (-117), 3) := by decide +kernel
theorem dX9_hands_163 : decode cX9_hands 163 = .ok (.iload_n 1, 1) := by decide +kernel
theorem dX9_hands_164 : decode cX9_hands 164 = .ok (.invokestatic 60, 3) := by decide +kernel
theorem dX9_hands_167 : decode cX9_hands 167 = .ok (.aload_n 0, 1) := by decide +kernel
theorem dX9_hands_168 : decode cX9_hands 168 = .ok (.getfield 32, 3) := by decide +kernel
theorem dX9_hands_171 : decode cX9_hands 171 = .ok (.iload_n 1, 1) := by decide +kernel
theorem dX9_hands_172 : decode cX9_hands 172 = .ok (.iaload, 1) := by decide +kernel
theorem dX9_hands_173 : decode cX9_hands 173 = .ok (.isub, 1) := by decide +kernel
theorem dX9_hands_174 : decode cX9_hands 174 = .ok (.ireturn, 1) := by decide +kernel
theorem dX9_layActs_0 : decode cX9_layActs 0 = .ok (.iload_n 1, 1) := by decide +kernel
theorem dX9_layActs_1 : decode cX9_layActs 1 = .ok (.istore_n 2, 1) := by decide +kernel
theorem dX9_layActs_2 : decode cX9_layActs 2 = .ok (.aload_n 0, 1) := by decide +kernel
theorem dX9_layActs_3 : decode cX9_layActs 3 = .ok (.getfield 52, 3) := by decide +kernel
theorem dX9_layActs_6 : decode cX9_layActs 6 = .ok (.invokestatic 60, 3) := by decide +kernel
theorem dX9_layActs_9 : decode cX9_layActs 9 = .ok (.iconst 1, 1) := by decide +kernel
theorem dX9_layActs_10 : decode cX9_layActs 10 = .ok (.isub, 1) := by decide +kernel
theorem dX9_layActs_11 : decode cX9_layActs 11 = .ok (.istore_n 3, 1) := by decide +kernel
theorem dX9_layActs_12 : decode cX9_layActs 12 = .ok (.iload_n 3, 1) := by decide +kernel
theorem dX9_layActs_13 : decode cX9_layActs 13 = .ok (.ifCond .lt 24, 3) := by decide +kernel
theorem dX9_layActs_16 : decode cX9_layActs 16 = .ok (.aload_n 0, 1) := by decide +kernel
theorem dX9_layActs_17 : decode cX9_layActs 17 = .ok (.getfield 35, 3) := by decide +kernel
theorem dX9_layActs_20 : decode cX9_layActs 20 = .ok (.iload_n 3, 1) := by decide +kernel
theorem dX9_layActs_21 : decode cX9_layActs 21 = .ok (.iload_n 2, 1) := by decide +kernel
theorem dX9_layActs_22 : decode cX9_layActs 22 = .ok (.bipush 10, 2) := by decide +kernel
theorem dX9_layActs_24 : decode cX9_layActs 24 = .ok (.irem, 1) := by decide +kernel
theorem dX9_layActs_25 : decode cX9_layActs 25 = .ok (.iastore, 1) := by decide +kernel
theorem dX9_layActs_26 : decode cX9_layActs 26 = .ok (.iload_n 2, 1) := by decide +kernel
theorem dX9_layActs_27 : decode cX9_layActs 27 = .ok (.bipush 10, 2) := by decide +kernel
theorem dX9_layActs_29 : decode cX9_layActs 29 = .ok (.idiv, 1) := by decide +kernel
theorem dX9_layActs_30 : decode cX9_layActs 30 = .ok (.istore_n 2, 1) := by decide +kernel
theorem dX9_layActs_31 : decode cX9_layActs 31 = .ok (.iinc 3 (-1), 3) := by decide +kernel
theorem dX9_layActs_34 : decode cX9_layActs 34 = .ok (.goto (-22), 3) := by decide +kernel
theorem dX9_layActs_37 : decode cX9_layActs 37 = .ok (.iload_n 1, 1) := by decide +kernel
theorem dX9_layActs_38 : decode cX9_layActs 38 = .ok (.ifCond .lt 11, 3) := by decide +kernel
theorem dX9_layActs_41 : decode cX9_layActs 41 = .ok (.iload_n 2, 1) := by decide +kernel
theorem dX9_layActs_42 : decode cX9_layActs 42 = .ok (.ifCond .ne 7, 3) := by decide +kernel
theorem dX9_layActs_45 : decode cX9_layActs 45 = .ok (.iconst 1, 1) := by decide +kernel
theorem dX9_layActs_46 : decode cX9_layActs 46 = .ok (.goto 4, 3) := by decide +kernel
theorem dX9_layActs_49 : decode cX9_layActs 49 = .ok (.iconst 0, 1) := by decide +kernel
theorem dX9_layActs_50 : decode cX9_layActs 50 = .ok (.ireturn, 1) := by decide +kernel
theorem dX9_layMatch_0 : decode cX9_layMatch 0 = .ok (.aload_n 0, 1) := by decide +kernel
theorem dX9_layMatch_1 : decode cX9_layMatch 1 = .ok (.getfield 52, 3) := by decide +kernel
theorem dX9_layMatch_4 : decode cX9_layMatch 4 = .ok (.invokestatic 60, 3) := by decide +kernel
theorem dX9_layMatch_7 : decode cX9_layMatch 7 = .ok (.istore_n 1, 1) := by decide +kernel
theorem dX9_layMatch_8 : decode cX9_layMatch 8 = .ok (.aload_n 0, 1) := by decide +kernel
theorem dX9_layMatch_9 : decode cX9_layMatch 9 = .ok (.ldc 169, 2) := by decide +kernel
theorem dX9_layMatch_11 : decode cX9_layMatch 11 = .ok (.putfield 170, 3) := by decide +kernel
theorem dX9_layMatch_14 : decode cX9_layMatch 14 = .ok (.aload_n 0, 1) := by decide +kernel
theorem dX9_layMatch_15 : decode cX9_layMatch 15 = .ok (.iconst 0, 1) := by decide +kernel
theorem dX9_layMatch_16 : decode cX9_layMatch 16 = .ok (.putfield 173, 3) := by decide +kernel
theorem dX9_layMatch_19 : decode cX9_layMatch 19 = .ok (.iconst 0, 1) := by decide +kernel
theorem dX9_layMatch_20 : decode cX9_layMatch 20 = .ok (.istore_n 2, 1) := by decide +kernel
theorem dX9_layMatch_21 : decode cX9_layMatch 21 = .ok (.iload_n 2, 1) := by decide +kernel
theorem dX9_layMatch_22 : decode cX9_layMatch 22 = .ok (.ldc 176, 2) := by decide +kernel
theorem dX9_layMatch_24 : decode cX9_layMatch 24 = .ok (.if_icmp .ge 253, 3) := by decide +kernel
theorem dX9_layMatch_27 : decode cX9_layMatch 27 = .ok (.iload_n 2, 1) := by decide +kernel
theorem dX9_layMatch_28 : decode cX9_layMatch 28 = .ok (.istore_n 3, 1) := by decide +kernel
theorem dX9_layMatch_29 : decode cX9_layMatch 29 = .ok (.iconst 0, 1) := by decide +kernel
theorem dX9_layMatch_30 : decode cX9_layMatch 30 = .ok (.istore 4, 2) := by decide +kernel
theorem dX9_layMatch_32 : decode cX9_layMatch 32 = .ok (.iconst 0, 1) := by decide +kernel
theorem dX9_layMatch_33 : decode cX9_layMatch 33 = .ok (.istore 5, 2) := by decide +kernel
theorem dX9_layMatch_35 : decode cX9_layMatch 35 = .ok (.iconst 1, 1) := by decide +kernel
theorem dX9_layMatch_36 : decode cX9_layMatch 36 = .ok (.istore 6, 2) := by decide +kernel
theorem dX9_layMatch_38 : decode cX9_layMatch 38 = .ok (.iconst 5, 1) := by decide +kernel
theorem dX9_layMatch_39 : decode cX9_layMatch 39 = .ok (.istore 7, 2) := by decide +kernel
theorem dX9_layMatch_41 : decode cX9_layMatch 41 = .ok (.iload 7, 2) := by decide +kernel
theorem dX9_layMatch_43 : decode cX9_layMatch 43 = .ok (.ifCond .lt 139, 3) := by decide +kernel
theorem dX9_layMatch_46 : decode cX9_layMatch 46 = .ok (.iload 6, 2) := by decide +kernel
theorem dX9_layMatch_48 : decode cX9_layMatch 48 = .ok (.ifCond .eq 134, 3) := by decide +kernel
theorem dX9_layMatch_51 : decode cX9_layMatch 51 = .ok (.iload_n 3, 1) := by decide +kernel
theorem dX9_layMatch_52 : decode cX9_layMatch 52 = .ok (.bipush 6, 2) := by decide +kernel
theorem dX9_layMatch_54 : decode cX9_layMatch 54 = .ok (.irem, 1) := by decide +kernel
theorem dX9_layMatch_55 : decode cX9_layMatch 55 = .ok (.istore 8, 2) := by decide +kernel
theorem dX9_layMatch_57 : decode cX9_layMatch 57 = .ok (.iload_n 3, 1) := by decide +kernel
theorem dX9_layMatch_58 : decode cX9_layMatch 58 = .ok (.bipush 6, 2) := by decide +kernel
theorem dX9_layMatch_60 : decode cX9_layMatch 60 = .ok (.idiv, 1) := by decide +kernel
theorem dX9_layMatch_61 : decode cX9_layMatch 61 = .ok (.istore_n 3, 1) := by decide +kernel
theorem dX9_layMatch_62 : decode cX9_layMatch 62 = .ok (.iload 7, 2) := by decide +kernel
theorem dX9_layMatch_64 : decode cX9_layMatch 64 = .ok (.iload_n 1, 1) := by decide +kernel
theorem dX9_layMatch_65 : decode cX9_layMatch 65 = .ok (.if_icmp .ge 99, 3) := by decide +kernel
theorem dX9_layMatch_68 : decode cX9_layMatch 68 = .ok (.aload_n 0, 1) := by decide +kernel
theorem dX9_layMatch_69 : decode cX9_layMatch 69 = .ok (.getfield 52, 3) := by decide +kernel
theorem dX9_layMatch_72 : decode cX9_layMatch 72 = .ok (.iload 8, 2) := by decide +kernel
theorem dX9_layMatch_74 : decode cX9_layMatch 74 = .ok (.invokestatic 56, 3) := by decide +kernel
theorem dX9_layMatch_77 : decode cX9_layMatch 77 = .ok (.ifCond .eq 17, 3) := by decide +kernel
theorem dX9_layMatch_80 : decode cX9_layMatch 80 = .ok (.iload 4, 2) := by decide +kernel
theorem dX9_layMatch_82 : decode cX9_layMatch 82 = .ok (.iload 8, 2) := by decide +kernel
theorem dX9_layMatch_84 : decode cX9_layMatch 84 = .ok (.invokestatic 56, 3) := by decide +kernel
theorem dX9_layMatch_87 : decode cX9_layMatch 87 = .ok (.ifCond .ne 7, 3) := by decide +kernel
theorem dX9_layMatch_90 : decode cX9_layMatch 90 = .ok (.iconst 1, 1) := by decide +kernel
theorem dX9_layMatch_91 : decode cX9_layMatch 91 = .ok (.goto 4, 3) := by decide +kernel
theorem dX9_layMatch_94 : decode cX9_layMatch 94 = .ok (.iconst 0, 1) := by decide +kernel
theorem dX9_layMatch_95 : decode cX9_layMatch 95 = .ok (.istore 6, 2) := by decide +kernel
theorem dX9_layMatch_97 : decode cX9_layMatch 97 = .ok (.iload 4, 2) := by decide +kernel
theorem dX9_layMatch_99 : decode cX9_layMatch 99 = .ok (.iconst 1, 1) := by decide +kernel
theorem dX9_layMatch_100 : decode cX9_layMatch 100 = .ok (.iload 8, 2) := by decide +kernel
theorem dX9_layMatch_102 : decode cX9_layMatch 102 = .ok (.ishl, 1) := by decide +kernel
theorem dX9_layMatch_103 : decode cX9_layMatch 103 = .ok (.ior, 1) := by decide +kernel
theorem dX9_layMatch_104 : decode cX9_layMatch 104 = .ok (.istore 4, 2) := by decide +kernel
theorem dX9_layMatch_106 : decode cX9_layMatch 106 = .ok (.iload 5, 2) := by decide +kernel
theorem dX9_layMatch_108 : decode cX9_layMatch 108 = .ok (.aload_n 0, 1) := by decide +kernel
theorem dX9_layMatch_109 : decode cX9_layMatch 109 = .ok (.getfield 35, 3) := by decide +kernel
theorem dX9_layMatch_112 : decode cX9_layMatch 112 = .ok (.iload 7, 2) := by decide +kernel
theorem dX9_layMatch_114 : decode cX9_layMatch 114 = .ok (.iaload, 1) := by decide +kernel
theorem dX9_layMatch_115 : decode cX9_layMatch 115 = .ok (.aload_n 0, 1) := by decide +kernel
theorem dX9_layMatch_116 : decode cX9_layMatch 116 = .ok (.getfield 16, 3) := by decide +kernel
theorem dX9_layMatch_119 : decode cX9_layMatch 119 = .ok (.iload 8, 2) := by decide +kernel
theorem dX9_layMatch_121 : decode cX9_layMatch 121 = .ok (.iaload, 1) := by decide +kernel
theorem dX9_layMatch_122 : decode cX9_layMatch 122 = .ok (.if_icmp .le 21, 3) := by decide +kernel
theorem dX9_layMatch_125 : decode cX9_layMatch 125 = .ok (.aload_n 0, 1) := by decide +kernel
theorem dX9_layMatch_126 : decode cX9_layMatch 126 = .ok (.getfield 35, 3) := by decide +kernel
theorem dX9_layMatch_129 : decode cX9_layMatch 129 = .ok (.iload 7, 2) := by decide +kernel
theorem dX9_layMatch_131 : decode cX9_layMatch 131 = .ok (.iaload, 1) := by decide +kernel
theorem dX9_layMatch_132 : decode cX9_layMatch 132 = .ok (.aload_n 0, 1) := by decide +kernel
theorem dX9_layMatch_133 : decode cX9_layMatch 133 = .ok (.getfield 16, 3) := by decide +kernel
theorem dX9_layMatch_136 : decode cX9_layMatch 136 = .ok (.iload 8, 2) := by decide +kernel
theorem dX9_layMatch_138 : decode cX9_layMatch 138 = .ok (.iaload, 1) := by decide +kernel
theorem dX9_layMatch_139 : decode cX9_layMatch 139 = .ok (.isub, 1) := by decide +kernel
theorem dX9_layMatch_140 : decode cX9_layMatch 140 = .ok (.goto 18, 3) := by decide +kernel
theorem dX9_layMatch_143 : decode cX9_layMatch 143 = .ok (.aload_n 0, 1) := by decide +kernel
theorem dX9_layMatch_144 : decode cX9_layMatch 144 = .ok (.getfield 16, 3) := by decide +kernel
theorem dX9_layMatch_147 : decode cX9_layMatch 147 = .ok (.iload 8, 2) := by decide +kernel
theorem dX9_layMatch_149 : decode cX9_layMatch 149 = .ok (.iaload, 1) := by decide +kernel
theorem dX9_layMatch_150 : decode cX9_layMatch 150 = .ok (.aload_n 0, 1) := by decide +kernel
theorem dX9_layMatch_151 : decode cX9_layMatch 151 = .ok (.getfield 35, 3) := by decide +kernel
theorem dX9_layMatch_154 : decode cX9_layMatch 154 = .ok (.iload 7, 2) := by decide +kernel
theorem dX9_layMatch_156 : decode cX9_layMatch 156 = .ok (.iaload, 1) := by decide +kernel
theorem dX9_layMatch_157 : decode cX9_layMatch 157 = .ok (.isub, 1) := by decide +kernel
theorem dX9_layMatch_158 : decode cX9_layMatch 158 = .ok (.iadd, 1) := by decide +kernel
theorem dX9_layMatch_159 : decode cX9_layMatch 159 = .ok (.istore 5, 2) := by decide +kernel
theorem dX9_layMatch_161 : decode cX9_layMatch 161 = .ok (.goto 15, 3) := by decide +kernel
theorem dX9_layMatch_164 : decode cX9_layMatch 164 = .ok (.iload 8, 2) := by decide +kernel
theorem dX9_layMatch_166 : decode cX9_layMatch 166 = .ok (.ifCond .ne 7, 3) := by decide +kernel
theorem dX9_layMatch_169 : decode cX9_layMatch 169 = .ok (.iconst 1, 1) := by decide +kernel
theorem dX9_layMatch_170 : decode cX9_layMatch 170 = .ok (.goto 4, 3) := by decide +kernel
theorem dX9_layMatch_173 : decode cX9_layMatch 173 = .ok (.iconst 0, 1) := by decide +kernel
theorem dX9_layMatch_174 : decode cX9_layMatch 174 = .ok (.istore 6, 2) := by decide +kernel
theorem dX9_layMatch_176 : decode cX9_layMatch 176 = .ok (.iinc 7 (-1), 3) := by decide +kernel
theorem dX9_layMatch_179 : decode cX9_layMatch 179 = .ok (.goto (-138), 3) := by decide +kernel
theorem dX9_layMatch_182 : decode cX9_layMatch 182 = .ok (.iload 6, 2) := by decide +kernel
theorem dX9_layMatch_184 : decode cX9_layMatch 184 = .ok (.ifCond .eq 59, 3) := by decide +kernel
theorem dX9_layMatch_187 : decode cX9_layMatch 187 = .ok (.iload 5, 2) := by decide +kernel
theorem dX9_layMatch_189 : decode cX9_layMatch 189 = .ok (.aload_n 0, 1) := by decide +kernel
theorem dX9_layMatch_190 : decode cX9_layMatch 190 = .ok (.getfield 170, 3) := by decide +kernel
theorem dX9_layMatch_193 : decode cX9_layMatch 193 = .ok (.if_icmp .ge 50, 3) := by decide +kernel
theorem dX9_layMatch_196 : decode cX9_layMatch 196 = .ok (.aload_n 0, 1) := by decide +kernel
theorem dX9_layMatch_197 : decode cX9_layMatch 197 = .ok (.iload 5, 2) := by decide +kernel
theorem dX9_layMatch_199 : decode cX9_layMatch 199 = .ok (.putfield 170, 3) := by decide +kernel
theorem dX9_layMatch_202 : decode cX9_layMatch 202 = .ok (.aload_n 0, 1) := by decide +kernel
theorem dX9_layMatch_203 : decode cX9_layMatch 203 = .ok (.iconst 0, 1) := by decide +kernel
theorem dX9_layMatch_204 : decode cX9_layMatch 204 = .ok (.putfield 173, 3) := by decide +kernel
theorem dX9_layMatch_207 : decode cX9_layMatch 207 = .ok (.iload_n 2, 1) := by decide +kernel
theorem dX9_layMatch_208 : decode cX9_layMatch 208 = .ok (.istore 7, 2) := by decide +kernel
theorem dX9_layMatch_210 : decode cX9_layMatch 210 = .ok (.iconst 5, 1) := by decide +kernel
theorem dX9_layMatch_211 : decode cX9_layMatch 211 = .ok (.istore 8, 2) := by decide +kernel
theorem dX9_layMatch_213 : decode cX9_layMatch 213 = .ok (.iload 8, 2) := by decide +kernel
theorem dX9_layMatch_215 : decode cX9_layMatch 215 = .ok (.ifCond .lt 28, 3) := by decide +kernel
theorem dX9_layMatch_218 : decode cX9_layMatch 218 = .ok (.aload_n 0, 1) := by decide +kernel
theorem dX9_layMatch_219 : decode cX9_layMatch 219 = .ok (.getfield 38, 3) := by decide +kernel
theorem dX9_layMatch_222 : decode cX9_layMatch 222 = .ok (.iload 8, 2) := by decide +kernel
theorem dX9_layMatch_224 : decode cX9_layMatch 224 = .ok (.iload 7, 2) := by decide +kernel
theorem dX9_layMatch_226 : decode cX9_layMatch 226 = .ok (.bipush 6, 2) := by decide +kernel
theorem dX9_layMatch_228 : decode cX9_layMatch 228 = .ok (.irem, 1) := by decide +kernel
theorem dX9_layMatch_229 : decode cX9_layMatch 229 = .ok (.iastore, 1) := by decide +kernel
theorem dX9_layMatch_230 : decode cX9_layMatch 230 = .ok (.iload 7, 2) := by decide +kernel
theorem dX9_layMatch_232 : decode cX9_layMatch 232 = .ok (.bipush 6, 2) := by decide +kernel
theorem dX9_layMatch_234 : decode cX9_layMatch 234 = .ok (.idiv, 1) := by decide +kernel
theorem dX9_layMatch_235 : decode cX9_layMatch 235 = .ok (.istore 7, 2) := by decide +kernel
theorem dX9_layMatch_237 : decode cX9_layMatch 237 = .ok (.iinc 8 (-1), 3) := by decide +kernel
theorem dX9_layMatch_240 : decode cX9_layMatch 240 = .ok (.goto (-27), 3) := by decide +kernel
theorem dX9_layMatch_243 : decode cX9_layMatch 243 = .ok (.aload_n 0, 1) := by decide +kernel
theorem dX9_layMatch_244 : decode cX9_layMatch 244 = .ok (.dup, 1) := by decide +kernel
theorem dX9_layMatch_245 : decode cX9_layMatch 245 = .ok (.getfield 173, 3) := by decide +kernel
theorem dX9_layMatch_248 : decode cX9_layMatch 248 = .ok (.iload 6, 2) := by decide +kernel
theorem dX9_layMatch_250 : decode cX9_layMatch 250 = .ok (.ifCond .eq 16, 3) := by decide +kernel
theorem dX9_layMatch_253 : decode cX9_layMatch 253 = .ok (.iload 5, 2) := by decide +kernel
theorem dX9_layMatch_255 : decode cX9_layMatch 255 = .ok (.aload_n 0, 1) := by decide +kernel
theorem dX9_layMatch_256 : decode cX9_layMatch 256 = .ok (.getfield 170, 3) := by decide +kernel
theorem dX9_layMatch_259 : decode cX9_layMatch 259 = .ok (.if_icmp .ne 7, 3) := by decide +kernel
theorem dX9_layMatch_262 : decode cX9_layMatch 262 = .ok (.iconst 1, 1) := by decide +kernel
theorem dX9_layMatch_263 : decode cX9_layMatch 263 = .ok (.goto 4, 3) := by decide +kernel
theorem dX9_layMatch_266 : decode cX9_layMatch 266 = .ok (.iconst 0, 1) := by decide +kernel
theorem dX9_layMatch_267 : decode cX9_layMatch 267 = .ok (.iadd, 1) := by decide +kernel
theorem dX9_layMatch_268 : decode cX9_layMatch 268 = .ok (.putfield 173, 3) := by decide +kernel
theorem dX9_layMatch_271 : decode cX9_layMatch 271 = .ok (.iinc 2 1, 3) := by decide +kernel
theorem dX9_layMatch_274 : decode cX9_layMatch 274 = .ok (.goto (-253), 3) := by decide +kernel
theorem dX9_layMatch_277 : decode cX9_layMatch 277 = .ok (.return_, 1) := by decide +kernel
theorem dX9_match_0 : decode cX9_match 0 = .ok (.aload_n 0, 1) := by decide +kernel
theorem dX9_match_1 : decode cX9_match 1 = .ok (.iload_n 1, 1) := by decide +kernel
theorem dX9_match_2 : decode cX9_match 2 = .ok (.invokevirtual 177, 3) := by decide +kernel
theorem dX9_match_5 : decode cX9_match 5 = .ok (.ifCond .eq 12, 3) := by decide +kernel
theorem dX9_match_8 : decode cX9_match 8 = .ok (.iload_n 2, 1) := by decide +kernel
theorem dX9_match_9 : decode cX9_match 9 = .ok (.iconst 0, 1) := by decide +kernel
theorem dX9_match_10 : decode cX9_match 10 = .ok (.iconst 1, 1) := by decide +kernel
theorem dX9_match_11 : decode cX9_match 11 = .ok (.invokestatic 48, 3) := by decide +kernel
theorem dX9_match_14 : decode cX9_match 14 = .ok (.ifCond .ne 6, 3) := by decide +kernel
theorem dX9_match_17 : decode cX9_match 17 = .ok (.bipush (-2), 2) := by decide +kernel
theorem dX9_match_19 : decode cX9_match 19 = .ok (.ireturn, 1) := by decide +kernel
theorem dX9_match_20 : decode cX9_match 20 = .ok (.aload_n 0, 1) := by decide +kernel
theorem dX9_match_21 : decode cX9_match 21 = .ok (.invokevirtual 180, 3) := by decide +kernel
theorem dX9_match_24 : decode cX9_match 24 = .ok (.iload_n 2, 1) := by decide +kernel
theorem dX9_match_25 : decode cX9_match 25 = .ok (.ifCond .ne 10, 3) := by decide +kernel
theorem dX9_match_28 : decode cX9_match 28 = .ok (.aload_n 0, 1) := by decide +kernel
theorem dX9_match_29 : decode cX9_match 29 = .ok (.getfield 170, 3) := by decide +kernel
theorem dX9_match_32 : decode cX9_match 32 = .ok (.goto 7, 3) := by decide +kernel
theorem dX9_match_35 : decode cX9_match 35 = .ok (.aload_n 0, 1) := by decide +kernel
theorem dX9_match_36 : decode cX9_match 36 = .ok (.getfield 173, 3) := by decide +kernel
theorem dX9_match_39 : decode cX9_match 39 = .ok (.ireturn, 1) := by decide +kernel
theorem dX9_wrote_0 : decode cX9_wrote 0 = .ok (.aload_n 0, 1) := by decide +kernel
theorem dX9_wrote_1 : decode cX9_wrote 1 = .ok (.iload_n 1, 1) := by decide +kernel
theorem dX9_wrote_2 : decode cX9_wrote 2 = .ok (.invokevirtual 177, 3) := by decide +kernel
theorem dX9_wrote_5 : decode cX9_wrote 5 = .ok (.ifCond .eq 20, 3) := by decide +kernel
theorem dX9_wrote_8 : decode cX9_wrote 8 = .ok (.iload_n 2, 1) := by decide +kernel
theorem dX9_wrote_9 : decode cX9_wrote 9 = .ok (.iconst 0, 1) := by decide +kernel
theorem dX9_wrote_10 : decode cX9_wrote 10 = .ok (.aload_n 0, 1) := by decide +kernel
theorem dX9_wrote_11 : decode cX9_wrote 11 = .ok (.getfield 52, 3) := by decide +kernel
theorem dX9_wrote_14 : decode cX9_wrote 14 = .ok (.invokestatic 60, 3) := by decide +kernel
theorem dX9_wrote_17 : decode cX9_wrote 17 = .ok (.iconst 1, 1) := by decide +kernel
theorem dX9_wrote_18 : decode cX9_wrote 18 = .ok (.isub, 1) := by decide +kernel
theorem dX9_wrote_19 : decode cX9_wrote 19 = .ok (.invokestatic 48, 3) := by decide +kernel
theorem dX9_wrote_22 : decode cX9_wrote 22 = .ok (.ifCond .ne 6, 3) := by decide +kernel
theorem dX9_wrote_25 : decode cX9_wrote 25 = .ok (.bipush (-2), 2) := by decide +kernel
theorem dX9_wrote_27 : decode cX9_wrote 27 = .ok (.ireturn, 1) := by decide +kernel
theorem dX9_wrote_28 : decode cX9_wrote 28 = .ok (.aload_n 0, 1) := by decide +kernel
theorem dX9_wrote_29 : decode cX9_wrote 29 = .ok (.invokevirtual 180, 3) := by decide +kernel
theorem dX9_wrote_32 : decode cX9_wrote 32 = .ok (.aload_n 0, 1) := by decide +kernel
theorem dX9_wrote_33 : decode cX9_wrote 33 = .ok (.getfield 38, 3) := by decide +kernel
theorem dX9_wrote_36 : decode cX9_wrote 36 = .ok (.iload_n 2, 1) := by decide +kernel
theorem dX9_wrote_37 : decode cX9_wrote 37 = .ok (.iaload, 1) := by decide +kernel
theorem dX9_wrote_38 : decode cX9_wrote 38 = .ok (.ireturn, 1) := by decide +kernel
theorem dX9_compare_0 : decode cX9_compare 0 = .ok (.iload_n 1, 1) := by decide +kernel
theorem dX9_compare_1 : decode cX9_compare 1 = .ok (.iconst 1, 1) := by decide +kernel
theorem dX9_compare_2 : decode cX9_compare 2 = .ok (.bipush 99, 2) := by decide +kernel
theorem dX9_compare_4 : decode cX9_compare 4 = .ok (.invokestatic 48, 3) := by decide +kernel
theorem dX9_compare_7 : decode cX9_compare 7 = .ok (.ifCond .ne 6, 3) := by decide +kernel
theorem dX9_compare_10 : decode cX9_compare 10 = .ok (.bipush (-2), 2) := by decide +kernel
theorem dX9_compare_12 : decode cX9_compare 12 = .ok (.ireturn, 1) := by decide +kernel
theorem dX9_compare_13 : decode cX9_compare 13 = .ok (.iconst 0, 1) := by decide +kernel
theorem dX9_compare_14 : decode cX9_compare 14 = .ok (.istore_n 2, 1) := by decide +kernel
theorem dX9_compare_15 : decode cX9_compare 15 = .ok (.iconst 1, 1) := by decide +kernel
theorem dX9_compare_16 : decode cX9_compare 16 = .ok (.istore_n 3, 1) := by decide +kernel
theorem dX9_compare_17 : decode cX9_compare 17 = .ok (.iload_n 3, 1) := by decide +kernel
theorem dX9_compare_18 : decode cX9_compare 18 = .ok (.iload_n 1, 1) := by decide +kernel
theorem dX9_compare_19 : decode cX9_compare 19 = .ok (.iconst 1, 1) := by decide +kernel
theorem dX9_compare_20 : decode cX9_compare 20 = .ok (.iadd, 1) := by decide +kernel
theorem dX9_compare_21 : decode cX9_compare 21 = .ok (.if_icmp .ge 13, 3) := by decide +kernel
theorem dX9_compare_24 : decode cX9_compare 24 = .ok (.iload_n 3, 1) := by decide +kernel
theorem dX9_compare_25 : decode cX9_compare 25 = .ok (.iconst 2, 1) := by decide +kernel
theorem dX9_compare_26 : decode cX9_compare 26 = .ok (.imul, 1) := by decide +kernel
theorem dX9_compare_27 : decode cX9_compare 27 = .ok (.istore_n 3, 1) := by decide +kernel
theorem dX9_compare_28 : decode cX9_compare 28 = .ok (.iinc 2 1, 3) := by decide +kernel
theorem dX9_compare_31 : decode cX9_compare 31 = .ok (.goto (-14), 3) := by decide +kernel
theorem dX9_compare_34 : decode cX9_compare 34 = .ok (.iload_n 2, 1) := by decide +kernel
theorem dX9_compare_35 : decode cX9_compare 35 = .ok (.ireturn, 1) := by decide +kernel
theorem dX9_blots_0 : decode cX9_blots 0 = .ok (.iload_n 1, 1) := by decide +kernel
theorem dX9_blots_1 : decode cX9_blots 1 = .ok (.iconst 0, 1) := by decide +kernel
theorem dX9_blots_2 : decode cX9_blots 2 = .ok (.bipush 9, 2) := by decide +kernel
theorem dX9_blots_4 : decode cX9_blots 4 = .ok (.invokestatic 48, 3) := by decide +kernel
theorem dX9_blots_7 : decode cX9_blots 7 = .ok (.ifCond .eq 32, 3) := by decide +kernel
theorem dX9_blots_10 : decode cX9_blots 10 = .ok (.iload_n 2, 1) := by decide +kernel
theorem dX9_blots_11 : decode cX9_blots 11 = .ok (.iconst 0, 1) := by decide +kernel
theorem dX9_blots_12 : decode cX9_blots 12 = .ok (.iload_n 1, 1) := by decide +kernel
theorem dX9_blots_13 : decode cX9_blots 13 = .ok (.invokestatic 48, 3) := by decide +kernel
theorem dX9_blots_16 : decode cX9_blots 16 = .ok (.ifCond .eq 23, 3) := by decide +kernel
theorem dX9_blots_19 : decode cX9_blots 19 = .ok (.iload_n 3, 1) := by decide +kernel
theorem dX9_blots_20 : decode cX9_blots 20 = .ok (.iconst 0, 1) := by decide +kernel
theorem dX9_blots_21 : decode cX9_blots 21 = .ok (.bipush 10, 2) := by decide +kernel
theorem dX9_blots_23 : decode cX9_blots 23 = .ok (.invokestatic 48, 3) := by decide +kernel
theorem dX9_blots_26 : decode cX9_blots 26 = .ok (.ifCond .eq 13, 3) := by decide +kernel
theorem dX9_blots_29 : decode cX9_blots 29 = .ok (.iload 4, 2) := by decide +kernel
theorem dX9_blots_31 : decode cX9_blots 31 = .ok (.iconst 0, 1) := by decide +kernel
theorem dX9_blots_32 : decode cX9_blots 32 = .ok (.iconst 1, 1) := by decide +kernel
theorem dX9_blots_33 : decode cX9_blots 33 = .ok (.invokestatic 48, 3) := by decide +kernel
theorem dX9_blots_36 : decode cX9_blots 36 = .ok (.ifCond .ne 7, 3) := by decide +kernel
theorem dX9_blots_39 : decode cX9_blots 39 = .ok (.ldc2_w 144, 3) := by decide +kernel
theorem dX9_blots_42 : decode cX9_blots 42 = .ok (.lreturn, 1) := by decide +kernel
theorem dX9_blots_43 : decode cX9_blots 43 = .ok (.iload_n 1, 1) := by decide +kernel
theorem dX9_blots_44 : decode cX9_blots 44 = .ok (.iload_n 1, 1) := by decide +kernel
theorem dX9_blots_45 : decode cX9_blots 45 = .ok (.iload_n 2, 1) := by decide +kernel
theorem dX9_blots_46 : decode cX9_blots 46 = .ok (.isub, 1) := by decide +kernel
theorem dX9_blots_47 : decode cX9_blots 47 = .ok (.iload_n 3, 1) := by decide +kernel
theorem dX9_blots_48 : decode cX9_blots 48 = .ok (.invokestatic 162, 3) := by decide +kernel
theorem dX9_blots_51 : decode cX9_blots 51 = .ok (.ldc2_w 160, 3) := by decide +kernel
theorem dX9_blots_54 : decode cX9_blots 54 = .ok (.iload_n 1, 1) := by decide +kernel
theorem dX9_blots_55 : decode cX9_blots 55 = .ok (.invokestatic 140, 3) := by decide +kernel
theorem dX9_blots_58 : decode cX9_blots 58 = .ok (.iload 4, 2) := by decide +kernel
theorem dX9_blots_60 : decode cX9_blots 60 = .ok (.invokestatic 149, 3) := by decide +kernel
theorem dX9_blots_63 : decode cX9_blots 63 = .ok (.lreturn, 1) := by decide +kernel
theorem dX9_seen_0 : decode cX9_seen 0 = .ok (.iload_n 1, 1) := by decide +kernel
theorem dX9_seen_1 : decode cX9_seen 1 = .ok (.iconst 0, 1) := by decide +kernel
theorem dX9_seen_2 : decode cX9_seen 2 = .ok (.bipush 9, 2) := by decide +kernel
theorem dX9_seen_4 : decode cX9_seen 4 = .ok (.invokestatic 48, 3) := by decide +kernel
theorem dX9_seen_7 : decode cX9_seen 7 = .ok (.ifCond .eq 23, 3) := by decide +kernel
theorem dX9_seen_10 : decode cX9_seen 10 = .ok (.iload_n 2, 1) := by decide +kernel
theorem dX9_seen_11 : decode cX9_seen 11 = .ok (.iconst 1, 1) := by decide +kernel
theorem dX9_seen_12 : decode cX9_seen 12 = .ok (.bipush 8, 2) := by decide +kernel
theorem dX9_seen_14 : decode cX9_seen 14 = .ok (.invokestatic 48, 3) := by decide +kernel
theorem dX9_seen_17 : decode cX9_seen 17 = .ok (.ifCond .eq 13, 3) := by decide +kernel
theorem dX9_seen_20 : decode cX9_seen 20 = .ok (.iload_n 3, 1) := by decide +kernel
theorem dX9_seen_21 : decode cX9_seen 21 = .ok (.iconst 1, 1) := by decide +kernel
theorem dX9_seen_22 : decode cX9_seen 22 = .ok (.bipush 9, 2) := by decide +kernel
theorem dX9_seen_24 : decode cX9_seen 24 = .ok (.invokestatic 48, 3) := by decide +kernel
theorem dX9_seen_27 : decode cX9_seen 27 = .ok (.ifCond .ne 6, 3) := by decide +kernel
theorem dX9_seen_30 : decode cX9_seen 30 = .ok (.bipush (-2), 2) := by decide +kernel
theorem dX9_seen_32 : decode cX9_seen 32 = .ok (.ireturn, 1) := by decide +kernel
theorem dX9_seen_33 : decode cX9_seen 33 = .ok (.aload_n 0, 1) := by decide +kernel
theorem dX9_seen_34 : decode cX9_seen 34 = .ok (.getfield 183, 3) := by decide +kernel
theorem dX9_seen_37 : decode cX9_seen 37 = .ok (.bipush 8, 2) := by decide +kernel
theorem dX9_seen_39 : decode cX9_seen 39 = .ok (.if_icmp .ne 6, 3) := by decide +kernel
theorem dX9_seen_42 : decode cX9_seen 42 = .ok (.bipush (-4), 2) := by decide +kernel
theorem dX9_seen_44 : decode cX9_seen 44 = .ok (.ireturn, 1) := by decide +kernel
theorem dX9_seen_45 : decode cX9_seen 45 = .ok (.aload_n 0, 1) := by decide +kernel
theorem dX9_seen_46 : decode cX9_seen 46 = .ok (.getfield 22, 3) := by decide +kernel
theorem dX9_seen_49 : decode cX9_seen 49 = .ok (.iconst 4, 1) := by decide +kernel
theorem dX9_seen_50 : decode cX9_seen 50 = .ok (.aload_n 0, 1) := by decide +kernel
theorem dX9_seen_51 : decode cX9_seen 51 = .ok (.getfield 183, 3) := by decide +kernel
theorem dX9_seen_54 : decode cX9_seen 54 = .ok (.imul, 1) := by decide +kernel
theorem dX9_seen_55 : decode cX9_seen 55 = .ok (.iload_n 1, 1) := by decide +kernel
theorem dX9_seen_56 : decode cX9_seen 56 = .ok (.iastore, 1) := by decide +kernel
theorem dX9_seen_57 : decode cX9_seen 57 = .ok (.aload_n 0, 1) := by decide +kernel
theorem dX9_seen_58 : decode cX9_seen 58 = .ok (.getfield 22, 3) := by decide +kernel
theorem dX9_seen_61 : decode cX9_seen 61 = .ok (.iconst 4, 1) := by decide +kernel
theorem dX9_seen_62 : decode cX9_seen 62 = .ok (.aload_n 0, 1) := by decide +kernel
theorem dX9_seen_63 : decode cX9_seen 63 = .ok (.getfield 183, 3) := by decide +kernel
theorem dX9_seen_66 : decode cX9_seen 66 = .ok (.imul, 1) := by decide +kernel
theorem dX9_seen_67 : decode cX9_seen 67 = .ok (.iconst 1, 1) := by decide +kernel
theorem dX9_seen_68 : decode cX9_seen 68 = .ok (.iadd, 1) := by decide +kernel
theorem dX9_seen_69 : decode cX9_seen 69 = .ok (.iload_n 2, 1) := by decide +kernel
theorem dX9_seen_70 : decode cX9_seen 70 = .ok (.iastore, 1) := by decide +kernel
theorem dX9_seen_71 : decode cX9_seen 71 = .ok (.aload_n 0, 1) := by decide +kernel
theorem dX9_seen_72 : decode cX9_seen 72 = .ok (.getfield 22, 3) := by decide +kernel
theorem dX9_seen_75 : decode cX9_seen 75 = .ok (.iconst 4, 1) := by decide +kernel
theorem dX9_seen_76 : decode cX9_seen 76 = .ok (.aload_n 0, 1) := by decide +kernel
theorem dX9_seen_77 : decode cX9_seen 77 = .ok (.getfield 183, 3) := by decide +kernel
theorem dX9_seen_80 : decode cX9_seen 80 = .ok (.imul, 1) := by decide +kernel
theorem dX9_seen_81 : decode cX9_seen 81 = .ok (.iconst 2, 1) := by decide +kernel
theorem dX9_seen_82 : decode cX9_seen 82 = .ok (.iadd, 1) := by decide +kernel
theorem dX9_seen_83 : decode cX9_seen 83 = .ok (.iload_n 3, 1) := by decide +kernel
theorem dX9_seen_84 : decode cX9_seen 84 = .ok (.iastore, 1) := by decide +kernel
theorem dX9_seen_85 : decode cX9_seen 85 = .ok (.aload_n 0, 1) := by decide +kernel
theorem dX9_seen_86 : decode cX9_seen 86 = .ok (.getfield 22, 3) := by decide +kernel
theorem dX9_seen_89 : decode cX9_seen 89 = .ok (.iconst 4, 1) := by decide +kernel
theorem dX9_seen_90 : decode cX9_seen 90 = .ok (.aload_n 0, 1) := by decide +kernel
theorem dX9_seen_91 : decode cX9_seen 91 = .ok (.getfield 183, 3) := by decide +kernel
theorem dX9_seen_94 : decode cX9_seen 94 = .ok (.imul, 1) := by decide +kernel
theorem dX9_seen_95 : decode cX9_seen 95 = .ok (.iconst 3, 1) := by decide +kernel
theorem dX9_seen_96 : decode cX9_seen 96 = .ok (.iadd, 1) := by decide +kernel
theorem dX9_seen_97 : decode cX9_seen 97 = .ok (.iload 4, 2) := by decide +kernel
theorem dX9_seen_99 : decode cX9_seen 99 = .ok (.ifCond .eq 7, 3) := by decide +kernel
theorem dX9_seen_102 : decode cX9_seen 102 = .ok (.iconst 1, 1) := by decide +kernel
theorem dX9_seen_103 : decode cX9_seen 103 = .ok (.goto 4, 3) := by decide +kernel
theorem dX9_seen_106 : decode cX9_seen 106 = .ok (.iconst 0, 1) := by decide +kernel
theorem dX9_seen_107 : decode cX9_seen 107 = .ok (.iastore, 1) := by decide +kernel
theorem dX9_seen_108 : decode cX9_seen 108 = .ok (.aload_n 0, 1) := by decide +kernel
theorem dX9_seen_109 : decode cX9_seen 109 = .ok (.dup, 1) := by decide +kernel
theorem dX9_seen_110 : decode cX9_seen 110 = .ok (.getfield 183, 3) := by decide +kernel
theorem dX9_seen_113 : decode cX9_seen 113 = .ok (.iconst 1, 1) := by decide +kernel
theorem dX9_seen_114 : decode cX9_seen 114 = .ok (.iadd, 1) := by decide +kernel
theorem dX9_seen_115 : decode cX9_seen 115 = .ok (.putfield 183, 3) := by decide +kernel
theorem dX9_seen_118 : decode cX9_seen 118 = .ok (.aload_n 0, 1) := by decide +kernel
theorem dX9_seen_119 : decode cX9_seen 119 = .ok (.getfield 183, 3) := by decide +kernel
theorem dX9_seen_122 : decode cX9_seen 122 = .ok (.ireturn, 1) := by decide +kernel
theorem dX9_forget_0 : decode cX9_forget 0 = .ok (.aload_n 0, 1) := by decide +kernel
theorem dX9_forget_1 : decode cX9_forget 1 = .ok (.getfield 183, 3) := by decide +kernel
theorem dX9_forget_4 : decode cX9_forget 4 = .ok (.istore_n 1, 1) := by decide +kernel
theorem dX9_forget_5 : decode cX9_forget 5 = .ok (.aload_n 0, 1) := by decide +kernel
theorem dX9_forget_6 : decode cX9_forget 6 = .ok (.iconst 0, 1) := by decide +kernel
theorem dX9_forget_7 : decode cX9_forget 7 = .ok (.putfield 183, 3) := by decide +kernel
theorem dX9_forget_10 : decode cX9_forget 10 = .ok (.iload_n 1, 1) := by decide +kernel
theorem dX9_forget_11 : decode cX9_forget 11 = .ok (.ireturn, 1) := by decide +kernel
theorem dX9_doesSign_0 : decode cX9_doesSign 0 = .ok (.iload_n 2, 1) := by decide +kernel
theorem dX9_doesSign_1 : decode cX9_doesSign 1 = .ok (.ifCond .ne 5, 3) := by decide +kernel
theorem dX9_doesSign_4 : decode cX9_doesSign 4 = .ok (.iconst 0, 1) := by decide +kernel
theorem dX9_doesSign_5 : decode cX9_doesSign 5 = .ok (.ireturn, 1) := by decide +kernel
theorem dX9_doesSign_6 : decode cX9_doesSign 6 = .ok (.iload_n 1, 1) := by decide +kernel
theorem dX9_doesSign_7 : decode cX9_doesSign 7 = .ok (.bipush 10, 2) := by decide +kernel
theorem dX9_doesSign_9 : decode cX9_doesSign 9 = .ok (.if_icmp .ge 17, 3) := by decide +kernel
theorem dX9_doesSign_12 : decode cX9_doesSign 12 = .ok (.iload 4, 2) := by decide +kernel
theorem dX9_doesSign_14 : decode cX9_doesSign 14 = .ok (.iload_n 1, 1) := by decide +kernel
theorem dX9_doesSign_15 : decode cX9_doesSign 15 = .ok (.if_icmp .lt 7, 3) := by decide +kernel
theorem dX9_doesSign_18 : decode cX9_doesSign 18 = .ok (.iconst 1, 1) := by decide +kernel
theorem dX9_doesSign_19 : decode cX9_doesSign 19 = .ok (.goto 48, 3) := by decide +kernel
theorem dX9_doesSign_22 : decode cX9_doesSign 22 = .ok (.iconst 0, 1) := by decide +kernel
theorem dX9_doesSign_23 : decode cX9_doesSign 23 = .ok (.goto 44, 3) := by decide +kernel
theorem dX9_doesSign_26 : decode cX9_doesSign 26 = .ok (.iload_n 1, 1) := by decide +kernel
theorem dX9_doesSign_27 : decode cX9_doesSign 27 = .ok (.bipush 10, 2) := by decide +kernel
theorem dX9_doesSign_29 : decode cX9_doesSign 29 = .ok (.if_icmp .ne 22, 3) := by decide +kernel
theorem dX9_doesSign_32 : decode cX9_doesSign 32 = .ok (.iload 4, 2) := by decide +kernel
theorem dX9_doesSign_34 : decode cX9_doesSign 34 = .ok (.aload_n 0, 1) := by decide +kernel
theorem dX9_doesSign_35 : decode cX9_doesSign 35 = .ok (.iload_n 2, 1) := by decide +kernel
theorem dX9_doesSign_36 : decode cX9_doesSign 36 = .ok (.iload_n 3, 1) := by decide +kernel
theorem dX9_doesSign_37 : decode cX9_doesSign 37 = .ok (.invokevirtual 153, 3) := by decide +kernel
theorem dX9_doesSign_40 : decode cX9_doesSign 40 = .ok (.if_icmp .lt 7, 3) := by decide +kernel
theorem dX9_doesSign_43 : decode cX9_doesSign 43 = .ok (.iconst 1, 1) := by decide +kernel
theorem dX9_doesSign_44 : decode cX9_doesSign 44 = .ok (.goto 23, 3) := by decide +kernel
theorem dX9_doesSign_47 : decode cX9_doesSign 47 = .ok (.iconst 0, 1) := by decide +kernel
theorem dX9_doesSign_48 : decode cX9_doesSign 48 = .ok (.goto 19, 3) := by decide +kernel
theorem dX9_doesSign_51 : decode cX9_doesSign 51 = .ok (.iload_n 2, 1) := by decide +kernel
theorem dX9_doesSign_52 : decode cX9_doesSign 52 = .ok (.iload_n 3, 1) := by decide +kernel
theorem dX9_doesSign_53 : decode cX9_doesSign 53 = .ok (.if_icmp .ge 9, 3) := by decide +kernel
theorem dX9_doesSign_56 : decode cX9_doesSign 56 = .ok (.iload 4, 2) := by decide +kernel
theorem dX9_doesSign_58 : decode cX9_doesSign 58 = .ok (.iconst 5, 1) := by decide +kernel
theorem dX9_doesSign_59 : decode cX9_doesSign 59 = .ok (.if_icmp .lt 7, 3) := by decide +kernel
theorem dX9_doesSign_62 : decode cX9_doesSign 62 = .ok (.iconst 1, 1) := by decide +kernel
theorem dX9_doesSign_63 : decode cX9_doesSign 63 = .ok (.goto 4, 3) := by decide +kernel
theorem dX9_doesSign_66 : decode cX9_doesSign 66 = .ok (.iconst 0, 1) := by decide +kernel
theorem dX9_doesSign_67 : decode cX9_doesSign 67 = .ok (.ireturn, 1) := by decide +kernel
theorem dX9_habits_0 : decode cX9_habits 0 = .ok (.aload_n 0, 1) := by decide +kernel
theorem dX9_habits_1 : decode cX9_habits 1 = .ok (.invokevirtual 146, 3) := by decide +kernel
theorem dX9_habits_4 : decode cX9_habits 4 = .ok (.iconst 0, 1) := by decide +kernel
theorem dX9_habits_5 : decode cX9_habits 5 = .ok (.istore_n 1, 1) := by decide +kernel
theorem dX9_habits_6 : decode cX9_habits 6 = .ok (.iconst 0, 1) := by decide +kernel
theorem dX9_habits_7 : decode cX9_habits 7 = .ok (.istore_n 2, 1) := by decide +kernel
theorem dX9_habits_8 : decode cX9_habits 8 = .ok (.iload_n 2, 1) := by decide +kernel
theorem dX9_habits_9 : decode cX9_habits 9 = .ok (.bipush 12, 2) := by decide +kernel
theorem dX9_habits_11 : decode cX9_habits 11 = .ok (.if_icmp .ge 112, 3) := by decide +kernel
theorem dX9_habits_14 : decode cX9_habits 14 = .ok (.iconst 1, 1) := by decide +kernel
theorem dX9_habits_15 : decode cX9_habits 15 = .ok (.istore_n 3, 1) := by decide +kernel
theorem dX9_habits_16 : decode cX9_habits 16 = .ok (.iconst 0, 1) := by decide +kernel
theorem dX9_habits_17 : decode cX9_habits 17 = .ok (.istore 4, 2) := by decide +kernel
theorem dX9_habits_19 : decode cX9_habits 19 = .ok (.iload 4, 2) := by decide +kernel
theorem dX9_habits_21 : decode cX9_habits 21 = .ok (.aload_n 0, 1) := by decide +kernel
theorem dX9_habits_22 : decode cX9_habits 22 = .ok (.getfield 183, 3) := by decide +kernel
theorem dX9_habits_25 : decode cX9_habits 25 = .ok (.if_icmp .ge 78, 3) := by decide +kernel
theorem dX9_habits_28 : decode cX9_habits 28 = .ok (.iload_n 3, 1) := by decide +kernel
theorem dX9_habits_29 : decode cX9_habits 29 = .ok (.ifCond .eq 66, 3) := by decide +kernel
theorem dX9_habits_32 : decode cX9_habits 32 = .ok (.aload_n 0, 1) := by decide +kernel
theorem dX9_habits_33 : decode cX9_habits 33 = .ok (.iload_n 2, 1) := by decide +kernel
theorem dX9_habits_34 : decode cX9_habits 34 = .ok (.aload_n 0, 1) := by decide +kernel
theorem dX9_habits_35 : decode cX9_habits 35 = .ok (.getfield 22, 3) := by decide +kernel
theorem dX9_habits_38 : decode cX9_habits 38 = .ok (.iconst 4, 1) := by decide +kernel
theorem dX9_habits_39 : decode cX9_habits 39 = .ok (.iload 4, 2) := by decide +kernel
theorem dX9_habits_41 : decode cX9_habits 41 = .ok (.imul, 1) := by decide +kernel
theorem dX9_habits_42 : decode cX9_habits 42 = .ok (.iaload, 1) := by decide +kernel
theorem dX9_habits_43 : decode cX9_habits 43 = .ok (.aload_n 0, 1) := by decide +kernel
theorem dX9_habits_44 : decode cX9_habits 44 = .ok (.getfield 22, 3) := by decide +kernel
theorem dX9_habits_47 : decode cX9_habits 47 = .ok (.iconst 4, 1) := by decide +kernel
theorem dX9_habits_48 : decode cX9_habits 48 = .ok (.iload 4, 2) := by decide +kernel
theorem dX9_habits_50 : decode cX9_habits 50 = .ok (.imul, 1) := by decide +kernel
theorem dX9_habits_51 : decode cX9_habits 51 = .ok (.iconst 1, 1) := by decide +kernel
theorem dX9_habits_52 : decode cX9_habits 52 = .ok (.iadd, 1) := by decide +kernel
theorem dX9_habits_53 : decode cX9_habits 53 = .ok (.iaload, 1) := by decide +kernel
theorem dX9_habits_54 : decode cX9_habits 54 = .ok (.aload_n 0, 1) := by decide +kernel
theorem dX9_habits_55 : decode cX9_habits 55 = .ok (.getfield 22, 3) := by decide +kernel
theorem dX9_habits_58 : decode cX9_habits 58 = .ok (.iconst 4, 1) := by decide +kernel
theorem dX9_habits_59 : decode cX9_habits 59 = .ok (.iload 4, 2) := by decide +kernel
theorem dX9_habits_61 : decode cX9_habits 61 = .ok (.imul, 1) := by decide +kernel
theorem dX9_habits_62 : decode cX9_habits 62 = .ok (.iconst 2, 1) := by decide +kernel
theorem dX9_habits_63 : decode cX9_habits 63 = .ok (.iadd, 1) := by decide +kernel
theorem dX9_habits_64 : decode cX9_habits 64 = .ok (.iaload, 1) := by decide +kernel
theorem dX9_habits_65 : decode cX9_habits 65 = .ok (.invokevirtual 186, 3) := by decide +kernel
theorem dX9_habits_68 : decode cX9_habits 68 = .ok (.aload_n 0, 1) := by decide +kernel
theorem dX9_habits_69 : decode cX9_habits 69 = .ok (.getfield 22, 3) := by decide +kernel
theorem dX9_habits_72 : decode cX9_habits 72 = .ok (.iconst 4, 1) := by decide +kernel
theorem dX9_habits_73 : decode cX9_habits 73 = .ok (.iload 4, 2) := by decide +kernel
theorem dX9_habits_75 : decode cX9_habits 75 = .ok (.imul, 1) := by decide +kernel
theorem dX9_habits_76 : decode cX9_habits 76 = .ok (.iconst 3, 1) := by decide +kernel
theorem dX9_habits_77 : decode cX9_habits 77 = .ok (.iadd, 1) := by decide +kernel
theorem dX9_habits_78 : decode cX9_habits 78 = .ok (.iaload, 1) := by decide +kernel
theorem dX9_habits_79 : decode cX9_habits 79 = .ok (.iconst 1, 1) := by decide +kernel
theorem dX9_habits_80 : decode cX9_habits 80 = .ok (.if_icmp .ne 7, 3) := by decide +kernel
theorem dX9_habits_83 : decode cX9_habits 83 = .ok (.iconst 1, 1) := by decide +kernel
theorem dX9_habits_84 : decode cX9_habits 84 = .ok (.goto 4, 3) := by decide +kernel
theorem dX9_habits_87 : decode cX9_habits 87 = .ok (.iconst 0, 1) := by decide +kernel
theorem dX9_habits_88 : decode cX9_habits 88 = .ok (.if_icmp .ne 7, 3) := by decide +kernel
theorem dX9_habits_91 : decode cX9_habits 91 = .ok (.iconst 1, 1) := by decide +kernel
theorem dX9_habits_92 : decode cX9_habits 92 = .ok (.goto 4, 3) := by decide +kernel
theorem dX9_habits_95 : decode cX9_habits 95 = .ok (.iconst 0, 1) := by decide +kernel
theorem dX9_habits_96 : decode cX9_habits 96 = .ok (.istore_n 3, 1) := by decide +kernel
theorem dX9_habits_97 : decode cX9_habits 97 = .ok (.iinc 4 1, 3) := by decide +kernel
theorem dX9_habits_100 : decode cX9_habits 100 = .ok (.goto (-81), 3) := by decide +kernel
theorem dX9_habits_103 : decode cX9_habits 103 = .ok (.iload_n 1, 1) := by decide +kernel
theorem dX9_habits_104 : decode cX9_habits 104 = .ok (.iload_n 3, 1) := by decide +kernel
theorem dX9_habits_105 : decode cX9_habits 105 = .ok (.ifCond .eq 9, 3) := by decide +kernel
theorem dX9_habits_108 : decode cX9_habits 108 = .ok (.iconst 1, 1) := by decide +kernel
theorem dX9_habits_109 : decode cX9_habits 109 = .ok (.iload_n 2, 1) := by decide +kernel
theorem dX9_habits_110 : decode cX9_habits 110 = .ok (.ishl, 1) := by decide +kernel
theorem dX9_habits_111 : decode cX9_habits 111 = .ok (.goto 4, 3) := by decide +kernel
theorem dX9_habits_114 : decode cX9_habits 114 = .ok (.iconst 0, 1) := by decide +kernel
theorem dX9_habits_115 : decode cX9_habits 115 = .ok (.ior, 1) := by decide +kernel
theorem dX9_habits_116 : decode cX9_habits 116 = .ok (.istore_n 1, 1) := by decide +kernel
theorem dX9_habits_117 : decode cX9_habits 117 = .ok (.iinc 2 1, 3) := by decide +kernel
theorem dX9_habits_120 : decode cX9_habits 120 = .ok (.goto (-112), 3) := by decide +kernel
theorem dX9_habits_123 : decode cX9_habits 123 = .ok (.iload_n 1, 1) := by decide +kernel
theorem dX9_habits_124 : decode cX9_habits 124 = .ok (.ireturn, 1) := by decide +kernel
theorem dX9_signs_0 : decode cX9_signs 0 = .ok (.aload_n 0, 1) := by decide +kernel
theorem dX9_signs_1 : decode cX9_signs 1 = .ok (.invokevirtual 190, 3) := by decide +kernel
theorem dX9_signs_4 : decode cX9_signs 4 = .ok (.ireturn, 1) := by decide +kernel
theorem dX9_watch_0 : decode cX9_watch 0 = .ok (.iload_n 1, 1) := by decide +kernel
theorem dX9_watch_1 : decode cX9_watch 1 = .ok (.iconst 0, 1) := by decide +kernel
theorem dX9_watch_2 : decode cX9_watch 2 = .ok (.iconst 1, 1) := by decide +kernel
theorem dX9_watch_3 : decode cX9_watch 3 = .ok (.invokestatic 48, 3) := by decide +kernel
theorem dX9_watch_6 : decode cX9_watch 6 = .ok (.ifCond .ne 6, 3) := by decide +kernel
theorem dX9_watch_9 : decode cX9_watch 9 = .ok (.bipush (-2), 2) := by decide +kernel
theorem dX9_watch_11 : decode cX9_watch 11 = .ok (.ireturn, 1) := by decide +kernel
theorem dX9_watch_12 : decode cX9_watch 12 = .ok (.aload_n 0, 1) := by decide +kernel
theorem dX9_watch_13 : decode cX9_watch 13 = .ok (.invokevirtual 190, 3) := by decide +kernel
theorem dX9_watch_16 : decode cX9_watch 16 = .ok (.istore_n 2, 1) := by decide +kernel
theorem dX9_watch_17 : decode cX9_watch 17 = .ok (.bipush (-6), 2) := by decide +kernel
theorem dX9_watch_19 : decode cX9_watch 19 = .ok (.istore_n 3, 1) := by decide +kernel
theorem dX9_watch_20 : decode cX9_watch 20 = .ok (.ldc 169, 2) := by decide +kernel
theorem dX9_watch_22 : decode cX9_watch 22 = .ok (.istore 4, 2) := by decide +kernel
theorem dX9_watch_24 : decode cX9_watch 24 = .ok (.iconst 0, 1) := by decide +kernel
theorem dX9_watch_25 : decode cX9_watch 25 = .ok (.istore 5, 2) := by decide +kernel
theorem dX9_watch_27 : decode cX9_watch 27 = .ok (.iload 5, 2) := by decide +kernel
theorem dX9_watch_29 : decode cX9_watch 29 = .ok (.sipush 1000, 3) := by decide +kernel
theorem dX9_watch_32 : decode cX9_watch 32 = .ok (.if_icmp .ge 158, 3) := by decide +kernel
theorem dX9_watch_35 : decode cX9_watch 35 = .ok (.iload_n 2, 1) := by decide +kernel
theorem dX9_watch_36 : decode cX9_watch 36 = .ok (.ifCond .eq 154, 3) := by decide +kernel
theorem dX9_watch_39 : decode cX9_watch 39 = .ok (.iload 5, 2) := by decide +kernel
theorem dX9_watch_41 : decode cX9_watch 41 = .ok (.bipush 10, 2) := by decide +kernel
theorem dX9_watch_43 : decode cX9_watch 43 = .ok (.idiv, 1) := by decide +kernel
theorem dX9_watch_44 : decode cX9_watch 44 = .ok (.bipush 10, 2) := by decide +kernel
theorem dX9_watch_46 : decode cX9_watch 46 = .ok (.irem, 1) := by decide +kernel
theorem dX9_watch_47 : decode cX9_watch 47 = .ok (.istore 6, 2) := by decide +kernel
theorem dX9_watch_49 : decode cX9_watch 49 = .ok (.iload 5, 2) := by decide +kernel
theorem dX9_watch_51 : decode cX9_watch 51 = .ok (.bipush 10, 2) := by decide +kernel
theorem dX9_watch_53 : decode cX9_watch 53 = .ok (.irem, 1) := by decide +kernel
theorem dX9_watch_54 : decode cX9_watch 54 = .ok (.istore 7, 2) := by decide +kernel
theorem dX9_watch_56 : decode cX9_watch 56 = .ok (.iload 6, 2) := by decide +kernel
theorem dX9_watch_58 : decode cX9_watch 58 = .ok (.iconst 1, 1) := by decide +kernel
theorem dX9_watch_59 : decode cX9_watch 59 = .ok (.bipush 8, 2) := by decide +kernel
theorem dX9_watch_61 : decode cX9_watch 61 = .ok (.invokestatic 48, 3) := by decide +kernel
theorem dX9_watch_64 : decode cX9_watch 64 = .ok (.ifCond .eq 120, 3) := by decide +kernel
theorem dX9_watch_67 : decode cX9_watch 67 = .ok (.iload 7, 2) := by decide +kernel
theorem dX9_watch_69 : decode cX9_watch 69 = .ok (.ifCond .le 115, 3) := by decide +kernel
theorem dX9_watch_72 : decode cX9_watch 72 = .ok (.iconst 0, 1) := by decide +kernel
theorem dX9_watch_73 : decode cX9_watch 73 = .ok (.istore 8, 2) := by decide +kernel
theorem dX9_watch_75 : decode cX9_watch 75 = .ok (.iconst 0, 1) := by decide +kernel
theorem dX9_watch_76 : decode cX9_watch 76 = .ok (.istore 9, 2) := by decide +kernel
theorem dX9_watch_78 : decode cX9_watch 78 = .ok (.iload 9, 2) := by decide +kernel
theorem dX9_watch_80 : decode cX9_watch 80 = .ok (.bipush 12, 2) := by decide +kernel
theorem dX9_watch_82 : decode cX9_watch 82 = .ok (.if_icmp .ge 46, 3) := by decide +kernel
theorem dX9_watch_85 : decode cX9_watch 85 = .ok (.iload 8, 2) := by decide +kernel
theorem dX9_watch_87 : decode cX9_watch 87 = .ok (.iload_n 2, 1) := by decide +kernel
theorem dX9_watch_88 : decode cX9_watch 88 = .ok (.iload 9, 2) := by decide +kernel
theorem dX9_watch_90 : decode cX9_watch 90 = .ok (.invokestatic 56, 3) := by decide +kernel
theorem dX9_watch_93 : decode cX9_watch 93 = .ok (.ifCond .eq 25, 3) := by decide +kernel
theorem dX9_watch_96 : decode cX9_watch 96 = .ok (.aload_n 0, 1) := by decide +kernel
theorem dX9_watch_97 : decode cX9_watch 97 = .ok (.iload 9, 2) := by decide +kernel
theorem dX9_watch_99 : decode cX9_watch 99 = .ok (.iload 5, 2) := by decide +kernel
theorem dX9_watch_101 : decode cX9_watch 101 = .ok (.bipush 100, 2) := by decide +kernel
theorem dX9_watch_103 : decode cX9_watch 103 = .ok (.idiv, 1) := by decide +kernel
theorem dX9_watch_104 : decode cX9_watch 104 = .ok (.iload 6, 2) := by decide +kernel
theorem dX9_watch_106 : decode cX9_watch 106 = .ok (.iload 7, 2) := by decide +kernel
theorem dX9_watch_108 : decode cX9_watch 108 = .ok (.invokevirtual 186, 3) := by decide +kernel
theorem dX9_watch_111 : decode cX9_watch 111 = .ok (.ifCond .eq 7, 3) := by decide +kernel
theorem dX9_watch_114 : decode cX9_watch 114 = .ok (.iconst 1, 1) := by decide +kernel
theorem dX9_watch_115 : decode cX9_watch 115 = .ok (.goto 4, 3) := by decide +kernel
theorem dX9_watch_118 : decode cX9_watch 118 = .ok (.iconst 0, 1) := by decide +kernel
theorem dX9_watch_119 : decode cX9_watch 119 = .ok (.iadd, 1) := by decide +kernel
theorem dX9_watch_120 : decode cX9_watch 120 = .ok (.istore 8, 2) := by decide +kernel
theorem dX9_watch_122 : decode cX9_watch 122 = .ok (.iinc 9 1, 3) := by decide +kernel
theorem dX9_watch_125 : decode cX9_watch 125 = .ok (.goto (-47), 3) := by decide +kernel
theorem dX9_watch_128 : decode cX9_watch 128 = .ok (.iload 8, 2) := by decide +kernel
theorem dX9_watch_130 : decode cX9_watch 130 = .ok (.iload_n 2, 1) := by decide +kernel
theorem dX9_watch_131 : decode cX9_watch 131 = .ok (.invokestatic 60, 3) := by decide +kernel
theorem dX9_watch_134 : decode cX9_watch 134 = .ok (.iload 8, 2) := by decide +kernel
theorem dX9_watch_136 : decode cX9_watch 136 = .ok (.isub, 1) := by decide +kernel
theorem dX9_watch_137 : decode cX9_watch 137 = .ok (.if_icmp .le 8, 3) := by decide +kernel
theorem dX9_watch_140 : decode cX9_watch 140 = .ok (.iload 8, 2) := by decide +kernel
theorem dX9_watch_142 : decode cX9_watch 142 = .ok (.goto 10, 3) := by decide +kernel
theorem dX9_watch_145 : decode cX9_watch 145 = .ok (.iload_n 2, 1) := by decide +kernel
theorem dX9_watch_146 : decode cX9_watch 146 = .ok (.invokestatic 60, 3) := by decide +kernel
theorem dX9_watch_149 : decode cX9_watch 149 = .ok (.iload 8, 2) := by decide +kernel
theorem dX9_watch_151 : decode cX9_watch 151 = .ok (.isub, 1) := by decide +kernel
theorem dX9_watch_152 : decode cX9_watch 152 = .ok (.istore 9, 2) := by decide +kernel
theorem dX9_watch_154 : decode cX9_watch 154 = .ok (.iload 9, 2) := by decide +kernel
theorem dX9_watch_156 : decode cX9_watch 156 = .ok (.iload 4, 2) := by decide +kernel
theorem dX9_watch_158 : decode cX9_watch 158 = .ok (.if_icmp .ge 8, 3) := by decide +kernel
theorem dX9_watch_161 : decode cX9_watch 161 = .ok (.iload 5, 2) := by decide +kernel
theorem dX9_watch_163 : decode cX9_watch 163 = .ok (.goto 4, 3) := by decide +kernel
theorem dX9_watch_166 : decode cX9_watch 166 = .ok (.iload_n 3, 1) := by decide +kernel
theorem dX9_watch_167 : decode cX9_watch 167 = .ok (.istore_n 3, 1) := by decide +kernel
theorem dX9_watch_168 : decode cX9_watch 168 = .ok (.iload 9, 2) := by decide +kernel
theorem dX9_watch_170 : decode cX9_watch 170 = .ok (.iload 4, 2) := by decide +kernel
theorem dX9_watch_172 : decode cX9_watch 172 = .ok (.if_icmp .ge 8, 3) := by decide +kernel
theorem dX9_watch_175 : decode cX9_watch 175 = .ok (.iload 9, 2) := by decide +kernel
theorem dX9_watch_177 : decode cX9_watch 177 = .ok (.goto 5, 3) := by decide +kernel
theorem dX9_watch_180 : decode cX9_watch 180 = .ok (.iload 4, 2) := by decide +kernel
theorem dX9_watch_182 : decode cX9_watch 182 = .ok (.istore 4, 2) := by decide +kernel
theorem dX9_watch_184 : decode cX9_watch 184 = .ok (.iinc 5 1, 3) := by decide +kernel
theorem dX9_watch_187 : decode cX9_watch 187 = .ok (.goto (-160), 3) := by decide +kernel
theorem dX9_watch_190 : decode cX9_watch 190 = .ok (.iload_n 3, 1) := by decide +kernel
theorem dX9_watch_191 : decode cX9_watch 191 = .ok (.ifCond .lt 7, 3) := by decide +kernel
theorem dX9_watch_194 : decode cX9_watch 194 = .ok (.iload_n 1, 1) := by decide +kernel
theorem dX9_watch_195 : decode cX9_watch 195 = .ok (.ifCond .ne 7, 3) := by decide +kernel
theorem dX9_watch_198 : decode cX9_watch 198 = .ok (.iload_n 3, 1) := by decide +kernel
theorem dX9_watch_199 : decode cX9_watch 199 = .ok (.goto 5, 3) := by decide +kernel
theorem dX9_watch_202 : decode cX9_watch 202 = .ok (.iload 4, 2) := by decide +kernel
theorem dX9_watch_204 : decode cX9_watch 204 = .ok (.ireturn, 1) := by decide +kernel
theorem dX9_book_0 : decode cX9_book 0 = .ok (.iload_n 1, 1) := by decide +kernel
theorem dX9_book_1 : decode cX9_book 1 = .ok (.iconst 0, 1) := by decide +kernel
theorem dX9_book_2 : decode cX9_book 2 = .ok (.sipush 9999, 3) := by decide +kernel
theorem dX9_book_5 : decode cX9_book 5 = .ok (.invokestatic 48, 3) := by decide +kernel
theorem dX9_book_8 : decode cX9_book 8 = .ok (.ifCond .eq 22, 3) := by decide +kernel
theorem dX9_book_11 : decode cX9_book 11 = .ok (.iload_n 2, 1) := by decide +kernel
theorem dX9_book_12 : decode cX9_book 12 = .ok (.iconst 1, 1) := by decide +kernel
theorem dX9_book_13 : decode cX9_book 13 = .ok (.bipush 99, 2) := by decide +kernel
theorem dX9_book_15 : decode cX9_book 15 = .ok (.invokestatic 48, 3) := by decide +kernel
theorem dX9_book_18 : decode cX9_book 18 = .ok (.ifCond .eq 12, 3) := by decide +kernel
theorem dX9_book_21 : decode cX9_book 21 = .ok (.iload_n 3, 1) := by decide +kernel
theorem dX9_book_22 : decode cX9_book 22 = .ok (.iconst 0, 1) := by decide +kernel
theorem dX9_book_23 : decode cX9_book 23 = .ok (.iconst 2, 1) := by decide +kernel
theorem dX9_book_24 : decode cX9_book 24 = .ok (.invokestatic 48, 3) := by decide +kernel
theorem dX9_book_27 : decode cX9_book 27 = .ok (.ifCond .ne 6, 3) := by decide +kernel
theorem dX9_book_30 : decode cX9_book 30 = .ok (.bipush (-2), 2) := by decide +kernel
theorem dX9_book_32 : decode cX9_book 32 = .ok (.ireturn, 1) := by decide +kernel
theorem dX9_book_33 : decode cX9_book 33 = .ok (.aload_n 0, 1) := by decide +kernel
theorem dX9_book_34 : decode cX9_book 34 = .ok (.invokevirtual 97, 3) := by decide +kernel
theorem dX9_book_37 : decode cX9_book 37 = .ok (.iload_n 1, 1) := by decide +kernel
theorem dX9_book_38 : decode cX9_book 38 = .ok (.istore 4, 2) := by decide +kernel
theorem dX9_book_40 : decode cX9_book 40 = .ok (.iconst 0, 1) := by decide +kernel
theorem dX9_book_41 : decode cX9_book 41 = .ok (.istore 5, 2) := by decide +kernel
theorem dX9_book_43 : decode cX9_book 43 = .ok (.iload 5, 2) := by decide +kernel
theorem dX9_book_45 : decode cX9_book 45 = .ok (.iload_n 2, 1) := by decide +kernel
theorem dX9_book_46 : decode cX9_book 46 = .ok (.if_icmp .ge 66, 3) := by decide +kernel
theorem dX9_book_49 : decode cX9_book 49 = .ok (.bipush 75, 2) := by decide +kernel
theorem dX9_book_51 : decode cX9_book 51 = .ok (.iload 4, 2) := by decide +kernel
theorem dX9_book_53 : decode cX9_book 53 = .ok (.imul, 1) := by decide +kernel
theorem dX9_book_54 : decode cX9_book 54 = .ok (.bipush 74, 2) := by decide +kernel
theorem dX9_book_56 : decode cX9_book 56 = .ok (.iadd, 1) := by decide +kernel
theorem dX9_book_57 : decode cX9_book 57 = .ok (.ldc 193, 2) := by decide +kernel
theorem dX9_book_59 : decode cX9_book 59 = .ok (.irem, 1) := by decide +kernel
theorem dX9_book_60 : decode cX9_book 60 = .ok (.istore 4, 2) := by decide +kernel
theorem dX9_book_62 : decode cX9_book 62 = .ok (.iload 4, 2) := by decide +kernel
theorem dX9_book_64 : decode cX9_book 64 = .ok (.bipush 6, 2) := by decide +kernel
theorem dX9_book_66 : decode cX9_book 66 = .ok (.irem, 1) := by decide +kernel
theorem dX9_book_67 : decode cX9_book 67 = .ok (.istore 6, 2) := by decide +kernel
theorem dX9_book_69 : decode cX9_book 69 = .ok (.iconst 1, 1) := by decide +kernel
theorem dX9_book_70 : decode cX9_book 70 = .ok (.iload 4, 2) := by decide +kernel
theorem dX9_book_72 : decode cX9_book 72 = .ok (.bipush 6, 2) := by decide +kernel
theorem dX9_book_74 : decode cX9_book 74 = .ok (.idiv, 1) := by decide +kernel
theorem dX9_book_75 : decode cX9_book 75 = .ok (.bipush 9, 2) := by decide +kernel
theorem dX9_book_77 : decode cX9_book 77 = .ok (.irem, 1) := by decide +kernel
theorem dX9_book_78 : decode cX9_book 78 = .ok (.iadd, 1) := by decide +kernel
theorem dX9_book_79 : decode cX9_book 79 = .ok (.istore 7, 2) := by decide +kernel
theorem dX9_book_81 : decode cX9_book 81 = .ok (.aload_n 0, 1) := by decide +kernel
theorem dX9_book_82 : decode cX9_book 82 = .ok (.iload 6, 2) := by decide +kernel
theorem dX9_book_84 : decode cX9_book 84 = .ok (.iload 7, 2) := by decide +kernel
theorem dX9_book_86 : decode cX9_book 86 = .ok (.invokevirtual 115, 3) := by decide +kernel
theorem dX9_book_89 : decode cX9_book 89 = .ok (.ifCond .eq 12, 3) := by decide +kernel
theorem dX9_book_92 : decode cX9_book 92 = .ok (.aload_n 0, 1) := by decide +kernel
theorem dX9_book_93 : decode cX9_book 93 = .ok (.iload 6, 2) := by decide +kernel
theorem dX9_book_95 : decode cX9_book 95 = .ok (.iload 7, 2) := by decide +kernel
theorem dX9_book_97 : decode cX9_book 97 = .ok (.invokevirtual 119, 3) := by decide +kernel
theorem dX9_book_100 : decode cX9_book 100 = .ok (.pop, 1) := by decide +kernel
theorem dX9_book_101 : decode cX9_book 101 = .ok (.aload_n 0, 1) := by decide +kernel
theorem dX9_book_102 : decode cX9_book 102 = .ok (.invokevirtual 109, 3) := by decide +kernel
theorem dX9_book_105 : decode cX9_book 105 = .ok (.pop, 1) := by decide +kernel
theorem dX9_book_106 : decode cX9_book 106 = .ok (.iinc 5 1, 3) := by decide +kernel
theorem dX9_book_109 : decode cX9_book 109 = .ok (.goto (-66), 3) := by decide +kernel
theorem dX9_book_112 : decode cX9_book 112 = .ok (.iconst 0, 1) := by decide +kernel
theorem dX9_book_113 : decode cX9_book 113 = .ok (.istore 5, 2) := by decide +kernel
theorem dX9_book_115 : decode cX9_book 115 = .ok (.iconst 0, 1) := by decide +kernel
theorem dX9_book_116 : decode cX9_book 116 = .ok (.istore 6, 2) := by decide +kernel
theorem dX9_book_118 : decode cX9_book 118 = .ok (.iconst 0, 1) := by decide +kernel
theorem dX9_book_119 : decode cX9_book 119 = .ok (.istore 7, 2) := by decide +kernel
theorem dX9_book_121 : decode cX9_book 121 = .ok (.iload 7, 2) := by decide +kernel
theorem dX9_book_123 : decode cX9_book 123 = .ok (.bipush 6, 2) := by decide +kernel
theorem dX9_book_125 : decode cX9_book 125 = .ok (.if_icmp .ge 72, 3) := by decide +kernel
theorem dX9_book_128 : decode cX9_book 128 = .ok (.iload 5, 2) := by decide +kernel
theorem dX9_book_130 : decode cX9_book 130 = .ok (.aload_n 0, 1) := by decide +kernel
theorem dX9_book_131 : decode cX9_book 131 = .ok (.getfield 52, 3) := by decide +kernel
theorem dX9_book_134 : decode cX9_book 134 = .ok (.iload 7, 2) := by decide +kernel
theorem dX9_book_136 : decode cX9_book 136 = .ok (.invokestatic 56, 3) := by decide +kernel
theorem dX9_book_139 : decode cX9_book 139 = .ok (.ifCond .eq 16, 3) := by decide +kernel
theorem dX9_book_142 : decode cX9_book 142 = .ok (.aload_n 0, 1) := by decide +kernel
theorem dX9_book_143 : decode cX9_book 143 = .ok (.getfield 13, 3) := by decide +kernel
theorem dX9_book_146 : decode cX9_book 146 = .ok (.bipush 6, 2) := by decide +kernel
theorem dX9_book_148 : decode cX9_book 148 = .ok (.iload 7, 2) := by decide +kernel
theorem dX9_book_150 : decode cX9_book 150 = .ok (.iadd, 1) := by decide +kernel
theorem dX9_book_151 : decode cX9_book 151 = .ok (.iaload, 1) := by decide +kernel
theorem dX9_book_152 : decode cX9_book 152 = .ok (.goto 4, 3) := by decide +kernel
theorem dX9_book_155 : decode cX9_book 155 = .ok (.iconst 0, 1) := by decide +kernel
theorem dX9_book_156 : decode cX9_book 156 = .ok (.iadd, 1) := by decide +kernel
theorem dX9_book_157 : decode cX9_book 157 = .ok (.istore 5, 2) := by decide +kernel
theorem dX9_book_159 : decode cX9_book 159 = .ok (.iload 6, 2) := by decide +kernel
theorem dX9_book_161 : decode cX9_book 161 = .ok (.aload_n 0, 1) := by decide +kernel
theorem dX9_book_162 : decode cX9_book 162 = .ok (.getfield 52, 3) := by decide +kernel
theorem dX9_book_165 : decode cX9_book 165 = .ok (.iload 7, 2) := by decide +kernel
theorem dX9_book_167 : decode cX9_book 167 = .ok (.invokestatic 56, 3) := by decide +kernel
theorem dX9_book_170 : decode cX9_book 170 = .ok (.ifCond .eq 17, 3) := by decide +kernel
theorem dX9_book_173 : decode cX9_book 173 = .ok (.aload_n 0, 1) := by decide +kernel
theorem dX9_book_174 : decode cX9_book 174 = .ok (.getfield 13, 3) := by decide +kernel
theorem dX9_book_177 : decode cX9_book 177 = .ok (.iload 7, 2) := by decide +kernel
theorem dX9_book_179 : decode cX9_book 179 = .ok (.iaload, 1) := by decide +kernel
theorem dX9_book_180 : decode cX9_book 180 = .ok (.ifCond .ne 7, 3) := by decide +kernel
theorem dX9_book_183 : decode cX9_book 183 = .ok (.iconst 1, 1) := by decide +kernel
theorem dX9_book_184 : decode cX9_book 184 = .ok (.goto 4, 3) := by decide +kernel
theorem dX9_book_187 : decode cX9_book 187 = .ok (.iconst 0, 1) := by decide +kernel
theorem dX9_book_188 : decode cX9_book 188 = .ok (.iadd, 1) := by decide +kernel
theorem dX9_book_189 : decode cX9_book 189 = .ok (.istore 6, 2) := by decide +kernel
theorem dX9_book_191 : decode cX9_book 191 = .ok (.iinc 7 1, 3) := by decide +kernel
theorem dX9_book_194 : decode cX9_book 194 = .ok (.goto (-73), 3) := by decide +kernel
theorem dX9_book_197 : decode cX9_book 197 = .ok (.iload_n 3, 1) := by decide +kernel
theorem dX9_book_198 : decode cX9_book 198 = .ok (.ifCond .ne 8, 3) := by decide +kernel
theorem dX9_book_201 : decode cX9_book 201 = .ok (.iload 5, 2) := by decide +kernel
theorem dX9_book_203 : decode cX9_book 203 = .ok (.goto 17, 3) := by decide +kernel
theorem dX9_book_206 : decode cX9_book 206 = .ok (.iload_n 3, 1) := by decide +kernel
theorem dX9_book_207 : decode cX9_book 207 = .ok (.iconst 1, 1) := by decide +kernel
theorem dX9_book_208 : decode cX9_book 208 = .ok (.if_icmp .ne 10, 3) := by decide +kernel
theorem dX9_book_211 : decode cX9_book 211 = .ok (.aload_n 0, 1) := by decide +kernel
theorem dX9_book_212 : decode cX9_book 212 = .ok (.getfield 87, 3) := by decide +kernel
theorem dX9_book_215 : decode cX9_book 215 = .ok (.goto 5, 3) := by decide +kernel
theorem dX9_book_218 : decode cX9_book 218 = .ok (.iload 6, 2) := by decide +kernel
theorem dX9_book_220 : decode cX9_book 220 = .ok (.ireturn, 1) := by decide +kernel
theorem dX9_image_0 : decode cX9_image 0 = .ok (.iload_n 1, 1) := by decide +kernel
theorem dX9_image_1 : decode cX9_image 1 = .ok (.iconst 0, 1) := by decide +kernel
theorem dX9_image_2 : decode cX9_image 2 = .ok (.iconst 1, 1) := by decide +kernel
theorem dX9_image_3 : decode cX9_image 3 = .ok (.invokestatic 48, 3) := by decide +kernel
theorem dX9_image_6 : decode cX9_image 6 = .ok (.ifCond .ne 6, 3) := by decide +kernel
theorem dX9_image_9 : decode cX9_image 9 = .ok (.bipush (-2), 2) := by decide +kernel
theorem dX9_image_11 : decode cX9_image 11 = .ok (.ireturn, 1) := by decide +kernel
theorem dX9_image_12 : decode cX9_image 12 = .ok (.sipush 130, 3) := by decide +kernel
theorem dX9_image_15 : decode cX9_image 15 = .ok (.iload_n 1, 1) := by decide +kernel
theorem dX9_image_16 : decode cX9_image 16 = .ok (.imul, 1) := by decide +kernel
theorem dX9_image_17 : decode cX9_image 17 = .ok (.istore_n 2, 1) := by decide +kernel
theorem dX9_image_18 : decode cX9_image 18 = .ok (.iconst 0, 1) := by decide +kernel
theorem dX9_image_19 : decode cX9_image 19 = .ok (.istore_n 3, 1) := by decide +kernel
theorem dX9_image_20 : decode cX9_image 20 = .ok (.iload_n 3, 1) := by decide +kernel
theorem dX9_image_21 : decode cX9_image 21 = .ok (.bipush 61, 2) := by decide +kernel
theorem dX9_image_23 : decode cX9_image 23 = .ok (.if_icmp .ge 23, 3) := by decide +kernel
theorem dX9_image_26 : decode cX9_image 26 = .ok (.aload_n 0, 1) := by decide +kernel
theorem dX9_image_27 : decode cX9_image 27 = .ok (.getfield 41, 3) := by decide +kernel
theorem dX9_image_30 : decode cX9_image 30 = .ok (.iload_n 2, 1) := by decide +kernel
theorem dX9_image_31 : decode cX9_image 31 = .ok (.iload_n 3, 1) := by decide +kernel
theorem dX9_image_32 : decode cX9_image 32 = .ok (.iadd, 1) := by decide +kernel
theorem dX9_image_33 : decode cX9_image 33 = .ok (.aload_n 0, 1) := by decide +kernel
theorem dX9_image_34 : decode cX9_image 34 = .ok (.getfield 7, 3) := by decide +kernel
theorem dX9_image_37 : decode cX9_image 37 = .ok (.iload_n 3, 1) := by decide +kernel
theorem dX9_image_38 : decode cX9_image 38 = .ok (.iaload, 1) := by decide +kernel
theorem dX9_image_39 : decode cX9_image 39 = .ok (.iastore, 1) := by decide +kernel
theorem dX9_image_40 : decode cX9_image 40 = .ok (.iinc 3 1, 3) := by decide +kernel
theorem dX9_image_43 : decode cX9_image 43 = .ok (.goto (-23), 3) := by decide +kernel
theorem dX9_image_46 : decode cX9_image 46 = .ok (.iconst 0, 1) := by decide +kernel
theorem dX9_image_47 : decode cX9_image 47 = .ok (.istore_n 3, 1) := by decide +kernel
theorem dX9_image_48 : decode cX9_image 48 = .ok (.iload_n 3, 1) := by decide +kernel
theorem dX9_image_49 : decode cX9_image 49 = .ok (.bipush 6, 2) := by decide +kernel
theorem dX9_image_51 : decode cX9_image 51 = .ok (.if_icmp .ge 26, 3) := by decide +kernel
theorem dX9_image_54 : decode cX9_image 54 = .ok (.aload_n 0, 1) := by decide +kernel
theorem dX9_image_55 : decode cX9_image 55 = .ok (.getfield 41, 3) := by decide +kernel
theorem dX9_image_58 : decode cX9_image 58 = .ok (.iload_n 2, 1) := by decide +kernel
theorem dX9_image_59 : decode cX9_image 59 = .ok (.bipush 61, 2) := by decide +kernel
theorem dX9_image_61 : decode cX9_image 61 = .ok (.iadd, 1) := by decide +kernel
theorem dX9_image_62 : decode cX9_image 62 = .ok (.iload_n 3, 1) := by decide +kernel
theorem dX9_image_63 : decode cX9_image 63 = .ok (.iadd, 1) := by decide +kernel
theorem dX9_image_64 : decode cX9_image 64 = .ok (.aload_n 0, 1) := by decide +kernel
theorem dX9_image_65 : decode cX9_image 65 = .ok (.getfield 16, 3) := by decide +kernel
theorem dX9_image_68 : decode cX9_image 68 = .ok (.iload_n 3, 1) := by decide +kernel
theorem dX9_image_69 : decode cX9_image 69 = .ok (.iaload, 1) := by decide +kernel
theorem dX9_image_70 : decode cX9_image 70 = .ok (.iastore, 1) := by decide +kernel
theorem dX9_image_71 : decode cX9_image 71 = .ok (.iinc 3 1, 3) := by decide +kernel
theorem dX9_image_74 : decode cX9_image 74 = .ok (.goto (-26), 3) := by decide +kernel
theorem dX9_image_77 : decode cX9_image 77 = .ok (.iconst 0, 1) := by decide +kernel
theorem dX9_image_78 : decode cX9_image 78 = .ok (.istore_n 3, 1) := by decide +kernel
theorem dX9_image_79 : decode cX9_image 79 = .ok (.iload_n 3, 1) := by decide +kernel
theorem dX9_image_80 : decode cX9_image 80 = .ok (.bipush 10, 2) := by decide +kernel
theorem dX9_image_82 : decode cX9_image 82 = .ok (.if_icmp .ge 26, 3) := by decide +kernel
theorem dX9_image_85 : decode cX9_image 85 = .ok (.aload_n 0, 1) := by decide +kernel
theorem dX9_image_86 : decode cX9_image 86 = .ok (.getfield 41, 3) := by decide +kernel
theorem dX9_image_89 : decode cX9_image 89 = .ok (.iload_n 2, 1) := by decide +kernel
theorem dX9_image_90 : decode cX9_image 90 = .ok (.bipush 70, 2) := by decide +kernel
theorem dX9_image_92 : decode cX9_image 92 = .ok (.iadd, 1) := by decide +kernel
theorem dX9_image_93 : decode cX9_image 93 = .ok (.iload_n 3, 1) := by decide +kernel
theorem dX9_image_94 : decode cX9_image 94 = .ok (.iadd, 1) := by decide +kernel
theorem dX9_image_95 : decode cX9_image 95 = .ok (.aload_n 0, 1) := by decide +kernel
theorem dX9_image_96 : decode cX9_image 96 = .ok (.getfield 19, 3) := by decide +kernel
theorem dX9_image_99 : decode cX9_image 99 = .ok (.iload_n 3, 1) := by decide +kernel
theorem dX9_image_100 : decode cX9_image 100 = .ok (.iaload, 1) := by decide +kernel
theorem dX9_image_101 : decode cX9_image 101 = .ok (.iastore, 1) := by decide +kernel
theorem dX9_image_102 : decode cX9_image 102 = .ok (.iinc 3 1, 3) := by decide +kernel
theorem dX9_image_105 : decode cX9_image 105 = .ok (.goto (-26), 3) := by decide +kernel
theorem dX9_image_108 : decode cX9_image 108 = .ok (.iconst 0, 1) := by decide +kernel
theorem dX9_image_109 : decode cX9_image 109 = .ok (.istore_n 3, 1) := by decide +kernel
theorem dX9_image_110 : decode cX9_image 110 = .ok (.iload_n 3, 1) := by decide +kernel
theorem dX9_image_111 : decode cX9_image 111 = .ok (.bipush 32, 2) := by decide +kernel
theorem dX9_image_113 : decode cX9_image 113 = .ok (.if_icmp .ge 26, 3) := by decide +kernel
theorem dX9_image_116 : decode cX9_image 116 = .ok (.aload_n 0, 1) := by decide +kernel
theorem dX9_image_117 : decode cX9_image 117 = .ok (.getfield 41, 3) := by decide +kernel
theorem dX9_image_120 : decode cX9_image 120 = .ok (.iload_n 2, 1) := by decide +kernel
theorem dX9_image_121 : decode cX9_image 121 = .ok (.bipush 80, 2) := by decide +kernel
theorem dX9_image_123 : decode cX9_image 123 = .ok (.iadd, 1) := by decide +kernel
theorem dX9_image_124 : decode cX9_image 124 = .ok (.iload_n 3, 1) := by decide +kernel
theorem dX9_image_125 : decode cX9_image 125 = .ok (.iadd, 1) := by decide +kernel
theorem dX9_image_126 : decode cX9_image 126 = .ok (.aload_n 0, 1) := by decide +kernel
theorem dX9_image_127 : decode cX9_image 127 = .ok (.getfield 22, 3) := by decide +kernel
theorem dX9_image_130 : decode cX9_image 130 = .ok (.iload_n 3, 1) := by decide +kernel
theorem dX9_image_131 : decode cX9_image 131 = .ok (.iaload, 1) := by decide +kernel
theorem dX9_image_132 : decode cX9_image 132 = .ok (.iastore, 1) := by decide +kernel
theorem dX9_image_133 : decode cX9_image 133 = .ok (.iinc 3 1, 3) := by decide +kernel
theorem dX9_image_136 : decode cX9_image 136 = .ok (.goto (-26), 3) := by decide +kernel
theorem dX9_image_139 : decode cX9_image 139 = .ok (.aload_n 0, 1) := by decide +kernel
theorem dX9_image_140 : decode cX9_image 140 = .ok (.getfield 41, 3) := by decide +kernel
theorem dX9_image_143 : decode cX9_image 143 = .ok (.iload_n 2, 1) := by decide +kernel
theorem dX9_image_144 : decode cX9_image 144 = .ok (.bipush 120, 2) := by decide +kernel
theorem dX9_image_146 : decode cX9_image 146 = .ok (.iadd, 1) := by decide +kernel
theorem dX9_image_147 : decode cX9_image 147 = .ok (.aload_n 0, 1) := by decide +kernel
theorem dX9_image_148 : decode cX9_image 148 = .ok (.getfield 52, 3) := by decide +kernel
theorem dX9_image_151 : decode cX9_image 151 = .ok (.iastore, 1) := by decide +kernel
theorem dX9_image_152 : decode cX9_image 152 = .ok (.aload_n 0, 1) := by decide +kernel
theorem dX9_image_153 : decode cX9_image 153 = .ok (.getfield 41, 3) := by decide +kernel
theorem dX9_image_156 : decode cX9_image 156 = .ok (.iload_n 2, 1) := by decide +kernel
theorem dX9_image_157 : decode cX9_image 157 = .ok (.bipush 121, 2) := by decide +kernel
theorem dX9_image_159 : decode cX9_image 159 = .ok (.iadd, 1) := by decide +kernel
theorem dX9_image_160 : decode cX9_image 160 = .ok (.aload_n 0, 1) := by decide +kernel
theorem dX9_image_161 : decode cX9_image 161 = .ok (.getfield 183, 3) := by decide +kernel
theorem dX9_image_164 : decode cX9_image 164 = .ok (.iastore, 1) := by decide +kernel
theorem dX9_image_165 : decode cX9_image 165 = .ok (.aload_n 0, 1) := by decide +kernel
theorem dX9_image_166 : decode cX9_image 166 = .ok (.getfield 44, 3) := by decide +kernel
theorem dX9_image_169 : decode cX9_image 169 = .ok (.iload_n 1, 1) := by decide +kernel
theorem dX9_image_170 : decode cX9_image 170 = .ok (.iconst 1, 1) := by decide +kernel
theorem dX9_image_171 : decode cX9_image 171 = .ok (.bastore, 1) := by decide +kernel
theorem dX9_image_172 : decode cX9_image 172 = .ok (.iconst 1, 1) := by decide +kernel
theorem dX9_image_173 : decode cX9_image 173 = .ok (.ireturn, 1) := by decide +kernel
theorem dX9_restore_0 : decode cX9_restore 0 = .ok (.iload_n 1, 1) := by decide +kernel
theorem dX9_restore_1 : decode cX9_restore 1 = .ok (.iconst 0, 1) := by decide +kernel
theorem dX9_restore_2 : decode cX9_restore 2 = .ok (.iconst 1, 1) := by decide +kernel
theorem dX9_restore_3 : decode cX9_restore 3 = .ok (.invokestatic 48, 3) := by decide +kernel
theorem dX9_restore_6 : decode cX9_restore 6 = .ok (.ifCond .ne 6, 3) := by decide +kernel
theorem dX9_restore_9 : decode cX9_restore 9 = .ok (.bipush (-2), 2) := by decide +kernel
theorem dX9_restore_11 : decode cX9_restore 11 = .ok (.ireturn, 1) := by decide +kernel
theorem dX9_restore_12 : decode cX9_restore 12 = .ok (.aload_n 0, 1) := by decide +kernel
theorem dX9_restore_13 : decode cX9_restore 13 = .ok (.getfield 44, 3) := by decide +kernel
theorem dX9_restore_16 : decode cX9_restore 16 = .ok (.iload_n 1, 1) := by decide +kernel
theorem dX9_restore_17 : decode cX9_restore 17 = .ok (.baload, 1) := by decide +kernel
theorem dX9_restore_18 : decode cX9_restore 18 = .ok (.ifCond .ne 6, 3) := by decide +kernel
theorem dX9_restore_21 : decode cX9_restore 21 = .ok (.bipush (-3), 2) := by decide +kernel
theorem dX9_restore_23 : decode cX9_restore 23 = .ok (.ireturn, 1) := by decide +kernel
theorem dX9_restore_24 : decode cX9_restore 24 = .ok (.sipush 130, 3) := by decide +kernel
theorem dX9_restore_27 : decode cX9_restore 27 = .ok (.iload_n 1, 1) := by decide +kernel
theorem dX9_restore_28 : decode cX9_restore 28 = .ok (.imul, 1) := by decide +kernel
theorem dX9_restore_29 : decode cX9_restore 29 = .ok (.istore_n 2, 1) := by decide +kernel
theorem dX9_restore_30 : decode cX9_restore 30 = .ok (.iconst 0, 1) := by decide +kernel
theorem dX9_restore_31 : decode cX9_restore 31 = .ok (.istore_n 3, 1) := by decide +kernel
theorem dX9_restore_32 : decode cX9_restore 32 = .ok (.iload_n 3, 1) := by decide +kernel
theorem dX9_restore_33 : decode cX9_restore 33 = .ok (.bipush 61, 2) := by decide +kernel
theorem dX9_restore_35 : decode cX9_restore 35 = .ok (.if_icmp .ge 23, 3) := by decide +kernel
theorem dX9_restore_38 : decode cX9_restore 38 = .ok (.aload_n 0, 1) := by decide +kernel
theorem dX9_restore_39 : decode cX9_restore 39 = .ok (.getfield 7, 3) := by decide +kernel
theorem dX9_restore_42 : decode cX9_restore 42 = .ok (.iload_n 3, 1) := by decide +kernel
theorem dX9_restore_43 : decode cX9_restore 43 = .ok (.aload_n 0, 1) := by decide +kernel
theorem dX9_restore_44 : decode cX9_restore 44 = .ok (.getfield 41, 3) := by decide +kernel
theorem dX9_restore_47 : decode cX9_restore 47 = .ok (.iload_n 2, 1) := by decide +kernel
theorem dX9_restore_48 : decode cX9_restore 48 = .ok (.iload_n 3, 1) := by decide +kernel
theorem dX9_restore_49 : decode cX9_restore 49 = .ok (.iadd, 1) := by decide +kernel
theorem dX9_restore_50 : decode cX9_restore 50 = .ok (.iaload, 1) := by decide +kernel
theorem dX9_restore_51 : decode cX9_restore 51 = .ok (.iastore, 1) := by decide +kernel
theorem dX9_restore_52 : decode cX9_restore 52 = .ok (.iinc 3 1, 3) := by decide +kernel
theorem dX9_restore_55 : decode cX9_restore 55 = .ok (.goto (-23), 3) := by decide +kernel
theorem dX9_restore_58 : decode cX9_restore 58 = .ok (.iconst 0, 1) := by decide +kernel
theorem dX9_restore_59 : decode cX9_restore 59 = .ok (.istore_n 3, 1) := by decide +kernel
theorem dX9_restore_60 : decode cX9_restore 60 = .ok (.iload_n 3, 1) := by decide +kernel
theorem dX9_restore_61 : decode cX9_restore 61 = .ok (.bipush 6, 2) := by decide +kernel
theorem dX9_restore_63 : decode cX9_restore 63 = .ok (.if_icmp .ge 26, 3) := by decide +kernel
theorem dX9_restore_66 : decode cX9_restore 66 = .ok (.aload_n 0, 1) := by decide +kernel
theorem dX9_restore_67 : decode cX9_restore 67 = .ok (.getfield 16, 3) := by decide +kernel
theorem dX9_restore_70 : decode cX9_restore 70 = .ok (.iload_n 3, 1) := by decide +kernel
theorem dX9_restore_71 : decode cX9_restore 71 = .ok (.aload_n 0, 1) := by decide +kernel
theorem dX9_restore_72 : decode cX9_restore 72 = .ok (.getfield 41, 3) := by decide +kernel
theorem dX9_restore_75 : decode cX9_restore 75 = .ok (.iload_n 2, 1) := by decide +kernel
theorem dX9_restore_76 : decode cX9_restore 76 = .ok (.bipush 61, 2) := by decide +kernel
theorem dX9_restore_78 : decode cX9_restore 78 = .ok (.iadd, 1) := by decide +kernel
theorem dX9_restore_79 : decode cX9_restore 79 = .ok (.iload_n 3, 1) := by decide +kernel
theorem dX9_restore_80 : decode cX9_restore 80 = .ok (.iadd, 1) := by decide +kernel
theorem dX9_restore_81 : decode cX9_restore 81 = .ok (.iaload, 1) := by decide +kernel
theorem dX9_restore_82 : decode cX9_restore 82 = .ok (.iastore, 1) := by decide +kernel
theorem dX9_restore_83 : decode cX9_restore 83 = .ok (.iinc 3 1, 3) := by decide +kernel
theorem dX9_restore_86 : decode cX9_restore 86 = .ok (.goto (-26), 3) := by decide +kernel
theorem dX9_restore_89 : decode cX9_restore 89 = .ok (.iconst 0, 1) := by decide +kernel
theorem dX9_restore_90 : decode cX9_restore 90 = .ok (.istore_n 3, 1) := by decide +kernel
theorem dX9_restore_91 : decode cX9_restore 91 = .ok (.iload_n 3, 1) := by decide +kernel
theorem dX9_restore_92 : decode cX9_restore 92 = .ok (.bipush 10, 2) := by decide +kernel
theorem dX9_restore_94 : decode cX9_restore 94 = .ok (.if_icmp .ge 26, 3) := by decide +kernel
theorem dX9_restore_97 : decode cX9_restore 97 = .ok (.aload_n 0, 1) := by decide +kernel
theorem dX9_restore_98 : decode cX9_restore 98 = .ok (.getfield 19, 3) := by decide +kernel
theorem dX9_restore_101 : decode cX9_restore 101 = .ok (.iload_n 3, 1) := by decide +kernel
theorem dX9_restore_102 : decode cX9_restore 102 = .ok (.aload_n 0, 1) := by decide +kernel
theorem dX9_restore_103 : decode cX9_restore 103 = .ok (.getfield 41, 3) := by decide +kernel
theorem dX9_restore_106 : decode cX9_restore 106 = .ok (.iload_n 2, 1) := by decide +kernel
theorem dX9_restore_107 : decode cX9_restore 107 = .ok (.bipush 70, 2) := by decide +kernel
theorem dX9_restore_109 : decode cX9_restore 109 = .ok (.iadd, 1) := by decide +kernel
theorem dX9_restore_110 : decode cX9_restore 110 = .ok (.iload_n 3, 1) := by decide +kernel
theorem dX9_restore_111 : decode cX9_restore 111 = .ok (.iadd, 1) := by decide +kernel
theorem dX9_restore_112 : decode cX9_restore 112 = .ok (.iaload, 1) := by decide +kernel
theorem dX9_restore_113 : decode cX9_restore 113 = .ok (.iastore, 1) := by decide +kernel
theorem dX9_restore_114 : decode cX9_restore 114 = .ok (.iinc 3 1, 3) := by decide +kernel
theorem dX9_restore_117 : decode cX9_restore 117 = .ok (.goto (-26), 3) := by decide +kernel
theorem dX9_restore_120 : decode cX9_restore 120 = .ok (.iconst 0, 1) := by decide +kernel
theorem dX9_restore_121 : decode cX9_restore 121 = .ok (.istore_n 3, 1) := by decide +kernel
theorem dX9_restore_122 : decode cX9_restore 122 = .ok (.iload_n 3, 1) := by decide +kernel
theorem dX9_restore_123 : decode cX9_restore 123 = .ok (.bipush 32, 2) := by decide +kernel
theorem dX9_restore_125 : decode cX9_restore 125 = .ok (.if_icmp .ge 26, 3) := by decide +kernel
theorem dX9_restore_128 : decode cX9_restore 128 = .ok (.aload_n 0, 1) := by decide +kernel
theorem dX9_restore_129 : decode cX9_restore 129 = .ok (.getfield 22, 3) := by decide +kernel
theorem dX9_restore_132 : decode cX9_restore 132 = .ok (.iload_n 3, 1) := by decide +kernel
theorem dX9_restore_133 : decode cX9_restore 133 = .ok (.aload_n 0, 1) := by decide +kernel
theorem dX9_restore_134 : decode cX9_restore 134 = .ok (.getfield 41, 3) := by decide +kernel
theorem dX9_restore_137 : decode cX9_restore 137 = .ok (.iload_n 2, 1) := by decide +kernel
theorem dX9_restore_138 : decode cX9_restore 138 = .ok (.bipush 80, 2) := by decide +kernel
theorem dX9_restore_140 : decode cX9_restore 140 = .ok (.iadd, 1) := by decide +kernel
theorem dX9_restore_141 : decode cX9_restore 141 = .ok (.iload_n 3, 1) := by decide +kernel
theorem dX9_restore_142 : decode cX9_restore 142 = .ok (.iadd, 1) := by decide +kernel
theorem dX9_restore_143 : decode cX9_restore 143 = .ok (.iaload, 1) := by decide +kernel
theorem dX9_restore_144 : decode cX9_restore 144 = .ok (.iastore, 1) := by decide +kernel
theorem dX9_restore_145 : decode cX9_restore 145 = .ok (.iinc 3 1, 3) := by decide +kernel
theorem dX9_restore_148 : decode cX9_restore 148 = .ok (.goto (-26), 3) := by decide +kernel
theorem dX9_restore_151 : decode cX9_restore 151 = .ok (.aload_n 0, 1) := by decide +kernel
theorem dX9_restore_152 : decode cX9_restore 152 = .ok (.aload_n 0, 1) := by decide +kernel
theorem dX9_restore_153 : decode cX9_restore 153 = .ok (.getfield 41, 3) := by decide +kernel
theorem dX9_restore_156 : decode cX9_restore 156 = .ok (.iload_n 2, 1) := by decide +kernel
theorem dX9_restore_157 : decode cX9_restore 157 = .ok (.bipush 120, 2) := by decide +kernel
theorem dX9_restore_159 : decode cX9_restore 159 = .ok (.iadd, 1) := by decide +kernel
theorem dX9_restore_160 : decode cX9_restore 160 = .ok (.iaload, 1) := by decide +kernel
theorem dX9_restore_161 : decode cX9_restore 161 = .ok (.putfield 52, 3) := by decide +kernel
theorem dX9_restore_164 : decode cX9_restore 164 = .ok (.aload_n 0, 1) := by decide +kernel
theorem dX9_restore_165 : decode cX9_restore 165 = .ok (.aload_n 0, 1) := by decide +kernel
theorem dX9_restore_166 : decode cX9_restore 166 = .ok (.getfield 41, 3) := by decide +kernel
theorem dX9_restore_169 : decode cX9_restore 169 = .ok (.iload_n 2, 1) := by decide +kernel
theorem dX9_restore_170 : decode cX9_restore 170 = .ok (.bipush 121, 2) := by decide +kernel
theorem dX9_restore_172 : decode cX9_restore 172 = .ok (.iadd, 1) := by decide +kernel
theorem dX9_restore_173 : decode cX9_restore 173 = .ok (.iaload, 1) := by decide +kernel
theorem dX9_restore_174 : decode cX9_restore 174 = .ok (.putfield 183, 3) := by decide +kernel
theorem dX9_restore_177 : decode cX9_restore 177 = .ok (.iconst 1, 1) := by decide +kernel
theorem dX9_restore_178 : decode cX9_restore 178 = .ok (.ireturn, 1) := by decide +kernel
end
section
theorem dX9_told_0 : decode cX9_told 0 = .ok (.iload_n 1, 1) := by decide +kernel
theorem dX9_told_1 : decode cX9_told 1 = .ok (.bipush 20, 2) := by decide +kernel
theorem dX9_told_3 : decode cX9_told 3 = .ok (.if_icmp .lt 29, 3) := by decide +kernel
theorem dX9_told_6 : decode cX9_told 6 = .ok (.aload_n 0, 1) := by decide +kernel
theorem dX9_told_7 : decode cX9_told 7 = .ok (.iload_n 1, 1) := by decide +kernel
theorem dX9_told_8 : decode cX9_told 8 = .ok (.bipush 20, 2) := by decide +kernel
theorem dX9_told_10 : decode cX9_told 10 = .ok (.isub, 1) := by decide +kernel
theorem dX9_told_11 : decode cX9_told 11 = .ok (.invokevirtual 64, 3) := by decide +kernel
theorem dX9_told_14 : decode cX9_told 14 = .ok (.ifCond .eq 15, 3) := by decide +kernel
theorem dX9_told_17 : decode cX9_told 17 = .ok (.aload_n 0, 1) := by decide +kernel
theorem dX9_told_18 : decode cX9_told 18 = .ok (.getfield 16, 3) := by decide +kernel
theorem dX9_told_21 : decode cX9_told 21 = .ok (.iload_n 1, 1) := by decide +kernel
theorem dX9_told_22 : decode cX9_told 22 = .ok (.bipush 20, 2) := by decide +kernel
theorem dX9_told_24 : decode cX9_told 24 = .ok (.isub, 1) := by decide +kernel
theorem dX9_told_25 : decode cX9_told 25 = .ok (.iaload, 1) := by decide +kernel
theorem dX9_told_26 : decode cX9_told 26 = .ok (.goto 5, 3) := by decide +kernel
theorem dX9_told_29 : decode cX9_told 29 = .ok (.bipush (-2), 2) := by decide +kernel
theorem dX9_told_31 : decode cX9_told 31 = .ok (.ireturn, 1) := by decide +kernel
theorem dX9_told_32 : decode cX9_told 32 = .ok (.iload_n 1, 1) := by decide +kernel
theorem dX9_told_33 : decode cX9_told 33 = .ok (.bipush 10, 2) := by decide +kernel
theorem dX9_told_35 : decode cX9_told 35 = .ok (.if_icmp .lt 29, 3) := by decide +kernel
theorem dX9_told_38 : decode cX9_told 38 = .ok (.iload_n 1, 1) := by decide +kernel
theorem dX9_told_39 : decode cX9_told 39 = .ok (.bipush 11, 2) := by decide +kernel
theorem dX9_told_41 : decode cX9_told 41 = .ok (.bipush 19, 2) := by decide +kernel
theorem dX9_told_43 : decode cX9_told 43 = .ok (.invokestatic 48, 3) := by decide +kernel
theorem dX9_told_46 : decode cX9_told 46 = .ok (.ifCond .eq 15, 3) := by decide +kernel
theorem dX9_told_49 : decode cX9_told 49 = .ok (.aload_n 0, 1) := by decide +kernel
theorem dX9_told_50 : decode cX9_told 50 = .ok (.getfield 19, 3) := by decide +kernel
theorem dX9_told_53 : decode cX9_told 53 = .ok (.iload_n 1, 1) := by decide +kernel
theorem dX9_told_54 : decode cX9_told 54 = .ok (.bipush 10, 2) := by decide +kernel
theorem dX9_told_56 : decode cX9_told 56 = .ok (.isub, 1) := by decide +kernel
theorem dX9_told_57 : decode cX9_told 57 = .ok (.iaload, 1) := by decide +kernel
theorem dX9_told_58 : decode cX9_told 58 = .ok (.goto 5, 3) := by decide +kernel
theorem dX9_told_61 : decode cX9_told 61 = .ok (.bipush (-2), 2) := by decide +kernel
theorem dX9_told_63 : decode cX9_told 63 = .ok (.ireturn, 1) := by decide +kernel
theorem dX9_told_64 : decode cX9_told 64 = .ok (.iload_n 1, 1) := by decide +kernel
theorem dX9_told_65 : decode cX9_told 65 = .ok (.tableswitch 45 0 2 #[27, 32, 37], 27) := by decide +kernel
theorem dX9_told_92 : decode cX9_told 92 = .ok (.aload_n 0, 1) := by decide +kernel
theorem dX9_told_93 : decode cX9_told 93 = .ok (.getfield 68, 3) := by decide +kernel
theorem dX9_told_96 : decode cX9_told 96 = .ok (.ireturn, 1) := by decide +kernel
theorem dX9_told_97 : decode cX9_told 97 = .ok (.aload_n 0, 1) := by decide +kernel
theorem dX9_told_98 : decode cX9_told 98 = .ok (.getfield 52, 3) := by decide +kernel
theorem dX9_told_101 : decode cX9_told 101 = .ok (.ireturn, 1) := by decide +kernel
theorem dX9_told_102 : decode cX9_told 102 = .ok (.aload_n 0, 1) := by decide +kernel
theorem dX9_told_103 : decode cX9_told 103 = .ok (.getfield 7, 3) := by decide +kernel
theorem dX9_told_106 : decode cX9_told 106 = .ok (.bipush 60, 2) := by decide +kernel
theorem dX9_told_108 : decode cX9_told 108 = .ok (.iaload, 1) := by decide +kernel
theorem dX9_told_109 : decode cX9_told 109 = .ok (.ireturn, 1) := by decide +kernel
theorem dX9_told_110 : decode cX9_told 110 = .ok (.iload_n 1, 1) := by decide +kernel
theorem dX9_told_111 : decode cX9_told 111 = .ok (.iconst 3, 1) := by decide +kernel
theorem dX9_told_112 : decode cX9_told 112 = .ok (.if_icmp .ne 10, 3) := by decide +kernel
theorem dX9_told_115 : decode cX9_told 115 = .ok (.aload_n 0, 1) := by decide +kernel
theorem dX9_told_116 : decode cX9_told 116 = .ok (.getfield 183, 3) := by decide +kernel
theorem dX9_told_119 : decode cX9_told 119 = .ok (.goto 5, 3) := by decide +kernel
theorem dX9_told_122 : decode cX9_told 122 = .ok (.bipush (-2), 2) := by decide +kernel
theorem dX9_told_124 : decode cX9_told 124 = .ok (.ireturn, 1) := by decide +kernel
end
section
theorem dL_law_0 : decode cL_law 0 = .ok (.new 7, 3) := by decide +kernel
theorem dL_law_3 : decode cL_law 3 = .ok (.dup, 1) := by decide +kernel
theorem dL_law_4 : decode cL_law 4 = .ok (.invokespecial 9, 3) := by decide +kernel
theorem dL_law_7 : decode cL_law 7 = .ok (.astore_n 1, 1) := by decide +kernel
theorem dL_law_8 : decode cL_law 8 = .ok (.new 10, 3) := by decide +kernel
theorem dL_law_11 : decode cL_law 11 = .ok (.dup, 1) := by decide +kernel
theorem dL_law_12 : decode cL_law 12 = .ok (.invokespecial 12, 3) := by decide +kernel
theorem dL_law_15 : decode cL_law 15 = .ok (.astore_n 2, 1) := by decide +kernel
theorem dL_law_16 : decode cL_law 16 = .ok (.iconst 0, 1) := by decide +kernel
theorem dL_law_17 : decode cL_law 17 = .ok (.istore_n 3, 1) := by decide +kernel
theorem dL_law_18 : decode cL_law 18 = .ok (.iload_n 3, 1) := by decide +kernel
theorem dL_law_19 : decode cL_law 19 = .ok (.aload_n 0, 1) := by decide +kernel
theorem dL_law_20 : decode cL_law 20 = .ok (.arraylength, 1) := by decide +kernel
theorem dL_law_21 : decode cL_law 21 = .ok (.iconst 5, 1) := by decide +kernel
theorem dL_law_22 : decode cL_law 22 = .ok (.isub, 1) := by decide +kernel
theorem dL_law_23 : decode cL_law 23 = .ok (.if_icmp .gt 1068, 3) := by decide +kernel
theorem dL_law_26 : decode cL_law 26 = .ok (.aload_n 0, 1) := by decide +kernel
theorem dL_law_27 : decode cL_law 27 = .ok (.iload_n 3, 1) := by decide +kernel
theorem dL_law_28 : decode cL_law 28 = .ok (.iaload, 1) := by decide +kernel
theorem dL_law_29 : decode cL_law 29 = .ok (.bipush 31, 2) := by decide +kernel
theorem dL_law_31 : decode cL_law 31 = .ok (.iand, 1) := by decide +kernel
theorem dL_law_32 : decode cL_law 32 = .ok (.tableswitch 1053 0 30 #[140, 183, 206, 239, 262, 275, 288, 311, 324, 357, 390, 413, 446, 469, 513, 546, 590, 644, 667, 680, 713, 746, 769, 823, 892, 905, 918, 941, 984, 1007, 1030], 140) := by decide +kernel
theorem dL_law_172 : decode cL_law 172 = .ok (.aload_n 1, 1) := by decide +kernel
theorem dL_law_173 : decode cL_law 173 = .ok (.aload_n 0, 1) := by decide +kernel
theorem dL_law_174 : decode cL_law 174 = .ok (.iload_n 3, 1) := by decide +kernel
theorem dL_law_175 : decode cL_law 175 = .ok (.iconst 1, 1) := by decide +kernel
theorem dL_law_176 : decode cL_law 176 = .ok (.iadd, 1) := by decide +kernel
theorem dL_law_177 : decode cL_law 177 = .ok (.iaload, 1) := by decide +kernel
theorem dL_law_178 : decode cL_law 178 = .ok (.aload_n 0, 1) := by decide +kernel
theorem dL_law_179 : decode cL_law 179 = .ok (.iload_n 3, 1) := by decide +kernel
theorem dL_law_180 : decode cL_law 180 = .ok (.iconst 2, 1) := by decide +kernel
theorem dL_law_181 : decode cL_law 181 = .ok (.iadd, 1) := by decide +kernel
theorem dL_law_182 : decode cL_law 182 = .ok (.iaload, 1) := by decide +kernel
theorem dL_law_183 : decode cL_law 183 = .ok (.aload_n 0, 1) := by decide +kernel
theorem dL_law_184 : decode cL_law 184 = .ok (.iload_n 3, 1) := by decide +kernel
theorem dL_law_185 : decode cL_law 185 = .ok (.iconst 3, 1) := by decide +kernel
theorem dL_law_186 : decode cL_law 186 = .ok (.iadd, 1) := by decide +kernel
theorem dL_law_187 : decode cL_law 187 = .ok (.iaload, 1) := by decide +kernel
theorem dL_law_188 : decode cL_law 188 = .ok (.invokevirtual 13, 3) := by decide +kernel
theorem dL_law_191 : decode cL_law 191 = .ok (.aload_n 2, 1) := by decide +kernel
theorem dL_law_192 : decode cL_law 192 = .ok (.aload_n 0, 1) := by decide +kernel
theorem dL_law_193 : decode cL_law 193 = .ok (.iload_n 3, 1) := by decide +kernel
theorem dL_law_194 : decode cL_law 194 = .ok (.iconst 1, 1) := by decide +kernel
theorem dL_law_195 : decode cL_law 195 = .ok (.iadd, 1) := by decide +kernel
theorem dL_law_196 : decode cL_law 196 = .ok (.iaload, 1) := by decide +kernel
theorem dL_law_197 : decode cL_law 197 = .ok (.aload_n 0, 1) := by decide +kernel
theorem dL_law_198 : decode cL_law 198 = .ok (.iload_n 3, 1) := by decide +kernel
theorem dL_law_199 : decode cL_law 199 = .ok (.iconst 2, 1) := by decide +kernel
theorem dL_law_200 : decode cL_law 200 = .ok (.iadd, 1) := by decide +kernel
theorem dL_law_201 : decode cL_law 201 = .ok (.iaload, 1) := by decide +kernel
theorem dL_law_202 : decode cL_law 202 = .ok (.aload_n 0, 1) := by decide +kernel
theorem dL_law_203 : decode cL_law 203 = .ok (.iload_n 3, 1) := by decide +kernel
theorem dL_law_204 : decode cL_law 204 = .ok (.iconst 3, 1) := by decide +kernel
theorem dL_law_205 : decode cL_law 205 = .ok (.iadd, 1) := by decide +kernel
theorem dL_law_206 : decode cL_law 206 = .ok (.iaload, 1) := by decide +kernel
theorem dL_law_207 : decode cL_law 207 = .ok (.invokevirtual 17, 3) := by decide +kernel
theorem dL_law_210 : decode cL_law 210 = .ok (.if_icmp .eq 875, 3) := by decide +kernel
theorem dL_law_213 : decode cL_law 213 = .ok (.iconst 0, 1) := by decide +kernel
theorem dL_law_214 : decode cL_law 214 = .ok (.ireturn, 1) := by decide +kernel
theorem dL_law_215 : decode cL_law 215 = .ok (.aload_n 1, 1) := by decide +kernel
theorem dL_law_216 : decode cL_law 216 = .ok (.aload_n 0, 1) := by decide +kernel
theorem dL_law_217 : decode cL_law 217 = .ok (.iload_n 3, 1) := by decide +kernel
theorem dL_law_218 : decode cL_law 218 = .ok (.iconst 1, 1) := by decide +kernel
theorem dL_law_219 : decode cL_law 219 = .ok (.iadd, 1) := by decide +kernel
theorem dL_law_220 : decode cL_law 220 = .ok (.iaload, 1) := by decide +kernel
theorem dL_law_221 : decode cL_law 221 = .ok (.invokevirtual 18, 3) := by decide +kernel
theorem dL_law_224 : decode cL_law 224 = .ok (.aload_n 2, 1) := by decide +kernel
theorem dL_law_225 : decode cL_law 225 = .ok (.aload_n 0, 1) := by decide +kernel
theorem dL_law_226 : decode cL_law 226 = .ok (.iload_n 3, 1) := by decide +kernel
theorem dL_law_227 : decode cL_law 227 = .ok (.iconst 1, 1) := by decide +kernel
theorem dL_law_228 : decode cL_law 228 = .ok (.iadd, 1) := by decide +kernel
theorem dL_law_229 : decode cL_law 229 = .ok (.iaload, 1) := by decide +kernel
theorem dL_law_230 : decode cL_law 230 = .ok (.invokevirtual 22, 3) := by decide +kernel
theorem dL_law_233 : decode cL_law 233 = .ok (.if_icmp .eq 852, 3) := by decide +kernel
theorem dL_law_236 : decode cL_law 236 = .ok (.iconst 0, 1) := by decide +kernel
theorem dL_law_237 : decode cL_law 237 = .ok (.ireturn, 1) := by decide +kernel
theorem dL_law_238 : decode cL_law 238 = .ok (.aload_n 1, 1) := by decide +kernel
theorem dL_law_239 : decode cL_law 239 = .ok (.aload_n 0, 1) := by decide +kernel
theorem dL_law_240 : decode cL_law 240 = .ok (.iload_n 3, 1) := by decide +kernel
theorem dL_law_241 : decode cL_law 241 = .ok (.iconst 1, 1) := by decide +kernel
theorem dL_law_242 : decode cL_law 242 = .ok (.iadd, 1) := by decide +kernel
theorem dL_law_243 : decode cL_law 243 = .ok (.iaload, 1) := by decide +kernel
theorem dL_law_244 : decode cL_law 244 = .ok (.aload_n 0, 1) := by decide +kernel
theorem dL_law_245 : decode cL_law 245 = .ok (.iload_n 3, 1) := by decide +kernel
theorem dL_law_246 : decode cL_law 246 = .ok (.iconst 2, 1) := by decide +kernel
theorem dL_law_247 : decode cL_law 247 = .ok (.iadd, 1) := by decide +kernel
theorem dL_law_248 : decode cL_law 248 = .ok (.iaload, 1) := by decide +kernel
theorem dL_law_249 : decode cL_law 249 = .ok (.invokevirtual 23, 3) := by decide +kernel
theorem dL_law_252 : decode cL_law 252 = .ok (.aload_n 2, 1) := by decide +kernel
theorem dL_law_253 : decode cL_law 253 = .ok (.aload_n 0, 1) := by decide +kernel
theorem dL_law_254 : decode cL_law 254 = .ok (.iload_n 3, 1) := by decide +kernel
theorem dL_law_255 : decode cL_law 255 = .ok (.iconst 1, 1) := by decide +kernel
theorem dL_law_256 : decode cL_law 256 = .ok (.iadd, 1) := by decide +kernel
theorem dL_law_257 : decode cL_law 257 = .ok (.iaload, 1) := by decide +kernel
theorem dL_law_258 : decode cL_law 258 = .ok (.aload_n 0, 1) := by decide +kernel
theorem dL_law_259 : decode cL_law 259 = .ok (.iload_n 3, 1) := by decide +kernel
theorem dL_law_260 : decode cL_law 260 = .ok (.iconst 2, 1) := by decide +kernel
theorem dL_law_261 : decode cL_law 261 = .ok (.iadd, 1) := by decide +kernel
theorem dL_law_262 : decode cL_law 262 = .ok (.iaload, 1) := by decide +kernel
theorem dL_law_263 : decode cL_law 263 = .ok (.invokevirtual 27, 3) := by decide +kernel
theorem dL_law_266 : decode cL_law 266 = .ok (.if_icmp .eq 819, 3) := by decide +kernel
theorem dL_law_269 : decode cL_law 269 = .ok (.iconst 0, 1) := by decide +kernel
theorem dL_law_270 : decode cL_law 270 = .ok (.ireturn, 1) := by decide +kernel
theorem dL_law_271 : decode cL_law 271 = .ok (.aload_n 1, 1) := by decide +kernel
theorem dL_law_272 : decode cL_law 272 = .ok (.aload_n 0, 1) := by decide +kernel
theorem dL_law_273 : decode cL_law 273 = .ok (.iload_n 3, 1) := by decide +kernel
theorem dL_law_274 : decode cL_law 274 = .ok (.iconst 1, 1) := by decide +kernel
theorem dL_law_275 : decode cL_law 275 = .ok (.iadd, 1) := by decide +kernel
theorem dL_law_276 : decode cL_law 276 = .ok (.iaload, 1) := by decide +kernel
theorem dL_law_277 : decode cL_law 277 = .ok (.invokevirtual 28, 3) := by decide +kernel
theorem dL_law_280 : decode cL_law 280 = .ok (.aload_n 2, 1) := by decide +kernel
theorem dL_law_281 : decode cL_law 281 = .ok (.aload_n 0, 1) := by decide +kernel
theorem dL_law_282 : decode cL_law 282 = .ok (.iload_n 3, 1) := by decide +kernel
theorem dL_law_283 : decode cL_law 283 = .ok (.iconst 1, 1) := by decide +kernel
theorem dL_law_284 : decode cL_law 284 = .ok (.iadd, 1) := by decide +kernel
theorem dL_law_285 : decode cL_law 285 = .ok (.iaload, 1) := by decide +kernel
theorem dL_law_286 : decode cL_law 286 = .ok (.invokevirtual 31, 3) := by decide +kernel
theorem dL_law_289 : decode cL_law 289 = .ok (.if_icmp .eq 796, 3) := by decide +kernel
theorem dL_law_292 : decode cL_law 292 = .ok (.iconst 0, 1) := by decide +kernel
theorem dL_law_293 : decode cL_law 293 = .ok (.ireturn, 1) := by decide +kernel
theorem dL_law_294 : decode cL_law 294 = .ok (.aload_n 1, 1) := by decide +kernel
theorem dL_law_295 : decode cL_law 295 = .ok (.invokevirtual 32, 3) := by decide +kernel
theorem dL_law_298 : decode cL_law 298 = .ok (.aload_n 2, 1) := by decide +kernel
theorem dL_law_299 : decode cL_law 299 = .ok (.invokevirtual 36, 3) := by decide +kernel
theorem dL_law_302 : decode cL_law 302 = .ok (.if_icmp .eq 783, 3) := by decide +kernel
theorem dL_law_305 : decode cL_law 305 = .ok (.iconst 0, 1) := by decide +kernel
theorem dL_law_306 : decode cL_law 306 = .ok (.ireturn, 1) := by decide +kernel
theorem dL_law_307 : decode cL_law 307 = .ok (.aload_n 1, 1) := by decide +kernel
theorem dL_law_308 : decode cL_law 308 = .ok (.invokevirtual 37, 3) := by decide +kernel
theorem dL_law_311 : decode cL_law 311 = .ok (.aload_n 2, 1) := by decide +kernel
theorem dL_law_312 : decode cL_law 312 = .ok (.invokevirtual 40, 3) := by decide +kernel
theorem dL_law_315 : decode cL_law 315 = .ok (.if_icmp .eq 770, 3) := by decide +kernel
theorem dL_law_318 : decode cL_law 318 = .ok (.iconst 0, 1) := by decide +kernel
theorem dL_law_319 : decode cL_law 319 = .ok (.ireturn, 1) := by decide +kernel
theorem dL_law_320 : decode cL_law 320 = .ok (.aload_n 1, 1) := by decide +kernel
theorem dL_law_321 : decode cL_law 321 = .ok (.aload_n 0, 1) := by decide +kernel
theorem dL_law_322 : decode cL_law 322 = .ok (.iload_n 3, 1) := by decide +kernel
theorem dL_law_323 : decode cL_law 323 = .ok (.iconst 1, 1) := by decide +kernel
theorem dL_law_324 : decode cL_law 324 = .ok (.iadd, 1) := by decide +kernel
theorem dL_law_325 : decode cL_law 325 = .ok (.iaload, 1) := by decide +kernel
theorem dL_law_326 : decode cL_law 326 = .ok (.invokevirtual 41, 3) := by decide +kernel
theorem dL_law_329 : decode cL_law 329 = .ok (.aload_n 2, 1) := by decide +kernel
theorem dL_law_330 : decode cL_law 330 = .ok (.aload_n 0, 1) := by decide +kernel
theorem dL_law_331 : decode cL_law 331 = .ok (.iload_n 3, 1) := by decide +kernel
theorem dL_law_332 : decode cL_law 332 = .ok (.iconst 1, 1) := by decide +kernel
theorem dL_law_333 : decode cL_law 333 = .ok (.iadd, 1) := by decide +kernel
theorem dL_law_334 : decode cL_law 334 = .ok (.iaload, 1) := by decide +kernel
theorem dL_law_335 : decode cL_law 335 = .ok (.invokevirtual 44, 3) := by decide +kernel
theorem dL_law_338 : decode cL_law 338 = .ok (.if_icmp .eq 747, 3) := by decide +kernel
theorem dL_law_341 : decode cL_law 341 = .ok (.iconst 0, 1) := by decide +kernel
theorem dL_law_342 : decode cL_law 342 = .ok (.ireturn, 1) := by decide +kernel
theorem dL_law_343 : decode cL_law 343 = .ok (.aload_n 1, 1) := by decide +kernel
theorem dL_law_344 : decode cL_law 344 = .ok (.invokevirtual 45, 3) := by decide +kernel
theorem dL_law_347 : decode cL_law 347 = .ok (.aload_n 2, 1) := by decide +kernel
theorem dL_law_348 : decode cL_law 348 = .ok (.invokevirtual 48, 3) := by decide +kernel
theorem dL_law_351 : decode cL_law 351 = .ok (.if_icmp .eq 734, 3) := by decide +kernel
theorem dL_law_354 : decode cL_law 354 = .ok (.iconst 0, 1) := by decide +kernel
theorem dL_law_355 : decode cL_law 355 = .ok (.ireturn, 1) := by decide +kernel
theorem dL_law_356 : decode cL_law 356 = .ok (.aload_n 1, 1) := by decide +kernel
theorem dL_law_357 : decode cL_law 357 = .ok (.aload_n 0, 1) := by decide +kernel
theorem dL_law_358 : decode cL_law 358 = .ok (.iload_n 3, 1) := by decide +kernel
theorem dL_law_359 : decode cL_law 359 = .ok (.iconst 1, 1) := by decide +kernel
theorem dL_law_360 : decode cL_law 360 = .ok (.iadd, 1) := by decide +kernel
theorem dL_law_361 : decode cL_law 361 = .ok (.iaload, 1) := by decide +kernel
theorem dL_law_362 : decode cL_law 362 = .ok (.aload_n 0, 1) := by decide +kernel
theorem dL_law_363 : decode cL_law 363 = .ok (.iload_n 3, 1) := by decide +kernel
theorem dL_law_364 : decode cL_law 364 = .ok (.iconst 2, 1) := by decide +kernel
theorem dL_law_365 : decode cL_law 365 = .ok (.iadd, 1) := by decide +kernel
theorem dL_law_366 : decode cL_law 366 = .ok (.iaload, 1) := by decide +kernel
theorem dL_law_367 : decode cL_law 367 = .ok (.invokevirtual 49, 3) := by decide +kernel
theorem dL_law_370 : decode cL_law 370 = .ok (.aload_n 2, 1) := by decide +kernel
theorem dL_law_371 : decode cL_law 371 = .ok (.aload_n 0, 1) := by decide +kernel
theorem dL_law_372 : decode cL_law 372 = .ok (.iload_n 3, 1) := by decide +kernel
theorem dL_law_373 : decode cL_law 373 = .ok (.iconst 1, 1) := by decide +kernel
theorem dL_law_374 : decode cL_law 374 = .ok (.iadd, 1) := by decide +kernel
theorem dL_law_375 : decode cL_law 375 = .ok (.iaload, 1) := by decide +kernel
theorem dL_law_376 : decode cL_law 376 = .ok (.aload_n 0, 1) := by decide +kernel
theorem dL_law_377 : decode cL_law 377 = .ok (.iload_n 3, 1) := by decide +kernel
theorem dL_law_378 : decode cL_law 378 = .ok (.iconst 2, 1) := by decide +kernel
theorem dL_law_379 : decode cL_law 379 = .ok (.iadd, 1) := by decide +kernel
theorem dL_law_380 : decode cL_law 380 = .ok (.iaload, 1) := by decide +kernel
theorem dL_law_381 : decode cL_law 381 = .ok (.invokevirtual 52, 3) := by decide +kernel
theorem dL_law_384 : decode cL_law 384 = .ok (.if_icmp .eq 701, 3) := by decide +kernel
theorem dL_law_387 : decode cL_law 387 = .ok (.iconst 0, 1) := by decide +kernel
theorem dL_law_388 : decode cL_law 388 = .ok (.ireturn, 1) := by decide +kernel
theorem dL_law_389 : decode cL_law 389 = .ok (.aload_n 1, 1) := by decide +kernel
theorem dL_law_390 : decode cL_law 390 = .ok (.aload_n 0, 1) := by decide +kernel
theorem dL_law_391 : decode cL_law 391 = .ok (.iload_n 3, 1) := by decide +kernel
theorem dL_law_392 : decode cL_law 392 = .ok (.iconst 1, 1) := by decide +kernel
theorem dL_law_393 : decode cL_law 393 = .ok (.iadd, 1) := by decide +kernel
theorem dL_law_394 : decode cL_law 394 = .ok (.iaload, 1) := by decide +kernel
theorem dL_law_395 : decode cL_law 395 = .ok (.aload_n 0, 1) := by decide +kernel
theorem dL_law_396 : decode cL_law 396 = .ok (.iload_n 3, 1) := by decide +kernel
theorem dL_law_397 : decode cL_law 397 = .ok (.iconst 2, 1) := by decide +kernel
theorem dL_law_398 : decode cL_law 398 = .ok (.iadd, 1) := by decide +kernel
theorem dL_law_399 : decode cL_law 399 = .ok (.iaload, 1) := by decide +kernel
theorem dL_law_400 : decode cL_law 400 = .ok (.invokevirtual 53, 3) := by decide +kernel
theorem dL_law_403 : decode cL_law 403 = .ok (.aload_n 2, 1) := by decide +kernel
theorem dL_law_404 : decode cL_law 404 = .ok (.aload_n 0, 1) := by decide +kernel
theorem dL_law_405 : decode cL_law 405 = .ok (.iload_n 3, 1) := by decide +kernel
theorem dL_law_406 : decode cL_law 406 = .ok (.iconst 1, 1) := by decide +kernel
theorem dL_law_407 : decode cL_law 407 = .ok (.iadd, 1) := by decide +kernel
theorem dL_law_408 : decode cL_law 408 = .ok (.iaload, 1) := by decide +kernel
theorem dL_law_409 : decode cL_law 409 = .ok (.aload_n 0, 1) := by decide +kernel
theorem dL_law_410 : decode cL_law 410 = .ok (.iload_n 3, 1) := by decide +kernel
theorem dL_law_411 : decode cL_law 411 = .ok (.iconst 2, 1) := by decide +kernel
theorem dL_law_412 : decode cL_law 412 = .ok (.iadd, 1) := by decide +kernel
theorem dL_law_413 : decode cL_law 413 = .ok (.iaload, 1) := by decide +kernel
theorem dL_law_414 : decode cL_law 414 = .ok (.invokevirtual 56, 3) := by decide +kernel
theorem dL_law_417 : decode cL_law 417 = .ok (.if_icmp .eq 668, 3) := by decide +kernel
theorem dL_law_420 : decode cL_law 420 = .ok (.iconst 0, 1) := by decide +kernel
theorem dL_law_421 : decode cL_law 421 = .ok (.ireturn, 1) := by decide +kernel
theorem dL_law_422 : decode cL_law 422 = .ok (.aload_n 1, 1) := by decide +kernel
theorem dL_law_423 : decode cL_law 423 = .ok (.aload_n 0, 1) := by decide +kernel
theorem dL_law_424 : decode cL_law 424 = .ok (.iload_n 3, 1) := by decide +kernel
theorem dL_law_425 : decode cL_law 425 = .ok (.iconst 1, 1) := by decide +kernel
theorem dL_law_426 : decode cL_law 426 = .ok (.iadd, 1) := by decide +kernel
theorem dL_law_427 : decode cL_law 427 = .ok (.iaload, 1) := by decide +kernel
theorem dL_law_428 : decode cL_law 428 = .ok (.invokevirtual 57, 3) := by decide +kernel
theorem dL_law_431 : decode cL_law 431 = .ok (.aload_n 2, 1) := by decide +kernel
theorem dL_law_432 : decode cL_law 432 = .ok (.aload_n 0, 1) := by decide +kernel
theorem dL_law_433 : decode cL_law 433 = .ok (.iload_n 3, 1) := by decide +kernel
theorem dL_law_434 : decode cL_law 434 = .ok (.iconst 1, 1) := by decide +kernel
theorem dL_law_435 : decode cL_law 435 = .ok (.iadd, 1) := by decide +kernel
theorem dL_law_436 : decode cL_law 436 = .ok (.iaload, 1) := by decide +kernel
theorem dL_law_437 : decode cL_law 437 = .ok (.invokevirtual 60, 3) := by decide +kernel
theorem dL_law_440 : decode cL_law 440 = .ok (.if_icmp .eq 645, 3) := by decide +kernel
theorem dL_law_443 : decode cL_law 443 = .ok (.iconst 0, 1) := by decide +kernel
theorem dL_law_444 : decode cL_law 444 = .ok (.ireturn, 1) := by decide +kernel
theorem dL_law_445 : decode cL_law 445 = .ok (.aload_n 1, 1) := by decide +kernel
theorem dL_law_446 : decode cL_law 446 = .ok (.aload_n 0, 1) := by decide +kernel
theorem dL_law_447 : decode cL_law 447 = .ok (.iload_n 3, 1) := by decide +kernel
theorem dL_law_448 : decode cL_law 448 = .ok (.iconst 1, 1) := by decide +kernel
theorem dL_law_449 : decode cL_law 449 = .ok (.iadd, 1) := by decide +kernel
theorem dL_law_450 : decode cL_law 450 = .ok (.iaload, 1) := by decide +kernel
theorem dL_law_451 : decode cL_law 451 = .ok (.aload_n 0, 1) := by decide +kernel
theorem dL_law_452 : decode cL_law 452 = .ok (.iload_n 3, 1) := by decide +kernel
theorem dL_law_453 : decode cL_law 453 = .ok (.iconst 2, 1) := by decide +kernel
theorem dL_law_454 : decode cL_law 454 = .ok (.iadd, 1) := by decide +kernel
theorem dL_law_455 : decode cL_law 455 = .ok (.iaload, 1) := by decide +kernel
theorem dL_law_456 : decode cL_law 456 = .ok (.invokevirtual 61, 3) := by decide +kernel
theorem dL_law_459 : decode cL_law 459 = .ok (.aload_n 2, 1) := by decide +kernel
theorem dL_law_460 : decode cL_law 460 = .ok (.aload_n 0, 1) := by decide +kernel
theorem dL_law_461 : decode cL_law 461 = .ok (.iload_n 3, 1) := by decide +kernel
theorem dL_law_462 : decode cL_law 462 = .ok (.iconst 1, 1) := by decide +kernel
theorem dL_law_463 : decode cL_law 463 = .ok (.iadd, 1) := by decide +kernel
theorem dL_law_464 : decode cL_law 464 = .ok (.iaload, 1) := by decide +kernel
theorem dL_law_465 : decode cL_law 465 = .ok (.aload_n 0, 1) := by decide +kernel
theorem dL_law_466 : decode cL_law 466 = .ok (.iload_n 3, 1) := by decide +kernel
theorem dL_law_467 : decode cL_law 467 = .ok (.iconst 2, 1) := by decide +kernel
theorem dL_law_468 : decode cL_law 468 = .ok (.iadd, 1) := by decide +kernel
theorem dL_law_469 : decode cL_law 469 = .ok (.iaload, 1) := by decide +kernel
theorem dL_law_470 : decode cL_law 470 = .ok (.invokevirtual 64, 3) := by decide +kernel
theorem dL_law_473 : decode cL_law 473 = .ok (.if_icmp .eq 612, 3) := by decide +kernel
theorem dL_law_476 : decode cL_law 476 = .ok (.iconst 0, 1) := by decide +kernel
theorem dL_law_477 : decode cL_law 477 = .ok (.ireturn, 1) := by decide +kernel
theorem dL_law_478 : decode cL_law 478 = .ok (.aload_n 1, 1) := by decide +kernel
theorem dL_law_479 : decode cL_law 479 = .ok (.aload_n 0, 1) := by decide +kernel
theorem dL_law_480 : decode cL_law 480 = .ok (.iload_n 3, 1) := by decide +kernel
theorem dL_law_481 : decode cL_law 481 = .ok (.iconst 1, 1) := by decide +kernel
theorem dL_law_482 : decode cL_law 482 = .ok (.iadd, 1) := by decide +kernel
theorem dL_law_483 : decode cL_law 483 = .ok (.iaload, 1) := by decide +kernel
theorem dL_law_484 : decode cL_law 484 = .ok (.invokevirtual 65, 3) := by decide +kernel
theorem dL_law_487 : decode cL_law 487 = .ok (.aload_n 2, 1) := by decide +kernel
theorem dL_law_488 : decode cL_law 488 = .ok (.aload_n 0, 1) := by decide +kernel
theorem dL_law_489 : decode cL_law 489 = .ok (.iload_n 3, 1) := by decide +kernel
theorem dL_law_490 : decode cL_law 490 = .ok (.iconst 1, 1) := by decide +kernel
theorem dL_law_491 : decode cL_law 491 = .ok (.iadd, 1) := by decide +kernel
theorem dL_law_492 : decode cL_law 492 = .ok (.iaload, 1) := by decide +kernel
theorem dL_law_493 : decode cL_law 493 = .ok (.invokevirtual 68, 3) := by decide +kernel
theorem dL_law_496 : decode cL_law 496 = .ok (.if_icmp .eq 589, 3) := by decide +kernel
theorem dL_law_499 : decode cL_law 499 = .ok (.iconst 0, 1) := by decide +kernel
theorem dL_law_500 : decode cL_law 500 = .ok (.ireturn, 1) := by decide +kernel
theorem dL_law_501 : decode cL_law 501 = .ok (.aload_n 1, 1) := by decide +kernel
theorem dL_law_502 : decode cL_law 502 = .ok (.aload_n 0, 1) := by decide +kernel
theorem dL_law_503 : decode cL_law 503 = .ok (.iload_n 3, 1) := by decide +kernel
theorem dL_law_504 : decode cL_law 504 = .ok (.iconst 1, 1) := by decide +kernel
theorem dL_law_505 : decode cL_law 505 = .ok (.iadd, 1) := by decide +kernel
theorem dL_law_506 : decode cL_law 506 = .ok (.iaload, 1) := by decide +kernel
theorem dL_law_507 : decode cL_law 507 = .ok (.aload_n 0, 1) := by decide +kernel
theorem dL_law_508 : decode cL_law 508 = .ok (.iload_n 3, 1) := by decide +kernel
theorem dL_law_509 : decode cL_law 509 = .ok (.iconst 2, 1) := by decide +kernel
theorem dL_law_510 : decode cL_law 510 = .ok (.iadd, 1) := by decide +kernel
theorem dL_law_511 : decode cL_law 511 = .ok (.iaload, 1) := by decide +kernel
theorem dL_law_512 : decode cL_law 512 = .ok (.aload_n 0, 1) := by decide +kernel
theorem dL_law_513 : decode cL_law 513 = .ok (.iload_n 3, 1) := by decide +kernel
theorem dL_law_514 : decode cL_law 514 = .ok (.iconst 3, 1) := by decide +kernel
theorem dL_law_515 : decode cL_law 515 = .ok (.iadd, 1) := by decide +kernel
theorem dL_law_516 : decode cL_law 516 = .ok (.iaload, 1) := by decide +kernel
theorem dL_law_517 : decode cL_law 517 = .ok (.invokevirtual 69, 3) := by decide +kernel
theorem dL_law_520 : decode cL_law 520 = .ok (.aload_n 2, 1) := by decide +kernel
theorem dL_law_521 : decode cL_law 521 = .ok (.aload_n 0, 1) := by decide +kernel
theorem dL_law_522 : decode cL_law 522 = .ok (.iload_n 3, 1) := by decide +kernel
theorem dL_law_523 : decode cL_law 523 = .ok (.iconst 1, 1) := by decide +kernel
theorem dL_law_524 : decode cL_law 524 = .ok (.iadd, 1) := by decide +kernel
theorem dL_law_525 : decode cL_law 525 = .ok (.iaload, 1) := by decide +kernel
theorem dL_law_526 : decode cL_law 526 = .ok (.aload_n 0, 1) := by decide +kernel
theorem dL_law_527 : decode cL_law 527 = .ok (.iload_n 3, 1) := by decide +kernel
theorem dL_law_528 : decode cL_law 528 = .ok (.iconst 2, 1) := by decide +kernel
theorem dL_law_529 : decode cL_law 529 = .ok (.iadd, 1) := by decide +kernel
theorem dL_law_530 : decode cL_law 530 = .ok (.iaload, 1) := by decide +kernel
theorem dL_law_531 : decode cL_law 531 = .ok (.aload_n 0, 1) := by decide +kernel
theorem dL_law_532 : decode cL_law 532 = .ok (.iload_n 3, 1) := by decide +kernel
theorem dL_law_533 : decode cL_law 533 = .ok (.iconst 3, 1) := by decide +kernel
theorem dL_law_534 : decode cL_law 534 = .ok (.iadd, 1) := by decide +kernel
theorem dL_law_535 : decode cL_law 535 = .ok (.iaload, 1) := by decide +kernel
theorem dL_law_536 : decode cL_law 536 = .ok (.invokevirtual 73, 3) := by decide +kernel
theorem dL_law_539 : decode cL_law 539 = .ok (.lcmp, 1) := by decide +kernel
theorem dL_law_540 : decode cL_law 540 = .ok (.ifCond .eq 545, 3) := by decide +kernel
theorem dL_law_543 : decode cL_law 543 = .ok (.iconst 0, 1) := by decide +kernel
theorem dL_law_544 : decode cL_law 544 = .ok (.ireturn, 1) := by decide +kernel
theorem dL_law_545 : decode cL_law 545 = .ok (.aload_n 1, 1) := by decide +kernel
theorem dL_law_546 : decode cL_law 546 = .ok (.aload_n 0, 1) := by decide +kernel
theorem dL_law_547 : decode cL_law 547 = .ok (.iload_n 3, 1) := by decide +kernel
theorem dL_law_548 : decode cL_law 548 = .ok (.iconst 1, 1) := by decide +kernel
theorem dL_law_549 : decode cL_law 549 = .ok (.iadd, 1) := by decide +kernel
theorem dL_law_550 : decode cL_law 550 = .ok (.iaload, 1) := by decide +kernel
theorem dL_law_551 : decode cL_law 551 = .ok (.aload_n 0, 1) := by decide +kernel
theorem dL_law_552 : decode cL_law 552 = .ok (.iload_n 3, 1) := by decide +kernel
theorem dL_law_553 : decode cL_law 553 = .ok (.iconst 2, 1) := by decide +kernel
theorem dL_law_554 : decode cL_law 554 = .ok (.iadd, 1) := by decide +kernel
theorem dL_law_555 : decode cL_law 555 = .ok (.iaload, 1) := by decide +kernel
theorem dL_law_556 : decode cL_law 556 = .ok (.invokevirtual 74, 3) := by decide +kernel
theorem dL_law_559 : decode cL_law 559 = .ok (.aload_n 2, 1) := by decide +kernel
theorem dL_law_560 : decode cL_law 560 = .ok (.aload_n 0, 1) := by decide +kernel
theorem dL_law_561 : decode cL_law 561 = .ok (.iload_n 3, 1) := by decide +kernel
theorem dL_law_562 : decode cL_law 562 = .ok (.iconst 1, 1) := by decide +kernel
theorem dL_law_563 : decode cL_law 563 = .ok (.iadd, 1) := by decide +kernel
theorem dL_law_564 : decode cL_law 564 = .ok (.iaload, 1) := by decide +kernel
theorem dL_law_565 : decode cL_law 565 = .ok (.aload_n 0, 1) := by decide +kernel
theorem dL_law_566 : decode cL_law 566 = .ok (.iload_n 3, 1) := by decide +kernel
theorem dL_law_567 : decode cL_law 567 = .ok (.iconst 2, 1) := by decide +kernel
theorem dL_law_568 : decode cL_law 568 = .ok (.iadd, 1) := by decide +kernel
theorem dL_law_569 : decode cL_law 569 = .ok (.iaload, 1) := by decide +kernel
theorem dL_law_570 : decode cL_law 570 = .ok (.invokevirtual 77, 3) := by decide +kernel
theorem dL_law_573 : decode cL_law 573 = .ok (.if_icmp .eq 512, 3) := by decide +kernel
theorem dL_law_576 : decode cL_law 576 = .ok (.iconst 0, 1) := by decide +kernel
theorem dL_law_577 : decode cL_law 577 = .ok (.ireturn, 1) := by decide +kernel
theorem dL_law_578 : decode cL_law 578 = .ok (.aload_n 1, 1) := by decide +kernel
theorem dL_law_579 : decode cL_law 579 = .ok (.aload_n 0, 1) := by decide +kernel
theorem dL_law_580 : decode cL_law 580 = .ok (.iload_n 3, 1) := by decide +kernel
theorem dL_law_581 : decode cL_law 581 = .ok (.iconst 1, 1) := by decide +kernel
theorem dL_law_582 : decode cL_law 582 = .ok (.iadd, 1) := by decide +kernel
theorem dL_law_583 : decode cL_law 583 = .ok (.iaload, 1) := by decide +kernel
theorem dL_law_584 : decode cL_law 584 = .ok (.aload_n 0, 1) := by decide +kernel
theorem dL_law_585 : decode cL_law 585 = .ok (.iload_n 3, 1) := by decide +kernel
theorem dL_law_586 : decode cL_law 586 = .ok (.iconst 2, 1) := by decide +kernel
theorem dL_law_587 : decode cL_law 587 = .ok (.iadd, 1) := by decide +kernel
theorem dL_law_588 : decode cL_law 588 = .ok (.iaload, 1) := by decide +kernel
theorem dL_law_589 : decode cL_law 589 = .ok (.aload_n 0, 1) := by decide +kernel
theorem dL_law_590 : decode cL_law 590 = .ok (.iload_n 3, 1) := by decide +kernel
theorem dL_law_591 : decode cL_law 591 = .ok (.iconst 3, 1) := by decide +kernel
theorem dL_law_592 : decode cL_law 592 = .ok (.iadd, 1) := by decide +kernel
theorem dL_law_593 : decode cL_law 593 = .ok (.iaload, 1) := by decide +kernel
theorem dL_law_594 : decode cL_law 594 = .ok (.invokevirtual 78, 3) := by decide +kernel
theorem dL_law_597 : decode cL_law 597 = .ok (.aload_n 2, 1) := by decide +kernel
theorem dL_law_598 : decode cL_law 598 = .ok (.aload_n 0, 1) := by decide +kernel
theorem dL_law_599 : decode cL_law 599 = .ok (.iload_n 3, 1) := by decide +kernel
theorem dL_law_600 : decode cL_law 600 = .ok (.iconst 1, 1) := by decide +kernel
theorem dL_law_601 : decode cL_law 601 = .ok (.iadd, 1) := by decide +kernel
theorem dL_law_602 : decode cL_law 602 = .ok (.iaload, 1) := by decide +kernel
theorem dL_law_603 : decode cL_law 603 = .ok (.aload_n 0, 1) := by decide +kernel
theorem dL_law_604 : decode cL_law 604 = .ok (.iload_n 3, 1) := by decide +kernel
theorem dL_law_605 : decode cL_law 605 = .ok (.iconst 2, 1) := by decide +kernel
theorem dL_law_606 : decode cL_law 606 = .ok (.iadd, 1) := by decide +kernel
theorem dL_law_607 : decode cL_law 607 = .ok (.iaload, 1) := by decide +kernel
theorem dL_law_608 : decode cL_law 608 = .ok (.aload_n 0, 1) := by decide +kernel
theorem dL_law_609 : decode cL_law 609 = .ok (.iload_n 3, 1) := by decide +kernel
theorem dL_law_610 : decode cL_law 610 = .ok (.iconst 3, 1) := by decide +kernel
theorem dL_law_611 : decode cL_law 611 = .ok (.iadd, 1) := by decide +kernel
theorem dL_law_612 : decode cL_law 612 = .ok (.iaload, 1) := by decide +kernel
theorem dL_law_613 : decode cL_law 613 = .ok (.invokevirtual 81, 3) := by decide +kernel
theorem dL_law_616 : decode cL_law 616 = .ok (.lcmp, 1) := by decide +kernel
theorem dL_law_617 : decode cL_law 617 = .ok (.ifCond .eq 468, 3) := by decide +kernel
theorem dL_law_620 : decode cL_law 620 = .ok (.iconst 0, 1) := by decide +kernel
theorem dL_law_621 : decode cL_law 621 = .ok (.ireturn, 1) := by decide +kernel
theorem dL_law_622 : decode cL_law 622 = .ok (.aload_n 1, 1) := by decide +kernel
theorem dL_law_623 : decode cL_law 623 = .ok (.aload_n 0, 1) := by decide +kernel
theorem dL_law_624 : decode cL_law 624 = .ok (.iload_n 3, 1) := by decide +kernel
theorem dL_law_625 : decode cL_law 625 = .ok (.iconst 1, 1) := by decide +kernel
theorem dL_law_626 : decode cL_law 626 = .ok (.iadd, 1) := by decide +kernel
theorem dL_law_627 : decode cL_law 627 = .ok (.iaload, 1) := by decide +kernel
theorem dL_law_628 : decode cL_law 628 = .ok (.aload_n 0, 1) := by decide +kernel
theorem dL_law_629 : decode cL_law 629 = .ok (.iload_n 3, 1) := by decide +kernel
theorem dL_law_630 : decode cL_law 630 = .ok (.iconst 2, 1) := by decide +kernel
theorem dL_law_631 : decode cL_law 631 = .ok (.iadd, 1) := by decide +kernel
theorem dL_law_632 : decode cL_law 632 = .ok (.iaload, 1) := by decide +kernel
theorem dL_law_633 : decode cL_law 633 = .ok (.aload_n 0, 1) := by decide +kernel
theorem dL_law_634 : decode cL_law 634 = .ok (.iload_n 3, 1) := by decide +kernel
theorem dL_law_635 : decode cL_law 635 = .ok (.iconst 3, 1) := by decide +kernel
theorem dL_law_636 : decode cL_law 636 = .ok (.iadd, 1) := by decide +kernel
theorem dL_law_637 : decode cL_law 637 = .ok (.iaload, 1) := by decide +kernel
theorem dL_law_638 : decode cL_law 638 = .ok (.aload_n 0, 1) := by decide +kernel
theorem dL_law_639 : decode cL_law 639 = .ok (.iload_n 3, 1) := by decide +kernel
theorem dL_law_640 : decode cL_law 640 = .ok (.iconst 4, 1) := by decide +kernel
theorem dL_law_641 : decode cL_law 641 = .ok (.iadd, 1) := by decide +kernel
theorem dL_law_642 : decode cL_law 642 = .ok (.iaload, 1) := by decide +kernel
theorem dL_law_643 : decode cL_law 643 = .ok (.invokevirtual 82, 3) := by decide +kernel
theorem dL_law_646 : decode cL_law 646 = .ok (.aload_n 2, 1) := by decide +kernel
theorem dL_law_647 : decode cL_law 647 = .ok (.aload_n 0, 1) := by decide +kernel
theorem dL_law_648 : decode cL_law 648 = .ok (.iload_n 3, 1) := by decide +kernel
theorem dL_law_649 : decode cL_law 649 = .ok (.iconst 1, 1) := by decide +kernel
theorem dL_law_650 : decode cL_law 650 = .ok (.iadd, 1) := by decide +kernel
theorem dL_law_651 : decode cL_law 651 = .ok (.iaload, 1) := by decide +kernel
theorem dL_law_652 : decode cL_law 652 = .ok (.aload_n 0, 1) := by decide +kernel
theorem dL_law_653 : decode cL_law 653 = .ok (.iload_n 3, 1) := by decide +kernel
theorem dL_law_654 : decode cL_law 654 = .ok (.iconst 2, 1) := by decide +kernel
theorem dL_law_655 : decode cL_law 655 = .ok (.iadd, 1) := by decide +kernel
theorem dL_law_656 : decode cL_law 656 = .ok (.iaload, 1) := by decide +kernel
theorem dL_law_657 : decode cL_law 657 = .ok (.aload_n 0, 1) := by decide +kernel
theorem dL_law_658 : decode cL_law 658 = .ok (.iload_n 3, 1) := by decide +kernel
theorem dL_law_659 : decode cL_law 659 = .ok (.iconst 3, 1) := by decide +kernel
theorem dL_law_660 : decode cL_law 660 = .ok (.iadd, 1) := by decide +kernel
theorem dL_law_661 : decode cL_law 661 = .ok (.iaload, 1) := by decide +kernel
theorem dL_law_662 : decode cL_law 662 = .ok (.aload_n 0, 1) := by decide +kernel
theorem dL_law_663 : decode cL_law 663 = .ok (.iload_n 3, 1) := by decide +kernel
theorem dL_law_664 : decode cL_law 664 = .ok (.iconst 4, 1) := by decide +kernel
theorem dL_law_665 : decode cL_law 665 = .ok (.iadd, 1) := by decide +kernel
theorem dL_law_666 : decode cL_law 666 = .ok (.iaload, 1) := by decide +kernel
theorem dL_law_667 : decode cL_law 667 = .ok (.invokevirtual 86, 3) := by decide +kernel
theorem dL_law_670 : decode cL_law 670 = .ok (.lcmp, 1) := by decide +kernel
theorem dL_law_671 : decode cL_law 671 = .ok (.ifCond .eq 414, 3) := by decide +kernel
theorem dL_law_674 : decode cL_law 674 = .ok (.iconst 0, 1) := by decide +kernel
theorem dL_law_675 : decode cL_law 675 = .ok (.ireturn, 1) := by decide +kernel
theorem dL_law_676 : decode cL_law 676 = .ok (.aload_n 1, 1) := by decide +kernel
theorem dL_law_677 : decode cL_law 677 = .ok (.aload_n 0, 1) := by decide +kernel
theorem dL_law_678 : decode cL_law 678 = .ok (.iload_n 3, 1) := by decide +kernel
theorem dL_law_679 : decode cL_law 679 = .ok (.iconst 1, 1) := by decide +kernel
theorem dL_law_680 : decode cL_law 680 = .ok (.iadd, 1) := by decide +kernel
theorem dL_law_681 : decode cL_law 681 = .ok (.iaload, 1) := by decide +kernel
theorem dL_law_682 : decode cL_law 682 = .ok (.invokevirtual 87, 3) := by decide +kernel
theorem dL_law_685 : decode cL_law 685 = .ok (.aload_n 2, 1) := by decide +kernel
theorem dL_law_686 : decode cL_law 686 = .ok (.aload_n 0, 1) := by decide +kernel
theorem dL_law_687 : decode cL_law 687 = .ok (.iload_n 3, 1) := by decide +kernel
theorem dL_law_688 : decode cL_law 688 = .ok (.iconst 1, 1) := by decide +kernel
theorem dL_law_689 : decode cL_law 689 = .ok (.iadd, 1) := by decide +kernel
theorem dL_law_690 : decode cL_law 690 = .ok (.iaload, 1) := by decide +kernel
theorem dL_law_691 : decode cL_law 691 = .ok (.invokevirtual 90, 3) := by decide +kernel
theorem dL_law_694 : decode cL_law 694 = .ok (.if_icmp .eq 391, 3) := by decide +kernel
theorem dL_law_697 : decode cL_law 697 = .ok (.iconst 0, 1) := by decide +kernel
theorem dL_law_698 : decode cL_law 698 = .ok (.ireturn, 1) := by decide +kernel
theorem dL_law_699 : decode cL_law 699 = .ok (.aload_n 1, 1) := by decide +kernel
theorem dL_law_700 : decode cL_law 700 = .ok (.invokevirtual 91, 3) := by decide +kernel
theorem dL_law_703 : decode cL_law 703 = .ok (.aload_n 2, 1) := by decide +kernel
theorem dL_law_704 : decode cL_law 704 = .ok (.invokevirtual 94, 3) := by decide +kernel
theorem dL_law_707 : decode cL_law 707 = .ok (.if_icmp .eq 378, 3) := by decide +kernel
theorem dL_law_710 : decode cL_law 710 = .ok (.iconst 0, 1) := by decide +kernel
theorem dL_law_711 : decode cL_law 711 = .ok (.ireturn, 1) := by decide +kernel
theorem dL_law_712 : decode cL_law 712 = .ok (.aload_n 1, 1) := by decide +kernel
theorem dL_law_713 : decode cL_law 713 = .ok (.aload_n 0, 1) := by decide +kernel
theorem dL_law_714 : decode cL_law 714 = .ok (.iload_n 3, 1) := by decide +kernel
theorem dL_law_715 : decode cL_law 715 = .ok (.iconst 1, 1) := by decide +kernel
theorem dL_law_716 : decode cL_law 716 = .ok (.iadd, 1) := by decide +kernel
theorem dL_law_717 : decode cL_law 717 = .ok (.iaload, 1) := by decide +kernel
theorem dL_law_718 : decode cL_law 718 = .ok (.aload_n 0, 1) := by decide +kernel
theorem dL_law_719 : decode cL_law 719 = .ok (.iload_n 3, 1) := by decide +kernel
theorem dL_law_720 : decode cL_law 720 = .ok (.iconst 2, 1) := by decide +kernel
theorem dL_law_721 : decode cL_law 721 = .ok (.iadd, 1) := by decide +kernel
theorem dL_law_722 : decode cL_law 722 = .ok (.iaload, 1) := by decide +kernel
theorem dL_law_723 : decode cL_law 723 = .ok (.invokevirtual 95, 3) := by decide +kernel
theorem dL_law_726 : decode cL_law 726 = .ok (.aload_n 2, 1) := by decide +kernel
theorem dL_law_727 : decode cL_law 727 = .ok (.aload_n 0, 1) := by decide +kernel
theorem dL_law_728 : decode cL_law 728 = .ok (.iload_n 3, 1) := by decide +kernel
theorem dL_law_729 : decode cL_law 729 = .ok (.iconst 1, 1) := by decide +kernel
theorem dL_law_730 : decode cL_law 730 = .ok (.iadd, 1) := by decide +kernel
theorem dL_law_731 : decode cL_law 731 = .ok (.iaload, 1) := by decide +kernel
theorem dL_law_732 : decode cL_law 732 = .ok (.aload_n 0, 1) := by decide +kernel
theorem dL_law_733 : decode cL_law 733 = .ok (.iload_n 3, 1) := by decide +kernel
theorem dL_law_734 : decode cL_law 734 = .ok (.iconst 2, 1) := by decide +kernel
theorem dL_law_735 : decode cL_law 735 = .ok (.iadd, 1) := by decide +kernel
theorem dL_law_736 : decode cL_law 736 = .ok (.iaload, 1) := by decide +kernel
theorem dL_law_737 : decode cL_law 737 = .ok (.invokevirtual 98, 3) := by decide +kernel
theorem dL_law_740 : decode cL_law 740 = .ok (.if_icmp .eq 345, 3) := by decide +kernel
theorem dL_law_743 : decode cL_law 743 = .ok (.iconst 0, 1) := by decide +kernel
theorem dL_law_744 : decode cL_law 744 = .ok (.ireturn, 1) := by decide +kernel
theorem dL_law_745 : decode cL_law 745 = .ok (.aload_n 1, 1) := by decide +kernel
theorem dL_law_746 : decode cL_law 746 = .ok (.aload_n 0, 1) := by decide +kernel
theorem dL_law_747 : decode cL_law 747 = .ok (.iload_n 3, 1) := by decide +kernel
theorem dL_law_748 : decode cL_law 748 = .ok (.iconst 1, 1) := by decide +kernel
theorem dL_law_749 : decode cL_law 749 = .ok (.iadd, 1) := by decide +kernel
theorem dL_law_750 : decode cL_law 750 = .ok (.iaload, 1) := by decide +kernel
theorem dL_law_751 : decode cL_law 751 = .ok (.aload_n 0, 1) := by decide +kernel
theorem dL_law_752 : decode cL_law 752 = .ok (.iload_n 3, 1) := by decide +kernel
theorem dL_law_753 : decode cL_law 753 = .ok (.iconst 2, 1) := by decide +kernel
theorem dL_law_754 : decode cL_law 754 = .ok (.iadd, 1) := by decide +kernel
theorem dL_law_755 : decode cL_law 755 = .ok (.iaload, 1) := by decide +kernel
theorem dL_law_756 : decode cL_law 756 = .ok (.invokevirtual 99, 3) := by decide +kernel
theorem dL_law_759 : decode cL_law 759 = .ok (.aload_n 2, 1) := by decide +kernel
theorem dL_law_760 : decode cL_law 760 = .ok (.aload_n 0, 1) := by decide +kernel
theorem dL_law_761 : decode cL_law 761 = .ok (.iload_n 3, 1) := by decide +kernel
theorem dL_law_762 : decode cL_law 762 = .ok (.iconst 1, 1) := by decide +kernel
theorem dL_law_763 : decode cL_law 763 = .ok (.iadd, 1) := by decide +kernel
theorem dL_law_764 : decode cL_law 764 = .ok (.iaload, 1) := by decide +kernel
theorem dL_law_765 : decode cL_law 765 = .ok (.aload_n 0, 1) := by decide +kernel
theorem dL_law_766 : decode cL_law 766 = .ok (.iload_n 3, 1) := by decide +kernel
theorem dL_law_767 : decode cL_law 767 = .ok (.iconst 2, 1) := by decide +kernel
theorem dL_law_768 : decode cL_law 768 = .ok (.iadd, 1) := by decide +kernel
theorem dL_law_769 : decode cL_law 769 = .ok (.iaload, 1) := by decide +kernel
theorem dL_law_770 : decode cL_law 770 = .ok (.invokevirtual 102, 3) := by decide +kernel
theorem dL_law_773 : decode cL_law 773 = .ok (.if_icmp .eq 312, 3) := by decide +kernel
theorem dL_law_776 : decode cL_law 776 = .ok (.iconst 0, 1) := by decide +kernel
theorem dL_law_777 : decode cL_law 777 = .ok (.ireturn, 1) := by decide +kernel
theorem dL_law_778 : decode cL_law 778 = .ok (.aload_n 1, 1) := by decide +kernel
theorem dL_law_779 : decode cL_law 779 = .ok (.aload_n 0, 1) := by decide +kernel
theorem dL_law_780 : decode cL_law 780 = .ok (.iload_n 3, 1) := by decide +kernel
theorem dL_law_781 : decode cL_law 781 = .ok (.iconst 1, 1) := by decide +kernel
theorem dL_law_782 : decode cL_law 782 = .ok (.iadd, 1) := by decide +kernel
theorem dL_law_783 : decode cL_law 783 = .ok (.iaload, 1) := by decide +kernel
theorem dL_law_784 : decode cL_law 784 = .ok (.invokevirtual 103, 3) := by decide +kernel
theorem dL_law_787 : decode cL_law 787 = .ok (.aload_n 2, 1) := by decide +kernel
theorem dL_law_788 : decode cL_law 788 = .ok (.aload_n 0, 1) := by decide +kernel
theorem dL_law_789 : decode cL_law 789 = .ok (.iload_n 3, 1) := by decide +kernel
theorem dL_law_790 : decode cL_law 790 = .ok (.iconst 1, 1) := by decide +kernel
theorem dL_law_791 : decode cL_law 791 = .ok (.iadd, 1) := by decide +kernel
theorem dL_law_792 : decode cL_law 792 = .ok (.iaload, 1) := by decide +kernel
theorem dL_law_793 : decode cL_law 793 = .ok (.invokevirtual 106, 3) := by decide +kernel
theorem dL_law_796 : decode cL_law 796 = .ok (.if_icmp .eq 289, 3) := by decide +kernel
theorem dL_law_799 : decode cL_law 799 = .ok (.iconst 0, 1) := by decide +kernel
theorem dL_law_800 : decode cL_law 800 = .ok (.ireturn, 1) := by decide +kernel
theorem dL_law_801 : decode cL_law 801 = .ok (.aload_n 1, 1) := by decide +kernel
theorem dL_law_802 : decode cL_law 802 = .ok (.aload_n 0, 1) := by decide +kernel
theorem dL_law_803 : decode cL_law 803 = .ok (.iload_n 3, 1) := by decide +kernel
theorem dL_law_804 : decode cL_law 804 = .ok (.iconst 1, 1) := by decide +kernel
theorem dL_law_805 : decode cL_law 805 = .ok (.iadd, 1) := by decide +kernel
theorem dL_law_806 : decode cL_law 806 = .ok (.iaload, 1) := by decide +kernel
theorem dL_law_807 : decode cL_law 807 = .ok (.aload_n 0, 1) := by decide +kernel
theorem dL_law_808 : decode cL_law 808 = .ok (.iload_n 3, 1) := by decide +kernel
theorem dL_law_809 : decode cL_law 809 = .ok (.iconst 2, 1) := by decide +kernel
theorem dL_law_810 : decode cL_law 810 = .ok (.iadd, 1) := by decide +kernel
theorem dL_law_811 : decode cL_law 811 = .ok (.iaload, 1) := by decide +kernel
theorem dL_law_812 : decode cL_law 812 = .ok (.aload_n 0, 1) := by decide +kernel
theorem dL_law_813 : decode cL_law 813 = .ok (.iload_n 3, 1) := by decide +kernel
theorem dL_law_814 : decode cL_law 814 = .ok (.iconst 3, 1) := by decide +kernel
theorem dL_law_815 : decode cL_law 815 = .ok (.iadd, 1) := by decide +kernel
theorem dL_law_816 : decode cL_law 816 = .ok (.iaload, 1) := by decide +kernel
theorem dL_law_817 : decode cL_law 817 = .ok (.aload_n 0, 1) := by decide +kernel
theorem dL_law_818 : decode cL_law 818 = .ok (.iload_n 3, 1) := by decide +kernel
theorem dL_law_819 : decode cL_law 819 = .ok (.iconst 4, 1) := by decide +kernel
theorem dL_law_820 : decode cL_law 820 = .ok (.iadd, 1) := by decide +kernel
theorem dL_law_821 : decode cL_law 821 = .ok (.iaload, 1) := by decide +kernel
theorem dL_law_822 : decode cL_law 822 = .ok (.invokevirtual 107, 3) := by decide +kernel
theorem dL_law_825 : decode cL_law 825 = .ok (.aload_n 2, 1) := by decide +kernel
theorem dL_law_826 : decode cL_law 826 = .ok (.aload_n 0, 1) := by decide +kernel
theorem dL_law_827 : decode cL_law 827 = .ok (.iload_n 3, 1) := by decide +kernel
theorem dL_law_828 : decode cL_law 828 = .ok (.iconst 1, 1) := by decide +kernel
theorem dL_law_829 : decode cL_law 829 = .ok (.iadd, 1) := by decide +kernel
theorem dL_law_830 : decode cL_law 830 = .ok (.iaload, 1) := by decide +kernel
theorem dL_law_831 : decode cL_law 831 = .ok (.aload_n 0, 1) := by decide +kernel
theorem dL_law_832 : decode cL_law 832 = .ok (.iload_n 3, 1) := by decide +kernel
theorem dL_law_833 : decode cL_law 833 = .ok (.iconst 2, 1) := by decide +kernel
theorem dL_law_834 : decode cL_law 834 = .ok (.iadd, 1) := by decide +kernel
theorem dL_law_835 : decode cL_law 835 = .ok (.iaload, 1) := by decide +kernel
theorem dL_law_836 : decode cL_law 836 = .ok (.aload_n 0, 1) := by decide +kernel
theorem dL_law_837 : decode cL_law 837 = .ok (.iload_n 3, 1) := by decide +kernel
theorem dL_law_838 : decode cL_law 838 = .ok (.iconst 3, 1) := by decide +kernel
theorem dL_law_839 : decode cL_law 839 = .ok (.iadd, 1) := by decide +kernel
theorem dL_law_840 : decode cL_law 840 = .ok (.iaload, 1) := by decide +kernel
theorem dL_law_841 : decode cL_law 841 = .ok (.aload_n 0, 1) := by decide +kernel
theorem dL_law_842 : decode cL_law 842 = .ok (.iload_n 3, 1) := by decide +kernel
theorem dL_law_843 : decode cL_law 843 = .ok (.iconst 4, 1) := by decide +kernel
theorem dL_law_844 : decode cL_law 844 = .ok (.iadd, 1) := by decide +kernel
theorem dL_law_845 : decode cL_law 845 = .ok (.iaload, 1) := by decide +kernel
theorem dL_law_846 : decode cL_law 846 = .ok (.invokevirtual 110, 3) := by decide +kernel
theorem dL_law_849 : decode cL_law 849 = .ok (.lcmp, 1) := by decide +kernel
theorem dL_law_850 : decode cL_law 850 = .ok (.ifCond .eq 235, 3) := by decide +kernel
theorem dL_law_853 : decode cL_law 853 = .ok (.iconst 0, 1) := by decide +kernel
theorem dL_law_854 : decode cL_law 854 = .ok (.ireturn, 1) := by decide +kernel
theorem dL_law_855 : decode cL_law 855 = .ok (.aload_n 1, 1) := by decide +kernel
theorem dL_law_856 : decode cL_law 856 = .ok (.aload_n 0, 1) := by decide +kernel
theorem dL_law_857 : decode cL_law 857 = .ok (.iload_n 3, 1) := by decide +kernel
theorem dL_law_858 : decode cL_law 858 = .ok (.iconst 1, 1) := by decide +kernel
theorem dL_law_859 : decode cL_law 859 = .ok (.iadd, 1) := by decide +kernel
theorem dL_law_860 : decode cL_law 860 = .ok (.iaload, 1) := by decide +kernel
theorem dL_law_861 : decode cL_law 861 = .ok (.aload_n 0, 1) := by decide +kernel
theorem dL_law_862 : decode cL_law 862 = .ok (.iload_n 3, 1) := by decide +kernel
theorem dL_law_863 : decode cL_law 863 = .ok (.iconst 2, 1) := by decide +kernel
theorem dL_law_864 : decode cL_law 864 = .ok (.iadd, 1) := by decide +kernel
theorem dL_law_865 : decode cL_law 865 = .ok (.iaload, 1) := by decide +kernel
theorem dL_law_866 : decode cL_law 866 = .ok (.aload_n 0, 1) := by decide +kernel
theorem dL_law_867 : decode cL_law 867 = .ok (.iload_n 3, 1) := by decide +kernel
theorem dL_law_868 : decode cL_law 868 = .ok (.iconst 3, 1) := by decide +kernel
theorem dL_law_869 : decode cL_law 869 = .ok (.iadd, 1) := by decide +kernel
theorem dL_law_870 : decode cL_law 870 = .ok (.iaload, 1) := by decide +kernel
theorem dL_law_871 : decode cL_law 871 = .ok (.aload_n 0, 1) := by decide +kernel
theorem dL_law_872 : decode cL_law 872 = .ok (.iload_n 3, 1) := by decide +kernel
theorem dL_law_873 : decode cL_law 873 = .ok (.iconst 4, 1) := by decide +kernel
theorem dL_law_874 : decode cL_law 874 = .ok (.iadd, 1) := by decide +kernel
theorem dL_law_875 : decode cL_law 875 = .ok (.iaload, 1) := by decide +kernel
theorem dL_law_876 : decode cL_law 876 = .ok (.ifCond .eq 7, 3) := by decide +kernel
theorem dL_law_879 : decode cL_law 879 = .ok (.iconst 1, 1) := by decide +kernel
theorem dL_law_880 : decode cL_law 880 = .ok (.goto 4, 3) := by decide +kernel
theorem dL_law_883 : decode cL_law 883 = .ok (.iconst 0, 1) := by decide +kernel
theorem dL_law_884 : decode cL_law 884 = .ok (.invokevirtual 111, 3) := by decide +kernel
theorem dL_law_887 : decode cL_law 887 = .ok (.aload_n 2, 1) := by decide +kernel
theorem dL_law_888 : decode cL_law 888 = .ok (.aload_n 0, 1) := by decide +kernel
theorem dL_law_889 : decode cL_law 889 = .ok (.iload_n 3, 1) := by decide +kernel
theorem dL_law_890 : decode cL_law 890 = .ok (.iconst 1, 1) := by decide +kernel
theorem dL_law_891 : decode cL_law 891 = .ok (.iadd, 1) := by decide +kernel
theorem dL_law_892 : decode cL_law 892 = .ok (.iaload, 1) := by decide +kernel
theorem dL_law_893 : decode cL_law 893 = .ok (.aload_n 0, 1) := by decide +kernel
theorem dL_law_894 : decode cL_law 894 = .ok (.iload_n 3, 1) := by decide +kernel
theorem dL_law_895 : decode cL_law 895 = .ok (.iconst 2, 1) := by decide +kernel
theorem dL_law_896 : decode cL_law 896 = .ok (.iadd, 1) := by decide +kernel
theorem dL_law_897 : decode cL_law 897 = .ok (.iaload, 1) := by decide +kernel
theorem dL_law_898 : decode cL_law 898 = .ok (.aload_n 0, 1) := by decide +kernel
theorem dL_law_899 : decode cL_law 899 = .ok (.iload_n 3, 1) := by decide +kernel
theorem dL_law_900 : decode cL_law 900 = .ok (.iconst 3, 1) := by decide +kernel
theorem dL_law_901 : decode cL_law 901 = .ok (.iadd, 1) := by decide +kernel
theorem dL_law_902 : decode cL_law 902 = .ok (.iaload, 1) := by decide +kernel
theorem dL_law_903 : decode cL_law 903 = .ok (.aload_n 0, 1) := by decide +kernel
theorem dL_law_904 : decode cL_law 904 = .ok (.iload_n 3, 1) := by decide +kernel
theorem dL_law_905 : decode cL_law 905 = .ok (.iconst 4, 1) := by decide +kernel
theorem dL_law_906 : decode cL_law 906 = .ok (.iadd, 1) := by decide +kernel
theorem dL_law_907 : decode cL_law 907 = .ok (.iaload, 1) := by decide +kernel
theorem dL_law_908 : decode cL_law 908 = .ok (.ifCond .eq 7, 3) := by decide +kernel
theorem dL_law_911 : decode cL_law 911 = .ok (.iconst 1, 1) := by decide +kernel
theorem dL_law_912 : decode cL_law 912 = .ok (.goto 4, 3) := by decide +kernel
theorem dL_law_915 : decode cL_law 915 = .ok (.iconst 0, 1) := by decide +kernel
theorem dL_law_916 : decode cL_law 916 = .ok (.invokevirtual 115, 3) := by decide +kernel
theorem dL_law_919 : decode cL_law 919 = .ok (.if_icmp .eq 166, 3) := by decide +kernel
theorem dL_law_922 : decode cL_law 922 = .ok (.iconst 0, 1) := by decide +kernel
theorem dL_law_923 : decode cL_law 923 = .ok (.ireturn, 1) := by decide +kernel
theorem dL_law_924 : decode cL_law 924 = .ok (.aload_n 1, 1) := by decide +kernel
theorem dL_law_925 : decode cL_law 925 = .ok (.invokevirtual 116, 3) := by decide +kernel
theorem dL_law_928 : decode cL_law 928 = .ok (.aload_n 2, 1) := by decide +kernel
theorem dL_law_929 : decode cL_law 929 = .ok (.invokevirtual 119, 3) := by decide +kernel
theorem dL_law_932 : decode cL_law 932 = .ok (.if_icmp .eq 153, 3) := by decide +kernel
theorem dL_law_935 : decode cL_law 935 = .ok (.iconst 0, 1) := by decide +kernel
theorem dL_law_936 : decode cL_law 936 = .ok (.ireturn, 1) := by decide +kernel
theorem dL_law_937 : decode cL_law 937 = .ok (.aload_n 1, 1) := by decide +kernel
theorem dL_law_938 : decode cL_law 938 = .ok (.invokevirtual 120, 3) := by decide +kernel
theorem dL_law_941 : decode cL_law 941 = .ok (.aload_n 2, 1) := by decide +kernel
theorem dL_law_942 : decode cL_law 942 = .ok (.invokevirtual 123, 3) := by decide +kernel
theorem dL_law_945 : decode cL_law 945 = .ok (.if_icmp .eq 140, 3) := by decide +kernel
theorem dL_law_948 : decode cL_law 948 = .ok (.iconst 0, 1) := by decide +kernel
theorem dL_law_949 : decode cL_law 949 = .ok (.ireturn, 1) := by decide +kernel
theorem dL_law_950 : decode cL_law 950 = .ok (.aload_n 1, 1) := by decide +kernel
theorem dL_law_951 : decode cL_law 951 = .ok (.aload_n 0, 1) := by decide +kernel
theorem dL_law_952 : decode cL_law 952 = .ok (.iload_n 3, 1) := by decide +kernel
theorem dL_law_953 : decode cL_law 953 = .ok (.iconst 1, 1) := by decide +kernel
theorem dL_law_954 : decode cL_law 954 = .ok (.iadd, 1) := by decide +kernel
theorem dL_law_955 : decode cL_law 955 = .ok (.iaload, 1) := by decide +kernel
theorem dL_law_956 : decode cL_law 956 = .ok (.invokevirtual 124, 3) := by decide +kernel
theorem dL_law_959 : decode cL_law 959 = .ok (.aload_n 2, 1) := by decide +kernel
theorem dL_law_960 : decode cL_law 960 = .ok (.aload_n 0, 1) := by decide +kernel
theorem dL_law_961 : decode cL_law 961 = .ok (.iload_n 3, 1) := by decide +kernel
theorem dL_law_962 : decode cL_law 962 = .ok (.iconst 1, 1) := by decide +kernel
theorem dL_law_963 : decode cL_law 963 = .ok (.iadd, 1) := by decide +kernel
theorem dL_law_964 : decode cL_law 964 = .ok (.iaload, 1) := by decide +kernel
theorem dL_law_965 : decode cL_law 965 = .ok (.invokevirtual 127, 3) := by decide +kernel
theorem dL_law_968 : decode cL_law 968 = .ok (.if_icmp .eq 117, 3) := by decide +kernel
theorem dL_law_971 : decode cL_law 971 = .ok (.iconst 0, 1) := by decide +kernel
theorem dL_law_972 : decode cL_law 972 = .ok (.ireturn, 1) := by decide +kernel
theorem dL_law_973 : decode cL_law 973 = .ok (.aload_n 1, 1) := by decide +kernel
theorem dL_law_974 : decode cL_law 974 = .ok (.aload_n 0, 1) := by decide +kernel
theorem dL_law_975 : decode cL_law 975 = .ok (.iload_n 3, 1) := by decide +kernel
theorem dL_law_976 : decode cL_law 976 = .ok (.iconst 1, 1) := by decide +kernel
theorem dL_law_977 : decode cL_law 977 = .ok (.iadd, 1) := by decide +kernel
theorem dL_law_978 : decode cL_law 978 = .ok (.iaload, 1) := by decide +kernel
theorem dL_law_979 : decode cL_law 979 = .ok (.aload_n 0, 1) := by decide +kernel
theorem dL_law_980 : decode cL_law 980 = .ok (.iload_n 3, 1) := by decide +kernel
theorem dL_law_981 : decode cL_law 981 = .ok (.iconst 2, 1) := by decide +kernel
theorem dL_law_982 : decode cL_law 982 = .ok (.iadd, 1) := by decide +kernel
theorem dL_law_983 : decode cL_law 983 = .ok (.iaload, 1) := by decide +kernel
theorem dL_law_984 : decode cL_law 984 = .ok (.aload_n 0, 1) := by decide +kernel
theorem dL_law_985 : decode cL_law 985 = .ok (.iload_n 3, 1) := by decide +kernel
theorem dL_law_986 : decode cL_law 986 = .ok (.iconst 3, 1) := by decide +kernel
theorem dL_law_987 : decode cL_law 987 = .ok (.iadd, 1) := by decide +kernel
theorem dL_law_988 : decode cL_law 988 = .ok (.iaload, 1) := by decide +kernel
theorem dL_law_989 : decode cL_law 989 = .ok (.invokevirtual 128, 3) := by decide +kernel
theorem dL_law_992 : decode cL_law 992 = .ok (.aload_n 2, 1) := by decide +kernel
theorem dL_law_993 : decode cL_law 993 = .ok (.aload_n 0, 1) := by decide +kernel
theorem dL_law_994 : decode cL_law 994 = .ok (.iload_n 3, 1) := by decide +kernel
theorem dL_law_995 : decode cL_law 995 = .ok (.iconst 1, 1) := by decide +kernel
theorem dL_law_996 : decode cL_law 996 = .ok (.iadd, 1) := by decide +kernel
theorem dL_law_997 : decode cL_law 997 = .ok (.iaload, 1) := by decide +kernel
theorem dL_law_998 : decode cL_law 998 = .ok (.aload_n 0, 1) := by decide +kernel
theorem dL_law_999 : decode cL_law 999 = .ok (.iload_n 3, 1) := by decide +kernel
theorem dL_law_1000 : decode cL_law 1000 = .ok (.iconst 2, 1) := by decide +kernel
theorem dL_law_1001 : decode cL_law 1001 = .ok (.iadd, 1) := by decide +kernel
theorem dL_law_1002 : decode cL_law 1002 = .ok (.iaload, 1) := by decide +kernel
theorem dL_law_1003 : decode cL_law 1003 = .ok (.aload_n 0, 1) := by decide +kernel
theorem dL_law_1004 : decode cL_law 1004 = .ok (.iload_n 3, 1) := by decide +kernel
theorem dL_law_1005 : decode cL_law 1005 = .ok (.iconst 3, 1) := by decide +kernel
theorem dL_law_1006 : decode cL_law 1006 = .ok (.iadd, 1) := by decide +kernel
theorem dL_law_1007 : decode cL_law 1007 = .ok (.iaload, 1) := by decide +kernel
theorem dL_law_1008 : decode cL_law 1008 = .ok (.invokevirtual 131, 3) := by decide +kernel
theorem dL_law_1011 : decode cL_law 1011 = .ok (.if_icmp .eq 74, 3) := by decide +kernel
theorem dL_law_1014 : decode cL_law 1014 = .ok (.iconst 0, 1) := by decide +kernel
theorem dL_law_1015 : decode cL_law 1015 = .ok (.ireturn, 1) := by decide +kernel
theorem dL_law_1016 : decode cL_law 1016 = .ok (.aload_n 1, 1) := by decide +kernel
theorem dL_law_1017 : decode cL_law 1017 = .ok (.aload_n 0, 1) := by decide +kernel
theorem dL_law_1018 : decode cL_law 1018 = .ok (.iload_n 3, 1) := by decide +kernel
theorem dL_law_1019 : decode cL_law 1019 = .ok (.iconst 1, 1) := by decide +kernel
theorem dL_law_1020 : decode cL_law 1020 = .ok (.iadd, 1) := by decide +kernel
theorem dL_law_1021 : decode cL_law 1021 = .ok (.iaload, 1) := by decide +kernel
theorem dL_law_1022 : decode cL_law 1022 = .ok (.invokevirtual 132, 3) := by decide +kernel
theorem dL_law_1025 : decode cL_law 1025 = .ok (.aload_n 2, 1) := by decide +kernel
theorem dL_law_1026 : decode cL_law 1026 = .ok (.aload_n 0, 1) := by decide +kernel
theorem dL_law_1027 : decode cL_law 1027 = .ok (.iload_n 3, 1) := by decide +kernel
theorem dL_law_1028 : decode cL_law 1028 = .ok (.iconst 1, 1) := by decide +kernel
theorem dL_law_1029 : decode cL_law 1029 = .ok (.iadd, 1) := by decide +kernel
theorem dL_law_1030 : decode cL_law 1030 = .ok (.iaload, 1) := by decide +kernel
theorem dL_law_1031 : decode cL_law 1031 = .ok (.invokevirtual 135, 3) := by decide +kernel
theorem dL_law_1034 : decode cL_law 1034 = .ok (.if_icmp .eq 51, 3) := by decide +kernel
theorem dL_law_1037 : decode cL_law 1037 = .ok (.iconst 0, 1) := by decide +kernel
theorem dL_law_1038 : decode cL_law 1038 = .ok (.ireturn, 1) := by decide +kernel
theorem dL_law_1039 : decode cL_law 1039 = .ok (.aload_n 1, 1) := by decide +kernel
theorem dL_law_1040 : decode cL_law 1040 = .ok (.aload_n 0, 1) := by decide +kernel
theorem dL_law_1041 : decode cL_law 1041 = .ok (.iload_n 3, 1) := by decide +kernel
theorem dL_law_1042 : decode cL_law 1042 = .ok (.iconst 1, 1) := by decide +kernel
theorem dL_law_1043 : decode cL_law 1043 = .ok (.iadd, 1) := by decide +kernel
theorem dL_law_1044 : decode cL_law 1044 = .ok (.iaload, 1) := by decide +kernel
theorem dL_law_1045 : decode cL_law 1045 = .ok (.invokevirtual 136, 3) := by decide +kernel
theorem dL_law_1048 : decode cL_law 1048 = .ok (.aload_n 2, 1) := by decide +kernel
theorem dL_law_1049 : decode cL_law 1049 = .ok (.aload_n 0, 1) := by decide +kernel
theorem dL_law_1050 : decode cL_law 1050 = .ok (.iload_n 3, 1) := by decide +kernel
theorem dL_law_1051 : decode cL_law 1051 = .ok (.iconst 1, 1) := by decide +kernel
theorem dL_law_1052 : decode cL_law 1052 = .ok (.iadd, 1) := by decide +kernel
theorem dL_law_1053 : decode cL_law 1053 = .ok (.iaload, 1) := by decide +kernel
theorem dL_law_1054 : decode cL_law 1054 = .ok (.invokevirtual 139, 3) := by decide +kernel
theorem dL_law_1057 : decode cL_law 1057 = .ok (.if_icmp .eq 28, 3) := by decide +kernel
theorem dL_law_1060 : decode cL_law 1060 = .ok (.iconst 0, 1) := by decide +kernel
theorem dL_law_1061 : decode cL_law 1061 = .ok (.ireturn, 1) := by decide +kernel
theorem dL_law_1062 : decode cL_law 1062 = .ok (.aload_n 1, 1) := by decide +kernel
theorem dL_law_1063 : decode cL_law 1063 = .ok (.aload_n 0, 1) := by decide +kernel
theorem dL_law_1064 : decode cL_law 1064 = .ok (.iload_n 3, 1) := by decide +kernel
theorem dL_law_1065 : decode cL_law 1065 = .ok (.iconst 1, 1) := by decide +kernel
theorem dL_law_1066 : decode cL_law 1066 = .ok (.iadd, 1) := by decide +kernel
theorem dL_law_1067 : decode cL_law 1067 = .ok (.iaload, 1) := by decide +kernel
theorem dL_law_1068 : decode cL_law 1068 = .ok (.invokevirtual 140, 3) := by decide +kernel
theorem dL_law_1071 : decode cL_law 1071 = .ok (.aload_n 2, 1) := by decide +kernel
theorem dL_law_1072 : decode cL_law 1072 = .ok (.aload_n 0, 1) := by decide +kernel
theorem dL_law_1073 : decode cL_law 1073 = .ok (.iload_n 3, 1) := by decide +kernel
theorem dL_law_1074 : decode cL_law 1074 = .ok (.iconst 1, 1) := by decide +kernel
theorem dL_law_1075 : decode cL_law 1075 = .ok (.iadd, 1) := by decide +kernel
theorem dL_law_1076 : decode cL_law 1076 = .ok (.iaload, 1) := by decide +kernel
theorem dL_law_1077 : decode cL_law 1077 = .ok (.invokevirtual 143, 3) := by decide +kernel
theorem dL_law_1080 : decode cL_law 1080 = .ok (.if_icmp .eq 5, 3) := by decide +kernel
theorem dL_law_1083 : decode cL_law 1083 = .ok (.iconst 0, 1) := by decide +kernel
theorem dL_law_1084 : decode cL_law 1084 = .ok (.ireturn, 1) := by decide +kernel
theorem dL_law_1085 : decode cL_law 1085 = .ok (.iinc 3 5, 3) := by decide +kernel
theorem dL_law_1088 : decode cL_law 1088 = .ok (.goto (-1070), 3) := by decide +kernel
theorem dL_law_1091 : decode cL_law 1091 = .ok (.iconst 1, 1) := by decide +kernel
theorem dL_law_1092 : decode cL_law 1092 = .ok (.ireturn, 1) := by decide +kernel
end
section
/-! THE ABSTRACT MACHINE: names for cells (k stands at the address b + k), values by names, one world for all methods -/
/-- launch, class numbers and slots, array classes (0 int, 1 long, 2 boolean, 3 World), the first address -/
abbrev gE : Type := Launch × va_G × (Nat → ClassId) × Nat
/-- a cell: an array (kind, length, contents) or an object (number of its class, its fields) -/
abbrev gC : Type := (Nat × vp_A) ⊕ (Nat × List Value)
abbrev gH : Type := List gC
def gv (b : Nat) (v : Value) : Value := match v with
  | .ref k => .ref (b + k)
  | w => w
def gr (b : Nat) (r : Option Nat) : Option Nat := match r with
  | none => none
  | some k => some (b + k)
def gar (b : Nat) (a : (Nat → Int32) ⊕ (Nat → Int64) ⊕ (Nat → UInt32) ⊕ (Nat → UInt64) ⊕ (Nat → Option Nat)) : (Nat → Int32) ⊕ (Nat → Int64) ⊕ (Nat → UInt32) ⊕ (Nat → UInt64) ⊕ (Nat → Option Nat) := match a with
  | .inr (.inr (.inr (.inr f))) => .inr (.inr (.inr (.inr fun j => gr b (f j))))
  | x => x
def gx (E : gE) (c : gC) : va_E := match c with
  | .inl a => .inl (E.2.2.1 a.1, a.2.1, gar E.2.2.2 a.2.2)
  | .inr o => .inr (o.1, o.2.map (gv E.2.2.2))
def hg : gH → Nat → Option gC
  | [], _ => none
  | c :: _, 0 => some c
  | _ :: t, n + 1 => hg t n
def hs : gH → Nat → gC → gH
  | [], _, _ => []
  | _ :: t, 0, c => c :: t
  | x :: t, n + 1, c => x :: hs t n c
def lgt : List (Option Value) → Nat → Option Value
  | [], _ => none
  | x :: _, 0 => x
  | _ :: t, n + 1 => lgt t n
def lset : List (Option Value) → Nat → Option Value → List (Option Value)
  | [], _, _ => []
  | _ :: t, 0, v => v :: t
  | x :: t, n + 1, v => x :: lset t n v
def is2 (v : Option Value) : Bool := match v with
  | some (.long _) => true
  | some (.double _) => true
  | _ => false
/-- the slot ahead of i holds no long -/
def lno2 : List (Option Value) → Nat → Bool
  | x :: _, 1 => !(is2 x)
  | _ :: t, n + 2 => lno2 t (n + 1)
  | _, _ => true
theorem hg_lt : ∀ (h : gH) (k : Nat) (c : gC), hg h k = some c → k < h.length
  | [], k, c, e => by simp [hg] at e
  | x :: t, 0, c, e => by simp
  | x :: t, n + 1, c, e => by
    have := hg_lt t n c e
    simp
    omega
theorem hs_len : ∀ (h : gH) (k : Nat) (c : gC), (hs h k c).length = h.length
  | [], k, c => rfl
  | x :: t, 0, c => rfl
  | x :: t, n + 1, c => by simp [hs, hs_len t n c]
theorem hg_hs : ∀ (h : gH) (k : Nat) (c : gC) (j : Nat) (z : gC), hg (hs h k c) j = some z → (j = k ∧ z = c) ∨ (j ≠ k ∧ hg h j = some z)
  | [], k, c, j, z, e => by simp [hs, hg] at e
  | x :: t, 0, c, 0, z, e => by
    left
    simp [hs, hg] at e
    exact ⟨rfl, e.symm⟩
  | x :: t, 0, c, j + 1, z, e => by
    right
    exact ⟨by omega, e⟩
  | x :: t, n + 1, c, 0, z, e => by
    right
    exact ⟨by omega, e⟩
  | x :: t, n + 1, c, j + 1, z, e => by
    rcases hg_hs t n c j z e with ⟨h1, h2⟩ | ⟨h1, h2⟩
    · left
      exact ⟨by omega, h2⟩
    · right
      exact ⟨by omega, h2⟩
theorem hg_app : ∀ (h : gH) (c : gC) (j : Nat) (z : gC), hg (h ++ [c]) j = some z → (j = h.length ∧ z = c) ∨ (j < h.length ∧ hg h j = some z)
  | [], c, 0, z, e => by
    left
    simp [hg] at e
    exact ⟨rfl, e.symm⟩
  | [], c, j + 1, z, e => by simp [hg] at e
  | x :: t, c, 0, z, e => by
    right
    exact ⟨by simp, e⟩
  | x :: t, c, j + 1, z, e => by
    rcases hg_app t c j z e with ⟨h1, h2⟩ | ⟨h1, h2⟩
    · left
      exact ⟨by simp; exact h1, h2⟩
    · right
      exact ⟨by simp; exact h1, h2⟩
theorem lgt_lset : ∀ (L : List (Option Value)) (i : Nat) (v : Option Value) (j : Nat) (w : Value), lgt (lset L i v) j = some w → (j = i ∧ v = some w) ∨ (j ≠ i ∧ lgt L j = some w)
  | [], i, v, j, w, e => by simp [lset, lgt] at e
  | x :: t, 0, v, 0, w, e => Or.inl ⟨rfl, e⟩
  | x :: t, 0, v, j + 1, w, e => Or.inr ⟨by omega, e⟩
  | x :: t, n + 1, v, 0, w, e => Or.inr ⟨by omega, e⟩
  | x :: t, n + 1, v, j + 1, w, e => by
    rcases lgt_lset t n v j w e with ⟨h1, h2⟩ | ⟨h1, h2⟩
    · exact Or.inl ⟨by omega, h2⟩
    · exact Or.inr ⟨by omega, h2⟩
theorem lgt_lt : ∀ (L : List (Option Value)) (j : Nat) (w : Value), lgt L j = some w → j < L.length
  | [], j, w, e => by simp [lgt] at e
  | x :: t, 0, w, e => by simp
  | x :: t, n + 1, w, e => by
    have := lgt_lt t n w e
    simp
    omega
theorem lno2_at : ∀ (L : List (Option Value)) (i : Nat) (w : Value), lno2 L (i + 1) = true → lgt L i = some w → ¬ w.category = 2
  | [], i, w, h, e => by simp [lgt] at e
  | x :: t, 0, w, h, e => by
    simp only [lgt] at e
    subst e
    cases w <;> simp [lno2, is2, Value.category] at h ⊢
  | x :: t, n + 1, w, h, e => lno2_at t n w h e
theorem gv_cat (b : Nat) (v : Value) : (gv b v).category = v.category := by cases v <;> rfl
def gL (b nL : Nat) (ls : Array Slot) (L : List (Option Value)) : Prop := ls.size = nL ∧ lv_wf ls ∧ ∀ (i : Nat) (v : Value), lgt L i = some v → ls[i]? = some (.val (gv b v))
def lprs (b : Nat) (L : List (Option Value)) : List (Nat × Value) := (List.range L.length).filterMap (fun i => (lgt L i).map (fun v => (i, gv b v)))
theorem lprs_mem {b : Nat} {L : List (Option Value)} {q : Nat × Value} : q ∈ lprs b L ↔ ∃ v, lgt L q.1 = some v ∧ q.2 = gv b v := by
  unfold lprs
  rw [List.mem_filterMap]
  constructor
  · rintro ⟨i, -, h⟩
    cases hv : lgt L i with
    | none => rw [hv] at h; cases h
    | some v =>
      rw [hv] at h
      simp only [Option.map_some, Option.some.injEq] at h
      subst h
      exact ⟨v, hv, rfl⟩
  · rintro ⟨v, h1, h2⟩
    refine ⟨q.1, List.mem_range.mpr (lgt_lt _ _ _ h1), ?_⟩
    rw [h1]
    simp only [Option.map_some, Option.some.injEq]
    rw [← h2]
theorem gL.has {b nL : Nat} {ls : Array Slot} {L : List (Option Value)} (h : gL b nL ls L) : lv_has ls nL (lprs b L) := by
  refine ⟨h.1, h.2.1, fun q hq => ?_⟩
  obtain ⟨v, h1, h2⟩ := lprs_mem.mp hq
  rw [h2]
  exact h.2.2 q.1 v h1
theorem gL.set1 {b nL i : Nat} {ls' : Array Slot} {L : List (Option Value)} {v : Value} (hn : lno2 L i = true) (h : lv_has ls' nL ((i, gv b v) :: (lprs b L).filter (fun q => !(q.1 == i) && !(q.1 + 1 == i && q.2.category == 2)))) : gL b nL ls' (lset L i (some v)) := by
  refine ⟨h.1, h.2.1, fun j w hj => ?_⟩
  rcases lgt_lset L i _ j w hj with ⟨rfl, e⟩ | ⟨e, hk⟩
  · cases e
    exact h.2.2 _ List.mem_cons_self
  · refine h.2.2 (j, gv b w) (List.mem_cons_of_mem _ (List.mem_filter.mpr ⟨lprs_mem.mpr ⟨w, hk, rfl⟩, ?_⟩))
    have h2 : ¬ (j + 1 = i ∧ w.category = 2) := by
      rintro ⟨h4, h3⟩
      subst h4
      exact lno2_at L j w hn hk h3
    simp only [Bool.and_eq_true, Bool.not_eq_true', beq_eq_false_iff_ne, ne_eq, Bool.and_eq_false_iff, gv_cat]
    refine ⟨e, ?_⟩
    by_cases h3 : j + 1 = i
    · exact Or.inr fun h4 => h2 ⟨h3, h4⟩
    · exact Or.inl h3
theorem gL.set2 {b nL i : Nat} {ls' : Array Slot} {L : List (Option Value)} {v : Value} (hn : lno2 L i = true) (h : lv_has ls' nL ((i, gv b v) :: (lprs b L).filter (fun q => !(q.1 == i) && (!(q.1 == i + 1) && !(q.1 + 1 == i && q.2.category == 2))))) : gL b nL ls' (lset (lset L i (some v)) (i + 1) none) := by
  refine ⟨h.1, h.2.1, fun j w hj => ?_⟩
  rcases lgt_lset _ (i + 1) _ j w hj with ⟨rfl, e⟩ | ⟨e1, hj⟩
  · cases e
  rcases lgt_lset L i _ j w hj with ⟨rfl, e⟩ | ⟨e, hk⟩
  · cases e
    exact h.2.2 _ List.mem_cons_self
  · refine h.2.2 (j, gv b w) (List.mem_cons_of_mem _ (List.mem_filter.mpr ⟨lprs_mem.mpr ⟨w, hk, rfl⟩, ?_⟩))
    have h2 : ¬ (j + 1 = i ∧ w.category = 2) := by
      rintro ⟨h4, h3⟩
      subst h4
      exact lno2_at L j w hn hk h3
    simp only [Bool.and_eq_true, Bool.not_eq_true', beq_eq_false_iff_ne, ne_eq, Bool.and_eq_false_iff, gv_cat]
    refine ⟨e, e1, ?_⟩
    by_cases h3 : j + 1 = i
    · exact Or.inr fun h4 => h2 ⟨h3, h4⟩
    · exact Or.inl h3
/-! what stands of the tables -/
def gW (s : State) : Prop := (∀ w ∈ lw_tbl, goodWord w = true → ∀ a : Array Value, w.before a s = true) ∧ (∀ (a : String) (i : Nat) (x : MethodName) (h : String), Cond.methodLinkNest a i x h ∈ lw_tbl → va_Nw (.methodLinkNest a i x h) s) ∧ va_AO "SignedSheets$World" s
def gtys (E : gE) : List (ClassId × FieldType) := [(E.2.2.1 0, .int), (E.2.2.1 1, .long), (E.2.2.1 2, .boolean), (E.2.2.1 3, .object "SignedSheets$World")]
def gK (E : gE) (s : State) : Prop := gW s ∧ va_K E.2.1 vwCl (gtys E) s
theorem wh_rfl (s : State) : s.WarmedH s.vm := ⟨rfl, rfl, fun d k h => ⟨k, h, rfl, rfl, fun _ => Or.inl rfl, Or.inl ⟨rfl, rfl⟩⟩⟩
theorem gW.moved {s U : State} (hW : s.WarmedH U.vm) (h : gW s) : gW U :=
  ⟨fun w hw hg a => word_at hW (good_of_word hg) (h.1 w hw hg #[]), fun a i x hh hm => va_Nw.warmM hW (h.2.1 a i x hh hm), va_AO.moved hW.alike h.2.2⟩
theorem gK.moved {E : gE} {s U : State} (hW : s.WarmedH U.vm) (h : gK E s) : gK E U := ⟨gW.moved hW h.1, va_K.moved hW.alike h.2⟩
def gP (E : gE) (h : gH) (H0 H : Heap) : Prop := H.size = E.2.2.2 + h.length ∧ (∀ (k : Nat) (c : gC), hg h k = some c → va_at E.2.1 vwCl (E.2.2.2 + k, gx E c) H) ∧ ∀ q : Nat, q < E.2.2.2 → H[q]? = H0[q]?
def gR (d mc ms : Nat) : Room := { frames := d, cells := mc, slots := ms, locals := 35 * d }
def gQ (E : gE) (Q : Option Value → gH → Prop) : Array Value → State → Outcome → State → Prop := fun _ s o t => ∃ (r : Option Value) (h : gH), o = .returned (r.map (gv E.2.2.2)) ∧ Q r h ∧ gP E h s.heap t.heap
def gX (E : gE) (y : MethodName) (cc : ByteArray) (nL : Nat) (ret : Option FieldType) (p : Program) (s : State) (m : MethodId) (meth : Method) (c : Code) : Prop :=
  p.tables.exec = Jvm.exec ∧ c.code = cc ∧ c.maxLocals = nL ∧ meth.sig.returnType = ret ∧ meth.locks = false ∧ s.vm.findClass y.cls = some m.cls ∧ meth.name = y.name ∧ gK E s ∧ E.2.2.2 ≤ s.heap.size
/-- FROM pc, locals L, stack st, world h: the method returns r with the world h', and Q r h' -/
def Go (E : gE) (y : MethodName) (cc : ByteArray) (nL : Nat) (ret : Option FieldType) (d kc ks mc ms pc : Nat) (L : List (Option Value)) (st : List Value) (h : gH) (Q : Option Value → gH → Prop) : Prop :=
  ∀ (p : Program) (e : Env) (s : State) (m : MethodId) (args : Array Value) (below : List Frame) (meth : Method) (c : Code) (H : Heap) (locs : List Loc) (ls : Array Slot),
    gX E y cc nL ret p s m meth c → gP E h s.heap H → (∀ q ∈ locs, E.2.2.2 ≤ q.base) → gL E.2.2.2 nL ls L →
    W p E.1 e (gR d mc ms) s m args below meth c H locs kc ks (MQ below (gQ E Q) args s mc ms (fun q => E.2.2.2 ≤ q)) (F0 m pc ls (st.map (gv E.2.2.2)))
/-- CALLED with the arguments as on the world h: it returns r with the world h', and Q r h' -/
def Ret (E : gE) (y : MethodName) (cc : ByteArray) (nL : Nat) (ret : Option FieldType) (d mc ms : Nat) (as : List Value) (h : gH) (Q : Option Value → gH → Prop) : Prop :=
  Met E.1 y [Cond.code y cc nL ret] (gR d mc ms) (va_Pc (as.map (gv E.2.2.2)) (fun U => gK E U ∧ E.2.2.2 ≤ U.heap.size ∧ gP E h U.heap U.heap)) (gQ E Q) mc ms (fun q => E.2.2.2 ≤ q)
/-- the locals at a method's entry -/
def largs : Nat → List Value → List (Option Value)
  | n, [] => List.replicate n none
  | n, .long x :: vs => some (.long x) :: none :: largs (n - 2) vs
  | n, .double x :: vs => some (.double x) :: none :: largs (n - 2) vs
  | n, v :: vs => some v :: largs (n - 1) vs
theorem lgt_rep (n j : Nat) (w : Value) : lgt (List.replicate n none) j ≠ some w := by
  induction n generalizing j with
  | zero => simp [lgt]
  | succ n ih =>
    cases j with
    | zero => simp [List.replicate_succ, lgt]
    | succ j => rw [List.replicate_succ]; exact ih j
theorem lv_args_shift (i : Nat) (vs : List Value) : ∀ (j : Nat) (w : Value), (j, w) ∈ lv_args i vs → (j + 1, w) ∈ lv_args (i + 1) vs := by
  induction vs generalizing i with
  | nil => intro j w h; cases h
  | cons v vs ih =>
    intro j w h
    simp only [lv_args] at h ⊢
    rcases List.mem_cons.mp h with e | h
    · cases e
      exact List.mem_cons_self
    · refine List.mem_cons_of_mem _ ?_
      by_cases hc : v.category = 2
      · rw [if_pos hc] at h ⊢
        exact ih (i + 2) j w h
      · rw [if_neg hc] at h ⊢
        exact ih (i + 1) j w h
theorem largs_in (vs : List Value) : ∀ (n j : Nat) (w : Value), lgt (largs n vs) j = some w → (j, w) ∈ lv_args 0 vs := by
  induction vs with
  | nil => intro n j w h; exact absurd h (lgt_rep n j w)
  | cons v vs ih =>
    intro n j w h
    have one : ∀ (t : List (Option Value)) (j : Nat), lgt (some v :: t) j = some w → (∀ k, lgt t k = some w → (k, w) ∈ lv_args 0 vs) → v.category = 1 → (j, w) ∈ lv_args 0 (v :: vs) := by
      intro t j hj ht hc
      cases j with
      | zero =>
        simp only [lgt, Option.some.injEq] at hj
        subst hj
        exact List.mem_cons_self
      | succ j =>
        simp only [lv_args]
        rw [if_neg (by omega)]
        exact List.mem_cons_of_mem _ (lv_args_shift 0 vs j w (ht j hj))
    have two : ∀ (t : List (Option Value)) (j : Nat), lgt (some v :: none :: t) j = some w → (∀ k, lgt t k = some w → (k, w) ∈ lv_args 0 vs) → v.category = 2 → (j, w) ∈ lv_args 0 (v :: vs) := by
      intro t j hj ht hc
      match j, hj with
      | 0, hj =>
        simp only [lgt, Option.some.injEq] at hj
        subst hj
        exact List.mem_cons_self
      | 1, hj => simp [lgt] at hj
      | j + 2, hj =>
        simp only [lv_args]
        rw [if_pos hc]
        exact List.mem_cons_of_mem _ (lv_args_shift 1 vs (j + 1) w (lv_args_shift 0 vs j w (ht j hj)))
    cases v with
    | long x => exact two _ j h (fun k hk => ih _ k w hk) rfl
    | double x => exact two _ j h (fun k hk => ih _ k w hk) rfl
    | int x => exact one _ j h (fun k hk => ih _ k w hk) rfl
    | float x => exact one _ j h (fun k hk => ih _ k w hk) rfl
    | null => exact one _ j h (fun k hk => ih _ k w hk) rfl
    | ref x => exact one _ j h (fun k hk => ih _ k w hk) rfl
    | retAddr x => exact one _ j h (fun k hk => ih _ k w hk) rfl
theorem lv_args_map (b : Nat) (vs : List Value) : ∀ (i j : Nat) (w : Value), (j, w) ∈ lv_args i vs → (j, gv b w) ∈ lv_args i (vs.map (gv b)) := by
  induction vs with
  | nil => intro i j w h; cases h
  | cons v vs ih =>
    intro i j w h
    simp only [lv_args, List.map_cons] at h ⊢
    rcases List.mem_cons.mp h with e | h
    · cases e
      exact List.mem_cons_self
    · rw [gv_cat]
      exact List.mem_cons_of_mem _ (ih _ j w h)
theorem lg_sl_map (b : Nat) (vs : List Value) : (lg_sl (vs.map (gv b))).length = (lg_sl vs).length := by
  induction vs with
  | nil => rfl
  | cons v vs ih =>
    simp only [lg_sl, List.map_cons, List.flatMap_cons, List.length_append, gv_cat] at ih ⊢
    rw [ih]
    by_cases h : v.category = 2
    · rw [if_pos h, if_pos h]
      rfl
    · rw [if_neg h, if_neg h]
      rfl
theorem ret_of_go {E : gE} {y : MethodName} {cc : ByteArray} {nL : Nat} {ret : Option FieldType} {d mc ms : Nat} {as : List Value} {h : gH} {Q : Option Value → gH → Prop} {L : List (Option Value)} (hy : plainName y.cls = true) (hn : (lg_sl as).length ≤ nL) (hL : largs nL as = L)
    (k : Go E y cc nL ret d 0 0 mc ms 0 L [] h Q) : Ret E y cc nL ret d mc ms as h Q := by
  refine Met.ofW (cc := cc) (maxL := nL) (ret := ret) hy rfl ?_
  intro p e s m args below meth c s₁ B hml hv
  obtain ⟨rfl, hK, hb, hP⟩ := hv
  have hl := lv_entry (as.map (gv E.2.2.2)) (n := nL) (by rw [lg_sl_map]; exact hn)
  rw [lg_entry_eq]
  generalize (lg_sl (as.map (gv E.2.2.2)) ++ List.replicate (nL - (lg_sl (as.map (gv E.2.2.2))).length) Slot.unset).toArray = ls at hl ⊢
  refine k p e s m _ below meth c s.heap [] ls ⟨B.exec, B.bytes, hml, B.returns, B.notSynchronized, findClass_of_methodNamed B.named, (name_of_methodNamed B.named B.method).1, hK, hb⟩ hP (fun q hq => by cases hq) ⟨hl.1, hl.2.1, fun i v hi => ?_⟩
  subst hL
  exact hl.2.2 (i, gv E.2.2.2 v) (lv_args_map _ _ _ _ _ (largs_in as nL i v hi))
end
section
section Ops
variable {E : gE} {y : MethodName} {cc : ByteArray} {nL : Nat} {ret : Option FieldType} {d kc ks mc ms pc : Nat} {L : List (Option Value)} {st : List Value} {h : gH} {Q : Option Value → gH → Prop}
theorem go_iadd {a b : Int32} (hd : decode cc pc = .ok (.iadd, 1)) (k : Go E y cc nL ret d kc ks mc ms (pc + 1) L (.int (a + b) :: st) h Q) : Go E y cc nL ret d kc ks mc ms pc L (.int b :: .int a :: st) h Q := by
  intro p e s m args below meth c H locs ls X hP hl hL
  exact lv_iadd X.1 X.2.1 hd (k p e s m args below meth c H locs ls X hP hl hL)
theorem go_isub {a b : Int32} (hd : decode cc pc = .ok (.isub, 1)) (k : Go E y cc nL ret d kc ks mc ms (pc + 1) L (.int (a - b) :: st) h Q) : Go E y cc nL ret d kc ks mc ms pc L (.int b :: .int a :: st) h Q := by
  intro p e s m args below meth c H locs ls X hP hl hL
  exact lv_isub X.1 X.2.1 hd (k p e s m args below meth c H locs ls X hP hl hL)
theorem go_imul {a b : Int32} (hd : decode cc pc = .ok (.imul, 1)) (k : Go E y cc nL ret d kc ks mc ms (pc + 1) L (.int (a * b) :: st) h Q) : Go E y cc nL ret d kc ks mc ms pc L (.int b :: .int a :: st) h Q := by
  intro p e s m args below meth c H locs ls X hP hl hL
  exact lv_imul X.1 X.2.1 hd (k p e s m args below meth c H locs ls X hP hl hL)
theorem go_iand {a b : Int32} (hd : decode cc pc = .ok (.iand, 1)) (k : Go E y cc nL ret d kc ks mc ms (pc + 1) L (.int (a &&& b) :: st) h Q) : Go E y cc nL ret d kc ks mc ms pc L (.int b :: .int a :: st) h Q := by
  intro p e s m args below meth c H locs ls X hP hl hL
  exact lv_iand X.1 X.2.1 hd (k p e s m args below meth c H locs ls X hP hl hL)
theorem go_ior {a b : Int32} (hd : decode cc pc = .ok (.ior, 1)) (k : Go E y cc nL ret d kc ks mc ms (pc + 1) L (.int (a ||| b) :: st) h Q) : Go E y cc nL ret d kc ks mc ms pc L (.int b :: .int a :: st) h Q := by
  intro p e s m args below meth c H locs ls X hP hl hL
  exact lv_ior X.1 X.2.1 hd (k p e s m args below meth c H locs ls X hP hl hL)
theorem go_ixor {a b : Int32} (hd : decode cc pc = .ok (.ixor, 1)) (k : Go E y cc nL ret d kc ks mc ms (pc + 1) L (.int (a ^^^ b) :: st) h Q) : Go E y cc nL ret d kc ks mc ms pc L (.int b :: .int a :: st) h Q := by
  intro p e s m args below meth c H locs ls X hP hl hL
  exact lv_ixor X.1 X.2.1 hd (k p e s m args below meth c H locs ls X hP hl hL)
theorem go_ladd {a b : Int64} (hd : decode cc pc = .ok (.ladd, 1)) (k : Go E y cc nL ret d kc ks mc ms (pc + 1) L (.long (a + b) :: st) h Q) : Go E y cc nL ret d kc ks mc ms pc L (.long b :: .long a :: st) h Q := by
  intro p e s m args below meth c H locs ls X hP hl hL
  exact lv_ladd X.1 X.2.1 hd (k p e s m args below meth c H locs ls X hP hl hL)
theorem go_lsub {a b : Int64} (hd : decode cc pc = .ok (.lsub, 1)) (k : Go E y cc nL ret d kc ks mc ms (pc + 1) L (.long (a - b) :: st) h Q) : Go E y cc nL ret d kc ks mc ms pc L (.long b :: .long a :: st) h Q := by
  intro p e s m args below meth c H locs ls X hP hl hL
  exact lv_lsub X.1 X.2.1 hd (k p e s m args below meth c H locs ls X hP hl hL)
theorem go_lmul {a b : Int64} (hd : decode cc pc = .ok (.lmul, 1)) (k : Go E y cc nL ret d kc ks mc ms (pc + 1) L (.long (a * b) :: st) h Q) : Go E y cc nL ret d kc ks mc ms pc L (.long b :: .long a :: st) h Q := by
  intro p e s m args below meth c H locs ls X hP hl hL
  exact lv_lmul X.1 X.2.1 hd (k p e s m args below meth c H locs ls X hP hl hL)
theorem go_idiv {a b : Int32} (hd : decode cc pc = .ok (.idiv, 1)) (hne : ¬ b = 0) (k : Go E y cc nL ret d kc ks mc ms (pc + 1) L (.int (a / b) :: st) h Q) : Go E y cc nL ret d kc ks mc ms pc L (.int b :: .int a :: st) h Q := by
  intro p e s m args below meth c H locs ls X hP hl hL
  exact lv_idiv X.1 X.2.1 hd hne (k p e s m args below meth c H locs ls X hP hl hL)
theorem go_irem {a b : Int32} (hd : decode cc pc = .ok (.irem, 1)) (hne : ¬ b = 0) (k : Go E y cc nL ret d kc ks mc ms (pc + 1) L (.int (a - a / b * b) :: st) h Q) : Go E y cc nL ret d kc ks mc ms pc L (.int b :: .int a :: st) h Q := by
  intro p e s m args below meth c H locs ls X hP hl hL
  exact lv_irem X.1 X.2.1 hd hne (k p e s m args below meth c H locs ls X hP hl hL)
theorem go_ldiv {a b : Int64} (hd : decode cc pc = .ok (.ldiv, 1)) (hne : ¬ b = 0) (k : Go E y cc nL ret d kc ks mc ms (pc + 1) L (.long (a / b) :: st) h Q) : Go E y cc nL ret d kc ks mc ms pc L (.long b :: .long a :: st) h Q := by
  intro p e s m args below meth c H locs ls X hP hl hL
  exact lv_ldiv X.1 X.2.1 hd hne (k p e s m args below meth c H locs ls X hP hl hL)
theorem go_lrem {a b : Int64} (hd : decode cc pc = .ok (.lrem, 1)) (hne : ¬ b = 0) (k : Go E y cc nL ret d kc ks mc ms (pc + 1) L (.long (a - a / b * b) :: st) h Q) : Go E y cc nL ret d kc ks mc ms pc L (.long b :: .long a :: st) h Q := by
  intro p e s m args below meth c H locs ls X hP hl hL
  exact lv_lrem X.1 X.2.1 hd hne (k p e s m args below meth c H locs ls X hP hl hL)
theorem go_ineg {a : Int32} (hd : decode cc pc = .ok (.ineg, 1)) (k : Go E y cc nL ret d kc ks mc ms (pc + 1) L (.int (-a) :: st) h Q) : Go E y cc nL ret d kc ks mc ms pc L (.int a :: st) h Q := by
  intro p e s m args below meth c H locs ls X hP hl hL
  exact lv_ineg X.1 X.2.1 hd (k p e s m args below meth c H locs ls X hP hl hL)
theorem go_ishl {a b : Int32} (hd : decode cc pc = .ok (.ishl, 1)) (k : Go E y cc nL ret d kc ks mc ms (pc + 1) L (.int (a <<< (b &&& 31)) :: st) h Q) : Go E y cc nL ret d kc ks mc ms pc L (.int b :: .int a :: st) h Q := by
  intro p e s m args below meth c H locs ls X hP hl hL
  exact lv_ishl X.1 X.2.1 hd (k p e s m args below meth c H locs ls X hP hl hL)
theorem go_ishr {a b : Int32} (hd : decode cc pc = .ok (.ishr, 1)) (k : Go E y cc nL ret d kc ks mc ms (pc + 1) L (.int (a >>> (b &&& 31)) :: st) h Q) : Go E y cc nL ret d kc ks mc ms pc L (.int b :: .int a :: st) h Q := by
  intro p e s m args below meth c H locs ls X hP hl hL
  exact lv_ishr X.1 X.2.1 hd (k p e s m args below meth c H locs ls X hP hl hL)
theorem go_iushr {a b : Int32} (hd : decode cc pc = .ok (.iushr, 1)) (k : Go E y cc nL ret d kc ks mc ms (pc + 1) L (.int (a.toUInt32 >>> (b.toUInt32 &&& Int32.toUInt32 31)).toInt32 :: st) h Q) : Go E y cc nL ret d kc ks mc ms pc L (.int b :: .int a :: st) h Q := by
  intro p e s m args below meth c H locs ls X hP hl hL
  exact lv_iushr X.1 X.2.1 hd rfl (k p e s m args below meth c H locs ls X hP hl hL)
theorem go_i2l {a : Int32} (hd : decode cc pc = .ok (.i2l, 1)) (k : Go E y cc nL ret d kc ks mc ms (pc + 1) L (.long a.toInt64 :: st) h Q) : Go E y cc nL ret d kc ks mc ms pc L (.int a :: st) h Q := by
  intro p e s m args below meth c H locs ls X hP hl hL
  exact lv_i2l X.1 X.2.1 hd rfl (k p e s m args below meth c H locs ls X hP hl hL)
theorem go_lcmp {a b : Int64} (hd : decode cc pc = .ok (.lcmp, 1)) (k : Go E y cc nL ret d kc ks mc ms (pc + 1) L (.int (lg_cmp a b) :: st) h Q) : Go E y cc nL ret d kc ks mc ms pc L (.long b :: .long a :: st) h Q := by
  intro p e s m args below meth c H locs ls X hP hl hL
  exact W.lcmp X.1 X.2.1 hd (k p e s m args below meth c H locs ls X hP hl hL)
theorem go_iconst {n : Int} {v : Int32} (hd : decode cc pc = .ok (.iconst n, 1)) (hv : Int32.ofInt n = v) (k : Go E y cc nL ret d kc ks mc ms (pc + 1) L (.int v :: st) h Q) : Go E y cc nL ret d kc ks mc ms pc L st h Q := by
  intro p e s m args below meth c H locs ls X hP hl hL
  exact lv_iconst X.1 X.2.1 hd hv (k p e s m args below meth c H locs ls X hP hl hL)
theorem go_bipush {n : Int} {v : Int32} (hd : decode cc pc = .ok (.bipush n, 2)) (hv : (Int8.ofInt n).toInt32 = v) (k : Go E y cc nL ret d kc ks mc ms (pc + 2) L (.int v :: st) h Q) : Go E y cc nL ret d kc ks mc ms pc L st h Q := by
  intro p e s m args below meth c H locs ls X hP hl hL
  exact lv_bipush X.1 X.2.1 hd hv (k p e s m args below meth c H locs ls X hP hl hL)
theorem go_sipush {n : Int} {v : Int32} (hd : decode cc pc = .ok (.sipush n, 3)) (hv : (Int16.ofInt n).toInt32 = v) (k : Go E y cc nL ret d kc ks mc ms (pc + 3) L (.int v :: st) h Q) : Go E y cc nL ret d kc ks mc ms pc L st h Q := by
  intro p e s m args below meth c H locs ls X hP hl hL
  exact lv_sipush X.1 X.2.1 hd hv (k p e s m args below meth c H locs ls X hP hl hL)
theorem go_lconst {n : Fin 2} {v : Int64} (hd : decode cc pc = .ok (.lconst n, 1)) (hv : Int64.ofNat (n : Nat) = v) (k : Go E y cc nL ret d kc ks mc ms (pc + 1) L (.long v :: st) h Q) : Go E y cc nL ret d kc ks mc ms pc L st h Q := by
  intro p e s m args below meth c H locs ls X hP hl hL
  exact lv_lconst X.1 X.2.1 hd hv (k p e s m args below meth c H locs ls X hP hl hL)
theorem go_dup {v : Value} (hd : decode cc pc = .ok (.dup, 1)) (hc : v.category = 1) (k : Go E y cc nL ret d kc ks mc ms (pc + 1) L (v :: v :: st) h Q) : Go E y cc nL ret d kc ks mc ms pc L (v :: st) h Q := by
  intro p e s m args below meth c H locs ls X hP hl hL
  exact lv_dup X.1 X.2.1 hd (by rw [gv_cat]; exact hc) (k p e s m args below meth c H locs ls X hP hl hL)
theorem go_pop {v : Value} (hd : decode cc pc = .ok (.pop, 1)) (hc : v.category = 1) (k : Go E y cc nL ret d kc ks mc ms (pc + 1) L st h Q) : Go E y cc nL ret d kc ks mc ms pc L (v :: st) h Q := by
  intro p e s m args below meth c H locs ls X hP hl hL
  exact lv_pop X.1 X.2.1 hd (by rw [gv_cat]; exact hc) (k p e s m args below meth c H locs ls X hP hl hL)
theorem go_dup2 {v w : Value} (hd : decode cc pc = .ok (.dup2, 1)) (hc : v.category = 1) (hc2 : w.category = 1) (k : Go E y cc nL ret d kc ks mc ms (pc + 1) L (v :: w :: v :: w :: st) h Q) : Go E y cc nL ret d kc ks mc ms pc L (v :: w :: st) h Q := by
  intro p e s m args below meth c H locs ls X hP hl hL
  exact lv_dup2_11 X.1 X.2.1 hd (by rw [gv_cat]; exact hc) (by rw [gv_cat]; exact hc2) (k p e s m args below meth c H locs ls X hP hl hL)
theorem go_iload_n {j : Fin 4} {x : Int32} (hd : decode cc pc = .ok (.iload_n j, 1)) (hx : lgt L (j : Nat) = some (.int x)) (k : Go E y cc nL ret d kc ks mc ms (pc + 1) L (.int x :: st) h Q) : Go E y cc nL ret d kc ks mc ms pc L st h Q := by
  intro p e s m args below meth c H locs ls X hP hl hL
  exact lv_iload_n X.1 X.2.1 hd rfl (hL.2.2 _ _ hx) (k p e s m args below meth c H locs ls X hP hl hL)
theorem go_iload {j : Nat} {x : Int32} (hd : decode cc pc = .ok (.iload j, 2)) (hx : lgt L j = some (.int x)) (k : Go E y cc nL ret d kc ks mc ms (pc + 2) L (.int x :: st) h Q) : Go E y cc nL ret d kc ks mc ms pc L st h Q := by
  intro p e s m args below meth c H locs ls X hP hl hL
  exact lv_iload X.1 X.2.1 hd (hL.2.2 _ _ hx) (k p e s m args below meth c H locs ls X hP hl hL)
theorem go_lload_n {j : Fin 4} {x : Int64} (hd : decode cc pc = .ok (.lload_n j, 1)) (hx : lgt L (j : Nat) = some (.long x)) (k : Go E y cc nL ret d kc ks mc ms (pc + 1) L (.long x :: st) h Q) : Go E y cc nL ret d kc ks mc ms pc L st h Q := by
  intro p e s m args below meth c H locs ls X hP hl hL
  exact lv_lload_n X.1 X.2.1 hd rfl (hL.2.2 _ _ hx) (k p e s m args below meth c H locs ls X hP hl hL)
theorem go_lload {j : Nat} {x : Int64} (hd : decode cc pc = .ok (.lload j, 2)) (hx : lgt L j = some (.long x)) (k : Go E y cc nL ret d kc ks mc ms (pc + 2) L (.long x :: st) h Q) : Go E y cc nL ret d kc ks mc ms pc L st h Q := by
  intro p e s m args below meth c H locs ls X hP hl hL
  exact lv_lload X.1 X.2.1 hd (hL.2.2 _ _ hx) (k p e s m args below meth c H locs ls X hP hl hL)
theorem go_aload_n {j : Fin 4} {x : Nat} (hd : decode cc pc = .ok (.aload_n j, 1)) (hx : lgt L (j : Nat) = some (.ref x)) (k : Go E y cc nL ret d kc ks mc ms (pc + 1) L (.ref x :: st) h Q) : Go E y cc nL ret d kc ks mc ms pc L st h Q := by
  intro p e s m args below meth c H locs ls X hP hl hL
  exact lv_aload_n X.1 X.2.1 hd rfl (hL.2.2 _ _ hx) (k p e s m args below meth c H locs ls X hP hl hL)
theorem go_aload {j : Nat} {x : Nat} (hd : decode cc pc = .ok (.aload j, 2)) (hx : lgt L j = some (.ref x)) (k : Go E y cc nL ret d kc ks mc ms (pc + 2) L (.ref x :: st) h Q) : Go E y cc nL ret d kc ks mc ms pc L st h Q := by
  intro p e s m args below meth c H locs ls X hP hl hL
  exact lv_aload X.1 X.2.1 hd (hL.2.2 _ _ hx) (k p e s m args below meth c H locs ls X hP hl hL)
theorem go_istore_n {j : Fin 4} {x : Int32} {L' : List (Option Value)} (hd : decode cc pc = .ok (.istore_n j, 1)) (hj : Nat.blt (j : Nat) nL = true) (h2 : lno2 L (j : Nat) = true) (hs : lset L (j : Nat) (some (.int x)) = L') (k : Go E y cc nL ret d kc ks mc ms (pc + 1) L' st h Q) : Go E y cc nL ret d kc ks mc ms pc L (.int x :: st) h Q := by
  intro p e s m args below meth c H locs ls X hP hl hL
  refine lv_istore_n X.1 X.2.1 hd rfl hL.has (Nat.blt_eq ▸ hj) rfl fun ls' hL' => ?_
  subst hs
  exact (k p e s m args below meth c H locs ls' X hP hl (gL.set1 (v := .int x) h2 hL'))
theorem go_istore {j : Nat} {x : Int32} {L' : List (Option Value)} (hd : decode cc pc = .ok (.istore j, 2)) (hj : Nat.blt j nL = true) (h2 : lno2 L j = true) (hs : lset L j (some (.int x)) = L') (k : Go E y cc nL ret d kc ks mc ms (pc + 2) L' st h Q) : Go E y cc nL ret d kc ks mc ms pc L (.int x :: st) h Q := by
  intro p e s m args below meth c H locs ls X hP hl hL
  refine lv_istore X.1 X.2.1 hd hL.has (Nat.blt_eq ▸ hj) rfl fun ls' hL' => ?_
  subst hs
  exact (k p e s m args below meth c H locs ls' X hP hl (gL.set1 (v := .int x) h2 hL'))
theorem go_astore_n {j : Fin 4} {x : Nat} {L' : List (Option Value)} (hd : decode cc pc = .ok (.astore_n j, 1)) (hj : Nat.blt (j : Nat) nL = true) (h2 : lno2 L (j : Nat) = true) (hs : lset L (j : Nat) (some (.ref x)) = L') (k : Go E y cc nL ret d kc ks mc ms (pc + 1) L' st h Q) : Go E y cc nL ret d kc ks mc ms pc L (.ref x :: st) h Q := by
  intro p e s m args below meth c H locs ls X hP hl hL
  refine lv_astore_n X.1 X.2.1 hd rfl hL.has (Nat.blt_eq ▸ hj) rfl fun ls' hL' => ?_
  subst hs
  exact (k p e s m args below meth c H locs ls' X hP hl (gL.set1 (v := .ref x) h2 hL'))
theorem go_astore {j : Nat} {x : Nat} {L' : List (Option Value)} (hd : decode cc pc = .ok (.astore j, 2)) (hj : Nat.blt j nL = true) (h2 : lno2 L j = true) (hs : lset L j (some (.ref x)) = L') (k : Go E y cc nL ret d kc ks mc ms (pc + 2) L' st h Q) : Go E y cc nL ret d kc ks mc ms pc L (.ref x :: st) h Q := by
  intro p e s m args below meth c H locs ls X hP hl hL
  refine lv_astore X.1 X.2.1 hd hL.has (Nat.blt_eq ▸ hj) rfl fun ls' hL' => ?_
  subst hs
  exact (k p e s m args below meth c H locs ls' X hP hl (gL.set1 (v := .ref x) h2 hL'))
theorem go_lstore_n {j : Fin 4} {x : Int64} {L' : List (Option Value)} (hd : decode cc pc = .ok (.lstore_n j, 1)) (hj : Nat.blt ((j : Nat) + 1) nL = true) (h2 : lno2 L (j : Nat) = true) (hs : lset (lset L (j : Nat) (some (.long x))) ((j : Nat) + 1) none = L') (k : Go E y cc nL ret d kc ks mc ms (pc + 1) L' st h Q) : Go E y cc nL ret d kc ks mc ms pc L (.long x :: st) h Q := by
  intro p e s m args below meth c H locs ls X hP hl hL
  refine lv_lstore_n X.1 X.2.1 hd rfl hL.has (Nat.blt_eq ▸ hj) rfl fun ls' hL' => ?_
  subst hs
  exact (k p e s m args below meth c H locs ls' X hP hl (gL.set2 (v := .long x) h2 hL'))
theorem go_lstore {j : Nat} {x : Int64} {L' : List (Option Value)} (hd : decode cc pc = .ok (.lstore j, 2)) (hj : Nat.blt (j + 1) nL = true) (h2 : lno2 L j = true) (hs : lset (lset L j (some (.long x))) (j + 1) none = L') (k : Go E y cc nL ret d kc ks mc ms (pc + 2) L' st h Q) : Go E y cc nL ret d kc ks mc ms pc L (.long x :: st) h Q := by
  intro p e s m args below meth c H locs ls X hP hl hL
  refine lv_lstore X.1 X.2.1 hd hL.has (Nat.blt_eq ▸ hj) rfl fun ls' hL' => ?_
  subst hs
  exact (k p e s m args below meth c H locs ls' X hP hl (gL.set2 (v := .long x) h2 hL'))
theorem go_iinc {j : Nat} {n : Int} {x v : Int32} {L' : List (Option Value)} (hd : decode cc pc = .ok (.iinc j n, 3)) (hx : lgt L j = some (.int x)) (hv : x + Int32.ofInt n = v) (hj : Nat.blt j nL = true) (h2 : lno2 L j = true) (hs : lset L j (some (.int v)) = L') (k : Go E y cc nL ret d kc ks mc ms (pc + 3) L' st h Q) : Go E y cc nL ret d kc ks mc ms pc L st h Q := by
  intro p e s m args below meth c H locs ls X hP hl hL
  have hm : (j, Value.int x) ∈ lprs E.2.2.2 L := lprs_mem.mpr ⟨.int x, hx, rfl⟩
  obtain ⟨q, hq⟩ := List.getElem?_of_mem hm
  refine lv_iinc X.1 X.2.1 hd hL.has hq hv (Nat.blt_eq ▸ hj) rfl fun ls' hL' => ?_
  subst hs
  exact (k p e s m args below meth c H locs ls' X hP hl (gL.set1 (v := .int v) h2 hL'))
theorem go_icmp_eq {x z : Int32} {off : Int} {tgt : Nat} (hd : decode cc pc = .ok (.if_icmp .eq off, 3)) (ht : (pc : Int) + off = (tgt : Int)) (kt : x = z → Go E y cc nL ret d kc ks mc ms tgt L st h Q) (kf : ¬ x = z → Go E y cc nL ret d kc ks mc ms (pc + 3) L st h Q) : Go E y cc nL ret d kc ks mc ms pc L (.int z :: .int x :: st) h Q := by
  intro p e s m args below meth c H locs ls X hP hl hL
  exact lv_icmp_eq X.1 X.2.1 hd ht (fun q => kt q p e s m args below meth c H locs ls X hP hl hL) (fun q => kf q p e s m args below meth c H locs ls X hP hl hL)
theorem go_if_eq {x : Int32} {off : Int} {tgt : Nat} (hd : decode cc pc = .ok (.ifCond .eq off, 3)) (ht : (pc : Int) + off = (tgt : Int)) (kt : x = 0 → Go E y cc nL ret d kc ks mc ms tgt L st h Q) (kf : ¬ x = 0 → Go E y cc nL ret d kc ks mc ms (pc + 3) L st h Q) : Go E y cc nL ret d kc ks mc ms pc L (.int x :: st) h Q := by
  intro p e s m args below meth c H locs ls X hP hl hL
  exact lv_if_eq X.1 X.2.1 hd ht (fun q => kt q p e s m args below meth c H locs ls X hP hl hL) (fun q => kf q p e s m args below meth c H locs ls X hP hl hL)
theorem go_icmp_ne {x z : Int32} {off : Int} {tgt : Nat} (hd : decode cc pc = .ok (.if_icmp .ne off, 3)) (ht : (pc : Int) + off = (tgt : Int)) (kt : ¬ x = z → Go E y cc nL ret d kc ks mc ms tgt L st h Q) (kf : x = z → Go E y cc nL ret d kc ks mc ms (pc + 3) L st h Q) : Go E y cc nL ret d kc ks mc ms pc L (.int z :: .int x :: st) h Q := by
  intro p e s m args below meth c H locs ls X hP hl hL
  exact lv_icmp_ne X.1 X.2.1 hd ht (fun q => kt q p e s m args below meth c H locs ls X hP hl hL) (fun q => kf q p e s m args below meth c H locs ls X hP hl hL)
theorem go_if_ne {x : Int32} {off : Int} {tgt : Nat} (hd : decode cc pc = .ok (.ifCond .ne off, 3)) (ht : (pc : Int) + off = (tgt : Int)) (kt : ¬ x = 0 → Go E y cc nL ret d kc ks mc ms tgt L st h Q) (kf : x = 0 → Go E y cc nL ret d kc ks mc ms (pc + 3) L st h Q) : Go E y cc nL ret d kc ks mc ms pc L (.int x :: st) h Q := by
  intro p e s m args below meth c H locs ls X hP hl hL
  exact lv_if_ne X.1 X.2.1 hd ht (fun q => kt q p e s m args below meth c H locs ls X hP hl hL) (fun q => kf q p e s m args below meth c H locs ls X hP hl hL)
theorem go_icmp_lt {x z : Int32} {off : Int} {tgt : Nat} (hd : decode cc pc = .ok (.if_icmp .lt off, 3)) (ht : (pc : Int) + off = (tgt : Int)) (kt : x < z → Go E y cc nL ret d kc ks mc ms tgt L st h Q) (kf : ¬ x < z → Go E y cc nL ret d kc ks mc ms (pc + 3) L st h Q) : Go E y cc nL ret d kc ks mc ms pc L (.int z :: .int x :: st) h Q := by
  intro p e s m args below meth c H locs ls X hP hl hL
  exact lv_icmp_lt X.1 X.2.1 hd ht (fun q => kt q p e s m args below meth c H locs ls X hP hl hL) (fun q => kf q p e s m args below meth c H locs ls X hP hl hL)
theorem go_if_lt {x : Int32} {off : Int} {tgt : Nat} (hd : decode cc pc = .ok (.ifCond .lt off, 3)) (ht : (pc : Int) + off = (tgt : Int)) (kt : x < 0 → Go E y cc nL ret d kc ks mc ms tgt L st h Q) (kf : ¬ x < 0 → Go E y cc nL ret d kc ks mc ms (pc + 3) L st h Q) : Go E y cc nL ret d kc ks mc ms pc L (.int x :: st) h Q := by
  intro p e s m args below meth c H locs ls X hP hl hL
  exact lv_if_lt X.1 X.2.1 hd ht (fun q => kt q p e s m args below meth c H locs ls X hP hl hL) (fun q => kf q p e s m args below meth c H locs ls X hP hl hL)
theorem go_icmp_ge {x z : Int32} {off : Int} {tgt : Nat} (hd : decode cc pc = .ok (.if_icmp .ge off, 3)) (ht : (pc : Int) + off = (tgt : Int)) (kt : z ≤ x → Go E y cc nL ret d kc ks mc ms tgt L st h Q) (kf : ¬ z ≤ x → Go E y cc nL ret d kc ks mc ms (pc + 3) L st h Q) : Go E y cc nL ret d kc ks mc ms pc L (.int z :: .int x :: st) h Q := by
  intro p e s m args below meth c H locs ls X hP hl hL
  exact lv_icmp_ge X.1 X.2.1 hd ht (fun q => kt q p e s m args below meth c H locs ls X hP hl hL) (fun q => kf q p e s m args below meth c H locs ls X hP hl hL)
theorem go_if_ge {x : Int32} {off : Int} {tgt : Nat} (hd : decode cc pc = .ok (.ifCond .ge off, 3)) (ht : (pc : Int) + off = (tgt : Int)) (kt : 0 ≤ x → Go E y cc nL ret d kc ks mc ms tgt L st h Q) (kf : ¬ 0 ≤ x → Go E y cc nL ret d kc ks mc ms (pc + 3) L st h Q) : Go E y cc nL ret d kc ks mc ms pc L (.int x :: st) h Q := by
  intro p e s m args below meth c H locs ls X hP hl hL
  exact lv_if_ge X.1 X.2.1 hd ht (fun q => kt q p e s m args below meth c H locs ls X hP hl hL) (fun q => kf q p e s m args below meth c H locs ls X hP hl hL)
theorem go_icmp_gt {x z : Int32} {off : Int} {tgt : Nat} (hd : decode cc pc = .ok (.if_icmp .gt off, 3)) (ht : (pc : Int) + off = (tgt : Int)) (kt : z < x → Go E y cc nL ret d kc ks mc ms tgt L st h Q) (kf : ¬ z < x → Go E y cc nL ret d kc ks mc ms (pc + 3) L st h Q) : Go E y cc nL ret d kc ks mc ms pc L (.int z :: .int x :: st) h Q := by
  intro p e s m args below meth c H locs ls X hP hl hL
  exact lv_icmp_gt X.1 X.2.1 hd ht (fun q => kt q p e s m args below meth c H locs ls X hP hl hL) (fun q => kf q p e s m args below meth c H locs ls X hP hl hL)
theorem go_if_gt {x : Int32} {off : Int} {tgt : Nat} (hd : decode cc pc = .ok (.ifCond .gt off, 3)) (ht : (pc : Int) + off = (tgt : Int)) (kt : 0 < x → Go E y cc nL ret d kc ks mc ms tgt L st h Q) (kf : ¬ 0 < x → Go E y cc nL ret d kc ks mc ms (pc + 3) L st h Q) : Go E y cc nL ret d kc ks mc ms pc L (.int x :: st) h Q := by
  intro p e s m args below meth c H locs ls X hP hl hL
  exact lv_if_gt X.1 X.2.1 hd ht (fun q => kt q p e s m args below meth c H locs ls X hP hl hL) (fun q => kf q p e s m args below meth c H locs ls X hP hl hL)
theorem go_icmp_le {x z : Int32} {off : Int} {tgt : Nat} (hd : decode cc pc = .ok (.if_icmp .le off, 3)) (ht : (pc : Int) + off = (tgt : Int)) (kt : x ≤ z → Go E y cc nL ret d kc ks mc ms tgt L st h Q) (kf : ¬ x ≤ z → Go E y cc nL ret d kc ks mc ms (pc + 3) L st h Q) : Go E y cc nL ret d kc ks mc ms pc L (.int z :: .int x :: st) h Q := by
  intro p e s m args below meth c H locs ls X hP hl hL
  exact lv_icmp_le X.1 X.2.1 hd ht (fun q => kt q p e s m args below meth c H locs ls X hP hl hL) (fun q => kf q p e s m args below meth c H locs ls X hP hl hL)
theorem go_if_le {x : Int32} {off : Int} {tgt : Nat} (hd : decode cc pc = .ok (.ifCond .le off, 3)) (ht : (pc : Int) + off = (tgt : Int)) (kt : x ≤ 0 → Go E y cc nL ret d kc ks mc ms tgt L st h Q) (kf : ¬ x ≤ 0 → Go E y cc nL ret d kc ks mc ms (pc + 3) L st h Q) : Go E y cc nL ret d kc ks mc ms pc L (.int x :: st) h Q := by
  intro p e s m args below meth c H locs ls X hP hl hL
  exact lv_if_le X.1 X.2.1 hd ht (fun q => kt q p e s m args below meth c H locs ls X hP hl hL) (fun q => kf q p e s m args below meth c H locs ls X hP hl hL)
theorem go_goto {off : Int} {tgt : Nat} (hd : decode cc pc = .ok (.goto off, 3)) (ht : (pc : Int) + off = (tgt : Int)) (k : Go E y cc nL ret d kc ks mc ms tgt L st h Q) : Go E y cc nL ret d kc ks mc ms pc L st h Q := by
  intro p e s m args below meth c H locs ls X hP hl hL
  exact lv_goto X.1 X.2.1 hd ht (k p e s m args below meth c H locs ls X hP hl hL)
theorem go_tableIn {dflt lo hi : Int} {offs : Array Int} {len : Nat} {x : Int32} {off : Int} {tgt : Nat} (hd : decode cc pc = .ok (.tableswitch dflt lo hi offs, len)) (h1 : ¬ x.toInt < lo) (h2 : ¬ hi < x.toInt) (ho : offs[(x.toInt - lo).toNat]? = some off) (ht : (pc : Int) + off = (tgt : Int)) (k : Go E y cc nL ret d kc ks mc ms tgt L st h Q) : Go E y cc nL ret d kc ks mc ms pc L (.int x :: st) h Q := by
  intro p e s m args below meth c H locs ls X hP hl hL
  exact lv_tableIn X.1 X.2.1 hd h1 h2 ho ht (k p e s m args below meth c H locs ls X hP hl hL)
theorem go_tableOut {dflt lo hi : Int} {offs : Array Int} {len : Nat} {x : Int32} {tgt : Nat} (hd : decode cc pc = .ok (.tableswitch dflt lo hi offs, len)) (hx : x.toInt < lo ∨ hi < x.toInt) (ht : (pc : Int) + dflt = (tgt : Int)) (k : Go E y cc nL ret d kc ks mc ms tgt L st h Q) : Go E y cc nL ret d kc ks mc ms pc L (.int x :: st) h Q := by
  intro p e s m args below meth c H locs ls X hP hl hL
  exact lv_tableOut X.1 X.2.1 hd hx ht (k p e s m args below meth c H locs ls X hP hl hL)
theorem go_lookup {dflt : Int} {ps : Array (Int × Int)} {len : Nat} {x : Int32} {off : Int} {tgt : Nat} (hd : decode cc pc = .ok (.lookupswitch dflt ps, len)) (hp : (ps.toList.zip (ps.toList.drop 1)).all (fun (a, next) => a.1 < next.1) = true) (ho : Op.lookupswitch.offset ps.toList dflt x.toInt = off) (ht : (pc : Int) + off = (tgt : Int)) (k : Go E y cc nL ret d kc ks mc ms tgt L st h Q) : Go E y cc nL ret d kc ks mc ms pc L (.int x :: st) h Q := by
  intro p e s m args below meth c H locs ls X hP hl hL
  exact lv_lookup X.1 X.2.1 hd hp ho ht (k p e s m args below meth c H locs ls X hP hl hL)
theorem go_ldc {j : Nat} {v : Int32} (hd : decode cc pc = .ok (.ldc j, 2)) (hw : Cond.constant y.cls j v ∈ lw_tbl) (k : Go E y cc nL ret d kc ks mc ms (pc + 2) L (.int v :: st) h Q) : Go E y cc nL ret d kc ks mc ms pc L st h Q := by
  intro p e s m args below meth c H locs ls X hP hl hL
  exact lv_ldc X.1 X.2.1 X.2.2.2.2.2.1 (X.2.2.2.2.2.2.2.1.1.1 _ hw rfl _) hd (k p e s m args below meth c H locs ls X hP hl hL)
theorem go_ldc_w {j : Nat} {v : Int32} (hd : decode cc pc = .ok (.ldc_w j, 3)) (hw : Cond.constant y.cls j v ∈ lw_tbl) (k : Go E y cc nL ret d kc ks mc ms (pc + 3) L (.int v :: st) h Q) : Go E y cc nL ret d kc ks mc ms pc L st h Q := by
  intro p e s m args below meth c H locs ls X hP hl hL
  exact lv_ldcw X.1 X.2.1 X.2.2.2.2.2.1 (X.2.2.2.2.2.2.2.1.1.1 _ hw rfl _) hd (k p e s m args below meth c H locs ls X hP hl hL)
theorem go_ldc2_w {j : Nat} {v : Int64} (hd : decode cc pc = .ok (.ldc2_w j, 3)) (hw : Cond.constantLong y.cls j v ∈ lw_tbl) (k : Go E y cc nL ret d kc ks mc ms (pc + 3) L (.long v :: st) h Q) : Go E y cc nL ret d kc ks mc ms pc L st h Q := by
  intro p e s m args below meth c H locs ls X hP hl hL
  exact lv_ldc2 X.1 X.2.1 X.2.2.2.2.2.1 (X.2.2.2.2.2.2.2.1.1.1 _ hw rfl _) hd (k p e s m args below meth c H locs ls X hP hl hL)
theorem go_topi {a : Int32} (k : ∀ x : Int32, x = a → Go E y cc nL ret d kc ks mc ms pc L (.int x :: st) h Q) : Go E y cc nL ret d kc ks mc ms pc L (.int a :: st) h Q := k a rfl
theorem go_topl {a : Int64} (k : ∀ x : Int64, x = a → Go E y cc nL ret d kc ks mc ms pc L (.long x :: st) h Q) : Go E y cc nL ret d kc ks mc ms pc L (.long a :: st) h Q := k a rfl
theorem go_topi_eq {a x : Int32} (e : a = x) (k : Go E y cc nL ret d kc ks mc ms pc L (.int x :: st) h Q) : Go E y cc nL ret d kc ks mc ms pc L (.int a :: st) h Q := e ▸ k
theorem go_topl_eq {a x : Int64} (e : a = x) (k : Go E y cc nL ret d kc ks mc ms pc L (.long x :: st) h Q) : Go E y cc nL ret d kc ks mc ms pc L (.long a :: st) h Q := e ▸ k
theorem go_heap {h2 : gH} (e : h = h2) (k : Go E y cc nL ret d kc ks mc ms pc L st h2 Q) : Go E y cc nL ret d kc ks mc ms pc L st h Q := e ▸ k
theorem go_conseq {Q2 : Option Value → gH → Prop} (k : Go E y cc nL ret d kc ks mc ms pc L st h Q2) (hq : ∀ r h, Q2 r h → Q r h) : Go E y cc nL ret d kc ks mc ms pc L st h Q := by
  intro p e s m args below meth c H locs ls X hP hl hL
  intro T hT X1
  obtain ⟨t, a1, oc, b1, b2, ⟨r, h2, c1, c2, c3⟩, b4⟩ := k p e s m args below meth c H locs ls X hP hl hL T hT X1
  exact ⟨t, a1, oc, b1, b2, ⟨r, h2, c1, hq r h2 c2, c3⟩, b4⟩
theorem go_iret {v : Int32} (hd : decode cc pc = .ok (.ireturn, 1)) (hc : Nat.ble kc mc = true) (hs : Nat.ble ks ms = true) (hq : Q (some (.int v)) h) : Go E y cc nL (some .int) d kc ks mc ms pc L [.int v] h Q := by
  intro p e s m args below meth c H locs ls X hP hl hL
  refine W.widen (k := mc) (n := ms) (Nat.le_of_ble_eq_true hc) (Nat.le_of_ble_eq_true hs) ?_
  exact W.iret X.1 X.2.1 X.2.2.2.1 (fun t ht hW => ⟨(some (.int v)), h, rfl, hq, by rw [ht]; exact hP⟩) hl hd X.2.2.2.2.1
theorem go_zret {v : Int32} (hd : decode cc pc = .ok (.ireturn, 1)) (hn : narrow .boolean (.int v) = .int v) (hc : Nat.ble kc mc = true) (hs : Nat.ble ks ms = true) (hq : Q (some (.int v)) h) : Go E y cc nL (some .boolean) d kc ks mc ms pc L [.int v] h Q := by
  intro p e s m args below meth c H locs ls X hP hl hL
  refine W.widen (k := mc) (n := ms) (Nat.le_of_ble_eq_true hc) (Nat.le_of_ble_eq_true hs) ?_
  exact W.zret X.1 X.2.1 X.2.2.2.1 hn (fun t ht hW => ⟨(some (.int v)), h, rfl, hq, by rw [ht]; exact hP⟩) hl hd X.2.2.2.2.1
theorem go_lret {v : Int64} (hd : decode cc pc = .ok (.lreturn, 1)) (hc : Nat.ble kc mc = true) (hs : Nat.ble ks ms = true) (hq : Q (some (.long v)) h) : Go E y cc nL (some .long) d kc ks mc ms pc L [.long v] h Q := by
  intro p e s m args below meth c H locs ls X hP hl hL
  refine W.widen (k := mc) (n := ms) (Nat.le_of_ble_eq_true hc) (Nat.le_of_ble_eq_true hs) ?_
  exact W.lret X.1 X.2.1 X.2.2.2.1 (fun t ht hW => ⟨(some (.long v)), h, rfl, hq, by rw [ht]; exact hP⟩) hl hd X.2.2.2.2.1
theorem go_vret (hd : decode cc pc = .ok (.return_, 1)) (hc : Nat.ble kc mc = true) (hs : Nat.ble ks ms = true) (hq : Q none h) : Go E y cc nL none d kc ks mc ms pc L [] h Q := by
  intro p e s m args below meth c H locs ls X hP hl hL
  refine W.widen (k := mc) (n := ms) (Nat.le_of_ble_eq_true hc) (Nat.le_of_ble_eq_true hs) ?_
  exact W.vret X.1 X.2.1 X.2.2.2.1 (fun t ht hW => ⟨none, h, rfl, hq, by rw [ht]; exact hP⟩) hl hd X.2.2.2.2.1
end Ops
end
section
/-! the heap's instructions -/
theorem u_ws_good {C : String} {T : u_T} {N : Nat} : ∀ w ∈ u_ws C T N, goodWord w = true := by
  intro w hw
  obtain ⟨k, -, rfl⟩ := List.mem_map.mp hw
  unfold u_lay
  split <;> rfl
/-- a class: its number, name, fields, their types; what the tables say of it -/
def gcl (ci : Nat) (C : String) (T : u_T) (N : Nat) (ty : Nat → FieldType) : Prop := vwCl[ci]? = some (C, T, N) ∧ (∀ w ∈ u_ws C T N, w ∈ lw_tbl) ∧ (∀ k, k < N → parseFieldDescriptor (T k).2.2.1 = some (ty k)) ∧ (∀ a, a < N → ∀ b, b < N → a ≠ b → (T a).2.1 ≠ (T b).2.1)
/-- the entry idx of own's pool is the field k of the class ci -/
def gfd (own : String) (idx ci k : Nat) (ty : FieldType) (fin : Bool) : Prop := ∃ (C : String) (T : u_T) (N : Nat) (ty0 : Nat → FieldType), gcl ci C T N ty0 ∧ k < N ∧ ty0 k = ty ∧ (T k).2.2.2 = fin ∧ (T k).1 = C ∧ Cond.fieldLink own idx C (T k).2.1 (T k).2.2.1 ∈ lw_tbl
theorem gP.one {E : gE} {h : gH} {H0 H : Heap} {a : Nat} {c : gC} (hP : gP E h H0 H) (ho : hg h a = some c) : va_P E.2.1 vwCl [(E.2.2.2 + a, gx E c)] H := by
  intro k q hk
  have hz : k < 1 := (List.getElem?_eq_some_iff.mp hk).1
  rw [show k = 0 by omega] at hk
  cases hk
  exact hP.2.1 a c ho
theorem gP.put {E : gE} {h : gH} {H0 H H1 : Heap} {a : Nat} {c c2 : gC} (hP : gP E h H0 H) (ho : hg h a = some c) (hc : va_at E.2.1 vwCl (E.2.2.2 + a, gx E c2) H1) (z : H1.size = H.size) (oq : ∀ q : Nat, q ≠ E.2.2.2 + a → H1[q]? = H[q]?) : gP E (hs h a c2) H0 H1 := by
  refine ⟨by rw [z, hs_len]; exact hP.1, fun k d hk => ?_, fun q hq => by rw [oq q (by omega)]; exact hP.2.2 q hq⟩
  rcases hg_hs h a c2 k d hk with ⟨rfl, rfl⟩ | ⟨h1, h2⟩
  · exact hc
  · exact (hP.2.1 k d h2).kept (oq _ (by show E.2.2.2 + k ≠ _; omega))
theorem gP.push {E : gE} {h : gH} {H0 H H1 : Heap} {c : gC} (hP : gP E h H0 H) (hc : va_at E.2.1 vwCl (E.2.2.2 + h.length, gx E c) H1) (z : H1.size = H.size + 1) (oq : ∀ q : Nat, q < H.size → H1[q]? = H[q]?) : gP E (h ++ [c]) H0 H1 := by
  refine ⟨by rw [z, hP.1]; simp; omega, fun k d hk => ?_, fun q hq => by rw [oq q (by rw [hP.1]; omega)]; exact hP.2.2 q hq⟩
  rcases hg_app h c k d hk with ⟨rfl, rfl⟩ | ⟨h1, h2⟩
  · exact hc
  · exact (hP.2.1 k d h2).kept (oq _ (hP.2.1 k d h2).lt)
theorem locs_put {b a i : Nat} {locs : List Loc} (h : ∀ q ∈ locs, b ≤ q.base) : ∀ q ∈ locs ++ [⟨b + a, i⟩], b ≤ q.base := by
  intro q hq
  rcases List.mem_append.mp hq with h1 | h1
  · exact h q h1
  · rw [List.mem_singleton.mp h1]
    exact Nat.le_add_right b a
section Heap
variable {E : gE} {y : MethodName} {cc : ByteArray} {nL : Nat} {ret : Option FieldType} {d kc ks mc ms pc : Nat} {L : List (Option Value)} {st : List Value} {h : gH} {Q : Option Value → gH → Prop}
theorem go_get {idx ci k a : Nat} {ty : FieldType} {fin : Bool} {fs : List Value} {v : Value} (hd : decode cc pc = .ok (.getfield idx, 3)) (hf : gfd y.cls idx ci k ty fin) (ho : hg h a = some (.inr (ci, fs))) (hv : fs[k]? = some v) (kk : Go E y cc nL ret d kc ks mc ms (pc + 3) L (v :: st) h Q) : Go E y cc nL ret d kc ks mc ms pc L (.ref a :: st) h Q := by
  intro p e s m args below meth c H locs ls X hP hl hL
  obtain ⟨C, T, N, ty0, ⟨hc, hin, hty, hnm⟩, hk, e1, e2, e3, hlk⟩ := hf
  have hK := X.2.2.2.2.2.2.2.1
  have hPw := hP.one ho
  refine va_get (D := E.2.1) (v := gv E.2.2.2 v) X.1 X.2.1 (fun w hw => hK.1.1 w (hin w hw) (u_ws_good w hw) args) (fun w hw => hw) X.2.2.2.2.2.1 hK.2 hPw 0 rfl hc k hk (hK.1.1 _ hlk rfl args) (fun x hx => by rw [e3] at hx; exact hx) ?_ hd (kk p e s m args below meth c H locs ls X hP hl hL)
  show (fs.map (gv E.2.2.2))[k]? = _
  rw [List.getElem?_map, hv]
  rfl
theorem go_put {idx ci k a : Nat} {ty : FieldType} {fs : List Value} {v : Value} (hd : decode cc pc = .ok (.putfield idx, 3)) (hf : gfd y.cls idx ci k ty false) (hn : ∀ b, narrow ty (gv b v) = gv b v) (hfit : ∀ b, fits ty (gv b v) = true) (ho : hg h a = some (.inr (ci, fs))) (hlen : Nat.blt k fs.length = true) (kk : Go E y cc nL ret d kc ks mc ms (pc + 3) L st (hs h a (.inr (ci, fs.set k v))) Q) : Go E y cc nL ret d kc ks mc ms pc L (v :: .ref a :: st) h Q := by
  intro p e s m args below meth c H locs ls X hP hl hL
  obtain ⟨C, T, N, ty0, ⟨hc, hin, hty, hnm⟩, hk, e1, e2, e3, hlk⟩ := hf
  have hKK := X.2.2.2.2.2.2.2.1
  have hK := hKK.2
  have hts : ∀ w ∈ u_ws C T N, w.before args s = true := fun w hw => hKK.1.1 w (hin w hw) (u_ws_good w hw) args
  have hap := va_apart (own := C) hts (fun w hw => hw) ty0 hty hnm hK hc
  obtain ⟨r, h1, cell, q1, q2, q3, q4⟩ := hP.2.1 a _ ho
  have hr : r = (C, T, N) := Option.some.inj (h1.symm.trans hc)
  subst hr
  obtain ⟨hS, hfc, kC, hkC, hkind⟩ := hK.1 ci _ hc
  obtain ⟨cf, kf, fi, f, hi, hsl⟩ := hS k hk
  have hlay := hts _ (u_in_lay hk)
  unfold u_lay at hlay
  rw [if_neg (by rw [e2]; decide)] at hlay
  have hst := (u_facts hfc hkC (u_lays hts (fun w hw => hw) hk) hi).1
  have h6 := u_store hfc hkC hkind hlay hi ((hty k hk).trans (by rw [e1])) (hn E.2.2.2) (hfit E.2.2.2)
  refine W.putK X.1 X.2.1 (f := f) (ref := C) ⟨X.2.2.2.2.2.1, hKK.1.1 _ hlk rfl args, ⟨cf, kf, fi, by rw [e3] at hi; exact hi⟩, hst⟩ (by rw [q2]; exact h6) q1 q3 (by rw [hsl]; exact k2_hasslot (q4 k hk)) rfl rfl hd fun H' g1 g2 g3 => ?_
  rw [hsl] at g1 ⊢
  have hlt : k < (fs.map (gv E.2.2.2)).length := by rw [List.length_map]; exact Nat.blt_eq ▸ hlen
  refine kk p e s m args below meth c H' _ ls X (hP.put ho ?_ g2 g3) (locs_put hl) hL
  refine ⟨_, hc, t_OB.to (V := updV (vp_V (fs.map (gv E.2.2.2))) k (gv E.2.2.2 v)) ⟨_, g1, q2, q3, t_set q4 hap hk _⟩ (fun j _ => ?_)⟩
  show _ = vp_V ((fs.set k v).map (gv E.2.2.2)) j
  rw [List.map_set]
  exact vp_updV_set hlt _ j
theorem go_putF {idx ci k a : Nat} {ty : FieldType} {fs : List Value} {v : Value} (hd : decode cc pc = .ok (.putfield idx, 3)) (hf : gfd y.cls idx ci k ty true) (hy : y.name = "<init>") (hw : ∃ T N, vwCl[ci]? = some (y.cls, T, N)) (hn : ∀ b, narrow ty (gv b v) = gv b v) (hfit : ∀ b, fits ty (gv b v) = true) (ho : hg h a = some (.inr (ci, fs))) (hlen : Nat.blt k fs.length = true) (kk : Go E y cc nL ret d kc ks mc ms (pc + 3) L st (hs h a (.inr (ci, fs.set k v))) Q) : Go E y cc nL ret d kc ks mc ms pc L (v :: .ref a :: st) h Q := by
  intro p e s m args below meth c H locs ls X hP hl hL
  obtain ⟨C, T, N, ty0, ⟨hc, hin, hty, hnm⟩, hk, e1, e2, e3, hlk⟩ := hf
  have hCy : C = y.cls := by
    obtain ⟨T', N', h9⟩ := hw
    have := Option.some.inj (hc.symm.trans h9)
    exact congrArg Prod.fst this
  have hKK := X.2.2.2.2.2.2.2.1
  have hK := hKK.2
  have hts : ∀ w ∈ u_ws C T N, w.before args s = true := fun w hw => hKK.1.1 w (hin w hw) (u_ws_good w hw) args
  have hap := va_apart (own := C) hts (fun w hw => hw) ty0 hty hnm hK hc
  obtain ⟨r, h1, cell, q1, q2, q3, q4⟩ := hP.2.1 a _ ho
  have hr : r = (C, T, N) := Option.some.inj (h1.symm.trans hc)
  subst hr
  obtain ⟨hS, hfc, kC, hkC, hkind⟩ := hK.1 ci _ hc
  obtain ⟨cf, kf, fi, f, hi, hsl⟩ := hS k hk
  have hlay := hts _ (u_in_lay hk)
  unfold u_lay at hlay
  rw [if_pos e2] at hlay
  have hst := (u_facts hfc hkC (u_lays hts (fun w hw => hw) hk) hi).1
  have hcf : m.cls = cf := by
    obtain ⟨_, _, c', _, _, _, -, -, hf', -, -, -, hown2, -⟩ := Cond.laysFinal_spec hlay
    have e9 : c' = cf := by have := hi.symm.trans hf'; simp at this; exact this.1.symm
    rw [e3, hCy] at hown2
    rw [← e9]
    exact Option.some.inj (X.2.2.2.2.2.1.symm.trans hown2)
  have h6 := u_fits hfc hkC hkind (Or.inr hlay) hi ((hty k hk).trans (by rw [e1])) (hn E.2.2.2) (hfit E.2.2.2)
  refine W.putFinK X.1 X.2.1 (ref := C) X.2.2.2.2.2.1 (hKK.1.1 _ hlk rfl args) (by rw [e3] at hi; exact hi) hst hcf (X.2.2.2.2.2.2.1.trans hy) (by rw [q2]; exact h6) q1 q3 (by rw [hsl]; exact k2_hasslot (q4 k hk)) rfl rfl hd fun H' g1 g2 g3 => ?_
  rw [hsl] at g1 ⊢
  have hlt : k < (fs.map (gv E.2.2.2)).length := by rw [List.length_map]; exact Nat.blt_eq ▸ hlen
  refine kk p e s m args below meth c H' _ ls X (hP.put ho ?_ g2 g3) (locs_put hl) hL
  refine ⟨_, hc, t_OB.to (V := updV (vp_V (fs.map (gv E.2.2.2))) k (gv E.2.2.2 v)) ⟨_, g1, q2, q3, t_set q4 hap hk _⟩ (fun j _ => ?_)⟩
  show _ = vp_V ((fs.set k v).map (gv E.2.2.2)) j
  rw [List.map_set]
  exact vp_updV_set hlt _ j
/-! arrays -/
theorem go_iald {a n : Nat} {f : Nat → Int32} {i : Int32} (hd : decode cc pc = .ok (.iaload, 1)) (ho : hg h a = some (.inl (0, n, .inl f))) (hi : vp_in i n) (kk : Go E y cc nL ret d kc ks mc ms (pc + 1) L (.int (f i.toNatClampNeg) :: st) h Q) : Go E y cc nL ret d kc ks mc ms pc L (.int i :: .ref a :: st) h Q := by
  intro p e s m args below meth c H locs ls X hP hl hL
  exact va_iald (D := E.2.1) X.1 X.2.1 X.2.2.2.2.2.2.2.1.2 (hP.one ho) 0 0 rfl rfl hi hd (kk p e s m args below meth c H locs ls X hP hl hL)
theorem go_lald {a n : Nat} {f : Nat → Int64} {i : Int32} (hd : decode cc pc = .ok (.laload, 1)) (ho : hg h a = some (.inl (1, n, .inr (.inl f)))) (hi : vp_in i n) (kk : Go E y cc nL ret d kc ks mc ms (pc + 1) L (.long (f i.toNatClampNeg) :: st) h Q) : Go E y cc nL ret d kc ks mc ms pc L (.int i :: .ref a :: st) h Q := by
  intro p e s m args below meth c H locs ls X hP hl hL
  exact va_lald (D := E.2.1) X.1 X.2.1 X.2.2.2.2.2.2.2.1.2 (hP.one ho) 0 1 rfl rfl hi hd (kk p e s m args below meth c H locs ls X hP hl hL)
theorem go_zald {a n : Nat} {f : Nat → Int32} {i : Int32} (hd : decode cc pc = .ok (.baload, 1)) (ho : hg h a = some (.inl (2, n, .inl f))) (hi : vp_in i n) (kk : Go E y cc nL ret d kc ks mc ms (pc + 1) L (.int (f i.toNatClampNeg) :: st) h Q) : Go E y cc nL ret d kc ks mc ms pc L (.int i :: .ref a :: st) h Q := by
  intro p e s m args below meth c H locs ls X hP hl hL
  exact va_zald (D := E.2.1) X.1 X.2.1 X.2.2.2.2.2.2.2.1.2 (hP.one ho) 0 2 rfl rfl hi hd (kk p e s m args below meth c H locs ls X hP hl hL)
theorem go_aald {a n : Nat} {f : Nat → Option Nat} {i : Int32} {q : Nat} (hd : decode cc pc = .ok (.aaload, 1)) (ho : hg h a = some (.inl (3, n, .inr (.inr (.inr (.inr f)))))) (hi : vp_in i n) (hq : f i.toNatClampNeg = some q) (kk : Go E y cc nL ret d kc ks mc ms (pc + 1) L (.ref q :: st) h Q) : Go E y cc nL ret d kc ks mc ms pc L (.int i :: .ref a :: st) h Q := by
  intro p e s m args below meth c H locs ls X hP hl hL
  refine va_aldq (D := E.2.1) X.1 X.2.1 X.2.2.2.2.2.2.2.1.2 (hP.one ho) 0 3 rfl rfl hi hd ?_
  show W _ _ _ _ _ _ _ _ _ _ _ _ _ _ _ (F0 m (pc + 1) ls (va_rf (gr E.2.2.2 (f i.toNatClampNeg)) :: st.map (gv E.2.2.2)))
  rw [hq]
  exact kk p e s m args below meth c H locs ls X hP hl hL
theorem go_alen {a t n : Nat} {f : (Nat → Int32) ⊕ (Nat → Int64) ⊕ (Nat → UInt32) ⊕ (Nat → UInt64) ⊕ (Nat → Option Nat)} {v : Int32} (hd : decode cc pc = .ok (.arraylength, 1)) (ho : hg h a = some (.inl (0, n, f))) (hv : Int32.ofNat n = v) (kk : Go E y cc nL ret d kc ks mc ms (pc + 1) L (.int v :: st) h Q) : Go E y cc nL ret d kc ks mc ms pc L (.ref a :: st) h Q := by
  intro p e s m args below meth c H locs ls X hP hl hL
  exact va_alen (D := E.2.1) X.1 X.2.1 X.2.2.2.2.2.2.2.1.2 (hP.one ho) 0 0 rfl (ty := .int) rfl hv hd (kk p e s m args below meth c H locs ls X hP hl hL)
theorem upd_V {f : Nat → Int32} {i : Nat} {x : Int32} : updV (fun j => Value.int (f j)) i (.int x) = fun j => Value.int (upd f i x j) := by
  funext q
  by_cases hq : q = i
  · subst hq
    simp [updV, upd]
  · simp [updV, upd, hq]
theorem upd_VL {f : Nat → Int64} {i : Nat} {x : Int64} : updV (fun j => Value.long (f j)) i (.long x) = fun j => Value.long (vp_updL f i x j) := by
  funext q
  by_cases hq : q = i
  · subst hq
    simp [updV, vp_updL]
  · simp [updV, vp_updL, hq]
theorem go_iast {a n : Nat} {f : Nat → Int32} {i x : Int32} (hd : decode cc pc = .ok (.iastore, 1)) (ho : hg h a = some (.inl (0, n, .inl f))) (hi : vp_in i n) (kk : Go E y cc nL ret d kc ks mc ms (pc + 1) L st (hs h a (.inl (0, n, .inl (upd f i.toNatClampNeg x)))) Q) : Go E y cc nL ret d kc ks mc ms pc L (.int x :: .int i :: .ref a :: st) h Q := by
  intro p e s m args below meth c H locs ls X hP hl hL
  have hc : H[E.2.2.2 + a]? = some (arrV (E.2.2.1 0) n (fun j => .int (f j))) := hP.2.1 a _ ho
  refine W.iast X.1 X.2.1 hc ((X.2.2.2.2.2.2.2.1.2.2 0 (E.2.2.1 0, .int) rfl).1 n (fun j => .int (f j))) (fun q => by cases q) (by rw [arrV_size]; exact hi) rfl rfl hd fun H1 g1 g2 g3 => ?_
  refine kk p e s m args below meth c H1 _ ls X (hP.put ho ?_ g2 g3) (locs_put hl) hL
  show H1[E.2.2.2 + a]? = some (arrV (E.2.2.1 0) n (fun j => .int (upd f i.toNatClampNeg x j)))
  rw [g1, arrV_store, upd_V]
theorem go_last {a n : Nat} {f : Nat → Int64} {i : Int32} {x : Int64} (hd : decode cc pc = .ok (.lastore, 1)) (ho : hg h a = some (.inl (1, n, .inr (.inl f)))) (hi : vp_in i n) (kk : Go E y cc nL ret d kc ks mc ms (pc + 1) L st (hs h a (.inl (1, n, .inr (.inl (vp_updL f i.toNatClampNeg x))))) Q) : Go E y cc nL ret d kc ks mc ms pc L (.long x :: .int i :: .ref a :: st) h Q := by
  intro p e s m args below meth c H locs ls X hP hl hL
  have hc : H[E.2.2.2 + a]? = some (arrV (E.2.2.1 1) n (fun j => .long (f j))) := hP.2.1 a _ ho
  refine W.last X.1 X.2.1 hc ((X.2.2.2.2.2.2.2.1.2.2 1 (E.2.2.1 1, .long) rfl).1 n (fun j => .long (f j))) (fun q => by cases q) (by rw [arrV_size]; exact hi) rfl rfl hd fun H1 g1 g2 g3 => ?_
  refine kk p e s m args below meth c H1 _ ls X (hP.put ho ?_ g2 g3) (locs_put hl) hL
  show H1[E.2.2.2 + a]? = some (arrV (E.2.2.1 1) n (fun j => .long (vp_updL f i.toNatClampNeg x j)))
  rw [g1, arrV_store, upd_VL]
theorem go_zast {a n : Nat} {f : Nat → Int32} {i x : Int32} (hd : decode cc pc = .ok (.bastore, 1)) (ho : hg h a = some (.inl (2, n, .inl f))) (hi : vp_in i n) (hx : narrow .boolean (.int x) = .int x) (kk : Go E y cc nL ret d kc ks mc ms (pc + 1) L st (hs h a (.inl (2, n, .inl (upd f i.toNatClampNeg x)))) Q) : Go E y cc nL ret d kc ks mc ms pc L (.int x :: .int i :: .ref a :: st) h Q := by
  intro p e s m args below meth c H locs ls X hP hl hL
  have hc : H[E.2.2.2 + a]? = some (arrV (E.2.2.1 2) n (fun j => .int (f j))) := hP.2.1 a _ ho
  refine W.zast X.1 X.2.1 hc ((X.2.2.2.2.2.2.2.1.2.2 2 (E.2.2.1 2, .boolean) rfl).1 n (fun j => .int (f j))) (fun q => by cases q) (by rw [arrV_size]; exact hi) rfl rfl hd fun H1 g1 g2 g3 => ?_
  rw [hx] at g1
  refine kk p e s m args below meth c H1 _ ls X (hP.put ho ?_ g2 g3) (locs_put hl) hL
  show H1[E.2.2.2 + a]? = some (arrV (E.2.2.1 2) n (fun j => .int (upd f i.toNatClampNeg x j)))
  rw [g1, arrV_store, upd_V]
theorem upd_VQ {b : Nat} {f : Nat → Option Nat} {i x : Nat} : updV (fun j => va_rf (gr b (f j))) i (.ref (b + x)) = fun j => va_rf (gr b (va_up f i (some x) j)) := by
  funext q
  by_cases hq : q = i
  · subst hq
    simp [updV, va_up, gr, va_rf]
  · simp [updV, va_up, hq]
theorem go_aast {a n v ci : Nat} {f : Nat → Option Nat} {i : Int32} {vs : List Value} {T : u_T} {N : Nat} (hd : decode cc pc = .ok (.aastore, 1)) (ho : hg h a = some (.inl (3, n, .inr (.inr (.inr (.inr f)))))) (hv : hg h v = some (.inr (ci, vs))) (hci : vwCl[ci]? = some ("SignedSheets$World", T, N)) (hi : vp_in i n) (kk : Go E y cc nL ret d kc ks mc ms (pc + 1) L st (hs h a (.inl (3, n, .inr (.inr (.inr (.inr (va_up f i.toNatClampNeg (some v)))))))) Q) : Go E y cc nL ret d kc ks mc ms pc L (.ref v :: .int i :: .ref a :: st) h Q := by
  intro p e s m args below meth c H locs ls X hP hl hL
  have hK := X.2.2.2.2.2.2.2.1.2
  have hc : H[E.2.2.2 + a]? = some (arrV (E.2.2.1 3) n (fun j => va_rf (gr E.2.2.2 (f j)))) := hP.2.1 a _ ho
  have hlt : i.toNatClampNeg < n := Nat.not_le.mp fun q => hi (Or.inr q)
  have h0 : ¬ i < 0 := fun q => hi (Or.inl q)
  obtain ⟨r', hr', cellV, g1, g2, g3, -⟩ := hP.2.1 v _ hv
  have hcls := (hK.1 ci _ hci).2
  obtain ⟨kA, comp, k1, k2, k3, -⟩ := (hK.2 3 (E.2.2.1 3, .object "SignedSheets$World") rfl).2
  have hcomp : comp = E.2.1.1 ci := Option.some.inj (k3.symm.trans hcls.1)
  subst hcomp
  obtain ⟨kC, hkC, -⟩ := id hcls.2
  refine W.aast X.1 X.2.1 hc (fun q h => by cases h) (fun h => by cases h) k1 k2 rfl hkC ⟨h0, by rw [arrV_size]; exact hlt⟩ g1 (fun q h => by rw [g3] at h; cases h) (by rw [g2]; exact hkC) (by rw [g2]; exact va_assign hcls) rfl rfl hd fun H1 e1 z oq => ?_
  refine kk p e s m args below meth c H1 _ ls X (hP.put ho ?_ z oq) (locs_put hl) hL
  show H1[E.2.2.2 + a]? = some (arrV (E.2.2.1 3) n (fun j => va_rf (gr E.2.2.2 (va_up f i.toNatClampNeg (some v) j))))
  rw [e1, arrV_store, upd_VQ]
/-! making -/
theorem go_new {idx ci N : Nat} {C : String} {T : u_T} {ty : Nat → FieldType} {fs : List Value} {st' : List Value} (hd : decode cc pc = .ok (.new idx, 3)) (hcl : gcl ci C T N ty) (hl1 : Cond.classLink y.cls idx C ∈ lw_tbl) (hl2 : Cond.instantiable C N ∈ lw_tbl) (hl3 : Cond.initialized C ∈ lw_tbl) (hfs : ∀ b j, j < N → defaultValue (ty j) = vp_V (fs.map (gv b)) j) (hc1 : Nat.ble (kc + 1) mc = true) (hs1 : Nat.ble (ks + N) ms = true) (kk : Go E y cc nL ret d (kc + 1) (ks + N) mc ms (pc + 3) L (.ref h.length :: st) (h ++ [.inr (ci, fs)]) Q) : Go E y cc nL ret d kc ks mc ms pc L st h Q := by
  intro p e s m args below meth c H locs ls X hP hl hL
  obtain ⟨hc, hin, hty, hnm⟩ := hcl
  have hKK := X.2.2.2.2.2.2.2.1
  have hts : ∀ w ∈ u_ws C T N, w.before args s = true := fun w hw => hKK.1.1 w (hin w hw) (u_ws_good w hw) args
  have hKn := hKK.2.1 ci _ hc
  refine W.newcK X.1 X.2.1 X.2.2.2.2.2.1 (hKK.1.1 _ hl1 rfl args) (hKK.1.1 _ hl2 rfl args) (hKK.1.1 _ hl3 rfl args) rfl hd (Nat.le_of_ble_eq_true hc1) (Nat.le_of_ble_eq_true hs1) hKn.2.1 hP.1 fun H1 kC hkC e1 z1 o1 => ?_
  refine kk p e s m args below meth c H1 locs ls X (hP.push ⟨_, hc, (u_born ty hts (fun w hw => hw) hKn hkC e1 hty).to (hfs E.2.2.2)⟩ (by rw [z1, hP.1]) (fun q hq => o1 q (by rw [← hP.1]; exact hq))) hl hL
theorem go_newi {n : Int32} {N : Nat} (hd : decode cc pc = .ok (.newarray .int, 2)) (hn : ¬ n < 0) (hN : n.toNatClampNeg = N) (hb : Nat.ble N 100000 = true) (hw : Cond.arrayClass .int ∈ lw_tbl) (hc1 : Nat.ble (kc + 1) mc = true) (hs1 : Nat.ble (ks + N) ms = true) (kk : Go E y cc nL ret d (kc + 1) (ks + N) mc ms (pc + 2) L (.ref h.length :: st) (h ++ [.inl (0, N, .inl (fun _ => 0))]) Q) : Go E y cc nL ret d kc ks mc ms pc L (.int n :: st) h Q := by
  intro p e s m args below meth c H locs ls X hP hl hL
  have hKK := X.2.2.2.2.2.2.2.1
  have hb' : N ≤ 100000 := Nat.le_of_ble_eq_true hb
  refine va_newaK X.1 X.2.1 (atype := .int) (hKK.1.1 _ hw rfl args) rfl hd rfl hn hN (by show N * 4 ≤ _; omega) (Nat.le_of_ble_eq_true hc1) (Nat.le_of_ble_eq_true hs1) hP.1 fun H1 cA e1 z1 o1 hA hf => ?_
  have hcA : cA = E.2.2.1 0 := Option.some.inj (hf.symm.trans (hKK.2.2 0 (E.2.2.1 0, .int) rfl).2)
  subst hcA
  exact kk p e s m args below meth c H1 locs ls X (hP.push (c := .inl (0, N, .inl (fun _ => 0))) e1 (by rw [z1, hP.1]) (fun q hq => o1 q (by rw [← hP.1]; exact hq))) hl hL
theorem go_newl {n : Int32} {N : Nat} (hd : decode cc pc = .ok (.newarray .long, 2)) (hn : ¬ n < 0) (hN : n.toNatClampNeg = N) (hb : Nat.ble N 100000 = true) (hw : Cond.arrayClass .long ∈ lw_tbl) (hc1 : Nat.ble (kc + 1) mc = true) (hs1 : Nat.ble (ks + N) ms = true) (kk : Go E y cc nL ret d (kc + 1) (ks + N) mc ms (pc + 2) L (.ref h.length :: st) (h ++ [.inl (1, N, .inr (.inl (fun _ => 0)))]) Q) : Go E y cc nL ret d kc ks mc ms pc L (.int n :: st) h Q := by
  intro p e s m args below meth c H locs ls X hP hl hL
  have hKK := X.2.2.2.2.2.2.2.1
  have hb' : N ≤ 100000 := Nat.le_of_ble_eq_true hb
  refine va_newaK X.1 X.2.1 (atype := .long) (hKK.1.1 _ hw rfl args) rfl hd rfl hn hN (by show N * 8 ≤ _; omega) (Nat.le_of_ble_eq_true hc1) (Nat.le_of_ble_eq_true hs1) hP.1 fun H1 cA e1 z1 o1 hA hf => ?_
  have hcA : cA = E.2.2.1 1 := Option.some.inj (hf.symm.trans (hKK.2.2 1 (E.2.2.1 1, .long) rfl).2)
  subst hcA
  exact kk p e s m args below meth c H1 locs ls X (hP.push (c := .inl (1, N, .inr (.inl (fun _ => 0)))) e1 (by rw [z1, hP.1]) (fun q hq => o1 q (by rw [← hP.1]; exact hq))) hl hL
theorem go_newz {n : Int32} {N : Nat} (hd : decode cc pc = .ok (.newarray .boolean, 2)) (hn : ¬ n < 0) (hN : n.toNatClampNeg = N) (hb : Nat.ble N 100000 = true) (hw : Cond.arrayClass .boolean ∈ lw_tbl) (hc1 : Nat.ble (kc + 1) mc = true) (hs1 : Nat.ble (ks + N) ms = true) (kk : Go E y cc nL ret d (kc + 1) (ks + N) mc ms (pc + 2) L (.ref h.length :: st) (h ++ [.inl (2, N, .inl (fun _ => 0))]) Q) : Go E y cc nL ret d kc ks mc ms pc L (.int n :: st) h Q := by
  intro p e s m args below meth c H locs ls X hP hl hL
  have hKK := X.2.2.2.2.2.2.2.1
  have hb' : N ≤ 100000 := Nat.le_of_ble_eq_true hb
  refine va_newaK X.1 X.2.1 (atype := .boolean) (hKK.1.1 _ hw rfl args) rfl hd rfl hn hN (by show N * 1 ≤ _; omega) (Nat.le_of_ble_eq_true hc1) (Nat.le_of_ble_eq_true hs1) hP.1 fun H1 cA e1 z1 o1 hA hf => ?_
  have hcA : cA = E.2.2.1 2 := Option.some.inj (hf.symm.trans (hKK.2.2 2 (E.2.2.1 2, .boolean) rfl).2)
  subst hcA
  exact kk p e s m args below meth c H1 locs ls X (hP.push (c := .inl (2, N, .inl (fun _ => 0))) e1 (by rw [z1, hP.1]) (fun q hq => o1 q (by rw [← hP.1]; exact hq))) hl hL
theorem go_newq {idx : Nat} {n : Int32} {N : Nat} (hd : decode cc pc = .ok (.anewarray idx, 3)) (hn : ¬ n < 0) (hN : n.toNatClampNeg = N) (hb : Nat.ble N 100000 = true) (hw : Cond.classLink y.cls idx "SignedSheets$World" ∈ lw_tbl) (hc1 : Nat.ble (kc + 1) mc = true) (hs1 : Nat.ble (ks + N) ms = true) (kk : Go E y cc nL ret d (kc + 1) (ks + N) mc ms (pc + 3) L (.ref h.length :: st) (h ++ [.inl (3, N, .inr (.inr (.inr (.inr (fun _ => none)))))]) Q) : Go E y cc nL ret d kc ks mc ms pc L (.int n :: st) h Q := by
  intro p e s m args below meth c H locs ls X hP hl hL
  have hKK := X.2.2.2.2.2.2.2.1
  have hb' : N ≤ 100000 := Nat.le_of_ble_eq_true hb
  subst hN
  refine W.anew X.1 X.2.1 X.2.2.2.2.2.1 (hKK.1.1 _ hw rfl args) (va_AO.use hKK.1.2.2) rfl hd rfl hn (by omega) (Nat.le_of_ble_eq_true hc1) (Nat.le_of_ble_eq_true hs1) fun cA kA comp f1 f2 f3 f4 => ?_
  have hcA : cA = E.2.2.1 3 := by
    obtain ⟨kA', comp', -, -, -, h4⟩ := (hKK.2.2 3 (E.2.2.1 3, .object "SignedSheets$World") rfl).2
    exact Option.some.inj (f1.symm.trans h4)
  subst hcA
  generalize hH1 : H.push ({ cls := E.2.2.1 3, slots := Array.replicate n.toNatClampNeg .null, vm := .none } : Cell) = H1
  have z1 : H1.size = H.size + 1 := by rw [← hH1, Array.size_push]
  have e1 : H1[H.size]? = some (arrV (E.2.2.1 3) n.toNatClampNeg (fun _ => .null)) := by rw [← hH1, Array.getElem?_push_size, ← arrV_new]
  have o1 : ∀ q : Nat, q < H.size → H1[q]? = H[q]? := fun q hq => by rw [← hH1, Array.getElem?_push, if_neg (Nat.ne_of_lt hq)]
  rw [hP.1] at e1 ⊢
  exact kk p e s m args below meth c H1 locs ls X (hP.push (c := .inl (3, n.toNatClampNeg, .inr (.inr (.inr (.inr (fun _ => none)))))) e1 z1 o1) hl hL
end Heap
end
section
/-! calls: a callee's Ret is a row of the caller's walk -/
theorem calling_gK {E : gE} {U : State} {g : JFrame} {mk : MethodId} {a : Array Value} (h : gK E U) : gK E (U.calling g mk a) := gK.moved (s := U) (U := U.calling g mk a) (wh_rfl U) h
theorem pc_blind {E : gE} {as : List Value} {h : gH} : FrameBlind (va_Pc (as.map (gv E.2.2.2)) (fun U => gK E U ∧ E.2.2.2 ≤ U.heap.size ∧ gP E h U.heap U.heap)) := by
  intro a U g mk q
  obtain ⟨q0, q1, q2, q3⟩ := q
  exact ⟨q0, calling_gK q1, q2, q3⟩
theorem gP.self {E : gE} {h : gH} {H0 H : Heap} (hP : gP E h H0 H) : gP E h H H := ⟨hP.1, hP.2.1, fun _ _ => rfl⟩
theorem pc_at {E : gE} {as : List Value} {h : gH} {s U : State} {H : Heap} (hK : gK E s) (hP : gP E h s.heap H) (hU : U.heap = H) (hW : s.WarmedH U.vm) : va_Pc (as.map (gv E.2.2.2)) (fun U => gK E U ∧ E.2.2.2 ≤ U.heap.size ∧ gP E h U.heap U.heap) (as.map (gv E.2.2.2)).toArray U := by
  refine ⟨rfl, gK.moved hW hK, ?_, ?_⟩
  · rw [hU, hP.1]
    exact Nat.le_add_right _ _
  · rw [hU]
    exact hP.self
/-- a method as the tables have it: its code, its class -/
def gmt (y : MethodName) (cc : ByteArray) (nL : Nat) (ret : Option FieldType) (n : Nat) : Prop := Cond.code y cc nL ret ∈ lw_tbl ∧ Cond.initialized y.cls ∈ lw_tbl ∧ (y.cls ≠ "java/lang/invoke/MethodHandle" ∧ y.cls ≠ "java/lang/invoke/VarHandle") ∧ (parseMethodDescriptor y.desc).map (fun d => d.parameters.length) = some n ∧ nL ≤ 16
/-- the entry idx of own's pool is the method y -/
def glk (own : String) (idx : Nat) (y : MethodName) : Prop := Cond.methodLink own idx y ∈ lw_tbl ∨ ∃ host : String, Cond.methodLinkNest own idx y host ∈ lw_tbl
theorem params_n {y : MethodName} {n : Nat} (h : (parseMethodDescriptor y.desc).map (fun d => d.parameters.length) = some n) : ∀ sig, parseMethodDescriptor y.desc = some sig → n = sig.parameters.length := by
  intro sig hs
  rw [hs] at h
  exact (Option.some.inj h).symm
theorem code_keeps {y : MethodName} {cc : ByteArray} {nL : Nat} {ret : Option FieldType} {s : State} (hW0 : gW s) (hc : Cond.code y cc nL ret ∈ lw_tbl) : ∀ w ∈ [Cond.code y cc nL ret], ∀ (a' : Array Value) (U : State), s.WarmedH U.vm → w.before a' U = true := by
  intro w hw a' U hU
  rw [List.mem_singleton.mp hw]
  exact (gW.moved hU hW0).1 _ hc rfl a'
theorem g_callB {R : Room} {s : State} {args : Array Value} {own : String} {idx : Nat} {y : MethodName} {cc : ByteArray} {nL : Nat} {ret : Option FieldType} {n d mc ms : Nat} (hW0 : gW s) (hm : gmt y cc nL ret n) (hl : Cond.methodLink own idx y ∈ lw_tbl) (hR : d + 1 ≤ R.frames ∧ 35 * (d + 1) ≤ R.locals) : CallB R s args own idx y cc nL ret [Cond.code y cc nL ret] (gR d mc ms) mc ms n := by
  obtain ⟨h1, h2, h3, h4, h5⟩ := hm
  exact ⟨rfl, rfl, hR.1, by show 8 + (nL + 11) + 35 * d ≤ _; omega, code_keeps hW0 h1, List.mem_singleton.mpr rfl, hW0.1 _ h1 rfl args, hW0.1 _ h2 rfl args, h3, params_n h4, hW0.1 _ hl rfl args⟩
theorem g_callN {R : Room} {s : State} {args : Array Value} {own host : String} {idx : Nat} {y : MethodName} {cc : ByteArray} {nL : Nat} {ret : Option FieldType} {n d mc ms : Nat} (hW0 : gW s) (hm : gmt y cc nL ret n) (hl : Cond.methodLinkNest own idx y host ∈ lw_tbl) (hR : d + 1 ≤ R.frames ∧ 35 * (d + 1) ≤ R.locals) : va_CN R s args own idx y host cc nL ret [Cond.code y cc nL ret] (gR d mc ms) mc ms n := by
  obtain ⟨h1, h2, h3, h4, h5⟩ := hm
  exact ⟨⟨rfl, rfl, hR.1, by show 8 + (nL + 11) + 35 * d ≤ _; omega, code_keeps hW0 h1, List.mem_singleton.mpr rfl⟩, hW0.1 _ h1 rfl args, hW0.1 _ h2 rfl args, h3, params_n h4, va_Nw.use rfl (hW0.2.1 _ _ _ _ hl)⟩
section Run
variable {E : gE} {p : Program} {e : Env} {R : Room} {s : State} {m : MethodId} {args : Array Value} {below : List Frame} {meth : Method} {c : Code} {H : Heap} {locs : List Loc} {kc ks mc ms pc : Nat} {Z : State → Prop} {ls : Array Slot} {h : gH} {Q : Option Value → gH → Prop}
/-- behind a call -/
theorem g_run {st0 rest : List Value} {a : Array Value} (hr : va_Run p E.1 e R s m args below meth c H locs kc ks mc ms (F0 m pc ls st0) rest (gQ E Q a) (fun q => E.2.2.2 ≤ q)) (hP : gP E h s.heap H) (hl : ∀ q ∈ locs, E.2.2.2 ≤ q.base)
    (kk : ∀ (r : Option Value) (h2 : gH) (H2 : Heap) (locs2 : List Loc), Q r h2 → gP E h2 s.heap H2 → (∀ q ∈ locs2, E.2.2.2 ≤ q.base) → W p E.1 e R s m args below meth c H2 locs2 (kc + mc) (ks + ms) Z (F0 m (pc + 3) ls ((r.map (gv E.2.2.2)).toList ++ rest))) : W p E.1 e R s m args below meth c H locs kc ks Z (F0 m pc ls st0) := by
  intro T hT X
  obtain ⟨v, st₀, t, T', L2, h0, X', hL2, e1, e2, ⟨r, h2, hv, hq, hP2⟩, stp⟩ := hr T hT X
  cases hv
  obtain ⟨t2, a1, b1⟩ := kk r h2 T'.heap (locs ++ L2) hq (by
    rw [e1]
    exact ⟨hP2.1, hP2.2.1, fun q hq => by rw [hP2.2.2 q hq, h0]; exact hP.2.2 q hq⟩) (by
    intro q hq
    rcases List.mem_append.mp hq with h1 | h1
    · exact hl q h1
    · exact hL2 q h1) T' rfl X'
  exact ⟨t2, stp t2 a1, b1⟩
end Run
section Calls2
variable {E : gE} {y : MethodName} {cc : ByteArray} {nL : Nat} {ret : Option FieldType} {d kc ks mc ms pc : Nat} {L : List (Option Value)} {st : List Value} {h : gH} {Q Q2 : Option Value → gH → Prop} {y2 : MethodName} {cc2 : ByteArray} {nL2 : Nat} {ret2 : Option FieldType} {idx n mc2 ms2 : Nat}
theorem cat_map (b : Nat) (st : List Value) : ((st.map (gv b)).map fun v => v.category) = st.map fun v => v.category := by
  rw [List.map_map]
  exact List.map_congr_left fun v _ => gv_cat b v
theorem toL (b : Nat) (r : Option Value) (st : List Value) : (r.map (gv b)).toList ++ st.map (gv b) = (r.toList ++ st).map (gv b) := by
  cases r <;> rfl
/-- invokevirtual: receiver a (an object of the class ci), arguments as in their order; st is what lies below -/
theorem go_callV {a ci : Nat} {as fs : List Value} {T : u_T} {N : Nat} {st0 : List Value} (hd : decode cc pc = .ok (.invokevirtual idx, 3)) (hm : gmt y2 cc2 nL2 ret2 n) (hk : glk y.cls idx y2) (hi : Cond.instanceMethod y2 ∈ lw_tbl) (hs : Cond.selects y2.cls y2 y2 ∈ lw_tbl) (hci : vwCl[ci]? = some (y2.cls, T, N)) (hst : st0 = as.reverse ++ .ref a :: st) (hn : as.length = n) (ho : hg h a = some (.inr (ci, fs))) (hR : Ret E y2 cc2 nL2 ret2 d mc2 ms2 (.ref a :: as) h Q2) (h8 : Nat.ble ((st.map fun v => v.category).sum) 8 = true) (hc1 : Nat.ble (kc + mc2) mc = true) (hs1 : Nat.ble (ks + ms2) ms = true)
    (kk : ∀ (r : Option Value) (h2 : gH), Q2 r h2 → Go E y cc nL ret (d + 1) (kc + mc2) (ks + ms2) mc ms (pc + 3) L (r.toList ++ st) h2 Q) : Go E y cc nL ret (d + 1) kc ks mc ms pc L st0 h Q := by
  intro p e s m args below meth c H locs ls X hP hl hL
  have hKK := X.2.2.2.2.2.2.2.1
  have hrecv : ∃ cell : Cell, H[E.2.2.2 + a]? = some cell ∧ cell.vm.isStatics = false ∧ s.vm.findClass y2.cls = some cell.cls := va_recv (q := (y2.cls, T, N)) hKK.2 (hP.one ho) hci (q0 := 0) rfl
  have hW8 : 2 * (F0 m pc ls (st0.map (gv E.2.2.2))).monitorRoom + ((st.map (gv E.2.2.2)).map fun v => v.category).sum ≤ 8 := by
    rw [cat_map]
    exact lv_room (Nat.le_of_ble_eq_true h8)
  have hstk : (F0 m pc ls (st0.map (gv E.2.2.2))).stack = (as.map (gv E.2.2.2)).reverse ++ .ref (E.2.2.2 + a) :: st.map (gv E.2.2.2) := by
    subst hst
    show (as.reverse ++ .ref a :: st).map (gv E.2.2.2) = _
    rw [List.map_append, List.map_reverse]
    rfl
  have key : va_Run p E.1 e (gR (d + 1) mc ms) s m args below meth c H locs kc ks mc2 ms2 (F0 m pc ls (st0.map (gv E.2.2.2))) (st.map (gv E.2.2.2)) (gQ E Q2 ((Value.ref a :: as).map (gv E.2.2.2)).toArray) (fun q => E.2.2.2 ≤ q) := by
    rcases hk with hk | ⟨host, hk⟩
    · exact va_runV (C := y2.cls) (b := E.2.2.2 + a) (As := as.map (gv E.2.2.2)) ⟨X.1, X.2.1, X.2.2.1, X.2.2.2.2.2.1, fun w (hw : w ∈ ([] : List Cond)) => absurd hw List.not_mem_nil⟩ hR ⟨g_callB hKK.1 hm hk ⟨Nat.le_refl _, Nat.le_refl _⟩, hKK.1.1 _ hi rfl args, hKK.1.1 _ hs rfl args⟩ ⟨pc_blind, hrecv, fun U hU hW => pc_at (as := .ref a :: as) hKK hP hU hW⟩ rfl (by rw [List.length_map]; exact hn) hL.1 hstk hW8 hd ⟨Nat.le_of_ble_eq_true hc1, Nat.le_of_ble_eq_true hs1⟩
    · exact va_runVN (C := y2.cls) (b := E.2.2.2 + a) (As := as.map (gv E.2.2.2)) ⟨X.1, X.2.1, X.2.2.1, X.2.2.2.2.2.1, fun w (hw : w ∈ ([] : List Cond)) => absurd hw List.not_mem_nil⟩ hR ⟨g_callN hKK.1 hm hk ⟨Nat.le_refl _, Nat.le_refl _⟩, hKK.1.1 _ hi rfl args, hKK.1.1 _ hs rfl args⟩ ⟨pc_blind, hrecv, fun U hU hW => pc_at (as := .ref a :: as) hKK hP hU hW⟩ rfl (by rw [List.length_map]; exact hn) hL.1 hstk hW8 hd ⟨Nat.le_of_ble_eq_true hc1, Nat.le_of_ble_eq_true hs1⟩
  refine g_run key hP hl fun r h2 H2 locs2 hq hP2 hl2 => ?_
  rw [toL]
  exact kk r h2 hq p e s m args below meth c H2 locs2 ls X hP2 hl2 hL
theorem go_callS {as : List Value} {st0 : List Value} (hd : decode cc pc = .ok (.invokestatic idx, 3)) (hm : gmt y2 cc2 nL2 ret2 n) (hk : glk y.cls idx y2) (hi : Cond.static y2 ∈ lw_tbl) (hst : st0 = as.reverse ++ st) (hn : as.length = n) (hR : Ret E y2 cc2 nL2 ret2 d mc2 ms2 as h Q2) (h8 : Nat.ble ((st.map fun v => v.category).sum) 8 = true) (hc1 : Nat.ble (kc + mc2) mc = true) (hs1 : Nat.ble (ks + ms2) ms = true)
    (kk : ∀ (r : Option Value) (h2 : gH), Q2 r h2 → Go E y cc nL ret (d + 1) (kc + mc2) (ks + ms2) mc ms (pc + 3) L (r.toList ++ st) h2 Q) : Go E y cc nL ret (d + 1) kc ks mc ms pc L st0 h Q := by
  intro p e s m args below meth c H locs ls X hP hl hL
  have hKK := X.2.2.2.2.2.2.2.1
  have hW8 : 2 * (F0 m pc ls (st0.map (gv E.2.2.2))).monitorRoom + ((st.map (gv E.2.2.2)).map fun v => v.category).sum ≤ 8 := by
    rw [cat_map]
    exact lv_room (Nat.le_of_ble_eq_true h8)
  have hstk : (F0 m pc ls (st0.map (gv E.2.2.2))).stack = (as.map (gv E.2.2.2)).reverse ++ st.map (gv E.2.2.2) := by
    subst hst
    show (as.reverse ++ st).map (gv E.2.2.2) = _
    rw [List.map_append, List.map_reverse]
  have key : va_Run p E.1 e (gR (d + 1) mc ms) s m args below meth c H locs kc ks mc2 ms2 (F0 m pc ls (st0.map (gv E.2.2.2))) (st.map (gv E.2.2.2)) (gQ E Q2 (as.map (gv E.2.2.2)).toArray) (fun q => E.2.2.2 ≤ q) := by
    rcases hk with hk | ⟨host, hk⟩
    · exact va_runS (As := as.map (gv E.2.2.2)) ⟨X.1, X.2.1, X.2.2.1, X.2.2.2.2.2.1, fun w (hw : w ∈ ([] : List Cond)) => absurd hw List.not_mem_nil⟩ hR ⟨g_callB hKK.1 hm hk ⟨Nat.le_refl _, Nat.le_refl _⟩, hKK.1.1 _ hi rfl args⟩ ⟨pc_blind, fun U hU hW => pc_at (as := as) hKK hP hU hW⟩ rfl (by rw [List.length_map]; exact hn) hL.1 hstk hW8 hd ⟨Nat.le_of_ble_eq_true hc1, Nat.le_of_ble_eq_true hs1⟩
    · exact va_runSN (As := as.map (gv E.2.2.2)) ⟨X.1, X.2.1, X.2.2.1, X.2.2.2.2.2.1, fun w (hw : w ∈ ([] : List Cond)) => absurd hw List.not_mem_nil⟩ hR ⟨g_callN hKK.1 hm hk ⟨Nat.le_refl _, Nat.le_refl _⟩, hKK.1.1 _ hi rfl args, trivial⟩ ⟨pc_blind, fun U hU hW => pc_at (as := as) hKK hP hU hW⟩ rfl (by rw [List.length_map]; exact hn) hL.1 hstk hW8 hd ⟨Nat.le_of_ble_eq_true hc1, Nat.le_of_ble_eq_true hs1⟩
  refine g_run key hP hl fun r h2 H2 locs2 hq hP2 hl2 => ?_
  rw [toL]
  exact kk r h2 hq p e s m args below meth c H2 locs2 ls X hP2 hl2 hL
theorem go_callI {a : Nat} {as : List Value} {st0 : List Value} (hd : decode cc pc = .ok (.invokespecial idx, 3)) (hm : gmt y2 cc2 nL2 none n) (hk : glk y.cls idx y2) (hi : Cond.instanceMethod y2 ∈ lw_tbl) (hnm : y2.name = "<init>") (hst : st0 = as.reverse ++ .ref a :: st) (hn : as.length = n) (hR : Ret E y2 cc2 nL2 none d mc2 ms2 (.ref a :: as) h Q2) (h8 : Nat.ble ((st.map fun v => v.category).sum) 8 = true) (hc1 : Nat.ble (kc + mc2) mc = true) (hs1 : Nat.ble (ks + ms2) ms = true)
    (kk : ∀ (r : Option Value) (h2 : gH), Q2 r h2 → Go E y cc nL ret (d + 1) (kc + mc2) (ks + ms2) mc ms (pc + 3) L (r.toList ++ st) h2 Q) : Go E y cc nL ret (d + 1) kc ks mc ms pc L st0 h Q := by
  intro p e s m args below meth c H locs ls X hP hl hL
  have hKK := X.2.2.2.2.2.2.2.1
  have hW8 : 2 * (F0 m pc ls (st0.map (gv E.2.2.2))).monitorRoom + ((st.map (gv E.2.2.2)).map fun v => v.category).sum ≤ 8 := by
    rw [cat_map]
    exact lv_room (Nat.le_of_ble_eq_true h8)
  have hstk : (F0 m pc ls (st0.map (gv E.2.2.2))).stack = (as.map (gv E.2.2.2)).reverse ++ .ref (E.2.2.2 + a) :: st.map (gv E.2.2.2) := by
    subst hst
    show (as.reverse ++ .ref a :: st).map (gv E.2.2.2) = _
    rw [List.map_append, List.map_reverse]
    rfl
  have key : va_Run p E.1 e (gR (d + 1) mc ms) s m args below meth c H locs kc ks mc2 ms2 (F0 m pc ls (st0.map (gv E.2.2.2))) (st.map (gv E.2.2.2)) (gQ E Q2 ((Value.ref a :: as).map (gv E.2.2.2)).toArray) (fun q => E.2.2.2 ≤ q) := by
    rcases hk with hk | ⟨host, hk⟩
    · exact va_runI (b := E.2.2.2 + a) (As := as.map (gv E.2.2.2)) ⟨X.1, X.2.1, X.2.2.1, X.2.2.2.2.2.1, fun w (hw : w ∈ ([] : List Cond)) => absurd hw List.not_mem_nil⟩ hR ⟨g_callB hKK.1 hm hk ⟨Nat.le_refl _, Nat.le_refl _⟩, hnm, hKK.1.1 _ hi rfl args⟩ ⟨pc_blind, fun U hU hW => pc_at (as := .ref a :: as) hKK hP hU hW⟩ rfl (by rw [List.length_map]; exact hn) hL.1 hstk hW8 hd ⟨Nat.le_of_ble_eq_true hc1, Nat.le_of_ble_eq_true hs1⟩
    · exact va_runIN (b := E.2.2.2 + a) (As := as.map (gv E.2.2.2)) ⟨X.1, X.2.1, X.2.2.1, X.2.2.2.2.2.1, fun w (hw : w ∈ ([] : List Cond)) => absurd hw List.not_mem_nil⟩ hR ⟨g_callN hKK.1 hm hk ⟨Nat.le_refl _, Nat.le_refl _⟩, hnm, hKK.1.1 _ hi rfl args⟩ ⟨pc_blind, fun U hU hW => pc_at (as := .ref a :: as) hKK hP hU hW⟩ rfl (by rw [List.length_map]; exact hn) hL.1 hstk hW8 hd ⟨Nat.le_of_ble_eq_true hc1, Nat.le_of_ble_eq_true hs1⟩
  refine g_run key hP hl fun r h2 H2 locs2 hq hP2 hl2 => ?_
  rw [toL]
  exact kk r h2 hq p e s m args below meth c H2 locs2 ls X hP2 hl2 hL
/-- Object's own constructor -/
theorem go_objInit {a : Nat} (hd : decode cc pc = .ok (.invokespecial idx, 3)) (hk : Cond.methodLink y.cls idx Lib.objectInit ∈ lw_tbl) (hi : Cond.instanceMethod Lib.objectInit ∈ lw_tbl) (hc : Cond.code Lib.objectInit ⟨#[0xb1]⟩ 1 none ∈ lw_tbl) (h8 : Nat.ble ((st.map fun v => v.category).sum) 8 = true) (kk : Go E y cc nL ret (d + 1) kc ks mc ms (pc + 3) L st h Q) : Go E y cc nL ret (d + 1) kc ks mc ms pc L (.ref a :: st) h Q := by
  intro p e s m args below meth c H locs ls X hP hl hL
  have hKK := X.2.2.2.2.2.2.2.1
  refine W.objInit X.1 X.2.1 X.2.2.2.2.2.1 (hKK.1.1 _ hk rfl args) (hKK.1.1 _ hi rfl args) (hKK.1.1 _ hc rfl args) rfl (by show ls.size = _; rw [hL.1, X.2.2.1]) rfl hd (by show 1 ≤ d + 1; omega) ?_ (kk p e s m args below meth c H locs ls X hP hl hL)
  have h9 : (st.map fun v => v.category).sum ≤ 8 := Nat.le_of_ble_eq_true h8
  show 2 * 0 + ((st.map (gv E.2.2.2)).map fun v => v.category).sum + 12 ≤ 35 * (d + 1)
  rw [cat_map]
  omega
end Calls2
end
section
/-! System.arraycopy of ints -/
theorem nn_i32 (z : Int32) (hz : ¬ z < 0) : z.toInt = (z.toNatClampNeg : Int) := by
  have hz0 : (0 : Int) ≤ z.toInt := by
    have := Int32.not_lt.mp hz
    simpa using Int32.le_iff_toInt_le.mp this
  show z.toInt = ((z.toInt.toNat : Nat) : Int)
  omega
theorem go_copyi {E : gE} {y : MethodName} {cc : ByteArray} {nL : Nat} {ret : Option FieldType} {d kc ks mc ms pc : Nat} {L : List (Option Value)} {st : List Value} {h : gH} {Q : Option Value → gH → Prop} {idx a0 a n0 n1 : Nat} {f g : Nat → Int32} {sp dp n : Int32}
    (hd : decode cc pc = .ok (.invokestatic idx, 3)) (hk : Cond.methodLink y.cls idx arraycopyName ∈ lw_tbl) (hw1 : Cond.native arraycopyName ∈ lw_tbl) (hw2 : Cond.static arraycopyName ∈ lw_tbl) (hw3 : Cond.initialized "java/lang/System" ∈ lw_tbl)
    (ho0 : hg h a0 = some (.inl (0, n0, .inl f))) (ho1 : hg h a = some (.inl (0, n1, .inl g))) (h1 : ¬ sp < 0) (h2 : ¬ dp < 0) (h3 : ¬ n < 0) (h4 : sp.toNatClampNeg + n.toNatClampNeg ≤ n0) (h5 : dp.toNatClampNeg + n.toNatClampNeg ≤ n1) (h8 : Nat.ble ((st.map fun v => v.category).sum) 8 = true)
    (kk : Go E y cc nL ret (d + 1) kc ks mc ms (pc + 3) L st (hs h a (.inl (0, n1, .inl (va_cpy f g sp.toNatClampNeg dp.toNatClampNeg n.toNatClampNeg)))) Q) : Go E y cc nL ret (d + 1) kc ks mc ms pc L (.int n :: .int dp :: .ref a :: .int sp :: .ref a0 :: st) h Q := by
  intro p e s m args below meth c H locs ls X hP hl hL
  have hKK := X.2.2.2.2.2.2.2.1
  have hA := (hKK.2.2 0 (E.2.2.1 0, .int) rfl).1
  intro T hT X1
  have hc0 : H[E.2.2.2 + a0]? = some (vp_cell (E.2.2.1 0) (n0, .inl f)) := hP.2.1 a0 _ ho0
  have hc1 : H[E.2.2.2 + a]? = some (vp_cell (E.2.2.1 0) (n1, .inl g)) := hP.2.1 a _ ho1
  obtain ⟨-, k0, hk0, cm0, hkk0⟩ := hA n0 (fun j => .int (f j))
  obtain ⟨-, k1, hk1, cm1, hkk1⟩ := hA n1 (fun j => .int (g j))
  have h9 : (st.map fun v => v.category).sum ≤ 8 := Nat.le_of_ble_eq_true h8
  have h10 : nativeFrameWords "java/lang/System" "arraycopy" 5 + 11 ≤ 27 := by decide +kernel
  obtain ⟨vm', X', step⟩ := X1.arraycopy X.1 X.2.2.2.2.2.1 (hKK.1.1 _ hk rfl args) (hKK.1.1 _ hw1 rfl args) (hKK.1.1 _ hw2 rfl args) (hKK.1.1 _ hw3 rfl args) (src := E.2.2.2 + a0) (dst := E.2.2.2 + a) (cs := vp_cell (E.2.2.1 0) (n0, .inl f)) (cd := vp_cell (E.2.2.1 0) (n1, .inl g)) (srcPos := sp) (destPos := dp) (n := n) (by rw [hT]; exact hc0) (by rw [hT]; exact hc1)
    (fun _ h => by cases h) (fun _ h => by cases h) (fun h => by cases h) (fun h => by cases h) hk0 hk1 hkk0 hkk1 (by simp [refKind]) h1 h2 h3
    (by rw [nn_i32 sp h1, nn_i32 n h3]; show ¬ _ > ((arrV (E.2.2.1 0) n0 (fun j => .int (f j))).slots.size : Int); rw [arrV_size]; omega)
    (by rw [nn_i32 dp h2, nn_i32 n h3]; show ¬ _ > ((arrV (E.2.2.1 0) n1 (fun j => .int (g j))).slots.size : Int); rw [arrV_size]; omega)
    (fun vm₁ _ i hi => by
      have e1 : (vp_cell (E.2.2.1 0) (n0, .inl f)).slots.getD (sp.toNatClampNeg + i) .null = .int (f (sp.toNatClampNeg + i)) := by
        show (arrV (E.2.2.1 0) n0 (fun j => .int (f j))).slots.getD _ _ = _
        rw [Array.getD_eq_getD_getElem?, arrV_read _ _ (by omega)]
        rfl
      refine ⟨?_, ?_⟩
      · rw [e1]
        rfl
      · rw [e1]
        exact trivial)
    (g := F0 m pc ls (.int n :: .int dp :: .ref (E.2.2.2 + a) :: .int sp :: .ref (E.2.2.2 + a0) :: st.map (gv E.2.2.2))) rfl (by show ls.size = _; rw [hL.1, X.2.2.1]) (rest := st.map (gv E.2.2.2)) rfl (by rw [X.2.1]; exact hd) (by show 1 ≤ d + 1; omega) (by show 2 * 0 + ((st.map (gv E.2.2.2)).map fun v => v.category).sum + _ ≤ 35 * (d + 1); rw [cat_map]; omega)
  have e1 : copied (vp_cell (E.2.2.1 0) (n0, .inl f)) (vp_cell (E.2.2.1 0) (n1, .inl g)) sp dp n = vp_cell (E.2.2.1 0) (n1, .inl (va_cpy f g sp.toNatClampNeg dp.toNatClampNeg n.toNatClampNeg)) := va_copied (fun z => .int z) (E.2.2.1 0) (E.2.2.1 0) f g h4
  rw [e1] at X' step
  have hlt : E.2.2.2 + a < H.size := (Array.getElem?_eq_some_iff.mp hc1).1
  have oq : ∀ q : Nat, q ≠ E.2.2.2 + a → (H.setIfInBounds (E.2.2.2 + a) (vp_cell (E.2.2.1 0) (n1, .inl (va_cpy f g sp.toNatClampNeg dp.toNatClampNeg n.toNatClampNeg))))[q]? = H[q]? := fun q hq => by simp [Array.getElem?_setIfInBounds, Ne.symm hq]
  have hheap : ((T.setVm vm').setCell (E.2.2.2 + a) (vp_cell (E.2.2.1 0) (n1, .inl (va_cpy f g sp.toNatClampNeg dp.toNatClampNeg n.toNatClampNeg)))).heap = H.setIfInBounds (E.2.2.2 + a) (vp_cell (E.2.2.1 0) (n1, .inl (va_cpy f g sp.toNatClampNeg dp.toNatClampNeg n.toNatClampNeg))) := by rw [← hT]; rfl
  obtain ⟨t, a1, b1⟩ := kk p e s m args below meth c _ _ ls X (hP.put ho1 (c2 := .inl (0, n1, .inl (va_cpy f g sp.toNatClampNeg dp.toNatClampNeg n.toNatClampNeg))) (show (H.setIfInBounds (E.2.2.2 + a) _)[E.2.2.2 + a]? = some _ by simp [Array.getElem?_setIfInBounds, hlt]; rfl) (by simp) oq) (fun q hq => by
      rcases List.mem_append.mp hq with h6 | h6
      · exact hl q h6
      · obtain ⟨z, -, hz⟩ := List.mem_map.mp h6
        rw [← hz]
        exact Nat.le_add_right _ _) hL _ hheap X'
  exact ⟨t, step t a1, b1⟩
end
section
theorem mem_pl {big : List Cond} (ws : List Cond) (ps : List Nat) (hp : ws = ps.filterMap (fun i => big[i]?)) : ∀ w ∈ ws, w ∈ big := by
  intro w hw
  rw [hp] at hw
  obtain ⟨i, -, hi⟩ := List.mem_filterMap.mp hw
  exact List.mem_of_getElem? hi
theorem gclX0 : gcl 0 RX0 TX0 5 tyX0 := ⟨rfl, mem_pl _ [161, 163, 165, 167, 169] (by decide +kernel), tyX0_ok, nmX0⟩
theorem gclX1 : gcl 1 RX1 TX1 7 tyX1 := ⟨rfl, mem_pl _ [82, 84, 86, 88, 90, 92, 94] (by decide +kernel), tyX1_ok, nmX1⟩
theorem gclX2 : gcl 2 RX2 TX2 7 tyX2 := ⟨rfl, mem_pl _ [185, 187, 189, 191, 193, 195, 197] (by decide +kernel), tyX2_ok, nmX2⟩
theorem gclX3 : gcl 3 RX3 TX3 3 tyX3 := ⟨rfl, mem_pl _ [228, 230, 232] (by decide +kernel), tyX3_ok, nmX3⟩
theorem gclX4 : gcl 4 RX4 TX4 2 tyX4 := ⟨rfl, mem_pl _ [243, 245] (by decide +kernel), tyX4_ok, nmX4⟩
theorem gclX5 : gcl 5 RX5 TX5 2 tyX5 := ⟨rfl, mem_pl _ [135, 137] (by decide +kernel), tyX5_ok, nmX5⟩
theorem gclX6 : gcl 6 RX6 TX6 3 tyX6 := ⟨rfl, mem_pl _ [209, 211, 213] (by decide +kernel), tyX6_ok, nmX6⟩
theorem gclX7 : gcl 7 RX7 TX7 6 tyX7 := ⟨rfl, mem_pl _ [110, 112, 114, 116, 118, 120] (by decide +kernel), tyX7_ok, nmX7⟩
theorem gclX8 : gcl 8 RX8 TX8 7 tyX8 := ⟨rfl, mem_pl _ [255, 257, 259, 261, 263, 265, 267] (by decide +kernel), tyX8_ok, nmX8⟩
theorem gclX9 : gcl 9 RX9 TX9 22 tyX9 := ⟨rfl, mem_pl _ [710, 712, 714, 716, 718, 720, 722, 724, 726, 728, 730, 732, 734, 736, 738, 740, 742, 744, 746, 748, 750, 752] (by decide +kernel), tyX9_ok, nmX9⟩
theorem wL_7 : Cond.classLink RL 7 RX8 ∈ lw_tbl := List.mem_of_getElem? (i := 47) (by decide +kernel)
theorem aX8 : Cond.instantiable RX8 7 ∈ lw_tbl := List.mem_of_getElem? (i := 48) (by decide +kernel)
theorem zX8 : Cond.initialized RX8 ∈ lw_tbl := List.mem_of_getElem? (i := 34) (by decide +kernel)
theorem kL_9 : glk RL 9 yX8_init := Or.inl (List.mem_of_getElem? (i := 49) (by decide +kernel))
theorem iX8_init : Cond.instanceMethod yX8_init ∈ lw_tbl := List.mem_of_getElem? (i := 50) (by decide +kernel)
theorem mX8_init : gmt yX8_init cX8_init 2 none 0 := ⟨List.mem_of_getElem? (i := 51) (by decide +kernel), List.mem_of_getElem? (i := 34) (by decide +kernel), ⟨by decide, by decide⟩, by decide +kernel, by decide⟩
theorem kX8_1 : Cond.methodLink RX8 1 Lib.objectInit ∈ lw_tbl := List.mem_of_getElem? (i := 52) (by decide +kernel)
theorem iobj : Cond.instanceMethod Lib.objectInit ∈ lw_tbl := List.mem_of_getElem? (i := 53) (by decide +kernel)
theorem wX8_7 : Cond.classLink RX8 7 RX7 ∈ lw_tbl := List.mem_of_getElem? (i := 55) (by decide +kernel)
theorem aX7 : Cond.instantiable RX7 6 ∈ lw_tbl := List.mem_of_getElem? (i := 56) (by decide +kernel)
theorem zX7 : Cond.initialized RX7 ∈ lw_tbl := List.mem_of_getElem? (i := 35) (by decide +kernel)
theorem kX8_9 : glk RX8 9 yX7_init := Or.inl (List.mem_of_getElem? (i := 57) (by decide +kernel))
theorem iX7_init : Cond.instanceMethod yX7_init ∈ lw_tbl := List.mem_of_getElem? (i := 58) (by decide +kernel)
theorem mX7_init : gmt yX7_init cX7_init 2 none 0 := ⟨List.mem_of_getElem? (i := 59) (by decide +kernel), List.mem_of_getElem? (i := 35) (by decide +kernel), ⟨by decide, by decide⟩, by decide +kernel, by decide⟩
theorem kX7_3 : Cond.methodLink RX7 3 Lib.objectInit ∈ lw_tbl := List.mem_of_getElem? (i := 60) (by decide +kernel)
theorem wX7_9 : Cond.classLink RX7 9 RX1 ∈ lw_tbl := List.mem_of_getElem? (i := 61) (by decide +kernel)
theorem aX1 : Cond.instantiable RX1 7 ∈ lw_tbl := List.mem_of_getElem? (i := 62) (by decide +kernel)
theorem zX1 : Cond.initialized RX1 ∈ lw_tbl := List.mem_of_getElem? (i := 36) (by decide +kernel)
theorem kX7_11 : glk RX7 11 yX1_init := Or.inr ⟨"SignedSheets", List.mem_of_getElem? (i := 63) (by decide +kernel)⟩
theorem iX1_init : Cond.instanceMethod yX1_init ∈ lw_tbl := List.mem_of_getElem? (i := 64) (by decide +kernel)
theorem mX1_init : gmt yX1_init cX1_init 1 none 0 := ⟨List.mem_of_getElem? (i := 65) (by decide +kernel), List.mem_of_getElem? (i := 36) (by decide +kernel), ⟨by decide, by decide⟩, by decide +kernel, by decide⟩
theorem kX1_3 : Cond.methodLink RX1 3 Lib.objectInit ∈ lw_tbl := List.mem_of_getElem? (i := 66) (by decide +kernel)
theorem fX1_31 : gfd RX1 31 1 0 .int false := ⟨RX1, TX1, 7, tyX1, gclX1, by decide, rfl, rfl, rfl, List.mem_of_getElem? (i := 67) (by decide +kernel)⟩
theorem fX3_27 : gfd RX3 27 1 0 .int false := ⟨RX1, TX1, 7, tyX1, gclX1, by decide, rfl, rfl, rfl, List.mem_of_getElem? (i := 68) (by decide +kernel)⟩
theorem fX8_234 : gfd RX8 234 1 0 .int false := ⟨RX1, TX1, 7, tyX1, gclX1, by decide, rfl, rfl, rfl, List.mem_of_getElem? (i := 69) (by decide +kernel)⟩
theorem fX0_37 : gfd RX0 37 1 1 .int false := ⟨RX1, TX1, 7, tyX1, gclX1, by decide, rfl, rfl, rfl, List.mem_of_getElem? (i := 70) (by decide +kernel)⟩
theorem fX1_41 : gfd RX1 41 1 1 .int false := ⟨RX1, TX1, 7, tyX1, gclX1, by decide, rfl, rfl, rfl, List.mem_of_getElem? (i := 71) (by decide +kernel)⟩
theorem fX8_237 : gfd RX8 237 1 1 .int false := ⟨RX1, TX1, 7, tyX1, gclX1, by decide, rfl, rfl, rfl, List.mem_of_getElem? (i := 72) (by decide +kernel)⟩
theorem fX1_9 : gfd RX1 9 1 2 (.array .int) true := ⟨RX1, TX1, 7, tyX1, gclX1, by decide, rfl, rfl, rfl, List.mem_of_getElem? (i := 73) (by decide +kernel)⟩
theorem fX0_49 : gfd RX0 49 1 2 (.array .int) true := ⟨RX1, TX1, 7, tyX1, gclX1, by decide, rfl, rfl, rfl, List.mem_of_getElem? (i := 74) (by decide +kernel)⟩
theorem fX2_79 : gfd RX2 79 1 2 (.array .int) true := ⟨RX1, TX1, 7, tyX1, gclX1, by decide, rfl, rfl, rfl, List.mem_of_getElem? (i := 75) (by decide +kernel)⟩
theorem fX1_15 : gfd RX1 15 1 3 (.array .int) true := ⟨RX1, TX1, 7, tyX1, gclX1, by decide, rfl, rfl, rfl, List.mem_of_getElem? (i := 76) (by decide +kernel)⟩
theorem fX3_53 : gfd RX3 53 1 3 (.array .int) true := ⟨RX1, TX1, 7, tyX1, gclX1, by decide, rfl, rfl, rfl, List.mem_of_getElem? (i := 77) (by decide +kernel)⟩
theorem fX8_240 : gfd RX8 240 1 3 (.array .int) true := ⟨RX1, TX1, 7, tyX1, gclX1, by decide, rfl, rfl, rfl, List.mem_of_getElem? (i := 78) (by decide +kernel)⟩
theorem fX1_18 : gfd RX1 18 1 4 (.array .int) true := ⟨RX1, TX1, 7, tyX1, gclX1, by decide, rfl, rfl, rfl, List.mem_of_getElem? (i := 79) (by decide +kernel)⟩
theorem fX1_21 : gfd RX1 21 1 5 (.array .int) true := ⟨RX1, TX1, 7, tyX1, gclX1, by decide, rfl, rfl, rfl, List.mem_of_getElem? (i := 80) (by decide +kernel)⟩
theorem fX1_24 : gfd RX1 24 1 6 (.array .int) true := ⟨RX1, TX1, 7, tyX1, gclX1, by decide, rfl, rfl, rfl, List.mem_of_getElem? (i := 81) (by decide +kernel)⟩
theorem ac_int : Cond.arrayClass .int ∈ lw_tbl := List.mem_of_getElem? (i := 97) (by decide +kernel)
theorem fX7_12 : gfd RX7 12 7 0 (.object "SignedSheets$Folk") true := ⟨RX7, TX7, 6, tyX7, gclX7, by decide, rfl, rfl, rfl, List.mem_of_getElem? (i := 98) (by decide +kernel)⟩
theorem fX8_59 : gfd RX8 59 7 0 (.object "SignedSheets$Folk") true := ⟨RX7, TX7, 6, tyX7, gclX7, by decide, rfl, rfl, rfl, List.mem_of_getElem? (i := 99) (by decide +kernel)⟩
theorem fX7_18 : gfd RX7 18 7 1 (.array .int) true := ⟨RX7, TX7, 6, tyX7, gclX7, by decide, rfl, rfl, rfl, List.mem_of_getElem? (i := 100) (by decide +kernel)⟩
theorem fX6_28 : gfd RX6 28 7 1 (.array .int) true := ⟨RX7, TX7, 6, tyX7, gclX7, by decide, rfl, rfl, rfl, List.mem_of_getElem? (i := 101) (by decide +kernel)⟩
theorem fX8_81 : gfd RX8 81 7 1 (.array .int) true := ⟨RX7, TX7, 6, tyX7, gclX7, by decide, rfl, rfl, rfl, List.mem_of_getElem? (i := 102) (by decide +kernel)⟩
theorem fX7_22 : gfd RX7 22 7 2 (.array .int) true := ⟨RX7, TX7, 6, tyX7, gclX7, by decide, rfl, rfl, rfl, List.mem_of_getElem? (i := 103) (by decide +kernel)⟩
theorem fX8_246 : gfd RX8 246 7 2 (.array .int) true := ⟨RX7, TX7, 6, tyX7, gclX7, by decide, rfl, rfl, rfl, List.mem_of_getElem? (i := 104) (by decide +kernel)⟩
theorem fX7_25 : gfd RX7 25 7 3 (.array .boolean) true := ⟨RX7, TX7, 6, tyX7, gclX7, by decide, rfl, rfl, rfl, List.mem_of_getElem? (i := 105) (by decide +kernel)⟩
theorem fX8_253 : gfd RX8 253 7 3 (.array .boolean) true := ⟨RX7, TX7, 6, tyX7, gclX7, by decide, rfl, rfl, rfl, List.mem_of_getElem? (i := 106) (by decide +kernel)⟩
theorem fX7_29 : gfd RX7 29 7 4 .int false := ⟨RX7, TX7, 6, tyX7, gclX7, by decide, rfl, rfl, rfl, List.mem_of_getElem? (i := 107) (by decide +kernel)⟩
theorem fX8_200 : gfd RX8 200 7 4 .int false := ⟨RX7, TX7, 6, tyX7, gclX7, by decide, rfl, rfl, rfl, List.mem_of_getElem? (i := 108) (by decide +kernel)⟩
theorem fX8_230 : gfd RX8 230 7 5 .boolean false := ⟨RX7, TX7, 6, tyX7, gclX7, by decide, rfl, rfl, rfl, List.mem_of_getElem? (i := 109) (by decide +kernel)⟩
theorem ac_boolean : Cond.arrayClass .boolean ∈ lw_tbl := List.mem_of_getElem? (i := 123) (by decide +kernel)
theorem wX8_20 : Cond.classLink RX8 20 RX5 ∈ lw_tbl := List.mem_of_getElem? (i := 125) (by decide +kernel)
theorem aX5 : Cond.instantiable RX5 2 ∈ lw_tbl := List.mem_of_getElem? (i := 126) (by decide +kernel)
theorem zX5 : Cond.initialized RX5 ∈ lw_tbl := List.mem_of_getElem? (i := 37) (by decide +kernel)
theorem kX8_22 : glk RX8 22 yX5_init := Or.inr ⟨"SignedSheets", List.mem_of_getElem? (i := 127) (by decide +kernel)⟩
theorem iX5_init : Cond.instanceMethod yX5_init ∈ lw_tbl := List.mem_of_getElem? (i := 128) (by decide +kernel)
theorem mX5_init : gmt yX5_init cX5_init 1 none 0 := ⟨List.mem_of_getElem? (i := 129) (by decide +kernel), List.mem_of_getElem? (i := 37) (by decide +kernel), ⟨by decide, by decide⟩, by decide +kernel, by decide⟩
theorem kX5_3 : Cond.methodLink RX5 3 Lib.objectInit ∈ lw_tbl := List.mem_of_getElem? (i := 130) (by decide +kernel)
theorem fX5_9 : gfd RX5 9 5 0 (.array .int) true := ⟨RX5, TX5, 2, tyX5, gclX5, by decide, rfl, rfl, rfl, List.mem_of_getElem? (i := 131) (by decide +kernel)⟩
theorem fX5_15 : gfd RX5 15 5 1 .int false := ⟨RX5, TX5, 2, tyX5, gclX5, by decide, rfl, rfl, rfl, List.mem_of_getElem? (i := 132) (by decide +kernel)⟩
theorem fX2_45 : gfd RX2 45 5 1 .int false := ⟨RX5, TX5, 2, tyX5, gclX5, by decide, rfl, rfl, rfl, List.mem_of_getElem? (i := 133) (by decide +kernel)⟩
theorem fX8_91 : gfd RX8 91 5 1 .int false := ⟨RX5, TX5, 2, tyX5, gclX5, by decide, rfl, rfl, rfl, List.mem_of_getElem? (i := 134) (by decide +kernel)⟩
theorem wX8_27 : Cond.classLink RX8 27 RX2 ∈ lw_tbl := List.mem_of_getElem? (i := 140) (by decide +kernel)
theorem aX2 : Cond.instantiable RX2 7 ∈ lw_tbl := List.mem_of_getElem? (i := 141) (by decide +kernel)
theorem zX2 : Cond.initialized RX2 ∈ lw_tbl := List.mem_of_getElem? (i := 38) (by decide +kernel)
theorem kX8_29 : glk RX8 29 yX2_init := Or.inr ⟨"SignedSheets", List.mem_of_getElem? (i := 142) (by decide +kernel)⟩
theorem iX2_init : Cond.instanceMethod yX2_init ∈ lw_tbl := List.mem_of_getElem? (i := 143) (by decide +kernel)
theorem mX2_init : gmt yX2_init cX2_init 1 none 0 := ⟨List.mem_of_getElem? (i := 144) (by decide +kernel), List.mem_of_getElem? (i := 38) (by decide +kernel), ⟨by decide, by decide⟩, by decide +kernel, by decide⟩
theorem kX2_3 : Cond.methodLink RX2 3 Lib.objectInit ∈ lw_tbl := List.mem_of_getElem? (i := 145) (by decide +kernel)
theorem wX2_9 : Cond.classLink RX2 9 RX1 ∈ lw_tbl := List.mem_of_getElem? (i := 146) (by decide +kernel)
theorem kX2_11 : glk RX2 11 yX1_init := Or.inr ⟨"SignedSheets", List.mem_of_getElem? (i := 147) (by decide +kernel)⟩
theorem wX2_18 : Cond.classLink RX2 18 RX0 ∈ lw_tbl := List.mem_of_getElem? (i := 148) (by decide +kernel)
theorem aX0 : Cond.instantiable RX0 5 ∈ lw_tbl := List.mem_of_getElem? (i := 149) (by decide +kernel)
theorem zX0 : Cond.initialized RX0 ∈ lw_tbl := List.mem_of_getElem? (i := 39) (by decide +kernel)
theorem kX2_20 : glk RX2 20 yX0_init := Or.inr ⟨"SignedSheets", List.mem_of_getElem? (i := 150) (by decide +kernel)⟩
theorem iX0_init : Cond.instanceMethod yX0_init ∈ lw_tbl := List.mem_of_getElem? (i := 151) (by decide +kernel)
theorem mX0_init : gmt yX0_init cX0_init 1 none 0 := ⟨List.mem_of_getElem? (i := 152) (by decide +kernel), List.mem_of_getElem? (i := 39) (by decide +kernel), ⟨by decide, by decide⟩, by decide +kernel, by decide⟩
theorem kX0_3 : Cond.methodLink RX0 3 Lib.objectInit ∈ lw_tbl := List.mem_of_getElem? (i := 153) (by decide +kernel)
theorem fX0_27 : gfd RX0 27 0 0 .int false := ⟨RX0, TX0, 5, tyX0, gclX0, by decide, rfl, rfl, rfl, List.mem_of_getElem? (i := 154) (by decide +kernel)⟩
theorem fX2_71 : gfd RX2 71 0 0 .int false := ⟨RX0, TX0, 5, tyX0, gclX0, by decide, rfl, rfl, rfl, List.mem_of_getElem? (i := 155) (by decide +kernel)⟩
theorem fX0_15 : gfd RX0 15 0 1 .int false := ⟨RX0, TX0, 5, tyX0, gclX0, by decide, rfl, rfl, rfl, List.mem_of_getElem? (i := 156) (by decide +kernel)⟩
theorem fX0_24 : gfd RX0 24 0 2 .int false := ⟨RX0, TX0, 5, tyX0, gclX0, by decide, rfl, rfl, rfl, List.mem_of_getElem? (i := 157) (by decide +kernel)⟩
theorem fX0_21 : gfd RX0 21 0 3 .int false := ⟨RX0, TX0, 5, tyX0, gclX0, by decide, rfl, rfl, rfl, List.mem_of_getElem? (i := 158) (by decide +kernel)⟩
theorem fX0_30 : gfd RX0 30 0 4 .int false := ⟨RX0, TX0, 5, tyX0, gclX0, by decide, rfl, rfl, rfl, List.mem_of_getElem? (i := 159) (by decide +kernel)⟩
theorem fX2_54 : gfd RX2 54 0 4 .int false := ⟨RX0, TX0, 5, tyX0, gclX0, by decide, rfl, rfl, rfl, List.mem_of_getElem? (i := 160) (by decide +kernel)⟩
theorem fX2_12 : gfd RX2 12 2 0 (.object "SignedSheets$Folk") true := ⟨RX2, TX2, 7, tyX2, gclX2, by decide, rfl, rfl, rfl, List.mem_of_getElem? (i := 172) (by decide +kernel)⟩
theorem fX8_114 : gfd RX8 114 2 0 (.object "SignedSheets$Folk") true := ⟨RX2, TX2, 7, tyX2, gclX2, by decide, rfl, rfl, rfl, List.mem_of_getElem? (i := 173) (by decide +kernel)⟩
theorem fX2_21 : gfd RX2 21 2 1 (.object "SignedSheets$Act") true := ⟨RX2, TX2, 7, tyX2, gclX2, by decide, rfl, rfl, rfl, List.mem_of_getElem? (i := 174) (by decide +kernel)⟩
theorem fX2_29 : gfd RX2 29 2 2 .int false := ⟨RX2, TX2, 7, tyX2, gclX2, by decide, rfl, rfl, rfl, List.mem_of_getElem? (i := 175) (by decide +kernel)⟩
theorem fX8_121 : gfd RX8 121 2 2 .int false := ⟨RX2, TX2, 7, tyX2, gclX2, by decide, rfl, rfl, rfl, List.mem_of_getElem? (i := 176) (by decide +kernel)⟩
theorem fX2_33 : gfd RX2 33 2 3 .int false := ⟨RX2, TX2, 7, tyX2, gclX2, by decide, rfl, rfl, rfl, List.mem_of_getElem? (i := 177) (by decide +kernel)⟩
theorem fX8_104 : gfd RX8 104 2 3 .int false := ⟨RX2, TX2, 7, tyX2, gclX2, by decide, rfl, rfl, rfl, List.mem_of_getElem? (i := 178) (by decide +kernel)⟩
theorem fX2_36 : gfd RX2 36 2 4 .int false := ⟨RX2, TX2, 7, tyX2, gclX2, by decide, rfl, rfl, rfl, List.mem_of_getElem? (i := 179) (by decide +kernel)⟩
theorem fX8_107 : gfd RX8 107 2 4 .int false := ⟨RX2, TX2, 7, tyX2, gclX2, by decide, rfl, rfl, rfl, List.mem_of_getElem? (i := 180) (by decide +kernel)⟩
theorem fX2_39 : gfd RX2 39 2 5 .int false := ⟨RX2, TX2, 7, tyX2, gclX2, by decide, rfl, rfl, rfl, List.mem_of_getElem? (i := 181) (by decide +kernel)⟩
theorem fX8_128 : gfd RX8 128 2 5 .int false := ⟨RX2, TX2, 7, tyX2, gclX2, by decide, rfl, rfl, rfl, List.mem_of_getElem? (i := 182) (by decide +kernel)⟩
theorem fX2_42 : gfd RX2 42 2 6 .int false := ⟨RX2, TX2, 7, tyX2, gclX2, by decide, rfl, rfl, rfl, List.mem_of_getElem? (i := 183) (by decide +kernel)⟩
theorem fX8_131 : gfd RX8 131 2 6 .int false := ⟨RX2, TX2, 7, tyX2, gclX2, by decide, rfl, rfl, rfl, List.mem_of_getElem? (i := 184) (by decide +kernel)⟩
theorem wX8_34 : Cond.classLink RX8 34 RX6 ∈ lw_tbl := List.mem_of_getElem? (i := 200) (by decide +kernel)
theorem aX6 : Cond.instantiable RX6 3 ∈ lw_tbl := List.mem_of_getElem? (i := 201) (by decide +kernel)
theorem zX6 : Cond.initialized RX6 ∈ lw_tbl := List.mem_of_getElem? (i := 40) (by decide +kernel)
theorem kX8_36 : glk RX8 36 yX6_init := Or.inr ⟨"SignedSheets", List.mem_of_getElem? (i := 202) (by decide +kernel)⟩
theorem iX6_init : Cond.instanceMethod yX6_init ∈ lw_tbl := List.mem_of_getElem? (i := 203) (by decide +kernel)
theorem mX6_init : gmt yX6_init cX6_init 1 none 0 := ⟨List.mem_of_getElem? (i := 204) (by decide +kernel), List.mem_of_getElem? (i := 40) (by decide +kernel), ⟨by decide, by decide⟩, by decide +kernel, by decide⟩
theorem kX6_3 : Cond.methodLink RX6 3 Lib.objectInit ∈ lw_tbl := List.mem_of_getElem? (i := 205) (by decide +kernel)
theorem fX6_11 : gfd RX6 11 6 0 (.array .long) true := ⟨RX6, TX6, 3, tyX6, gclX6, by decide, rfl, rfl, rfl, List.mem_of_getElem? (i := 206) (by decide +kernel)⟩
theorem fX6_15 : gfd RX6 15 6 1 (.array .long) true := ⟨RX6, TX6, 3, tyX6, gclX6, by decide, rfl, rfl, rfl, List.mem_of_getElem? (i := 207) (by decide +kernel)⟩
theorem fX6_18 : gfd RX6 18 6 2 .boolean false := ⟨RX6, TX6, 3, tyX6, gclX6, by decide, rfl, rfl, rfl, List.mem_of_getElem? (i := 208) (by decide +kernel)⟩
theorem ac_long : Cond.arrayClass .long ∈ lw_tbl := List.mem_of_getElem? (i := 216) (by decide +kernel)
theorem wX8_41 : Cond.classLink RX8 41 RX3 ∈ lw_tbl := List.mem_of_getElem? (i := 217) (by decide +kernel)
theorem aX3 : Cond.instantiable RX3 3 ∈ lw_tbl := List.mem_of_getElem? (i := 218) (by decide +kernel)
theorem zX3 : Cond.initialized RX3 ∈ lw_tbl := List.mem_of_getElem? (i := 41) (by decide +kernel)
theorem kX8_43 : glk RX8 43 yX3_init := Or.inr ⟨"SignedSheets", List.mem_of_getElem? (i := 219) (by decide +kernel)⟩
theorem iX3_init : Cond.instanceMethod yX3_init ∈ lw_tbl := List.mem_of_getElem? (i := 220) (by decide +kernel)
theorem mX3_init : gmt yX3_init cX3_init 1 none 0 := ⟨List.mem_of_getElem? (i := 221) (by decide +kernel), List.mem_of_getElem? (i := 41) (by decide +kernel), ⟨by decide, by decide⟩, by decide +kernel, by decide⟩
theorem kX3_3 : Cond.methodLink RX3 3 Lib.objectInit ∈ lw_tbl := List.mem_of_getElem? (i := 222) (by decide +kernel)
theorem fX3_9 : gfd RX3 9 3 0 (.array .int) true := ⟨RX3, TX3, 3, tyX3, gclX3, by decide, rfl, rfl, rfl, List.mem_of_getElem? (i := 223) (by decide +kernel)⟩
theorem fX8_190 : gfd RX8 190 3 0 (.array .int) true := ⟨RX3, TX3, 3, tyX3, gclX3, by decide, rfl, rfl, rfl, List.mem_of_getElem? (i := 224) (by decide +kernel)⟩
theorem fX3_15 : gfd RX3 15 3 1 (.array .int) true := ⟨RX3, TX3, 3, tyX3, gclX3, by decide, rfl, rfl, rfl, List.mem_of_getElem? (i := 225) (by decide +kernel)⟩
theorem fX8_193 : gfd RX8 193 3 1 (.array .int) true := ⟨RX3, TX3, 3, tyX3, gclX3, by decide, rfl, rfl, rfl, List.mem_of_getElem? (i := 226) (by decide +kernel)⟩
theorem fX3_18 : gfd RX3 18 3 2 (.array .int) true := ⟨RX3, TX3, 3, tyX3, gclX3, by decide, rfl, rfl, rfl, List.mem_of_getElem? (i := 227) (by decide +kernel)⟩
theorem wX8_48 : Cond.classLink RX8 48 RX4 ∈ lw_tbl := List.mem_of_getElem? (i := 235) (by decide +kernel)
theorem aX4 : Cond.instantiable RX4 2 ∈ lw_tbl := List.mem_of_getElem? (i := 236) (by decide +kernel)
theorem zX4 : Cond.initialized RX4 ∈ lw_tbl := List.mem_of_getElem? (i := 42) (by decide +kernel)
theorem kX8_50 : glk RX8 50 yX4_init := Or.inr ⟨"SignedSheets", List.mem_of_getElem? (i := 237) (by decide +kernel)⟩
theorem iX4_init : Cond.instanceMethod yX4_init ∈ lw_tbl := List.mem_of_getElem? (i := 238) (by decide +kernel)
theorem mX4_init : gmt yX4_init cX4_init 1 none 0 := ⟨List.mem_of_getElem? (i := 239) (by decide +kernel), List.mem_of_getElem? (i := 42) (by decide +kernel), ⟨by decide, by decide⟩, by decide +kernel, by decide⟩
theorem kX4_3 : Cond.methodLink RX4 3 Lib.objectInit ∈ lw_tbl := List.mem_of_getElem? (i := 240) (by decide +kernel)
theorem fX4_9 : gfd RX4 9 4 0 (.array .int) true := ⟨RX4, TX4, 2, tyX4, gclX4, by decide, rfl, rfl, rfl, List.mem_of_getElem? (i := 241) (by decide +kernel)⟩
theorem fX4_15 : gfd RX4 15 4 1 (.array .int) true := ⟨RX4, TX4, 2, tyX4, gclX4, by decide, rfl, rfl, rfl, List.mem_of_getElem? (i := 242) (by decide +kernel)⟩
theorem fX8_10 : gfd RX8 10 8 0 (.object "SignedSheets$World") true := ⟨RX8, TX8, 7, tyX8, gclX8, by decide, rfl, rfl, rfl, List.mem_of_getElem? (i := 248) (by decide +kernel)⟩
theorem fX8_16 : gfd RX8 16 8 1 (.array (.object "SignedSheets$World")) true := ⟨RX8, TX8, 7, tyX8, gclX8, by decide, rfl, rfl, rfl, List.mem_of_getElem? (i := 249) (by decide +kernel)⟩
theorem fX8_23 : gfd RX8 23 8 2 (.object "SignedSheets$Pad") true := ⟨RX8, TX8, 7, tyX8, gclX8, by decide, rfl, rfl, rfl, List.mem_of_getElem? (i := 250) (by decide +kernel)⟩
theorem fX8_30 : gfd RX8 30 8 3 (.object "SignedSheets$Lives") true := ⟨RX8, TX8, 7, tyX8, gclX8, by decide, rfl, rfl, rfl, List.mem_of_getElem? (i := 251) (by decide +kernel)⟩
theorem fX8_37 : gfd RX8 37 8 4 (.object "SignedSheets$Plan") true := ⟨RX8, TX8, 7, tyX8, gclX8, by decide, rfl, rfl, rfl, List.mem_of_getElem? (i := 252) (by decide +kernel)⟩
theorem fX8_44 : gfd RX8 44 8 5 (.object "SignedSheets$Matching") true := ⟨RX8, TX8, 7, tyX8, gclX8, by decide, rfl, rfl, rfl, List.mem_of_getElem? (i := 253) (by decide +kernel)⟩
theorem fX8_51 : gfd RX8 51 8 6 (.object "SignedSheets$Netting") true := ⟨RX8, TX8, 7, tyX8, gclX8, by decide, rfl, rfl, rfl, List.mem_of_getElem? (i := 254) (by decide +kernel)⟩
theorem kL_13 : glk RL 13 yX8_person := Or.inl (List.mem_of_getElem? (i := 270) (by decide +kernel))
theorem iX8_person : Cond.instanceMethod yX8_person ∈ lw_tbl := List.mem_of_getElem? (i := 271) (by decide +kernel)
theorem sX8_person : Cond.selects yX8_person.cls yX8_person yX8_person ∈ lw_tbl := List.mem_of_getElem? (i := 272) (by decide +kernel)
theorem mX8_person : gmt yX8_person cX8_person 4 (some .int) 3 := ⟨List.mem_of_getElem? (i := 273) (by decide +kernel), List.mem_of_getElem? (i := 34) (by decide +kernel), ⟨by decide, by decide⟩, by decide +kernel, by decide⟩
theorem kX8_55 : glk RX8 55 yX8_isIn := Or.inl (List.mem_of_getElem? (i := 274) (by decide +kernel))
theorem tX8_isIn : Cond.static yX8_isIn ∈ lw_tbl := List.mem_of_getElem? (i := 275) (by decide +kernel)
theorem mX8_isIn : gmt yX8_isIn cX8_isIn 3 (some .boolean) 3 := ⟨List.mem_of_getElem? (i := 276) (by decide +kernel), List.mem_of_getElem? (i := 34) (by decide +kernel), ⟨by decide, by decide⟩, by decide +kernel, by decide⟩
theorem kX8_63 : glk RX8 63 yX1_enter := Or.inl (List.mem_of_getElem? (i := 277) (by decide +kernel))
theorem iX1_enter : Cond.instanceMethod yX1_enter ∈ lw_tbl := List.mem_of_getElem? (i := 278) (by decide +kernel)
theorem sX1_enter : Cond.selects yX1_enter.cls yX1_enter yX1_enter ∈ lw_tbl := List.mem_of_getElem? (i := 279) (by decide +kernel)
theorem mX1_enter : gmt yX1_enter cX1_enter 4 none 3 := ⟨List.mem_of_getElem? (i := 280) (by decide +kernel), List.mem_of_getElem? (i := 36) (by decide +kernel), ⟨by decide, by decide⟩, by decide +kernel, by decide⟩
theorem kX8_69 : glk RX8 69 yX1_count := Or.inl (List.mem_of_getElem? (i := 281) (by decide +kernel))
theorem iX1_count : Cond.instanceMethod yX1_count ∈ lw_tbl := List.mem_of_getElem? (i := 282) (by decide +kernel)
theorem sX1_count : Cond.selects yX1_count.cls yX1_count yX1_count ∈ lw_tbl := List.mem_of_getElem? (i := 283) (by decide +kernel)
theorem mX1_count : gmt yX1_count cX1_count 1 (some .int) 0 := ⟨List.mem_of_getElem? (i := 284) (by decide +kernel), List.mem_of_getElem? (i := 36) (by decide +kernel), ⟨by decide, by decide⟩, by decide +kernel, by decide⟩
theorem kX1_35 : glk RX1 35 yJ6_bitCount_0f7a4 := Or.inl (List.mem_of_getElem? (i := 285) (by decide +kernel))
theorem tJ6_bitCount_0f7a4 : Cond.static yJ6_bitCount_0f7a4 ∈ lw_tbl := List.mem_of_getElem? (i := 286) (by decide +kernel)
theorem mJ6_bitCount_0f7a4 : gmt yJ6_bitCount_0f7a4 cJ6_bitCount_0f7a4 1 (some .int) 1 := ⟨List.mem_of_getElem? (i := 287) (by decide +kernel), List.mem_of_getElem? (i := 44) (by decide +kernel), ⟨by decide, by decide⟩, by decide +kernel, by decide⟩
theorem nJ6_265 : Cond.constant RJ6 265 (1431655765) ∈ lw_tbl := List.mem_of_getElem? (i := 288) (by decide +kernel)
theorem nJ6_266 : Cond.constant RJ6 266 (858993459) ∈ lw_tbl := List.mem_of_getElem? (i := 289) (by decide +kernel)
theorem nJ6_267 : Cond.constant RJ6 267 (252645135) ∈ lw_tbl := List.mem_of_getElem? (i := 290) (by decide +kernel)
theorem kL_18 : glk RL 18 yX8_die := Or.inl (List.mem_of_getElem? (i := 291) (by decide +kernel))
theorem iX8_die : Cond.instanceMethod yX8_die ∈ lw_tbl := List.mem_of_getElem? (i := 292) (by decide +kernel)
theorem sX8_die : Cond.selects yX8_die.cls yX8_die yX8_die ∈ lw_tbl := List.mem_of_getElem? (i := 293) (by decide +kernel)
theorem mX8_die : gmt yX8_die cX8_die 2 (some .int) 1 := ⟨List.mem_of_getElem? (i := 294) (by decide +kernel), List.mem_of_getElem? (i := 34) (by decide +kernel), ⟨by decide, by decide⟩, by decide +kernel, by decide⟩
theorem kX8_73 : glk RX8 73 yX1_has := Or.inl (List.mem_of_getElem? (i := 295) (by decide +kernel))
theorem iX1_has : Cond.instanceMethod yX1_has ∈ lw_tbl := List.mem_of_getElem? (i := 296) (by decide +kernel)
theorem sX1_has : Cond.selects yX1_has.cls yX1_has yX1_has ∈ lw_tbl := List.mem_of_getElem? (i := 297) (by decide +kernel)
theorem mX1_has : gmt yX1_has cX1_has 2 (some .boolean) 1 := ⟨List.mem_of_getElem? (i := 298) (by decide +kernel), List.mem_of_getElem? (i := 36) (by decide +kernel), ⟨by decide, by decide⟩, by decide +kernel, by decide⟩
theorem kX1_27 : glk RX1 27 yX8_isIn := Or.inr ⟨"SignedSheets", List.mem_of_getElem? (i := 299) (by decide +kernel)⟩
theorem kX8_77 : glk RX8 77 yX1_leave := Or.inl (List.mem_of_getElem? (i := 300) (by decide +kernel))
theorem iX1_leave : Cond.instanceMethod yX1_leave ∈ lw_tbl := List.mem_of_getElem? (i := 301) (by decide +kernel)
theorem sX1_leave : Cond.selects yX1_leave.cls yX1_leave yX1_leave ∈ lw_tbl := List.mem_of_getElem? (i := 302) (by decide +kernel)
theorem mX1_leave : gmt yX1_leave cX1_leave 3 none 1 := ⟨List.mem_of_getElem? (i := 303) (by decide +kernel), List.mem_of_getElem? (i := 36) (by decide +kernel), ⟨by decide, by decide⟩, by decide +kernel, by decide⟩
theorem kL_23 : glk RL 23 yX8_weight := Or.inl (List.mem_of_getElem? (i := 304) (by decide +kernel))
theorem iX8_weight : Cond.instanceMethod yX8_weight ∈ lw_tbl := List.mem_of_getElem? (i := 305) (by decide +kernel)
theorem sX8_weight : Cond.selects yX8_weight.cls yX8_weight yX8_weight ∈ lw_tbl := List.mem_of_getElem? (i := 306) (by decide +kernel)
theorem mX8_weight : gmt yX8_weight cX8_weight 4 (some .int) 2 := ⟨List.mem_of_getElem? (i := 307) (by decide +kernel), List.mem_of_getElem? (i := 34) (by decide +kernel), ⟨by decide, by decide⟩, by decide +kernel, by decide⟩
theorem kX8_85 : glk RX8 85 yX7_weightOfAll := Or.inl (List.mem_of_getElem? (i := 308) (by decide +kernel))
theorem iX7_weightOfAll : Cond.instanceMethod yX7_weightOfAll ∈ lw_tbl := List.mem_of_getElem? (i := 309) (by decide +kernel)
theorem sX7_weightOfAll : Cond.selects yX7_weightOfAll.cls yX7_weightOfAll yX7_weightOfAll ∈ lw_tbl := List.mem_of_getElem? (i := 310) (by decide +kernel)
theorem mX7_weightOfAll : gmt yX7_weightOfAll cX7_weightOfAll 3 (some .int) 0 := ⟨List.mem_of_getElem? (i := 311) (by decide +kernel), List.mem_of_getElem? (i := 35) (by decide +kernel), ⟨by decide, by decide⟩, by decide +kernel, by decide⟩
theorem kX8_88 : glk RX8 88 yX6_forgetValues := Or.inl (List.mem_of_getElem? (i := 312) (by decide +kernel))
theorem iX6_forgetValues : Cond.instanceMethod yX6_forgetValues ∈ lw_tbl := List.mem_of_getElem? (i := 313) (by decide +kernel)
theorem sX6_forgetValues : Cond.selects yX6_forgetValues.cls yX6_forgetValues yX6_forgetValues ∈ lw_tbl := List.mem_of_getElem? (i := 314) (by decide +kernel)
theorem mX6_forgetValues : gmt yX6_forgetValues cX6_forgetValues 1 none 0 := ⟨List.mem_of_getElem? (i := 315) (by decide +kernel), List.mem_of_getElem? (i := 40) (by decide +kernel), ⟨by decide, by decide⟩, by decide +kernel, by decide⟩
theorem kL_28 : glk RL 28 yX8_say := Or.inl (List.mem_of_getElem? (i := 316) (by decide +kernel))
theorem iX8_say : Cond.instanceMethod yX8_say ∈ lw_tbl := List.mem_of_getElem? (i := 317) (by decide +kernel)
theorem sX8_say : Cond.selects yX8_say.cls yX8_say yX8_say ∈ lw_tbl := List.mem_of_getElem? (i := 318) (by decide +kernel)
theorem mX8_say : gmt yX8_say cX8_say 2 (some .int) 1 := ⟨List.mem_of_getElem? (i := 319) (by decide +kernel), List.mem_of_getElem? (i := 34) (by decide +kernel), ⟨by decide, by decide⟩, by decide +kernel, by decide⟩
theorem kX8_94 : glk RX8 94 yX5_add := Or.inl (List.mem_of_getElem? (i := 320) (by decide +kernel))
theorem iX5_add : Cond.instanceMethod yX5_add ∈ lw_tbl := List.mem_of_getElem? (i := 321) (by decide +kernel)
theorem sX5_add : Cond.selects yX5_add.cls yX5_add yX5_add ∈ lw_tbl := List.mem_of_getElem? (i := 322) (by decide +kernel)
theorem mX5_add : gmt yX5_add cX5_add 2 none 1 := ⟨List.mem_of_getElem? (i := 323) (by decide +kernel), List.mem_of_getElem? (i := 37) (by decide +kernel), ⟨by decide, by decide⟩, by decide +kernel, by decide⟩
theorem kL_32 : glk RL 32 yX8_wipe := Or.inl (List.mem_of_getElem? (i := 324) (by decide +kernel))
theorem iX8_wipe : Cond.instanceMethod yX8_wipe ∈ lw_tbl := List.mem_of_getElem? (i := 325) (by decide +kernel)
theorem sX8_wipe : Cond.selects yX8_wipe.cls yX8_wipe yX8_wipe ∈ lw_tbl := List.mem_of_getElem? (i := 326) (by decide +kernel)
theorem mX8_wipe : gmt yX8_wipe cX8_wipe 2 (some .int) 0 := ⟨List.mem_of_getElem? (i := 327) (by decide +kernel), List.mem_of_getElem? (i := 34) (by decide +kernel), ⟨by decide, by decide⟩, by decide +kernel, by decide⟩
theorem kL_37 : glk RL 37 yX8_fault := Or.inl (List.mem_of_getElem? (i := 328) (by decide +kernel))
theorem iX8_fault : Cond.instanceMethod yX8_fault ∈ lw_tbl := List.mem_of_getElem? (i := 329) (by decide +kernel)
theorem sX8_fault : Cond.selects yX8_fault.cls yX8_fault yX8_fault ∈ lw_tbl := List.mem_of_getElem? (i := 330) (by decide +kernel)
theorem mX8_fault : gmt yX8_fault cX8_fault 1 (some .int) 0 := ⟨List.mem_of_getElem? (i := 331) (by decide +kernel), List.mem_of_getElem? (i := 34) (by decide +kernel), ⟨by decide, by decide⟩, by decide +kernel, by decide⟩
theorem kX8_97 : glk RX8 97 yX5_firstFault := Or.inl (List.mem_of_getElem? (i := 332) (by decide +kernel))
theorem iX5_firstFault : Cond.instanceMethod yX5_firstFault ∈ lw_tbl := List.mem_of_getElem? (i := 333) (by decide +kernel)
theorem sX5_firstFault : Cond.selects yX5_firstFault.cls yX5_firstFault yX5_firstFault ∈ lw_tbl := List.mem_of_getElem? (i := 334) (by decide +kernel)
theorem mX5_firstFault : gmt yX5_firstFault cX5_firstFault 3 (some .int) 0 := ⟨List.mem_of_getElem? (i := 335) (by decide +kernel), List.mem_of_getElem? (i := 37) (by decide +kernel), ⟨by decide, by decide⟩, by decide +kernel, by decide⟩
theorem kX5_19 : glk RX5 19 yX5_awaitedBehind := Or.inl (List.mem_of_getElem? (i := 336) (by decide +kernel))
theorem tX5_awaitedBehind : Cond.static yX5_awaitedBehind ∈ lw_tbl := List.mem_of_getElem? (i := 337) (by decide +kernel)
theorem mX5_awaitedBehind : gmt yX5_awaitedBehind cX5_awaitedBehind 2 (some .int) 2 := ⟨List.mem_of_getElem? (i := 338) (by decide +kernel), List.mem_of_getElem? (i := 37) (by decide +kernel), ⟨by decide, by decide⟩, by decide +kernel, by decide⟩
theorem kX5_23 : glk RX5 23 yX5_isLetter := Or.inl (List.mem_of_getElem? (i := 339) (by decide +kernel))
theorem tX5_isLetter : Cond.static yX5_isLetter ∈ lw_tbl := List.mem_of_getElem? (i := 340) (by decide +kernel)
theorem mX5_isLetter : gmt yX5_isLetter cX5_isLetter 1 (some .boolean) 1 := ⟨List.mem_of_getElem? (i := 341) (by decide +kernel), List.mem_of_getElem? (i := 37) (by decide +kernel), ⟨by decide, by decide⟩, by decide +kernel, by decide⟩
theorem kX5_34 : glk RX5 34 yX8_isIn := Or.inr ⟨"SignedSheets", List.mem_of_getElem? (i := 342) (by decide +kernel)⟩
theorem kX5_27 : glk RX5 27 yX5_awaitedBehindDeed := Or.inl (List.mem_of_getElem? (i := 343) (by decide +kernel))
theorem tX5_awaitedBehindDeed : Cond.static yX5_awaitedBehindDeed ∈ lw_tbl := List.mem_of_getElem? (i := 344) (by decide +kernel)
theorem mX5_awaitedBehindDeed : gmt yX5_awaitedBehindDeed cX5_awaitedBehindDeed 1 (some .int) 1 := ⟨List.mem_of_getElem? (i := 345) (by decide +kernel), List.mem_of_getElem? (i := 37) (by decide +kernel), ⟨by decide, by decide⟩, by decide +kernel, by decide⟩
theorem kX5_31 : glk RX5 31 yX5_isDigit := Or.inl (List.mem_of_getElem? (i := 346) (by decide +kernel))
theorem tX5_isDigit : Cond.static yX5_isDigit ∈ lw_tbl := List.mem_of_getElem? (i := 347) (by decide +kernel)
theorem mX5_isDigit : gmt yX5_isDigit cX5_isDigit 1 (some .boolean) 1 := ⟨List.mem_of_getElem? (i := 348) (by decide +kernel), List.mem_of_getElem? (i := 37) (by decide +kernel), ⟨by decide, by decide⟩, by decide +kernel, by decide⟩
theorem kL_41 : glk RL 41 yX8_judge := Or.inl (List.mem_of_getElem? (i := 349) (by decide +kernel))
theorem iX8_judge : Cond.instanceMethod yX8_judge ∈ lw_tbl := List.mem_of_getElem? (i := 350) (by decide +kernel)
theorem sX8_judge : Cond.selects yX8_judge.cls yX8_judge yX8_judge ∈ lw_tbl := List.mem_of_getElem? (i := 351) (by decide +kernel)
theorem mX8_judge : gmt yX8_judge cX8_judge 2 (some .int) 1 := ⟨List.mem_of_getElem? (i := 352) (by decide +kernel), List.mem_of_getElem? (i := 34) (by decide +kernel), ⟨by decide, by decide⟩, by decide +kernel, by decide⟩
theorem kX8_100 : glk RX8 100 yX2_tell := Or.inl (List.mem_of_getElem? (i := 353) (by decide +kernel))
theorem iX2_tell : Cond.instanceMethod yX2_tell ∈ lw_tbl := List.mem_of_getElem? (i := 354) (by decide +kernel)
theorem sX2_tell : Cond.selects yX2_tell.cls yX2_tell yX2_tell ∈ lw_tbl := List.mem_of_getElem? (i := 355) (by decide +kernel)
theorem mX2_tell : gmt yX2_tell cX2_tell 5 none 2 := ⟨List.mem_of_getElem? (i := 356) (by decide +kernel), List.mem_of_getElem? (i := 38) (by decide +kernel), ⟨by decide, by decide⟩, by decide +kernel, by decide⟩
theorem kX2_25 : glk RX2 25 yX1_copyFrom := Or.inl (List.mem_of_getElem? (i := 357) (by decide +kernel))
theorem iX1_copyFrom : Cond.instanceMethod yX1_copyFrom ∈ lw_tbl := List.mem_of_getElem? (i := 358) (by decide +kernel)
theorem sX1_copyFrom : Cond.selects yX1_copyFrom.cls yX1_copyFrom yX1_copyFrom ∈ lw_tbl := List.mem_of_getElem? (i := 359) (by decide +kernel)
theorem mX1_copyFrom : gmt yX1_copyFrom cX1_copyFrom 2 none 1 := ⟨List.mem_of_getElem? (i := 360) (by decide +kernel), List.mem_of_getElem? (i := 36) (by decide +kernel), ⟨by decide, by decide⟩, by decide +kernel, by decide⟩
theorem kX1_44 : Cond.methodLink RX1 44 arraycopyName ∈ lw_tbl := List.mem_of_getElem? (i := 361) (by decide +kernel)
theorem tcopy : Cond.static arraycopyName ∈ lw_tbl := List.mem_of_getElem? (i := 362) (by decide +kernel)
theorem kX2_50 : glk RX2 50 yX0_read := Or.inl (List.mem_of_getElem? (i := 364) (by decide +kernel))
theorem iX0_read : Cond.instanceMethod yX0_read ∈ lw_tbl := List.mem_of_getElem? (i := 365) (by decide +kernel)
theorem sX0_read : Cond.selects yX0_read.cls yX0_read yX0_read ∈ lw_tbl := List.mem_of_getElem? (i := 366) (by decide +kernel)
theorem mX0_read : gmt yX0_read cX0_read 3 none 2 := ⟨List.mem_of_getElem? (i := 367) (by decide +kernel), List.mem_of_getElem? (i := 39) (by decide +kernel), ⟨by decide, by decide⟩, by decide +kernel, by decide⟩
theorem kX0_9 : glk RX0 9 yX5_signAt := Or.inl (List.mem_of_getElem? (i := 368) (by decide +kernel))
theorem iX5_signAt : Cond.instanceMethod yX5_signAt ∈ lw_tbl := List.mem_of_getElem? (i := 369) (by decide +kernel)
theorem sX5_signAt : Cond.selects yX5_signAt.cls yX5_signAt yX5_signAt ∈ lw_tbl := List.mem_of_getElem? (i := 370) (by decide +kernel)
theorem mX5_signAt : gmt yX5_signAt cX5_signAt 2 (some .int) 1 := ⟨List.mem_of_getElem? (i := 371) (by decide +kernel), List.mem_of_getElem? (i := 37) (by decide +kernel), ⟨by decide, by decide⟩, by decide +kernel, by decide⟩
theorem kX0_33 : glk RX0 33 yX5_isDigit := Or.inl (List.mem_of_getElem? (i := 372) (by decide +kernel))
theorem kX2_57 : glk RX2 57 yX2_tellAct := Or.inl (List.mem_of_getElem? (i := 373) (by decide +kernel))
theorem iX2_tellAct : Cond.instanceMethod yX2_tellAct ∈ lw_tbl := List.mem_of_getElem? (i := 375) (by decide +kernel)
theorem mX2_tellAct : gmt yX2_tellAct cX2_tellAct 3 none 0 := ⟨List.mem_of_getElem? (i := 376) (by decide +kernel), List.mem_of_getElem? (i := 38) (by decide +kernel), ⟨by decide, by decide⟩, by decide +kernel, by decide⟩
theorem kX2_60 : glk RX2 60 yX0_obstacle := Or.inl (List.mem_of_getElem? (i := 377) (by decide +kernel))
theorem iX0_obstacle : Cond.instanceMethod yX0_obstacle ∈ lw_tbl := List.mem_of_getElem? (i := 378) (by decide +kernel)
theorem sX0_obstacle : Cond.selects yX0_obstacle.cls yX0_obstacle yX0_obstacle ∈ lw_tbl := List.mem_of_getElem? (i := 379) (by decide +kernel)
theorem mX0_obstacle : gmt yX0_obstacle cX0_obstacle 2 (some .int) 1 := ⟨List.mem_of_getElem? (i := 380) (by decide +kernel), List.mem_of_getElem? (i := 39) (by decide +kernel), ⟨by decide, by decide⟩, by decide +kernel, by decide⟩
theorem kX0_42 : glk RX0 42 yX1_has := Or.inl (List.mem_of_getElem? (i := 381) (by decide +kernel))
theorem kX0_45 : glk RX0 45 yX0_isOfTwo := Or.inl (List.mem_of_getElem? (i := 382) (by decide +kernel))
theorem iX0_isOfTwo : Cond.instanceMethod yX0_isOfTwo ∈ lw_tbl := List.mem_of_getElem? (i := 383) (by decide +kernel)
theorem sX0_isOfTwo : Cond.selects yX0_isOfTwo.cls yX0_isOfTwo yX0_isOfTwo ∈ lw_tbl := List.mem_of_getElem? (i := 384) (by decide +kernel)
theorem mX0_isOfTwo : gmt yX0_isOfTwo cX0_isOfTwo 1 (some .boolean) 0 := ⟨List.mem_of_getElem? (i := 385) (by decide +kernel), List.mem_of_getElem? (i := 39) (by decide +kernel), ⟨by decide, by decide⟩, by decide +kernel, by decide⟩
theorem kX0_53 : glk RX0 53 yX0_sheetsNeeded := Or.inl (List.mem_of_getElem? (i := 386) (by decide +kernel))
theorem iX0_sheetsNeeded : Cond.instanceMethod yX0_sheetsNeeded ∈ lw_tbl := List.mem_of_getElem? (i := 387) (by decide +kernel)
theorem sX0_sheetsNeeded : Cond.selects yX0_sheetsNeeded.cls yX0_sheetsNeeded yX0_sheetsNeeded ∈ lw_tbl := List.mem_of_getElem? (i := 388) (by decide +kernel)
theorem mX0_sheetsNeeded : gmt yX0_sheetsNeeded cX0_sheetsNeeded 1 (some .int) 0 := ⟨List.mem_of_getElem? (i := 389) (by decide +kernel), List.mem_of_getElem? (i := 39) (by decide +kernel), ⟨by decide, by decide⟩, by decide +kernel, by decide⟩
theorem kX0_57 : glk RX0 57 yX1_debt := Or.inl (List.mem_of_getElem? (i := 390) (by decide +kernel))
theorem iX1_debt : Cond.instanceMethod yX1_debt ∈ lw_tbl := List.mem_of_getElem? (i := 391) (by decide +kernel)
theorem sX1_debt : Cond.selects yX1_debt.cls yX1_debt yX1_debt ∈ lw_tbl := List.mem_of_getElem? (i := 392) (by decide +kernel)
theorem mX1_debt : gmt yX1_debt cX1_debt 3 (some .int) 2 := ⟨List.mem_of_getElem? (i := 393) (by decide +kernel), List.mem_of_getElem? (i := 36) (by decide +kernel), ⟨by decide, by decide⟩, by decide +kernel, by decide⟩
theorem kX2_64 : glk RX2 64 yX1_bare := Or.inl (List.mem_of_getElem? (i := 394) (by decide +kernel))
theorem iX1_bare : Cond.instanceMethod yX1_bare ∈ lw_tbl := List.mem_of_getElem? (i := 395) (by decide +kernel)
theorem sX1_bare : Cond.selects yX1_bare.cls yX1_bare yX1_bare ∈ lw_tbl := List.mem_of_getElem? (i := 396) (by decide +kernel)
theorem mX1_bare : gmt yX1_bare cX1_bare 3 (some .int) 0 := ⟨List.mem_of_getElem? (i := 397) (by decide +kernel), List.mem_of_getElem? (i := 36) (by decide +kernel), ⟨by decide, by decide⟩, by decide +kernel, by decide⟩
theorem kX1_63 : glk RX1 63 yX1_has := Or.inl (List.mem_of_getElem? (i := 398) (by decide +kernel))
theorem kX2_68 : glk RX2 68 yX0_apply := Or.inl (List.mem_of_getElem? (i := 399) (by decide +kernel))
theorem iX0_apply : Cond.instanceMethod yX0_apply ∈ lw_tbl := List.mem_of_getElem? (i := 400) (by decide +kernel)
theorem sX0_apply : Cond.selects yX0_apply.cls yX0_apply yX0_apply ∈ lw_tbl := List.mem_of_getElem? (i := 401) (by decide +kernel)
theorem mX0_apply : gmt yX0_apply cX0_apply 2 none 1 := ⟨List.mem_of_getElem? (i := 402) (by decide +kernel), List.mem_of_getElem? (i := 39) (by decide +kernel), ⟨by decide, by decide⟩, by decide +kernel, by decide⟩
theorem kX0_61 : glk RX0 61 yX1_signAct := Or.inl (List.mem_of_getElem? (i := 403) (by decide +kernel))
theorem iX1_signAct : Cond.instanceMethod yX1_signAct ∈ lw_tbl := List.mem_of_getElem? (i := 404) (by decide +kernel)
theorem sX1_signAct : Cond.selects yX1_signAct.cls yX1_signAct yX1_signAct ∈ lw_tbl := List.mem_of_getElem? (i := 405) (by decide +kernel)
theorem mX1_signAct : gmt yX1_signAct cX1_signAct 3 none 2 := ⟨List.mem_of_getElem? (i := 406) (by decide +kernel), List.mem_of_getElem? (i := 36) (by decide +kernel), ⟨by decide, by decide⟩, by decide +kernel, by decide⟩
theorem kX1_54 : glk RX1 54 yX1_earn := Or.inl (List.mem_of_getElem? (i := 407) (by decide +kernel))
theorem iX1_earn : Cond.instanceMethod yX1_earn ∈ lw_tbl := List.mem_of_getElem? (i := 408) (by decide +kernel)
theorem sX1_earn : Cond.selects yX1_earn.cls yX1_earn yX1_earn ∈ lw_tbl := List.mem_of_getElem? (i := 409) (by decide +kernel)
theorem mX1_earn : gmt yX1_earn cX1_earn 3 none 2 := ⟨List.mem_of_getElem? (i := 410) (by decide +kernel), List.mem_of_getElem? (i := 36) (by decide +kernel), ⟨by decide, by decide⟩, by decide +kernel, by decide⟩
theorem kX1_58 : glk RX1 58 yJ9_min_7cf53 := Or.inl (List.mem_of_getElem? (i := 411) (by decide +kernel))
theorem tJ9_min_7cf53 : Cond.static yJ9_min_7cf53 ∈ lw_tbl := List.mem_of_getElem? (i := 412) (by decide +kernel)
theorem mJ9_min_7cf53 : gmt yJ9_min_7cf53 cJ9_min_7cf53 2 (some .int) 2 := ⟨List.mem_of_getElem? (i := 413) (by decide +kernel), List.mem_of_getElem? (i := 46) (by decide +kernel), ⟨by decide, by decide⟩, by decide +kernel, by decide⟩
theorem kX0_65 : glk RX0 65 yX1_forgeAct := Or.inl (List.mem_of_getElem? (i := 414) (by decide +kernel))
theorem iX1_forgeAct : Cond.instanceMethod yX1_forgeAct ∈ lw_tbl := List.mem_of_getElem? (i := 415) (by decide +kernel)
theorem sX1_forgeAct : Cond.selects yX1_forgeAct.cls yX1_forgeAct yX1_forgeAct ∈ lw_tbl := List.mem_of_getElem? (i := 416) (by decide +kernel)
theorem mX1_forgeAct : gmt yX1_forgeAct cX1_forgeAct 3 none 2 := ⟨List.mem_of_getElem? (i := 417) (by decide +kernel), List.mem_of_getElem? (i := 36) (by decide +kernel), ⟨by decide, by decide⟩, by decide +kernel, by decide⟩
theorem kX0_68 : glk RX0 68 yX1_move := Or.inl (List.mem_of_getElem? (i := 418) (by decide +kernel))
theorem iX1_move : Cond.instanceMethod yX1_move ∈ lw_tbl := List.mem_of_getElem? (i := 419) (by decide +kernel)
theorem sX1_move : Cond.selects yX1_move.cls yX1_move yX1_move ∈ lw_tbl := List.mem_of_getElem? (i := 420) (by decide +kernel)
theorem mX1_move : gmt yX1_move cX1_move 4 none 3 := ⟨List.mem_of_getElem? (i := 421) (by decide +kernel), List.mem_of_getElem? (i := 36) (by decide +kernel), ⟨by decide, by decide⟩, by decide +kernel, by decide⟩
theorem kX0_72 : glk RX0 72 yX1_owe := Or.inl (List.mem_of_getElem? (i := 422) (by decide +kernel))
theorem iX1_owe : Cond.instanceMethod yX1_owe ∈ lw_tbl := List.mem_of_getElem? (i := 423) (by decide +kernel)
theorem sX1_owe : Cond.selects yX1_owe.cls yX1_owe yX1_owe ∈ lw_tbl := List.mem_of_getElem? (i := 424) (by decide +kernel)
theorem mX1_owe : gmt yX1_owe cX1_owe 4 none 3 := ⟨List.mem_of_getElem? (i := 425) (by decide +kernel), List.mem_of_getElem? (i := 36) (by decide +kernel), ⟨by decide, by decide⟩, by decide +kernel, by decide⟩
theorem kL_45 : glk RL 45 yX8_done := Or.inl (List.mem_of_getElem? (i := 426) (by decide +kernel))
theorem iX8_done : Cond.instanceMethod yX8_done ∈ lw_tbl := List.mem_of_getElem? (i := 427) (by decide +kernel)
theorem sX8_done : Cond.selects yX8_done.cls yX8_done yX8_done ∈ lw_tbl := List.mem_of_getElem? (i := 428) (by decide +kernel)
theorem mX8_done : gmt yX8_done cX8_done 1 (some .int) 0 := ⟨List.mem_of_getElem? (i := 429) (by decide +kernel), List.mem_of_getElem? (i := 34) (by decide +kernel), ⟨by decide, by decide⟩, by decide +kernel, by decide⟩
theorem kX8_110 : glk RX8 110 yX8_allCanBe := Or.inl (List.mem_of_getElem? (i := 430) (by decide +kernel))
theorem iX8_allCanBe : Cond.instanceMethod yX8_allCanBe ∈ lw_tbl := List.mem_of_getElem? (i := 432) (by decide +kernel)
theorem mX8_allCanBe : gmt yX8_allCanBe cX8_allCanBe 1 (some .boolean) 0 := ⟨List.mem_of_getElem? (i := 433) (by decide +kernel), List.mem_of_getElem? (i := 34) (by decide +kernel), ⟨by decide, by decide⟩, by decide +kernel, by decide⟩
theorem kX8_117 : glk RX8 117 yX1_copyFrom := Or.inl (List.mem_of_getElem? (i := 434) (by decide +kernel))
theorem kL_49 : glk RL 49 yX8_state := Or.inl (List.mem_of_getElem? (i := 435) (by decide +kernel))
theorem iX8_state : Cond.instanceMethod yX8_state ∈ lw_tbl := List.mem_of_getElem? (i := 436) (by decide +kernel)
theorem sX8_state : Cond.selects yX8_state.cls yX8_state yX8_state ∈ lw_tbl := List.mem_of_getElem? (i := 437) (by decide +kernel)
theorem mX8_state : gmt yX8_state cX8_state 3 (some .int) 2 := ⟨List.mem_of_getElem? (i := 438) (by decide +kernel), List.mem_of_getElem? (i := 34) (by decide +kernel), ⟨by decide, by decide⟩, by decide +kernel, by decide⟩
theorem kX8_124 : glk RX8 124 yX1_holding := Or.inl (List.mem_of_getElem? (i := 439) (by decide +kernel))
theorem iX1_holding : Cond.instanceMethod yX1_holding ∈ lw_tbl := List.mem_of_getElem? (i := 440) (by decide +kernel)
theorem sX1_holding : Cond.selects yX1_holding.cls yX1_holding yX1_holding ∈ lw_tbl := List.mem_of_getElem? (i := 441) (by decide +kernel)
theorem mX1_holding : gmt yX1_holding cX1_holding 3 (some .int) 2 := ⟨List.mem_of_getElem? (i := 442) (by decide +kernel), List.mem_of_getElem? (i := 36) (by decide +kernel), ⟨by decide, by decide⟩, by decide +kernel, by decide⟩
theorem kL_53 : glk RL 53 yX8_behind := Or.inl (List.mem_of_getElem? (i := 443) (by decide +kernel))
theorem iX8_behind : Cond.instanceMethod yX8_behind ∈ lw_tbl := List.mem_of_getElem? (i := 444) (by decide +kernel)
theorem sX8_behind : Cond.selects yX8_behind.cls yX8_behind yX8_behind ∈ lw_tbl := List.mem_of_getElem? (i := 445) (by decide +kernel)
theorem mX8_behind : gmt yX8_behind cX8_behind 3 (some .int) 2 := ⟨List.mem_of_getElem? (i := 446) (by decide +kernel), List.mem_of_getElem? (i := 34) (by decide +kernel), ⟨by decide, by decide⟩, by decide +kernel, by decide⟩
theorem kL_57 : glk RL 57 yX8_acts := Or.inl (List.mem_of_getElem? (i := 447) (by decide +kernel))
theorem iX8_acts : Cond.instanceMethod yX8_acts ∈ lw_tbl := List.mem_of_getElem? (i := 448) (by decide +kernel)
theorem sX8_acts : Cond.selects yX8_acts.cls yX8_acts yX8_acts ∈ lw_tbl := List.mem_of_getElem? (i := 449) (by decide +kernel)
theorem mX8_acts : gmt yX8_acts cX8_acts 2 (some .int) 1 := ⟨List.mem_of_getElem? (i := 450) (by decide +kernel), List.mem_of_getElem? (i := 34) (by decide +kernel), ⟨by decide, by decide⟩, by decide +kernel, by decide⟩
theorem kL_61 : glk RL 61 yX8_owes := Or.inl (List.mem_of_getElem? (i := 451) (by decide +kernel))
theorem iX8_owes : Cond.instanceMethod yX8_owes ∈ lw_tbl := List.mem_of_getElem? (i := 452) (by decide +kernel)
theorem sX8_owes : Cond.selects yX8_owes.cls yX8_owes yX8_owes ∈ lw_tbl := List.mem_of_getElem? (i := 453) (by decide +kernel)
theorem mX8_owes : gmt yX8_owes cX8_owes 3 (some .int) 2 := ⟨List.mem_of_getElem? (i := 454) (by decide +kernel), List.mem_of_getElem? (i := 34) (by decide +kernel), ⟨by decide, by decide⟩, by decide +kernel, by decide⟩
theorem kX8_134 : glk RX8 134 yX1_debt := Or.inl (List.mem_of_getElem? (i := 455) (by decide +kernel))
theorem kL_65 : glk RL 65 yX8_who := Or.inl (List.mem_of_getElem? (i := 456) (by decide +kernel))
theorem iX8_who : Cond.instanceMethod yX8_who ∈ lw_tbl := List.mem_of_getElem? (i := 457) (by decide +kernel)
theorem sX8_who : Cond.selects yX8_who.cls yX8_who yX8_who ∈ lw_tbl := List.mem_of_getElem? (i := 458) (by decide +kernel)
theorem mX8_who : gmt yX8_who cX8_who 2 (some .int) 1 := ⟨List.mem_of_getElem? (i := 459) (by decide +kernel), List.mem_of_getElem? (i := 34) (by decide +kernel), ⟨by decide, by decide⟩, by decide +kernel, by decide⟩
theorem kX8_137 : glk RX8 137 yX1_richest := Or.inl (List.mem_of_getElem? (i := 460) (by decide +kernel))
theorem iX1_richest : Cond.instanceMethod yX1_richest ∈ lw_tbl := List.mem_of_getElem? (i := 461) (by decide +kernel)
theorem sX1_richest : Cond.selects yX1_richest.cls yX1_richest yX1_richest ∈ lw_tbl := List.mem_of_getElem? (i := 462) (by decide +kernel)
theorem mX1_richest : gmt yX1_richest cX1_richest 4 (some .int) 0 := ⟨List.mem_of_getElem? (i := 463) (by decide +kernel), List.mem_of_getElem? (i := 36) (by decide +kernel), ⟨by decide, by decide⟩, by decide +kernel, by decide⟩
theorem kX8_140 : glk RX8 140 yX1_honest := Or.inl (List.mem_of_getElem? (i := 464) (by decide +kernel))
theorem iX1_honest : Cond.instanceMethod yX1_honest ∈ lw_tbl := List.mem_of_getElem? (i := 465) (by decide +kernel)
theorem sX1_honest : Cond.selects yX1_honest.cls yX1_honest yX1_honest ∈ lw_tbl := List.mem_of_getElem? (i := 466) (by decide +kernel)
theorem mX1_honest : gmt yX1_honest cX1_honest 3 (some .int) 0 := ⟨List.mem_of_getElem? (i := 467) (by decide +kernel), List.mem_of_getElem? (i := 36) (by decide +kernel), ⟨by decide, by decide⟩, by decide +kernel, by decide⟩
theorem kL_69 : glk RL 69 yX8_best := Or.inl (List.mem_of_getElem? (i := 468) (by decide +kernel))
theorem iX8_best : Cond.instanceMethod yX8_best ∈ lw_tbl := List.mem_of_getElem? (i := 469) (by decide +kernel)
theorem sX8_best : Cond.selects yX8_best.cls yX8_best yX8_best ∈ lw_tbl := List.mem_of_getElem? (i := 470) (by decide +kernel)
theorem mX8_best : gmt yX8_best cX8_best 4 (some .long) 3 := ⟨List.mem_of_getElem? (i := 471) (by decide +kernel), List.mem_of_getElem? (i := 34) (by decide +kernel), ⟨by decide, by decide⟩, by decide +kernel, by decide⟩
theorem kX8_143 : glk RX8 143 yX8_isPlan := Or.inl (List.mem_of_getElem? (i := 472) (by decide +kernel))
theorem tX8_isPlan : Cond.static yX8_isPlan ∈ lw_tbl := List.mem_of_getElem? (i := 473) (by decide +kernel)
theorem mX8_isPlan : gmt yX8_isPlan cX8_isPlan 2 (some .boolean) 2 := ⟨List.mem_of_getElem? (i := 474) (by decide +kernel), List.mem_of_getElem? (i := 34) (by decide +kernel), ⟨by decide, by decide⟩, by decide +kernel, by decide⟩
theorem nX8_147 : Cond.constantLong RX8 147 (-1000000000000000002) ∈ lw_tbl := List.mem_of_getElem? (i := 475) (by decide +kernel)
theorem kX8_149 : glk RX8 149 yX6_learn := Or.inl (List.mem_of_getElem? (i := 476) (by decide +kernel))
theorem iX6_learn : Cond.instanceMethod yX6_learn ∈ lw_tbl := List.mem_of_getElem? (i := 477) (by decide +kernel)
theorem sX6_learn : Cond.selects yX6_learn.cls yX6_learn yX6_learn ∈ lw_tbl := List.mem_of_getElem? (i := 478) (by decide +kernel)
theorem mX6_learn : gmt yX6_learn cX6_learn 5 none 1 := ⟨List.mem_of_getElem? (i := 479) (by decide +kernel), List.mem_of_getElem? (i := 40) (by decide +kernel), ⟨by decide, by decide⟩, by decide +kernel, by decide⟩
theorem kX6_22 : glk RX6 22 yX7_weightOfAll := Or.inl (List.mem_of_getElem? (i := 480) (by decide +kernel))
theorem kX6_32 : glk RX6 32 yX6_meanOfBetter := Or.inl (List.mem_of_getElem? (i := 481) (by decide +kernel))
theorem iX6_meanOfBetter : Cond.instanceMethod yX6_meanOfBetter ∈ lw_tbl := List.mem_of_getElem? (i := 483) (by decide +kernel)
theorem mX6_meanOfBetter : gmt yX6_meanOfBetter cX6_meanOfBetter 7 (some .long) 3 := ⟨List.mem_of_getElem? (i := 484) (by decide +kernel), List.mem_of_getElem? (i := 40) (by decide +kernel), ⟨by decide, by decide⟩, by decide +kernel, by decide⟩
theorem kX6_36 : glk RX6 36 yX6_value := Or.inl (List.mem_of_getElem? (i := 485) (by decide +kernel))
theorem iX6_value : Cond.instanceMethod yX6_value ∈ lw_tbl := List.mem_of_getElem? (i := 486) (by decide +kernel)
theorem sX6_value : Cond.selects yX6_value.cls yX6_value yX6_value ∈ lw_tbl := List.mem_of_getElem? (i := 487) (by decide +kernel)
theorem mX6_value : gmt yX6_value cX6_value 3 (some .long) 2 := ⟨List.mem_of_getElem? (i := 488) (by decide +kernel), List.mem_of_getElem? (i := 40) (by decide +kernel), ⟨by decide, by decide⟩, by decide +kernel, by decide⟩
theorem kX6_40 : glk RX6 40 yX6_valueOfSigning := Or.inl (List.mem_of_getElem? (i := 489) (by decide +kernel))
theorem iX6_valueOfSigning : Cond.instanceMethod yX6_valueOfSigning ∈ lw_tbl := List.mem_of_getElem? (i := 491) (by decide +kernel)
theorem mX6_valueOfSigning : gmt yX6_valueOfSigning cX6_valueOfSigning 4 (some .long) 3 := ⟨List.mem_of_getElem? (i := 492) (by decide +kernel), List.mem_of_getElem? (i := 40) (by decide +kernel), ⟨by decide, by decide⟩, by decide +kernel, by decide⟩
theorem kX6_44 : glk RX6 44 yJ9_max_f86c9 := Or.inl (List.mem_of_getElem? (i := 493) (by decide +kernel))
theorem tJ9_max_f86c9 : Cond.static yJ9_max_f86c9 ∈ lw_tbl := List.mem_of_getElem? (i := 494) (by decide +kernel)
theorem mJ9_max_f86c9 : gmt yJ9_max_f86c9 cJ9_max_f86c9 4 (some .long) 2 := ⟨List.mem_of_getElem? (i := 495) (by decide +kernel), List.mem_of_getElem? (i := 46) (by decide +kernel), ⟨by decide, by decide⟩, by decide +kernel, by decide⟩
theorem kX8_153 : glk RX8 153 yX6_value := Or.inl (List.mem_of_getElem? (i := 496) (by decide +kernel))
theorem kX8_157 : glk RX8 157 yX6_scale := Or.inl (List.mem_of_getElem? (i := 497) (by decide +kernel))
theorem iX6_scale : Cond.instanceMethod yX6_scale ∈ lw_tbl := List.mem_of_getElem? (i := 498) (by decide +kernel)
theorem sX6_scale : Cond.selects yX6_scale.cls yX6_scale yX6_scale ∈ lw_tbl := List.mem_of_getElem? (i := 499) (by decide +kernel)
theorem mX6_scale : gmt yX6_scale cX6_scale 2 (some .long) 1 := ⟨List.mem_of_getElem? (i := 500) (by decide +kernel), List.mem_of_getElem? (i := 40) (by decide +kernel), ⟨by decide, by decide⟩, by decide +kernel, by decide⟩
theorem kX8_161 : glk RX8 161 yX8_fractionPart := Or.inl (List.mem_of_getElem? (i := 501) (by decide +kernel))
theorem tX8_fractionPart : Cond.static yX8_fractionPart ∈ lw_tbl := List.mem_of_getElem? (i := 502) (by decide +kernel)
theorem mX8_fractionPart : gmt yX8_fractionPart cX8_fractionPart 7 (some .long) 3 := ⟨List.mem_of_getElem? (i := 503) (by decide +kernel), List.mem_of_getElem? (i := 34) (by decide +kernel), ⟨by decide, by decide⟩, by decide +kernel, by decide⟩
theorem kX8_262 : glk RX8 262 yX8_commonDivisor := Or.inl (List.mem_of_getElem? (i := 504) (by decide +kernel))
theorem tX8_commonDivisor : Cond.static yX8_commonDivisor ∈ lw_tbl := List.mem_of_getElem? (i := 505) (by decide +kernel)
theorem mX8_commonDivisor : gmt yX8_commonDivisor cX8_commonDivisor 7 (some .long) 2 := ⟨List.mem_of_getElem? (i := 506) (by decide +kernel), List.mem_of_getElem? (i := 34) (by decide +kernel), ⟨by decide, by decide⟩, by decide +kernel, by decide⟩
theorem kX8_266 : glk RX8 266 yJ9_max_f86c9 := Or.inl (List.mem_of_getElem? (i := 507) (by decide +kernel))
theorem kL_74 : glk RL 74 yX8_least := Or.inl (List.mem_of_getElem? (i := 508) (by decide +kernel))
theorem iX8_least : Cond.instanceMethod yX8_least ∈ lw_tbl := List.mem_of_getElem? (i := 509) (by decide +kernel)
theorem sX8_least : Cond.selects yX8_least.cls yX8_least yX8_least ∈ lw_tbl := List.mem_of_getElem? (i := 510) (by decide +kernel)
theorem mX8_least : gmt yX8_least cX8_least 3 (some .int) 2 := ⟨List.mem_of_getElem? (i := 511) (by decide +kernel), List.mem_of_getElem? (i := 34) (by decide +kernel), ⟨by decide, by decide⟩, by decide +kernel, by decide⟩
theorem kX8_165 : glk RX8 165 yX6_leastToSign := Or.inl (List.mem_of_getElem? (i := 512) (by decide +kernel))
theorem iX6_leastToSign : Cond.instanceMethod yX6_leastToSign ∈ lw_tbl := List.mem_of_getElem? (i := 513) (by decide +kernel)
theorem sX6_leastToSign : Cond.selects yX6_leastToSign.cls yX6_leastToSign yX6_leastToSign ∈ lw_tbl := List.mem_of_getElem? (i := 514) (by decide +kernel)
theorem mX6_leastToSign : gmt yX6_leastToSign cX6_leastToSign 4 (some .int) 2 := ⟨List.mem_of_getElem? (i := 515) (by decide +kernel), List.mem_of_getElem? (i := 40) (by decide +kernel), ⟨by decide, by decide⟩, by decide +kernel, by decide⟩
theorem kX6_50 : glk RX6 50 yX6_isToSign := Or.inl (List.mem_of_getElem? (i := 516) (by decide +kernel))
theorem iX6_isToSign : Cond.instanceMethod yX6_isToSign ∈ lw_tbl := List.mem_of_getElem? (i := 517) (by decide +kernel)
theorem sX6_isToSign : Cond.selects yX6_isToSign.cls yX6_isToSign yX6_isToSign ∈ lw_tbl := List.mem_of_getElem? (i := 518) (by decide +kernel)
theorem mX6_isToSign : gmt yX6_isToSign cX6_isToSign 4 (some .boolean) 3 := ⟨List.mem_of_getElem? (i := 519) (by decide +kernel), List.mem_of_getElem? (i := 40) (by decide +kernel), ⟨by decide, by decide⟩, by decide +kernel, by decide⟩
theorem kL_78 : glk RL 78 yX8_price := Or.inl (List.mem_of_getElem? (i := 520) (by decide +kernel))
theorem iX8_price : Cond.instanceMethod yX8_price ∈ lw_tbl := List.mem_of_getElem? (i := 521) (by decide +kernel)
theorem sX8_price : Cond.selects yX8_price.cls yX8_price yX8_price ∈ lw_tbl := List.mem_of_getElem? (i := 522) (by decide +kernel)
theorem mX8_price : gmt yX8_price cX8_price 4 (some .long) 3 := ⟨List.mem_of_getElem? (i := 523) (by decide +kernel), List.mem_of_getElem? (i := 34) (by decide +kernel), ⟨by decide, by decide⟩, by decide +kernel, by decide⟩
theorem kL_82 : glk RL 82 yX8_last := Or.inl (List.mem_of_getElem? (i := 524) (by decide +kernel))
theorem iX8_last : Cond.instanceMethod yX8_last ∈ lw_tbl := List.mem_of_getElem? (i := 525) (by decide +kernel)
theorem sX8_last : Cond.selects yX8_last.cls yX8_last yX8_last ∈ lw_tbl := List.mem_of_getElem? (i := 526) (by decide +kernel)
theorem mX8_last : gmt yX8_last cX8_last 5 (some .long) 4 := ⟨List.mem_of_getElem? (i := 527) (by decide +kernel), List.mem_of_getElem? (i := 34) (by decide +kernel), ⟨by decide, by decide⟩, by decide +kernel, by decide⟩
theorem kX8_168 : glk RX8 168 yX8_waysOfAtMost := Or.inl (List.mem_of_getElem? (i := 528) (by decide +kernel))
theorem tX8_waysOfAtMost : Cond.static yX8_waysOfAtMost ∈ lw_tbl := List.mem_of_getElem? (i := 529) (by decide +kernel)
theorem mX8_waysOfAtMost : gmt yX8_waysOfAtMost cX8_waysOfAtMost 8 (some .long) 3 := ⟨List.mem_of_getElem? (i := 530) (by decide +kernel), List.mem_of_getElem? (i := 34) (by decide +kernel), ⟨by decide, by decide⟩, by decide +kernel, by decide⟩
theorem kX8_172 : glk RX8 172 yX8_power := Or.inl (List.mem_of_getElem? (i := 531) (by decide +kernel))
theorem tX8_power : Cond.static yX8_power ∈ lw_tbl := List.mem_of_getElem? (i := 532) (by decide +kernel)
theorem mX8_power : gmt yX8_power cX8_power 5 (some .long) 2 := ⟨List.mem_of_getElem? (i := 533) (by decide +kernel), List.mem_of_getElem? (i := 34) (by decide +kernel), ⟨by decide, by decide⟩, by decide +kernel, by decide⟩
theorem kL_87 : glk RL 87 yX8_netted := Or.inl (List.mem_of_getElem? (i := 534) (by decide +kernel))
theorem iX8_netted : Cond.instanceMethod yX8_netted ∈ lw_tbl := List.mem_of_getElem? (i := 535) (by decide +kernel)
theorem sX8_netted : Cond.selects yX8_netted.cls yX8_netted yX8_netted ∈ lw_tbl := List.mem_of_getElem? (i := 536) (by decide +kernel)
theorem mX8_netted : gmt yX8_netted cX8_netted 2 (some .int) 1 := ⟨List.mem_of_getElem? (i := 537) (by decide +kernel), List.mem_of_getElem? (i := 34) (by decide +kernel), ⟨by decide, by decide⟩, by decide +kernel, by decide⟩
theorem kX8_175 : glk RX8 175 yX1_net := Or.inl (List.mem_of_getElem? (i := 538) (by decide +kernel))
theorem iX1_net : Cond.instanceMethod yX1_net ∈ lw_tbl := List.mem_of_getElem? (i := 539) (by decide +kernel)
theorem sX1_net : Cond.selects yX1_net.cls yX1_net yX1_net ∈ lw_tbl := List.mem_of_getElem? (i := 540) (by decide +kernel)
theorem mX1_net : gmt yX1_net cX1_net 4 (some .int) 1 := ⟨List.mem_of_getElem? (i := 541) (by decide +kernel), List.mem_of_getElem? (i := 36) (by decide +kernel), ⟨by decide, by decide⟩, by decide +kernel, by decide⟩
theorem kX1_50 : glk RX1 50 yX1_debt := Or.inl (List.mem_of_getElem? (i := 542) (by decide +kernel))
theorem kL_91 : glk RL 91 yX8_hands := Or.inl (List.mem_of_getElem? (i := 543) (by decide +kernel))
theorem iX8_hands : Cond.instanceMethod yX8_hands ∈ lw_tbl := List.mem_of_getElem? (i := 544) (by decide +kernel)
theorem sX8_hands : Cond.selects yX8_hands.cls yX8_hands yX8_hands ∈ lw_tbl := List.mem_of_getElem? (i := 545) (by decide +kernel)
theorem mX8_hands : gmt yX8_hands cX8_hands 1 (some .int) 0 := ⟨List.mem_of_getElem? (i := 546) (by decide +kernel), List.mem_of_getElem? (i := 34) (by decide +kernel), ⟨by decide, by decide⟩, by decide +kernel, by decide⟩
theorem kX8_179 : glk RX8 179 yX4_fewestHands := Or.inl (List.mem_of_getElem? (i := 547) (by decide +kernel))
theorem iX4_fewestHands : Cond.instanceMethod yX4_fewestHands ∈ lw_tbl := List.mem_of_getElem? (i := 548) (by decide +kernel)
theorem sX4_fewestHands : Cond.selects yX4_fewestHands.cls yX4_fewestHands yX4_fewestHands ∈ lw_tbl := List.mem_of_getElem? (i := 549) (by decide +kernel)
theorem mX4_fewestHands : gmt yX4_fewestHands cX4_fewestHands 4 (some .int) 1 := ⟨List.mem_of_getElem? (i := 550) (by decide +kernel), List.mem_of_getElem? (i := 42) (by decide +kernel), ⟨by decide, by decide⟩, by decide +kernel, by decide⟩
theorem kX4_18 : glk RX4 18 yJ6_numberOfTrailingZeros_0f7a4 := Or.inl (List.mem_of_getElem? (i := 551) (by decide +kernel))
theorem tJ6_numberOfTrailingZeros_0f7a4 : Cond.static yJ6_numberOfTrailingZeros_0f7a4 ∈ lw_tbl := List.mem_of_getElem? (i := 552) (by decide +kernel)
theorem mJ6_numberOfTrailingZeros_0f7a4 : gmt yJ6_numberOfTrailingZeros_0f7a4 cJ6_numberOfTrailingZeros_0f7a4 2 (some .int) 1 := ⟨List.mem_of_getElem? (i := 553) (by decide +kernel), List.mem_of_getElem? (i := 44) (by decide +kernel), ⟨by decide, by decide⟩, by decide +kernel, by decide⟩
theorem nJ6_264 : Cond.constant RJ6 264 (65536) ∈ lw_tbl := List.mem_of_getElem? (i := 554) (by decide +kernel)
theorem kX4_24 : glk RX4 24 yX1_net := Or.inl (List.mem_of_getElem? (i := 555) (by decide +kernel))
theorem kX4_29 : glk RX4 29 yX4_mostCirclesInside := Or.inl (List.mem_of_getElem? (i := 556) (by decide +kernel))
theorem iX4_mostCirclesInside : Cond.instanceMethod yX4_mostCirclesInside ∈ lw_tbl := List.mem_of_getElem? (i := 558) (by decide +kernel)
theorem mX4_mostCirclesInside : gmt yX4_mostCirclesInside cX4_mostCirclesInside 4 (some .int) 1 := ⟨List.mem_of_getElem? (i := 559) (by decide +kernel), List.mem_of_getElem? (i := 42) (by decide +kernel), ⟨by decide, by decide⟩, by decide +kernel, by decide⟩
theorem kX4_32 : glk RX4 32 yJ9_max_7cf53 := Or.inl (List.mem_of_getElem? (i := 560) (by decide +kernel))
theorem tJ9_max_7cf53 : Cond.static yJ9_max_7cf53 ∈ lw_tbl := List.mem_of_getElem? (i := 561) (by decide +kernel)
theorem mJ9_max_7cf53 : gmt yJ9_max_7cf53 cJ9_max_7cf53 2 (some .int) 2 := ⟨List.mem_of_getElem? (i := 562) (by decide +kernel), List.mem_of_getElem? (i := 46) (by decide +kernel), ⟨by decide, by decide⟩, by decide +kernel, by decide⟩
theorem kL_95 : glk RL 95 yX8_match := Or.inl (List.mem_of_getElem? (i := 563) (by decide +kernel))
theorem iX8_match : Cond.instanceMethod yX8_match ∈ lw_tbl := List.mem_of_getElem? (i := 564) (by decide +kernel)
theorem sX8_match : Cond.selects yX8_match.cls yX8_match yX8_match ∈ lw_tbl := List.mem_of_getElem? (i := 565) (by decide +kernel)
theorem mX8_match : gmt yX8_match cX8_match 3 (some .int) 2 := ⟨List.mem_of_getElem? (i := 566) (by decide +kernel), List.mem_of_getElem? (i := 34) (by decide +kernel), ⟨by decide, by decide⟩, by decide +kernel, by decide⟩
theorem kX8_183 : glk RX8 183 yX8_areTails := Or.inl (List.mem_of_getElem? (i := 567) (by decide +kernel))
theorem iX8_areTails : Cond.instanceMethod yX8_areTails ∈ lw_tbl := List.mem_of_getElem? (i := 569) (by decide +kernel)
theorem mX8_areTails : gmt yX8_areTails cX8_areTails 2 (some .boolean) 1 := ⟨List.mem_of_getElem? (i := 570) (by decide +kernel), List.mem_of_getElem? (i := 34) (by decide +kernel), ⟨by decide, by decide⟩, by decide +kernel, by decide⟩
theorem kX8_186 : glk RX8 186 yX3_weigh := Or.inl (List.mem_of_getElem? (i := 571) (by decide +kernel))
theorem iX3_weigh : Cond.instanceMethod yX3_weigh ∈ lw_tbl := List.mem_of_getElem? (i := 572) (by decide +kernel)
theorem sX3_weigh : Cond.selects yX3_weigh.cls yX3_weigh yX3_weigh ∈ lw_tbl := List.mem_of_getElem? (i := 573) (by decide +kernel)
theorem mX3_weigh : gmt yX3_weigh cX3_weigh 5 none 2 := ⟨List.mem_of_getElem? (i := 574) (by decide +kernel), List.mem_of_getElem? (i := 41) (by decide +kernel), ⟨by decide, by decide⟩, by decide +kernel, by decide⟩
theorem kX3_21 : glk RX3 21 yX1_count := Or.inl (List.mem_of_getElem? (i := 575) (by decide +kernel))
theorem kX3_31 : glk RX3 31 yX3_weighSet := Or.inl (List.mem_of_getElem? (i := 576) (by decide +kernel))
theorem iX3_weighSet : Cond.instanceMethod yX3_weighSet ∈ lw_tbl := List.mem_of_getElem? (i := 578) (by decide +kernel)
theorem mX3_weighSet : gmt yX3_weighSet cX3_weighSet 7 none 2 := ⟨List.mem_of_getElem? (i := 579) (by decide +kernel), List.mem_of_getElem? (i := 41) (by decide +kernel), ⟨by decide, by decide⟩, by decide +kernel, by decide⟩
theorem kX3_35 : glk RX3 35 yX3_isLeft := Or.inl (List.mem_of_getElem? (i := 580) (by decide +kernel))
theorem tX3_isLeft : Cond.static yX3_isLeft ∈ lw_tbl := List.mem_of_getElem? (i := 581) (by decide +kernel)
theorem mX3_isLeft : gmt yX3_isLeft cX3_isLeft 3 (some .boolean) 3 := ⟨List.mem_of_getElem? (i := 582) (by decide +kernel), List.mem_of_getElem? (i := 41) (by decide +kernel), ⟨by decide, by decide⟩, by decide +kernel, by decide⟩
theorem kX3_43 : glk RX3 43 yX1_has := Or.inl (List.mem_of_getElem? (i := 583) (by decide +kernel))
theorem kX3_39 : glk RX3 39 yX3_slipsWith := Or.inl (List.mem_of_getElem? (i := 584) (by decide +kernel))
theorem iX3_slipsWith : Cond.instanceMethod yX3_slipsWith ∈ lw_tbl := List.mem_of_getElem? (i := 586) (by decide +kernel)
theorem mX3_slipsWith : gmt yX3_slipsWith cX3_slipsWith 5 (some .int) 3 := ⟨List.mem_of_getElem? (i := 587) (by decide +kernel), List.mem_of_getElem? (i := 41) (by decide +kernel), ⟨by decide, by decide⟩, by decide +kernel, by decide⟩
theorem kX3_47 : glk RX3 47 yJ6_bitCount_0f7a4 := Or.inl (List.mem_of_getElem? (i := 588) (by decide +kernel))
theorem kX3_56 : glk RX3 56 yJ9_abs_0f7a4 := Or.inl (List.mem_of_getElem? (i := 589) (by decide +kernel))
theorem tJ9_abs_0f7a4 : Cond.static yJ9_abs_0f7a4 ∈ lw_tbl := List.mem_of_getElem? (i := 590) (by decide +kernel)
theorem mJ9_abs_0f7a4 : gmt yJ9_abs_0f7a4 cJ9_abs_0f7a4 1 (some .int) 1 := ⟨List.mem_of_getElem? (i := 591) (by decide +kernel), List.mem_of_getElem? (i := 46) (by decide +kernel), ⟨by decide, by decide⟩, by decide +kernel, by decide⟩
theorem kL_99 : glk RL 99 yX8_wrote := Or.inl (List.mem_of_getElem? (i := 592) (by decide +kernel))
theorem iX8_wrote : Cond.instanceMethod yX8_wrote ∈ lw_tbl := List.mem_of_getElem? (i := 593) (by decide +kernel)
theorem sX8_wrote : Cond.selects yX8_wrote.cls yX8_wrote yX8_wrote ∈ lw_tbl := List.mem_of_getElem? (i := 594) (by decide +kernel)
theorem mX8_wrote : gmt yX8_wrote cX8_wrote 3 (some .int) 2 := ⟨List.mem_of_getElem? (i := 595) (by decide +kernel), List.mem_of_getElem? (i := 34) (by decide +kernel), ⟨by decide, by decide⟩, by decide +kernel, by decide⟩
theorem kX8_196 : glk RX8 196 yX3_writerOf := Or.inl (List.mem_of_getElem? (i := 596) (by decide +kernel))
theorem iX3_writerOf : Cond.instanceMethod yX3_writerOf ∈ lw_tbl := List.mem_of_getElem? (i := 597) (by decide +kernel)
theorem sX3_writerOf : Cond.selects yX3_writerOf.cls yX3_writerOf yX3_writerOf ∈ lw_tbl := List.mem_of_getElem? (i := 598) (by decide +kernel)
theorem mX3_writerOf : gmt yX3_writerOf cX3_writerOf 6 (some .int) 2 := ⟨List.mem_of_getElem? (i := 599) (by decide +kernel), List.mem_of_getElem? (i := 41) (by decide +kernel), ⟨by decide, by decide⟩, by decide +kernel, by decide⟩
theorem kX3_61 : glk RX3 61 yX3_firstWriter := Or.inl (List.mem_of_getElem? (i := 600) (by decide +kernel))
theorem iX3_firstWriter : Cond.instanceMethod yX3_firstWriter ∈ lw_tbl := List.mem_of_getElem? (i := 602) (by decide +kernel)
theorem mX3_firstWriter : gmt yX3_firstWriter cX3_firstWriter 4 (some .int) 2 := ⟨List.mem_of_getElem? (i := 603) (by decide +kernel), List.mem_of_getElem? (i := 41) (by decide +kernel), ⟨by decide, by decide⟩, by decide +kernel, by decide⟩
theorem kL_103 : glk RL 103 yX8_compare := Or.inl (List.mem_of_getElem? (i := 604) (by decide +kernel))
theorem iX8_compare : Cond.instanceMethod yX8_compare ∈ lw_tbl := List.mem_of_getElem? (i := 605) (by decide +kernel)
theorem sX8_compare : Cond.selects yX8_compare.cls yX8_compare yX8_compare ∈ lw_tbl := List.mem_of_getElem? (i := 606) (by decide +kernel)
theorem mX8_compare : gmt yX8_compare cX8_compare 4 (some .int) 1 := ⟨List.mem_of_getElem? (i := 607) (by decide +kernel), List.mem_of_getElem? (i := 34) (by decide +kernel), ⟨by decide, by decide⟩, by decide +kernel, by decide⟩
theorem kL_107 : glk RL 107 yX8_blots := Or.inl (List.mem_of_getElem? (i := 608) (by decide +kernel))
theorem iX8_blots : Cond.instanceMethod yX8_blots ∈ lw_tbl := List.mem_of_getElem? (i := 609) (by decide +kernel)
theorem sX8_blots : Cond.selects yX8_blots.cls yX8_blots yX8_blots ∈ lw_tbl := List.mem_of_getElem? (i := 610) (by decide +kernel)
theorem mX8_blots : gmt yX8_blots cX8_blots 5 (some .long) 4 := ⟨List.mem_of_getElem? (i := 611) (by decide +kernel), List.mem_of_getElem? (i := 34) (by decide +kernel), ⟨by decide, by decide⟩, by decide +kernel, by decide⟩
theorem kL_111 : glk RL 111 yX8_seen := Or.inl (List.mem_of_getElem? (i := 612) (by decide +kernel))
theorem iX8_seen : Cond.instanceMethod yX8_seen ∈ lw_tbl := List.mem_of_getElem? (i := 613) (by decide +kernel)
theorem sX8_seen : Cond.selects yX8_seen.cls yX8_seen yX8_seen ∈ lw_tbl := List.mem_of_getElem? (i := 614) (by decide +kernel)
theorem mX8_seen : gmt yX8_seen cX8_seen 5 (some .int) 4 := ⟨List.mem_of_getElem? (i := 615) (by decide +kernel), List.mem_of_getElem? (i := 34) (by decide +kernel), ⟨by decide, by decide⟩, by decide +kernel, by decide⟩
theorem kX8_203 : glk RX8 203 yX7_addSight := Or.inl (List.mem_of_getElem? (i := 616) (by decide +kernel))
theorem iX7_addSight : Cond.instanceMethod yX7_addSight ∈ lw_tbl := List.mem_of_getElem? (i := 617) (by decide +kernel)
theorem sX7_addSight : Cond.selects yX7_addSight.cls yX7_addSight yX7_addSight ∈ lw_tbl := List.mem_of_getElem? (i := 618) (by decide +kernel)
theorem mX7_addSight : gmt yX7_addSight cX7_addSight 5 none 4 := ⟨List.mem_of_getElem? (i := 619) (by decide +kernel), List.mem_of_getElem? (i := 35) (by decide +kernel), ⟨by decide, by decide⟩, by decide +kernel, by decide⟩
theorem kL_116 : glk RL 116 yX8_forget := Or.inl (List.mem_of_getElem? (i := 620) (by decide +kernel))
theorem iX8_forget : Cond.instanceMethod yX8_forget ∈ lw_tbl := List.mem_of_getElem? (i := 621) (by decide +kernel)
theorem sX8_forget : Cond.selects yX8_forget.cls yX8_forget yX8_forget ∈ lw_tbl := List.mem_of_getElem? (i := 622) (by decide +kernel)
theorem mX8_forget : gmt yX8_forget cX8_forget 2 (some .int) 0 := ⟨List.mem_of_getElem? (i := 623) (by decide +kernel), List.mem_of_getElem? (i := 34) (by decide +kernel), ⟨by decide, by decide⟩, by decide +kernel, by decide⟩
theorem kL_120 : glk RL 120 yX8_signs := Or.inl (List.mem_of_getElem? (i := 624) (by decide +kernel))
theorem iX8_signs : Cond.instanceMethod yX8_signs ∈ lw_tbl := List.mem_of_getElem? (i := 625) (by decide +kernel)
theorem sX8_signs : Cond.selects yX8_signs.cls yX8_signs yX8_signs ∈ lw_tbl := List.mem_of_getElem? (i := 626) (by decide +kernel)
theorem mX8_signs : gmt yX8_signs cX8_signs 1 (some .int) 0 := ⟨List.mem_of_getElem? (i := 627) (by decide +kernel), List.mem_of_getElem? (i := 34) (by decide +kernel), ⟨by decide, by decide⟩, by decide +kernel, by decide⟩
theorem kX8_207 : glk RX8 207 yX8_fittingHabits := Or.inl (List.mem_of_getElem? (i := 628) (by decide +kernel))
theorem iX8_fittingHabits : Cond.instanceMethod yX8_fittingHabits ∈ lw_tbl := List.mem_of_getElem? (i := 630) (by decide +kernel)
theorem mX8_fittingHabits : gmt yX8_fittingHabits cX8_fittingHabits 5 (some .int) 0 := ⟨List.mem_of_getElem? (i := 631) (by decide +kernel), List.mem_of_getElem? (i := 34) (by decide +kernel), ⟨by decide, by decide⟩, by decide +kernel, by decide⟩
theorem kX8_249 : glk RX8 249 yX8_signingHabits := Or.inl (List.mem_of_getElem? (i := 632) (by decide +kernel))
theorem iX8_signingHabits : Cond.instanceMethod yX8_signingHabits ∈ lw_tbl := List.mem_of_getElem? (i := 634) (by decide +kernel)
theorem mX8_signingHabits : gmt yX8_signingHabits cX8_signingHabits 5 (some .int) 3 := ⟨List.mem_of_getElem? (i := 635) (by decide +kernel), List.mem_of_getElem? (i := 34) (by decide +kernel), ⟨by decide, by decide⟩, by decide +kernel, by decide⟩
theorem kX8_243 : glk RX8 243 yX6_isToSign := Or.inl (List.mem_of_getElem? (i := 636) (by decide +kernel))
theorem kL_124 : glk RL 124 yX8_watch := Or.inl (List.mem_of_getElem? (i := 637) (by decide +kernel))
theorem iX8_watch : Cond.instanceMethod yX8_watch ∈ lw_tbl := List.mem_of_getElem? (i := 638) (by decide +kernel)
theorem sX8_watch : Cond.selects yX8_watch.cls yX8_watch yX8_watch ∈ lw_tbl := List.mem_of_getElem? (i := 639) (by decide +kernel)
theorem mX8_watch : gmt yX8_watch cX8_watch 3 (some .int) 1 := ⟨List.mem_of_getElem? (i := 640) (by decide +kernel), List.mem_of_getElem? (i := 34) (by decide +kernel), ⟨by decide, by decide⟩, by decide +kernel, by decide⟩
theorem kX8_210 : glk RX8 210 yX8_bestWatch := Or.inl (List.mem_of_getElem? (i := 641) (by decide +kernel))
theorem iX8_bestWatch : Cond.instanceMethod yX8_bestWatch ∈ lw_tbl := List.mem_of_getElem? (i := 643) (by decide +kernel)
theorem mX8_bestWatch : gmt yX8_bestWatch cX8_bestWatch 10 (some .int) 2 := ⟨List.mem_of_getElem? (i := 644) (by decide +kernel), List.mem_of_getElem? (i := 34) (by decide +kernel), ⟨by decide, by decide⟩, by decide +kernel, by decide⟩
theorem kX8_223 : glk RX8 223 yJ6_bitCount_0f7a4 := Or.inl (List.mem_of_getElem? (i := 645) (by decide +kernel))
theorem kX8_257 : glk RX8 257 yJ9_max_7cf53 := Or.inl (List.mem_of_getElem? (i := 646) (by decide +kernel))
theorem kL_128 : glk RL 128 yX8_book := Or.inl (List.mem_of_getElem? (i := 647) (by decide +kernel))
theorem iX8_book : Cond.instanceMethod yX8_book ∈ lw_tbl := List.mem_of_getElem? (i := 648) (by decide +kernel)
theorem sX8_book : Cond.selects yX8_book.cls yX8_book yX8_book ∈ lw_tbl := List.mem_of_getElem? (i := 649) (by decide +kernel)
theorem mX8_book : gmt yX8_book cX8_book 5 (some .int) 3 := ⟨List.mem_of_getElem? (i := 650) (by decide +kernel), List.mem_of_getElem? (i := 34) (by decide +kernel), ⟨by decide, by decide⟩, by decide +kernel, by decide⟩
theorem kX8_213 : glk RX8 213 yX2_draw := Or.inl (List.mem_of_getElem? (i := 651) (by decide +kernel))
theorem iX2_draw : Cond.instanceMethod yX2_draw ∈ lw_tbl := List.mem_of_getElem? (i := 652) (by decide +kernel)
theorem sX2_draw : Cond.selects yX2_draw.cls yX2_draw yX2_draw ∈ lw_tbl := List.mem_of_getElem? (i := 653) (by decide +kernel)
theorem mX2_draw : gmt yX2_draw cX2_draw 9 (some .int) 3 := ⟨List.mem_of_getElem? (i := 654) (by decide +kernel), List.mem_of_getElem? (i := 38) (by decide +kernel), ⟨by decide, by decide⟩, by decide +kernel, by decide⟩
theorem nX2_74 : Cond.constant RX2 74 (65537) ∈ lw_tbl := List.mem_of_getElem? (i := 655) (by decide +kernel)
theorem kX2_75 : glk RX2 75 yX1_has := Or.inl (List.mem_of_getElem? (i := 656) (by decide +kernel))
theorem kX2_83 : glk RX2 83 yX1_signAct := Or.inl (List.mem_of_getElem? (i := 657) (by decide +kernel))
theorem kX2_87 : glk RX2 87 yX1_forgeAct := Or.inl (List.mem_of_getElem? (i := 658) (by decide +kernel))
theorem kX8_217 : glk RX8 217 yX1_worthOfAll := Or.inl (List.mem_of_getElem? (i := 659) (by decide +kernel))
theorem iX1_worthOfAll : Cond.instanceMethod yX1_worthOfAll ∈ lw_tbl := List.mem_of_getElem? (i := 660) (by decide +kernel)
theorem sX1_worthOfAll : Cond.selects yX1_worthOfAll.cls yX1_worthOfAll yX1_worthOfAll ∈ lw_tbl := List.mem_of_getElem? (i := 661) (by decide +kernel)
theorem mX1_worthOfAll : gmt yX1_worthOfAll cX1_worthOfAll 3 (some .int) 0 := ⟨List.mem_of_getElem? (i := 662) (by decide +kernel), List.mem_of_getElem? (i := 36) (by decide +kernel), ⟨by decide, by decide⟩, by decide +kernel, by decide⟩
theorem kX8_220 : glk RX8 220 yX1_bare := Or.inl (List.mem_of_getElem? (i := 663) (by decide +kernel))
theorem kL_132 : glk RL 132 yX8_image := Or.inl (List.mem_of_getElem? (i := 664) (by decide +kernel))
theorem iX8_image : Cond.instanceMethod yX8_image ∈ lw_tbl := List.mem_of_getElem? (i := 665) (by decide +kernel)
theorem sX8_image : Cond.selects yX8_image.cls yX8_image yX8_image ∈ lw_tbl := List.mem_of_getElem? (i := 666) (by decide +kernel)
theorem mX8_image : gmt yX8_image cX8_image 2 (some .int) 1 := ⟨List.mem_of_getElem? (i := 667) (by decide +kernel), List.mem_of_getElem? (i := 34) (by decide +kernel), ⟨by decide, by decide⟩, by decide +kernel, by decide⟩
theorem kX8_228 : glk RX8 228 yX7_copyFrom := Or.inl (List.mem_of_getElem? (i := 668) (by decide +kernel))
theorem iX7_copyFrom : Cond.instanceMethod yX7_copyFrom ∈ lw_tbl := List.mem_of_getElem? (i := 669) (by decide +kernel)
theorem sX7_copyFrom : Cond.selects yX7_copyFrom.cls yX7_copyFrom yX7_copyFrom ∈ lw_tbl := List.mem_of_getElem? (i := 670) (by decide +kernel)
theorem mX7_copyFrom : gmt yX7_copyFrom cX7_copyFrom 3 none 1 := ⟨List.mem_of_getElem? (i := 671) (by decide +kernel), List.mem_of_getElem? (i := 35) (by decide +kernel), ⟨by decide, by decide⟩, by decide +kernel, by decide⟩
theorem kX7_33 : glk RX7 33 yX1_copyFrom := Or.inl (List.mem_of_getElem? (i := 672) (by decide +kernel))
theorem kX7_37 : Cond.methodLink RX7 37 arraycopyName ∈ lw_tbl := List.mem_of_getElem? (i := 673) (by decide +kernel)
theorem kL_136 : glk RL 136 yX8_restore := Or.inl (List.mem_of_getElem? (i := 674) (by decide +kernel))
theorem iX8_restore : Cond.instanceMethod yX8_restore ∈ lw_tbl := List.mem_of_getElem? (i := 675) (by decide +kernel)
theorem sX8_restore : Cond.selects yX8_restore.cls yX8_restore yX8_restore ∈ lw_tbl := List.mem_of_getElem? (i := 676) (by decide +kernel)
theorem mX8_restore : gmt yX8_restore cX8_restore 2 (some .int) 1 := ⟨List.mem_of_getElem? (i := 677) (by decide +kernel), List.mem_of_getElem? (i := 34) (by decide +kernel), ⟨by decide, by decide⟩, by decide +kernel, by decide⟩
theorem kL_140 : glk RL 140 yX8_told := Or.inl (List.mem_of_getElem? (i := 678) (by decide +kernel))
theorem iX8_told : Cond.instanceMethod yX8_told ∈ lw_tbl := List.mem_of_getElem? (i := 679) (by decide +kernel)
theorem sX8_told : Cond.selects yX8_told.cls yX8_told yX8_told ∈ lw_tbl := List.mem_of_getElem? (i := 680) (by decide +kernel)
theorem mX8_told : gmt yX8_told cX8_told 2 (some .int) 1 := ⟨List.mem_of_getElem? (i := 681) (by decide +kernel), List.mem_of_getElem? (i := 34) (by decide +kernel), ⟨by decide, by decide⟩, by decide +kernel, by decide⟩
theorem wL_10 : Cond.classLink RL 10 RX9 ∈ lw_tbl := List.mem_of_getElem? (i := 682) (by decide +kernel)
theorem aX9 : Cond.instantiable RX9 22 ∈ lw_tbl := List.mem_of_getElem? (i := 683) (by decide +kernel)
theorem zX9 : Cond.initialized RX9 ∈ lw_tbl := List.mem_of_getElem? (i := 43) (by decide +kernel)
theorem kL_12 : glk RL 12 yX9_init := Or.inl (List.mem_of_getElem? (i := 684) (by decide +kernel))
theorem iX9_init : Cond.instanceMethod yX9_init ∈ lw_tbl := List.mem_of_getElem? (i := 685) (by decide +kernel)
theorem mX9_init : gmt yX9_init cX9_init 2 none 0 := ⟨List.mem_of_getElem? (i := 686) (by decide +kernel), List.mem_of_getElem? (i := 43) (by decide +kernel), ⟨by decide, by decide⟩, by decide +kernel, by decide⟩
theorem kX9_1 : Cond.methodLink RX9 1 Lib.objectInit ∈ lw_tbl := List.mem_of_getElem? (i := 687) (by decide +kernel)
theorem fX9_7 : gfd RX9 7 9 0 (.array .int) true := ⟨RX9, TX9, 22, tyX9, gclX9, by decide, rfl, rfl, rfl, List.mem_of_getElem? (i := 688) (by decide +kernel)⟩
theorem fX9_13 : gfd RX9 13 9 1 (.array .int) true := ⟨RX9, TX9, 22, tyX9, gclX9, by decide, rfl, rfl, rfl, List.mem_of_getElem? (i := 689) (by decide +kernel)⟩
theorem fX9_52 : gfd RX9 52 9 2 .int false := ⟨RX9, TX9, 22, tyX9, gclX9, by decide, rfl, rfl, rfl, List.mem_of_getElem? (i := 690) (by decide +kernel)⟩
theorem fX9_16 : gfd RX9 16 9 3 (.array .int) true := ⟨RX9, TX9, 22, tyX9, gclX9, by decide, rfl, rfl, rfl, List.mem_of_getElem? (i := 691) (by decide +kernel)⟩
theorem fX9_19 : gfd RX9 19 9 4 (.array .int) true := ⟨RX9, TX9, 22, tyX9, gclX9, by decide, rfl, rfl, rfl, List.mem_of_getElem? (i := 692) (by decide +kernel)⟩
theorem fX9_183 : gfd RX9 183 9 5 .int false := ⟨RX9, TX9, 22, tyX9, gclX9, by decide, rfl, rfl, rfl, List.mem_of_getElem? (i := 693) (by decide +kernel)⟩
theorem fX9_22 : gfd RX9 22 9 6 (.array .int) true := ⟨RX9, TX9, 22, tyX9, gclX9, by decide, rfl, rfl, rfl, List.mem_of_getElem? (i := 694) (by decide +kernel)⟩
theorem fX9_68 : gfd RX9 68 9 7 .int false := ⟨RX9, TX9, 22, tyX9, gclX9, by decide, rfl, rfl, rfl, List.mem_of_getElem? (i := 695) (by decide +kernel)⟩
theorem fX9_25 : gfd RX9 25 9 8 (.array .int) true := ⟨RX9, TX9, 22, tyX9, gclX9, by decide, rfl, rfl, rfl, List.mem_of_getElem? (i := 696) (by decide +kernel)⟩
theorem fX9_84 : gfd RX9 84 9 9 .int false := ⟨RX9, TX9, 22, tyX9, gclX9, by decide, rfl, rfl, rfl, List.mem_of_getElem? (i := 697) (by decide +kernel)⟩
theorem fX9_87 : gfd RX9 87 9 10 .int false := ⟨RX9, TX9, 22, tyX9, gclX9, by decide, rfl, rfl, rfl, List.mem_of_getElem? (i := 698) (by decide +kernel)⟩
theorem fX9_112 : gfd RX9 112 9 11 .int false := ⟨RX9, TX9, 22, tyX9, gclX9, by decide, rfl, rfl, rfl, List.mem_of_getElem? (i := 699) (by decide +kernel)⟩
theorem fX9_100 : gfd RX9 100 9 12 .int false := ⟨RX9, TX9, 22, tyX9, gclX9, by decide, rfl, rfl, rfl, List.mem_of_getElem? (i := 700) (by decide +kernel)⟩
theorem fX9_103 : gfd RX9 103 9 13 .int false := ⟨RX9, TX9, 22, tyX9, gclX9, by decide, rfl, rfl, rfl, List.mem_of_getElem? (i := 701) (by decide +kernel)⟩
theorem fX9_28 : gfd RX9 28 9 14 (.array .long) true := ⟨RX9, TX9, 22, tyX9, gclX9, by decide, rfl, rfl, rfl, List.mem_of_getElem? (i := 702) (by decide +kernel)⟩
theorem fX9_32 : gfd RX9 32 9 15 (.array .int) true := ⟨RX9, TX9, 22, tyX9, gclX9, by decide, rfl, rfl, rfl, List.mem_of_getElem? (i := 703) (by decide +kernel)⟩
theorem fX9_35 : gfd RX9 35 9 16 (.array .int) true := ⟨RX9, TX9, 22, tyX9, gclX9, by decide, rfl, rfl, rfl, List.mem_of_getElem? (i := 704) (by decide +kernel)⟩
theorem fX9_38 : gfd RX9 38 9 17 (.array .int) true := ⟨RX9, TX9, 22, tyX9, gclX9, by decide, rfl, rfl, rfl, List.mem_of_getElem? (i := 705) (by decide +kernel)⟩
theorem fX9_170 : gfd RX9 170 9 18 .int false := ⟨RX9, TX9, 22, tyX9, gclX9, by decide, rfl, rfl, rfl, List.mem_of_getElem? (i := 706) (by decide +kernel)⟩
theorem fX9_173 : gfd RX9 173 9 19 .int false := ⟨RX9, TX9, 22, tyX9, gclX9, by decide, rfl, rfl, rfl, List.mem_of_getElem? (i := 707) (by decide +kernel)⟩
theorem fX9_41 : gfd RX9 41 9 20 (.array .int) true := ⟨RX9, TX9, 22, tyX9, gclX9, by decide, rfl, rfl, rfl, List.mem_of_getElem? (i := 708) (by decide +kernel)⟩
theorem fX9_44 : gfd RX9 44 9 21 (.array .boolean) true := ⟨RX9, TX9, 22, tyX9, gclX9, by decide, rfl, rfl, rfl, List.mem_of_getElem? (i := 709) (by decide +kernel)⟩
theorem kL_17 : glk RL 17 yX9_person := Or.inl (List.mem_of_getElem? (i := 755) (by decide +kernel))
theorem iX9_person : Cond.instanceMethod yX9_person ∈ lw_tbl := List.mem_of_getElem? (i := 756) (by decide +kernel)
theorem sX9_person : Cond.selects yX9_person.cls yX9_person yX9_person ∈ lw_tbl := List.mem_of_getElem? (i := 757) (by decide +kernel)
theorem mX9_person : gmt yX9_person cX9_person 4 (some .int) 3 := ⟨List.mem_of_getElem? (i := 758) (by decide +kernel), List.mem_of_getElem? (i := 43) (by decide +kernel), ⟨by decide, by decide⟩, by decide +kernel, by decide⟩
theorem kX9_48 : glk RX9 48 yX9_in := Or.inl (List.mem_of_getElem? (i := 759) (by decide +kernel))
theorem tX9_in : Cond.static yX9_in ∈ lw_tbl := List.mem_of_getElem? (i := 760) (by decide +kernel)
theorem mX9_in : gmt yX9_in cX9_in 3 (some .boolean) 3 := ⟨List.mem_of_getElem? (i := 761) (by decide +kernel), List.mem_of_getElem? (i := 43) (by decide +kernel), ⟨by decide, by decide⟩, by decide +kernel, by decide⟩
theorem kX9_56 : glk RX9 56 yX9_has := Or.inl (List.mem_of_getElem? (i := 762) (by decide +kernel))
theorem tX9_has : Cond.static yX9_has ∈ lw_tbl := List.mem_of_getElem? (i := 763) (by decide +kernel)
theorem mX9_has : gmt yX9_has cX9_has 2 (some .boolean) 2 := ⟨List.mem_of_getElem? (i := 764) (by decide +kernel), List.mem_of_getElem? (i := 43) (by decide +kernel), ⟨by decide, by decide⟩, by decide +kernel, by decide⟩
theorem kX9_60 : glk RX9 60 yX9_bits := Or.inl (List.mem_of_getElem? (i := 765) (by decide +kernel))
theorem tX9_bits : Cond.static yX9_bits ∈ lw_tbl := List.mem_of_getElem? (i := 766) (by decide +kernel)
theorem mX9_bits : gmt yX9_bits cX9_bits 3 (some .int) 1 := ⟨List.mem_of_getElem? (i := 767) (by decide +kernel), List.mem_of_getElem? (i := 43) (by decide +kernel), ⟨by decide, by decide⟩, by decide +kernel, by decide⟩
theorem kL_22 : glk RL 22 yX9_die := Or.inl (List.mem_of_getElem? (i := 768) (by decide +kernel))
theorem iX9_die : Cond.instanceMethod yX9_die ∈ lw_tbl := List.mem_of_getElem? (i := 769) (by decide +kernel)
theorem sX9_die : Cond.selects yX9_die.cls yX9_die yX9_die ∈ lw_tbl := List.mem_of_getElem? (i := 770) (by decide +kernel)
theorem mX9_die : gmt yX9_die cX9_die 3 (some .int) 1 := ⟨List.mem_of_getElem? (i := 771) (by decide +kernel), List.mem_of_getElem? (i := 43) (by decide +kernel), ⟨by decide, by decide⟩, by decide +kernel, by decide⟩
theorem kX9_64 : glk RX9 64 yX9_isThere := Or.inl (List.mem_of_getElem? (i := 772) (by decide +kernel))
theorem iX9_isThere : Cond.instanceMethod yX9_isThere ∈ lw_tbl := List.mem_of_getElem? (i := 774) (by decide +kernel)
theorem mX9_isThere : gmt yX9_isThere cX9_isThere 2 (some .boolean) 1 := ⟨List.mem_of_getElem? (i := 775) (by decide +kernel), List.mem_of_getElem? (i := 43) (by decide +kernel), ⟨by decide, by decide⟩, by decide +kernel, by decide⟩
theorem kL_27 : glk RL 27 yX9_weight := Or.inl (List.mem_of_getElem? (i := 776) (by decide +kernel))
theorem iX9_weight : Cond.instanceMethod yX9_weight ∈ lw_tbl := List.mem_of_getElem? (i := 777) (by decide +kernel)
theorem sX9_weight : Cond.selects yX9_weight.cls yX9_weight yX9_weight ∈ lw_tbl := List.mem_of_getElem? (i := 778) (by decide +kernel)
theorem mX9_weight : gmt yX9_weight cX9_weight 5 (some .int) 2 := ⟨List.mem_of_getElem? (i := 779) (by decide +kernel), List.mem_of_getElem? (i := 43) (by decide +kernel), ⟨by decide, by decide⟩, by decide +kernel, by decide⟩
theorem kL_31 : glk RL 31 yX9_say := Or.inl (List.mem_of_getElem? (i := 780) (by decide +kernel))
theorem iX9_say : Cond.instanceMethod yX9_say ∈ lw_tbl := List.mem_of_getElem? (i := 781) (by decide +kernel)
theorem sX9_say : Cond.selects yX9_say.cls yX9_say yX9_say ∈ lw_tbl := List.mem_of_getElem? (i := 782) (by decide +kernel)
theorem mX9_say : gmt yX9_say cX9_say 2 (some .int) 1 := ⟨List.mem_of_getElem? (i := 783) (by decide +kernel), List.mem_of_getElem? (i := 43) (by decide +kernel), ⟨by decide, by decide⟩, by decide +kernel, by decide⟩
theorem kL_36 : glk RL 36 yX9_wipe := Or.inl (List.mem_of_getElem? (i := 784) (by decide +kernel))
theorem iX9_wipe : Cond.instanceMethod yX9_wipe ∈ lw_tbl := List.mem_of_getElem? (i := 785) (by decide +kernel)
theorem sX9_wipe : Cond.selects yX9_wipe.cls yX9_wipe yX9_wipe ∈ lw_tbl := List.mem_of_getElem? (i := 786) (by decide +kernel)
theorem mX9_wipe : gmt yX9_wipe cX9_wipe 2 (some .int) 0 := ⟨List.mem_of_getElem? (i := 787) (by decide +kernel), List.mem_of_getElem? (i := 43) (by decide +kernel), ⟨by decide, by decide⟩, by decide +kernel, by decide⟩
theorem kL_40 : glk RL 40 yX9_fault := Or.inl (List.mem_of_getElem? (i := 788) (by decide +kernel))
theorem iX9_fault : Cond.instanceMethod yX9_fault ∈ lw_tbl := List.mem_of_getElem? (i := 789) (by decide +kernel)
theorem sX9_fault : Cond.selects yX9_fault.cls yX9_fault yX9_fault ∈ lw_tbl := List.mem_of_getElem? (i := 790) (by decide +kernel)
theorem mX9_fault : gmt yX9_fault cX9_fault 1 (some .int) 0 := ⟨List.mem_of_getElem? (i := 791) (by decide +kernel), List.mem_of_getElem? (i := 43) (by decide +kernel), ⟨by decide, by decide⟩, by decide +kernel, by decide⟩
theorem kX9_80 : glk RX9 80 yX9_faultOf := Or.inl (List.mem_of_getElem? (i := 792) (by decide +kernel))
theorem iX9_faultOf : Cond.instanceMethod yX9_faultOf ∈ lw_tbl := List.mem_of_getElem? (i := 794) (by decide +kernel)
theorem mX9_faultOf : gmt yX9_faultOf cX9_faultOf 6 (some .int) 0 := ⟨List.mem_of_getElem? (i := 795) (by decide +kernel), List.mem_of_getElem? (i := 43) (by decide +kernel), ⟨by decide, by decide⟩, by decide +kernel, by decide⟩
theorem kX9_71 : glk RX9 71 yX9_isLetter := Or.inl (List.mem_of_getElem? (i := 796) (by decide +kernel))
theorem tX9_isLetter : Cond.static yX9_isLetter ∈ lw_tbl := List.mem_of_getElem? (i := 797) (by decide +kernel)
theorem mX9_isLetter : gmt yX9_isLetter cX9_isLetter 1 (some .boolean) 1 := ⟨List.mem_of_getElem? (i := 798) (by decide +kernel), List.mem_of_getElem? (i := 43) (by decide +kernel), ⟨by decide, by decide⟩, by decide +kernel, by decide⟩
theorem kX9_74 : glk RX9 74 yX9_isDigit := Or.inl (List.mem_of_getElem? (i := 799) (by decide +kernel))
theorem tX9_isDigit : Cond.static yX9_isDigit ∈ lw_tbl := List.mem_of_getElem? (i := 800) (by decide +kernel)
theorem mX9_isDigit : gmt yX9_isDigit cX9_isDigit 1 (some .boolean) 1 := ⟨List.mem_of_getElem? (i := 801) (by decide +kernel), List.mem_of_getElem? (i := 43) (by decide +kernel), ⟨by decide, by decide⟩, by decide +kernel, by decide⟩
theorem kX9_77 : glk RX9 77 yX9_passes := Or.inl (List.mem_of_getElem? (i := 802) (by decide +kernel))
theorem tX9_passes : Cond.static yX9_passes ∈ lw_tbl := List.mem_of_getElem? (i := 803) (by decide +kernel)
theorem mX9_passes : gmt yX9_passes cX9_passes 1 (some .boolean) 1 := ⟨List.mem_of_getElem? (i := 804) (by decide +kernel), List.mem_of_getElem? (i := 43) (by decide +kernel), ⟨by decide, by decide⟩, by decide +kernel, by decide⟩
theorem kL_44 : glk RL 44 yX9_judge := Or.inl (List.mem_of_getElem? (i := 805) (by decide +kernel))
theorem iX9_judge : Cond.instanceMethod yX9_judge ∈ lw_tbl := List.mem_of_getElem? (i := 806) (by decide +kernel)
theorem sX9_judge : Cond.selects yX9_judge.cls yX9_judge yX9_judge ∈ lw_tbl := List.mem_of_getElem? (i := 807) (by decide +kernel)
theorem mX9_judge : gmt yX9_judge cX9_judge 3 (some .int) 1 := ⟨List.mem_of_getElem? (i := 808) (by decide +kernel), List.mem_of_getElem? (i := 43) (by decide +kernel), ⟨by decide, by decide⟩, by decide +kernel, by decide⟩
theorem kX9_129 : glk RX9 129 yX9_goLives := Or.inl (List.mem_of_getElem? (i := 809) (by decide +kernel))
theorem iX9_goLives : Cond.instanceMethod yX9_goLives ∈ lw_tbl := List.mem_of_getElem? (i := 811) (by decide +kernel)
theorem mX9_goLives : gmt yX9_goLives cX9_goLives 5 (some .int) 0 := ⟨List.mem_of_getElem? (i := 812) (by decide +kernel), List.mem_of_getElem? (i := 43) (by decide +kernel), ⟨by decide, by decide⟩, by decide +kernel, by decide⟩
theorem kX9_97 : glk RX9 97 yX9_asNow := Or.inl (List.mem_of_getElem? (i := 813) (by decide +kernel))
theorem iX9_asNow : Cond.instanceMethod yX9_asNow ∈ lw_tbl := List.mem_of_getElem? (i := 815) (by decide +kernel)
theorem mX9_asNow : gmt yX9_asNow cX9_asNow 2 none 0 := ⟨List.mem_of_getElem? (i := 816) (by decide +kernel), List.mem_of_getElem? (i := 43) (by decide +kernel), ⟨by decide, by decide⟩, by decide +kernel, by decide⟩
theorem kX9_106 : glk RX9 106 yX9_some := Or.inl (List.mem_of_getElem? (i := 817) (by decide +kernel))
theorem iX9_some : Cond.instanceMethod yX9_some ∈ lw_tbl := List.mem_of_getElem? (i := 819) (by decide +kernel)
theorem mX9_some : gmt yX9_some cX9_some 3 (some .int) 0 := ⟨List.mem_of_getElem? (i := 820) (by decide +kernel), List.mem_of_getElem? (i := 43) (by decide +kernel), ⟨by decide, by decide⟩, by decide +kernel, by decide⟩
theorem kX9_109 : glk RX9 109 yX9_endYear := Or.inl (List.mem_of_getElem? (i := 821) (by decide +kernel))
theorem iX9_endYear : Cond.instanceMethod yX9_endYear ∈ lw_tbl := List.mem_of_getElem? (i := 823) (by decide +kernel)
theorem mX9_endYear : gmt yX9_endYear cX9_endYear 1 (some .int) 0 := ⟨List.mem_of_getElem? (i := 824) (by decide +kernel), List.mem_of_getElem? (i := 43) (by decide +kernel), ⟨by decide, by decide⟩, by decide +kernel, by decide⟩
theorem kX9_115 : glk RX9 115 yX9_signAct := Or.inl (List.mem_of_getElem? (i := 825) (by decide +kernel))
theorem iX9_signAct : Cond.instanceMethod yX9_signAct ∈ lw_tbl := List.mem_of_getElem? (i := 827) (by decide +kernel)
theorem mX9_signAct : gmt yX9_signAct cX9_signAct 3 (some .int) 2 := ⟨List.mem_of_getElem? (i := 828) (by decide +kernel), List.mem_of_getElem? (i := 43) (by decide +kernel), ⟨by decide, by decide⟩, by decide +kernel, by decide⟩
theorem kX9_90 : glk RX9 90 yX9_gains := Or.inl (List.mem_of_getElem? (i := 829) (by decide +kernel))
theorem iX9_gains : Cond.instanceMethod yX9_gains ∈ lw_tbl := List.mem_of_getElem? (i := 831) (by decide +kernel)
theorem mX9_gains : gmt yX9_gains cX9_gains 3 none 2 := ⟨List.mem_of_getElem? (i := 832) (by decide +kernel), List.mem_of_getElem? (i := 43) (by decide +kernel), ⟨by decide, by decide⟩, by decide +kernel, by decide⟩
theorem kX9_119 : glk RX9 119 yX9_forge := Or.inl (List.mem_of_getElem? (i := 833) (by decide +kernel))
theorem iX9_forge : Cond.instanceMethod yX9_forge ∈ lw_tbl := List.mem_of_getElem? (i := 835) (by decide +kernel)
theorem mX9_forge : gmt yX9_forge cX9_forge 3 (some .int) 2 := ⟨List.mem_of_getElem? (i := 836) (by decide +kernel), List.mem_of_getElem? (i := 43) (by decide +kernel), ⟨by decide, by decide⟩, by decide +kernel, by decide⟩
theorem kX9_122 : glk RX9 122 yX9_blot := Or.inl (List.mem_of_getElem? (i := 837) (by decide +kernel))
theorem iX9_blot : Cond.instanceMethod yX9_blot ∈ lw_tbl := List.mem_of_getElem? (i := 839) (by decide +kernel)
theorem mX9_blot : gmt yX9_blot cX9_blot 2 (some .int) 1 := ⟨List.mem_of_getElem? (i := 840) (by decide +kernel), List.mem_of_getElem? (i := 43) (by decide +kernel), ⟨by decide, by decide⟩, by decide +kernel, by decide⟩
theorem kX9_125 : glk RX9 125 yX9_hand := Or.inl (List.mem_of_getElem? (i := 841) (by decide +kernel))
theorem iX9_hand : Cond.instanceMethod yX9_hand ∈ lw_tbl := List.mem_of_getElem? (i := 843) (by decide +kernel)
theorem mX9_hand : gmt yX9_hand cX9_hand 8 (some .int) 4 := ⟨List.mem_of_getElem? (i := 844) (by decide +kernel), List.mem_of_getElem? (i := 43) (by decide +kernel), ⟨by decide, by decide⟩, by decide +kernel, by decide⟩
theorem kX9_94 : glk RX9 94 yX9_gets := Or.inl (List.mem_of_getElem? (i := 845) (by decide +kernel))
theorem iX9_gets : Cond.instanceMethod yX9_gets ∈ lw_tbl := List.mem_of_getElem? (i := 847) (by decide +kernel)
theorem mX9_gets : gmt yX9_gets cX9_gets 3 none 2 := ⟨List.mem_of_getElem? (i := 848) (by decide +kernel), List.mem_of_getElem? (i := 43) (by decide +kernel), ⟨by decide, by decide⟩, by decide +kernel, by decide⟩
theorem kL_48 : glk RL 48 yX9_done := Or.inl (List.mem_of_getElem? (i := 849) (by decide +kernel))
theorem iX9_done : Cond.instanceMethod yX9_done ∈ lw_tbl := List.mem_of_getElem? (i := 850) (by decide +kernel)
theorem sX9_done : Cond.selects yX9_done.cls yX9_done yX9_done ∈ lw_tbl := List.mem_of_getElem? (i := 851) (by decide +kernel)
theorem mX9_done : gmt yX9_done cX9_done 2 (some .int) 0 := ⟨List.mem_of_getElem? (i := 852) (by decide +kernel), List.mem_of_getElem? (i := 43) (by decide +kernel), ⟨by decide, by decide⟩, by decide +kernel, by decide⟩
theorem kX9_132 : glk RX9 132 yX9_barOfLives := Or.inl (List.mem_of_getElem? (i := 853) (by decide +kernel))
theorem iX9_barOfLives : Cond.instanceMethod yX9_barOfLives ∈ lw_tbl := List.mem_of_getElem? (i := 855) (by decide +kernel)
theorem mX9_barOfLives : gmt yX9_barOfLives cX9_barOfLives 1 (some .int) 0 := ⟨List.mem_of_getElem? (i := 856) (by decide +kernel), List.mem_of_getElem? (i := 43) (by decide +kernel), ⟨by decide, by decide⟩, by decide +kernel, by decide⟩
theorem kL_52 : glk RL 52 yX9_state := Or.inl (List.mem_of_getElem? (i := 857) (by decide +kernel))
theorem iX9_state : Cond.instanceMethod yX9_state ∈ lw_tbl := List.mem_of_getElem? (i := 858) (by decide +kernel)
theorem sX9_state : Cond.selects yX9_state.cls yX9_state yX9_state ∈ lw_tbl := List.mem_of_getElem? (i := 859) (by decide +kernel)
theorem mX9_state : gmt yX9_state cX9_state 3 (some .int) 2 := ⟨List.mem_of_getElem? (i := 860) (by decide +kernel), List.mem_of_getElem? (i := 43) (by decide +kernel), ⟨by decide, by decide⟩, by decide +kernel, by decide⟩
theorem kL_56 : glk RL 56 yX9_behind := Or.inl (List.mem_of_getElem? (i := 861) (by decide +kernel))
theorem iX9_behind : Cond.instanceMethod yX9_behind ∈ lw_tbl := List.mem_of_getElem? (i := 862) (by decide +kernel)
theorem sX9_behind : Cond.selects yX9_behind.cls yX9_behind yX9_behind ∈ lw_tbl := List.mem_of_getElem? (i := 863) (by decide +kernel)
theorem mX9_behind : gmt yX9_behind cX9_behind 3 (some .int) 2 := ⟨List.mem_of_getElem? (i := 864) (by decide +kernel), List.mem_of_getElem? (i := 43) (by decide +kernel), ⟨by decide, by decide⟩, by decide +kernel, by decide⟩
theorem kL_60 : glk RL 60 yX9_acts := Or.inl (List.mem_of_getElem? (i := 865) (by decide +kernel))
theorem iX9_acts : Cond.instanceMethod yX9_acts ∈ lw_tbl := List.mem_of_getElem? (i := 866) (by decide +kernel)
theorem sX9_acts : Cond.selects yX9_acts.cls yX9_acts yX9_acts ∈ lw_tbl := List.mem_of_getElem? (i := 867) (by decide +kernel)
theorem mX9_acts : gmt yX9_acts cX9_acts 2 (some .int) 1 := ⟨List.mem_of_getElem? (i := 868) (by decide +kernel), List.mem_of_getElem? (i := 43) (by decide +kernel), ⟨by decide, by decide⟩, by decide +kernel, by decide⟩
theorem kL_64 : glk RL 64 yX9_owes := Or.inl (List.mem_of_getElem? (i := 869) (by decide +kernel))
theorem iX9_owes : Cond.instanceMethod yX9_owes ∈ lw_tbl := List.mem_of_getElem? (i := 870) (by decide +kernel)
theorem sX9_owes : Cond.selects yX9_owes.cls yX9_owes yX9_owes ∈ lw_tbl := List.mem_of_getElem? (i := 871) (by decide +kernel)
theorem mX9_owes : gmt yX9_owes cX9_owes 3 (some .int) 2 := ⟨List.mem_of_getElem? (i := 872) (by decide +kernel), List.mem_of_getElem? (i := 43) (by decide +kernel), ⟨by decide, by decide⟩, by decide +kernel, by decide⟩
theorem kL_68 : glk RL 68 yX9_who := Or.inl (List.mem_of_getElem? (i := 873) (by decide +kernel))
theorem iX9_who : Cond.instanceMethod yX9_who ∈ lw_tbl := List.mem_of_getElem? (i := 874) (by decide +kernel)
theorem sX9_who : Cond.selects yX9_who.cls yX9_who yX9_who ∈ lw_tbl := List.mem_of_getElem? (i := 875) (by decide +kernel)
theorem mX9_who : gmt yX9_who cX9_who 5 (some .int) 1 := ⟨List.mem_of_getElem? (i := 876) (by decide +kernel), List.mem_of_getElem? (i := 43) (by decide +kernel), ⟨by decide, by decide⟩, by decide +kernel, by decide⟩
theorem kL_73 : glk RL 73 yX9_best := Or.inl (List.mem_of_getElem? (i := 877) (by decide +kernel))
theorem iX9_best : Cond.instanceMethod yX9_best ∈ lw_tbl := List.mem_of_getElem? (i := 878) (by decide +kernel)
theorem sX9_best : Cond.selects yX9_best.cls yX9_best yX9_best ∈ lw_tbl := List.mem_of_getElem? (i := 879) (by decide +kernel)
theorem mX9_best : gmt yX9_best cX9_best 4 (some .long) 3 := ⟨List.mem_of_getElem? (i := 880) (by decide +kernel), List.mem_of_getElem? (i := 43) (by decide +kernel), ⟨by decide, by decide⟩, by decide +kernel, by decide⟩
theorem nX9_144 : Cond.constantLong RX9 144 (-1000000000000000002) ∈ lw_tbl := List.mem_of_getElem? (i := 881) (by decide +kernel)
theorem kX9_146 : glk RX9 146 yX9_layBest := Or.inl (List.mem_of_getElem? (i := 882) (by decide +kernel))
theorem iX9_layBest : Cond.instanceMethod yX9_layBest ∈ lw_tbl := List.mem_of_getElem? (i := 884) (by decide +kernel)
theorem mX9_layBest : gmt yX9_layBest cX9_layBest 12 none 0 := ⟨List.mem_of_getElem? (i := 885) (by decide +kernel), List.mem_of_getElem? (i := 43) (by decide +kernel), ⟨by decide, by decide⟩, by decide +kernel, by decide⟩
theorem kX9_135 : glk RX9 135 yX9_weights := Or.inl (List.mem_of_getElem? (i := 886) (by decide +kernel))
theorem iX9_weights : Cond.instanceMethod yX9_weights ∈ lw_tbl := List.mem_of_getElem? (i := 888) (by decide +kernel)
theorem mX9_weights : gmt yX9_weights cX9_weights 3 (some .int) 0 := ⟨List.mem_of_getElem? (i := 889) (by decide +kernel), List.mem_of_getElem? (i := 43) (by decide +kernel), ⟨by decide, by decide⟩, by decide +kernel, by decide⟩
theorem nX9_138 : Cond.constantLong RX9 138 (-1) ∈ lw_tbl := List.mem_of_getElem? (i := 890) (by decide +kernel)
theorem kX9_140 : glk RX9 140 yX9_power := Or.inl (List.mem_of_getElem? (i := 891) (by decide +kernel))
theorem tX9_power : Cond.static yX9_power ∈ lw_tbl := List.mem_of_getElem? (i := 892) (by decide +kernel)
theorem mX9_power : gmt yX9_power cX9_power 6 (some .long) 2 := ⟨List.mem_of_getElem? (i := 893) (by decide +kernel), List.mem_of_getElem? (i := 43) (by decide +kernel), ⟨by decide, by decide⟩, by decide +kernel, by decide⟩
theorem kX9_149 : glk RX9 149 yX9_part := Or.inl (List.mem_of_getElem? (i := 894) (by decide +kernel))
theorem tX9_part : Cond.static yX9_part ∈ lw_tbl := List.mem_of_getElem? (i := 895) (by decide +kernel)
theorem mX9_part : gmt yX9_part cX9_part 11 (some .long) 3 := ⟨List.mem_of_getElem? (i := 896) (by decide +kernel), List.mem_of_getElem? (i := 43) (by decide +kernel), ⟨by decide, by decide⟩, by decide +kernel, by decide⟩
theorem kL_77 : glk RL 77 yX9_least := Or.inl (List.mem_of_getElem? (i := 897) (by decide +kernel))
theorem iX9_least : Cond.instanceMethod yX9_least ∈ lw_tbl := List.mem_of_getElem? (i := 898) (by decide +kernel)
theorem sX9_least : Cond.selects yX9_least.cls yX9_least yX9_least ∈ lw_tbl := List.mem_of_getElem? (i := 899) (by decide +kernel)
theorem mX9_least : gmt yX9_least cX9_least 3 (some .int) 2 := ⟨List.mem_of_getElem? (i := 900) (by decide +kernel), List.mem_of_getElem? (i := 43) (by decide +kernel), ⟨by decide, by decide⟩, by decide +kernel, by decide⟩
theorem kX9_153 : glk RX9 153 yX9_leastOf := Or.inl (List.mem_of_getElem? (i := 901) (by decide +kernel))
theorem iX9_leastOf : Cond.instanceMethod yX9_leastOf ∈ lw_tbl := List.mem_of_getElem? (i := 903) (by decide +kernel)
theorem mX9_leastOf : gmt yX9_leastOf cX9_leastOf 6 (some .int) 2 := ⟨List.mem_of_getElem? (i := 904) (by decide +kernel), List.mem_of_getElem? (i := 43) (by decide +kernel), ⟨by decide, by decide⟩, by decide +kernel, by decide⟩
theorem kL_81 : glk RL 81 yX9_price := Or.inl (List.mem_of_getElem? (i := 905) (by decide +kernel))
theorem iX9_price : Cond.instanceMethod yX9_price ∈ lw_tbl := List.mem_of_getElem? (i := 906) (by decide +kernel)
theorem sX9_price : Cond.selects yX9_price.cls yX9_price yX9_price ∈ lw_tbl := List.mem_of_getElem? (i := 907) (by decide +kernel)
theorem mX9_price : gmt yX9_price cX9_price 4 (some .long) 3 := ⟨List.mem_of_getElem? (i := 908) (by decide +kernel), List.mem_of_getElem? (i := 43) (by decide +kernel), ⟨by decide, by decide⟩, by decide +kernel, by decide⟩
theorem kL_86 : glk RL 86 yX9_last := Or.inl (List.mem_of_getElem? (i := 909) (by decide +kernel))
theorem iX9_last : Cond.instanceMethod yX9_last ∈ lw_tbl := List.mem_of_getElem? (i := 910) (by decide +kernel)
theorem sX9_last : Cond.selects yX9_last.cls yX9_last yX9_last ∈ lw_tbl := List.mem_of_getElem? (i := 911) (by decide +kernel)
theorem mX9_last : gmt yX9_last cX9_last 5 (some .long) 4 := ⟨List.mem_of_getElem? (i := 912) (by decide +kernel), List.mem_of_getElem? (i := 43) (by decide +kernel), ⟨by decide, by decide⟩, by decide +kernel, by decide⟩
theorem kX9_162 : glk RX9 162 yX9_atMost := Or.inl (List.mem_of_getElem? (i := 913) (by decide +kernel))
theorem tX9_atMost : Cond.static yX9_atMost ∈ lw_tbl := List.mem_of_getElem? (i := 914) (by decide +kernel)
theorem mX9_atMost : gmt yX9_atMost cX9_atMost 6 (some .long) 3 := ⟨List.mem_of_getElem? (i := 915) (by decide +kernel), List.mem_of_getElem? (i := 43) (by decide +kernel), ⟨by decide, by decide⟩, by decide +kernel, by decide⟩
theorem kX9_156 : glk RX9 156 yX9_choices := Or.inl (List.mem_of_getElem? (i := 916) (by decide +kernel))
theorem tX9_choices : Cond.static yX9_choices ∈ lw_tbl := List.mem_of_getElem? (i := 917) (by decide +kernel)
theorem mX9_choices : gmt yX9_choices cX9_choices 5 (some .long) 2 := ⟨List.mem_of_getElem? (i := 918) (by decide +kernel), List.mem_of_getElem? (i := 43) (by decide +kernel), ⟨by decide, by decide⟩, by decide +kernel, by decide⟩
theorem nX9_160 : Cond.constantLong RX9 160 (10) ∈ lw_tbl := List.mem_of_getElem? (i := 919) (by decide +kernel)
theorem kL_90 : glk RL 90 yX9_netted := Or.inl (List.mem_of_getElem? (i := 920) (by decide +kernel))
theorem iX9_netted : Cond.instanceMethod yX9_netted ∈ lw_tbl := List.mem_of_getElem? (i := 921) (by decide +kernel)
theorem sX9_netted : Cond.selects yX9_netted.cls yX9_netted yX9_netted ∈ lw_tbl := List.mem_of_getElem? (i := 922) (by decide +kernel)
theorem mX9_netted : gmt yX9_netted cX9_netted 2 (some .int) 1 := ⟨List.mem_of_getElem? (i := 923) (by decide +kernel), List.mem_of_getElem? (i := 43) (by decide +kernel), ⟨by decide, by decide⟩, by decide +kernel, by decide⟩
theorem kX9_166 : glk RX9 166 yX9_netOf := Or.inl (List.mem_of_getElem? (i := 924) (by decide +kernel))
theorem iX9_netOf : Cond.instanceMethod yX9_netOf ∈ lw_tbl := List.mem_of_getElem? (i := 926) (by decide +kernel)
theorem mX9_netOf : gmt yX9_netOf cX9_netOf 4 (some .int) 1 := ⟨List.mem_of_getElem? (i := 927) (by decide +kernel), List.mem_of_getElem? (i := 43) (by decide +kernel), ⟨by decide, by decide⟩, by decide +kernel, by decide⟩
theorem kL_94 : glk RL 94 yX9_hands := Or.inl (List.mem_of_getElem? (i := 928) (by decide +kernel))
theorem iX9_hands : Cond.instanceMethod yX9_hands ∈ lw_tbl := List.mem_of_getElem? (i := 929) (by decide +kernel)
theorem sX9_hands : Cond.selects yX9_hands.cls yX9_hands yX9_hands ∈ lw_tbl := List.mem_of_getElem? (i := 930) (by decide +kernel)
theorem mX9_hands : gmt yX9_hands cX9_hands 6 (some .int) 0 := ⟨List.mem_of_getElem? (i := 931) (by decide +kernel), List.mem_of_getElem? (i := 43) (by decide +kernel), ⟨by decide, by decide⟩, by decide +kernel, by decide⟩
theorem kL_98 : glk RL 98 yX9_match := Or.inl (List.mem_of_getElem? (i := 932) (by decide +kernel))
theorem iX9_match : Cond.instanceMethod yX9_match ∈ lw_tbl := List.mem_of_getElem? (i := 933) (by decide +kernel)
theorem sX9_match : Cond.selects yX9_match.cls yX9_match yX9_match ∈ lw_tbl := List.mem_of_getElem? (i := 934) (by decide +kernel)
theorem mX9_match : gmt yX9_match cX9_match 3 (some .int) 2 := ⟨List.mem_of_getElem? (i := 935) (by decide +kernel), List.mem_of_getElem? (i := 43) (by decide +kernel), ⟨by decide, by decide⟩, by decide +kernel, by decide⟩
theorem kX9_177 : glk RX9 177 yX9_layActs := Or.inl (List.mem_of_getElem? (i := 936) (by decide +kernel))
theorem iX9_layActs : Cond.instanceMethod yX9_layActs ∈ lw_tbl := List.mem_of_getElem? (i := 938) (by decide +kernel)
theorem mX9_layActs : gmt yX9_layActs cX9_layActs 4 (some .boolean) 1 := ⟨List.mem_of_getElem? (i := 939) (by decide +kernel), List.mem_of_getElem? (i := 43) (by decide +kernel), ⟨by decide, by decide⟩, by decide +kernel, by decide⟩
theorem kX9_180 : glk RX9 180 yX9_layMatch := Or.inl (List.mem_of_getElem? (i := 940) (by decide +kernel))
theorem iX9_layMatch : Cond.instanceMethod yX9_layMatch ∈ lw_tbl := List.mem_of_getElem? (i := 942) (by decide +kernel)
theorem mX9_layMatch : gmt yX9_layMatch cX9_layMatch 9 none 0 := ⟨List.mem_of_getElem? (i := 943) (by decide +kernel), List.mem_of_getElem? (i := 43) (by decide +kernel), ⟨by decide, by decide⟩, by decide +kernel, by decide⟩
theorem nX9_169 : Cond.constant RX9 169 (1000000) ∈ lw_tbl := List.mem_of_getElem? (i := 944) (by decide +kernel)
theorem nX9_176 : Cond.constant RX9 176 (46656) ∈ lw_tbl := List.mem_of_getElem? (i := 945) (by decide +kernel)
theorem kL_102 : glk RL 102 yX9_wrote := Or.inl (List.mem_of_getElem? (i := 946) (by decide +kernel))
theorem iX9_wrote : Cond.instanceMethod yX9_wrote ∈ lw_tbl := List.mem_of_getElem? (i := 947) (by decide +kernel)
theorem sX9_wrote : Cond.selects yX9_wrote.cls yX9_wrote yX9_wrote ∈ lw_tbl := List.mem_of_getElem? (i := 948) (by decide +kernel)
theorem mX9_wrote : gmt yX9_wrote cX9_wrote 3 (some .int) 2 := ⟨List.mem_of_getElem? (i := 949) (by decide +kernel), List.mem_of_getElem? (i := 43) (by decide +kernel), ⟨by decide, by decide⟩, by decide +kernel, by decide⟩
theorem kL_106 : glk RL 106 yX9_compare := Or.inl (List.mem_of_getElem? (i := 950) (by decide +kernel))
theorem iX9_compare : Cond.instanceMethod yX9_compare ∈ lw_tbl := List.mem_of_getElem? (i := 951) (by decide +kernel)
theorem sX9_compare : Cond.selects yX9_compare.cls yX9_compare yX9_compare ∈ lw_tbl := List.mem_of_getElem? (i := 952) (by decide +kernel)
theorem mX9_compare : gmt yX9_compare cX9_compare 4 (some .int) 1 := ⟨List.mem_of_getElem? (i := 953) (by decide +kernel), List.mem_of_getElem? (i := 43) (by decide +kernel), ⟨by decide, by decide⟩, by decide +kernel, by decide⟩
theorem kL_110 : glk RL 110 yX9_blots := Or.inl (List.mem_of_getElem? (i := 954) (by decide +kernel))
theorem iX9_blots : Cond.instanceMethod yX9_blots ∈ lw_tbl := List.mem_of_getElem? (i := 955) (by decide +kernel)
theorem sX9_blots : Cond.selects yX9_blots.cls yX9_blots yX9_blots ∈ lw_tbl := List.mem_of_getElem? (i := 956) (by decide +kernel)
theorem mX9_blots : gmt yX9_blots cX9_blots 5 (some .long) 4 := ⟨List.mem_of_getElem? (i := 957) (by decide +kernel), List.mem_of_getElem? (i := 43) (by decide +kernel), ⟨by decide, by decide⟩, by decide +kernel, by decide⟩
theorem kL_115 : glk RL 115 yX9_seen := Or.inl (List.mem_of_getElem? (i := 958) (by decide +kernel))
theorem iX9_seen : Cond.instanceMethod yX9_seen ∈ lw_tbl := List.mem_of_getElem? (i := 959) (by decide +kernel)
theorem sX9_seen : Cond.selects yX9_seen.cls yX9_seen yX9_seen ∈ lw_tbl := List.mem_of_getElem? (i := 960) (by decide +kernel)
theorem mX9_seen : gmt yX9_seen cX9_seen 5 (some .int) 4 := ⟨List.mem_of_getElem? (i := 961) (by decide +kernel), List.mem_of_getElem? (i := 43) (by decide +kernel), ⟨by decide, by decide⟩, by decide +kernel, by decide⟩
theorem kL_119 : glk RL 119 yX9_forget := Or.inl (List.mem_of_getElem? (i := 962) (by decide +kernel))
theorem iX9_forget : Cond.instanceMethod yX9_forget ∈ lw_tbl := List.mem_of_getElem? (i := 963) (by decide +kernel)
theorem sX9_forget : Cond.selects yX9_forget.cls yX9_forget yX9_forget ∈ lw_tbl := List.mem_of_getElem? (i := 964) (by decide +kernel)
theorem mX9_forget : gmt yX9_forget cX9_forget 2 (some .int) 0 := ⟨List.mem_of_getElem? (i := 965) (by decide +kernel), List.mem_of_getElem? (i := 43) (by decide +kernel), ⟨by decide, by decide⟩, by decide +kernel, by decide⟩
theorem kL_123 : glk RL 123 yX9_signs := Or.inl (List.mem_of_getElem? (i := 966) (by decide +kernel))
theorem iX9_signs : Cond.instanceMethod yX9_signs ∈ lw_tbl := List.mem_of_getElem? (i := 967) (by decide +kernel)
theorem sX9_signs : Cond.selects yX9_signs.cls yX9_signs yX9_signs ∈ lw_tbl := List.mem_of_getElem? (i := 968) (by decide +kernel)
theorem mX9_signs : gmt yX9_signs cX9_signs 1 (some .int) 0 := ⟨List.mem_of_getElem? (i := 969) (by decide +kernel), List.mem_of_getElem? (i := 43) (by decide +kernel), ⟨by decide, by decide⟩, by decide +kernel, by decide⟩
theorem kX9_190 : glk RX9 190 yX9_habits := Or.inl (List.mem_of_getElem? (i := 970) (by decide +kernel))
theorem iX9_habits : Cond.instanceMethod yX9_habits ∈ lw_tbl := List.mem_of_getElem? (i := 972) (by decide +kernel)
theorem mX9_habits : gmt yX9_habits cX9_habits 5 (some .int) 0 := ⟨List.mem_of_getElem? (i := 973) (by decide +kernel), List.mem_of_getElem? (i := 43) (by decide +kernel), ⟨by decide, by decide⟩, by decide +kernel, by decide⟩
theorem kX9_186 : glk RX9 186 yX9_doesSign := Or.inl (List.mem_of_getElem? (i := 974) (by decide +kernel))
theorem iX9_doesSign : Cond.instanceMethod yX9_doesSign ∈ lw_tbl := List.mem_of_getElem? (i := 976) (by decide +kernel)
theorem mX9_doesSign : gmt yX9_doesSign cX9_doesSign 5 (some .boolean) 4 := ⟨List.mem_of_getElem? (i := 977) (by decide +kernel), List.mem_of_getElem? (i := 43) (by decide +kernel), ⟨by decide, by decide⟩, by decide +kernel, by decide⟩
theorem kL_127 : glk RL 127 yX9_watch := Or.inl (List.mem_of_getElem? (i := 978) (by decide +kernel))
theorem iX9_watch : Cond.instanceMethod yX9_watch ∈ lw_tbl := List.mem_of_getElem? (i := 979) (by decide +kernel)
theorem sX9_watch : Cond.selects yX9_watch.cls yX9_watch yX9_watch ∈ lw_tbl := List.mem_of_getElem? (i := 980) (by decide +kernel)
theorem mX9_watch : gmt yX9_watch cX9_watch 10 (some .int) 1 := ⟨List.mem_of_getElem? (i := 981) (by decide +kernel), List.mem_of_getElem? (i := 43) (by decide +kernel), ⟨by decide, by decide⟩, by decide +kernel, by decide⟩
theorem kL_131 : glk RL 131 yX9_book := Or.inl (List.mem_of_getElem? (i := 982) (by decide +kernel))
theorem iX9_book : Cond.instanceMethod yX9_book ∈ lw_tbl := List.mem_of_getElem? (i := 983) (by decide +kernel)
theorem sX9_book : Cond.selects yX9_book.cls yX9_book yX9_book ∈ lw_tbl := List.mem_of_getElem? (i := 984) (by decide +kernel)
theorem mX9_book : gmt yX9_book cX9_book 8 (some .int) 3 := ⟨List.mem_of_getElem? (i := 985) (by decide +kernel), List.mem_of_getElem? (i := 43) (by decide +kernel), ⟨by decide, by decide⟩, by decide +kernel, by decide⟩
theorem nX9_193 : Cond.constant RX9 193 (65537) ∈ lw_tbl := List.mem_of_getElem? (i := 986) (by decide +kernel)
theorem kL_135 : glk RL 135 yX9_image := Or.inl (List.mem_of_getElem? (i := 987) (by decide +kernel))
theorem iX9_image : Cond.instanceMethod yX9_image ∈ lw_tbl := List.mem_of_getElem? (i := 988) (by decide +kernel)
theorem sX9_image : Cond.selects yX9_image.cls yX9_image yX9_image ∈ lw_tbl := List.mem_of_getElem? (i := 989) (by decide +kernel)
theorem mX9_image : gmt yX9_image cX9_image 4 (some .int) 1 := ⟨List.mem_of_getElem? (i := 990) (by decide +kernel), List.mem_of_getElem? (i := 43) (by decide +kernel), ⟨by decide, by decide⟩, by decide +kernel, by decide⟩
theorem kL_139 : glk RL 139 yX9_restore := Or.inl (List.mem_of_getElem? (i := 991) (by decide +kernel))
theorem iX9_restore : Cond.instanceMethod yX9_restore ∈ lw_tbl := List.mem_of_getElem? (i := 992) (by decide +kernel)
theorem sX9_restore : Cond.selects yX9_restore.cls yX9_restore yX9_restore ∈ lw_tbl := List.mem_of_getElem? (i := 993) (by decide +kernel)
theorem mX9_restore : gmt yX9_restore cX9_restore 4 (some .int) 1 := ⟨List.mem_of_getElem? (i := 994) (by decide +kernel), List.mem_of_getElem? (i := 43) (by decide +kernel), ⟨by decide, by decide⟩, by decide +kernel, by decide⟩
theorem kL_143 : glk RL 143 yX9_told := Or.inl (List.mem_of_getElem? (i := 995) (by decide +kernel))
theorem iX9_told : Cond.instanceMethod yX9_told ∈ lw_tbl := List.mem_of_getElem? (i := 996) (by decide +kernel)
theorem sX9_told : Cond.selects yX9_told.cls yX9_told yX9_told ∈ lw_tbl := List.mem_of_getElem? (i := 997) (by decide +kernel)
theorem mX9_told : gmt yX9_told cX9_told 2 (some .int) 1 := ⟨List.mem_of_getElem? (i := 998) (by decide +kernel), List.mem_of_getElem? (i := 43) (by decide +kernel), ⟨by decide, by decide⟩, by decide +kernel, by decide⟩
theorem sX2_tellAct : Cond.selects yX2_tellAct.cls yX2_tellAct yX2_tellAct ∈ lw_tbl := List.mem_of_getElem? (i := 0) (by decide +kernel)
theorem sX8_allCanBe : Cond.selects yX8_allCanBe.cls yX8_allCanBe yX8_allCanBe ∈ lw_tbl := List.mem_of_getElem? (i := 1) (by decide +kernel)
theorem sX6_meanOfBetter : Cond.selects yX6_meanOfBetter.cls yX6_meanOfBetter yX6_meanOfBetter ∈ lw_tbl := List.mem_of_getElem? (i := 2) (by decide +kernel)
theorem sX6_valueOfSigning : Cond.selects yX6_valueOfSigning.cls yX6_valueOfSigning yX6_valueOfSigning ∈ lw_tbl := List.mem_of_getElem? (i := 3) (by decide +kernel)
theorem sX4_mostCirclesInside : Cond.selects yX4_mostCirclesInside.cls yX4_mostCirclesInside yX4_mostCirclesInside ∈ lw_tbl := List.mem_of_getElem? (i := 4) (by decide +kernel)
theorem sX8_areTails : Cond.selects yX8_areTails.cls yX8_areTails yX8_areTails ∈ lw_tbl := List.mem_of_getElem? (i := 5) (by decide +kernel)
theorem sX3_weighSet : Cond.selects yX3_weighSet.cls yX3_weighSet yX3_weighSet ∈ lw_tbl := List.mem_of_getElem? (i := 6) (by decide +kernel)
theorem sX3_slipsWith : Cond.selects yX3_slipsWith.cls yX3_slipsWith yX3_slipsWith ∈ lw_tbl := List.mem_of_getElem? (i := 7) (by decide +kernel)
theorem sX3_firstWriter : Cond.selects yX3_firstWriter.cls yX3_firstWriter yX3_firstWriter ∈ lw_tbl := List.mem_of_getElem? (i := 8) (by decide +kernel)
theorem sX8_fittingHabits : Cond.selects yX8_fittingHabits.cls yX8_fittingHabits yX8_fittingHabits ∈ lw_tbl := List.mem_of_getElem? (i := 9) (by decide +kernel)
theorem sX8_signingHabits : Cond.selects yX8_signingHabits.cls yX8_signingHabits yX8_signingHabits ∈ lw_tbl := List.mem_of_getElem? (i := 10) (by decide +kernel)
theorem sX8_bestWatch : Cond.selects yX8_bestWatch.cls yX8_bestWatch yX8_bestWatch ∈ lw_tbl := List.mem_of_getElem? (i := 11) (by decide +kernel)
theorem sX9_isThere : Cond.selects yX9_isThere.cls yX9_isThere yX9_isThere ∈ lw_tbl := List.mem_of_getElem? (i := 12) (by decide +kernel)
theorem sX9_faultOf : Cond.selects yX9_faultOf.cls yX9_faultOf yX9_faultOf ∈ lw_tbl := List.mem_of_getElem? (i := 13) (by decide +kernel)
theorem sX9_goLives : Cond.selects yX9_goLives.cls yX9_goLives yX9_goLives ∈ lw_tbl := List.mem_of_getElem? (i := 14) (by decide +kernel)
theorem sX9_asNow : Cond.selects yX9_asNow.cls yX9_asNow yX9_asNow ∈ lw_tbl := List.mem_of_getElem? (i := 15) (by decide +kernel)
theorem sX9_some : Cond.selects yX9_some.cls yX9_some yX9_some ∈ lw_tbl := List.mem_of_getElem? (i := 16) (by decide +kernel)
theorem sX9_endYear : Cond.selects yX9_endYear.cls yX9_endYear yX9_endYear ∈ lw_tbl := List.mem_of_getElem? (i := 17) (by decide +kernel)
theorem sX9_signAct : Cond.selects yX9_signAct.cls yX9_signAct yX9_signAct ∈ lw_tbl := List.mem_of_getElem? (i := 18) (by decide +kernel)
theorem sX9_gains : Cond.selects yX9_gains.cls yX9_gains yX9_gains ∈ lw_tbl := List.mem_of_getElem? (i := 19) (by decide +kernel)
theorem sX9_forge : Cond.selects yX9_forge.cls yX9_forge yX9_forge ∈ lw_tbl := List.mem_of_getElem? (i := 20) (by decide +kernel)
theorem sX9_blot : Cond.selects yX9_blot.cls yX9_blot yX9_blot ∈ lw_tbl := List.mem_of_getElem? (i := 21) (by decide +kernel)
theorem sX9_hand : Cond.selects yX9_hand.cls yX9_hand yX9_hand ∈ lw_tbl := List.mem_of_getElem? (i := 22) (by decide +kernel)
theorem sX9_gets : Cond.selects yX9_gets.cls yX9_gets yX9_gets ∈ lw_tbl := List.mem_of_getElem? (i := 23) (by decide +kernel)
theorem sX9_barOfLives : Cond.selects yX9_barOfLives.cls yX9_barOfLives yX9_barOfLives ∈ lw_tbl := List.mem_of_getElem? (i := 24) (by decide +kernel)
theorem sX9_layBest : Cond.selects yX9_layBest.cls yX9_layBest yX9_layBest ∈ lw_tbl := List.mem_of_getElem? (i := 25) (by decide +kernel)
theorem sX9_weights : Cond.selects yX9_weights.cls yX9_weights yX9_weights ∈ lw_tbl := List.mem_of_getElem? (i := 26) (by decide +kernel)
theorem sX9_leastOf : Cond.selects yX9_leastOf.cls yX9_leastOf yX9_leastOf ∈ lw_tbl := List.mem_of_getElem? (i := 27) (by decide +kernel)
theorem sX9_netOf : Cond.selects yX9_netOf.cls yX9_netOf yX9_netOf ∈ lw_tbl := List.mem_of_getElem? (i := 28) (by decide +kernel)
theorem sX9_layActs : Cond.selects yX9_layActs.cls yX9_layActs yX9_layActs ∈ lw_tbl := List.mem_of_getElem? (i := 29) (by decide +kernel)
theorem sX9_layMatch : Cond.selects yX9_layMatch.cls yX9_layMatch yX9_layMatch ∈ lw_tbl := List.mem_of_getElem? (i := 30) (by decide +kernel)
theorem sX9_habits : Cond.selects yX9_habits.cls yX9_habits yX9_habits ∈ lw_tbl := List.mem_of_getElem? (i := 31) (by decide +kernel)
theorem sX9_doesSign : Cond.selects yX9_doesSign.cls yX9_doesSign yX9_doesSign ∈ lw_tbl := List.mem_of_getElem? (i := 32) (by decide +kernel)
theorem ncopy : Cond.native arraycopyName ∈ lw_tbl := List.mem_of_getElem? (i := 363) (by decide +kernel)
theorem zsys : Cond.initialized "java/lang/System" ∈ lw_tbl := List.mem_of_getElem? (i := 45) (by decide +kernel)
theorem cobj : Cond.code Lib.objectInit ⟨#[0xb1]⟩ 1 none ∈ lw_tbl := List.mem_of_getElem? (i := 54) (by decide +kernel)
end
section
/-! THE STATE. Folk: there, year, sheets, tail, worth, forged, debts -/
abbrev FolkS : Type := Int32 × Int32 × (Nat → Int32) × (Nat → Int32) × (Nat → Int32) × (Nat → Int32) × (Nat → Int32)
/-- folk, weight, sightOffer, sightSigned, sights, kept -/
abbrev WorldS : Type := FolkS × (Nat → Int32) × (Nat → Int32) × (Nat → Int32) × Int32 × Int32
/-- sign, count -/
abbrev PadS : Type := (Nat → Int32) × Int32
/-- kind, doer, number, other, length -/
abbrev ActS : Type := Int32 × Int32 × Int32 × Int32 × Int32
/-- after, act, acts, badAct, why, signed, bareAct -/
abbrev LivesS : Type := FolkS × ActS × Int32 × Int32 × Int32 × Int32 × Int32
/-- values, scales, known -/
abbrev PlanS : Type := (Nat → Int64) × (Nat → Int64) × Int32
/-- slips, ways, tailOfAct -/
abbrev MatS : Type := (Nat → Int32) × (Nat → Int32) × (Nat → Int32)
/-- sums, circles -/
abbrev NetS : Type := (Nat → Int32) × (Nat → Int32)
/-- the model: book now there tail weight sights sight said pad signed forgeries reason many bare best evens act wrote slips ways image isKept -/
abbrev ModS : Type := (Nat → Int32) × (Nat → Int32) × Int32 × (Nat → Int32) × (Nat → Int32) × Int32 × (Nat → Int32) × Int32 × (Nat → Int32) × Int32 × Int32 × Int32 × Int32 × Int32 × (Nat → Int64) × (Nat → Int32) × (Nat → Int32) × (Nat → Int32) × Int32 × Int32 × (Nat → Int32) × (Nat → Int32)
def imq (j : Nat) : Option Nat := if j = 0 then some 12 else if j = 1 then some 22 else none
/-- the whole world: 52 cells of the class (0 .. 51), 13 of the model (52 .. 64) -/
def hp (nw i0 i1 : WorldS) (pd : PadS) (lv : LivesS) (pl : PlanS) (mt : MatS) (nt : NetS) (m : ModS) : gH := [.inr (8, [.ref 1, .ref 11, .ref 32, .ref 34, .ref 42, .ref 45, .ref 49]),
  .inr (7, [.ref 2, .ref 8, .ref 9, .ref 10, .int nw.2.2.2.2.1, .int nw.2.2.2.2.2]),
  .inr (1, [.int nw.1.1, .int nw.1.2.1, .ref 3, .ref 4, .ref 5, .ref 6, .ref 7]),
  .inl (0, 6, .inl nw.1.2.2.1),
  .inl (0, 6, .inl nw.1.2.2.2.1),
  .inl (0, 6, .inl nw.1.2.2.2.2.1),
  .inl (0, 6, .inl nw.1.2.2.2.2.2.1),
  .inl (0, 36, .inl nw.1.2.2.2.2.2.2),
  .inl (0, 10, .inl nw.2.1),
  .inl (0, 8, .inl nw.2.2.1),
  .inl (2, 8, .inl nw.2.2.2.1),
  .inl (3, 2, .inr (.inr (.inr (.inr imq)))),
  .inr (7, [.ref 13, .ref 19, .ref 20, .ref 21, .int i0.2.2.2.2.1, .int i0.2.2.2.2.2]),
  .inr (1, [.int i0.1.1, .int i0.1.2.1, .ref 14, .ref 15, .ref 16, .ref 17, .ref 18]),
  .inl (0, 6, .inl i0.1.2.2.1),
  .inl (0, 6, .inl i0.1.2.2.2.1),
  .inl (0, 6, .inl i0.1.2.2.2.2.1),
  .inl (0, 6, .inl i0.1.2.2.2.2.2.1),
  .inl (0, 36, .inl i0.1.2.2.2.2.2.2),
  .inl (0, 10, .inl i0.2.1),
  .inl (0, 8, .inl i0.2.2.1),
  .inl (2, 8, .inl i0.2.2.2.1),
  .inr (7, [.ref 23, .ref 29, .ref 30, .ref 31, .int i1.2.2.2.2.1, .int i1.2.2.2.2.2]),
  .inr (1, [.int i1.1.1, .int i1.1.2.1, .ref 24, .ref 25, .ref 26, .ref 27, .ref 28]),
  .inl (0, 6, .inl i1.1.2.2.1),
  .inl (0, 6, .inl i1.1.2.2.2.1),
  .inl (0, 6, .inl i1.1.2.2.2.2.1),
  .inl (0, 6, .inl i1.1.2.2.2.2.2.1),
  .inl (0, 36, .inl i1.1.2.2.2.2.2.2),
  .inl (0, 10, .inl i1.2.1),
  .inl (0, 8, .inl i1.2.2.1),
  .inl (2, 8, .inl i1.2.2.2.1),
  .inr (5, [.ref 33, .int pd.2]),
  .inl (0, 60, .inl pd.1),
  .inr (2, [.ref 35, .ref 41, .int lv.2.2.1, .int lv.2.2.2.1, .int lv.2.2.2.2.1, .int lv.2.2.2.2.2.1, .int lv.2.2.2.2.2.2]),
  .inr (1, [.int lv.1.1, .int lv.1.2.1, .ref 36, .ref 37, .ref 38, .ref 39, .ref 40]),
  .inl (0, 6, .inl lv.1.2.2.1),
  .inl (0, 6, .inl lv.1.2.2.2.1),
  .inl (0, 6, .inl lv.1.2.2.2.2.1),
  .inl (0, 6, .inl lv.1.2.2.2.2.2.1),
  .inl (0, 36, .inl lv.1.2.2.2.2.2.2),
  .inr (0, [.int lv.2.1.1, .int lv.2.1.2.1, .int lv.2.1.2.2.1, .int lv.2.1.2.2.2.1, .int lv.2.1.2.2.2.2]),
  .inr (6, [.ref 43, .ref 44, .int pl.2.2]),
  .inl (1, 90, .inr (.inl pl.1)),
  .inl (1, 9, .inr (.inl pl.2.1)),
  .inr (3, [.ref 46, .ref 47, .ref 48]),
  .inl (0, 64, .inl mt.1),
  .inl (0, 64, .inl mt.2.1),
  .inl (0, 6, .inl mt.2.2),
  .inr (4, [.ref 50, .ref 51]),
  .inl (0, 64, .inl nt.1),
  .inl (0, 64, .inl nt.2),
  .inr (9, [.ref 53, .ref 54, .int m.2.2.1, .ref 55, .ref 56, .int m.2.2.2.2.2.1, .ref 57, .int m.2.2.2.2.2.2.2.1, .ref 58, .int m.2.2.2.2.2.2.2.2.2.1, .int m.2.2.2.2.2.2.2.2.2.2.1, .int m.2.2.2.2.2.2.2.2.2.2.2.1, .int m.2.2.2.2.2.2.2.2.2.2.2.2.1, .int m.2.2.2.2.2.2.2.2.2.2.2.2.2.1, .ref 59, .ref 60, .ref 61, .ref 62, .int m.2.2.2.2.2.2.2.2.2.2.2.2.2.2.2.2.2.2.1, .int m.2.2.2.2.2.2.2.2.2.2.2.2.2.2.2.2.2.2.2.1, .ref 63, .ref 64]),
  .inl (0, 61, .inl m.1),
  .inl (0, 61, .inl m.2.1),
  .inl (0, 6, .inl m.2.2.2.1),
  .inl (0, 10, .inl m.2.2.2.2.1),
  .inl (0, 32, .inl m.2.2.2.2.2.2.1),
  .inl (0, 60, .inl m.2.2.2.2.2.2.2.2.1),
  .inl (1, 110, .inr (.inl m.2.2.2.2.2.2.2.2.2.2.2.2.2.2.1)),
  .inl (0, 64, .inl m.2.2.2.2.2.2.2.2.2.2.2.2.2.2.2.1),
  .inl (0, 6, .inl m.2.2.2.2.2.2.2.2.2.2.2.2.2.2.2.2.1),
  .inl (0, 6, .inl m.2.2.2.2.2.2.2.2.2.2.2.2.2.2.2.2.2.1),
  .inl (0, 260, .inl m.2.2.2.2.2.2.2.2.2.2.2.2.2.2.2.2.2.2.2.2.1),
  .inl (2, 2, .inl m.2.2.2.2.2.2.2.2.2.2.2.2.2.2.2.2.2.2.2.2.2)]
abbrev m_book (m : ModS) : Nat → Int32 := m.1
abbrev m_now (m : ModS) : Nat → Int32 := m.2.1
abbrev m_there (m : ModS) : Int32 := m.2.2.1
abbrev m_tail (m : ModS) : Nat → Int32 := m.2.2.2.1
abbrev m_weight (m : ModS) : Nat → Int32 := m.2.2.2.2.1
abbrev m_sights (m : ModS) : Int32 := m.2.2.2.2.2.1
abbrev m_sight (m : ModS) : Nat → Int32 := m.2.2.2.2.2.2.1
abbrev m_said (m : ModS) : Int32 := m.2.2.2.2.2.2.2.1
abbrev m_pad (m : ModS) : Nat → Int32 := m.2.2.2.2.2.2.2.2.1
abbrev m_signed (m : ModS) : Int32 := m.2.2.2.2.2.2.2.2.2.1
abbrev m_forgeries (m : ModS) : Int32 := m.2.2.2.2.2.2.2.2.2.2.1
abbrev m_reason (m : ModS) : Int32 := m.2.2.2.2.2.2.2.2.2.2.2.1
abbrev m_many (m : ModS) : Int32 := m.2.2.2.2.2.2.2.2.2.2.2.2.1
abbrev m_bare (m : ModS) : Int32 := m.2.2.2.2.2.2.2.2.2.2.2.2.2.1
abbrev m_best (m : ModS) : Nat → Int64 := m.2.2.2.2.2.2.2.2.2.2.2.2.2.2.1
abbrev m_evens (m : ModS) : Nat → Int32 := m.2.2.2.2.2.2.2.2.2.2.2.2.2.2.2.1
abbrev m_act (m : ModS) : Nat → Int32 := m.2.2.2.2.2.2.2.2.2.2.2.2.2.2.2.2.1
abbrev m_wrote (m : ModS) : Nat → Int32 := m.2.2.2.2.2.2.2.2.2.2.2.2.2.2.2.2.2.1
abbrev m_slips (m : ModS) : Int32 := m.2.2.2.2.2.2.2.2.2.2.2.2.2.2.2.2.2.2.1
abbrev m_ways (m : ModS) : Int32 := m.2.2.2.2.2.2.2.2.2.2.2.2.2.2.2.2.2.2.2.1
abbrev m_image (m : ModS) : Nat → Int32 := m.2.2.2.2.2.2.2.2.2.2.2.2.2.2.2.2.2.2.2.2.1
abbrev m_isKept (m : ModS) : Nat → Int32 := m.2.2.2.2.2.2.2.2.2.2.2.2.2.2.2.2.2.2.2.2.2
def dt (r : Option Value) (h : gH) : Option Value → gH → Prop := fun r2 h2 => r2 = r ∧ h2 = h
def b2i (b : Bool) : Int32 := if b then 1 else 0
theorem b2i_nar (b : Bool) : narrow .boolean (.int (b2i b)) = .int (b2i b) := by cases b <;> rfl
theorem b2i_0 {b : Bool} : b2i b = 0 ↔ b = false := by cases b <;> decide
theorem b2i_n0 {b : Bool} : ¬ b2i b = 0 ↔ b = true := by cases b <;> decide
section Det
variable {E : gE} {y : MethodName} {cc : ByteArray} {nL : Nat} {ret : Option FieldType} {d kc ks mc ms pc : Nat} {L : List (Option Value)} {st : List Value} {h h2 : gH} {Q : Option Value → gH → Prop} {y2 : MethodName} {cc2 : ByteArray} {nL2 : Nat} {ret2 : Option FieldType} {idx n : Nat} {v : Value}
theorem go_cV {a ci : Nat} {as fs : List Value} {T : u_T} {N : Nat} {st0 : List Value} (hd : decode cc pc = .ok (.invokevirtual idx, 3)) (hm : gmt y2 cc2 nL2 ret2 n) (hk : glk y.cls idx y2) (hi : Cond.instanceMethod y2 ∈ lw_tbl) (hs : Cond.selects y2.cls y2 y2 ∈ lw_tbl) (hst : st0 = as.reverse ++ .ref a :: st) (hn : as.length = n) (ho : hg h a = some (.inr (ci, fs))) (hci : vwCl[ci]? = some (y2.cls, T, N)) (hR : Ret E y2 cc2 nL2 ret2 d 0 0 (.ref a :: as) h (dt (some v) h2)) (h8 : Nat.ble ((st.map fun v => v.category).sum) 8 = true) (hc1 : Nat.ble kc mc = true) (hs1 : Nat.ble ks ms = true) (kk : Go E y cc nL ret (d + 1) kc ks mc ms (pc + 3) L (v :: st) h2 Q) : Go E y cc nL ret (d + 1) kc ks mc ms pc L st0 h Q :=
  go_callV hd hm hk hi hs hci hst hn ho hR h8 hc1 hs1 fun r g q => by obtain ⟨rfl, rfl⟩ := q; exact kk
theorem go_cVv {a ci : Nat} {as fs : List Value} {T : u_T} {N : Nat} {st0 : List Value} (hd : decode cc pc = .ok (.invokevirtual idx, 3)) (hm : gmt y2 cc2 nL2 ret2 n) (hk : glk y.cls idx y2) (hi : Cond.instanceMethod y2 ∈ lw_tbl) (hs : Cond.selects y2.cls y2 y2 ∈ lw_tbl) (hst : st0 = as.reverse ++ .ref a :: st) (hn : as.length = n) (ho : hg h a = some (.inr (ci, fs))) (hci : vwCl[ci]? = some (y2.cls, T, N)) (hR : Ret E y2 cc2 nL2 ret2 d 0 0 (.ref a :: as) h (dt none h2)) (h8 : Nat.ble ((st.map fun v => v.category).sum) 8 = true) (hc1 : Nat.ble kc mc = true) (hs1 : Nat.ble ks ms = true) (kk : Go E y cc nL ret (d + 1) kc ks mc ms (pc + 3) L st h2 Q) : Go E y cc nL ret (d + 1) kc ks mc ms pc L st0 h Q :=
  go_callV hd hm hk hi hs hci hst hn ho hR h8 hc1 hs1 fun r g q => by obtain ⟨rfl, rfl⟩ := q; exact kk
theorem go_cS {as : List Value} {st0 : List Value} (hd : decode cc pc = .ok (.invokestatic idx, 3)) (hm : gmt y2 cc2 nL2 ret2 n) (hk : glk y.cls idx y2) (hi : Cond.static y2 ∈ lw_tbl) (hst : st0 = as.reverse ++ st) (hn : as.length = n) (hR : Ret E y2 cc2 nL2 ret2 d 0 0 as h (dt (some v) h2)) (h8 : Nat.ble ((st.map fun v => v.category).sum) 8 = true) (hc1 : Nat.ble kc mc = true) (hs1 : Nat.ble ks ms = true) (kk : Go E y cc nL ret (d + 1) kc ks mc ms (pc + 3) L (v :: st) h2 Q) : Go E y cc nL ret (d + 1) kc ks mc ms pc L st0 h Q :=
  go_callS hd hm hk hi hst hn hR h8 hc1 hs1 fun r g q => by obtain ⟨rfl, rfl⟩ := q; exact kk
theorem go_bif_eq {b : Bool} {off : Int} {tgt : Nat} (hd : decode cc pc = .ok (.ifCond .eq off, 3)) (ht : (pc : Int) + off = (tgt : Int)) (kt : b = false → Go E y cc nL ret d kc ks mc ms tgt L st h Q) (kf : b = true → Go E y cc nL ret d kc ks mc ms (pc + 3) L st h Q) : Go E y cc nL ret d kc ks mc ms pc L (.int (b2i b) :: st) h Q :=
  go_if_eq hd ht (fun q => kt (b2i_0.mp q)) (fun q => kf (b2i_n0.mp q))
theorem go_bif_ne {b : Bool} {off : Int} {tgt : Nat} (hd : decode cc pc = .ok (.ifCond .ne off, 3)) (ht : (pc : Int) + off = (tgt : Int)) (kt : b = true → Go E y cc nL ret d kc ks mc ms tgt L st h Q) (kf : b = false → Go E y cc nL ret d kc ks mc ms (pc + 3) L st h Q) : Go E y cc nL ret d kc ks mc ms pc L (.int (b2i b) :: st) h Q :=
  go_if_ne hd ht (fun q => kt (b2i_n0.mp q)) (fun q => kf (b2i_0.mp q))
end Det
section Det2
variable {E : gE} {y : MethodName} {cc : ByteArray} {nL : Nat} {ret : Option FieldType} {d kc ks mc ms pc : Nat} {L : List (Option Value)} {st : List Value} {h : gH} {Q : Option Value → gH → Prop}
theorem go_ialdN {a n : Nat} {f : Nat → Int32} (k : Nat) (hd : decode cc pc = .ok (.iaload, 1)) (ho : hg h a = some (.inl (0, n, .inl f))) (hk : k < n) (hn : Nat.blt n 2147483648 = true) (kk : Go E y cc nL ret d kc ks mc ms (pc + 1) L (.int (f k) :: st) h Q) : Go E y cc nL ret d kc ks mc ms pc L (.int (nI k) :: .ref a :: st) h Q := by
  have hn2 : n < 2 ^ 31 := Nat.blt_eq ▸ hn
  refine go_iald hd ho (vp_in_nI hk hn2) ?_
  rw [nI_clamp (Nat.lt_trans hk hn2)]
  exact kk
theorem go_zaldN {a n : Nat} {f : Nat → Int32} (k : Nat) (hd : decode cc pc = .ok (.baload, 1)) (ho : hg h a = some (.inl (2, n, .inl f))) (hk : k < n) (hn : Nat.blt n 2147483648 = true) (kk : Go E y cc nL ret d kc ks mc ms (pc + 1) L (.int (f k) :: st) h Q) : Go E y cc nL ret d kc ks mc ms pc L (.int (nI k) :: .ref a :: st) h Q := by
  have hn2 : n < 2 ^ 31 := Nat.blt_eq ▸ hn
  refine go_zald hd ho (vp_in_nI hk hn2) ?_
  rw [nI_clamp (Nat.lt_trans hk hn2)]
  exact kk
theorem go_laldN {a n : Nat} {f : Nat → Int64} (k : Nat) (hd : decode cc pc = .ok (.laload, 1)) (ho : hg h a = some (.inl (1, n, .inr (.inl f)))) (hk : k < n) (hn : Nat.blt n 2147483648 = true) (kk : Go E y cc nL ret d kc ks mc ms (pc + 1) L (.long (f k) :: st) h Q) : Go E y cc nL ret d kc ks mc ms pc L (.int (nI k) :: .ref a :: st) h Q := by
  have hn2 : n < 2 ^ 31 := Nat.blt_eq ▸ hn
  refine go_lald hd ho (vp_in_nI hk hn2) ?_
  rw [nI_clamp (Nat.lt_trans hk hn2)]
  exact kk
theorem go_iastN {a n : Nat} {f : Nat → Int32} {x : Int32} (k : Nat) (hd : decode cc pc = .ok (.iastore, 1)) (ho : hg h a = some (.inl (0, n, .inl f))) (hk : k < n) (hn : Nat.blt n 2147483648 = true) (kk : Go E y cc nL ret d kc ks mc ms (pc + 1) L st (hs h a (.inl (0, n, .inl (upd f k x)))) Q) : Go E y cc nL ret d kc ks mc ms pc L (.int x :: .int (nI k) :: .ref a :: st) h Q := by
  have hn2 : n < 2 ^ 31 := Nat.blt_eq ▸ hn
  refine go_iast hd ho (vp_in_nI hk hn2) ?_
  rw [nI_clamp (Nat.lt_trans hk hn2)]
  exact kk
theorem go_zastN {a n : Nat} {f : Nat → Int32} {x : Int32} (k : Nat) (hd : decode cc pc = .ok (.bastore, 1)) (ho : hg h a = some (.inl (2, n, .inl f))) (hk : k < n) (hn : Nat.blt n 2147483648 = true) (hx : narrow .boolean (.int x) = .int x) (kk : Go E y cc nL ret d kc ks mc ms (pc + 1) L st (hs h a (.inl (2, n, .inl (upd f k x)))) Q) : Go E y cc nL ret d kc ks mc ms pc L (.int x :: .int (nI k) :: .ref a :: st) h Q := by
  have hn2 : n < 2 ^ 31 := Nat.blt_eq ▸ hn
  refine go_zast hd ho (vp_in_nI hk hn2) hx ?_
  rw [nI_clamp (Nat.lt_trans hk hn2)]
  exact kk
theorem go_lastN {a n : Nat} {f : Nat → Int64} {x : Int64} (k : Nat) (hd : decode cc pc = .ok (.lastore, 1)) (ho : hg h a = some (.inl (1, n, .inr (.inl f)))) (hk : k < n) (hn : Nat.blt n 2147483648 = true) (kk : Go E y cc nL ret d kc ks mc ms (pc + 1) L st (hs h a (.inl (1, n, .inr (.inl (vp_updL f k x))))) Q) : Go E y cc nL ret d kc ks mc ms pc L (.long x :: .int (nI k) :: .ref a :: st) h Q := by
  have hn2 : n < 2 ^ 31 := Nat.blt_eq ▸ hn
  refine go_last hd ho (vp_in_nI hk hn2) ?_
  rw [nI_clamp (Nat.lt_trans hk hn2)]
  exact kk
end Det2
abbrev fy (F : FolkS) : Int32 := F.2.1
abbrev fs_ (F : FolkS) : Nat → Int32 := F.2.2.1
abbrev ft (F : FolkS) : Nat → Int32 := F.2.2.2.1
abbrev fw (F : FolkS) : Nat → Int32 := F.2.2.2.2.1
abbrev fg (F : FolkS) : Nat → Int32 := F.2.2.2.2.2.1
abbrev fd (F : FolkS) : Nat → Int32 := F.2.2.2.2.2.2
abbrev fTh (F : FolkS) (t : Int32) : FolkS := (t, F.2)
abbrev fYr (F : FolkS) (t : Int32) : FolkS := (F.1, t, F.2.2)
abbrev fSh (F : FolkS) (f : Nat → Int32) : FolkS := (F.1, F.2.1, f, F.2.2.2)
abbrev fTa (F : FolkS) (f : Nat → Int32) : FolkS := (F.1, F.2.1, F.2.2.1, f, F.2.2.2.2)
abbrev fWo (F : FolkS) (f : Nat → Int32) : FolkS := (F.1, F.2.1, F.2.2.1, F.2.2.2.1, f, F.2.2.2.2.2)
abbrev fFo (F : FolkS) (f : Nat → Int32) : FolkS := (F.1, F.2.1, F.2.2.1, F.2.2.2.1, F.2.2.2.2.1, f, F.2.2.2.2.2.2)
abbrev fDe (F : FolkS) (f : Nat → Int32) : FolkS := (F.1, F.2.1, F.2.2.1, F.2.2.2.1, F.2.2.2.2.1, F.2.2.2.2.2.1, f)
def sumI (f : Nat → Int32) : Nat → Int32
  | 0 => 0
  | n + 1 => sumI f n + f n
theorem lit_le {k n : Nat} (h : n ≤ k) (hk : k < 2 ^ 31) : (OfNat.ofNat n : Int32) ≤ nI k := nI_le h hk
theorem lit_nle {k n : Nat} (h : k < n) (hn : n < 2 ^ 31) : ¬ (OfNat.ofNat n : Int32) ≤ nI k := nI_ge h hn
end
section
def isInB (v lo hi : Int32) : Bool := decide (lo ≤ v) && decide (v ≤ hi)
set_option maxRecDepth 100000 in
set_option maxHeartbeats 4000000 in
theorem rX8_isIn {E : gE} {d : Nat} {v lo hi : Int32} {h : gH} : Ret E yX8_isIn cX8_isIn 3 (some .boolean) d 0 0 [.int v, .int lo, .int hi] h (dt (some (.int (b2i (isInB v lo hi)))) h) := by
  refine ret_of_go (L := [_, _, _]) (by decide) (Nat.le_of_ble_eq_true rfl) rfl ?_
  refine go_iload_n dX8_isIn_0 rfl ?_
  refine go_iload_n dX8_isIn_1 rfl ?_
  refine go_icmp_lt (tgt := 14) dX8_isIn_2 (by decide) (fun q2 => ?_) (fun q2 => ?_)
  · refine go_iconst (v := 0) dX8_isIn_14 (by decide) ?_
    refine go_zret dX8_isIn_15 (by decide) rfl rfl ?_
    refine ⟨?_, rfl⟩
    simp only [isInB, Int32.le_iff_toInt_le, Int32.lt_iff_toInt_lt] at *
    simp [b2i]
    try omega
  · refine go_iload_n dX8_isIn_5 rfl ?_
    refine go_iload_n dX8_isIn_6 rfl ?_
    refine go_icmp_gt (tgt := 14) dX8_isIn_7 (by decide) (fun q7 => ?_) (fun q7 => ?_)
    · refine go_iconst (v := 0) dX8_isIn_14 (by decide) ?_
      refine go_zret dX8_isIn_15 (by decide) rfl rfl ?_
      refine ⟨?_, rfl⟩
      simp only [isInB, Int32.le_iff_toInt_le, Int32.lt_iff_toInt_lt] at *
      simp [b2i]
      try omega
    · refine go_iconst (v := 1) dX8_isIn_10 (by decide) ?_
      refine go_goto (tgt := 15) dX8_isIn_11 (by decide) ?_
      refine go_zret dX8_isIn_15 (by decide) rfl rfl ?_
      refine ⟨?_, rfl⟩
      simp only [isInB, Int32.le_iff_toInt_le, Int32.lt_iff_toInt_lt] at *
      simp [b2i]
      try omega
def ush (a b : Int32) : Int32 := (a.toUInt32 >>> (b.toUInt32 &&& Int32.toUInt32 31)).toInt32
def bcF (x : Int32) : Int32 :=
  let a := x - (ush x 1 &&& 1431655765)
  let b := (a &&& 858993459) + (ush a 2 &&& 858993459)
  let c := (b + ush b 4) &&& 252645135
  let d := c + ush c 8
  let e := d + ush d 16
  e &&& 63
set_option maxRecDepth 100000 in
set_option maxHeartbeats 4000000 in
theorem rJ6_bitCount_0f7a4 {E : gE} {d : Nat} {x : Int32} {h : gH} : Ret E yJ6_bitCount_0f7a4 cJ6_bitCount_0f7a4 1 (some .int) d 0 0 [.int x] h (dt (some (.int (bcF x))) h) := by
  refine ret_of_go (L := [_]) (by decide) (Nat.le_of_ble_eq_true rfl) rfl ?_
  refine go_iload_n dJ6_bitCount_0f7a4_0 rfl ?_
  refine go_iload_n dJ6_bitCount_0f7a4_1 rfl ?_
  refine go_iconst (v := 1) dJ6_bitCount_0f7a4_2 (by decide) ?_
  refine go_iushr dJ6_bitCount_0f7a4_3 ?_
  refine go_ldc_w dJ6_bitCount_0f7a4_4 nJ6_265 ?_
  refine go_iand dJ6_bitCount_0f7a4_7 ?_
  refine go_isub dJ6_bitCount_0f7a4_8 ?_
  refine go_istore_n (L' := [_]) dJ6_bitCount_0f7a4_9 rfl rfl rfl ?_
  refine go_iload_n dJ6_bitCount_0f7a4_10 rfl ?_
  refine go_ldc_w dJ6_bitCount_0f7a4_11 nJ6_266 ?_
  refine go_iand dJ6_bitCount_0f7a4_14 ?_
  refine go_iload_n dJ6_bitCount_0f7a4_15 rfl ?_
  refine go_iconst (v := 2) dJ6_bitCount_0f7a4_16 (by decide) ?_
  refine go_iushr dJ6_bitCount_0f7a4_17 ?_
  refine go_ldc_w dJ6_bitCount_0f7a4_18 nJ6_266 ?_
  refine go_iand dJ6_bitCount_0f7a4_21 ?_
  refine go_iadd dJ6_bitCount_0f7a4_22 ?_
  refine go_istore_n (L' := [_]) dJ6_bitCount_0f7a4_23 rfl rfl rfl ?_
  refine go_iload_n dJ6_bitCount_0f7a4_24 rfl ?_
  refine go_iload_n dJ6_bitCount_0f7a4_25 rfl ?_
  refine go_iconst (v := 4) dJ6_bitCount_0f7a4_26 (by decide) ?_
  refine go_iushr dJ6_bitCount_0f7a4_27 ?_
  refine go_iadd dJ6_bitCount_0f7a4_28 ?_
  refine go_ldc_w dJ6_bitCount_0f7a4_29 nJ6_267 ?_
  refine go_iand dJ6_bitCount_0f7a4_32 ?_
  refine go_istore_n (L' := [_]) dJ6_bitCount_0f7a4_33 rfl rfl rfl ?_
  refine go_iload_n dJ6_bitCount_0f7a4_34 rfl ?_
  refine go_iload_n dJ6_bitCount_0f7a4_35 rfl ?_
  refine go_bipush (v := 8) dJ6_bitCount_0f7a4_36 (by decide) ?_
  refine go_iushr dJ6_bitCount_0f7a4_38 ?_
  refine go_iadd dJ6_bitCount_0f7a4_39 ?_
  refine go_istore_n (L' := [_]) dJ6_bitCount_0f7a4_40 rfl rfl rfl ?_
  refine go_iload_n dJ6_bitCount_0f7a4_41 rfl ?_
  refine go_iload_n dJ6_bitCount_0f7a4_42 rfl ?_
  refine go_bipush (v := 16) dJ6_bitCount_0f7a4_43 (by decide) ?_
  refine go_iushr dJ6_bitCount_0f7a4_45 ?_
  refine go_iadd dJ6_bitCount_0f7a4_46 ?_
  refine go_istore_n (L' := [_]) dJ6_bitCount_0f7a4_47 rfl rfl rfl ?_
  refine go_iload_n dJ6_bitCount_0f7a4_48 rfl ?_
  refine go_bipush (v := 63) dJ6_bitCount_0f7a4_49 (by decide) ?_
  refine go_iand dJ6_bitCount_0f7a4_51 ?_
  refine go_iret dJ6_bitCount_0f7a4_52 rfl rfl ?_
  exact ⟨rfl, rfl⟩
def ntF4 (n i : Int32) : Int32 := n + ush i 1
def ntF3 (n i : Int32) : Int32 := if i ≤ 4 then ntF4 n i else ntF4 (n + 2) (ush i 2)
def ntF2 (n i : Int32) : Int32 := if i ≤ 16 then ntF3 n i else ntF3 (n + 4) (ush i 4)
def ntF1 (n i : Int32) : Int32 := if i ≤ 256 then ntF2 n i else ntF2 (n + 8) (ush i 8)
def ntF0 (n i : Int32) : Int32 := if i ≤ 65536 then ntF1 n i else ntF1 (n + 16) (ush i 16)
def ntF (x : Int32) : Int32 := if 0 < ((x ^^^ (-1)) &&& (x - 1)) then ntF0 1 ((x ^^^ (-1)) &&& (x - 1)) else ((x ^^^ (-1)) &&& (x - 1)) &&& 32
set_option maxRecDepth 100000 in
set_option maxHeartbeats 4000000 in
theorem rJ6_numberOfTrailingZeros_0f7a4 {E : gE} {d : Nat} {x : Int32} {h : gH} : Ret E yJ6_numberOfTrailingZeros_0f7a4 cJ6_numberOfTrailingZeros_0f7a4 2 (some .int) d 0 0 [.int x] h (dt (some (.int (ntF x))) h) := by
  refine ret_of_go (L := [_, _]) (by decide) (Nat.le_of_ble_eq_true rfl) rfl ?_
  refine go_iload_n dJ6_numberOfTrailingZeros_0f7a4_0 rfl ?_
  refine go_iconst (v := (-1)) dJ6_numberOfTrailingZeros_0f7a4_1 (by decide) ?_
  refine go_ixor dJ6_numberOfTrailingZeros_0f7a4_2 ?_
  refine go_iload_n dJ6_numberOfTrailingZeros_0f7a4_3 rfl ?_
  refine go_iconst (v := 1) dJ6_numberOfTrailingZeros_0f7a4_4 (by decide) ?_
  refine go_isub dJ6_numberOfTrailingZeros_0f7a4_5 ?_
  refine go_iand dJ6_numberOfTrailingZeros_0f7a4_6 ?_
  refine go_istore_n (L' := [_, _]) dJ6_numberOfTrailingZeros_0f7a4_7 rfl rfl rfl ?_
  refine go_iload_n dJ6_numberOfTrailingZeros_0f7a4_8 rfl ?_
  refine go_if_gt (tgt := 17) dJ6_numberOfTrailingZeros_0f7a4_9 (by decide) (fun q9 => ?_) (fun q9 => ?_)
  · refine go_iconst (v := 1) dJ6_numberOfTrailingZeros_0f7a4_17 (by decide) ?_
    refine go_istore_n (L' := [_, _]) dJ6_numberOfTrailingZeros_0f7a4_18 rfl rfl rfl ?_
    refine go_iload_n dJ6_numberOfTrailingZeros_0f7a4_19 rfl ?_
    refine go_ldc_w dJ6_numberOfTrailingZeros_0f7a4_20 nJ6_264 ?_
    refine go_icmp_le (tgt := 34) dJ6_numberOfTrailingZeros_0f7a4_23 (by decide) (fun q23 => ?_) (fun q23 => ?_)
    · refine go_iload_n dJ6_numberOfTrailingZeros_0f7a4_34 rfl ?_
      refine go_sipush (v := 256) dJ6_numberOfTrailingZeros_0f7a4_35 (by decide) ?_
      refine go_icmp_le (tgt := 49) dJ6_numberOfTrailingZeros_0f7a4_38 (by decide) (fun q38 => ?_) (fun q38 => ?_)
      · refine go_iload_n dJ6_numberOfTrailingZeros_0f7a4_49 rfl ?_
        refine go_bipush (v := 16) dJ6_numberOfTrailingZeros_0f7a4_50 (by decide) ?_
        refine go_icmp_le (tgt := 62) dJ6_numberOfTrailingZeros_0f7a4_52 (by decide) (fun q52 => ?_) (fun q52 => ?_)
        · refine go_iload_n dJ6_numberOfTrailingZeros_0f7a4_62 rfl ?_
          refine go_iconst (v := 4) dJ6_numberOfTrailingZeros_0f7a4_63 (by decide) ?_
          refine go_icmp_le (tgt := 74) dJ6_numberOfTrailingZeros_0f7a4_64 (by decide) (fun q64 => ?_) (fun q64 => ?_)
          · refine go_iload_n dJ6_numberOfTrailingZeros_0f7a4_74 rfl ?_
            refine go_iload_n dJ6_numberOfTrailingZeros_0f7a4_75 rfl ?_
            refine go_iconst (v := 1) dJ6_numberOfTrailingZeros_0f7a4_76 (by decide) ?_
            refine go_iushr dJ6_numberOfTrailingZeros_0f7a4_77 ?_
            refine go_iadd dJ6_numberOfTrailingZeros_0f7a4_78 ?_
            refine go_iret dJ6_numberOfTrailingZeros_0f7a4_79 rfl rfl ?_
            exact ⟨by simp only [ntF, ntF0, ntF1, ntF2, ntF3, ntF4, ush, *, if_true, if_false] <;> rfl, rfl⟩
          · refine go_iinc (L' := [_, _]) dJ6_numberOfTrailingZeros_0f7a4_67 rfl rfl rfl rfl rfl ?_
            refine go_iload_n dJ6_numberOfTrailingZeros_0f7a4_70 rfl ?_
            refine go_iconst (v := 2) dJ6_numberOfTrailingZeros_0f7a4_71 (by decide) ?_
            refine go_iushr dJ6_numberOfTrailingZeros_0f7a4_72 ?_
            refine go_istore_n (L' := [_, _]) dJ6_numberOfTrailingZeros_0f7a4_73 rfl rfl rfl ?_
            refine go_iload_n dJ6_numberOfTrailingZeros_0f7a4_74 rfl ?_
            refine go_iload_n dJ6_numberOfTrailingZeros_0f7a4_75 rfl ?_
            refine go_iconst (v := 1) dJ6_numberOfTrailingZeros_0f7a4_76 (by decide) ?_
            refine go_iushr dJ6_numberOfTrailingZeros_0f7a4_77 ?_
            refine go_iadd dJ6_numberOfTrailingZeros_0f7a4_78 ?_
            refine go_iret dJ6_numberOfTrailingZeros_0f7a4_79 rfl rfl ?_
            exact ⟨by simp only [ntF, ntF0, ntF1, ntF2, ntF3, ntF4, ush, *, if_true, if_false] <;> rfl, rfl⟩
        · refine go_iinc (L' := [_, _]) dJ6_numberOfTrailingZeros_0f7a4_55 rfl rfl rfl rfl rfl ?_
          refine go_iload_n dJ6_numberOfTrailingZeros_0f7a4_58 rfl ?_
          refine go_iconst (v := 4) dJ6_numberOfTrailingZeros_0f7a4_59 (by decide) ?_
          refine go_iushr dJ6_numberOfTrailingZeros_0f7a4_60 ?_
          refine go_istore_n (L' := [_, _]) dJ6_numberOfTrailingZeros_0f7a4_61 rfl rfl rfl ?_
          refine go_iload_n dJ6_numberOfTrailingZeros_0f7a4_62 rfl ?_
          refine go_iconst (v := 4) dJ6_numberOfTrailingZeros_0f7a4_63 (by decide) ?_
          refine go_icmp_le (tgt := 74) dJ6_numberOfTrailingZeros_0f7a4_64 (by decide) (fun q64 => ?_) (fun q64 => ?_)
          · refine go_iload_n dJ6_numberOfTrailingZeros_0f7a4_74 rfl ?_
            refine go_iload_n dJ6_numberOfTrailingZeros_0f7a4_75 rfl ?_
            refine go_iconst (v := 1) dJ6_numberOfTrailingZeros_0f7a4_76 (by decide) ?_
            refine go_iushr dJ6_numberOfTrailingZeros_0f7a4_77 ?_
            refine go_iadd dJ6_numberOfTrailingZeros_0f7a4_78 ?_
            refine go_iret dJ6_numberOfTrailingZeros_0f7a4_79 rfl rfl ?_
            exact ⟨by simp only [ntF, ntF0, ntF1, ntF2, ntF3, ntF4, ush, *, if_true, if_false] <;> rfl, rfl⟩
          · refine go_iinc (L' := [_, _]) dJ6_numberOfTrailingZeros_0f7a4_67 rfl rfl rfl rfl rfl ?_
            refine go_iload_n dJ6_numberOfTrailingZeros_0f7a4_70 rfl ?_
            refine go_iconst (v := 2) dJ6_numberOfTrailingZeros_0f7a4_71 (by decide) ?_
            refine go_iushr dJ6_numberOfTrailingZeros_0f7a4_72 ?_
            refine go_istore_n (L' := [_, _]) dJ6_numberOfTrailingZeros_0f7a4_73 rfl rfl rfl ?_
            refine go_iload_n dJ6_numberOfTrailingZeros_0f7a4_74 rfl ?_
            refine go_iload_n dJ6_numberOfTrailingZeros_0f7a4_75 rfl ?_
            refine go_iconst (v := 1) dJ6_numberOfTrailingZeros_0f7a4_76 (by decide) ?_
            refine go_iushr dJ6_numberOfTrailingZeros_0f7a4_77 ?_
            refine go_iadd dJ6_numberOfTrailingZeros_0f7a4_78 ?_
            refine go_iret dJ6_numberOfTrailingZeros_0f7a4_79 rfl rfl ?_
            exact ⟨by simp only [ntF, ntF0, ntF1, ntF2, ntF3, ntF4, ush, *, if_true, if_false] <;> rfl, rfl⟩
      · refine go_iinc (L' := [_, _]) dJ6_numberOfTrailingZeros_0f7a4_41 rfl rfl rfl rfl rfl ?_
        refine go_iload_n dJ6_numberOfTrailingZeros_0f7a4_44 rfl ?_
        refine go_bipush (v := 8) dJ6_numberOfTrailingZeros_0f7a4_45 (by decide) ?_
        refine go_iushr dJ6_numberOfTrailingZeros_0f7a4_47 ?_
        refine go_istore_n (L' := [_, _]) dJ6_numberOfTrailingZeros_0f7a4_48 rfl rfl rfl ?_
        refine go_iload_n dJ6_numberOfTrailingZeros_0f7a4_49 rfl ?_
        refine go_bipush (v := 16) dJ6_numberOfTrailingZeros_0f7a4_50 (by decide) ?_
        refine go_icmp_le (tgt := 62) dJ6_numberOfTrailingZeros_0f7a4_52 (by decide) (fun q52 => ?_) (fun q52 => ?_)
        · refine go_iload_n dJ6_numberOfTrailingZeros_0f7a4_62 rfl ?_
          refine go_iconst (v := 4) dJ6_numberOfTrailingZeros_0f7a4_63 (by decide) ?_
          refine go_icmp_le (tgt := 74) dJ6_numberOfTrailingZeros_0f7a4_64 (by decide) (fun q64 => ?_) (fun q64 => ?_)
          · refine go_iload_n dJ6_numberOfTrailingZeros_0f7a4_74 rfl ?_
            refine go_iload_n dJ6_numberOfTrailingZeros_0f7a4_75 rfl ?_
            refine go_iconst (v := 1) dJ6_numberOfTrailingZeros_0f7a4_76 (by decide) ?_
            refine go_iushr dJ6_numberOfTrailingZeros_0f7a4_77 ?_
            refine go_iadd dJ6_numberOfTrailingZeros_0f7a4_78 ?_
            refine go_iret dJ6_numberOfTrailingZeros_0f7a4_79 rfl rfl ?_
            exact ⟨by simp only [ntF, ntF0, ntF1, ntF2, ntF3, ntF4, ush, *, if_true, if_false] <;> rfl, rfl⟩
          · refine go_iinc (L' := [_, _]) dJ6_numberOfTrailingZeros_0f7a4_67 rfl rfl rfl rfl rfl ?_
            refine go_iload_n dJ6_numberOfTrailingZeros_0f7a4_70 rfl ?_
            refine go_iconst (v := 2) dJ6_numberOfTrailingZeros_0f7a4_71 (by decide) ?_
            refine go_iushr dJ6_numberOfTrailingZeros_0f7a4_72 ?_
            refine go_istore_n (L' := [_, _]) dJ6_numberOfTrailingZeros_0f7a4_73 rfl rfl rfl ?_
            refine go_iload_n dJ6_numberOfTrailingZeros_0f7a4_74 rfl ?_
            refine go_iload_n dJ6_numberOfTrailingZeros_0f7a4_75 rfl ?_
            refine go_iconst (v := 1) dJ6_numberOfTrailingZeros_0f7a4_76 (by decide) ?_
            refine go_iushr dJ6_numberOfTrailingZeros_0f7a4_77 ?_
            refine go_iadd dJ6_numberOfTrailingZeros_0f7a4_78 ?_
            refine go_iret dJ6_numberOfTrailingZeros_0f7a4_79 rfl rfl ?_
            exact ⟨by simp only [ntF, ntF0, ntF1, ntF2, ntF3, ntF4, ush, *, if_true, if_false] <;> rfl, rfl⟩
        · refine go_iinc (L' := [_, _]) dJ6_numberOfTrailingZeros_0f7a4_55 rfl rfl rfl rfl rfl ?_
          refine go_iload_n dJ6_numberOfTrailingZeros_0f7a4_58 rfl ?_
          refine go_iconst (v := 4) dJ6_numberOfTrailingZeros_0f7a4_59 (by decide) ?_
          refine go_iushr dJ6_numberOfTrailingZeros_0f7a4_60 ?_
          refine go_istore_n (L' := [_, _]) dJ6_numberOfTrailingZeros_0f7a4_61 rfl rfl rfl ?_
          refine go_iload_n dJ6_numberOfTrailingZeros_0f7a4_62 rfl ?_
          refine go_iconst (v := 4) dJ6_numberOfTrailingZeros_0f7a4_63 (by decide) ?_
          refine go_icmp_le (tgt := 74) dJ6_numberOfTrailingZeros_0f7a4_64 (by decide) (fun q64 => ?_) (fun q64 => ?_)
          · refine go_iload_n dJ6_numberOfTrailingZeros_0f7a4_74 rfl ?_
            refine go_iload_n dJ6_numberOfTrailingZeros_0f7a4_75 rfl ?_
            refine go_iconst (v := 1) dJ6_numberOfTrailingZeros_0f7a4_76 (by decide) ?_
            refine go_iushr dJ6_numberOfTrailingZeros_0f7a4_77 ?_
            refine go_iadd dJ6_numberOfTrailingZeros_0f7a4_78 ?_
            refine go_iret dJ6_numberOfTrailingZeros_0f7a4_79 rfl rfl ?_
            exact ⟨by simp only [ntF, ntF0, ntF1, ntF2, ntF3, ntF4, ush, *, if_true, if_false] <;> rfl, rfl⟩
          · refine go_iinc (L' := [_, _]) dJ6_numberOfTrailingZeros_0f7a4_67 rfl rfl rfl rfl rfl ?_
            refine go_iload_n dJ6_numberOfTrailingZeros_0f7a4_70 rfl ?_
            refine go_iconst (v := 2) dJ6_numberOfTrailingZeros_0f7a4_71 (by decide) ?_
            refine go_iushr dJ6_numberOfTrailingZeros_0f7a4_72 ?_
            refine go_istore_n (L' := [_, _]) dJ6_numberOfTrailingZeros_0f7a4_73 rfl rfl rfl ?_
            refine go_iload_n dJ6_numberOfTrailingZeros_0f7a4_74 rfl ?_
            refine go_iload_n dJ6_numberOfTrailingZeros_0f7a4_75 rfl ?_
            refine go_iconst (v := 1) dJ6_numberOfTrailingZeros_0f7a4_76 (by decide) ?_
            refine go_iushr dJ6_numberOfTrailingZeros_0f7a4_77 ?_
            refine go_iadd dJ6_numberOfTrailingZeros_0f7a4_78 ?_
            refine go_iret dJ6_numberOfTrailingZeros_0f7a4_79 rfl rfl ?_
            exact ⟨by simp only [ntF, ntF0, ntF1, ntF2, ntF3, ntF4, ush, *, if_true, if_false] <;> rfl, rfl⟩
    · refine go_iinc (L' := [_, _]) dJ6_numberOfTrailingZeros_0f7a4_26 rfl rfl rfl rfl rfl ?_
      refine go_iload_n dJ6_numberOfTrailingZeros_0f7a4_29 rfl ?_
      refine go_bipush (v := 16) dJ6_numberOfTrailingZeros_0f7a4_30 (by decide) ?_
      refine go_iushr dJ6_numberOfTrailingZeros_0f7a4_32 ?_
      refine go_istore_n (L' := [_, _]) dJ6_numberOfTrailingZeros_0f7a4_33 rfl rfl rfl ?_
      refine go_iload_n dJ6_numberOfTrailingZeros_0f7a4_34 rfl ?_
      refine go_sipush (v := 256) dJ6_numberOfTrailingZeros_0f7a4_35 (by decide) ?_
      refine go_icmp_le (tgt := 49) dJ6_numberOfTrailingZeros_0f7a4_38 (by decide) (fun q38 => ?_) (fun q38 => ?_)
      · refine go_iload_n dJ6_numberOfTrailingZeros_0f7a4_49 rfl ?_
        refine go_bipush (v := 16) dJ6_numberOfTrailingZeros_0f7a4_50 (by decide) ?_
        refine go_icmp_le (tgt := 62) dJ6_numberOfTrailingZeros_0f7a4_52 (by decide) (fun q52 => ?_) (fun q52 => ?_)
        · refine go_iload_n dJ6_numberOfTrailingZeros_0f7a4_62 rfl ?_
          refine go_iconst (v := 4) dJ6_numberOfTrailingZeros_0f7a4_63 (by decide) ?_
          refine go_icmp_le (tgt := 74) dJ6_numberOfTrailingZeros_0f7a4_64 (by decide) (fun q64 => ?_) (fun q64 => ?_)
          · refine go_iload_n dJ6_numberOfTrailingZeros_0f7a4_74 rfl ?_
            refine go_iload_n dJ6_numberOfTrailingZeros_0f7a4_75 rfl ?_
            refine go_iconst (v := 1) dJ6_numberOfTrailingZeros_0f7a4_76 (by decide) ?_
            refine go_iushr dJ6_numberOfTrailingZeros_0f7a4_77 ?_
            refine go_iadd dJ6_numberOfTrailingZeros_0f7a4_78 ?_
            refine go_iret dJ6_numberOfTrailingZeros_0f7a4_79 rfl rfl ?_
            exact ⟨by simp only [ntF, ntF0, ntF1, ntF2, ntF3, ntF4, ush, *, if_true, if_false] <;> rfl, rfl⟩
          · refine go_iinc (L' := [_, _]) dJ6_numberOfTrailingZeros_0f7a4_67 rfl rfl rfl rfl rfl ?_
            refine go_iload_n dJ6_numberOfTrailingZeros_0f7a4_70 rfl ?_
            refine go_iconst (v := 2) dJ6_numberOfTrailingZeros_0f7a4_71 (by decide) ?_
            refine go_iushr dJ6_numberOfTrailingZeros_0f7a4_72 ?_
            refine go_istore_n (L' := [_, _]) dJ6_numberOfTrailingZeros_0f7a4_73 rfl rfl rfl ?_
            refine go_iload_n dJ6_numberOfTrailingZeros_0f7a4_74 rfl ?_
            refine go_iload_n dJ6_numberOfTrailingZeros_0f7a4_75 rfl ?_
            refine go_iconst (v := 1) dJ6_numberOfTrailingZeros_0f7a4_76 (by decide) ?_
            refine go_iushr dJ6_numberOfTrailingZeros_0f7a4_77 ?_
            refine go_iadd dJ6_numberOfTrailingZeros_0f7a4_78 ?_
            refine go_iret dJ6_numberOfTrailingZeros_0f7a4_79 rfl rfl ?_
            exact ⟨by simp only [ntF, ntF0, ntF1, ntF2, ntF3, ntF4, ush, *, if_true, if_false] <;> rfl, rfl⟩
        · refine go_iinc (L' := [_, _]) dJ6_numberOfTrailingZeros_0f7a4_55 rfl rfl rfl rfl rfl ?_
          refine go_iload_n dJ6_numberOfTrailingZeros_0f7a4_58 rfl ?_
          refine go_iconst (v := 4) dJ6_numberOfTrailingZeros_0f7a4_59 (by decide) ?_
          refine go_iushr dJ6_numberOfTrailingZeros_0f7a4_60 ?_
          refine go_istore_n (L' := [_, _]) dJ6_numberOfTrailingZeros_0f7a4_61 rfl rfl rfl ?_
          refine go_iload_n dJ6_numberOfTrailingZeros_0f7a4_62 rfl ?_
          refine go_iconst (v := 4) dJ6_numberOfTrailingZeros_0f7a4_63 (by decide) ?_
          refine go_icmp_le (tgt := 74) dJ6_numberOfTrailingZeros_0f7a4_64 (by decide) (fun q64 => ?_) (fun q64 => ?_)
          · refine go_iload_n dJ6_numberOfTrailingZeros_0f7a4_74 rfl ?_
            refine go_iload_n dJ6_numberOfTrailingZeros_0f7a4_75 rfl ?_
            refine go_iconst (v := 1) dJ6_numberOfTrailingZeros_0f7a4_76 (by decide) ?_
            refine go_iushr dJ6_numberOfTrailingZeros_0f7a4_77 ?_
            refine go_iadd dJ6_numberOfTrailingZeros_0f7a4_78 ?_
            refine go_iret dJ6_numberOfTrailingZeros_0f7a4_79 rfl rfl ?_
            exact ⟨by simp only [ntF, ntF0, ntF1, ntF2, ntF3, ntF4, ush, *, if_true, if_false] <;> rfl, rfl⟩
          · refine go_iinc (L' := [_, _]) dJ6_numberOfTrailingZeros_0f7a4_67 rfl rfl rfl rfl rfl ?_
            refine go_iload_n dJ6_numberOfTrailingZeros_0f7a4_70 rfl ?_
            refine go_iconst (v := 2) dJ6_numberOfTrailingZeros_0f7a4_71 (by decide) ?_
            refine go_iushr dJ6_numberOfTrailingZeros_0f7a4_72 ?_
            refine go_istore_n (L' := [_, _]) dJ6_numberOfTrailingZeros_0f7a4_73 rfl rfl rfl ?_
            refine go_iload_n dJ6_numberOfTrailingZeros_0f7a4_74 rfl ?_
            refine go_iload_n dJ6_numberOfTrailingZeros_0f7a4_75 rfl ?_
            refine go_iconst (v := 1) dJ6_numberOfTrailingZeros_0f7a4_76 (by decide) ?_
            refine go_iushr dJ6_numberOfTrailingZeros_0f7a4_77 ?_
            refine go_iadd dJ6_numberOfTrailingZeros_0f7a4_78 ?_
            refine go_iret dJ6_numberOfTrailingZeros_0f7a4_79 rfl rfl ?_
            exact ⟨by simp only [ntF, ntF0, ntF1, ntF2, ntF3, ntF4, ush, *, if_true, if_false] <;> rfl, rfl⟩
      · refine go_iinc (L' := [_, _]) dJ6_numberOfTrailingZeros_0f7a4_41 rfl rfl rfl rfl rfl ?_
        refine go_iload_n dJ6_numberOfTrailingZeros_0f7a4_44 rfl ?_
        refine go_bipush (v := 8) dJ6_numberOfTrailingZeros_0f7a4_45 (by decide) ?_
        refine go_iushr dJ6_numberOfTrailingZeros_0f7a4_47 ?_
        refine go_istore_n (L' := [_, _]) dJ6_numberOfTrailingZeros_0f7a4_48 rfl rfl rfl ?_
        refine go_iload_n dJ6_numberOfTrailingZeros_0f7a4_49 rfl ?_
        refine go_bipush (v := 16) dJ6_numberOfTrailingZeros_0f7a4_50 (by decide) ?_
        refine go_icmp_le (tgt := 62) dJ6_numberOfTrailingZeros_0f7a4_52 (by decide) (fun q52 => ?_) (fun q52 => ?_)
        · refine go_iload_n dJ6_numberOfTrailingZeros_0f7a4_62 rfl ?_
          refine go_iconst (v := 4) dJ6_numberOfTrailingZeros_0f7a4_63 (by decide) ?_
          refine go_icmp_le (tgt := 74) dJ6_numberOfTrailingZeros_0f7a4_64 (by decide) (fun q64 => ?_) (fun q64 => ?_)
          · refine go_iload_n dJ6_numberOfTrailingZeros_0f7a4_74 rfl ?_
            refine go_iload_n dJ6_numberOfTrailingZeros_0f7a4_75 rfl ?_
            refine go_iconst (v := 1) dJ6_numberOfTrailingZeros_0f7a4_76 (by decide) ?_
            refine go_iushr dJ6_numberOfTrailingZeros_0f7a4_77 ?_
            refine go_iadd dJ6_numberOfTrailingZeros_0f7a4_78 ?_
            refine go_iret dJ6_numberOfTrailingZeros_0f7a4_79 rfl rfl ?_
            exact ⟨by simp only [ntF, ntF0, ntF1, ntF2, ntF3, ntF4, ush, *, if_true, if_false] <;> rfl, rfl⟩
          · refine go_iinc (L' := [_, _]) dJ6_numberOfTrailingZeros_0f7a4_67 rfl rfl rfl rfl rfl ?_
            refine go_iload_n dJ6_numberOfTrailingZeros_0f7a4_70 rfl ?_
            refine go_iconst (v := 2) dJ6_numberOfTrailingZeros_0f7a4_71 (by decide) ?_
            refine go_iushr dJ6_numberOfTrailingZeros_0f7a4_72 ?_
            refine go_istore_n (L' := [_, _]) dJ6_numberOfTrailingZeros_0f7a4_73 rfl rfl rfl ?_
            refine go_iload_n dJ6_numberOfTrailingZeros_0f7a4_74 rfl ?_
            refine go_iload_n dJ6_numberOfTrailingZeros_0f7a4_75 rfl ?_
            refine go_iconst (v := 1) dJ6_numberOfTrailingZeros_0f7a4_76 (by decide) ?_
            refine go_iushr dJ6_numberOfTrailingZeros_0f7a4_77 ?_
            refine go_iadd dJ6_numberOfTrailingZeros_0f7a4_78 ?_
            refine go_iret dJ6_numberOfTrailingZeros_0f7a4_79 rfl rfl ?_
            exact ⟨by simp only [ntF, ntF0, ntF1, ntF2, ntF3, ntF4, ush, *, if_true, if_false] <;> rfl, rfl⟩
        · refine go_iinc (L' := [_, _]) dJ6_numberOfTrailingZeros_0f7a4_55 rfl rfl rfl rfl rfl ?_
          refine go_iload_n dJ6_numberOfTrailingZeros_0f7a4_58 rfl ?_
          refine go_iconst (v := 4) dJ6_numberOfTrailingZeros_0f7a4_59 (by decide) ?_
          refine go_iushr dJ6_numberOfTrailingZeros_0f7a4_60 ?_
          refine go_istore_n (L' := [_, _]) dJ6_numberOfTrailingZeros_0f7a4_61 rfl rfl rfl ?_
          refine go_iload_n dJ6_numberOfTrailingZeros_0f7a4_62 rfl ?_
          refine go_iconst (v := 4) dJ6_numberOfTrailingZeros_0f7a4_63 (by decide) ?_
          refine go_icmp_le (tgt := 74) dJ6_numberOfTrailingZeros_0f7a4_64 (by decide) (fun q64 => ?_) (fun q64 => ?_)
          · refine go_iload_n dJ6_numberOfTrailingZeros_0f7a4_74 rfl ?_
            refine go_iload_n dJ6_numberOfTrailingZeros_0f7a4_75 rfl ?_
            refine go_iconst (v := 1) dJ6_numberOfTrailingZeros_0f7a4_76 (by decide) ?_
            refine go_iushr dJ6_numberOfTrailingZeros_0f7a4_77 ?_
            refine go_iadd dJ6_numberOfTrailingZeros_0f7a4_78 ?_
            refine go_iret dJ6_numberOfTrailingZeros_0f7a4_79 rfl rfl ?_
            exact ⟨by simp only [ntF, ntF0, ntF1, ntF2, ntF3, ntF4, ush, *, if_true, if_false] <;> rfl, rfl⟩
          · refine go_iinc (L' := [_, _]) dJ6_numberOfTrailingZeros_0f7a4_67 rfl rfl rfl rfl rfl ?_
            refine go_iload_n dJ6_numberOfTrailingZeros_0f7a4_70 rfl ?_
            refine go_iconst (v := 2) dJ6_numberOfTrailingZeros_0f7a4_71 (by decide) ?_
            refine go_iushr dJ6_numberOfTrailingZeros_0f7a4_72 ?_
            refine go_istore_n (L' := [_, _]) dJ6_numberOfTrailingZeros_0f7a4_73 rfl rfl rfl ?_
            refine go_iload_n dJ6_numberOfTrailingZeros_0f7a4_74 rfl ?_
            refine go_iload_n dJ6_numberOfTrailingZeros_0f7a4_75 rfl ?_
            refine go_iconst (v := 1) dJ6_numberOfTrailingZeros_0f7a4_76 (by decide) ?_
            refine go_iushr dJ6_numberOfTrailingZeros_0f7a4_77 ?_
            refine go_iadd dJ6_numberOfTrailingZeros_0f7a4_78 ?_
            refine go_iret dJ6_numberOfTrailingZeros_0f7a4_79 rfl rfl ?_
            exact ⟨by simp only [ntF, ntF0, ntF1, ntF2, ntF3, ntF4, ush, *, if_true, if_false] <;> rfl, rfl⟩
  · refine go_iload_n dJ6_numberOfTrailingZeros_0f7a4_12 rfl ?_
    refine go_bipush (v := 32) dJ6_numberOfTrailingZeros_0f7a4_13 (by decide) ?_
    refine go_iand dJ6_numberOfTrailingZeros_0f7a4_15 ?_
    refine go_iret dJ6_numberOfTrailingZeros_0f7a4_16 rfl rfl ?_
    exact ⟨by simp only [ntF, ntF0, ntF1, ntF2, ntF3, ntF4, ush, *, if_true, if_false] <;> rfl, rfl⟩
def mxI (a b : Int32) : Int32 := if a < b then b else a
def mnI (a b : Int32) : Int32 := if b < a then b else a
def abI (a : Int32) : Int32 := if 0 ≤ a then a else 0 - a
def mxL (a b : Int64) : Int64 := if b < a then a else b
theorem mt_min : Cond.static Lib.Math.min.name ∈ lw_tbl ∧ Cond.initialized "java/lang/Math" ∈ lw_tbl ∧ Cond.code Lib.Math.min.name Lib.Math.min.code 2 (some .int) ∈ lw_tbl := ⟨List.mem_of_getElem? (i := 412) (by decide +kernel), List.mem_of_getElem? (i := 46) (by decide +kernel), List.mem_of_getElem? (i := 413) (by decide +kernel)⟩
theorem mt_maxJ : Cond.static Lib.MathLoose.max_long.x ∈ lw_tbl ∧ Cond.initialized "java/lang/Math" ∈ lw_tbl ∧ Cond.code Lib.MathLoose.max_long.x Lib.MathLoose.max_long.code 4 (some .long) ∈ lw_tbl := ⟨List.mem_of_getElem? (i := 494) (by decide +kernel), List.mem_of_getElem? (i := 46) (by decide +kernel), List.mem_of_getElem? (i := 495) (by decide +kernel)⟩
theorem mt_max : Cond.static Lib.Math.max.name ∈ lw_tbl ∧ Cond.initialized "java/lang/Math" ∈ lw_tbl ∧ Cond.code Lib.Math.max.name Lib.Math.max.code 2 (some .int) ∈ lw_tbl := ⟨List.mem_of_getElem? (i := 561) (by decide +kernel), List.mem_of_getElem? (i := 46) (by decide +kernel), List.mem_of_getElem? (i := 562) (by decide +kernel)⟩
theorem mt_abs : Cond.static Lib.Math.abs.name ∈ lw_tbl ∧ Cond.initialized "java/lang/Math" ∈ lw_tbl ∧ Cond.code Lib.Math.abs.name Lib.Math.abs.code 1 (some .int) ∈ lw_tbl := ⟨List.mem_of_getElem? (i := 590) (by decide +kernel), List.mem_of_getElem? (i := 46) (by decide +kernel), List.mem_of_getElem? (i := 591) (by decide +kernel)⟩
theorem mkX1_58 : Cond.methodLink RX1 58 Lib.Math.min.name ∈ lw_tbl := List.mem_of_getElem? (i := 411) (by decide +kernel)
theorem mkX6_44 : Cond.methodLink RX6 44 Lib.MathLoose.max_long.x ∈ lw_tbl := List.mem_of_getElem? (i := 493) (by decide +kernel)
theorem mkX8_266 : Cond.methodLink RX8 266 Lib.MathLoose.max_long.x ∈ lw_tbl := List.mem_of_getElem? (i := 507) (by decide +kernel)
theorem mkX4_32 : Cond.methodLink RX4 32 Lib.Math.max.name ∈ lw_tbl := List.mem_of_getElem? (i := 560) (by decide +kernel)
theorem mkX3_56 : Cond.methodLink RX3 56 Lib.Math.abs.name ∈ lw_tbl := List.mem_of_getElem? (i := 589) (by decide +kernel)
theorem mkX8_257 : Cond.methodLink RX8 257 Lib.Math.max.name ∈ lw_tbl := List.mem_of_getElem? (i := 646) (by decide +kernel)
section MathRows
variable {E : gE} {y : MethodName} {cc : ByteArray} {nL : Nat} {ret : Option FieldType} {d kc ks mc ms pc : Nat} {L : List (Option Value)} {st : List Value} {h : gH} {Q : Option Value → gH → Prop} {idx : Nat}
theorem go_mmax {a b : Int32} (hd : decode cc pc = .ok (.invokestatic idx, 3)) (hk : Cond.methodLink y.cls idx Lib.Math.max.name ∈ lw_tbl) (h8 : Nat.ble ((st.map fun v => v.category).sum) 8 = true) (hc1 : Nat.ble kc mc = true) (hs1 : Nat.ble ks ms = true) (kk : Go E y cc nL ret (d + 1) kc ks mc ms (pc + 3) L (.int (mxI a b) :: st) h Q) : Go E y cc nL ret (d + 1) kc ks mc ms pc L (.int b :: .int a :: st) h Q := by
  intro p e s m args below meth c H locs ls X hP hl hL
  have hKK := X.2.2.2.2.2.2.2.1
  have h9 : (st.map fun v => v.category).sum ≤ 8 := Nat.le_of_ble_eq_true h8
  exact va_mmax X.1 X.2.1 (by rw [hL.1, X.2.2.1]) X.2.2.2.2.2.1 (hKK.1.1 _ hk rfl args) (hKK.1.1 _ mt_max.1 rfl args) (hKK.1.1 _ mt_max.2.1 rfl args) (hKK.1.1 _ mt_max.2.2 rfl args) (by show 1 ≤ d + 1; omega) (by show ((st.map (gv E.2.2.2)).map fun v => v.category).sum + 13 ≤ 35 * (d + 1); rw [cat_map]; omega) (Nat.le_of_ble_eq_true hc1) (Nat.le_of_ble_eq_true hs1) hd (kk p e s m args below meth c H locs ls X hP hl hL)
theorem go_mmin {a b : Int32} (hd : decode cc pc = .ok (.invokestatic idx, 3)) (hk : Cond.methodLink y.cls idx Lib.Math.min.name ∈ lw_tbl) (h8 : Nat.ble ((st.map fun v => v.category).sum) 8 = true) (hc1 : Nat.ble kc mc = true) (hs1 : Nat.ble ks ms = true) (kk : Go E y cc nL ret (d + 1) kc ks mc ms (pc + 3) L (.int (mnI a b) :: st) h Q) : Go E y cc nL ret (d + 1) kc ks mc ms pc L (.int b :: .int a :: st) h Q := by
  intro p e s m args below meth c H locs ls X hP hl hL
  have hKK := X.2.2.2.2.2.2.2.1
  have h9 : (st.map fun v => v.category).sum ≤ 8 := Nat.le_of_ble_eq_true h8
  exact va_mmin X.1 X.2.1 (by rw [hL.1, X.2.2.1]) X.2.2.2.2.2.1 (hKK.1.1 _ hk rfl args) (hKK.1.1 _ mt_min.1 rfl args) (hKK.1.1 _ mt_min.2.1 rfl args) (hKK.1.1 _ mt_min.2.2 rfl args) (by show 1 ≤ d + 1; omega) (by show ((st.map (gv E.2.2.2)).map fun v => v.category).sum + 13 ≤ 35 * (d + 1); rw [cat_map]; omega) (Nat.le_of_ble_eq_true hc1) (Nat.le_of_ble_eq_true hs1) hd (kk p e s m args below meth c H locs ls X hP hl hL)
theorem go_mabs {a : Int32} (hd : decode cc pc = .ok (.invokestatic idx, 3)) (hk : Cond.methodLink y.cls idx Lib.Math.abs.name ∈ lw_tbl) (h8 : Nat.ble ((st.map fun v => v.category).sum) 8 = true) (hc1 : Nat.ble kc mc = true) (hs1 : Nat.ble ks ms = true) (kk : Go E y cc nL ret (d + 1) kc ks mc ms (pc + 3) L (.int (abI a) :: st) h Q) : Go E y cc nL ret (d + 1) kc ks mc ms pc L (.int a :: st) h Q := by
  intro p e s m args below meth c H locs ls X hP hl hL
  have hKK := X.2.2.2.2.2.2.2.1
  have h9 : (st.map fun v => v.category).sum ≤ 8 := Nat.le_of_ble_eq_true h8
  exact va_mabs X.1 X.2.1 (by rw [hL.1, X.2.2.1]) X.2.2.2.2.2.1 (hKK.1.1 _ hk rfl args) (hKK.1.1 _ mt_abs.1 rfl args) (hKK.1.1 _ mt_abs.2.1 rfl args) (hKK.1.1 _ mt_abs.2.2 rfl args) (by show 1 ≤ d + 1; omega) (by show ((st.map (gv E.2.2.2)).map fun v => v.category).sum + 13 ≤ 35 * (d + 1); rw [cat_map]; omega) (Nat.le_of_ble_eq_true hc1) (Nat.le_of_ble_eq_true hs1) hd (kk p e s m args below meth c H locs ls X hP hl hL)
theorem go_mmaxl {a b : Int64} (hd : decode cc pc = .ok (.invokestatic idx, 3)) (hk : Cond.methodLink y.cls idx Lib.MathLoose.max_long.x ∈ lw_tbl) (h8 : Nat.ble ((st.map fun v => v.category).sum) 8 = true) (hc1 : Nat.ble kc mc = true) (hs1 : Nat.ble ks ms = true) (kk : Go E y cc nL ret (d + 1) kc ks mc ms (pc + 3) L (.long (mxL a b) :: st) h Q) : Go E y cc nL ret (d + 1) kc ks mc ms pc L (.long b :: .long a :: st) h Q := by
  intro p e s m args below meth c H locs ls X hP hl hL
  have hKK := X.2.2.2.2.2.2.2.1
  have h9 : (st.map fun v => v.category).sum ≤ 8 := Nat.le_of_ble_eq_true h8
  exact va_mmax_long X.1 X.2.1 (by rw [hL.1, X.2.2.1]) X.2.2.2.2.2.1 (hKK.1.1 _ hk rfl args) (hKK.1.1 _ mt_maxJ.1 rfl args) (hKK.1.1 _ mt_maxJ.2.1 rfl args) (hKK.1.1 _ mt_maxJ.2.2 rfl args) (by show 1 ≤ d + 1; omega) (by show ((st.map (gv E.2.2.2)).map fun v => v.category).sum + 15 ≤ 35 * (d + 1); rw [cat_map]; omega) (Nat.le_of_ble_eq_true hc1) (Nat.le_of_ble_eq_true hs1) hd (kk p e s m args below meth c H locs ls X hP hl hL)
end MathRows
def hasB (t p : Int32) : Bool := isInB p 0 5 && decide ((t >>> (p &&& 31)) &&& 1 = 1)
set_option maxRecDepth 100000 in
set_option maxHeartbeats 4000000 in
theorem rX1_has_n {E : gE} {d : Nat} {nw i0 i1 : WorldS} {pd : PadS} {lv : LivesS} {pl : PlanS} {mt : MatS} {nt : NetS} {m : ModS} {p : Int32} : Ret E yX1_has cX1_has 2 (some .boolean) (d + 1) 0 0 [.ref 2, .int p] (hp nw i0 i1 pd lv pl mt nt m) (dt (some (.int (b2i (hasB nw.1.1 p)))) (hp nw i0 i1 pd lv pl mt nt m)) := by
  refine ret_of_go (L := [_, _]) (by decide) (Nat.le_of_ble_eq_true rfl) rfl ?_
  refine go_iload_n dX1_has_0 rfl ?_
  refine go_iconst (v := 0) dX1_has_1 (by decide) ?_
  refine go_iconst (v := 5) dX1_has_2 (by decide) ?_
  refine go_cS (as := [_, _, _]) dX1_has_3 mX8_isIn kX1_27 tX8_isIn rfl rfl (rX8_isIn) rfl rfl rfl ?_
  refine go_bif_eq (tgt := 25) dX1_has_6 (by decide) (fun q6 => ?_) (fun q6 => ?_)
  · refine go_iconst (v := 0) dX1_has_25 (by decide) ?_
    refine go_zret dX1_has_26 (by decide) rfl rfl ?_
    exact ⟨by simp_all [hasB, b2i], rfl⟩
  · refine go_aload_n dX1_has_9 rfl ?_
    refine go_get dX1_has_10 fX1_31 rfl rfl ?_
    refine go_iload_n dX1_has_13 rfl ?_
    refine go_ishr dX1_has_14 ?_
    refine go_iconst (v := 1) dX1_has_15 (by decide) ?_
    refine go_iand dX1_has_16 ?_
    refine go_iconst (v := 1) dX1_has_17 (by decide) ?_
    refine go_icmp_ne (tgt := 25) dX1_has_18 (by decide) (fun q18 => ?_) (fun q18 => ?_)
    · refine go_iconst (v := 0) dX1_has_25 (by decide) ?_
      refine go_zret dX1_has_26 (by decide) rfl rfl ?_
      exact ⟨by simp_all [hasB, b2i], rfl⟩
    · refine go_iconst (v := 1) dX1_has_21 (by decide) ?_
      refine go_goto (tgt := 26) dX1_has_22 (by decide) ?_
      refine go_zret dX1_has_26 (by decide) rfl rfl ?_
      exact ⟨by simp_all [hasB, b2i], rfl⟩
set_option maxRecDepth 100000 in
set_option maxHeartbeats 4000000 in
theorem rX1_has_a {E : gE} {d : Nat} {nw i0 i1 : WorldS} {pd : PadS} {lv : LivesS} {pl : PlanS} {mt : MatS} {nt : NetS} {m : ModS} {p : Int32} : Ret E yX1_has cX1_has 2 (some .boolean) (d + 1) 0 0 [.ref 35, .int p] (hp nw i0 i1 pd lv pl mt nt m) (dt (some (.int (b2i (hasB lv.1.1 p)))) (hp nw i0 i1 pd lv pl mt nt m)) := by
  refine ret_of_go (L := [_, _]) (by decide) (Nat.le_of_ble_eq_true rfl) rfl ?_
  refine go_iload_n dX1_has_0 rfl ?_
  refine go_iconst (v := 0) dX1_has_1 (by decide) ?_
  refine go_iconst (v := 5) dX1_has_2 (by decide) ?_
  refine go_cS (as := [_, _, _]) dX1_has_3 mX8_isIn kX1_27 tX8_isIn rfl rfl (rX8_isIn) rfl rfl rfl ?_
  refine go_bif_eq (tgt := 25) dX1_has_6 (by decide) (fun q6 => ?_) (fun q6 => ?_)
  · refine go_iconst (v := 0) dX1_has_25 (by decide) ?_
    refine go_zret dX1_has_26 (by decide) rfl rfl ?_
    exact ⟨by simp_all [hasB, b2i], rfl⟩
  · refine go_aload_n dX1_has_9 rfl ?_
    refine go_get dX1_has_10 fX1_31 rfl rfl ?_
    refine go_iload_n dX1_has_13 rfl ?_
    refine go_ishr dX1_has_14 ?_
    refine go_iconst (v := 1) dX1_has_15 (by decide) ?_
    refine go_iand dX1_has_16 ?_
    refine go_iconst (v := 1) dX1_has_17 (by decide) ?_
    refine go_icmp_ne (tgt := 25) dX1_has_18 (by decide) (fun q18 => ?_) (fun q18 => ?_)
    · refine go_iconst (v := 0) dX1_has_25 (by decide) ?_
      refine go_zret dX1_has_26 (by decide) rfl rfl ?_
      exact ⟨by simp_all [hasB, b2i], rfl⟩
    · refine go_iconst (v := 1) dX1_has_21 (by decide) ?_
      refine go_goto (tgt := 26) dX1_has_22 (by decide) ?_
      refine go_zret dX1_has_26 (by decide) rfl rfl ?_
      exact ⟨by simp_all [hasB, b2i], rfl⟩
end
section
/-! an array's contents count below its length alone -/
theorem arrV_ext {c : ClassId} {n : Nat} {f g : Nat → Value} (h : ∀ j, j < n → f j = g j) : arrV c n f = arrV c n g := by
  unfold arrV
  congr 1
  apply Array.ext
  · simp
  · intro j h1 h2
    simp at h1
    simp [h j h1]
theorem gP.ext {E : gE} {h : gH} {H0 H : Heap} {a t n : Nat} {f g : Nat → Int32} (hP : gP E h H0 H) (ho : hg h a = some (.inl (t, n, .inl f))) (e : ∀ j, j < n → f j = g j) : gP E (hs h a (.inl (t, n, .inl g))) H0 H := by
  refine hP.put ho ?_ rfl (fun _ _ => rfl)
  have h1 : H[E.2.2.2 + a]? = some (arrV (E.2.2.1 t) n (fun j => .int (f j))) := hP.2.1 a _ ho
  show H[E.2.2.2 + a]? = some (arrV (E.2.2.1 t) n (fun j => .int (g j)))
  rw [h1, arrV_ext (fun j hj => by rw [e j hj])]
theorem gP.extL {E : gE} {h : gH} {H0 H : Heap} {a t n : Nat} {f g : Nat → Int64} (hP : gP E h H0 H) (ho : hg h a = some (.inl (t, n, .inr (.inl f)))) (e : ∀ j, j < n → f j = g j) : gP E (hs h a (.inl (t, n, .inr (.inl g)))) H0 H := by
  refine hP.put ho ?_ rfl (fun _ _ => rfl)
  have h1 : H[E.2.2.2 + a]? = some (arrV (E.2.2.1 t) n (fun j => .long (f j))) := hP.2.1 a _ ho
  show H[E.2.2.2 + a]? = some (arrV (E.2.2.1 t) n (fun j => .long (g j)))
  rw [h1, arrV_ext (fun j hj => by rw [e j hj])]
section Ext
variable {E : gE} {y : MethodName} {cc : ByteArray} {nL : Nat} {ret : Option FieldType} {d kc ks mc ms pc : Nat} {L : List (Option Value)} {st : List Value} {h : gH} {Q : Option Value → gH → Prop}
theorem go_ext {a t n : Nat} {f : Nat → Int32} (g : Nat → Int32) (ho : hg h a = some (.inl (t, n, .inl f))) (e : ∀ j, j < n → f j = g j) (k : Go E y cc nL ret d kc ks mc ms pc L st (hs h a (.inl (t, n, .inl g))) Q) : Go E y cc nL ret d kc ks mc ms pc L st h Q := by
  intro p e2 s m args below meth c H locs ls X hP hl hL
  exact k p e2 s m args below meth c H locs ls X (hP.ext ho e) hl hL
theorem go_extL {a t n : Nat} {f : Nat → Int64} (g : Nat → Int64) (ho : hg h a = some (.inl (t, n, .inr (.inl f)))) (e : ∀ j, j < n → f j = g j) (k : Go E y cc nL ret d kc ks mc ms pc L st (hs h a (.inl (t, n, .inr (.inl g)))) Q) : Go E y cc nL ret d kc ks mc ms pc L st h Q := by
  intro p e2 s m args below meth c H locs ls X hP hl hL
  exact k p e2 s m args below meth c H locs ls X (hP.extL ho e) hl hL
theorem hs_hs : ∀ (h : gH) (a : Nat) (c c2 : gC), hs (hs h a c) a c2 = hs h a c2
  | [], _, _, _ => rfl
  | x :: t, 0, _, _ => rfl
  | x :: t, n + 1, c, c2 => by simp [hs, hs_hs t n c c2]
theorem hg_same : ∀ (h : gH) (a : Nat) (c c2 : gC), hg h a = some c2 → hg (hs h a c) a = some c
  | [], _, _, _, e => by simp [hg] at e
  | x :: t, 0, _, _, _ => rfl
  | x :: t, n + 1, c, c2, e => hg_same t n c c2 e
/-- a whole array copied -/
theorem go_copyF {idx a0 a n1 : Nat} {f g : Nat → Int32} {n : Int32} (hd : decode cc pc = .ok (.invokestatic idx, 3)) (hk : Cond.methodLink y.cls idx arraycopyName ∈ lw_tbl) (ho0 : hg h a0 = some (.inl (0, n1, .inl f))) (ho1 : hg h a = some (.inl (0, n1, .inl g))) (h3 : ¬ n < 0) (hn : n.toNatClampNeg = n1) (h8 : Nat.ble ((st.map fun v => v.category).sum) 8 = true)
    (kk : Go E y cc nL ret (d + 1) kc ks mc ms (pc + 3) L st (hs h a (.inl (0, n1, .inl f))) Q) : Go E y cc nL ret (d + 1) kc ks mc ms pc L (.int n :: .int 0 :: .ref a :: .int 0 :: .ref a0 :: st) h Q := by
  have z : (0 : Int32).toNatClampNeg = 0 := by decide
  refine go_copyi hd hk ncopy tcopy zsys ho0 ho1 (by decide) (by decide) h3 (by rw [z, hn]; omega) (by rw [z, hn]; omega) h8 ?_
  refine go_ext f (hg_same _ _ _ _ ho1) (fun j hj => ?_) (by rw [hs_hs]; exact kk)
  rw [z, hn, pk_cpy_in (by omega) (by omega)]
  congr 1
  omega
end Ext
theorem nI6 {a b : Nat} : nI a * 6 + nI b = nI (a * 6 + b) := by rw [show (6 : Int32) = nI 6 from rfl, pk_mul, nI_add]
def orB (c : Nat → Bool) : Nat → Int32
  | 0 => 0
  | n + 1 => if c n then orB c n ||| ((1 : Int32) <<< (nI n &&& 31)) else orB c n
def bareB (F : FolkS) (k : Nat) : Bool := hasB F.1 (nI k) && decide (fs_ F k = 0)
def honB (F : FolkS) (k : Nat) : Bool := hasB F.1 (nI k) && decide (fg F k = 0)
def richF (F : FolkS) : Nat → Int32 × Int32
  | 0 => (-6, -1)
  | n + 1 => if hasB F.1 (nI n) && decide ((richF F n).2 < fw F n) then (nI n, fw F n) else richF F n
theorem rich_no1 {F : FolkS} {n : Nat} (h : hasB F.1 (nI n) = false) : richF F (n + 1) = richF F n := by
  simp only [richF, h, Bool.false_and, Bool.false_eq_true, if_false]
theorem rich_no2 {F : FolkS} {n : Nat} (h : fw F n ≤ (richF F n).2) : richF F (n + 1) = richF F n := by
  have h2 : decide ((richF F n).2 < fw F n) = false := decide_eq_false (Int32.not_lt.mpr h)
  rw [richF, h2, Bool.and_false]
  rfl
theorem rich_yes {F : FolkS} {n : Nat} (h : hasB F.1 (nI n) = true) (h2 : ¬ fw F n ≤ (richF F n).2) : richF F (n + 1) = (nI n, fw F n) := by
  have h3 : decide ((richF F n).2 < fw F n) = true := decide_eq_true (Int32.not_le.mp h2)
  rw [richF, h, h3]
  rfl
def netF (F : FolkS) (k : Nat) : Int32 := sumI (fun q => fd F (q * 6 + k) - fd F (k * 6 + q)) 6
def leaveD (de : Nat → Int32) (p : Nat) : Nat → (Nat → Int32)
  | 0 => de
  | n + 1 => upd (upd (leaveD de p n) (p * 6 + n) 0) (n * 6 + p) 0
def enterF (F : FolkS) (k : Nat) (s t : Int32) : FolkS := (F.1 ||| ((1 : Int32) <<< (nI k &&& 31)), F.2.1, upd (fs_ F) k s, upd (ft F) k t, F.2.2.2.2)
def leaveF (F : FolkS) (k : Nat) : FolkS := (F.1 &&& (((1 : Int32) <<< (nI k &&& 31)) ^^^ (-1)), F.2.1, upd (fs_ F) k 0, upd (ft F) k 0, upd (fw F) k 0, upd (fg F) k 0, leaveD (fd F) k 6)
def earnF (F : FolkS) (k : Nat) (g : Int32) : FolkS := fWo F (upd (fw F) k (mnI 9999 (fw F k + g)))
def signF (F : FolkS) (k : Nat) (g : Int32) : FolkS := earnF (fSh F (upd (fs_ F) k (fs_ F k - 1))) k g
def forgeF (F : FolkS) (k : Nat) (g : Int32) : FolkS := earnF (fFo F (upd (fg F) k (fg F k + 1))) k g
def takeF (F : FolkS) (a : Nat) (n : Int32) : FolkS := fSh F (upd (fs_ F) a (fs_ F a - n))
def giveF (F : FolkS) (b : Nat) (n : Int32) : FolkS := fSh F (upd (fs_ F) b (mnI 400 (fs_ F b + n)))
def moveF (F : FolkS) (a b : Nat) (n : Int32) : FolkS := giveF (takeF F a n) b n
def oweF (F : FolkS) (a b : Nat) (n : Int32) : FolkS := fDe F (upd (fd F) (a * 6 + b) (fd F (a * 6 + b) + n))
def holdF (F : FolkS) (k : Nat) (w : Int32) : Int32 := if ¬ w = 0 then (if ¬ w = 1 then fg F k else fw F k) else fs_ F k
set_option maxRecDepth 100000 in
set_option maxHeartbeats 4000000 in
theorem rX1_debt_n {E : gE} {d : Nat} {nw i0 i1 : WorldS} {pd : PadS} {lv : LivesS} {pl : PlanS} {mt : MatS} {nt : NetS} {m : ModS} {a b : Nat} (ha : a < 6) (hb : b < 6) : Ret E yX1_debt cX1_debt 3 (some .int) d 0 0 [.ref 2, .int (nI a), .int (nI b)] (hp nw i0 i1 pd lv pl mt nt m) (dt (some (.int (fd (nw.1) (a * 6 + b)))) (hp nw i0 i1 pd lv pl mt nt m)) := by
  refine ret_of_go (L := [_, _, _]) (by decide) (Nat.le_of_ble_eq_true rfl) rfl ?_
  refine go_aload_n dX1_debt_0 rfl ?_
  refine go_get dX1_debt_1 fX1_24 rfl rfl ?_
  refine go_iload_n dX1_debt_4 rfl ?_
  refine go_bipush (v := 6) dX1_debt_5 (by decide) ?_
  refine go_imul dX1_debt_7 ?_
  refine go_iload_n dX1_debt_8 rfl ?_
  refine go_iadd dX1_debt_9 ?_
  refine go_topi_eq nI6 ?_
  refine go_ialdN (a * 6 + b) dX1_debt_10 rfl (by omega) rfl ?_
  refine go_iret dX1_debt_11 rfl rfl ?_
  exact ⟨rfl, rfl⟩
set_option maxRecDepth 100000 in
set_option maxHeartbeats 4000000 in
theorem rX1_holding_n {E : gE} {d : Nat} {nw i0 i1 : WorldS} {pd : PadS} {lv : LivesS} {pl : PlanS} {mt : MatS} {nt : NetS} {m : ModS} {k : Nat} {w : Int32} (hk : k < 6) : Ret E yX1_holding cX1_holding 3 (some .int) d 0 0 [.ref 2, .int (nI k), .int w] (hp nw i0 i1 pd lv pl mt nt m) (dt (some (.int (holdF nw.1 k w))) (hp nw i0 i1 pd lv pl mt nt m)) := by
  refine ret_of_go (L := [_, _, _]) (by decide) (Nat.le_of_ble_eq_true rfl) rfl ?_
  refine go_iload_n dX1_holding_0 rfl ?_
  refine go_if_ne (tgt := 11) dX1_holding_1 (by decide) (fun q1 => ?_) (fun q1 => ?_)
  · refine go_iload_n dX1_holding_11 rfl ?_
    refine go_iconst (v := 1) dX1_holding_12 (by decide) ?_
    refine go_icmp_ne (tgt := 25) dX1_holding_13 (by decide) (fun q13 => ?_) (fun q13 => ?_)
    · refine go_aload_n dX1_holding_25 rfl ?_
      refine go_get dX1_holding_26 fX1_21 rfl rfl ?_
      refine go_iload_n dX1_holding_29 rfl ?_
      refine go_ialdN (k) dX1_holding_30 rfl (hk) rfl ?_
      refine go_iret dX1_holding_31 rfl rfl ?_
      exact ⟨by first | (simp only [holdF, *, not_true, not_false_iff, if_true, if_false]; done) | (subst_vars; rfl), rfl⟩
    · refine go_aload_n dX1_holding_16 rfl ?_
      refine go_get dX1_holding_17 fX1_18 rfl rfl ?_
      refine go_iload_n dX1_holding_20 rfl ?_
      refine go_ialdN (k) dX1_holding_21 rfl (hk) rfl ?_
      refine go_goto (tgt := 31) dX1_holding_22 (by decide) ?_
      refine go_iret dX1_holding_31 rfl rfl ?_
      exact ⟨by first | (simp only [holdF, *, not_true, not_false_iff, if_true, if_false]; done) | (subst_vars; rfl), rfl⟩
  · refine go_aload_n dX1_holding_4 rfl ?_
    refine go_get dX1_holding_5 fX1_9 rfl rfl ?_
    refine go_iload_n dX1_holding_8 rfl ?_
    refine go_ialdN (k) dX1_holding_9 rfl (hk) rfl ?_
    refine go_iret dX1_holding_10 rfl rfl ?_
    exact ⟨by first | (simp only [holdF, *, not_true, not_false_iff, if_true, if_false]; done) | (subst_vars; rfl), rfl⟩
set_option maxRecDepth 100000 in
set_option maxHeartbeats 4000000 in
theorem rX1_debt_a {E : gE} {d : Nat} {nw i0 i1 : WorldS} {pd : PadS} {lv : LivesS} {pl : PlanS} {mt : MatS} {nt : NetS} {m : ModS} {a b : Nat} (ha : a < 6) (hb : b < 6) : Ret E yX1_debt cX1_debt 3 (some .int) d 0 0 [.ref 35, .int (nI a), .int (nI b)] (hp nw i0 i1 pd lv pl mt nt m) (dt (some (.int (fd (lv.1) (a * 6 + b)))) (hp nw i0 i1 pd lv pl mt nt m)) := by
  refine ret_of_go (L := [_, _, _]) (by decide) (Nat.le_of_ble_eq_true rfl) rfl ?_
  refine go_aload_n dX1_debt_0 rfl ?_
  refine go_get dX1_debt_1 fX1_24 rfl rfl ?_
  refine go_iload_n dX1_debt_4 rfl ?_
  refine go_bipush (v := 6) dX1_debt_5 (by decide) ?_
  refine go_imul dX1_debt_7 ?_
  refine go_iload_n dX1_debt_8 rfl ?_
  refine go_iadd dX1_debt_9 ?_
  refine go_topi_eq nI6 ?_
  refine go_ialdN (a * 6 + b) dX1_debt_10 rfl (by omega) rfl ?_
  refine go_iret dX1_debt_11 rfl rfl ?_
  exact ⟨rfl, rfl⟩
set_option maxRecDepth 100000 in
set_option maxHeartbeats 4000000 in
theorem rX1_holding_a {E : gE} {d : Nat} {nw i0 i1 : WorldS} {pd : PadS} {lv : LivesS} {pl : PlanS} {mt : MatS} {nt : NetS} {m : ModS} {k : Nat} {w : Int32} (hk : k < 6) : Ret E yX1_holding cX1_holding 3 (some .int) d 0 0 [.ref 35, .int (nI k), .int w] (hp nw i0 i1 pd lv pl mt nt m) (dt (some (.int (holdF lv.1 k w))) (hp nw i0 i1 pd lv pl mt nt m)) := by
  refine ret_of_go (L := [_, _, _]) (by decide) (Nat.le_of_ble_eq_true rfl) rfl ?_
  refine go_iload_n dX1_holding_0 rfl ?_
  refine go_if_ne (tgt := 11) dX1_holding_1 (by decide) (fun q1 => ?_) (fun q1 => ?_)
  · refine go_iload_n dX1_holding_11 rfl ?_
    refine go_iconst (v := 1) dX1_holding_12 (by decide) ?_
    refine go_icmp_ne (tgt := 25) dX1_holding_13 (by decide) (fun q13 => ?_) (fun q13 => ?_)
    · refine go_aload_n dX1_holding_25 rfl ?_
      refine go_get dX1_holding_26 fX1_21 rfl rfl ?_
      refine go_iload_n dX1_holding_29 rfl ?_
      refine go_ialdN (k) dX1_holding_30 rfl (hk) rfl ?_
      refine go_iret dX1_holding_31 rfl rfl ?_
      exact ⟨by first | (simp only [holdF, *, not_true, not_false_iff, if_true, if_false]; done) | (subst_vars; rfl), rfl⟩
    · refine go_aload_n dX1_holding_16 rfl ?_
      refine go_get dX1_holding_17 fX1_18 rfl rfl ?_
      refine go_iload_n dX1_holding_20 rfl ?_
      refine go_ialdN (k) dX1_holding_21 rfl (hk) rfl ?_
      refine go_goto (tgt := 31) dX1_holding_22 (by decide) ?_
      refine go_iret dX1_holding_31 rfl rfl ?_
      exact ⟨by first | (simp only [holdF, *, not_true, not_false_iff, if_true, if_false]; done) | (subst_vars; rfl), rfl⟩
  · refine go_aload_n dX1_holding_4 rfl ?_
    refine go_get dX1_holding_5 fX1_9 rfl rfl ?_
    refine go_iload_n dX1_holding_8 rfl ?_
    refine go_ialdN (k) dX1_holding_9 rfl (hk) rfl ?_
    refine go_iret dX1_holding_10 rfl rfl ?_
    exact ⟨by first | (simp only [holdF, *, not_true, not_false_iff, if_true, if_false]; done) | (subst_vars; rfl), rfl⟩
set_option maxRecDepth 100000 in
set_option maxHeartbeats 4000000 in
theorem rX1_count_n {E : gE} {d : Nat} {nw i0 i1 : WorldS} {pd : PadS} {lv : LivesS} {pl : PlanS} {mt : MatS} {nt : NetS} {m : ModS} : Ret E yX1_count cX1_count 1 (some .int) (d + 1) 0 0 [.ref 2] (hp nw i0 i1 pd lv pl mt nt m) (dt (some (.int (bcF nw.1.1))) (hp nw i0 i1 pd lv pl mt nt m)) := by
  refine ret_of_go (L := [_]) (by decide) (Nat.le_of_ble_eq_true rfl) rfl ?_
  refine go_aload_n dX1_count_0 rfl ?_
  refine go_get dX1_count_1 fX1_31 rfl rfl ?_
  refine go_cS (as := [_]) dX1_count_4 mJ6_bitCount_0f7a4 kX1_35 tJ6_bitCount_0f7a4 rfl rfl (rJ6_bitCount_0f7a4) rfl rfl rfl ?_
  refine go_iret dX1_count_7 rfl rfl ?_
  exact ⟨rfl, rfl⟩
set_option maxRecDepth 100000 in
set_option maxHeartbeats 4000000 in
theorem rX1_enter_n {E : gE} {d : Nat} {nw i0 i1 : WorldS} {pd : PadS} {lv : LivesS} {pl : PlanS} {mt : MatS} {nt : NetS} {m : ModS} {k : Nat} {s t : Int32} (hk : k < 6) : Ret E yX1_enter cX1_enter 4 none d 0 0 [.ref 2, .int (nI k), .int s, .int t] (hp nw i0 i1 pd lv pl mt nt m) (dt none (hp (enterF nw.1 k s t, nw.2) i0 i1 pd lv pl mt nt m)) := by
  refine ret_of_go (L := [_, _, _, _]) (by decide) (Nat.le_of_ble_eq_true rfl) rfl ?_
  refine go_aload_n dX1_enter_0 rfl ?_
  refine go_dup dX1_enter_1 rfl ?_
  refine go_get dX1_enter_2 fX1_31 rfl rfl ?_
  refine go_iconst (v := 1) dX1_enter_5 (by decide) ?_
  refine go_iload_n dX1_enter_6 rfl ?_
  refine go_ishl dX1_enter_7 ?_
  refine go_ior dX1_enter_8 ?_
  refine go_put dX1_enter_9 fX1_31 (fun _ => rfl) (fun _ => rfl) rfl rfl ?_
  refine go_aload_n dX1_enter_12 rfl ?_
  refine go_get dX1_enter_13 fX1_9 rfl rfl ?_
  refine go_iload_n dX1_enter_16 rfl ?_
  refine go_iload_n dX1_enter_17 rfl ?_
  refine go_iastN (k) dX1_enter_18 rfl (hk) rfl ?_
  refine go_aload_n dX1_enter_19 rfl ?_
  refine go_get dX1_enter_20 fX1_15 rfl rfl ?_
  refine go_iload_n dX1_enter_23 rfl ?_
  refine go_iload_n dX1_enter_24 rfl ?_
  refine go_iastN (k) dX1_enter_25 rfl (hk) rfl ?_
  refine go_vret dX1_enter_26 rfl rfl ?_
  exact ⟨rfl, rfl⟩
set_option maxRecDepth 100000 in
set_option maxHeartbeats 4000000 in
theorem rX1_leave_n {E : gE} {d : Nat} {nw i0 i1 : WorldS} {pd : PadS} {lv : LivesS} {pl : PlanS} {mt : MatS} {nt : NetS} {m : ModS} {k : Nat} (hk : k < 6) : Ret E yX1_leave cX1_leave 3 none d 0 0 [.ref 2, .int (nI k)] (hp nw i0 i1 pd lv pl mt nt m) (dt none (hp (leaveF nw.1 k, nw.2) i0 i1 pd lv pl mt nt m)) := by
  refine ret_of_go (L := [_, _, _]) (by decide) (Nat.le_of_ble_eq_true rfl) rfl ?_
  have key : ∀ (n j : Nat), j + n = 6 → Go E yX1_leave cX1_leave 3 none d 0 0 0 0 44 [some (.ref 2), some (.int (nI k)), some (.int (nI j))] [] (hp ((nw.1.1 &&& (((1 : Int32) <<< (nI k &&& 31)) ^^^ (-1)), nw.1.2.1, upd (fs_ nw.1) k 0, upd (ft nw.1) k 0, upd (fw nw.1) k 0, upd (fg nw.1) k 0, leaveD (fd nw.1) k j), nw.2) i0 i1 pd lv pl mt nt m) (dt none (hp (leaveF nw.1 k, nw.2) i0 i1 pd lv pl mt nt m)) := by
    intro n
    induction n with
    | zero =>
      intro j hj
      obtain rfl : j = 6 := by omega
      refine go_iload_n dX1_leave_44 rfl ?_
      refine go_bipush (v := 6) dX1_leave_45 (by decide) ?_
      refine go_icmp_ge (tgt := 80) dX1_leave_47 (by decide) (fun q47 => ?_) (fun q => absurd (nI_le (a := 6) (b := 6) (by decide) (by decide)) q)
      refine go_vret dX1_leave_80 rfl rfl ?_
      exact ⟨rfl, rfl⟩
    | succ n ih =>
      intro j hj
      refine go_iload_n dX1_leave_44 rfl ?_
      refine go_bipush (v := 6) dX1_leave_45 (by decide) ?_
      refine go_icmp_ge (tgt := 80) dX1_leave_47 (by decide) (fun q => absurd q (nI_ge (a := j) (b := 6) (by omega) (by decide))) (fun q47 => ?_)
      refine go_aload_n dX1_leave_50 rfl ?_
      refine go_get dX1_leave_51 fX1_24 rfl rfl ?_
      refine go_iload_n dX1_leave_54 rfl ?_
      refine go_bipush (v := 6) dX1_leave_55 (by decide) ?_
      refine go_imul dX1_leave_57 ?_
      refine go_iload_n dX1_leave_58 rfl ?_
      refine go_iadd dX1_leave_59 ?_
      refine go_topi_eq nI6 ?_
      refine go_iconst (v := 0) dX1_leave_60 (by decide) ?_
      refine go_iastN (k * 6 + j) dX1_leave_61 rfl (by omega) rfl ?_
      refine go_aload_n dX1_leave_62 rfl ?_
      refine go_get dX1_leave_63 fX1_24 rfl rfl ?_
      refine go_iload_n dX1_leave_66 rfl ?_
      refine go_bipush (v := 6) dX1_leave_67 (by decide) ?_
      refine go_imul dX1_leave_69 ?_
      refine go_iload_n dX1_leave_70 rfl ?_
      refine go_iadd dX1_leave_71 ?_
      refine go_topi_eq nI6 ?_
      refine go_iconst (v := 0) dX1_leave_72 (by decide) ?_
      refine go_iastN (j * 6 + k) dX1_leave_73 rfl (by omega) rfl ?_
      refine go_iinc (v := nI (j + 1)) (L' := [_, _, _]) dX1_leave_74 rfl (nI_1 j) rfl rfl rfl ?_
      refine go_goto (tgt := 44) dX1_leave_77 (by decide) ?_
      exact ih (j + 1) (by omega)
  refine go_aload_n dX1_leave_0 rfl ?_
  refine go_dup dX1_leave_1 rfl ?_
  refine go_get dX1_leave_2 fX1_31 rfl rfl ?_
  refine go_iconst (v := 1) dX1_leave_5 (by decide) ?_
  refine go_iload_n dX1_leave_6 rfl ?_
  refine go_ishl dX1_leave_7 ?_
  refine go_iconst (v := (-1)) dX1_leave_8 (by decide) ?_
  refine go_ixor dX1_leave_9 ?_
  refine go_iand dX1_leave_10 ?_
  refine go_put dX1_leave_11 fX1_31 (fun _ => rfl) (fun _ => rfl) rfl rfl ?_
  refine go_aload_n dX1_leave_14 rfl ?_
  refine go_get dX1_leave_15 fX1_9 rfl rfl ?_
  refine go_iload_n dX1_leave_18 rfl ?_
  refine go_iconst (v := 0) dX1_leave_19 (by decide) ?_
  refine go_iastN (k) dX1_leave_20 rfl (hk) rfl ?_
  refine go_aload_n dX1_leave_21 rfl ?_
  refine go_get dX1_leave_22 fX1_15 rfl rfl ?_
  refine go_iload_n dX1_leave_25 rfl ?_
  refine go_iconst (v := 0) dX1_leave_26 (by decide) ?_
  refine go_iastN (k) dX1_leave_27 rfl (hk) rfl ?_
  refine go_aload_n dX1_leave_28 rfl ?_
  refine go_get dX1_leave_29 fX1_18 rfl rfl ?_
  refine go_iload_n dX1_leave_32 rfl ?_
  refine go_iconst (v := 0) dX1_leave_33 (by decide) ?_
  refine go_iastN (k) dX1_leave_34 rfl (hk) rfl ?_
  refine go_aload_n dX1_leave_35 rfl ?_
  refine go_get dX1_leave_36 fX1_21 rfl rfl ?_
  refine go_iload_n dX1_leave_39 rfl ?_
  refine go_iconst (v := 0) dX1_leave_40 (by decide) ?_
  refine go_iastN (k) dX1_leave_41 rfl (hk) rfl ?_
  refine go_iconst (v := 0) dX1_leave_42 (by decide) ?_
  refine go_istore_n (L' := [_, _, _]) dX1_leave_43 rfl rfl rfl ?_
  exact key 6 0 rfl
set_option maxRecDepth 100000 in
set_option maxHeartbeats 4000000 in
theorem rX1_net_n {E : gE} {d : Nat} {nw i0 i1 : WorldS} {pd : PadS} {lv : LivesS} {pl : PlanS} {mt : MatS} {nt : NetS} {m : ModS} {p : Nat} (hp6 : p < 6) : Ret E yX1_net cX1_net 4 (some .int) (d + 1) 0 0 [.ref 2, .int (nI p)] (hp nw i0 i1 pd lv pl mt nt m) (dt (some (.int (netF nw.1 p))) (hp nw i0 i1 pd lv pl mt nt m)) := by
  refine ret_of_go (L := [_, _, _, _]) (by decide) (Nat.le_of_ble_eq_true rfl) rfl ?_
  have key : ∀ (n k : Nat) (acc : Int32), k + n = 6 → acc = sumI (fun q => fd (nw.1) (q * 6 + p) - fd (nw.1) (p * 6 + q)) k → Go E yX1_net cX1_net 4 (some .int) (d + 1) 0 0 0 0 4 [some (.ref 2), some (.int (nI p)), some (.int acc), some (.int (nI k))] [] (hp nw i0 i1 pd lv pl mt nt m) (dt (some (.int (netF nw.1 p))) (hp nw i0 i1 pd lv pl mt nt m)) := by
    intro n
    induction n with
    | zero =>
      intro k acc hk ha
      obtain rfl : k = 6 := by omega
      refine go_iload_n dX1_net_4 rfl ?_
      refine go_bipush (v := 6) dX1_net_5 (by decide) ?_
      refine go_icmp_ge (tgt := 32) dX1_net_7 (by decide) (fun q7 => ?_) (fun q => absurd (nI_le (a := 6) (b := 6) (by decide) (by decide)) q)
      refine go_iload_n dX1_net_32 rfl ?_
      refine go_iret dX1_net_33 rfl rfl ?_
      exact ⟨by rw [ha]; rfl, rfl⟩
    | succ n ih =>
      intro k acc hk ha
      refine go_iload_n dX1_net_4 rfl ?_
      refine go_bipush (v := 6) dX1_net_5 (by decide) ?_
      refine go_icmp_ge (tgt := 32) dX1_net_7 (by decide) (fun q => absurd q (nI_ge (a := k) (b := 6) (by omega) (by decide))) (fun q7 => ?_)
      refine go_iload_n dX1_net_10 rfl ?_
      refine go_aload_n dX1_net_11 rfl ?_
      refine go_iload_n dX1_net_12 rfl ?_
      refine go_iload_n dX1_net_13 rfl ?_
      refine go_cV (as := [_, _]) dX1_net_14 mX1_debt kX1_50 iX1_debt sX1_debt rfl rfl rfl rfl (rX1_debt_n (a := k) (b := p) (by omega) hp6) rfl rfl rfl ?_
      refine go_aload_n dX1_net_17 rfl ?_
      refine go_iload_n dX1_net_18 rfl ?_
      refine go_iload_n dX1_net_19 rfl ?_
      refine go_cV (as := [_, _]) dX1_net_20 mX1_debt kX1_50 iX1_debt sX1_debt rfl rfl rfl rfl (rX1_debt_n (a := p) (b := k) hp6 (by omega)) rfl rfl rfl ?_
      refine go_isub dX1_net_23 ?_
      refine go_iadd dX1_net_24 ?_
      refine go_istore_n (L' := [_, _, _, _]) dX1_net_25 rfl rfl rfl ?_
      refine go_iinc (v := nI (k + 1)) (L' := [_, _, _, _]) dX1_net_26 rfl (nI_1 k) rfl rfl rfl ?_
      refine go_goto (tgt := 4) dX1_net_29 (by decide) ?_
      exact ih (k + 1) _ (by omega) (by rw [ha]; rfl)
  refine go_iconst (v := 0) dX1_net_0 (by decide) ?_
  refine go_istore_n (L' := [_, _, _, _]) dX1_net_1 rfl rfl rfl ?_
  refine go_iconst (v := 0) dX1_net_2 (by decide) ?_
  refine go_istore_n (L' := [_, _, _, _]) dX1_net_3 rfl rfl rfl ?_
  exact key 6 0 0 rfl rfl
set_option maxRecDepth 100000 in
set_option maxHeartbeats 4000000 in
theorem rX1_bare_a {E : gE} {d : Nat} {nw i0 i1 : WorldS} {pd : PadS} {lv : LivesS} {pl : PlanS} {mt : MatS} {nt : NetS} {m : ModS} : Ret E yX1_bare cX1_bare 3 (some .int) (d + 2) 0 0 [.ref 35] (hp nw i0 i1 pd lv pl mt nt m) (dt (some (.int (orB (bareB lv.1) 6))) (hp nw i0 i1 pd lv pl mt nt m)) := by
  refine ret_of_go (L := [_, _, _]) (by decide) (Nat.le_of_ble_eq_true rfl) rfl ?_
  have key : ∀ (n k : Nat) (acc : Int32), k + n = 6 → acc = orB (bareB lv.1) k → Go E yX1_bare cX1_bare 3 (some .int) (d + 2) 0 0 0 0 4 [some (.ref 35), some (.int acc), some (.int (nI k))] [] (hp nw i0 i1 pd lv pl mt nt m) (dt (some (.int (orB (bareB lv.1) 6))) (hp nw i0 i1 pd lv pl mt nt m)) := by
    intro n
    induction n with
    | zero =>
      intro k acc hk ha
      obtain rfl : k = 6 := by omega
      refine go_iload_n dX1_bare_4 rfl ?_
      refine go_bipush (v := 6) dX1_bare_5 (by decide) ?_
      refine go_icmp_ge (tgt := 39) dX1_bare_7 (by decide) (fun q7 => ?_) (fun q => absurd (nI_le (a := 6) (b := 6) (by decide) (by decide)) q)
      refine go_iload_n dX1_bare_39 rfl ?_
      refine go_iret dX1_bare_40 rfl rfl ?_
      exact ⟨by rw [ha], rfl⟩
    | succ n ih =>
      intro k acc hk ha
      refine go_iload_n dX1_bare_4 rfl ?_
      refine go_bipush (v := 6) dX1_bare_5 (by decide) ?_
      refine go_icmp_ge (tgt := 39) dX1_bare_7 (by decide) (fun q => absurd q (nI_ge (a := k) (b := 6) (by omega) (by decide))) (fun q7 => ?_)
      refine go_aload_n dX1_bare_10 rfl ?_
      refine go_iload_n dX1_bare_11 rfl ?_
      refine go_cV (as := [_]) dX1_bare_12 mX1_has kX1_63 iX1_has sX1_has rfl rfl rfl rfl (rX1_has_a) rfl rfl rfl ?_
      refine go_bif_eq (tgt := 33) dX1_bare_15 (by decide) (fun q15 => ?_) (fun q15 => ?_)
      · refine go_iinc (v := nI (k + 1)) (L' := [_, _, _]) dX1_bare_33 rfl (nI_1 k) rfl rfl rfl ?_
        refine go_goto (tgt := 4) dX1_bare_36 (by decide) ?_
        exact ih (k + 1) _ (by omega) (by rw [ha]; simp [orB, bareB, *])
      · refine go_aload_n dX1_bare_18 rfl ?_
        refine go_get dX1_bare_19 fX1_9 rfl rfl ?_
        refine go_iload_n dX1_bare_22 rfl ?_
        refine go_ialdN (k) dX1_bare_23 rfl (by omega) rfl ?_
        refine go_if_ne (tgt := 33) dX1_bare_24 (by decide) (fun q24 => ?_) (fun q24 => ?_)
        · refine go_iinc (v := nI (k + 1)) (L' := [_, _, _]) dX1_bare_33 rfl (nI_1 k) rfl rfl rfl ?_
          refine go_goto (tgt := 4) dX1_bare_36 (by decide) ?_
          exact ih (k + 1) _ (by omega) (by rw [ha]; simp [orB, bareB, *])
        · refine go_iload_n dX1_bare_27 rfl ?_
          refine go_iconst (v := 1) dX1_bare_28 (by decide) ?_
          refine go_iload_n dX1_bare_29 rfl ?_
          refine go_ishl dX1_bare_30 ?_
          refine go_ior dX1_bare_31 ?_
          refine go_istore_n (L' := [_, _, _]) dX1_bare_32 rfl rfl rfl ?_
          refine go_iinc (v := nI (k + 1)) (L' := [_, _, _]) dX1_bare_33 rfl (nI_1 k) rfl rfl rfl ?_
          refine go_goto (tgt := 4) dX1_bare_36 (by decide) ?_
          exact ih (k + 1) _ (by omega) (by rw [ha]; simp [orB, bareB, *])
  refine go_iconst (v := 0) dX1_bare_0 (by decide) ?_
  refine go_istore_n (L' := [_, _, _]) dX1_bare_1 rfl rfl rfl ?_
  refine go_iconst (v := 0) dX1_bare_2 (by decide) ?_
  refine go_istore_n (L' := [_, _, _]) dX1_bare_3 rfl rfl rfl ?_
  exact key 6 0 0 rfl rfl
set_option maxRecDepth 100000 in
set_option maxHeartbeats 4000000 in
theorem rX1_honest_n {E : gE} {d : Nat} {nw i0 i1 : WorldS} {pd : PadS} {lv : LivesS} {pl : PlanS} {mt : MatS} {nt : NetS} {m : ModS} : Ret E yX1_honest cX1_honest 3 (some .int) (d + 2) 0 0 [.ref 2] (hp nw i0 i1 pd lv pl mt nt m) (dt (some (.int (orB (honB nw.1) 6))) (hp nw i0 i1 pd lv pl mt nt m)) := by
  refine ret_of_go (L := [_, _, _]) (by decide) (Nat.le_of_ble_eq_true rfl) rfl ?_
  have key : ∀ (n k : Nat) (acc : Int32), k + n = 6 → acc = orB (honB nw.1) k → Go E yX1_honest cX1_honest 3 (some .int) (d + 2) 0 0 0 0 4 [some (.ref 2), some (.int acc), some (.int (nI k))] [] (hp nw i0 i1 pd lv pl mt nt m) (dt (some (.int (orB (honB nw.1) 6))) (hp nw i0 i1 pd lv pl mt nt m)) := by
    intro n
    induction n with
    | zero =>
      intro k acc hk ha
      obtain rfl : k = 6 := by omega
      refine go_iload_n dX1_honest_4 rfl ?_
      refine go_bipush (v := 6) dX1_honest_5 (by decide) ?_
      refine go_icmp_ge (tgt := 39) dX1_honest_7 (by decide) (fun q7 => ?_) (fun q => absurd (nI_le (a := 6) (b := 6) (by decide) (by decide)) q)
      refine go_iload_n dX1_honest_39 rfl ?_
      refine go_iret dX1_honest_40 rfl rfl ?_
      exact ⟨by rw [ha], rfl⟩
    | succ n ih =>
      intro k acc hk ha
      refine go_iload_n dX1_honest_4 rfl ?_
      refine go_bipush (v := 6) dX1_honest_5 (by decide) ?_
      refine go_icmp_ge (tgt := 39) dX1_honest_7 (by decide) (fun q => absurd q (nI_ge (a := k) (b := 6) (by omega) (by decide))) (fun q7 => ?_)
      refine go_aload_n dX1_honest_10 rfl ?_
      refine go_iload_n dX1_honest_11 rfl ?_
      refine go_cV (as := [_]) dX1_honest_12 mX1_has kX1_63 iX1_has sX1_has rfl rfl rfl rfl (rX1_has_n) rfl rfl rfl ?_
      refine go_bif_eq (tgt := 33) dX1_honest_15 (by decide) (fun q15 => ?_) (fun q15 => ?_)
      · refine go_iinc (v := nI (k + 1)) (L' := [_, _, _]) dX1_honest_33 rfl (nI_1 k) rfl rfl rfl ?_
        refine go_goto (tgt := 4) dX1_honest_36 (by decide) ?_
        exact ih (k + 1) _ (by omega) (by rw [ha]; simp [orB, honB, *])
      · refine go_aload_n dX1_honest_18 rfl ?_
        refine go_get dX1_honest_19 fX1_21 rfl rfl ?_
        refine go_iload_n dX1_honest_22 rfl ?_
        refine go_ialdN (k) dX1_honest_23 rfl (by omega) rfl ?_
        refine go_if_ne (tgt := 33) dX1_honest_24 (by decide) (fun q24 => ?_) (fun q24 => ?_)
        · refine go_iinc (v := nI (k + 1)) (L' := [_, _, _]) dX1_honest_33 rfl (nI_1 k) rfl rfl rfl ?_
          refine go_goto (tgt := 4) dX1_honest_36 (by decide) ?_
          exact ih (k + 1) _ (by omega) (by rw [ha]; simp [orB, honB, *])
        · refine go_iload_n dX1_honest_27 rfl ?_
          refine go_iconst (v := 1) dX1_honest_28 (by decide) ?_
          refine go_iload_n dX1_honest_29 rfl ?_
          refine go_ishl dX1_honest_30 ?_
          refine go_ior dX1_honest_31 ?_
          refine go_istore_n (L' := [_, _, _]) dX1_honest_32 rfl rfl rfl ?_
          refine go_iinc (v := nI (k + 1)) (L' := [_, _, _]) dX1_honest_33 rfl (nI_1 k) rfl rfl rfl ?_
          refine go_goto (tgt := 4) dX1_honest_36 (by decide) ?_
          exact ih (k + 1) _ (by omega) (by rw [ha]; simp [orB, honB, *])
  refine go_iconst (v := 0) dX1_honest_0 (by decide) ?_
  refine go_istore_n (L' := [_, _, _]) dX1_honest_1 rfl rfl rfl ?_
  refine go_iconst (v := 0) dX1_honest_2 (by decide) ?_
  refine go_istore_n (L' := [_, _, _]) dX1_honest_3 rfl rfl rfl ?_
  exact key 6 0 0 rfl rfl
set_option maxRecDepth 100000 in
set_option maxHeartbeats 4000000 in
theorem rX1_richest_n {E : gE} {d : Nat} {nw i0 i1 : WorldS} {pd : PadS} {lv : LivesS} {pl : PlanS} {mt : MatS} {nt : NetS} {m : ModS} : Ret E yX1_richest cX1_richest 4 (some .int) (d + 2) 0 0 [.ref 2] (hp nw i0 i1 pd lv pl mt nt m) (dt (some (.int (richF nw.1 6).1)) (hp nw i0 i1 pd lv pl mt nt m)) := by
  refine ret_of_go (L := [_, _, _, _]) (by decide) (Nat.le_of_ble_eq_true rfl) rfl ?_
  have key : ∀ (n k : Nat) (fo mo : Int32), k + n = 6 → fo = (richF nw.1 k).1 → mo = (richF nw.1 k).2 → Go E yX1_richest cX1_richest 4 (some .int) (d + 2) 0 0 0 0 7 [some (.ref 2), some (.int fo), some (.int mo), some (.int (nI k))] [] (hp nw i0 i1 pd lv pl mt nt m) (dt (some (.int (richF nw.1 6).1)) (hp nw i0 i1 pd lv pl mt nt m)) := by
    intro n
    induction n with
    | zero =>
      intro k fo mo hk h1 h2
      obtain rfl : k = 6 := by omega
      refine go_iload_n dX1_richest_7 rfl ?_
      refine go_bipush (v := 6) dX1_richest_8 (by decide) ?_
      refine go_icmp_ge (tgt := 46) dX1_richest_10 (by decide) (fun q10 => ?_) (fun q => absurd (nI_le (a := 6) (b := 6) (by decide) (by decide)) q)
      refine go_iload_n dX1_richest_46 rfl ?_
      refine go_iret dX1_richest_47 rfl rfl ?_
      exact ⟨by rw [h1], rfl⟩
    | succ n ih =>
      intro k fo mo hk h1 h2
      refine go_iload_n dX1_richest_7 rfl ?_
      refine go_bipush (v := 6) dX1_richest_8 (by decide) ?_
      refine go_icmp_ge (tgt := 46) dX1_richest_10 (by decide) (fun q => absurd q (nI_ge (a := k) (b := 6) (by omega) (by decide))) (fun q10 => ?_)
      refine go_aload_n dX1_richest_13 rfl ?_
      refine go_iload_n dX1_richest_14 rfl ?_
      refine go_cV (as := [_]) dX1_richest_15 mX1_has kX1_63 iX1_has sX1_has rfl rfl rfl rfl (rX1_has_n) rfl rfl rfl ?_
      refine go_bif_eq (tgt := 40) dX1_richest_18 (by decide) (fun q18 => ?_) (fun q18 => ?_)
      · refine go_iinc (v := nI (k + 1)) (L' := [_, _, _, _]) dX1_richest_40 rfl (nI_1 k) rfl rfl rfl ?_
        refine go_goto (tgt := 7) dX1_richest_43 (by decide) ?_
        exact ih (k + 1) _ _ (by omega) (by first | (rw [rich_no1 q18]; exact h1) | (rw [rich_no2 (by rw [← h2]; exact q28)]; exact h1) | (rw [rich_yes q18 (by rw [← h2]; exact q28)])) (by first | (rw [rich_no1 q18]; exact h2) | (rw [rich_no2 (by rw [← h2]; exact q28)]; exact h2) | (rw [rich_yes q18 (by rw [← h2]; exact q28)]))
      · refine go_aload_n dX1_richest_21 rfl ?_
        refine go_get dX1_richest_22 fX1_18 rfl rfl ?_
        refine go_iload_n dX1_richest_25 rfl ?_
        refine go_ialdN (k) dX1_richest_26 rfl (by omega) rfl ?_
        refine go_iload_n dX1_richest_27 rfl ?_
        refine go_icmp_le (tgt := 40) dX1_richest_28 (by decide) (fun q28 => ?_) (fun q28 => ?_)
        · refine go_iinc (v := nI (k + 1)) (L' := [_, _, _, _]) dX1_richest_40 rfl (nI_1 k) rfl rfl rfl ?_
          refine go_goto (tgt := 7) dX1_richest_43 (by decide) ?_
          exact ih (k + 1) _ _ (by omega) (by first | (rw [rich_no1 q18]; exact h1) | (rw [rich_no2 (by rw [← h2]; exact q28)]; exact h1) | (rw [rich_yes q18 (by rw [← h2]; exact q28)])) (by first | (rw [rich_no1 q18]; exact h2) | (rw [rich_no2 (by rw [← h2]; exact q28)]; exact h2) | (rw [rich_yes q18 (by rw [← h2]; exact q28)]))
        · refine go_iload_n dX1_richest_31 rfl ?_
          refine go_istore_n (L' := [_, _, _, _]) dX1_richest_32 rfl rfl rfl ?_
          refine go_aload_n dX1_richest_33 rfl ?_
          refine go_get dX1_richest_34 fX1_18 rfl rfl ?_
          refine go_iload_n dX1_richest_37 rfl ?_
          refine go_ialdN (k) dX1_richest_38 rfl (by omega) rfl ?_
          refine go_istore_n (L' := [_, _, _, _]) dX1_richest_39 rfl rfl rfl ?_
          refine go_iinc (v := nI (k + 1)) (L' := [_, _, _, _]) dX1_richest_40 rfl (nI_1 k) rfl rfl rfl ?_
          refine go_goto (tgt := 7) dX1_richest_43 (by decide) ?_
          exact ih (k + 1) _ _ (by omega) (by first | (rw [rich_no1 q18]; exact h1) | (rw [rich_no2 (by rw [← h2]; exact q28)]; exact h1) | (rw [rich_yes q18 (by rw [← h2]; exact q28)])) (by first | (rw [rich_no1 q18]; exact h2) | (rw [rich_no2 (by rw [← h2]; exact q28)]; exact h2) | (rw [rich_yes q18 (by rw [← h2]; exact q28)]))
  refine go_bipush (v := (-6)) dX1_richest_0 (by decide) ?_
  refine go_istore_n (L' := [_, _, _, _]) dX1_richest_2 rfl rfl rfl ?_
  refine go_iconst (v := (-1)) dX1_richest_3 (by decide) ?_
  refine go_istore_n (L' := [_, _, _, _]) dX1_richest_4 rfl rfl rfl ?_
  refine go_iconst (v := 0) dX1_richest_5 (by decide) ?_
  refine go_istore_n (L' := [_, _, _, _]) dX1_richest_6 rfl rfl rfl ?_
  exact key 6 0 _ _ rfl rfl rfl
set_option maxRecDepth 100000 in
set_option maxHeartbeats 4000000 in
theorem rX1_earn_a {E : gE} {d : Nat} {nw i0 i1 : WorldS} {pd : PadS} {lv : LivesS} {pl : PlanS} {mt : MatS} {nt : NetS} {m : ModS} {k : Nat} {g : Int32} (hk : k < 6) : Ret E yX1_earn cX1_earn 3 none (d + 1) 0 0 [.ref 35, .int (nI k), .int g] (hp nw i0 i1 pd lv pl mt nt m) (dt none (hp nw i0 i1 pd (earnF lv.1 k g, lv.2) pl mt nt m)) := by
  refine ret_of_go (L := [_, _, _]) (by decide) (Nat.le_of_ble_eq_true rfl) rfl ?_
  refine go_aload_n dX1_earn_0 rfl ?_
  refine go_get dX1_earn_1 fX1_18 rfl rfl ?_
  refine go_iload_n dX1_earn_4 rfl ?_
  refine go_sipush (v := 9999) dX1_earn_5 (by decide) ?_
  refine go_aload_n dX1_earn_8 rfl ?_
  refine go_get dX1_earn_9 fX1_18 rfl rfl ?_
  refine go_iload_n dX1_earn_12 rfl ?_
  refine go_ialdN (k) dX1_earn_13 rfl (hk) rfl ?_
  refine go_iload_n dX1_earn_14 rfl ?_
  refine go_iadd dX1_earn_15 ?_
  refine go_mmin dX1_earn_16 mkX1_58 rfl rfl rfl ?_
  refine go_iastN (k) dX1_earn_19 rfl (hk) rfl ?_
  refine go_vret dX1_earn_20 rfl rfl ?_
  exact ⟨rfl, rfl⟩
set_option maxRecDepth 100000 in
set_option maxHeartbeats 4000000 in
theorem rX1_signAct_a {E : gE} {d : Nat} {nw i0 i1 : WorldS} {pd : PadS} {lv : LivesS} {pl : PlanS} {mt : MatS} {nt : NetS} {m : ModS} {k : Nat} {g : Int32} (hk : k < 6) : Ret E yX1_signAct cX1_signAct 3 none (d + 2) 0 0 [.ref 35, .int (nI k), .int g] (hp nw i0 i1 pd lv pl mt nt m) (dt none (hp nw i0 i1 pd (signF lv.1 k g, lv.2) pl mt nt m)) := by
  refine ret_of_go (L := [_, _, _]) (by decide) (Nat.le_of_ble_eq_true rfl) rfl ?_
  refine go_aload_n dX1_signAct_0 rfl ?_
  refine go_get dX1_signAct_1 fX1_9 rfl rfl ?_
  refine go_iload_n dX1_signAct_4 rfl ?_
  refine go_dup2 dX1_signAct_5 rfl rfl ?_
  refine go_ialdN (k) dX1_signAct_6 rfl (hk) rfl ?_
  refine go_iconst (v := 1) dX1_signAct_7 (by decide) ?_
  refine go_isub dX1_signAct_8 ?_
  refine go_iastN (k) dX1_signAct_9 rfl (hk) rfl ?_
  refine go_heap (h2 := (hp nw i0 i1 pd (fSh lv.1 (upd (fs_ lv.1) k (fs_ lv.1 k - 1)), lv.2) pl mt nt m)) rfl ?_
  refine go_aload_n dX1_signAct_10 rfl ?_
  refine go_iload_n dX1_signAct_11 rfl ?_
  refine go_iload_n dX1_signAct_12 rfl ?_
  refine go_cVv (as := [_, _]) dX1_signAct_13 mX1_earn kX1_54 iX1_earn sX1_earn rfl rfl rfl rfl (rX1_earn_a hk) rfl rfl rfl ?_
  refine go_vret dX1_signAct_16 rfl rfl ?_
  exact ⟨rfl, rfl⟩
set_option maxRecDepth 100000 in
set_option maxHeartbeats 4000000 in
theorem rX1_forgeAct_a {E : gE} {d : Nat} {nw i0 i1 : WorldS} {pd : PadS} {lv : LivesS} {pl : PlanS} {mt : MatS} {nt : NetS} {m : ModS} {k : Nat} {g : Int32} (hk : k < 6) : Ret E yX1_forgeAct cX1_forgeAct 3 none (d + 2) 0 0 [.ref 35, .int (nI k), .int g] (hp nw i0 i1 pd lv pl mt nt m) (dt none (hp nw i0 i1 pd (forgeF lv.1 k g, lv.2) pl mt nt m)) := by
  refine ret_of_go (L := [_, _, _]) (by decide) (Nat.le_of_ble_eq_true rfl) rfl ?_
  refine go_aload_n dX1_forgeAct_0 rfl ?_
  refine go_get dX1_forgeAct_1 fX1_21 rfl rfl ?_
  refine go_iload_n dX1_forgeAct_4 rfl ?_
  refine go_dup2 dX1_forgeAct_5 rfl rfl ?_
  refine go_ialdN (k) dX1_forgeAct_6 rfl (hk) rfl ?_
  refine go_iconst (v := 1) dX1_forgeAct_7 (by decide) ?_
  refine go_iadd dX1_forgeAct_8 ?_
  refine go_iastN (k) dX1_forgeAct_9 rfl (hk) rfl ?_
  refine go_heap (h2 := (hp nw i0 i1 pd (fFo lv.1 (upd (fg lv.1) k (fg lv.1 k + 1)), lv.2) pl mt nt m)) rfl ?_
  refine go_aload_n dX1_forgeAct_10 rfl ?_
  refine go_iload_n dX1_forgeAct_11 rfl ?_
  refine go_iload_n dX1_forgeAct_12 rfl ?_
  refine go_cVv (as := [_, _]) dX1_forgeAct_13 mX1_earn kX1_54 iX1_earn sX1_earn rfl rfl rfl rfl (rX1_earn_a hk) rfl rfl rfl ?_
  refine go_vret dX1_forgeAct_16 rfl rfl ?_
  exact ⟨rfl, rfl⟩
set_option maxRecDepth 100000 in
set_option maxHeartbeats 4000000 in
theorem rX1_move_a {E : gE} {d : Nat} {nw i0 i1 : WorldS} {pd : PadS} {lv : LivesS} {pl : PlanS} {mt : MatS} {nt : NetS} {m : ModS} {a b : Nat} {n : Int32} (ha : a < 6) (hb : b < 6) : Ret E yX1_move cX1_move 4 none (d + 1) 0 0 [.ref 35, .int (nI a), .int (nI b), .int n] (hp nw i0 i1 pd lv pl mt nt m) (dt none (hp nw i0 i1 pd (moveF lv.1 a b n, lv.2) pl mt nt m)) := by
  refine ret_of_go (L := [_, _, _, _]) (by decide) (Nat.le_of_ble_eq_true rfl) rfl ?_
  refine go_aload_n dX1_move_0 rfl ?_
  refine go_get dX1_move_1 fX1_9 rfl rfl ?_
  refine go_iload_n dX1_move_4 rfl ?_
  refine go_dup2 dX1_move_5 rfl rfl ?_
  refine go_ialdN (a) dX1_move_6 rfl (ha) rfl ?_
  refine go_iload_n dX1_move_7 rfl ?_
  refine go_isub dX1_move_8 ?_
  refine go_iastN (a) dX1_move_9 rfl (ha) rfl ?_
  refine go_aload_n dX1_move_10 rfl ?_
  refine go_get dX1_move_11 fX1_9 rfl rfl ?_
  refine go_iload_n dX1_move_14 rfl ?_
  refine go_sipush (v := 400) dX1_move_15 (by decide) ?_
  refine go_aload_n dX1_move_18 rfl ?_
  refine go_get dX1_move_19 fX1_9 rfl rfl ?_
  refine go_iload_n dX1_move_22 rfl ?_
  refine go_ialdN (b) dX1_move_23 rfl (hb) rfl ?_
  refine go_iload_n dX1_move_24 rfl ?_
  refine go_iadd dX1_move_25 ?_
  refine go_mmin dX1_move_26 mkX1_58 rfl rfl rfl ?_
  refine go_iastN (b) dX1_move_29 rfl (hb) rfl ?_
  refine go_vret dX1_move_30 rfl rfl ?_
  exact ⟨rfl, rfl⟩
set_option maxRecDepth 100000 in
set_option maxHeartbeats 4000000 in
theorem rX1_owe_a {E : gE} {d : Nat} {nw i0 i1 : WorldS} {pd : PadS} {lv : LivesS} {pl : PlanS} {mt : MatS} {nt : NetS} {m : ModS} {a b : Nat} {n : Int32} (ha : a < 6) (hb : b < 6) : Ret E yX1_owe cX1_owe 4 none d 0 0 [.ref 35, .int (nI a), .int (nI b), .int n] (hp nw i0 i1 pd lv pl mt nt m) (dt none (hp nw i0 i1 pd (oweF lv.1 a b n, lv.2) pl mt nt m)) := by
  refine ret_of_go (L := [_, _, _, _]) (by decide) (Nat.le_of_ble_eq_true rfl) rfl ?_
  refine go_aload_n dX1_owe_0 rfl ?_
  refine go_get dX1_owe_1 fX1_24 rfl rfl ?_
  refine go_iload_n dX1_owe_4 rfl ?_
  refine go_bipush (v := 6) dX1_owe_5 (by decide) ?_
  refine go_imul dX1_owe_7 ?_
  refine go_iload_n dX1_owe_8 rfl ?_
  refine go_iadd dX1_owe_9 ?_
  refine go_topi_eq nI6 ?_
  refine go_dup2 dX1_owe_10 rfl rfl ?_
  refine go_ialdN (a * 6 + b) dX1_owe_11 rfl (by omega) rfl ?_
  refine go_iload_n dX1_owe_12 rfl ?_
  refine go_iadd dX1_owe_13 ?_
  refine go_iastN (a * 6 + b) dX1_owe_14 rfl (by omega) rfl ?_
  refine go_vret dX1_owe_15 rfl rfl ?_
  exact ⟨rfl, rfl⟩
set_option maxRecDepth 100000 in
set_option maxHeartbeats 4000000 in
theorem rX1_worthOfAll_a {E : gE} {d : Nat} {nw i0 i1 : WorldS} {pd : PadS} {lv : LivesS} {pl : PlanS} {mt : MatS} {nt : NetS} {m : ModS} : Ret E yX1_worthOfAll cX1_worthOfAll 3 (some .int) d 0 0 [.ref 35] (hp nw i0 i1 pd lv pl mt nt m) (dt (some (.int (sumI (fw lv.1) 6))) (hp nw i0 i1 pd lv pl mt nt m)) := by
  refine ret_of_go (L := [_, _, _]) (by decide) (Nat.le_of_ble_eq_true rfl) rfl ?_
  have key : ∀ (n k : Nat) (acc : Int32), k + n = 6 → acc = sumI (fw lv.1) k → Go E yX1_worthOfAll cX1_worthOfAll 3 (some .int) d 0 0 0 0 4 [some (.ref 35), some (.int acc), some (.int (nI k))] [] (hp nw i0 i1 pd lv pl mt nt m) (dt (some (.int (sumI (fw lv.1) 6))) (hp nw i0 i1 pd lv pl mt nt m)) := by
    intro n
    induction n with
    | zero =>
      intro k acc hk ha
      obtain rfl : k = 6 := by omega
      refine go_iload_n dX1_worthOfAll_4 rfl ?_
      refine go_bipush (v := 6) dX1_worthOfAll_5 (by decide) ?_
      refine go_icmp_ge (tgt := 25) dX1_worthOfAll_7 (by decide) (fun q7 => ?_) (fun q => absurd (nI_le (a := 6) (b := 6) (by decide) (by decide)) q)
      refine go_iload_n dX1_worthOfAll_25 rfl ?_
      refine go_iret dX1_worthOfAll_26 rfl rfl ?_
      exact ⟨by rw [ha], rfl⟩
    | succ n ih =>
      intro k acc hk ha
      refine go_iload_n dX1_worthOfAll_4 rfl ?_
      refine go_bipush (v := 6) dX1_worthOfAll_5 (by decide) ?_
      refine go_icmp_ge (tgt := 25) dX1_worthOfAll_7 (by decide) (fun q => absurd q (nI_ge (a := k) (b := 6) (by omega) (by decide))) (fun q7 => ?_)
      refine go_iload_n dX1_worthOfAll_10 rfl ?_
      refine go_aload_n dX1_worthOfAll_11 rfl ?_
      refine go_get dX1_worthOfAll_12 fX1_18 rfl rfl ?_
      refine go_iload_n dX1_worthOfAll_15 rfl ?_
      refine go_ialdN (k) dX1_worthOfAll_16 rfl (by omega) rfl ?_
      refine go_iadd dX1_worthOfAll_17 ?_
      refine go_istore_n (L' := [_, _, _]) dX1_worthOfAll_18 rfl rfl rfl ?_
      refine go_iinc (v := nI (k + 1)) (L' := [_, _, _]) dX1_worthOfAll_19 rfl (nI_1 k) rfl rfl rfl ?_
      refine go_goto (tgt := 4) dX1_worthOfAll_22 (by decide) ?_
      exact ih (k + 1) _ (by omega) (by rw [ha]; rfl)
  refine go_iconst (v := 0) dX1_worthOfAll_0 (by decide) ?_
  refine go_istore_n (L' := [_, _, _]) dX1_worthOfAll_1 rfl rfl rfl ?_
  refine go_iconst (v := 0) dX1_worthOfAll_2 (by decide) ?_
  refine go_istore_n (L' := [_, _, _]) dX1_worthOfAll_3 rfl rfl rfl ?_
  exact key 6 0 0 rfl rfl
set_option maxRecDepth 100000 in
set_option maxHeartbeats 4000000 in
theorem rX1_copyFrom_an {E : gE} {d : Nat} {nw i0 i1 : WorldS} {pd : PadS} {lv : LivesS} {pl : PlanS} {mt : MatS} {nt : NetS} {m : ModS} : Ret E yX1_copyFrom cX1_copyFrom 2 none (d + 1) 0 0 [.ref 35, .ref 2] (hp nw i0 i1 pd lv pl mt nt m) (dt none (hp nw i0 i1 pd (nw.1, lv.2) pl mt nt m)) := by
  refine ret_of_go (L := [_, _]) (by decide) (Nat.le_of_ble_eq_true rfl) rfl ?_
  refine go_aload_n dX1_copyFrom_0 rfl ?_
  refine go_aload_n dX1_copyFrom_1 rfl ?_
  refine go_get dX1_copyFrom_2 fX1_31 rfl rfl ?_
  refine go_put dX1_copyFrom_5 fX1_31 (fun _ => rfl) (fun _ => rfl) rfl rfl ?_
  refine go_aload_n dX1_copyFrom_8 rfl ?_
  refine go_aload_n dX1_copyFrom_9 rfl ?_
  refine go_get dX1_copyFrom_10 fX1_41 rfl rfl ?_
  refine go_put dX1_copyFrom_13 fX1_41 (fun _ => rfl) (fun _ => rfl) rfl rfl ?_
  refine go_aload_n dX1_copyFrom_16 rfl ?_
  refine go_get dX1_copyFrom_17 fX1_9 rfl rfl ?_
  refine go_iconst (v := 0) dX1_copyFrom_20 (by decide) ?_
  refine go_aload_n dX1_copyFrom_21 rfl ?_
  refine go_get dX1_copyFrom_22 fX1_9 rfl rfl ?_
  refine go_iconst (v := 0) dX1_copyFrom_25 (by decide) ?_
  refine go_bipush (v := 6) dX1_copyFrom_26 (by decide) ?_
  refine go_copyF dX1_copyFrom_28 kX1_44 rfl rfl (by decide) (by decide) rfl ?_
  refine go_aload_n dX1_copyFrom_31 rfl ?_
  refine go_get dX1_copyFrom_32 fX1_15 rfl rfl ?_
  refine go_iconst (v := 0) dX1_copyFrom_35 (by decide) ?_
  refine go_aload_n dX1_copyFrom_36 rfl ?_
  refine go_get dX1_copyFrom_37 fX1_15 rfl rfl ?_
  refine go_iconst (v := 0) dX1_copyFrom_40 (by decide) ?_
  refine go_bipush (v := 6) dX1_copyFrom_41 (by decide) ?_
  refine go_copyF dX1_copyFrom_43 kX1_44 rfl rfl (by decide) (by decide) rfl ?_
  refine go_aload_n dX1_copyFrom_46 rfl ?_
  refine go_get dX1_copyFrom_47 fX1_18 rfl rfl ?_
  refine go_iconst (v := 0) dX1_copyFrom_50 (by decide) ?_
  refine go_aload_n dX1_copyFrom_51 rfl ?_
  refine go_get dX1_copyFrom_52 fX1_18 rfl rfl ?_
  refine go_iconst (v := 0) dX1_copyFrom_55 (by decide) ?_
  refine go_bipush (v := 6) dX1_copyFrom_56 (by decide) ?_
  refine go_copyF dX1_copyFrom_58 kX1_44 rfl rfl (by decide) (by decide) rfl ?_
  refine go_aload_n dX1_copyFrom_61 rfl ?_
  refine go_get dX1_copyFrom_62 fX1_21 rfl rfl ?_
  refine go_iconst (v := 0) dX1_copyFrom_65 (by decide) ?_
  refine go_aload_n dX1_copyFrom_66 rfl ?_
  refine go_get dX1_copyFrom_67 fX1_21 rfl rfl ?_
  refine go_iconst (v := 0) dX1_copyFrom_70 (by decide) ?_
  refine go_bipush (v := 6) dX1_copyFrom_71 (by decide) ?_
  refine go_copyF dX1_copyFrom_73 kX1_44 rfl rfl (by decide) (by decide) rfl ?_
  refine go_aload_n dX1_copyFrom_76 rfl ?_
  refine go_get dX1_copyFrom_77 fX1_24 rfl rfl ?_
  refine go_iconst (v := 0) dX1_copyFrom_80 (by decide) ?_
  refine go_aload_n dX1_copyFrom_81 rfl ?_
  refine go_get dX1_copyFrom_82 fX1_24 rfl rfl ?_
  refine go_iconst (v := 0) dX1_copyFrom_85 (by decide) ?_
  refine go_bipush (v := 36) dX1_copyFrom_86 (by decide) ?_
  refine go_copyF dX1_copyFrom_88 kX1_44 rfl rfl (by decide) (by decide) rfl ?_
  refine go_vret dX1_copyFrom_91 rfl rfl ?_
  exact ⟨rfl, rfl⟩
set_option maxRecDepth 100000 in
set_option maxHeartbeats 4000000 in
theorem rX1_copyFrom_na {E : gE} {d : Nat} {nw i0 i1 : WorldS} {pd : PadS} {lv : LivesS} {pl : PlanS} {mt : MatS} {nt : NetS} {m : ModS} : Ret E yX1_copyFrom cX1_copyFrom 2 none (d + 1) 0 0 [.ref 2, .ref 35] (hp nw i0 i1 pd lv pl mt nt m) (dt none (hp (lv.1, nw.2) i0 i1 pd lv pl mt nt m)) := by
  refine ret_of_go (L := [_, _]) (by decide) (Nat.le_of_ble_eq_true rfl) rfl ?_
  refine go_aload_n dX1_copyFrom_0 rfl ?_
  refine go_aload_n dX1_copyFrom_1 rfl ?_
  refine go_get dX1_copyFrom_2 fX1_31 rfl rfl ?_
  refine go_put dX1_copyFrom_5 fX1_31 (fun _ => rfl) (fun _ => rfl) rfl rfl ?_
  refine go_aload_n dX1_copyFrom_8 rfl ?_
  refine go_aload_n dX1_copyFrom_9 rfl ?_
  refine go_get dX1_copyFrom_10 fX1_41 rfl rfl ?_
  refine go_put dX1_copyFrom_13 fX1_41 (fun _ => rfl) (fun _ => rfl) rfl rfl ?_
  refine go_aload_n dX1_copyFrom_16 rfl ?_
  refine go_get dX1_copyFrom_17 fX1_9 rfl rfl ?_
  refine go_iconst (v := 0) dX1_copyFrom_20 (by decide) ?_
  refine go_aload_n dX1_copyFrom_21 rfl ?_
  refine go_get dX1_copyFrom_22 fX1_9 rfl rfl ?_
  refine go_iconst (v := 0) dX1_copyFrom_25 (by decide) ?_
  refine go_bipush (v := 6) dX1_copyFrom_26 (by decide) ?_
  refine go_copyF dX1_copyFrom_28 kX1_44 rfl rfl (by decide) (by decide) rfl ?_
  refine go_aload_n dX1_copyFrom_31 rfl ?_
  refine go_get dX1_copyFrom_32 fX1_15 rfl rfl ?_
  refine go_iconst (v := 0) dX1_copyFrom_35 (by decide) ?_
  refine go_aload_n dX1_copyFrom_36 rfl ?_
  refine go_get dX1_copyFrom_37 fX1_15 rfl rfl ?_
  refine go_iconst (v := 0) dX1_copyFrom_40 (by decide) ?_
  refine go_bipush (v := 6) dX1_copyFrom_41 (by decide) ?_
  refine go_copyF dX1_copyFrom_43 kX1_44 rfl rfl (by decide) (by decide) rfl ?_
  refine go_aload_n dX1_copyFrom_46 rfl ?_
  refine go_get dX1_copyFrom_47 fX1_18 rfl rfl ?_
  refine go_iconst (v := 0) dX1_copyFrom_50 (by decide) ?_
  refine go_aload_n dX1_copyFrom_51 rfl ?_
  refine go_get dX1_copyFrom_52 fX1_18 rfl rfl ?_
  refine go_iconst (v := 0) dX1_copyFrom_55 (by decide) ?_
  refine go_bipush (v := 6) dX1_copyFrom_56 (by decide) ?_
  refine go_copyF dX1_copyFrom_58 kX1_44 rfl rfl (by decide) (by decide) rfl ?_
  refine go_aload_n dX1_copyFrom_61 rfl ?_
  refine go_get dX1_copyFrom_62 fX1_21 rfl rfl ?_
  refine go_iconst (v := 0) dX1_copyFrom_65 (by decide) ?_
  refine go_aload_n dX1_copyFrom_66 rfl ?_
  refine go_get dX1_copyFrom_67 fX1_21 rfl rfl ?_
  refine go_iconst (v := 0) dX1_copyFrom_70 (by decide) ?_
  refine go_bipush (v := 6) dX1_copyFrom_71 (by decide) ?_
  refine go_copyF dX1_copyFrom_73 kX1_44 rfl rfl (by decide) (by decide) rfl ?_
  refine go_aload_n dX1_copyFrom_76 rfl ?_
  refine go_get dX1_copyFrom_77 fX1_24 rfl rfl ?_
  refine go_iconst (v := 0) dX1_copyFrom_80 (by decide) ?_
  refine go_aload_n dX1_copyFrom_81 rfl ?_
  refine go_get dX1_copyFrom_82 fX1_24 rfl rfl ?_
  refine go_iconst (v := 0) dX1_copyFrom_85 (by decide) ?_
  refine go_bipush (v := 36) dX1_copyFrom_86 (by decide) ?_
  refine go_copyF dX1_copyFrom_88 kX1_44 rfl rfl (by decide) (by decide) rfl ?_
  refine go_vret dX1_copyFrom_91 rfl rfl ?_
  exact ⟨rfl, rfl⟩
set_option maxRecDepth 100000 in
set_option maxHeartbeats 4000000 in
theorem rX1_copyFrom_0n {E : gE} {d : Nat} {nw i0 i1 : WorldS} {pd : PadS} {lv : LivesS} {pl : PlanS} {mt : MatS} {nt : NetS} {m : ModS} : Ret E yX1_copyFrom cX1_copyFrom 2 none (d + 1) 0 0 [.ref 13, .ref 2] (hp nw i0 i1 pd lv pl mt nt m) (dt none (hp nw (nw.1, i0.2) i1 pd lv pl mt nt m)) := by
  refine ret_of_go (L := [_, _]) (by decide) (Nat.le_of_ble_eq_true rfl) rfl ?_
  refine go_aload_n dX1_copyFrom_0 rfl ?_
  refine go_aload_n dX1_copyFrom_1 rfl ?_
  refine go_get dX1_copyFrom_2 fX1_31 rfl rfl ?_
  refine go_put dX1_copyFrom_5 fX1_31 (fun _ => rfl) (fun _ => rfl) rfl rfl ?_
  refine go_aload_n dX1_copyFrom_8 rfl ?_
  refine go_aload_n dX1_copyFrom_9 rfl ?_
  refine go_get dX1_copyFrom_10 fX1_41 rfl rfl ?_
  refine go_put dX1_copyFrom_13 fX1_41 (fun _ => rfl) (fun _ => rfl) rfl rfl ?_
  refine go_aload_n dX1_copyFrom_16 rfl ?_
  refine go_get dX1_copyFrom_17 fX1_9 rfl rfl ?_
  refine go_iconst (v := 0) dX1_copyFrom_20 (by decide) ?_
  refine go_aload_n dX1_copyFrom_21 rfl ?_
  refine go_get dX1_copyFrom_22 fX1_9 rfl rfl ?_
  refine go_iconst (v := 0) dX1_copyFrom_25 (by decide) ?_
  refine go_bipush (v := 6) dX1_copyFrom_26 (by decide) ?_
  refine go_copyF dX1_copyFrom_28 kX1_44 rfl rfl (by decide) (by decide) rfl ?_
  refine go_aload_n dX1_copyFrom_31 rfl ?_
  refine go_get dX1_copyFrom_32 fX1_15 rfl rfl ?_
  refine go_iconst (v := 0) dX1_copyFrom_35 (by decide) ?_
  refine go_aload_n dX1_copyFrom_36 rfl ?_
  refine go_get dX1_copyFrom_37 fX1_15 rfl rfl ?_
  refine go_iconst (v := 0) dX1_copyFrom_40 (by decide) ?_
  refine go_bipush (v := 6) dX1_copyFrom_41 (by decide) ?_
  refine go_copyF dX1_copyFrom_43 kX1_44 rfl rfl (by decide) (by decide) rfl ?_
  refine go_aload_n dX1_copyFrom_46 rfl ?_
  refine go_get dX1_copyFrom_47 fX1_18 rfl rfl ?_
  refine go_iconst (v := 0) dX1_copyFrom_50 (by decide) ?_
  refine go_aload_n dX1_copyFrom_51 rfl ?_
  refine go_get dX1_copyFrom_52 fX1_18 rfl rfl ?_
  refine go_iconst (v := 0) dX1_copyFrom_55 (by decide) ?_
  refine go_bipush (v := 6) dX1_copyFrom_56 (by decide) ?_
  refine go_copyF dX1_copyFrom_58 kX1_44 rfl rfl (by decide) (by decide) rfl ?_
  refine go_aload_n dX1_copyFrom_61 rfl ?_
  refine go_get dX1_copyFrom_62 fX1_21 rfl rfl ?_
  refine go_iconst (v := 0) dX1_copyFrom_65 (by decide) ?_
  refine go_aload_n dX1_copyFrom_66 rfl ?_
  refine go_get dX1_copyFrom_67 fX1_21 rfl rfl ?_
  refine go_iconst (v := 0) dX1_copyFrom_70 (by decide) ?_
  refine go_bipush (v := 6) dX1_copyFrom_71 (by decide) ?_
  refine go_copyF dX1_copyFrom_73 kX1_44 rfl rfl (by decide) (by decide) rfl ?_
  refine go_aload_n dX1_copyFrom_76 rfl ?_
  refine go_get dX1_copyFrom_77 fX1_24 rfl rfl ?_
  refine go_iconst (v := 0) dX1_copyFrom_80 (by decide) ?_
  refine go_aload_n dX1_copyFrom_81 rfl ?_
  refine go_get dX1_copyFrom_82 fX1_24 rfl rfl ?_
  refine go_iconst (v := 0) dX1_copyFrom_85 (by decide) ?_
  refine go_bipush (v := 36) dX1_copyFrom_86 (by decide) ?_
  refine go_copyF dX1_copyFrom_88 kX1_44 rfl rfl (by decide) (by decide) rfl ?_
  refine go_vret dX1_copyFrom_91 rfl rfl ?_
  exact ⟨rfl, rfl⟩
set_option maxRecDepth 100000 in
set_option maxHeartbeats 4000000 in
theorem rX1_copyFrom_1n {E : gE} {d : Nat} {nw i0 i1 : WorldS} {pd : PadS} {lv : LivesS} {pl : PlanS} {mt : MatS} {nt : NetS} {m : ModS} : Ret E yX1_copyFrom cX1_copyFrom 2 none (d + 1) 0 0 [.ref 23, .ref 2] (hp nw i0 i1 pd lv pl mt nt m) (dt none (hp nw i0 (nw.1, i1.2) pd lv pl mt nt m)) := by
  refine ret_of_go (L := [_, _]) (by decide) (Nat.le_of_ble_eq_true rfl) rfl ?_
  refine go_aload_n dX1_copyFrom_0 rfl ?_
  refine go_aload_n dX1_copyFrom_1 rfl ?_
  refine go_get dX1_copyFrom_2 fX1_31 rfl rfl ?_
  refine go_put dX1_copyFrom_5 fX1_31 (fun _ => rfl) (fun _ => rfl) rfl rfl ?_
  refine go_aload_n dX1_copyFrom_8 rfl ?_
  refine go_aload_n dX1_copyFrom_9 rfl ?_
  refine go_get dX1_copyFrom_10 fX1_41 rfl rfl ?_
  refine go_put dX1_copyFrom_13 fX1_41 (fun _ => rfl) (fun _ => rfl) rfl rfl ?_
  refine go_aload_n dX1_copyFrom_16 rfl ?_
  refine go_get dX1_copyFrom_17 fX1_9 rfl rfl ?_
  refine go_iconst (v := 0) dX1_copyFrom_20 (by decide) ?_
  refine go_aload_n dX1_copyFrom_21 rfl ?_
  refine go_get dX1_copyFrom_22 fX1_9 rfl rfl ?_
  refine go_iconst (v := 0) dX1_copyFrom_25 (by decide) ?_
  refine go_bipush (v := 6) dX1_copyFrom_26 (by decide) ?_
  refine go_copyF dX1_copyFrom_28 kX1_44 rfl rfl (by decide) (by decide) rfl ?_
  refine go_aload_n dX1_copyFrom_31 rfl ?_
  refine go_get dX1_copyFrom_32 fX1_15 rfl rfl ?_
  refine go_iconst (v := 0) dX1_copyFrom_35 (by decide) ?_
  refine go_aload_n dX1_copyFrom_36 rfl ?_
  refine go_get dX1_copyFrom_37 fX1_15 rfl rfl ?_
  refine go_iconst (v := 0) dX1_copyFrom_40 (by decide) ?_
  refine go_bipush (v := 6) dX1_copyFrom_41 (by decide) ?_
  refine go_copyF dX1_copyFrom_43 kX1_44 rfl rfl (by decide) (by decide) rfl ?_
  refine go_aload_n dX1_copyFrom_46 rfl ?_
  refine go_get dX1_copyFrom_47 fX1_18 rfl rfl ?_
  refine go_iconst (v := 0) dX1_copyFrom_50 (by decide) ?_
  refine go_aload_n dX1_copyFrom_51 rfl ?_
  refine go_get dX1_copyFrom_52 fX1_18 rfl rfl ?_
  refine go_iconst (v := 0) dX1_copyFrom_55 (by decide) ?_
  refine go_bipush (v := 6) dX1_copyFrom_56 (by decide) ?_
  refine go_copyF dX1_copyFrom_58 kX1_44 rfl rfl (by decide) (by decide) rfl ?_
  refine go_aload_n dX1_copyFrom_61 rfl ?_
  refine go_get dX1_copyFrom_62 fX1_21 rfl rfl ?_
  refine go_iconst (v := 0) dX1_copyFrom_65 (by decide) ?_
  refine go_aload_n dX1_copyFrom_66 rfl ?_
  refine go_get dX1_copyFrom_67 fX1_21 rfl rfl ?_
  refine go_iconst (v := 0) dX1_copyFrom_70 (by decide) ?_
  refine go_bipush (v := 6) dX1_copyFrom_71 (by decide) ?_
  refine go_copyF dX1_copyFrom_73 kX1_44 rfl rfl (by decide) (by decide) rfl ?_
  refine go_aload_n dX1_copyFrom_76 rfl ?_
  refine go_get dX1_copyFrom_77 fX1_24 rfl rfl ?_
  refine go_iconst (v := 0) dX1_copyFrom_80 (by decide) ?_
  refine go_aload_n dX1_copyFrom_81 rfl ?_
  refine go_get dX1_copyFrom_82 fX1_24 rfl rfl ?_
  refine go_iconst (v := 0) dX1_copyFrom_85 (by decide) ?_
  refine go_bipush (v := 36) dX1_copyFrom_86 (by decide) ?_
  refine go_copyF dX1_copyFrom_88 kX1_44 rfl rfl (by decide) (by decide) rfl ?_
  refine go_vret dX1_copyFrom_91 rfl rfl ?_
  exact ⟨rfl, rfl⟩
set_option maxRecDepth 100000 in
set_option maxHeartbeats 4000000 in
theorem rX1_copyFrom_n0 {E : gE} {d : Nat} {nw i0 i1 : WorldS} {pd : PadS} {lv : LivesS} {pl : PlanS} {mt : MatS} {nt : NetS} {m : ModS} : Ret E yX1_copyFrom cX1_copyFrom 2 none (d + 1) 0 0 [.ref 2, .ref 13] (hp nw i0 i1 pd lv pl mt nt m) (dt none (hp (i0.1, nw.2) i0 i1 pd lv pl mt nt m)) := by
  refine ret_of_go (L := [_, _]) (by decide) (Nat.le_of_ble_eq_true rfl) rfl ?_
  refine go_aload_n dX1_copyFrom_0 rfl ?_
  refine go_aload_n dX1_copyFrom_1 rfl ?_
  refine go_get dX1_copyFrom_2 fX1_31 rfl rfl ?_
  refine go_put dX1_copyFrom_5 fX1_31 (fun _ => rfl) (fun _ => rfl) rfl rfl ?_
  refine go_aload_n dX1_copyFrom_8 rfl ?_
  refine go_aload_n dX1_copyFrom_9 rfl ?_
  refine go_get dX1_copyFrom_10 fX1_41 rfl rfl ?_
  refine go_put dX1_copyFrom_13 fX1_41 (fun _ => rfl) (fun _ => rfl) rfl rfl ?_
  refine go_aload_n dX1_copyFrom_16 rfl ?_
  refine go_get dX1_copyFrom_17 fX1_9 rfl rfl ?_
  refine go_iconst (v := 0) dX1_copyFrom_20 (by decide) ?_
  refine go_aload_n dX1_copyFrom_21 rfl ?_
  refine go_get dX1_copyFrom_22 fX1_9 rfl rfl ?_
  refine go_iconst (v := 0) dX1_copyFrom_25 (by decide) ?_
  refine go_bipush (v := 6) dX1_copyFrom_26 (by decide) ?_
  refine go_copyF dX1_copyFrom_28 kX1_44 rfl rfl (by decide) (by decide) rfl ?_
  refine go_aload_n dX1_copyFrom_31 rfl ?_
  refine go_get dX1_copyFrom_32 fX1_15 rfl rfl ?_
  refine go_iconst (v := 0) dX1_copyFrom_35 (by decide) ?_
  refine go_aload_n dX1_copyFrom_36 rfl ?_
  refine go_get dX1_copyFrom_37 fX1_15 rfl rfl ?_
  refine go_iconst (v := 0) dX1_copyFrom_40 (by decide) ?_
  refine go_bipush (v := 6) dX1_copyFrom_41 (by decide) ?_
  refine go_copyF dX1_copyFrom_43 kX1_44 rfl rfl (by decide) (by decide) rfl ?_
  refine go_aload_n dX1_copyFrom_46 rfl ?_
  refine go_get dX1_copyFrom_47 fX1_18 rfl rfl ?_
  refine go_iconst (v := 0) dX1_copyFrom_50 (by decide) ?_
  refine go_aload_n dX1_copyFrom_51 rfl ?_
  refine go_get dX1_copyFrom_52 fX1_18 rfl rfl ?_
  refine go_iconst (v := 0) dX1_copyFrom_55 (by decide) ?_
  refine go_bipush (v := 6) dX1_copyFrom_56 (by decide) ?_
  refine go_copyF dX1_copyFrom_58 kX1_44 rfl rfl (by decide) (by decide) rfl ?_
  refine go_aload_n dX1_copyFrom_61 rfl ?_
  refine go_get dX1_copyFrom_62 fX1_21 rfl rfl ?_
  refine go_iconst (v := 0) dX1_copyFrom_65 (by decide) ?_
  refine go_aload_n dX1_copyFrom_66 rfl ?_
  refine go_get dX1_copyFrom_67 fX1_21 rfl rfl ?_
  refine go_iconst (v := 0) dX1_copyFrom_70 (by decide) ?_
  refine go_bipush (v := 6) dX1_copyFrom_71 (by decide) ?_
  refine go_copyF dX1_copyFrom_73 kX1_44 rfl rfl (by decide) (by decide) rfl ?_
  refine go_aload_n dX1_copyFrom_76 rfl ?_
  refine go_get dX1_copyFrom_77 fX1_24 rfl rfl ?_
  refine go_iconst (v := 0) dX1_copyFrom_80 (by decide) ?_
  refine go_aload_n dX1_copyFrom_81 rfl ?_
  refine go_get dX1_copyFrom_82 fX1_24 rfl rfl ?_
  refine go_iconst (v := 0) dX1_copyFrom_85 (by decide) ?_
  refine go_bipush (v := 36) dX1_copyFrom_86 (by decide) ?_
  refine go_copyF dX1_copyFrom_88 kX1_44 rfl rfl (by decide) (by decide) rfl ?_
  refine go_vret dX1_copyFrom_91 rfl rfl ?_
  exact ⟨rfl, rfl⟩
set_option maxRecDepth 100000 in
set_option maxHeartbeats 4000000 in
theorem rX1_copyFrom_n1 {E : gE} {d : Nat} {nw i0 i1 : WorldS} {pd : PadS} {lv : LivesS} {pl : PlanS} {mt : MatS} {nt : NetS} {m : ModS} : Ret E yX1_copyFrom cX1_copyFrom 2 none (d + 1) 0 0 [.ref 2, .ref 23] (hp nw i0 i1 pd lv pl mt nt m) (dt none (hp (i1.1, nw.2) i0 i1 pd lv pl mt nt m)) := by
  refine ret_of_go (L := [_, _]) (by decide) (Nat.le_of_ble_eq_true rfl) rfl ?_
  refine go_aload_n dX1_copyFrom_0 rfl ?_
  refine go_aload_n dX1_copyFrom_1 rfl ?_
  refine go_get dX1_copyFrom_2 fX1_31 rfl rfl ?_
  refine go_put dX1_copyFrom_5 fX1_31 (fun _ => rfl) (fun _ => rfl) rfl rfl ?_
  refine go_aload_n dX1_copyFrom_8 rfl ?_
  refine go_aload_n dX1_copyFrom_9 rfl ?_
  refine go_get dX1_copyFrom_10 fX1_41 rfl rfl ?_
  refine go_put dX1_copyFrom_13 fX1_41 (fun _ => rfl) (fun _ => rfl) rfl rfl ?_
  refine go_aload_n dX1_copyFrom_16 rfl ?_
  refine go_get dX1_copyFrom_17 fX1_9 rfl rfl ?_
  refine go_iconst (v := 0) dX1_copyFrom_20 (by decide) ?_
  refine go_aload_n dX1_copyFrom_21 rfl ?_
  refine go_get dX1_copyFrom_22 fX1_9 rfl rfl ?_
  refine go_iconst (v := 0) dX1_copyFrom_25 (by decide) ?_
  refine go_bipush (v := 6) dX1_copyFrom_26 (by decide) ?_
  refine go_copyF dX1_copyFrom_28 kX1_44 rfl rfl (by decide) (by decide) rfl ?_
  refine go_aload_n dX1_copyFrom_31 rfl ?_
  refine go_get dX1_copyFrom_32 fX1_15 rfl rfl ?_
  refine go_iconst (v := 0) dX1_copyFrom_35 (by decide) ?_
  refine go_aload_n dX1_copyFrom_36 rfl ?_
  refine go_get dX1_copyFrom_37 fX1_15 rfl rfl ?_
  refine go_iconst (v := 0) dX1_copyFrom_40 (by decide) ?_
  refine go_bipush (v := 6) dX1_copyFrom_41 (by decide) ?_
  refine go_copyF dX1_copyFrom_43 kX1_44 rfl rfl (by decide) (by decide) rfl ?_
  refine go_aload_n dX1_copyFrom_46 rfl ?_
  refine go_get dX1_copyFrom_47 fX1_18 rfl rfl ?_
  refine go_iconst (v := 0) dX1_copyFrom_50 (by decide) ?_
  refine go_aload_n dX1_copyFrom_51 rfl ?_
  refine go_get dX1_copyFrom_52 fX1_18 rfl rfl ?_
  refine go_iconst (v := 0) dX1_copyFrom_55 (by decide) ?_
  refine go_bipush (v := 6) dX1_copyFrom_56 (by decide) ?_
  refine go_copyF dX1_copyFrom_58 kX1_44 rfl rfl (by decide) (by decide) rfl ?_
  refine go_aload_n dX1_copyFrom_61 rfl ?_
  refine go_get dX1_copyFrom_62 fX1_21 rfl rfl ?_
  refine go_iconst (v := 0) dX1_copyFrom_65 (by decide) ?_
  refine go_aload_n dX1_copyFrom_66 rfl ?_
  refine go_get dX1_copyFrom_67 fX1_21 rfl rfl ?_
  refine go_iconst (v := 0) dX1_copyFrom_70 (by decide) ?_
  refine go_bipush (v := 6) dX1_copyFrom_71 (by decide) ?_
  refine go_copyF dX1_copyFrom_73 kX1_44 rfl rfl (by decide) (by decide) rfl ?_
  refine go_aload_n dX1_copyFrom_76 rfl ?_
  refine go_get dX1_copyFrom_77 fX1_24 rfl rfl ?_
  refine go_iconst (v := 0) dX1_copyFrom_80 (by decide) ?_
  refine go_aload_n dX1_copyFrom_81 rfl ?_
  refine go_get dX1_copyFrom_82 fX1_24 rfl rfl ?_
  refine go_iconst (v := 0) dX1_copyFrom_85 (by decide) ?_
  refine go_bipush (v := 36) dX1_copyFrom_86 (by decide) ?_
  refine go_copyF dX1_copyFrom_88 kX1_44 rfl rfl (by decide) (by decide) rfl ?_
  refine go_vret dX1_copyFrom_91 rfl rfl ?_
  exact ⟨rfl, rfl⟩
end
section
def letB (x : Int32) : Bool := isInB x 65 70
def digB (x : Int32) : Bool := isInB x 49 57
def sg (S : Nat → Int32) (c j : Nat) : Int32 := if j < c then S j else 0
def oI (t : Option Nat) : Int32 := match t with
  | none => -1
  | some k => nI k
/-- behind a PERSON's letter -/
def abD (x : Int32) : Option Nat := if digB x || decide (x = 42) then some 0 else if x = 33 then some 2 else if x = 62 then some 3 else if x = 61 then some 3 else if x = 60 then some 3 else none
def abO (t : Nat) (x : Int32) : Option Nat := match t with
  | 0 => if x = 46 then some 0 else if letB x then some 1 else none
  | 1 => abD x
  | 2 => if digB x then some 0 else none
  | 3 => if digB x then some 4 else none
  | _ => if letB x then some 0 else none
def ffR (S : Nat → Int32) : Nat → Nat → Nat → Int32
  | 0, j, t => if t = 0 then -6 else nI j
  | n + 1, j, t => match abO t (S j) with
    | none => nI j
    | some u => ffR S n (j + 1) u
theorem abD_le {x : Int32} {u : Nat} (h : abD x = some u) : u ≤ 4 := by
  unfold abD at h
  repeat' split at h
  all_goals simp at h
  all_goals omega
theorem abO_le {t : Nat} {x : Int32} {u : Nat} (h : abO t x = some u) : u ≤ 4 := by
  unfold abO at h
  split at h
  · repeat' split at h
    all_goals simp at h
    all_goals omega
  · exact abD_le h
  all_goals
    split at h
    all_goals simp at h
    all_goals omega
set_option maxRecDepth 100000 in
set_option maxHeartbeats 4000000 in
theorem rX5_isLetter {E : gE} {d : Nat} {x : Int32} {h : gH} : Ret E yX5_isLetter cX5_isLetter 1 (some .boolean) (d + 1) 0 0 [.int x] h (dt (some (.int (b2i (letB x)))) h) := by
  refine ret_of_go (L := [_]) (by decide) (Nat.le_of_ble_eq_true rfl) rfl ?_
  refine go_iload_n dX5_isLetter_0 rfl ?_
  refine go_bipush (v := 65) dX5_isLetter_1 (by decide) ?_
  refine go_bipush (v := 70) dX5_isLetter_3 (by decide) ?_
  refine go_cS (as := [_, _, _]) dX5_isLetter_5 mX8_isIn kX5_34 tX8_isIn rfl rfl (rX8_isIn) rfl rfl rfl ?_
  refine go_zret dX5_isLetter_8 (b2i_nar _) rfl rfl ?_
  exact ⟨rfl, rfl⟩
set_option maxRecDepth 100000 in
set_option maxHeartbeats 4000000 in
theorem rX5_isDigit {E : gE} {d : Nat} {x : Int32} {h : gH} : Ret E yX5_isDigit cX5_isDigit 1 (some .boolean) (d + 1) 0 0 [.int x] h (dt (some (.int (b2i (digB x)))) h) := by
  refine ret_of_go (L := [_]) (by decide) (Nat.le_of_ble_eq_true rfl) rfl ?_
  refine go_iload_n dX5_isDigit_0 rfl ?_
  refine go_bipush (v := 49) dX5_isDigit_1 (by decide) ?_
  refine go_bipush (v := 57) dX5_isDigit_3 (by decide) ?_
  refine go_cS (as := [_, _, _]) dX5_isDigit_5 mX8_isIn kX5_34 tX8_isIn rfl rfl (rX8_isIn) rfl rfl rfl ?_
  refine go_zret dX5_isDigit_8 (b2i_nar _) rfl rfl ?_
  exact ⟨rfl, rfl⟩
set_option maxRecDepth 100000 in
set_option maxHeartbeats 4000000 in
theorem rX5_awaitedBehindDeed {E : gE} {d : Nat} {x : Int32} {h : gH} : Ret E yX5_awaitedBehindDeed cX5_awaitedBehindDeed 1 (some .int) (d + 2) 0 0 [.int x] h (dt (some (.int (oI (abD x)))) h) := by
  refine ret_of_go (L := [_]) (by decide) (Nat.le_of_ble_eq_true rfl) rfl ?_
  refine go_iload_n dX5_awaitedBehindDeed_0 rfl ?_
  refine go_cS (as := [_]) dX5_awaitedBehindDeed_1 mX5_isDigit kX5_31 tX5_isDigit rfl rfl (rX5_isDigit) rfl rfl rfl ?_
  refine go_bif_ne (tgt := 13) dX5_awaitedBehindDeed_4 (by decide) (fun q4 => ?_) (fun q4 => ?_)
  · refine go_iconst (v := 0) dX5_awaitedBehindDeed_13 (by decide) ?_
    refine go_iret dX5_awaitedBehindDeed_14 rfl rfl ?_
    exact ⟨by first | (simp only [abD, oI, *, Bool.true_or, Bool.false_or, Bool.or_true, decide_true, decide_false, if_true, if_false, Bool.false_eq_true]; done) | (simp only [abD, oI, *, Bool.true_or, Bool.false_or, Bool.or_true, decide_true, decide_false, if_true, if_false, Bool.false_eq_true]; rfl) | (subst_vars; rfl), rfl⟩
  · refine go_iload_n dX5_awaitedBehindDeed_7 rfl ?_
    refine go_bipush (v := 42) dX5_awaitedBehindDeed_8 (by decide) ?_
    refine go_icmp_ne (tgt := 15) dX5_awaitedBehindDeed_10 (by decide) (fun q10 => ?_) (fun q10 => ?_)
    · refine go_iload_n dX5_awaitedBehindDeed_15 rfl ?_
      refine go_bipush (v := 33) dX5_awaitedBehindDeed_16 (by decide) ?_
      refine go_icmp_ne (tgt := 23) dX5_awaitedBehindDeed_18 (by decide) (fun q18 => ?_) (fun q18 => ?_)
      · refine go_iload_n dX5_awaitedBehindDeed_23 rfl ?_
        refine go_bipush (v := 62) dX5_awaitedBehindDeed_24 (by decide) ?_
        refine go_icmp_eq (tgt := 41) dX5_awaitedBehindDeed_26 (by decide) (fun q26 => ?_) (fun q26 => ?_)
        · refine go_iconst (v := 3) dX5_awaitedBehindDeed_41 (by decide) ?_
          refine go_goto (tgt := 46) dX5_awaitedBehindDeed_42 (by decide) ?_
          refine go_iret dX5_awaitedBehindDeed_46 rfl rfl ?_
          exact ⟨by first | (simp only [abD, oI, *, Bool.true_or, Bool.false_or, Bool.or_true, decide_true, decide_false, if_true, if_false, Bool.false_eq_true]; done) | (simp only [abD, oI, *, Bool.true_or, Bool.false_or, Bool.or_true, decide_true, decide_false, if_true, if_false, Bool.false_eq_true]; rfl) | (subst_vars; rfl), rfl⟩
        · refine go_iload_n dX5_awaitedBehindDeed_29 rfl ?_
          refine go_bipush (v := 61) dX5_awaitedBehindDeed_30 (by decide) ?_
          refine go_icmp_eq (tgt := 41) dX5_awaitedBehindDeed_32 (by decide) (fun q32 => ?_) (fun q32 => ?_)
          · refine go_iconst (v := 3) dX5_awaitedBehindDeed_41 (by decide) ?_
            refine go_goto (tgt := 46) dX5_awaitedBehindDeed_42 (by decide) ?_
            refine go_iret dX5_awaitedBehindDeed_46 rfl rfl ?_
            exact ⟨by first | (simp only [abD, oI, *, Bool.true_or, Bool.false_or, Bool.or_true, decide_true, decide_false, if_true, if_false, Bool.false_eq_true]; done) | (simp only [abD, oI, *, Bool.true_or, Bool.false_or, Bool.or_true, decide_true, decide_false, if_true, if_false, Bool.false_eq_true]; rfl) | (subst_vars; rfl), rfl⟩
          · refine go_iload_n dX5_awaitedBehindDeed_35 rfl ?_
            refine go_bipush (v := 60) dX5_awaitedBehindDeed_36 (by decide) ?_
            refine go_icmp_ne (tgt := 45) dX5_awaitedBehindDeed_38 (by decide) (fun q38 => ?_) (fun q38 => ?_)
            · refine go_iconst (v := (-1)) dX5_awaitedBehindDeed_45 (by decide) ?_
              refine go_iret dX5_awaitedBehindDeed_46 rfl rfl ?_
              exact ⟨by first | (simp only [abD, oI, *, Bool.true_or, Bool.false_or, Bool.or_true, decide_true, decide_false, if_true, if_false, Bool.false_eq_true]; done) | (simp only [abD, oI, *, Bool.true_or, Bool.false_or, Bool.or_true, decide_true, decide_false, if_true, if_false, Bool.false_eq_true]; rfl) | (subst_vars; rfl), rfl⟩
            · refine go_iconst (v := 3) dX5_awaitedBehindDeed_41 (by decide) ?_
              refine go_goto (tgt := 46) dX5_awaitedBehindDeed_42 (by decide) ?_
              refine go_iret dX5_awaitedBehindDeed_46 rfl rfl ?_
              exact ⟨by first | (simp only [abD, oI, *, Bool.true_or, Bool.false_or, Bool.or_true, decide_true, decide_false, if_true, if_false, Bool.false_eq_true]; done) | (simp only [abD, oI, *, Bool.true_or, Bool.false_or, Bool.or_true, decide_true, decide_false, if_true, if_false, Bool.false_eq_true]; rfl) | (subst_vars; rfl), rfl⟩
      · refine go_iconst (v := 2) dX5_awaitedBehindDeed_21 (by decide) ?_
        refine go_iret dX5_awaitedBehindDeed_22 rfl rfl ?_
        exact ⟨by first | (simp only [abD, oI, *, Bool.true_or, Bool.false_or, Bool.or_true, decide_true, decide_false, if_true, if_false, Bool.false_eq_true]; done) | (simp only [abD, oI, *, Bool.true_or, Bool.false_or, Bool.or_true, decide_true, decide_false, if_true, if_false, Bool.false_eq_true]; rfl) | (subst_vars; rfl), rfl⟩
    · refine go_iconst (v := 0) dX5_awaitedBehindDeed_13 (by decide) ?_
      refine go_iret dX5_awaitedBehindDeed_14 rfl rfl ?_
      exact ⟨by first | (simp only [abD, oI, *, Bool.true_or, Bool.false_or, Bool.or_true, decide_true, decide_false, if_true, if_false, Bool.false_eq_true]; done) | (simp only [abD, oI, *, Bool.true_or, Bool.false_or, Bool.or_true, decide_true, decide_false, if_true, if_false, Bool.false_eq_true]; rfl) | (subst_vars; rfl), rfl⟩
set_option maxRecDepth 100000 in
set_option maxHeartbeats 4000000 in
theorem rX5_awaitedBehind {E : gE} {d : Nat} {t : Nat} {x : Int32} {h : gH} (ht : t ≤ 4) : Ret E yX5_awaitedBehind cX5_awaitedBehind 2 (some .int) (d + 3) 0 0 [.int (nI t), .int x] h (dt (some (.int (oI (abO t x)))) h) := by
  refine ret_of_go (L := [_, _]) (by decide) (Nat.le_of_ble_eq_true rfl) rfl ?_
  obtain ⟨rfl⟩ | ⟨rfl⟩ | ⟨rfl⟩ | ⟨rfl⟩ | ⟨rfl⟩ : t = 0 ∨ t = 1 ∨ t = 2 ∨ t = 3 ∨ t = 4 := by omega
  · refine go_iload_n dX5_awaitedBehind_0 rfl ?_
    refine go_tableIn (off := 31) (tgt := 32) dX5_awaitedBehind_1 (by decide) (by decide) (by decide) (by decide) ?_
    refine go_iload_n dX5_awaitedBehind_32 rfl ?_
    refine go_bipush (v := 46) dX5_awaitedBehind_33 (by decide) ?_
    refine go_icmp_ne (tgt := 42) dX5_awaitedBehind_35 (by decide) (fun q35 => ?_) (fun q35 => ?_)
    · refine go_iload_n dX5_awaitedBehind_42 rfl ?_
      refine go_cS (as := [_]) dX5_awaitedBehind_43 mX5_isLetter kX5_23 tX5_isLetter rfl rfl (rX5_isLetter) rfl rfl rfl ?_
      refine go_bif_eq (tgt := 53) dX5_awaitedBehind_46 (by decide) (fun q46 => ?_) (fun q46 => ?_)
      · refine go_iconst (v := (-1)) dX5_awaitedBehind_53 (by decide) ?_
        refine go_iret dX5_awaitedBehind_54 rfl rfl ?_
        exact ⟨by first | (simp only [abO, oI, *, if_true, if_false, Bool.false_eq_true]; done) | (simp only [abO, oI, *, if_true, if_false, Bool.false_eq_true]; rfl) | (subst_vars; rfl) | rfl, rfl⟩
      · refine go_iconst (v := 1) dX5_awaitedBehind_49 (by decide) ?_
        refine go_goto (tgt := 54) dX5_awaitedBehind_50 (by decide) ?_
        refine go_iret dX5_awaitedBehind_54 rfl rfl ?_
        exact ⟨by first | (simp only [abO, oI, *, if_true, if_false, Bool.false_eq_true]; done) | (simp only [abO, oI, *, if_true, if_false, Bool.false_eq_true]; rfl) | (subst_vars; rfl) | rfl, rfl⟩
    · refine go_iconst (v := 0) dX5_awaitedBehind_38 (by decide) ?_
      refine go_goto (tgt := 54) dX5_awaitedBehind_39 (by decide) ?_
      refine go_iret dX5_awaitedBehind_54 rfl rfl ?_
      exact ⟨by first | (simp only [abO, oI, *, if_true, if_false, Bool.false_eq_true]; done) | (simp only [abO, oI, *, if_true, if_false, Bool.false_eq_true]; rfl) | (subst_vars; rfl) | rfl, rfl⟩
  · refine go_iload_n dX5_awaitedBehind_0 rfl ?_
    refine go_tableIn (off := 54) (tgt := 55) dX5_awaitedBehind_1 (by decide) (by decide) (by decide) (by decide) ?_
    refine go_iload_n dX5_awaitedBehind_55 rfl ?_
    refine go_cS (as := [_]) dX5_awaitedBehind_56 mX5_awaitedBehindDeed kX5_27 tX5_awaitedBehindDeed rfl rfl (rX5_awaitedBehindDeed) rfl rfl rfl ?_
    refine go_iret dX5_awaitedBehind_59 rfl rfl ?_
    exact ⟨by first | (simp only [abO, oI, *, if_true, if_false, Bool.false_eq_true]; done) | (simp only [abO, oI, *, if_true, if_false, Bool.false_eq_true]; rfl) | (subst_vars; rfl) | rfl, rfl⟩
  · refine go_iload_n dX5_awaitedBehind_0 rfl ?_
    refine go_tableIn (off := 59) (tgt := 60) dX5_awaitedBehind_1 (by decide) (by decide) (by decide) (by decide) ?_
    refine go_iload_n dX5_awaitedBehind_60 rfl ?_
    refine go_cS (as := [_]) dX5_awaitedBehind_61 mX5_isDigit kX5_31 tX5_isDigit rfl rfl (rX5_isDigit) rfl rfl rfl ?_
    refine go_bif_eq (tgt := 71) dX5_awaitedBehind_64 (by decide) (fun q64 => ?_) (fun q64 => ?_)
    · refine go_iconst (v := (-1)) dX5_awaitedBehind_71 (by decide) ?_
      refine go_iret dX5_awaitedBehind_72 rfl rfl ?_
      exact ⟨by first | (simp only [abO, oI, *, if_true, if_false, Bool.false_eq_true]; done) | (simp only [abO, oI, *, if_true, if_false, Bool.false_eq_true]; rfl) | (subst_vars; rfl) | rfl, rfl⟩
    · refine go_iconst (v := 0) dX5_awaitedBehind_67 (by decide) ?_
      refine go_goto (tgt := 72) dX5_awaitedBehind_68 (by decide) ?_
      refine go_iret dX5_awaitedBehind_72 rfl rfl ?_
      exact ⟨by first | (simp only [abO, oI, *, if_true, if_false, Bool.false_eq_true]; done) | (simp only [abO, oI, *, if_true, if_false, Bool.false_eq_true]; rfl) | (subst_vars; rfl) | rfl, rfl⟩
  · refine go_iload_n dX5_awaitedBehind_0 rfl ?_
    refine go_tableIn (off := 72) (tgt := 73) dX5_awaitedBehind_1 (by decide) (by decide) (by decide) (by decide) ?_
    refine go_iload_n dX5_awaitedBehind_73 rfl ?_
    refine go_cS (as := [_]) dX5_awaitedBehind_74 mX5_isDigit kX5_31 tX5_isDigit rfl rfl (rX5_isDigit) rfl rfl rfl ?_
    refine go_bif_eq (tgt := 84) dX5_awaitedBehind_77 (by decide) (fun q77 => ?_) (fun q77 => ?_)
    · refine go_iconst (v := (-1)) dX5_awaitedBehind_84 (by decide) ?_
      refine go_iret dX5_awaitedBehind_85 rfl rfl ?_
      exact ⟨by first | (simp only [abO, oI, *, if_true, if_false, Bool.false_eq_true]; done) | (simp only [abO, oI, *, if_true, if_false, Bool.false_eq_true]; rfl) | (subst_vars; rfl) | rfl, rfl⟩
    · refine go_iconst (v := 4) dX5_awaitedBehind_80 (by decide) ?_
      refine go_goto (tgt := 85) dX5_awaitedBehind_81 (by decide) ?_
      refine go_iret dX5_awaitedBehind_85 rfl rfl ?_
      exact ⟨by first | (simp only [abO, oI, *, if_true, if_false, Bool.false_eq_true]; done) | (simp only [abO, oI, *, if_true, if_false, Bool.false_eq_true]; rfl) | (subst_vars; rfl) | rfl, rfl⟩
  · refine go_iload_n dX5_awaitedBehind_0 rfl ?_
    refine go_tableOut (tgt := 86) dX5_awaitedBehind_1 (by decide) (by decide) ?_
    refine go_iload_n dX5_awaitedBehind_86 rfl ?_
    refine go_cS (as := [_]) dX5_awaitedBehind_87 mX5_isLetter kX5_23 tX5_isLetter rfl rfl (rX5_isLetter) rfl rfl rfl ?_
    refine go_bif_eq (tgt := 97) dX5_awaitedBehind_90 (by decide) (fun q90 => ?_) (fun q90 => ?_)
    · refine go_iconst (v := (-1)) dX5_awaitedBehind_97 (by decide) ?_
      refine go_iret dX5_awaitedBehind_98 rfl rfl ?_
      exact ⟨by first | (simp only [abO, oI, *, if_true, if_false, Bool.false_eq_true]; done) | (simp only [abO, oI, *, if_true, if_false, Bool.false_eq_true]; rfl) | (subst_vars; rfl) | rfl, rfl⟩
    · refine go_iconst (v := 0) dX5_awaitedBehind_93 (by decide) ?_
      refine go_goto (tgt := 98) dX5_awaitedBehind_94 (by decide) ?_
      refine go_iret dX5_awaitedBehind_98 rfl rfl ?_
      exact ⟨by first | (simp only [abO, oI, *, if_true, if_false, Bool.false_eq_true]; done) | (simp only [abO, oI, *, if_true, if_false, Bool.false_eq_true]; rfl) | (subst_vars; rfl) | rfl, rfl⟩
set_option maxRecDepth 100000 in
set_option maxHeartbeats 4000000 in
theorem rX5_add {E : gE} {d : Nat} {nw i0 i1 : WorldS} {lv : LivesS} {pl : PlanS} {mt : MatS} {nt : NetS} {m : ModS} {S : Nat → Int32} {c : Nat} {x : Int32} (hc : c < 60) : Ret E yX5_add cX5_add 2 none d 0 0 [.ref 32, .int x] (hp nw i0 i1 (S, nI c) lv pl mt nt m) (dt none (hp nw i0 i1 (upd S c x, nI (c + 1)) lv pl mt nt m)) := by
  refine ret_of_go (L := [_, _]) (by decide) (Nat.le_of_ble_eq_true rfl) rfl ?_
  refine go_aload_n dX5_add_0 rfl ?_
  refine go_get dX5_add_1 fX5_9 rfl rfl ?_
  refine go_aload_n dX5_add_4 rfl ?_
  refine go_get dX5_add_5 fX5_15 rfl rfl ?_
  refine go_iload_n dX5_add_8 rfl ?_
  refine go_iastN (c) dX5_add_9 rfl (hc) rfl ?_
  refine go_aload_n dX5_add_10 rfl ?_
  refine go_dup dX5_add_11 rfl ?_
  refine go_get dX5_add_12 fX5_15 rfl rfl ?_
  refine go_iconst (v := 1) dX5_add_15 (by decide) ?_
  refine go_iadd dX5_add_16 ?_
  refine go_topi_eq (nI_1 c) ?_
  refine go_put dX5_add_17 fX5_15 (fun _ => rfl) (fun _ => rfl) rfl rfl ?_
  refine go_vret dX5_add_20 rfl rfl ?_
  exact ⟨rfl, rfl⟩
set_option maxRecDepth 100000 in
set_option maxHeartbeats 4000000 in
theorem rX5_signAt {E : gE} {d : Nat} {nw i0 i1 : WorldS} {lv : LivesS} {pl : PlanS} {mt : MatS} {nt : NetS} {m : ModS} {S : Nat → Int32} {c : Nat} {j : Nat} (hc : c ≤ 60) (hj2 : j ≤ 1000) : Ret E yX5_signAt cX5_signAt 2 (some .int) d 0 0 [.ref 32, .int (nI j)] (hp nw i0 i1 (S, nI c) lv pl mt nt m) (dt (some (.int (sg S c j))) (hp nw i0 i1 (S, nI c) lv pl mt nt m)) := by
  refine ret_of_go (L := [_, _]) (by decide) (Nat.le_of_ble_eq_true rfl) rfl ?_
  by_cases hj : j < c
  · refine go_iload_n dX5_signAt_0 rfl ?_
    refine go_if_lt (tgt := 21) dX5_signAt_1 (by decide) (fun q => absurd q (nI_pos (by omega))) (fun q1 => ?_)
    refine go_iload_n dX5_signAt_4 rfl ?_
    refine go_aload_n dX5_signAt_5 rfl ?_
    refine go_get dX5_signAt_6 fX5_15 rfl rfl ?_
    refine go_icmp_ge (tgt := 21) dX5_signAt_9 (by decide) (fun q => absurd q (nI_ge hj (by omega))) (fun q9 => ?_)
    refine go_aload_n dX5_signAt_12 rfl ?_
    refine go_get dX5_signAt_13 fX5_9 rfl rfl ?_
    refine go_iload_n dX5_signAt_16 rfl ?_
    refine go_ialdN (j) dX5_signAt_17 rfl (by omega) rfl ?_
    refine go_goto (tgt := 22) dX5_signAt_18 (by decide) ?_
    refine go_iret dX5_signAt_22 rfl rfl ?_
    exact ⟨by rw [sg, if_pos hj], rfl⟩
  · refine go_iload_n dX5_signAt_0 rfl ?_
    refine go_if_lt (tgt := 21) dX5_signAt_1 (by decide) (fun q => absurd q (nI_pos (by omega))) (fun q1 => ?_)
    refine go_iload_n dX5_signAt_4 rfl ?_
    refine go_aload_n dX5_signAt_5 rfl ?_
    refine go_get dX5_signAt_6 fX5_15 rfl rfl ?_
    refine go_icmp_ge (tgt := 21) dX5_signAt_9 (by decide) (fun q9 => ?_) (fun q => absurd (nI_le (Nat.not_lt.mp hj) (by omega)) q)
    refine go_iconst (v := 0) dX5_signAt_21 (by decide) ?_
    refine go_iret dX5_signAt_22 rfl rfl ?_
    exact ⟨by rw [sg, if_neg hj], rfl⟩
theorem nI_nm1 {u : Nat} (h : u ≤ 4) : ¬ nI u = -1 := by
  obtain ⟨rfl⟩ | ⟨rfl⟩ | ⟨rfl⟩ | ⟨rfl⟩ | ⟨rfl⟩ : u = 0 ∨ u = 1 ∨ u = 2 ∨ u = 3 ∨ u = 4 := by omega
  all_goals decide
set_option maxRecDepth 100000 in
set_option maxHeartbeats 4000000 in
theorem rX5_firstFault {E : gE} {d : Nat} {nw i0 i1 : WorldS} {lv : LivesS} {pl : PlanS} {mt : MatS} {nt : NetS} {m : ModS} {S : Nat → Int32} {c : Nat} (hc : c ≤ 60) : Ret E yX5_firstFault cX5_firstFault 3 (some .int) (d + 4) 0 0 [.ref 32] (hp nw i0 i1 (S, nI c) lv pl mt nt m) (dt (some (.int (ffR S c 0 0))) (hp nw i0 i1 (S, nI c) lv pl mt nt m)) := by
  refine ret_of_go (L := [_, _, _]) (by decide) (Nat.le_of_ble_eq_true rfl) rfl ?_
  have key : ∀ (n j t : Nat), j + n = c → t ≤ 4 → ffR S n j t = ffR S c 0 0 → Go E yX5_firstFault cX5_firstFault 3 (some .int) (d + 4) 0 0 0 0 4 [some (.ref 32), some (.int (nI t)), some (.int (nI j))] [] (hp nw i0 i1 (S, nI c) lv pl mt nt m) (dt (some (.int (ffR S c 0 0))) (hp nw i0 i1 (S, nI c) lv pl mt nt m)) := by
    intro n
    induction n with
    | zero =>
      intro j t hj ht hf
      obtain rfl : j = c := by omega
      rw [ffR] at hf
      by_cases h0 : t = 0
      · subst h0
        refine go_iload_n dX5_firstFault_4 rfl ?_
        refine go_aload_n dX5_firstFault_5 rfl ?_
        refine go_get dX5_firstFault_6 fX5_15 rfl rfl ?_
        refine go_icmp_ge (tgt := 36) dX5_firstFault_9 (by decide) (fun q9 => ?_) (fun q => absurd (nI_le (Nat.le_refl _) (by omega)) q)
        refine go_iload_n dX5_firstFault_36 rfl ?_
        refine go_if_ne (tgt := 45) dX5_firstFault_37 (by decide) (fun q => absurd rfl q) (fun q37 => ?_)
        refine go_bipush (v := (-6)) dX5_firstFault_40 (by decide) ?_
        refine go_goto (tgt := 49) dX5_firstFault_42 (by decide) ?_
        refine go_iret dX5_firstFault_49 rfl rfl ?_
        exact ⟨by rw [← hf]; rfl, rfl⟩
      · rw [if_neg h0] at hf
        refine go_iload_n dX5_firstFault_4 rfl ?_
        refine go_aload_n dX5_firstFault_5 rfl ?_
        refine go_get dX5_firstFault_6 fX5_15 rfl rfl ?_
        refine go_icmp_ge (tgt := 36) dX5_firstFault_9 (by decide) (fun q9 => ?_) (fun q => absurd (nI_le (Nat.le_refl _) (by omega)) q)
        refine go_iload_n dX5_firstFault_36 rfl ?_
        refine go_if_ne (tgt := 45) dX5_firstFault_37 (by decide) (fun q37 => ?_) (fun q => absurd q (nI_ne0 (by omega) (by omega)))
        refine go_aload_n dX5_firstFault_45 rfl ?_
        refine go_get dX5_firstFault_46 fX5_15 rfl rfl ?_
        refine go_iret dX5_firstFault_49 rfl rfl ?_
        exact ⟨by rw [← hf], rfl⟩
    | succ n ih =>
      intro j t hj ht hf
      rw [ffR] at hf
      cases hu : abO t (S j) with
      | none =>
        rw [hu] at hf
        refine go_iload_n dX5_firstFault_4 rfl ?_
        refine go_aload_n dX5_firstFault_5 rfl ?_
        refine go_get dX5_firstFault_6 fX5_15 rfl rfl ?_
        refine go_icmp_ge (tgt := 36) dX5_firstFault_9 (by decide) (fun q => absurd q (nI_ge (a := j) (b := c) (by omega) (by omega))) (fun q9 => ?_)
        refine go_iload_n dX5_firstFault_12 rfl ?_
        refine go_aload_n dX5_firstFault_13 rfl ?_
        refine go_get dX5_firstFault_14 fX5_9 rfl rfl ?_
        refine go_iload_n dX5_firstFault_17 rfl ?_
        refine go_ialdN (j) dX5_firstFault_18 rfl (by omega) rfl ?_
        refine go_cS (as := [_, _]) dX5_firstFault_19 mX5_awaitedBehind kX5_19 tX5_awaitedBehind rfl rfl (rX5_awaitedBehind ht) rfl rfl rfl ?_
        rw [hu]
        refine go_istore_n (L' := [_, _, _]) dX5_firstFault_22 rfl rfl rfl ?_
        refine go_iload_n dX5_firstFault_23 rfl ?_
        refine go_iconst (v := (-1)) dX5_firstFault_24 (by decide) ?_
        refine go_icmp_ne (tgt := 30) dX5_firstFault_25 (by decide) (fun q => absurd rfl q) (fun q25 => ?_)
        refine go_iload_n dX5_firstFault_28 rfl ?_
        refine go_iret dX5_firstFault_29 rfl rfl ?_
        exact ⟨by rw [← hf], rfl⟩
      | some u =>
        rw [hu] at hf
        refine go_iload_n dX5_firstFault_4 rfl ?_
        refine go_aload_n dX5_firstFault_5 rfl ?_
        refine go_get dX5_firstFault_6 fX5_15 rfl rfl ?_
        refine go_icmp_ge (tgt := 36) dX5_firstFault_9 (by decide) (fun q => absurd q (nI_ge (a := j) (b := c) (by omega) (by omega))) (fun q9 => ?_)
        refine go_iload_n dX5_firstFault_12 rfl ?_
        refine go_aload_n dX5_firstFault_13 rfl ?_
        refine go_get dX5_firstFault_14 fX5_9 rfl rfl ?_
        refine go_iload_n dX5_firstFault_17 rfl ?_
        refine go_ialdN (j) dX5_firstFault_18 rfl (by omega) rfl ?_
        refine go_cS (as := [_, _]) dX5_firstFault_19 mX5_awaitedBehind kX5_19 tX5_awaitedBehind rfl rfl (rX5_awaitedBehind ht) rfl rfl rfl ?_
        rw [hu]
        refine go_istore_n (L' := [_, _, _]) dX5_firstFault_22 rfl rfl rfl ?_
        refine go_iload_n dX5_firstFault_23 rfl ?_
        refine go_iconst (v := (-1)) dX5_firstFault_24 (by decide) ?_
        refine go_icmp_ne (tgt := 30) dX5_firstFault_25 (by decide) (fun q25 => ?_) (fun q => absurd q (nI_nm1 (abO_le hu)))
        refine go_iinc (v := nI (j + 1)) (L' := [_, _, _]) dX5_firstFault_30 rfl (nI_1 j) rfl rfl rfl ?_
        refine go_goto (tgt := 4) dX5_firstFault_33 (by decide) ?_
        exact ih (j + 1) u (by omega) (abO_le hu) hf
  refine go_iconst (v := 0) dX5_firstFault_0 (by decide) ?_
  refine go_istore_n (L' := [_, _, _]) dX5_firstFault_1 rfl rfl rfl ?_
  refine go_iconst (v := 0) dX5_firstFault_2 (by decide) ?_
  refine go_istore_n (L' := [_, _, _]) dX5_firstFault_3 rfl rfl rfl ?_
  exact key c 0 0 (by omega) (by omega) rfl
end
section
def lenR (S : Nat → Int32) (c j : Nat) : Nat := if sg S c j = 46 then 1 else if digB (sg S c (j + 1)) then 2 else if sg S c (j + 1) = 33 then 3 else if sg S c (j + 1) = 42 then 2 else 4
/-- the ACT at the place j: kind, doer, number, other, length -/
def actR (S : Nat → Int32) (c j : Nat) : ActS :=
  if sg S c j = 46 then (46, sg S c j - 65, 1, sg S c j - 65, 1)
  else if digB (sg S c (j + 1)) then (49, sg S c j - 65, sg S c (j + 1) - 48, sg S c j - 65, 2)
  else if sg S c (j + 1) = 33 then (sg S c (j + 1), sg S c j - 65, sg S c (j + 2) - 48, sg S c j - 65, 3)
  else if sg S c (j + 1) = 42 then (sg S c (j + 1), sg S c j - 65, 1, sg S c j - 65, 2)
  else (sg S c (j + 1), sg S c j - 65, sg S c (j + 2) - 48, sg S c (j + 3) - 65, 4)
theorem actR_len (S : Nat → Int32) (c j : Nat) : (actR S c j).2.2.2.2 = nI (lenR S c j) := by
  unfold actR lenR
  repeat' split
  all_goals rfl
theorem lenR_in (S : Nat → Int32) (c j : Nat) : 1 ≤ lenR S c j ∧ lenR S c j ≤ 4 := by
  unfold lenR
  repeat' split
  all_goals omega
def two (k : Int32) : Bool := decide (k = 62) || decide (k = 61) || decide (k = 60)
def needF (a : ActS) : Int32 := if ¬ a.1 = 33 then (if two a.1 then a.2.2.1 else 1) else 0
def obsF (a : ActS) (F : FolkS) : Int32 :=
  if a.1 = 46 then (if F.2.1 < 99 then 0 else 4)
  else if hasB F.1 a.2.1 && hasB F.1 a.2.2.2.1 then
    if two a.1 && decide (a.2.1 = a.2.2.2.1) then 2
    else if needF a ≤ fs_ F (if a.1 = 60 then a.2.2.2.1 else a.2.1).toNatClampNeg then
      (if a.1 = 61 then (if fd F (a.2.2.2.1.toNatClampNeg * 6 + a.2.1.toNatClampNeg) + a.2.2.1 ≤ 99 then 0 else 5) else 0)
    else 3
  else 1
def appF (a : ActS) (F : FolkS) : FolkS :=
  if a.1 = 33 then forgeF F a.2.1.toNatClampNeg a.2.2.1
  else if a.1 = 42 then takeF F a.2.1.toNatClampNeg 1
  else if a.1 = 49 then signF F a.2.1.toNatClampNeg a.2.2.1
  else if a.1 = 60 then moveF F a.2.2.2.1.toNatClampNeg a.2.1.toNatClampNeg a.2.2.1
  else if a.1 = 61 then oweF (moveF F a.2.1.toNatClampNeg a.2.2.2.1.toNatClampNeg a.2.2.1) a.2.2.2.1.toNatClampNeg a.2.1.toNatClampNeg a.2.2.1
  else if a.1 = 62 then moveF F a.2.1.toNatClampNeg a.2.2.2.1.toNatClampNeg a.2.2.1
  else fYr F (F.2.1 + 1)
theorem has_nI {t x : Int32} (h : hasB t x = true) : ∃ k : Nat, k < 6 ∧ x = nI k := by
  simp only [hasB, isInB, Bool.and_eq_true, decide_eq_true_eq] at h
  obtain ⟨k, hk, e⟩ := nI_of2 (n := 5) (M := 5) (by decide) (Int32.not_lt.mpr h.1.1) h.1.2
  exact ⟨k, by omega, e⟩
theorem obs_has {a : ActS} {F : FolkS} (h : obsF a F = 0) : a.1 = 46 ∨ (hasB F.1 a.2.1 = true ∧ hasB F.1 a.2.2.2.1 = true) := by
  unfold obsF at h
  by_cases h1 : a.1 = 46
  · exact Or.inl h1
  · rw [if_neg h1] at h
    by_cases h2 : (hasB F.1 a.2.1 && hasB F.1 a.2.2.2.1) = true
    · rw [Bool.and_eq_true] at h2
      exact Or.inr h2
    · rw [if_neg h2] at h
      exact absurd h (by decide)
set_option maxRecDepth 100000 in
set_option maxHeartbeats 4000000 in
theorem rX0_read {E : gE} {d : Nat} {nw i0 i1 : WorldS} {lv : LivesS} {pl : PlanS} {mt : MatS} {nt : NetS} {m : ModS} {S : Nat → Int32} {c : Nat} {j : Nat} (hc : c ≤ 60) (hj : j ≤ 100) : Ret E yX0_read cX0_read 3 none (d + 2) 0 0 [.ref 41, .ref 32, .int (nI j)] (hp nw i0 i1 (S, nI c) lv pl mt nt m) (dt none (hp nw i0 i1 (S, nI c) (lv.1, actR S c j, lv.2.2) pl mt nt m)) := by
  refine ret_of_go (L := [_, _, _]) (by decide) (Nat.le_of_ble_eq_true rfl) rfl ?_
  refine go_aload_n dX0_read_0 rfl ?_
  refine go_aload_n dX0_read_1 rfl ?_
  refine go_iload_n dX0_read_2 rfl ?_
  refine go_cV (as := [_]) dX0_read_3 mX5_signAt kX0_9 iX5_signAt sX5_signAt rfl rfl rfl rfl (rX5_signAt (j := j) hc (by omega)) rfl rfl rfl ?_
  refine go_bipush (v := 65) dX0_read_6 (by decide) ?_
  refine go_isub dX0_read_8 ?_
  refine go_put dX0_read_9 fX0_15 (fun _ => rfl) (fun _ => rfl) rfl rfl ?_
  refine go_aload_n dX0_read_12 rfl ?_
  refine go_aload_n dX0_read_13 rfl ?_
  refine go_get dX0_read_14 fX0_15 rfl rfl ?_
  refine go_put dX0_read_17 fX0_21 (fun _ => rfl) (fun _ => rfl) rfl rfl ?_
  refine go_aload_n dX0_read_20 rfl ?_
  refine go_iconst (v := 1) dX0_read_21 (by decide) ?_
  refine go_put dX0_read_22 fX0_24 (fun _ => rfl) (fun _ => rfl) rfl rfl ?_
  refine go_aload_n dX0_read_25 rfl ?_
  refine go_aload_n dX0_read_26 rfl ?_
  refine go_iload_n dX0_read_27 rfl ?_
  refine go_iconst (v := 1) dX0_read_28 (by decide) ?_
  refine go_iadd dX0_read_29 ?_
  refine go_heap (h2 := (hp nw i0 i1 (S, nI c) (lv.1, (lv.2.1.1, sg S c j - 65, 1, sg S c j - 65, lv.2.1.2.2.2.2), lv.2.2) pl mt nt m)) rfl ?_
  refine go_topi_eq (nI_1 j) ?_
  refine go_cV (as := [_]) dX0_read_30 mX5_signAt kX0_9 iX5_signAt sX5_signAt rfl rfl rfl rfl (rX5_signAt (j := j + 1) hc (by omega)) rfl rfl rfl ?_
  refine go_put dX0_read_33 fX0_27 (fun _ => rfl) (fun _ => rfl) rfl rfl ?_
  refine go_aload_n dX0_read_36 rfl ?_
  refine go_iconst (v := 2) dX0_read_37 (by decide) ?_
  refine go_put dX0_read_38 fX0_30 (fun _ => rfl) (fun _ => rfl) rfl rfl ?_
  refine go_aload_n dX0_read_41 rfl ?_
  refine go_iload_n dX0_read_42 rfl ?_
  refine go_heap (h2 := (hp nw i0 i1 (S, nI c) (lv.1, (sg S c (j + 1), sg S c j - 65, 1, sg S c j - 65, 2), lv.2.2) pl mt nt m)) rfl ?_
  refine go_cV (as := [_]) dX0_read_43 mX5_signAt kX0_9 iX5_signAt sX5_signAt rfl rfl rfl rfl (rX5_signAt (j := j) hc (by omega)) rfl rfl rfl ?_
  refine go_bipush (v := 46) dX0_read_46 (by decide) ?_
  refine go_icmp_ne (tgt := 65) dX0_read_48 (by decide) (fun q48 => ?_) (fun q48 => ?_)
  · refine go_aload_n dX0_read_65 rfl ?_
    refine go_get dX0_read_66 fX0_27 rfl rfl ?_
    refine go_cS (as := [_]) dX0_read_69 mX5_isDigit kX0_33 tX5_isDigit rfl rfl (rX5_isDigit) rfl rfl rfl ?_
    refine go_bif_eq (tgt := 95) dX0_read_72 (by decide) (fun q72 => ?_) (fun q72 => ?_)
    · refine go_aload_n dX0_read_95 rfl ?_
      refine go_get dX0_read_96 fX0_27 rfl rfl ?_
      refine go_bipush (v := 33) dX0_read_99 (by decide) ?_
      refine go_icmp_ne (tgt := 126) dX0_read_101 (by decide) (fun q101 => ?_) (fun q101 => ?_)
      · refine go_aload_n dX0_read_126 rfl ?_
        refine go_get dX0_read_127 fX0_27 rfl rfl ?_
        refine go_bipush (v := 42) dX0_read_130 (by decide) ?_
        refine go_icmp_eq (tgt := 168) dX0_read_132 (by decide) (fun q132 => ?_) (fun q132 => ?_)
        · refine go_vret dX0_read_168 rfl rfl ?_
          exact ⟨rfl, by unfold actR; dsimp only at *; (repeat' split) <;> first | rfl | (exfalso; simp_all; done)⟩
        · refine go_aload_n dX0_read_135 rfl ?_
          refine go_aload_n dX0_read_136 rfl ?_
          refine go_iload_n dX0_read_137 rfl ?_
          refine go_iconst (v := 2) dX0_read_138 (by decide) ?_
          refine go_iadd dX0_read_139 ?_
          refine go_topi_eq (nI_add j 2) ?_
          refine go_cV (as := [_]) dX0_read_140 mX5_signAt kX0_9 iX5_signAt sX5_signAt rfl rfl rfl rfl (rX5_signAt (j := j + 2) hc (by omega)) rfl rfl rfl ?_
          refine go_bipush (v := 48) dX0_read_143 (by decide) ?_
          refine go_isub dX0_read_145 ?_
          refine go_put dX0_read_146 fX0_24 (fun _ => rfl) (fun _ => rfl) rfl rfl ?_
          refine go_aload_n dX0_read_149 rfl ?_
          refine go_aload_n dX0_read_150 rfl ?_
          refine go_iload_n dX0_read_151 rfl ?_
          refine go_iconst (v := 3) dX0_read_152 (by decide) ?_
          refine go_iadd dX0_read_153 ?_
          refine go_heap (h2 := (hp nw i0 i1 (S, nI c) (lv.1, (sg S c (j + 1), sg S c j - 65, sg S c (j + 2) - 48, sg S c j - 65, 2), lv.2.2) pl mt nt m)) rfl ?_
          refine go_topi_eq (nI_add j 3) ?_
          refine go_cV (as := [_]) dX0_read_154 mX5_signAt kX0_9 iX5_signAt sX5_signAt rfl rfl rfl rfl (rX5_signAt (j := j + 3) hc (by omega)) rfl rfl rfl ?_
          refine go_bipush (v := 65) dX0_read_157 (by decide) ?_
          refine go_isub dX0_read_159 ?_
          refine go_put dX0_read_160 fX0_21 (fun _ => rfl) (fun _ => rfl) rfl rfl ?_
          refine go_aload_n dX0_read_163 rfl ?_
          refine go_iconst (v := 4) dX0_read_164 (by decide) ?_
          refine go_put dX0_read_165 fX0_30 (fun _ => rfl) (fun _ => rfl) rfl rfl ?_
          refine go_vret dX0_read_168 rfl rfl ?_
          exact ⟨rfl, by unfold actR; dsimp only at *; (repeat' split) <;> first | rfl | (exfalso; simp_all; done)⟩
      · refine go_aload_n dX0_read_104 rfl ?_
        refine go_aload_n dX0_read_105 rfl ?_
        refine go_iload_n dX0_read_106 rfl ?_
        refine go_iconst (v := 2) dX0_read_107 (by decide) ?_
        refine go_iadd dX0_read_108 ?_
        refine go_topi_eq (nI_add j 2) ?_
        refine go_cV (as := [_]) dX0_read_109 mX5_signAt kX0_9 iX5_signAt sX5_signAt rfl rfl rfl rfl (rX5_signAt (j := j + 2) hc (by omega)) rfl rfl rfl ?_
        refine go_bipush (v := 48) dX0_read_112 (by decide) ?_
        refine go_isub dX0_read_114 ?_
        refine go_put dX0_read_115 fX0_24 (fun _ => rfl) (fun _ => rfl) rfl rfl ?_
        refine go_aload_n dX0_read_118 rfl ?_
        refine go_iconst (v := 3) dX0_read_119 (by decide) ?_
        refine go_put dX0_read_120 fX0_30 (fun _ => rfl) (fun _ => rfl) rfl rfl ?_
        refine go_goto (tgt := 168) dX0_read_123 (by decide) ?_
        refine go_vret dX0_read_168 rfl rfl ?_
        exact ⟨rfl, by unfold actR; dsimp only at *; (repeat' split) <;> first | rfl | (exfalso; simp_all; done)⟩
    · refine go_aload_n dX0_read_75 rfl ?_
      refine go_aload_n dX0_read_76 rfl ?_
      refine go_get dX0_read_77 fX0_27 rfl rfl ?_
      refine go_bipush (v := 48) dX0_read_80 (by decide) ?_
      refine go_isub dX0_read_82 ?_
      refine go_put dX0_read_83 fX0_24 (fun _ => rfl) (fun _ => rfl) rfl rfl ?_
      refine go_aload_n dX0_read_86 rfl ?_
      refine go_bipush (v := 49) dX0_read_87 (by decide) ?_
      refine go_put dX0_read_89 fX0_27 (fun _ => rfl) (fun _ => rfl) rfl rfl ?_
      refine go_goto (tgt := 168) dX0_read_92 (by decide) ?_
      refine go_vret dX0_read_168 rfl rfl ?_
      exact ⟨rfl, by unfold actR; dsimp only at *; (repeat' split) <;> first | rfl | (exfalso; simp_all; done)⟩
  · refine go_aload_n dX0_read_51 rfl ?_
    refine go_bipush (v := 46) dX0_read_52 (by decide) ?_
    refine go_put dX0_read_54 fX0_27 (fun _ => rfl) (fun _ => rfl) rfl rfl ?_
    refine go_aload_n dX0_read_57 rfl ?_
    refine go_iconst (v := 1) dX0_read_58 (by decide) ?_
    refine go_put dX0_read_59 fX0_30 (fun _ => rfl) (fun _ => rfl) rfl rfl ?_
    refine go_goto (tgt := 168) dX0_read_62 (by decide) ?_
    refine go_vret dX0_read_168 rfl rfl ?_
    exact ⟨rfl, by unfold actR; dsimp only at *; (repeat' split) <;> first | rfl | (exfalso; simp_all; done)⟩
set_option maxRecDepth 100000 in
set_option maxHeartbeats 4000000 in
theorem rX0_isOfTwo {E : gE} {d : Nat} {nw i0 i1 : WorldS} {pd : PadS} {lv : LivesS} {pl : PlanS} {mt : MatS} {nt : NetS} {m : ModS} : Ret E yX0_isOfTwo cX0_isOfTwo 1 (some .boolean) d 0 0 [.ref 41] (hp nw i0 i1 pd lv pl mt nt m) (dt (some (.int (b2i (two lv.2.1.1)))) (hp nw i0 i1 pd lv pl mt nt m)) := by
  refine ret_of_go (L := [_]) (by decide) (Nat.le_of_ble_eq_true rfl) rfl ?_
  refine go_aload_n dX0_isOfTwo_0 rfl ?_
  refine go_get dX0_isOfTwo_1 fX0_27 rfl rfl ?_
  refine go_bipush (v := 62) dX0_isOfTwo_4 (by decide) ?_
  refine go_icmp_eq (tgt := 27) dX0_isOfTwo_6 (by decide) (fun q6 => ?_) (fun q6 => ?_)
  · refine go_iconst (v := 1) dX0_isOfTwo_27 (by decide) ?_
    refine go_goto (tgt := 32) dX0_isOfTwo_28 (by decide) ?_
    refine go_zret dX0_isOfTwo_32 (by decide) rfl rfl ?_
    exact ⟨by simp_all [two, b2i], rfl⟩
  · refine go_aload_n dX0_isOfTwo_9 rfl ?_
    refine go_get dX0_isOfTwo_10 fX0_27 rfl rfl ?_
    refine go_bipush (v := 61) dX0_isOfTwo_13 (by decide) ?_
    refine go_icmp_eq (tgt := 27) dX0_isOfTwo_15 (by decide) (fun q15 => ?_) (fun q15 => ?_)
    · refine go_iconst (v := 1) dX0_isOfTwo_27 (by decide) ?_
      refine go_goto (tgt := 32) dX0_isOfTwo_28 (by decide) ?_
      refine go_zret dX0_isOfTwo_32 (by decide) rfl rfl ?_
      exact ⟨by simp_all [two, b2i], rfl⟩
    · refine go_aload_n dX0_isOfTwo_18 rfl ?_
      refine go_get dX0_isOfTwo_19 fX0_27 rfl rfl ?_
      refine go_bipush (v := 60) dX0_isOfTwo_22 (by decide) ?_
      refine go_icmp_ne (tgt := 31) dX0_isOfTwo_24 (by decide) (fun q24 => ?_) (fun q24 => ?_)
      · refine go_iconst (v := 0) dX0_isOfTwo_31 (by decide) ?_
        refine go_zret dX0_isOfTwo_32 (by decide) rfl rfl ?_
        exact ⟨by simp_all [two, b2i], rfl⟩
      · refine go_iconst (v := 1) dX0_isOfTwo_27 (by decide) ?_
        refine go_goto (tgt := 32) dX0_isOfTwo_28 (by decide) ?_
        refine go_zret dX0_isOfTwo_32 (by decide) rfl rfl ?_
        exact ⟨by simp_all [two, b2i], rfl⟩
set_option maxRecDepth 100000 in
set_option maxHeartbeats 4000000 in
theorem rX0_sheetsNeeded {E : gE} {d : Nat} {nw i0 i1 : WorldS} {pd : PadS} {lv : LivesS} {pl : PlanS} {mt : MatS} {nt : NetS} {m : ModS} : Ret E yX0_sheetsNeeded cX0_sheetsNeeded 1 (some .int) (d + 1) 0 0 [.ref 41] (hp nw i0 i1 pd lv pl mt nt m) (dt (some (.int (needF lv.2.1))) (hp nw i0 i1 pd lv pl mt nt m)) := by
  refine ret_of_go (L := [_]) (by decide) (Nat.le_of_ble_eq_true rfl) rfl ?_
  refine go_aload_n dX0_sheetsNeeded_0 rfl ?_
  refine go_get dX0_sheetsNeeded_1 fX0_27 rfl rfl ?_
  refine go_bipush (v := 33) dX0_sheetsNeeded_4 (by decide) ?_
  refine go_icmp_ne (tgt := 11) dX0_sheetsNeeded_6 (by decide) (fun q6 => ?_) (fun q6 => ?_)
  · refine go_aload_n dX0_sheetsNeeded_11 rfl ?_
    refine go_cV (as := []) dX0_sheetsNeeded_12 mX0_isOfTwo kX0_45 iX0_isOfTwo sX0_isOfTwo rfl rfl rfl rfl (rX0_isOfTwo) rfl rfl rfl ?_
    refine go_bif_eq (tgt := 25) dX0_sheetsNeeded_15 (by decide) (fun q15 => ?_) (fun q15 => ?_)
    · refine go_iconst (v := 1) dX0_sheetsNeeded_25 (by decide) ?_
      refine go_iret dX0_sheetsNeeded_26 rfl rfl ?_
      exact ⟨by simp only [needF, *, not_true, not_false_iff, if_true, if_false, Bool.false_eq_true], rfl⟩
    · refine go_aload_n dX0_sheetsNeeded_18 rfl ?_
      refine go_get dX0_sheetsNeeded_19 fX0_24 rfl rfl ?_
      refine go_goto (tgt := 26) dX0_sheetsNeeded_22 (by decide) ?_
      refine go_iret dX0_sheetsNeeded_26 rfl rfl ?_
      exact ⟨by simp only [needF, *, not_true, not_false_iff, if_true, if_false, Bool.false_eq_true], rfl⟩
  · refine go_iconst (v := 0) dX0_sheetsNeeded_9 (by decide) ?_
    refine go_iret dX0_sheetsNeeded_10 rfl rfl ?_
    exact ⟨by simp only [needF, *, not_true, not_false_iff, if_true, if_false, Bool.false_eq_true], rfl⟩
end
section
theorem rX1_debt_ag {E : gE} {d : Nat} {nw i0 i1 : WorldS} {pd : PadS} {lv : LivesS} {pl : PlanS} {mt : MatS} {nt : NetS} {m : ModS} {x z : Int32} (hx : vp_in x 6) (hz : vp_in z 6) : Ret E yX1_debt cX1_debt 3 (some .int) d 0 0 [.ref 35, .int x, .int z] (hp nw i0 i1 pd lv pl mt nt m) (dt (some (.int (fd lv.1 (x.toNatClampNeg * 6 + z.toNatClampNeg)))) (hp nw i0 i1 pd lv pl mt nt m)) := by
  obtain ⟨i, hi, rfl⟩ := vp_in_of hx (by decide)
  obtain ⟨j, hj, rfl⟩ := vp_in_of hz (by decide)
  rw [nI_clamp (by omega), nI_clamp (by omega)]
  exact rX1_debt_a hi hj
theorem rX1_signAct_ag {E : gE} {d : Nat} {nw i0 i1 : WorldS} {pd : PadS} {lv : LivesS} {pl : PlanS} {mt : MatS} {nt : NetS} {m : ModS} {x g : Int32} (hx : vp_in x 6) : Ret E yX1_signAct cX1_signAct 3 none (d + 2) 0 0 [.ref 35, .int x, .int g] (hp nw i0 i1 pd lv pl mt nt m) (dt none (hp nw i0 i1 pd (signF lv.1 x.toNatClampNeg g, lv.2) pl mt nt m)) := by
  obtain ⟨i, hi, rfl⟩ := vp_in_of hx (by decide)
  rw [nI_clamp (by omega)]
  exact rX1_signAct_a hi
theorem rX1_forgeAct_ag {E : gE} {d : Nat} {nw i0 i1 : WorldS} {pd : PadS} {lv : LivesS} {pl : PlanS} {mt : MatS} {nt : NetS} {m : ModS} {x g : Int32} (hx : vp_in x 6) : Ret E yX1_forgeAct cX1_forgeAct 3 none (d + 2) 0 0 [.ref 35, .int x, .int g] (hp nw i0 i1 pd lv pl mt nt m) (dt none (hp nw i0 i1 pd (forgeF lv.1 x.toNatClampNeg g, lv.2) pl mt nt m)) := by
  obtain ⟨i, hi, rfl⟩ := vp_in_of hx (by decide)
  rw [nI_clamp (by omega)]
  exact rX1_forgeAct_a hi
theorem rX1_move_ag {E : gE} {d : Nat} {nw i0 i1 : WorldS} {pd : PadS} {lv : LivesS} {pl : PlanS} {mt : MatS} {nt : NetS} {m : ModS} {x z n : Int32} (hx : vp_in x 6) (hz : vp_in z 6) : Ret E yX1_move cX1_move 4 none (d + 1) 0 0 [.ref 35, .int x, .int z, .int n] (hp nw i0 i1 pd lv pl mt nt m) (dt none (hp nw i0 i1 pd (moveF lv.1 x.toNatClampNeg z.toNatClampNeg n, lv.2) pl mt nt m)) := by
  obtain ⟨i, hi, rfl⟩ := vp_in_of hx (by decide)
  obtain ⟨j, hj, rfl⟩ := vp_in_of hz (by decide)
  rw [nI_clamp (by omega), nI_clamp (by omega)]
  exact rX1_move_a hi hj
theorem rX1_owe_ag {E : gE} {d : Nat} {nw i0 i1 : WorldS} {pd : PadS} {lv : LivesS} {pl : PlanS} {mt : MatS} {nt : NetS} {m : ModS} {x z n : Int32} (hx : vp_in x 6) (hz : vp_in z 6) : Ret E yX1_owe cX1_owe 4 none d 0 0 [.ref 35, .int x, .int z, .int n] (hp nw i0 i1 pd lv pl mt nt m) (dt none (hp nw i0 i1 pd (oweF lv.1 x.toNatClampNeg z.toNatClampNeg n, lv.2) pl mt nt m)) := by
  obtain ⟨i, hi, rfl⟩ := vp_in_of hx (by decide)
  obtain ⟨j, hj, rfl⟩ := vp_in_of hz (by decide)
  rw [nI_clamp (by omega), nI_clamp (by omega)]
  exact rX1_owe_a hi hj
theorem has_in {t x : Int32} (h : hasB t x = true) : vp_in x 6 := by
  obtain ⟨k, hk, rfl⟩ := has_nI h
  exact vp_in_nI hk (by decide)
set_option maxRecDepth 100000 in
set_option maxHeartbeats 4000000 in
theorem rX0_obstacle {E : gE} {d : Nat} {nw i0 i1 : WorldS} {pd : PadS} {lv : LivesS} {pl : PlanS} {mt : MatS} {nt : NetS} {m : ModS} : Ret E yX0_obstacle cX0_obstacle 2 (some .int) (d + 3) 0 0 [.ref 41, .ref 35] (hp nw i0 i1 pd lv pl mt nt m) (dt (some (.int (obsF lv.2.1 lv.1))) (hp nw i0 i1 pd lv pl mt nt m)) := by
  refine ret_of_go (L := [_, _]) (by decide) (Nat.le_of_ble_eq_true rfl) rfl ?_
  refine go_aload_n dX0_obstacle_0 rfl ?_
  refine go_get dX0_obstacle_1 fX0_27 rfl rfl ?_
  refine go_bipush (v := 46) dX0_obstacle_4 (by decide) ?_
  refine go_icmp_ne (tgt := 24) dX0_obstacle_6 (by decide) (fun q6 => ?_) (fun q6 => ?_)
  · refine go_aload_n dX0_obstacle_24 rfl ?_
    refine go_aload_n dX0_obstacle_25 rfl ?_
    refine go_get dX0_obstacle_26 fX0_15 rfl rfl ?_
    refine go_cV (as := [_]) dX0_obstacle_29 mX1_has kX0_42 iX1_has sX1_has rfl rfl rfl rfl (rX1_has_a) rfl rfl rfl ?_
    refine go_bif_eq (tgt := 46) dX0_obstacle_32 (by decide) (fun q32 => ?_) (fun q32 => ?_)
    · refine go_iconst (v := 1) dX0_obstacle_46 (by decide) ?_
      refine go_iret dX0_obstacle_47 rfl rfl ?_
      exact ⟨by unfold obsF; (try dsimp only at *); (repeat' split) <;> first | rfl | (exfalso; simp_all; done), rfl⟩
    · refine go_aload_n dX0_obstacle_35 rfl ?_
      refine go_aload_n dX0_obstacle_36 rfl ?_
      refine go_get dX0_obstacle_37 fX0_21 rfl rfl ?_
      refine go_cV (as := [_]) dX0_obstacle_40 mX1_has kX0_42 iX1_has sX1_has rfl rfl rfl rfl (rX1_has_a) rfl rfl rfl ?_
      refine go_bif_ne (tgt := 48) dX0_obstacle_43 (by decide) (fun q43 => ?_) (fun q43 => ?_)
      · refine go_aload_n dX0_obstacle_48 rfl ?_
        refine go_cV (as := []) dX0_obstacle_49 mX0_isOfTwo kX0_45 iX0_isOfTwo sX0_isOfTwo rfl rfl rfl rfl (rX0_isOfTwo) rfl rfl rfl ?_
        refine go_bif_eq (tgt := 68) dX0_obstacle_52 (by decide) (fun q52 => ?_) (fun q52 => ?_)
        · refine go_aload_n dX0_obstacle_68 rfl ?_
          refine go_get dX0_obstacle_69 fX0_49 rfl rfl ?_
          refine go_aload_n dX0_obstacle_72 rfl ?_
          refine go_get dX0_obstacle_73 fX0_27 rfl rfl ?_
          refine go_bipush (v := 60) dX0_obstacle_76 (by decide) ?_
          refine go_icmp_ne (tgt := 88) dX0_obstacle_78 (by decide) (fun q78 => ?_) (fun q78 => ?_)
          · refine go_aload_n dX0_obstacle_88 rfl ?_
            refine go_get dX0_obstacle_89 fX0_15 rfl rfl ?_
            refine go_iald dX0_obstacle_92 rfl (by first | exact has_in q32 | exact has_in q43) ?_
            refine go_aload_n dX0_obstacle_93 rfl ?_
            refine go_cV (as := []) dX0_obstacle_94 mX0_sheetsNeeded kX0_53 iX0_sheetsNeeded sX0_sheetsNeeded rfl rfl rfl rfl (rX0_sheetsNeeded) rfl rfl rfl ?_
            refine go_icmp_ge (tgt := 102) dX0_obstacle_97 (by decide) (fun q97 => ?_) (fun q97 => ?_)
            · refine go_aload_n dX0_obstacle_102 rfl ?_
              refine go_get dX0_obstacle_103 fX0_27 rfl rfl ?_
              refine go_bipush (v := 61) dX0_obstacle_106 (by decide) ?_
              refine go_icmp_ne (tgt := 137) dX0_obstacle_108 (by decide) (fun q108 => ?_) (fun q108 => ?_)
              · refine go_iconst (v := 0) dX0_obstacle_137 (by decide) ?_
                refine go_iret dX0_obstacle_138 rfl rfl ?_
                exact ⟨by unfold obsF; (try dsimp only at *); (repeat' split) <;> first | rfl | (exfalso; simp_all; done), rfl⟩
              · refine go_aload_n dX0_obstacle_111 rfl ?_
                refine go_aload_n dX0_obstacle_112 rfl ?_
                refine go_get dX0_obstacle_113 fX0_21 rfl rfl ?_
                refine go_aload_n dX0_obstacle_116 rfl ?_
                refine go_get dX0_obstacle_117 fX0_15 rfl rfl ?_
                refine go_cV (as := [_, _]) dX0_obstacle_120 mX1_debt kX0_57 iX1_debt sX1_debt rfl rfl rfl rfl (rX1_debt_ag (has_in q43) (has_in q32)) rfl rfl rfl ?_
                refine go_aload_n dX0_obstacle_123 rfl ?_
                refine go_get dX0_obstacle_124 fX0_24 rfl rfl ?_
                refine go_iadd dX0_obstacle_127 ?_
                refine go_bipush (v := 99) dX0_obstacle_128 (by decide) ?_
                refine go_icmp_le (tgt := 137) dX0_obstacle_130 (by decide) (fun q130 => ?_) (fun q130 => ?_)
                · refine go_iconst (v := 0) dX0_obstacle_137 (by decide) ?_
                  refine go_iret dX0_obstacle_138 rfl rfl ?_
                  exact ⟨by unfold obsF; (try dsimp only at *); (repeat' split) <;> first | rfl | (exfalso; simp_all; done), rfl⟩
                · refine go_iconst (v := 5) dX0_obstacle_133 (by decide) ?_
                  refine go_goto (tgt := 138) dX0_obstacle_134 (by decide) ?_
                  refine go_iret dX0_obstacle_138 rfl rfl ?_
                  exact ⟨by unfold obsF; (try dsimp only at *); (repeat' split) <;> first | rfl | (exfalso; simp_all; done), rfl⟩
            · refine go_iconst (v := 3) dX0_obstacle_100 (by decide) ?_
              refine go_iret dX0_obstacle_101 rfl rfl ?_
              exact ⟨by unfold obsF; (try dsimp only at *); (repeat' split) <;> first | rfl | (exfalso; simp_all; done), rfl⟩
          · refine go_aload_n dX0_obstacle_81 rfl ?_
            refine go_get dX0_obstacle_82 fX0_21 rfl rfl ?_
            refine go_goto (tgt := 92) dX0_obstacle_85 (by decide) ?_
            refine go_iald dX0_obstacle_92 rfl (by first | exact has_in q32 | exact has_in q43) ?_
            refine go_aload_n dX0_obstacle_93 rfl ?_
            refine go_cV (as := []) dX0_obstacle_94 mX0_sheetsNeeded kX0_53 iX0_sheetsNeeded sX0_sheetsNeeded rfl rfl rfl rfl (rX0_sheetsNeeded) rfl rfl rfl ?_
            refine go_icmp_ge (tgt := 102) dX0_obstacle_97 (by decide) (fun q97 => ?_) (fun q97 => ?_)
            · refine go_aload_n dX0_obstacle_102 rfl ?_
              refine go_get dX0_obstacle_103 fX0_27 rfl rfl ?_
              refine go_bipush (v := 61) dX0_obstacle_106 (by decide) ?_
              refine go_icmp_ne (tgt := 137) dX0_obstacle_108 (by decide) (fun q108 => ?_) (fun q108 => ?_)
              · refine go_iconst (v := 0) dX0_obstacle_137 (by decide) ?_
                refine go_iret dX0_obstacle_138 rfl rfl ?_
                exact ⟨by unfold obsF; (try dsimp only at *); (repeat' split) <;> first | rfl | (exfalso; simp_all; done), rfl⟩
              · refine go_aload_n dX0_obstacle_111 rfl ?_
                refine go_aload_n dX0_obstacle_112 rfl ?_
                refine go_get dX0_obstacle_113 fX0_21 rfl rfl ?_
                refine go_aload_n dX0_obstacle_116 rfl ?_
                refine go_get dX0_obstacle_117 fX0_15 rfl rfl ?_
                refine go_cV (as := [_, _]) dX0_obstacle_120 mX1_debt kX0_57 iX1_debt sX1_debt rfl rfl rfl rfl (rX1_debt_ag (has_in q43) (has_in q32)) rfl rfl rfl ?_
                refine go_aload_n dX0_obstacle_123 rfl ?_
                refine go_get dX0_obstacle_124 fX0_24 rfl rfl ?_
                refine go_iadd dX0_obstacle_127 ?_
                refine go_bipush (v := 99) dX0_obstacle_128 (by decide) ?_
                refine go_icmp_le (tgt := 137) dX0_obstacle_130 (by decide) (fun q130 => ?_) (fun q130 => ?_)
                · refine go_iconst (v := 0) dX0_obstacle_137 (by decide) ?_
                  refine go_iret dX0_obstacle_138 rfl rfl ?_
                  exact ⟨by unfold obsF; (try dsimp only at *); (repeat' split) <;> first | rfl | (exfalso; simp_all; done), rfl⟩
                · refine go_iconst (v := 5) dX0_obstacle_133 (by decide) ?_
                  refine go_goto (tgt := 138) dX0_obstacle_134 (by decide) ?_
                  refine go_iret dX0_obstacle_138 rfl rfl ?_
                  exact ⟨by unfold obsF; (try dsimp only at *); (repeat' split) <;> first | rfl | (exfalso; simp_all; done), rfl⟩
            · refine go_iconst (v := 3) dX0_obstacle_100 (by decide) ?_
              refine go_iret dX0_obstacle_101 rfl rfl ?_
              exact ⟨by unfold obsF; (try dsimp only at *); (repeat' split) <;> first | rfl | (exfalso; simp_all; done), rfl⟩
        · refine go_aload_n dX0_obstacle_55 rfl ?_
          refine go_get dX0_obstacle_56 fX0_15 rfl rfl ?_
          refine go_aload_n dX0_obstacle_59 rfl ?_
          refine go_get dX0_obstacle_60 fX0_21 rfl rfl ?_
          refine go_icmp_ne (tgt := 68) dX0_obstacle_63 (by decide) (fun q63 => ?_) (fun q63 => ?_)
          · refine go_aload_n dX0_obstacle_68 rfl ?_
            refine go_get dX0_obstacle_69 fX0_49 rfl rfl ?_
            refine go_aload_n dX0_obstacle_72 rfl ?_
            refine go_get dX0_obstacle_73 fX0_27 rfl rfl ?_
            refine go_bipush (v := 60) dX0_obstacle_76 (by decide) ?_
            refine go_icmp_ne (tgt := 88) dX0_obstacle_78 (by decide) (fun q78 => ?_) (fun q78 => ?_)
            · refine go_aload_n dX0_obstacle_88 rfl ?_
              refine go_get dX0_obstacle_89 fX0_15 rfl rfl ?_
              refine go_iald dX0_obstacle_92 rfl (by first | exact has_in q32 | exact has_in q43) ?_
              refine go_aload_n dX0_obstacle_93 rfl ?_
              refine go_cV (as := []) dX0_obstacle_94 mX0_sheetsNeeded kX0_53 iX0_sheetsNeeded sX0_sheetsNeeded rfl rfl rfl rfl (rX0_sheetsNeeded) rfl rfl rfl ?_
              refine go_icmp_ge (tgt := 102) dX0_obstacle_97 (by decide) (fun q97 => ?_) (fun q97 => ?_)
              · refine go_aload_n dX0_obstacle_102 rfl ?_
                refine go_get dX0_obstacle_103 fX0_27 rfl rfl ?_
                refine go_bipush (v := 61) dX0_obstacle_106 (by decide) ?_
                refine go_icmp_ne (tgt := 137) dX0_obstacle_108 (by decide) (fun q108 => ?_) (fun q108 => ?_)
                · refine go_iconst (v := 0) dX0_obstacle_137 (by decide) ?_
                  refine go_iret dX0_obstacle_138 rfl rfl ?_
                  exact ⟨by unfold obsF; (try dsimp only at *); (repeat' split) <;> first | rfl | (exfalso; simp_all; done), rfl⟩
                · refine go_aload_n dX0_obstacle_111 rfl ?_
                  refine go_aload_n dX0_obstacle_112 rfl ?_
                  refine go_get dX0_obstacle_113 fX0_21 rfl rfl ?_
                  refine go_aload_n dX0_obstacle_116 rfl ?_
                  refine go_get dX0_obstacle_117 fX0_15 rfl rfl ?_
                  refine go_cV (as := [_, _]) dX0_obstacle_120 mX1_debt kX0_57 iX1_debt sX1_debt rfl rfl rfl rfl (rX1_debt_ag (has_in q43) (has_in q32)) rfl rfl rfl ?_
                  refine go_aload_n dX0_obstacle_123 rfl ?_
                  refine go_get dX0_obstacle_124 fX0_24 rfl rfl ?_
                  refine go_iadd dX0_obstacle_127 ?_
                  refine go_bipush (v := 99) dX0_obstacle_128 (by decide) ?_
                  refine go_icmp_le (tgt := 137) dX0_obstacle_130 (by decide) (fun q130 => ?_) (fun q130 => ?_)
                  · refine go_iconst (v := 0) dX0_obstacle_137 (by decide) ?_
                    refine go_iret dX0_obstacle_138 rfl rfl ?_
                    exact ⟨by unfold obsF; (try dsimp only at *); (repeat' split) <;> first | rfl | (exfalso; simp_all; done), rfl⟩
                  · refine go_iconst (v := 5) dX0_obstacle_133 (by decide) ?_
                    refine go_goto (tgt := 138) dX0_obstacle_134 (by decide) ?_
                    refine go_iret dX0_obstacle_138 rfl rfl ?_
                    exact ⟨by unfold obsF; (try dsimp only at *); (repeat' split) <;> first | rfl | (exfalso; simp_all; done), rfl⟩
              · refine go_iconst (v := 3) dX0_obstacle_100 (by decide) ?_
                refine go_iret dX0_obstacle_101 rfl rfl ?_
                exact ⟨by unfold obsF; (try dsimp only at *); (repeat' split) <;> first | rfl | (exfalso; simp_all; done), rfl⟩
            · refine go_aload_n dX0_obstacle_81 rfl ?_
              refine go_get dX0_obstacle_82 fX0_21 rfl rfl ?_
              refine go_goto (tgt := 92) dX0_obstacle_85 (by decide) ?_
              refine go_iald dX0_obstacle_92 rfl (by first | exact has_in q32 | exact has_in q43) ?_
              refine go_aload_n dX0_obstacle_93 rfl ?_
              refine go_cV (as := []) dX0_obstacle_94 mX0_sheetsNeeded kX0_53 iX0_sheetsNeeded sX0_sheetsNeeded rfl rfl rfl rfl (rX0_sheetsNeeded) rfl rfl rfl ?_
              refine go_icmp_ge (tgt := 102) dX0_obstacle_97 (by decide) (fun q97 => ?_) (fun q97 => ?_)
              · refine go_aload_n dX0_obstacle_102 rfl ?_
                refine go_get dX0_obstacle_103 fX0_27 rfl rfl ?_
                refine go_bipush (v := 61) dX0_obstacle_106 (by decide) ?_
                refine go_icmp_ne (tgt := 137) dX0_obstacle_108 (by decide) (fun q108 => ?_) (fun q108 => ?_)
                · refine go_iconst (v := 0) dX0_obstacle_137 (by decide) ?_
                  refine go_iret dX0_obstacle_138 rfl rfl ?_
                  exact ⟨by unfold obsF; (try dsimp only at *); (repeat' split) <;> first | rfl | (exfalso; simp_all; done), rfl⟩
                · refine go_aload_n dX0_obstacle_111 rfl ?_
                  refine go_aload_n dX0_obstacle_112 rfl ?_
                  refine go_get dX0_obstacle_113 fX0_21 rfl rfl ?_
                  refine go_aload_n dX0_obstacle_116 rfl ?_
                  refine go_get dX0_obstacle_117 fX0_15 rfl rfl ?_
                  refine go_cV (as := [_, _]) dX0_obstacle_120 mX1_debt kX0_57 iX1_debt sX1_debt rfl rfl rfl rfl (rX1_debt_ag (has_in q43) (has_in q32)) rfl rfl rfl ?_
                  refine go_aload_n dX0_obstacle_123 rfl ?_
                  refine go_get dX0_obstacle_124 fX0_24 rfl rfl ?_
                  refine go_iadd dX0_obstacle_127 ?_
                  refine go_bipush (v := 99) dX0_obstacle_128 (by decide) ?_
                  refine go_icmp_le (tgt := 137) dX0_obstacle_130 (by decide) (fun q130 => ?_) (fun q130 => ?_)
                  · refine go_iconst (v := 0) dX0_obstacle_137 (by decide) ?_
                    refine go_iret dX0_obstacle_138 rfl rfl ?_
                    exact ⟨by unfold obsF; (try dsimp only at *); (repeat' split) <;> first | rfl | (exfalso; simp_all; done), rfl⟩
                  · refine go_iconst (v := 5) dX0_obstacle_133 (by decide) ?_
                    refine go_goto (tgt := 138) dX0_obstacle_134 (by decide) ?_
                    refine go_iret dX0_obstacle_138 rfl rfl ?_
                    exact ⟨by unfold obsF; (try dsimp only at *); (repeat' split) <;> first | rfl | (exfalso; simp_all; done), rfl⟩
              · refine go_iconst (v := 3) dX0_obstacle_100 (by decide) ?_
                refine go_iret dX0_obstacle_101 rfl rfl ?_
                exact ⟨by unfold obsF; (try dsimp only at *); (repeat' split) <;> first | rfl | (exfalso; simp_all; done), rfl⟩
          · refine go_iconst (v := 2) dX0_obstacle_66 (by decide) ?_
            refine go_iret dX0_obstacle_67 rfl rfl ?_
            exact ⟨by unfold obsF; (try dsimp only at *); (repeat' split) <;> first | rfl | (exfalso; simp_all; done), rfl⟩
      · refine go_iconst (v := 1) dX0_obstacle_46 (by decide) ?_
        refine go_iret dX0_obstacle_47 rfl rfl ?_
        exact ⟨by unfold obsF; (try dsimp only at *); (repeat' split) <;> first | rfl | (exfalso; simp_all; done), rfl⟩
  · refine go_aload_n dX0_obstacle_9 rfl ?_
    refine go_get dX0_obstacle_10 fX0_37 rfl rfl ?_
    refine go_bipush (v := 99) dX0_obstacle_13 (by decide) ?_
    refine go_icmp_lt (tgt := 22) dX0_obstacle_15 (by decide) (fun q15 => ?_) (fun q15 => ?_)
    · refine go_iconst (v := 0) dX0_obstacle_22 (by decide) ?_
      refine go_iret dX0_obstacle_23 rfl rfl ?_
      exact ⟨by unfold obsF; (try dsimp only at *); (repeat' split) <;> first | rfl | (exfalso; simp_all; done), rfl⟩
    · refine go_iconst (v := 4) dX0_obstacle_18 (by decide) ?_
      refine go_goto (tgt := 23) dX0_obstacle_19 (by decide) ?_
      refine go_iret dX0_obstacle_23 rfl rfl ?_
      exact ⟨by unfold obsF; (try dsimp only at *); (repeat' split) <;> first | rfl | (exfalso; simp_all; done), rfl⟩
set_option maxRecDepth 100000 in
set_option maxHeartbeats 4000000 in
theorem rX0_apply {E : gE} {d : Nat} {nw i0 i1 : WorldS} {pd : PadS} {lv : LivesS} {pl : PlanS} {mt : MatS} {nt : NetS} {m : ModS} (ho : obsF lv.2.1 lv.1 = 0) : Ret E yX0_apply cX0_apply 2 none (d + 3) 0 0 [.ref 41, .ref 35] (hp nw i0 i1 pd lv pl mt nt m) (dt none (hp nw i0 i1 pd (appF lv.2.1 lv.1, lv.2) pl mt nt m)) := by
  refine ret_of_go (L := [_, _]) (by decide) (Nat.le_of_ble_eq_true rfl) rfl ?_
  refine go_aload_n dX0_apply_0 rfl ?_
  refine go_get dX0_apply_1 fX0_27 rfl rfl ?_
  by_cases h33 : lv.2.1.1 = 33
  · have hb : vp_in lv.2.1.2.1 6 ∧ vp_in lv.2.1.2.2.2.1 6 := by
      rcases obs_has ho with h9 | ⟨h9, h8⟩
      · rw [h9] at h33
        exact absurd h33 (by decide)
      · exact ⟨has_in h9, has_in h8⟩
    refine go_lookup (off := 75) (tgt := 79) dX0_apply_4 (by decide) (by rw [h33]; decide) (by decide) ?_
    refine go_aload_n dX0_apply_79 rfl ?_
    refine go_aload_n dX0_apply_80 rfl ?_
    refine go_get dX0_apply_81 fX0_15 rfl rfl ?_
    refine go_aload_n dX0_apply_84 rfl ?_
    refine go_get dX0_apply_85 fX0_24 rfl rfl ?_
    refine go_cVv (as := [_, _]) dX0_apply_88 mX1_forgeAct kX0_65 iX1_forgeAct sX1_forgeAct rfl rfl rfl rfl (rX1_forgeAct_ag hb.1) rfl rfl rfl ?_
    refine go_goto (tgt := 193) dX0_apply_91 (by decide) ?_
    refine go_vret dX0_apply_193 rfl rfl ?_
    exact ⟨rfl, by unfold appF; (try dsimp only at *); (repeat' split) <;> first | rfl | (exfalso; simp_all; done)⟩
  · skip
    by_cases h42 : lv.2.1.1 = 42
    · have hb : vp_in lv.2.1.2.1 6 ∧ vp_in lv.2.1.2.2.2.1 6 := by
        rcases obs_has ho with h9 | ⟨h9, h8⟩
        · rw [h9] at h42
          exact absurd h42 (by decide)
        · exact ⟨has_in h9, has_in h8⟩
      refine go_lookup (off := 90) (tgt := 94) dX0_apply_4 (by decide) (by rw [h42]; decide) (by decide) ?_
      refine go_aload_n dX0_apply_94 rfl ?_
      refine go_get dX0_apply_95 fX0_49 rfl rfl ?_
      refine go_aload_n dX0_apply_98 rfl ?_
      refine go_get dX0_apply_99 fX0_15 rfl rfl ?_
      refine go_dup2 dX0_apply_102 rfl rfl ?_
      refine go_iald dX0_apply_103 rfl hb.1 ?_
      refine go_iconst (v := 1) dX0_apply_104 (by decide) ?_
      refine go_isub dX0_apply_105 ?_
      refine go_iast dX0_apply_106 rfl hb.1 ?_
      refine go_goto (tgt := 193) dX0_apply_107 (by decide) ?_
      refine go_vret dX0_apply_193 rfl rfl ?_
      exact ⟨rfl, by unfold appF; (try dsimp only at *); (repeat' split) <;> first | rfl | (exfalso; simp_all; done)⟩
    · skip
      by_cases h49 : lv.2.1.1 = 49
      · have hb : vp_in lv.2.1.2.1 6 ∧ vp_in lv.2.1.2.2.2.1 6 := by
          rcases obs_has ho with h9 | ⟨h9, h8⟩
          · rw [h9] at h49
            exact absurd h49 (by decide)
          · exact ⟨has_in h9, has_in h8⟩
        refine go_lookup (off := 60) (tgt := 64) dX0_apply_4 (by decide) (by rw [h49]; decide) (by decide) ?_
        refine go_aload_n dX0_apply_64 rfl ?_
        refine go_aload_n dX0_apply_65 rfl ?_
        refine go_get dX0_apply_66 fX0_15 rfl rfl ?_
        refine go_aload_n dX0_apply_69 rfl ?_
        refine go_get dX0_apply_70 fX0_24 rfl rfl ?_
        refine go_cVv (as := [_, _]) dX0_apply_73 mX1_signAct kX0_61 iX1_signAct sX1_signAct rfl rfl rfl rfl (rX1_signAct_ag hb.1) rfl rfl rfl ?_
        refine go_goto (tgt := 193) dX0_apply_76 (by decide) ?_
        refine go_vret dX0_apply_193 rfl rfl ?_
        exact ⟨rfl, by unfold appF; (try dsimp only at *); (repeat' split) <;> first | rfl | (exfalso; simp_all; done)⟩
      · skip
        by_cases h60 : lv.2.1.1 = 60
        · have hb : vp_in lv.2.1.2.1 6 ∧ vp_in lv.2.1.2.2.2.1 6 := by
            rcases obs_has ho with h9 | ⟨h9, h8⟩
            · rw [h9] at h60
              exact absurd h60 (by decide)
            · exact ⟨has_in h9, has_in h8⟩
          refine go_lookup (off := 160) (tgt := 164) dX0_apply_4 (by decide) (by rw [h60]; decide) (by decide) ?_
          refine go_aload_n dX0_apply_164 rfl ?_
          refine go_aload_n dX0_apply_165 rfl ?_
          refine go_get dX0_apply_166 fX0_21 rfl rfl ?_
          refine go_aload_n dX0_apply_169 rfl ?_
          refine go_get dX0_apply_170 fX0_15 rfl rfl ?_
          refine go_aload_n dX0_apply_173 rfl ?_
          refine go_get dX0_apply_174 fX0_24 rfl rfl ?_
          refine go_cVv (as := [_, _, _]) dX0_apply_177 mX1_move kX0_68 iX1_move sX1_move rfl rfl rfl rfl (rX1_move_ag hb.2 hb.1) rfl rfl rfl ?_
          refine go_goto (tgt := 193) dX0_apply_180 (by decide) ?_
          refine go_vret dX0_apply_193 rfl rfl ?_
          exact ⟨rfl, by unfold appF; (try dsimp only at *); (repeat' split) <;> first | rfl | (exfalso; simp_all; done)⟩
        · skip
          by_cases h61 : lv.2.1.1 = 61
          · have hb : vp_in lv.2.1.2.1 6 ∧ vp_in lv.2.1.2.2.2.1 6 := by
              rcases obs_has ho with h9 | ⟨h9, h8⟩
              · rw [h9] at h61
                exact absurd h61 (by decide)
              · exact ⟨has_in h9, has_in h8⟩
            refine go_lookup (off := 125) (tgt := 129) dX0_apply_4 (by decide) (by rw [h61]; decide) (by decide) ?_
            refine go_aload_n dX0_apply_129 rfl ?_
            refine go_aload_n dX0_apply_130 rfl ?_
            refine go_get dX0_apply_131 fX0_15 rfl rfl ?_
            refine go_aload_n dX0_apply_134 rfl ?_
            refine go_get dX0_apply_135 fX0_21 rfl rfl ?_
            refine go_aload_n dX0_apply_138 rfl ?_
            refine go_get dX0_apply_139 fX0_24 rfl rfl ?_
            refine go_cVv (as := [_, _, _]) dX0_apply_142 mX1_move kX0_68 iX1_move sX1_move rfl rfl rfl rfl (rX1_move_ag hb.1 hb.2) rfl rfl rfl ?_
            refine go_aload_n dX0_apply_145 rfl ?_
            refine go_aload_n dX0_apply_146 rfl ?_
            refine go_get dX0_apply_147 fX0_21 rfl rfl ?_
            refine go_aload_n dX0_apply_150 rfl ?_
            refine go_get dX0_apply_151 fX0_15 rfl rfl ?_
            refine go_aload_n dX0_apply_154 rfl ?_
            refine go_get dX0_apply_155 fX0_24 rfl rfl ?_
            refine go_cVv (as := [_, _, _]) dX0_apply_158 mX1_owe kX0_72 iX1_owe sX1_owe rfl rfl rfl rfl (rX1_owe_ag hb.2 hb.1) rfl rfl rfl ?_
            refine go_goto (tgt := 193) dX0_apply_161 (by decide) ?_
            refine go_vret dX0_apply_193 rfl rfl ?_
            exact ⟨rfl, by unfold appF; (try dsimp only at *); (repeat' split) <;> first | rfl | (exfalso; simp_all; done)⟩
          · skip
            by_cases h62 : lv.2.1.1 = 62
            · have hb : vp_in lv.2.1.2.1 6 ∧ vp_in lv.2.1.2.2.2.1 6 := by
                rcases obs_has ho with h9 | ⟨h9, h8⟩
                · rw [h9] at h62
                  exact absurd h62 (by decide)
                · exact ⟨has_in h9, has_in h8⟩
              refine go_lookup (off := 106) (tgt := 110) dX0_apply_4 (by decide) (by rw [h62]; decide) (by decide) ?_
              refine go_aload_n dX0_apply_110 rfl ?_
              refine go_aload_n dX0_apply_111 rfl ?_
              refine go_get dX0_apply_112 fX0_15 rfl rfl ?_
              refine go_aload_n dX0_apply_115 rfl ?_
              refine go_get dX0_apply_116 fX0_21 rfl rfl ?_
              refine go_aload_n dX0_apply_119 rfl ?_
              refine go_get dX0_apply_120 fX0_24 rfl rfl ?_
              refine go_cVv (as := [_, _, _]) dX0_apply_123 mX1_move kX0_68 iX1_move sX1_move rfl rfl rfl rfl (rX1_move_ag hb.1 hb.2) rfl rfl rfl ?_
              refine go_goto (tgt := 193) dX0_apply_126 (by decide) ?_
              refine go_vret dX0_apply_193 rfl rfl ?_
              exact ⟨rfl, by unfold appF; (try dsimp only at *); (repeat' split) <;> first | rfl | (exfalso; simp_all; done)⟩
            · skip
              refine go_lookup (off := 179) (tgt := 183) dX0_apply_4 (by decide) (by show Op.lookupswitch.offset [(33, 75), (42, 90), (49, 60), (60, 160), (61, 125), (62, 106)] 179 _ = _; rw [lv_osw (a := 33) h33 (by decide), lv_osw (a := 42) h42 (by decide), lv_osw (a := 49) h49 (by decide), lv_osw (a := 60) h60 (by decide), lv_osw (a := 61) h61 (by decide), lv_osw (a := 62) h62 (by decide)]; rfl) (by decide) ?_
              refine go_aload_n dX0_apply_183 rfl ?_
              refine go_dup dX0_apply_184 rfl ?_
              refine go_get dX0_apply_185 fX0_37 rfl rfl ?_
              refine go_iconst (v := 1) dX0_apply_188 (by decide) ?_
              refine go_iadd dX0_apply_189 ?_
              refine go_put dX0_apply_190 fX0_37 (fun _ => rfl) (fun _ => rfl) rfl rfl ?_
              refine go_vret dX0_apply_193 rfl rfl ?_
              exact ⟨rfl, by unfold appF; (try dsimp only at *); (repeat' split) <;> first | rfl | (exfalso; simp_all; done)⟩
def taF (l : LivesS) : LivesS :=
  if obsF l.2.1 l.1 = 0 then (appF l.2.1 l.1, l.2.1, l.2.2.1 + 1, l.2.2.2.1, l.2.2.2.2.1, (if l.2.1.1 = 49 then l.2.2.2.2.2.1 + 1 else l.2.2.2.2.2.1),
    (if l.2.2.2.2.2.2 = -6 then (if orB (bareB (appF l.2.1 l.1)) 6 &&& (orB (bareB l.1) 6 ^^^ (-1)) = 0 then l.2.2.2.2.2.2 else l.2.2.1) else l.2.2.2.2.2.2))
  else (l.1, l.2.1, l.2.2.1, l.2.2.1, obsF l.2.1 l.1, l.2.2.2.2.2)
set_option maxRecDepth 100000 in
set_option maxHeartbeats 4000000 in
theorem rX2_tellAct {E : gE} {d : Nat} {nw i0 i1 : WorldS} {pd : PadS} {lv : LivesS} {pl : PlanS} {mt : MatS} {nt : NetS} {m : ModS} : Ret E yX2_tellAct cX2_tellAct 3 none (d + 4) 0 0 [.ref 34] (hp nw i0 i1 pd lv pl mt nt m) (dt none (hp nw i0 i1 pd (taF lv) pl mt nt m)) := by
  refine ret_of_go (L := [_, _, _]) (by decide) (Nat.le_of_ble_eq_true rfl) rfl ?_
  refine go_aload_n dX2_tellAct_0 rfl ?_
  refine go_get dX2_tellAct_1 fX2_21 rfl rfl ?_
  refine go_aload_n dX2_tellAct_4 rfl ?_
  refine go_get dX2_tellAct_5 fX2_12 rfl rfl ?_
  refine go_cV (as := [_]) dX2_tellAct_8 mX0_obstacle kX2_60 iX0_obstacle sX0_obstacle rfl rfl rfl rfl (rX0_obstacle) rfl rfl rfl ?_
  refine go_istore_n (L' := [_, _, _]) dX2_tellAct_11 rfl rfl rfl ?_
  refine go_iload_n dX2_tellAct_12 rfl ?_
  refine go_if_eq (tgt := 30) dX2_tellAct_13 (by decide) (fun q13 => ?_) (fun q13 => ?_)
  · refine go_aload_n dX2_tellAct_30 rfl ?_
    refine go_get dX2_tellAct_31 fX2_12 rfl rfl ?_
    refine go_cV (as := []) dX2_tellAct_34 mX1_bare kX2_64 iX1_bare sX1_bare rfl rfl rfl rfl (rX1_bare_a) rfl rfl rfl ?_
    refine go_istore_n (L' := [_, _, _]) dX2_tellAct_37 rfl rfl rfl ?_
    refine go_aload_n dX2_tellAct_38 rfl ?_
    refine go_get dX2_tellAct_39 fX2_21 rfl rfl ?_
    refine go_aload_n dX2_tellAct_42 rfl ?_
    refine go_get dX2_tellAct_43 fX2_12 rfl rfl ?_
    refine go_cVv (as := [_]) dX2_tellAct_46 mX0_apply kX2_68 iX0_apply sX0_apply rfl rfl rfl rfl (rX0_apply q13) rfl rfl rfl ?_
    refine go_aload_n dX2_tellAct_49 rfl ?_
    refine go_get dX2_tellAct_50 fX2_42 rfl rfl ?_
    refine go_bipush (v := (-6)) dX2_tellAct_53 (by decide) ?_
    refine go_icmp_ne (tgt := 80) dX2_tellAct_55 (by decide) (fun q55 => ?_) (fun q55 => ?_)
    · refine go_aload_n dX2_tellAct_80 rfl ?_
      refine go_get dX2_tellAct_81 fX2_21 rfl rfl ?_
      refine go_get dX2_tellAct_84 fX2_71 rfl rfl ?_
      refine go_bipush (v := 49) dX2_tellAct_87 (by decide) ?_
      refine go_icmp_ne (tgt := 102) dX2_tellAct_89 (by decide) (fun q89 => ?_) (fun q89 => ?_)
      · refine go_aload_n dX2_tellAct_102 rfl ?_
        refine go_dup dX2_tellAct_103 rfl ?_
        refine go_get dX2_tellAct_104 fX2_29 rfl rfl ?_
        refine go_iconst (v := 1) dX2_tellAct_107 (by decide) ?_
        refine go_iadd dX2_tellAct_108 ?_
        refine go_put dX2_tellAct_109 fX2_29 (fun _ => rfl) (fun _ => rfl) rfl rfl ?_
        refine go_vret dX2_tellAct_112 rfl rfl ?_
        exact ⟨rfl, by unfold taF; (try dsimp only at *); (repeat' split) <;> first | rfl | (exfalso; simp_all; done)⟩
      · refine go_aload_n dX2_tellAct_92 rfl ?_
        refine go_dup dX2_tellAct_93 rfl ?_
        refine go_get dX2_tellAct_94 fX2_39 rfl rfl ?_
        refine go_iconst (v := 1) dX2_tellAct_97 (by decide) ?_
        refine go_iadd dX2_tellAct_98 ?_
        refine go_put dX2_tellAct_99 fX2_39 (fun _ => rfl) (fun _ => rfl) rfl rfl ?_
        refine go_aload_n dX2_tellAct_102 rfl ?_
        refine go_dup dX2_tellAct_103 rfl ?_
        refine go_get dX2_tellAct_104 fX2_29 rfl rfl ?_
        refine go_iconst (v := 1) dX2_tellAct_107 (by decide) ?_
        refine go_iadd dX2_tellAct_108 ?_
        refine go_put dX2_tellAct_109 fX2_29 (fun _ => rfl) (fun _ => rfl) rfl rfl ?_
        refine go_vret dX2_tellAct_112 rfl rfl ?_
        exact ⟨rfl, by unfold taF; (try dsimp only at *); (repeat' split) <;> first | rfl | (exfalso; simp_all; done)⟩
    · refine go_aload_n dX2_tellAct_58 rfl ?_
      refine go_get dX2_tellAct_59 fX2_12 rfl rfl ?_
      refine go_cV (as := []) dX2_tellAct_62 mX1_bare kX2_64 iX1_bare sX1_bare rfl rfl rfl rfl (rX1_bare_a) rfl rfl rfl ?_
      refine go_iload_n dX2_tellAct_65 rfl ?_
      refine go_iconst (v := (-1)) dX2_tellAct_66 (by decide) ?_
      refine go_ixor dX2_tellAct_67 ?_
      refine go_iand dX2_tellAct_68 ?_
      refine go_if_eq (tgt := 80) dX2_tellAct_69 (by decide) (fun q69 => ?_) (fun q69 => ?_)
      · refine go_aload_n dX2_tellAct_80 rfl ?_
        refine go_get dX2_tellAct_81 fX2_21 rfl rfl ?_
        refine go_get dX2_tellAct_84 fX2_71 rfl rfl ?_
        refine go_bipush (v := 49) dX2_tellAct_87 (by decide) ?_
        refine go_icmp_ne (tgt := 102) dX2_tellAct_89 (by decide) (fun q89 => ?_) (fun q89 => ?_)
        · refine go_aload_n dX2_tellAct_102 rfl ?_
          refine go_dup dX2_tellAct_103 rfl ?_
          refine go_get dX2_tellAct_104 fX2_29 rfl rfl ?_
          refine go_iconst (v := 1) dX2_tellAct_107 (by decide) ?_
          refine go_iadd dX2_tellAct_108 ?_
          refine go_put dX2_tellAct_109 fX2_29 (fun _ => rfl) (fun _ => rfl) rfl rfl ?_
          refine go_vret dX2_tellAct_112 rfl rfl ?_
          exact ⟨rfl, by unfold taF; (try dsimp only at *); (repeat' split) <;> first | rfl | (exfalso; simp_all; done)⟩
        · refine go_aload_n dX2_tellAct_92 rfl ?_
          refine go_dup dX2_tellAct_93 rfl ?_
          refine go_get dX2_tellAct_94 fX2_39 rfl rfl ?_
          refine go_iconst (v := 1) dX2_tellAct_97 (by decide) ?_
          refine go_iadd dX2_tellAct_98 ?_
          refine go_put dX2_tellAct_99 fX2_39 (fun _ => rfl) (fun _ => rfl) rfl rfl ?_
          refine go_aload_n dX2_tellAct_102 rfl ?_
          refine go_dup dX2_tellAct_103 rfl ?_
          refine go_get dX2_tellAct_104 fX2_29 rfl rfl ?_
          refine go_iconst (v := 1) dX2_tellAct_107 (by decide) ?_
          refine go_iadd dX2_tellAct_108 ?_
          refine go_put dX2_tellAct_109 fX2_29 (fun _ => rfl) (fun _ => rfl) rfl rfl ?_
          refine go_vret dX2_tellAct_112 rfl rfl ?_
          exact ⟨rfl, by unfold taF; (try dsimp only at *); (repeat' split) <;> first | rfl | (exfalso; simp_all; done)⟩
      · refine go_aload_n dX2_tellAct_72 rfl ?_
        refine go_aload_n dX2_tellAct_73 rfl ?_
        refine go_get dX2_tellAct_74 fX2_29 rfl rfl ?_
        refine go_put dX2_tellAct_77 fX2_42 (fun _ => rfl) (fun _ => rfl) rfl rfl ?_
        refine go_aload_n dX2_tellAct_80 rfl ?_
        refine go_get dX2_tellAct_81 fX2_21 rfl rfl ?_
        refine go_get dX2_tellAct_84 fX2_71 rfl rfl ?_
        refine go_bipush (v := 49) dX2_tellAct_87 (by decide) ?_
        refine go_icmp_ne (tgt := 102) dX2_tellAct_89 (by decide) (fun q89 => ?_) (fun q89 => ?_)
        · refine go_aload_n dX2_tellAct_102 rfl ?_
          refine go_dup dX2_tellAct_103 rfl ?_
          refine go_get dX2_tellAct_104 fX2_29 rfl rfl ?_
          refine go_iconst (v := 1) dX2_tellAct_107 (by decide) ?_
          refine go_iadd dX2_tellAct_108 ?_
          refine go_put dX2_tellAct_109 fX2_29 (fun _ => rfl) (fun _ => rfl) rfl rfl ?_
          refine go_vret dX2_tellAct_112 rfl rfl ?_
          exact ⟨rfl, by unfold taF; (try dsimp only at *); (repeat' split) <;> first | rfl | (exfalso; simp_all; done)⟩
        · refine go_aload_n dX2_tellAct_92 rfl ?_
          refine go_dup dX2_tellAct_93 rfl ?_
          refine go_get dX2_tellAct_94 fX2_39 rfl rfl ?_
          refine go_iconst (v := 1) dX2_tellAct_97 (by decide) ?_
          refine go_iadd dX2_tellAct_98 ?_
          refine go_put dX2_tellAct_99 fX2_39 (fun _ => rfl) (fun _ => rfl) rfl rfl ?_
          refine go_aload_n dX2_tellAct_102 rfl ?_
          refine go_dup dX2_tellAct_103 rfl ?_
          refine go_get dX2_tellAct_104 fX2_29 rfl rfl ?_
          refine go_iconst (v := 1) dX2_tellAct_107 (by decide) ?_
          refine go_iadd dX2_tellAct_108 ?_
          refine go_put dX2_tellAct_109 fX2_29 (fun _ => rfl) (fun _ => rfl) rfl rfl ?_
          refine go_vret dX2_tellAct_112 rfl rfl ?_
          exact ⟨rfl, by unfold taF; (try dsimp only at *); (repeat' split) <;> first | rfl | (exfalso; simp_all; done)⟩
  · refine go_aload_n dX2_tellAct_16 rfl ?_
    refine go_aload_n dX2_tellAct_17 rfl ?_
    refine go_get dX2_tellAct_18 fX2_29 rfl rfl ?_
    refine go_put dX2_tellAct_21 fX2_33 (fun _ => rfl) (fun _ => rfl) rfl rfl ?_
    refine go_aload_n dX2_tellAct_24 rfl ?_
    refine go_iload_n dX2_tellAct_25 rfl ?_
    refine go_put dX2_tellAct_26 fX2_36 (fun _ => rfl) (fun _ => rfl) rfl rfl ?_
    refine go_vret dX2_tellAct_29 rfl rfl ?_
    exact ⟨rfl, by unfold taF; (try dsimp only at *); (repeat' split) <;> first | rfl | (exfalso; simp_all; done)⟩
def tlR (S : Nat → Int32) (c : Nat) : Nat → Nat → LivesS → LivesS
  | 0, _, l => l
  | n + 1, j, l => if j < c then (if l.2.2.2.1 = -6 then tlR S c n (j + lenR S c j) (taF (l.1, actR S c j, l.2.2)) else l) else l
def tellF (F : FolkS) (A : ActS) (S : Nat → Int32) (c : Nat) : LivesS := tlR S c 60 0 (F, A, 0, -6, -6, 0, -6)
set_option maxRecDepth 100000 in
set_option maxHeartbeats 4000000 in
theorem rX2_tell {E : gE} {d : Nat} {nw i0 i1 : WorldS} {lv : LivesS} {pl : PlanS} {mt : MatS} {nt : NetS} {m : ModS} {S : Nat → Int32} {c : Nat} (hc : c ≤ 60) : Ret E yX2_tell cX2_tell 5 none (d + 5) 0 0 [.ref 34, .ref 2, .ref 32] (hp nw i0 i1 (S, nI c) lv pl mt nt m) (dt none (hp nw i0 i1 (S, nI c) (tellF nw.1 lv.2.1 S c) pl mt nt m)) := by
  refine ret_of_go (L := [_, _, _, _, _]) (by decide) (Nat.le_of_ble_eq_true rfl) rfl ?_
  have key : ∀ (n k j : Nat) (l : LivesS), k + n = 60 → j ≤ 63 → tlR S c n j l = tellF nw.1 lv.2.1 S c → Go E yX2_tell cX2_tell 5 none (d + 5) 0 0 0 0 41 [some (.ref 34), some (.ref 2), some (.ref 32), some (.int (nI j)), some (.int (nI k))] [] (hp nw i0 i1 (S, nI c) l pl mt nt m) (dt none (hp nw i0 i1 (S, nI c) (tellF nw.1 lv.2.1 S c) pl mt nt m)) := by
    intro n
    induction n with
    | zero =>
      intro k j l hk hj hf
      obtain rfl : k = 60 := by omega
      rw [tlR] at hf
      rw [← hf]
      refine go_iload dX2_tell_41 rfl ?_
      refine go_bipush (v := 60) dX2_tell_43 (by decide) ?_
      refine go_icmp_ge (tgt := 94) dX2_tell_45 (by decide) (fun q45 => ?_) (fun q => absurd (nI_le (a := 60) (b := 60) (by decide) (by decide)) q)
      refine go_vret dX2_tell_94 rfl rfl ?_
      exact ⟨rfl, rfl⟩
    | succ n ih =>
      intro k j l hk hj hf
      rw [tlR] at hf
      by_cases h1 : j < c
      · rw [if_pos h1] at hf
        by_cases h2 : l.2.2.2.1 = -6
        · rw [if_pos h2] at hf
          have hle := lenR_in S c j
          have hrd : ∀ l : LivesS, (l.1, l.2) = l := fun _ => rfl
          refine go_iload dX2_tell_41 rfl ?_
          refine go_bipush (v := 60) dX2_tell_43 (by decide) ?_
          refine go_icmp_ge (tgt := 94) dX2_tell_45 (by decide) (fun q => absurd q (nI_ge (a := k) (b := 60) (by omega) (by decide))) (fun q45 => ?_)
          refine go_iload_n dX2_tell_48 rfl ?_
          refine go_aload_n dX2_tell_49 rfl ?_
          refine go_get dX2_tell_50 fX2_45 rfl rfl ?_
          refine go_icmp_ge (tgt := 94) dX2_tell_53 (by decide) (fun q => absurd q (nI_ge (a := j) (b := c) (by omega) (by omega))) (fun q53 => ?_)
          refine go_aload_n dX2_tell_56 rfl ?_
          refine go_get dX2_tell_57 fX2_33 rfl rfl ?_
          refine go_bipush (v := (-6)) dX2_tell_60 (by decide) ?_
          refine go_icmp_ne (tgt := 94) dX2_tell_62 (by decide) (fun q => absurd h2 q) (fun q62 => ?_)
          refine go_aload_n dX2_tell_65 rfl ?_
          refine go_get dX2_tell_66 fX2_21 rfl rfl ?_
          refine go_aload_n dX2_tell_69 rfl ?_
          refine go_iload_n dX2_tell_70 rfl ?_
          refine go_cVv (as := [_, _]) dX2_tell_71 mX0_read kX2_50 iX0_read sX0_read rfl rfl rfl rfl (rX0_read (j := j) hc (by omega)) rfl rfl rfl ?_
          refine go_iload_n dX2_tell_74 rfl ?_
          refine go_aload_n dX2_tell_75 rfl ?_
          refine go_get dX2_tell_76 fX2_21 rfl rfl ?_
          refine go_get dX2_tell_79 fX2_54 rfl rfl ?_
          refine go_iadd dX2_tell_82 ?_
          refine go_topi_eq (x := nI (j + lenR S c j)) (by show nI j + (actR S c j).2.2.2.2 = _; rw [actR_len, nI_add]) ?_
          refine go_istore_n (L' := [_, _, _, _, _]) dX2_tell_83 rfl rfl rfl ?_
          refine go_aload_n dX2_tell_84 rfl ?_
          refine go_cVv (as := []) dX2_tell_85 mX2_tellAct kX2_57 iX2_tellAct sX2_tellAct rfl rfl rfl rfl (rX2_tellAct) rfl rfl rfl ?_
          refine go_iinc (v := nI (k + 1)) (L' := [_, _, _, _, _]) dX2_tell_88 rfl (nI_1 k) rfl rfl rfl ?_
          refine go_goto (tgt := 41) dX2_tell_91 (by decide) ?_
          exact ih (k + 1) (j + lenR S c j) _ (by omega) (by omega) hf
        · rw [if_neg h2] at hf
          rw [← hf]
          refine go_iload dX2_tell_41 rfl ?_
          refine go_bipush (v := 60) dX2_tell_43 (by decide) ?_
          refine go_icmp_ge (tgt := 94) dX2_tell_45 (by decide) (fun q => absurd q (nI_ge (a := k) (b := 60) (by omega) (by decide))) (fun q45 => ?_)
          refine go_iload_n dX2_tell_48 rfl ?_
          refine go_aload_n dX2_tell_49 rfl ?_
          refine go_get dX2_tell_50 fX2_45 rfl rfl ?_
          refine go_icmp_ge (tgt := 94) dX2_tell_53 (by decide) (fun q => absurd q (nI_ge (a := j) (b := c) (by omega) (by omega))) (fun q53 => ?_)
          refine go_aload_n dX2_tell_56 rfl ?_
          refine go_get dX2_tell_57 fX2_33 rfl rfl ?_
          refine go_bipush (v := (-6)) dX2_tell_60 (by decide) ?_
          refine go_icmp_ne (tgt := 94) dX2_tell_62 (by decide) (fun q62 => ?_) (fun q => absurd q h2)
          refine go_vret dX2_tell_94 rfl rfl ?_
          exact ⟨rfl, rfl⟩
      · rw [if_neg h1] at hf
        rw [← hf]
        refine go_iload dX2_tell_41 rfl ?_
        refine go_bipush (v := 60) dX2_tell_43 (by decide) ?_
        refine go_icmp_ge (tgt := 94) dX2_tell_45 (by decide) (fun q => absurd q (nI_ge (a := k) (b := 60) (by omega) (by decide))) (fun q45 => ?_)
        refine go_iload_n dX2_tell_48 rfl ?_
        refine go_aload_n dX2_tell_49 rfl ?_
        refine go_get dX2_tell_50 fX2_45 rfl rfl ?_
        refine go_icmp_ge (tgt := 94) dX2_tell_53 (by decide) (fun q53 => ?_) (fun q => absurd (nI_le (a := c) (b := j) (by omega) (by omega)) q)
        refine go_vret dX2_tell_94 rfl rfl ?_
        exact ⟨rfl, rfl⟩
  refine go_aload_n dX2_tell_0 rfl ?_
  refine go_get dX2_tell_1 fX2_12 rfl rfl ?_
  refine go_aload_n dX2_tell_4 rfl ?_
  refine go_cVv (as := [_]) dX2_tell_5 mX1_copyFrom kX2_25 iX1_copyFrom sX1_copyFrom rfl rfl rfl rfl (rX1_copyFrom_an) rfl rfl rfl ?_
  refine go_aload_n dX2_tell_8 rfl ?_
  refine go_iconst (v := 0) dX2_tell_9 (by decide) ?_
  refine go_put dX2_tell_10 fX2_29 (fun _ => rfl) (fun _ => rfl) rfl rfl ?_
  refine go_aload_n dX2_tell_13 rfl ?_
  refine go_bipush (v := (-6)) dX2_tell_14 (by decide) ?_
  refine go_put dX2_tell_16 fX2_33 (fun _ => rfl) (fun _ => rfl) rfl rfl ?_
  refine go_aload_n dX2_tell_19 rfl ?_
  refine go_bipush (v := (-6)) dX2_tell_20 (by decide) ?_
  refine go_put dX2_tell_22 fX2_36 (fun _ => rfl) (fun _ => rfl) rfl rfl ?_
  refine go_aload_n dX2_tell_25 rfl ?_
  refine go_iconst (v := 0) dX2_tell_26 (by decide) ?_
  refine go_put dX2_tell_27 fX2_39 (fun _ => rfl) (fun _ => rfl) rfl rfl ?_
  refine go_aload_n dX2_tell_30 rfl ?_
  refine go_bipush (v := (-6)) dX2_tell_31 (by decide) ?_
  refine go_put dX2_tell_33 fX2_42 (fun _ => rfl) (fun _ => rfl) rfl rfl ?_
  refine go_iconst (v := 0) dX2_tell_36 (by decide) ?_
  refine go_istore_n (L' := [_, _, _, _, _]) dX2_tell_37 rfl rfl rfl ?_
  refine go_iconst (v := 0) dX2_tell_38 (by decide) ?_
  refine go_istore (L' := [_, _, _, _, _]) dX2_tell_39 rfl rfl rfl ?_
  exact key 60 0 0 (nw.1, lv.2.1, 0, -6, -6, 0, -6) rfl (by omega) rfl
def rmI (a b : Int32) : Int32 := a - a / b * b
/-- folk, forged, x behind n years -/
def dwR (F : FolkS) (x : Int32) : Nat → FolkS × Int32 × Int32
  | 0 => (F, 0, x)
  | n + 1 =>
    let q := dwR F x n
    let x2 := rmI (75 * q.2.2 + 74) 65537
    let p := rmI x2 6
    let g := 1 + rmI (x2 / 6) 9
    if hasB q.1.1 p then (if fs_ q.1 p.toNatClampNeg ≤ 0 then (forgeF q.1 p.toNatClampNeg g, q.2.1 + 1, x2) else (signF q.1 p.toNatClampNeg g, q.2.1, x2)) else (q.1, q.2.1, x2)
set_option maxRecDepth 100000 in
set_option maxHeartbeats 4000000 in
theorem rX2_draw {E : gE} {d : Nat} {nw i0 i1 : WorldS} {pd : PadS} {lv : LivesS} {pl : PlanS} {mt : MatS} {nt : NetS} {m : ModS} {x : Int32} {my : Nat} (hm : my ≤ 100) : Ret E yX2_draw cX2_draw 9 (some .int) (d + 5) 0 0 [.ref 34, .ref 2, .int x, .int (nI my)] (hp nw i0 i1 pd lv pl mt nt m) (dt (some (.int (dwR nw.1 x my).2.1)) (hp nw i0 i1 pd ((dwR nw.1 x my).1, lv.2) pl mt nt m)) := by
  refine ret_of_go (L := [_, _, _, _, _, _, _, _, _]) (by decide) (Nat.le_of_ble_eq_true rfl) rfl ?_
  have key : ∀ (n k : Nat) (F : FolkS) (fo z : Int32) (a7 a8 : Option Value), k + n = my → (F, fo, z) = dwR nw.1 x k → Go E yX2_draw cX2_draw 9 (some .int) (d + 5) 0 0 0 0 17 [some (.ref 34), some (.ref 2), some (.int x), some (.int (nI my)), some (.int fo), some (.int z), some (.int (nI k)), a7, a8] [] (hp nw i0 i1 pd (F, lv.2) pl mt nt m) (dt (some (.int (dwR nw.1 x my).2.1)) (hp nw i0 i1 pd ((dwR nw.1 x my).1, lv.2) pl mt nt m)) := by
    intro n
    induction n with
    | zero =>
      intro k F fo z a7 a8 hk hf
      obtain rfl : k = my := by omega
      rw [← hf]
      refine go_iload dX2_draw_17 rfl ?_
      refine go_iload_n dX2_draw_19 rfl ?_
      refine go_icmp_ge (tgt := 126) dX2_draw_20 (by decide) (fun q20 => ?_) (fun q => absurd (nI_le (Nat.le_refl _) (by omega)) q)
      refine go_iload dX2_draw_126 rfl ?_
      refine go_iret dX2_draw_128 rfl rfl ?_
      exact ⟨rfl, rfl⟩
    | succ n ih =>
      intro k F fo z a7 a8 hk hf
      have hs : dwR nw.1 x (k + 1) = (let x2 := rmI (75 * z + 74) 65537; let p := rmI x2 6; let g := 1 + rmI (x2 / 6) 9; if hasB F.1 p then (if fs_ F p.toNatClampNeg ≤ 0 then (forgeF F p.toNatClampNeg g, fo + 1, x2) else (signF F p.toNatClampNeg g, fo, x2)) else (F, fo, x2)) := by rw [dwR, ← hf]
      dsimp only at hs
      refine go_iload dX2_draw_17 rfl ?_
      refine go_iload_n dX2_draw_19 rfl ?_
      refine go_icmp_ge (tgt := 126) dX2_draw_20 (by decide) (fun q => absurd q (nI_ge (a := k) (b := my) (by omega) (by omega))) (fun q20 => ?_)
      refine go_bipush (v := 75) dX2_draw_23 (by decide) ?_
      refine go_iload dX2_draw_25 rfl ?_
      refine go_imul dX2_draw_27 ?_
      refine go_bipush (v := 74) dX2_draw_28 (by decide) ?_
      refine go_iadd dX2_draw_30 ?_
      refine go_ldc dX2_draw_31 nX2_74 ?_
      refine go_irem dX2_draw_33 (by decide) ?_
      refine go_istore (L' := [_, _, _, _, _, _, _, _, _]) dX2_draw_34 rfl rfl rfl ?_
      refine go_iload dX2_draw_36 rfl ?_
      refine go_bipush (v := 6) dX2_draw_38 (by decide) ?_
      refine go_irem dX2_draw_40 (by decide) ?_
      refine go_istore (L' := [_, _, _, _, _, _, _, _, _]) dX2_draw_41 rfl rfl rfl ?_
      refine go_iconst (v := 1) dX2_draw_43 (by decide) ?_
      refine go_iload dX2_draw_44 rfl ?_
      refine go_bipush (v := 6) dX2_draw_46 (by decide) ?_
      refine go_idiv dX2_draw_48 (by decide) ?_
      refine go_bipush (v := 9) dX2_draw_49 (by decide) ?_
      refine go_irem dX2_draw_51 (by decide) ?_
      refine go_iadd dX2_draw_52 ?_
      refine go_istore (L' := [_, _, _, _, _, _, _, _, _]) dX2_draw_53 rfl rfl rfl ?_
      refine go_aload_n dX2_draw_55 rfl ?_
      refine go_get dX2_draw_56 fX2_12 rfl rfl ?_
      refine go_iload dX2_draw_59 rfl ?_
      refine go_cV (as := [_]) dX2_draw_61 mX1_has kX2_75 iX1_has sX1_has rfl rfl rfl rfl (rX1_has_a) rfl rfl rfl ?_
      refine go_bif_eq (tgt := 94) dX2_draw_64 (by decide) (fun q64 => ?_) (fun q64 => ?_)
      · refine go_aload_n dX2_draw_94 rfl ?_
        refine go_get dX2_draw_95 fX2_12 rfl rfl ?_
        refine go_iload dX2_draw_98 rfl ?_
        refine go_cV (as := [_]) dX2_draw_100 mX1_has kX2_75 iX1_has sX1_has rfl rfl rfl rfl (rX1_has_a) rfl rfl rfl ?_
        refine go_bif_eq (tgt := 120) dX2_draw_103 (by decide) (fun q103 => ?_) (fun q103 => ?_)
        · refine go_iinc (v := nI (k + 1)) (L' := [_, _, _, _, _, _, _, _, _]) dX2_draw_120 rfl (nI_1 k) rfl rfl rfl ?_
          refine go_goto (tgt := 17) dX2_draw_123 (by decide) ?_
          exact ih (k + 1) _ _ _ _ _ (by omega) (by rw [hs]; first | (rw [if_pos (show hasB F.1 (rmI (rmI (75 * z + 74) 65537) 6) = true from q64), if_neg (show ¬ fs_ F (rmI (rmI (75 * z + 74) 65537) 6).toNatClampNeg ≤ 0 from q77)]; rfl) | (rw [if_pos (show hasB F.1 (rmI (rmI (75 * z + 74) 65537) 6) = true from q64), if_pos (show fs_ F (rmI (rmI (75 * z + 74) 65537) 6).toNatClampNeg ≤ 0 from q77)]; rfl) | (rw [if_neg (show ¬ hasB F.1 (rmI (rmI (75 * z + 74) 65537) 6) = true from fun z9 => absurd (q64.symm.trans z9) (by decide))]; rfl) | exact absurd (q64.symm.trans q103) (by decide) | exact absurd (q103.symm.trans q64) (by decide))
        · refine go_aload_n dX2_draw_106 rfl ?_
          refine go_get dX2_draw_107 fX2_12 rfl rfl ?_
          refine go_iload dX2_draw_110 rfl ?_
          refine go_iload dX2_draw_112 rfl ?_
          refine go_cVv (as := [_, _]) dX2_draw_114 mX1_forgeAct kX2_87 iX1_forgeAct sX1_forgeAct rfl rfl rfl rfl (rX1_forgeAct_ag (has_in q103)) rfl rfl rfl ?_
          refine go_iinc (L' := [_, _, _, _, _, _, _, _, _]) dX2_draw_117 rfl rfl rfl rfl rfl ?_
          refine go_iinc (v := nI (k + 1)) (L' := [_, _, _, _, _, _, _, _, _]) dX2_draw_120 rfl (nI_1 k) rfl rfl rfl ?_
          refine go_goto (tgt := 17) dX2_draw_123 (by decide) ?_
          exact ih (k + 1) _ _ _ _ _ (by omega) (by rw [hs]; first | (rw [if_pos (show hasB F.1 (rmI (rmI (75 * z + 74) 65537) 6) = true from q64), if_neg (show ¬ fs_ F (rmI (rmI (75 * z + 74) 65537) 6).toNatClampNeg ≤ 0 from q77)]; rfl) | (rw [if_pos (show hasB F.1 (rmI (rmI (75 * z + 74) 65537) 6) = true from q64), if_pos (show fs_ F (rmI (rmI (75 * z + 74) 65537) 6).toNatClampNeg ≤ 0 from q77)]; rfl) | (rw [if_neg (show ¬ hasB F.1 (rmI (rmI (75 * z + 74) 65537) 6) = true from fun z9 => absurd (q64.symm.trans z9) (by decide))]; rfl) | exact absurd (q64.symm.trans q103) (by decide) | exact absurd (q103.symm.trans q64) (by decide))
      · refine go_aload_n dX2_draw_67 rfl ?_
        refine go_get dX2_draw_68 fX2_12 rfl rfl ?_
        refine go_get dX2_draw_71 fX2_79 rfl rfl ?_
        refine go_iload dX2_draw_74 rfl ?_
        refine go_iald dX2_draw_76 rfl (has_in q64) ?_
        refine go_if_le (tgt := 94) dX2_draw_77 (by decide) (fun q77 => ?_) (fun q77 => ?_)
        · refine go_aload_n dX2_draw_94 rfl ?_
          refine go_get dX2_draw_95 fX2_12 rfl rfl ?_
          refine go_iload dX2_draw_98 rfl ?_
          refine go_cV (as := [_]) dX2_draw_100 mX1_has kX2_75 iX1_has sX1_has rfl rfl rfl rfl (rX1_has_a) rfl rfl rfl ?_
          refine go_bif_eq (tgt := 120) dX2_draw_103 (by decide) (fun q103 => ?_) (fun q103 => ?_)
          · refine go_iinc (v := nI (k + 1)) (L' := [_, _, _, _, _, _, _, _, _]) dX2_draw_120 rfl (nI_1 k) rfl rfl rfl ?_
            refine go_goto (tgt := 17) dX2_draw_123 (by decide) ?_
            exact ih (k + 1) _ _ _ _ _ (by omega) (by rw [hs]; first | (rw [if_pos (show hasB F.1 (rmI (rmI (75 * z + 74) 65537) 6) = true from q64), if_neg (show ¬ fs_ F (rmI (rmI (75 * z + 74) 65537) 6).toNatClampNeg ≤ 0 from q77)]; rfl) | (rw [if_pos (show hasB F.1 (rmI (rmI (75 * z + 74) 65537) 6) = true from q64), if_pos (show fs_ F (rmI (rmI (75 * z + 74) 65537) 6).toNatClampNeg ≤ 0 from q77)]; rfl) | (rw [if_neg (show ¬ hasB F.1 (rmI (rmI (75 * z + 74) 65537) 6) = true from fun z9 => absurd (q64.symm.trans z9) (by decide))]; rfl) | exact absurd (q64.symm.trans q103) (by decide) | exact absurd (q103.symm.trans q64) (by decide))
          · refine go_aload_n dX2_draw_106 rfl ?_
            refine go_get dX2_draw_107 fX2_12 rfl rfl ?_
            refine go_iload dX2_draw_110 rfl ?_
            refine go_iload dX2_draw_112 rfl ?_
            refine go_cVv (as := [_, _]) dX2_draw_114 mX1_forgeAct kX2_87 iX1_forgeAct sX1_forgeAct rfl rfl rfl rfl (rX1_forgeAct_ag (has_in q103)) rfl rfl rfl ?_
            refine go_iinc (L' := [_, _, _, _, _, _, _, _, _]) dX2_draw_117 rfl rfl rfl rfl rfl ?_
            refine go_iinc (v := nI (k + 1)) (L' := [_, _, _, _, _, _, _, _, _]) dX2_draw_120 rfl (nI_1 k) rfl rfl rfl ?_
            refine go_goto (tgt := 17) dX2_draw_123 (by decide) ?_
            exact ih (k + 1) _ _ _ _ _ (by omega) (by rw [hs]; first | (rw [if_pos (show hasB F.1 (rmI (rmI (75 * z + 74) 65537) 6) = true from q64), if_neg (show ¬ fs_ F (rmI (rmI (75 * z + 74) 65537) 6).toNatClampNeg ≤ 0 from q77)]; rfl) | (rw [if_pos (show hasB F.1 (rmI (rmI (75 * z + 74) 65537) 6) = true from q64), if_pos (show fs_ F (rmI (rmI (75 * z + 74) 65537) 6).toNatClampNeg ≤ 0 from q77)]; rfl) | (rw [if_neg (show ¬ hasB F.1 (rmI (rmI (75 * z + 74) 65537) 6) = true from fun z9 => absurd (q64.symm.trans z9) (by decide))]; rfl) | exact absurd (q64.symm.trans q103) (by decide) | exact absurd (q103.symm.trans q64) (by decide))
        · refine go_aload_n dX2_draw_80 rfl ?_
          refine go_get dX2_draw_81 fX2_12 rfl rfl ?_
          refine go_iload dX2_draw_84 rfl ?_
          refine go_iload dX2_draw_86 rfl ?_
          refine go_cVv (as := [_, _]) dX2_draw_88 mX1_signAct kX2_83 iX1_signAct sX1_signAct rfl rfl rfl rfl (rX1_signAct_ag (has_in q64)) rfl rfl rfl ?_
          refine go_goto (tgt := 120) dX2_draw_91 (by decide) ?_
          refine go_iinc (v := nI (k + 1)) (L' := [_, _, _, _, _, _, _, _, _]) dX2_draw_120 rfl (nI_1 k) rfl rfl rfl ?_
          refine go_goto (tgt := 17) dX2_draw_123 (by decide) ?_
          exact ih (k + 1) _ _ _ _ _ (by omega) (by rw [hs]; first | (rw [if_pos (show hasB F.1 (rmI (rmI (75 * z + 74) 65537) 6) = true from q64), if_neg (show ¬ fs_ F (rmI (rmI (75 * z + 74) 65537) 6).toNatClampNeg ≤ 0 from q77)]; rfl) | (rw [if_pos (show hasB F.1 (rmI (rmI (75 * z + 74) 65537) 6) = true from q64), if_pos (show fs_ F (rmI (rmI (75 * z + 74) 65537) 6).toNatClampNeg ≤ 0 from q77)]; rfl) | (rw [if_neg (show ¬ hasB F.1 (rmI (rmI (75 * z + 74) 65537) 6) = true from fun z9 => absurd (q64.symm.trans z9) (by decide))]; rfl) | exact absurd (q64.symm.trans q103) (by decide) | exact absurd (q103.symm.trans q64) (by decide))
  refine go_aload_n dX2_draw_0 rfl ?_
  refine go_get dX2_draw_1 fX2_12 rfl rfl ?_
  refine go_aload_n dX2_draw_4 rfl ?_
  refine go_cVv (as := [_]) dX2_draw_5 mX1_copyFrom kX2_25 iX1_copyFrom sX1_copyFrom rfl rfl rfl rfl (rX1_copyFrom_an) rfl rfl rfl ?_
  refine go_iconst (v := 0) dX2_draw_8 (by decide) ?_
  refine go_istore (L' := [_, _, _, _, _, _, _, _, _]) dX2_draw_9 rfl rfl rfl ?_
  refine go_iload_n dX2_draw_11 rfl ?_
  refine go_istore (L' := [_, _, _, _, _, _, _, _, _]) dX2_draw_12 rfl rfl rfl ?_
  refine go_iconst (v := 0) dX2_draw_14 (by decide) ?_
  refine go_istore (L' := [_, _, _, _, _, _, _, _, _]) dX2_draw_15 rfl rfl rfl ?_
  exact key my 0 nw.1 0 x _ _ (by omega) rfl
end
