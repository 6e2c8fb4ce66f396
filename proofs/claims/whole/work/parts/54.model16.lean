set_option maxRecDepth 100000 in
set_option maxHeartbeats 4000000 in
theorem rX9_compare_2 {E : gE} {d : Nat} {nw i0 i1 : WorldS} {pd : PadS} {lv : LivesS} {pl : PlanS} {mt : MatS} {nt : NetS} {zbk znw zta zwe zsg zpa zev zac zwr zim zke : Nat → Int32} {zth zsi zsa zsd zfo zre zma zba zsl zwy : Int32} {zbe : Nat → Int64} {k : Nat} (hk1 : 1 ≤ k) (hk : k ≤ 99) : Ret E yX9_compare cX9_compare 4 (some .int) (d + 1) 0 0 [.ref 52, .int (nI k)] (hp nw i0 i1 pd lv pl mt nt (zbk, znw, zth, zta, zwe, zsi, zsg, zsa, zpa, zsd, zfo, zre, zma, zba, zbe, zev, zac, zwr, zsl, zwy, zim, zke)) (dt (some (.int (nI (cmpR k 8 0 0)))) (hp nw i0 i1 pd lv pl mt nt (zbk, znw, zth, zta, zwe, zsi, zsg, zsa, zpa, zsd, zfo, zre, zma, zba, zbe, zev, zac, zwr, zsl, zwy, zim, zke))) := by
  refine ret_of_go (L := [_, _, _, _]) (by decide) (Nat.le_of_ble_eq_true rfl) rfl ?_
  have key : ∀ (f j cm : Nat), f + j = 8 → cmpR k f j cm = cmpR k 8 0 0 → Go E yX9_compare cX9_compare 4 (some .int) (d + 1) 0 0 0 0 17 [some (.ref 52), some (.int (nI k)), some (.int (nI cm)), some (.int (nI (2 ^ j)))] [] (hp nw i0 i1 pd lv pl mt nt (zbk, znw, zth, zta, zwe, zsi, zsg, zsa, zpa, zsd, zfo, zre, zma, zba, zbe, zev, zac, zwr, zsl, zwy, zim, zke)) (dt (some (.int (nI (cmpR k 8 0 0)))) (hp nw i0 i1 pd lv pl mt nt (zbk, znw, zth, zta, zwe, zsi, zsg, zsa, zpa, zsd, zfo, zre, zma, zba, zbe, zev, zac, zwr, zsl, zwy, zim, zke))) := by
    intro f
    induction f with
    | zero =>
      intro j cm hj hf
      obtain rfl : j = 8 := by omega
      rw [cmpR] at hf
      refine go_iload_n dX9_compare_17 rfl ?_
      refine go_iload_n dX9_compare_18 rfl ?_
      refine go_iconst (v := 1) dX9_compare_19 (by decide) ?_
      refine go_iadd dX9_compare_20 ?_
      refine go_topi_eq (nI_1 k) ?_
      refine go_icmp_ge (tgt := 34) dX9_compare_21 (by decide) (fun q21 => ?_) (fun zq => absurd (nI_le (a := k + 1) (b := 2 ^ 8) (by omega) (by decide)) zq)
      refine go_iload_n dX9_compare_34 rfl ?_
      refine go_iret dX9_compare_35 rfl rfl ?_
      exact ⟨by rw [hf], rfl⟩
    | succ f ih =>
      intro j cm hj hf
      have h8 := p2_le (j := j) (by omega)
      rw [cmpR] at hf
      by_cases h9 : 2 ^ j < k + 1
      · rw [if_pos h9] at hf
        refine go_iload_n dX9_compare_17 rfl ?_
        refine go_iload_n dX9_compare_18 rfl ?_
        refine go_iconst (v := 1) dX9_compare_19 (by decide) ?_
        refine go_iadd dX9_compare_20 ?_
        refine go_topi_eq (nI_1 k) ?_
        refine go_icmp_ge (tgt := 34) dX9_compare_21 (by decide) (fun zq => absurd zq (nI_ge h9 (by omega))) (fun q21 => ?_)
        refine go_iload_n dX9_compare_24 rfl ?_
        refine go_iconst (v := 2) dX9_compare_25 (by decide) ?_
        refine go_imul dX9_compare_26 ?_
        refine go_topi_eq (x := nI (2 ^ (j + 1))) (by rw [show (2 : Int32) = nI 2 from rfl, pk_mul, ← Nat.pow_succ]) ?_
        refine go_istore_n (L' := [_, _, _, _]) dX9_compare_27 rfl rfl rfl ?_
        refine go_iinc (v := nI (cm + 1)) (L' := [_, _, _, _]) dX9_compare_28 rfl (nI_1 cm) rfl rfl rfl ?_
        refine go_goto (tgt := 17) dX9_compare_31 (by decide) ?_
        exact ih (j + 1) (cm + 1) (by omega) hf
      · rw [if_neg h9] at hf
        refine go_iload_n dX9_compare_17 rfl ?_
        refine go_iload_n dX9_compare_18 rfl ?_
        refine go_iconst (v := 1) dX9_compare_19 (by decide) ?_
        refine go_iadd dX9_compare_20 ?_
        refine go_topi_eq (nI_1 k) ?_
        refine go_icmp_ge (tgt := 34) dX9_compare_21 (by decide) (fun q21 => ?_) (fun zq => absurd (nI_le (Nat.not_lt.mp h9) (by omega)) zq)
        refine go_iload_n dX9_compare_34 rfl ?_
        refine go_iret dX9_compare_35 rfl rfl ?_
        exact ⟨by rw [hf], rfl⟩
  refine go_iload_n dX9_compare_0 rfl ?_
  refine go_iconst (v := 1) dX9_compare_1 (by decide) ?_
  refine go_bipush (v := 99) dX9_compare_2 (by decide) ?_
  refine go_cS (as := [_, _, _]) dX9_compare_4 mX9_in kX9_48 tX9_in rfl rfl (rX9_in) rfl rfl rfl ?_
  refine go_bn_t (tgt := 13) dX9_compare_7 (by decide) (inB_of (k := k) (a := 1) (b := 99) (by omega) (by omega) (by decide)) ?_
  refine go_iconst (v := 0) dX9_compare_13 (by decide) ?_
  refine go_istore_n (L' := [_, _, _, _]) dX9_compare_14 rfl rfl rfl ?_
  refine go_iconst (v := 1) dX9_compare_15 (by decide) ?_
  refine go_istore_n (L' := [_, _, _, _]) dX9_compare_16 rfl rfl rfl ?_
  exact key 8 0 0 rfl rfl
def dsB (V : Nat → Int64) (all : Int64) (h n q w : Nat) : Bool :=
  if n = 0 then false else if h < 10 then decide (h ≤ w) else if h = 10 then decide (loR V (pwL all (q - 1)) (11 * (n - 1) + (q - 1)) (11 * n + (q - 1)) 9 1 ≤ nI w) else decide (q ≤ n ∨ 5 ≤ w)
theorem nIle {a b : Nat} (ha : a < 2 ^ 31) (hb : b < 2 ^ 31) : nI a ≤ nI b ↔ a ≤ b := by
  rw [Int32.le_iff_toInt_le, nI_toInt ha, nI_toInt hb]
  omega
theorem nIlt {a b : Nat} (ha : a < 2 ^ 31) (hb : b < 2 ^ 31) : nI a < nI b ↔ a < b := by
  rw [Int32.lt_iff_toInt_lt, nI_toInt ha, nI_toInt hb]
  omega
set_option maxRecDepth 100000 in
set_option maxHeartbeats 4000000 in
theorem rX9_doesSign_0 {E : gE} {d : Nat} {nw i0 i1 : WorldS} {pd : PadS} {lv : LivesS} {pl : PlanS} {mt : MatS} {nt : NetS} {zbk znw zta zwe zsg zpa zev zac zwr zim zke : Nat → Int32} {zth zsi zsa zsd zfo zre zma zba zsl zwy : Int32} {zbe : Nat → Int64} {h q w : Nat} : Ret E yX9_doesSign cX9_doesSign 5 (some .boolean) (d + 2) 0 0 [.ref 52, .int (nI h), .int (nI 0), .int (nI q), .int (nI w)] (hp nw i0 i1 pd lv pl mt nt (zbk, znw, zth, zta, zwe, zsi, zsg, zsa, zpa, zsd, zfo, zre, zma, zba, zbe, zev, zac, zwr, zsl, zwy, zim, zke)) (dt (some (.int (b2i false))) (hp nw i0 i1 pd lv pl mt nt (zbk, znw, zth, zta, zwe, zsi, zsg, zsa, zpa, zsd, zfo, zre, zma, zba, zbe, zev, zac, zwr, zsl, zwy, zim, zke))) := by
  refine ret_of_go (L := [_, _, _, _, _]) (by decide) (Nat.le_of_ble_eq_true rfl) rfl ?_
  refine go_iload_n dX9_doesSign_0 rfl ?_
  refine go_if_ne (tgt := 6) dX9_doesSign_1 (by decide) (fun zq => absurd rfl zq) (fun q1 => ?_)
  refine go_iconst (v := 0) dX9_doesSign_4 (by decide) ?_
  refine go_zret dX9_doesSign_5 (by decide) rfl rfl ?_
  exact ⟨rfl, rfl⟩
set_option maxRecDepth 100000 in
set_option maxHeartbeats 4000000 in
theorem rX9_doesSign_a {E : gE} {d : Nat} {nw i0 i1 : WorldS} {pd : PadS} {lv : LivesS} {pl : PlanS} {mt : MatS} {nt : NetS} {zbk znw zta zwe zsg zpa zev zac zwr zim zke : Nat → Int32} {zth zsi zsa zsd zfo zre zma zba zsl zwy : Int32} {zbe : Nat → Int64} {h n q w : Nat} (h10 : h < 10) (hn : n < 9) (hw : w ≤ 9) : Ret E yX9_doesSign cX9_doesSign 5 (some .boolean) (d + 2) 0 0 [.ref 52, .int (nI h), .int (nI (n + 1)), .int (nI q), .int (nI w)] (hp nw i0 i1 pd lv pl mt nt (zbk, znw, zth, zta, zwe, zsi, zsg, zsa, zpa, zsd, zfo, zre, zma, zba, zbe, zev, zac, zwr, zsl, zwy, zim, zke)) (dt (some (.int (b2i (decide (h ≤ w))))) (hp nw i0 i1 pd lv pl mt nt (zbk, znw, zth, zta, zwe, zsi, zsg, zsa, zpa, zsd, zfo, zre, zma, zba, zbe, zev, zac, zwr, zsl, zwy, zim, zke))) := by
  refine ret_of_go (L := [_, _, _, _, _]) (by decide) (Nat.le_of_ble_eq_true rfl) rfl ?_
  refine go_iload_n dX9_doesSign_0 rfl ?_
  refine go_if_ne (tgt := 6) dX9_doesSign_1 (by decide) (fun q1 => ?_) (fun zq => absurd zq (nI_nz9 (by omega)))
  refine go_iload_n dX9_doesSign_6 rfl ?_
  refine go_bipush (v := 10) dX9_doesSign_7 (by decide) ?_
  refine go_icmp_ge (tgt := 26) dX9_doesSign_9 (by decide) (fun zq => absurd zq (nI_ge h10 (by decide))) (fun q9 => ?_)
  refine go_iload dX9_doesSign_12 rfl ?_
  refine go_iload_n dX9_doesSign_14 rfl ?_
  refine go_icmp_lt (tgt := 22) dX9_doesSign_15 (by decide) (fun q15 => ?_) (fun q15 => ?_)
  · refine go_iconst (v := 0) dX9_doesSign_22 (by decide) ?_
    refine go_goto (tgt := 67) dX9_doesSign_23 (by decide) ?_
    refine go_zret dX9_doesSign_67 (by decide) rfl rfl ?_
    exact ⟨by rw [decide_eq_false (by have := (nIlt (by omega) (by omega)).mp q15; omega)]; rfl, rfl⟩
  · refine go_iconst (v := 1) dX9_doesSign_18 (by decide) ?_
    refine go_goto (tgt := 67) dX9_doesSign_19 (by decide) ?_
    refine go_zret dX9_doesSign_67 (by decide) rfl rfl ?_
    exact ⟨by rw [decide_eq_true (Nat.not_lt.mp (fun z => q15 ((nIlt (by omega) (by omega)).mpr z)))]; rfl, rfl⟩
set_option maxRecDepth 100000 in
set_option maxHeartbeats 4000000 in
theorem rX9_doesSign_b {E : gE} {d : Nat} {nw i0 i1 : WorldS} {pd : PadS} {lv : LivesS} {pl : PlanS} {mt : MatS} {nt : NetS} {zbk znw zta zwe zsg zpa zev zac zwr zim zke : Nat → Int32} {zth zsi zsa zsd zfo zre zma zba zsl zwy : Int32} {zbe : Nat → Int64} {n q w : Nat} (hn : n < 9) (hq : q < 8) : Ret E yX9_doesSign cX9_doesSign 5 (some .boolean) (d + 2) 0 0 [.ref 52, .int (nI 10), .int (nI (n + 1)), .int (nI (q + 1)), .int (nI w)] (hp nw i0 i1 pd lv pl mt nt (zbk, znw, zth, zta, zwe, zsi, zsg, zsa, zpa, zsd, zfo, zre, zma, zba, zbe, zev, zac, zwr, zsl, zwy, zim, zke)) (dt (some (.int (b2i (decide ((loR zbe (pwL (wsumF zwe).toInt64 q) (11 * n + q) (11 * (n + 1) + q) 9 1) ≤ nI w))))) (hp nw i0 i1 pd lv pl mt nt (zbk, znw, zth, zta, zwe, zsi, zsg, zsa, zpa, zsd, zfo, zre, zma, zba, zbe, zev, zac, zwr, zsl, zwy, zim, zke))) := by
  refine ret_of_go (L := [_, _, _, _, _]) (by decide) (Nat.le_of_ble_eq_true rfl) rfl ?_
  refine go_iload_n dX9_doesSign_0 rfl ?_
  refine go_if_ne (tgt := 6) dX9_doesSign_1 (by decide) (fun q1 => ?_) (fun zq => absurd zq (nI_nz9 (by omega)))
  refine go_iload_n dX9_doesSign_6 rfl ?_
  refine go_bipush (v := 10) dX9_doesSign_7 (by decide) ?_
  refine go_icmp_ge (tgt := 26) dX9_doesSign_9 (by decide) (fun q9 => ?_) (fun zq => absurd (nI_le (a := 10) (b := 10) (by decide) (by decide)) zq)
  refine go_iload_n dX9_doesSign_26 rfl ?_
  refine go_bipush (v := 10) dX9_doesSign_27 (by decide) ?_
  refine go_icmp_ne (tgt := 51) dX9_doesSign_29 (by decide) (fun zq => absurd rfl zq) (fun q29 => ?_)
  refine go_iload dX9_doesSign_32 rfl ?_
  refine go_aload_n dX9_doesSign_34 rfl ?_
  refine go_iload_n dX9_doesSign_35 rfl ?_
  refine go_iload_n dX9_doesSign_36 rfl ?_
  refine go_cV (as := [_, _]) dX9_doesSign_37 mX9_leastOf kX9_153 iX9_leastOf sX9_leastOf rfl rfl rfl rfl (rX9_leastOf_1 (by omega) (by omega)) rfl rfl rfl ?_
  refine go_icmp_lt (tgt := 47) dX9_doesSign_40 (by decide) (fun q40 => ?_) (fun q40 => ?_)
  · refine go_iconst (v := 0) dX9_doesSign_47 (by decide) ?_
    refine go_goto (tgt := 67) dX9_doesSign_48 (by decide) ?_
    refine go_zret dX9_doesSign_67 (by decide) rfl rfl ?_
    exact ⟨by rw [decide_eq_false (Int32.not_le.mpr q40)]; rfl, rfl⟩
  · refine go_iconst (v := 1) dX9_doesSign_43 (by decide) ?_
    refine go_goto (tgt := 67) dX9_doesSign_44 (by decide) ?_
    refine go_zret dX9_doesSign_67 (by decide) rfl rfl ?_
    exact ⟨by rw [decide_eq_true (Int32.not_lt.mp q40)]; rfl, rfl⟩
set_option maxRecDepth 100000 in
set_option maxHeartbeats 4000000 in
theorem rX9_doesSign_c {E : gE} {d : Nat} {nw i0 i1 : WorldS} {pd : PadS} {lv : LivesS} {pl : PlanS} {mt : MatS} {nt : NetS} {zbk znw zta zwe zsg zpa zev zac zwr zim zke : Nat → Int32} {zth zsi zsa zsd zfo zre zma zba zsl zwy : Int32} {zbe : Nat → Int64} {n q w : Nat} (hn : n < 9) (hq : q ≤ 8) (hw : w ≤ 9) : Ret E yX9_doesSign cX9_doesSign 5 (some .boolean) (d + 2) 0 0 [.ref 52, .int (nI 11), .int (nI (n + 1)), .int (nI q), .int (nI w)] (hp nw i0 i1 pd lv pl mt nt (zbk, znw, zth, zta, zwe, zsi, zsg, zsa, zpa, zsd, zfo, zre, zma, zba, zbe, zev, zac, zwr, zsl, zwy, zim, zke)) (dt (some (.int (b2i (decide (q ≤ n + 1 ∨ 5 ≤ w))))) (hp nw i0 i1 pd lv pl mt nt (zbk, znw, zth, zta, zwe, zsi, zsg, zsa, zpa, zsd, zfo, zre, zma, zba, zbe, zev, zac, zwr, zsl, zwy, zim, zke))) := by
  refine ret_of_go (L := [_, _, _, _, _]) (by decide) (Nat.le_of_ble_eq_true rfl) rfl ?_
  refine go_iload_n dX9_doesSign_0 rfl ?_
  refine go_if_ne (tgt := 6) dX9_doesSign_1 (by decide) (fun q1 => ?_) (fun zq => absurd zq (nI_nz9 (by omega)))
  refine go_iload_n dX9_doesSign_6 rfl ?_
  refine go_bipush (v := 10) dX9_doesSign_7 (by decide) ?_
  refine go_icmp_ge (tgt := 26) dX9_doesSign_9 (by decide) (fun q9 => ?_) (fun zq => absurd (nI_le (a := 10) (b := 11) (by decide) (by decide)) zq)
  refine go_iload_n dX9_doesSign_26 rfl ?_
  refine go_bipush (v := 10) dX9_doesSign_27 (by decide) ?_
  refine go_icmp_ne (tgt := 51) dX9_doesSign_29 (by decide) (fun q29 => ?_) (fun zq => absurd zq (by decide))
  refine go_iload_n dX9_doesSign_51 rfl ?_
  refine go_iload_n dX9_doesSign_52 rfl ?_
  refine go_icmp_ge (tgt := 62) dX9_doesSign_53 (by decide) (fun q53 => ?_) (fun q53 => ?_)
  · refine go_iconst (v := 1) dX9_doesSign_62 (by decide) ?_
    refine go_goto (tgt := 67) dX9_doesSign_63 (by decide) ?_
    refine go_zret dX9_doesSign_67 (by decide) rfl rfl ?_
    exact ⟨by rw [decide_eq_true (Or.inl ((nIle (by omega) (by omega)).mp q53))]; rfl, rfl⟩
  · refine go_iload dX9_doesSign_56 rfl ?_
    refine go_iconst (v := 5) dX9_doesSign_58 (by decide) ?_
    refine go_icmp_lt (tgt := 66) dX9_doesSign_59 (by decide) (fun q59 => ?_) (fun q59 => ?_)
    · refine go_iconst (v := 0) dX9_doesSign_66 (by decide) ?_
      refine go_zret dX9_doesSign_67 (by decide) rfl rfl ?_
      exact ⟨by rw [decide_eq_false (fun z => z.elim (fun z => q53 ((nIle (by omega) (by omega)).mpr z)) (fun z => absurd ((nIlt (b := 5) (by omega) (by decide)).mp q59) (by omega)))]; rfl, rfl⟩
    · refine go_iconst (v := 1) dX9_doesSign_62 (by decide) ?_
      refine go_goto (tgt := 67) dX9_doesSign_63 (by decide) ?_
      refine go_zret dX9_doesSign_67 (by decide) rfl rfl ?_
      exact ⟨by rw [decide_eq_true (Or.inr (Nat.not_lt.mp (fun z => q59 ((nIlt (b := 5) (by omega) (by decide)).mpr z))))]; rfl, rfl⟩
set_option maxRecDepth 100000 in
set_option maxHeartbeats 4000000 in
theorem rX9_doesSign {E : gE} {d : Nat} {nw i0 i1 : WorldS} {pd : PadS} {lv : LivesS} {pl : PlanS} {mt : MatS} {nt : NetS} {zbk znw zta zwe zsg zpa zev zac zwr zim zke : Nat → Int32} {zth zsi zsa zsd zfo zre zma zba zsl zwy : Int32} {zbe : Nat → Int64} {h n q w : Nat} (hh : h < 12) (hn : n ≤ 9) (hq1 : 1 ≤ q) (hq : q ≤ 8) (hw : w ≤ 9) : Ret E yX9_doesSign cX9_doesSign 5 (some .boolean) (d + 2) 0 0 [.ref 52, .int (nI h), .int (nI n), .int (nI q), .int (nI w)] (hp nw i0 i1 pd lv pl mt nt (zbk, znw, zth, zta, zwe, zsi, zsg, zsa, zpa, zsd, zfo, zre, zma, zba, zbe, zev, zac, zwr, zsl, zwy, zim, zke)) (dt (some (.int (b2i (dsB zbe (wsumF zwe).toInt64 h n q w)))) (hp nw i0 i1 pd lv pl mt nt (zbk, znw, zth, zta, zwe, zsi, zsg, zsa, zpa, zsd, zfo, zre, zma, zba, zbe, zev, zac, zwr, zsl, zwy, zim, zke))) := by
  rcases n with _ | n
  · rw [dsB, if_pos rfl]
    exact rX9_doesSign_0
  rw [dsB, if_neg (Nat.succ_ne_zero n)]
  by_cases h10 : h < 10
  · rw [if_pos h10]
    exact rX9_doesSign_a h10 (by omega) hw
  rw [if_neg h10]
  by_cases e10 : h = 10
  · rw [if_pos e10]
    subst e10
    obtain ⟨q, rfl⟩ : ∃ k, q = k + 1 := ⟨q - 1, by omega⟩
    rw [Nat.add_sub_cancel, Nat.add_sub_cancel]
    exact rX9_doesSign_b (by omega) (by omega)
  · obtain rfl : h = 11 := by omega
    rw [if_neg e10]
    exact rX9_doesSign_c (by omega) hq hw
def alR (V : Nat → Int64) (all : Int64) (O : Nat → Nat) (Sg : Nat → Int32) (h : Nat) : Nat → Bool
  | 0 => true
  | i + 1 => alR V all O Sg h i && (dsB V all h (O i / 100) (O i / 10 % 10) (O i % 10) == decide (Sg (4 * i + 3) = 1))
def sgOK (O : Nat → Nat) (Sg : Nat → Int32) (i : Nat) : Prop := offOK (O i) ∧ Sg (4 * i) = nI (O i / 100) ∧ Sg (4 * i + 1) = nI (O i / 10 % 10) ∧ Sg (4 * i + 2) = nI (O i % 10)
theorem al_0 {x : Int32} {a c : Bool} (h : x = b2i a) (z : x = 0) : (0 : Int32) = b2i (a && c) := by
  cases a
  · rfl
  · rw [h] at z; exact absurd z (by decide)
theorem al_t {x : Int32} {a : Bool} (h : x = b2i a) (z : ¬ x = 0) : a = true := by
  cases a
  · exact absurd h z
  · rfl
theorem al_n0 {c : Bool} {y : Int32} (e : ¬ y = 1) (z : ¬ b2i c = 0) : (c == decide (y = 1)) = false := by
  rw [decide_eq_false e]; cases c
  · exact absurd rfl z
  · rfl
theorem al_n1 {c : Bool} {y : Int32} (e : ¬ y = 1) (z : b2i c = 0) : (c == decide (y = 1)) = true := by
  rw [decide_eq_false e]; cases c
  · rfl
  · exact absurd z (by decide)
theorem al_y0 {c : Bool} {y : Int32} (e : y = 1) (z : ¬ b2i c = 1) : (c == decide (y = 1)) = false := by
  rw [decide_eq_true e]; cases c
  · rfl
  · exact absurd rfl z
theorem al_y1 {c : Bool} {y : Int32} (e : y = 1) (z : b2i c = 1) : (c == decide (y = 1)) = true := by
  rw [decide_eq_true e]; cases c
  · exact absurd z (by decide)
  · rfl
set_option maxRecDepth 100000 in
set_option maxHeartbeats 4000000 in
theorem hb_in {E : gE} {d : Nat} {nw i0 i1 : WorldS} {pd : PadS} {lv : LivesS} {pl : PlanS} {mt : MatS} {nt : NetS} {zbk znw zta zwe zsg zpa zev zac zwr zim zke : Nat → Int32} {zth zsa zsd zfo zre zma zba zsl zwy : Int32} {zbe : Nat → Int64} {Q : Option Value → gH → Prop} {O : Nat → Nat} {s : Nat} {h : Nat} {x1 : Int32} (hs8 : s ≤ 8) (hO : ∀ i, i < s → sgOK O zsg i) (hh : h < 12) (kk : ∀ a4 : Option Value, Go E yX9_habits cX9_habits 5 (some .int) (d + 3) 0 0 0 0 103 [some (.ref 52), some (.int x1), some (.int (nI h)), some (.int (b2i (alR zbe (wsumF zwe).toInt64 O zsg  h s))), a4] [] (hp nw i0 i1 pd lv pl mt nt (zbk, znw, zth, zta, zwe, (nI s), zsg, zsa, zpa, zsd, zfo, zre, zma, zba, zbe, zev, zac, zwr, zsl, zwy, zim, zke)) Q) : ∀ (n i : Nat) (x : Int32), i + n = s → x = b2i (alR zbe (wsumF zwe).toInt64 O zsg  h i) → Go E yX9_habits cX9_habits 5 (some .int) (d + 3) 0 0 0 0 19 [some (.ref 52), some (.int x1), some (.int (nI h)), some (.int x), some (.int (nI i))] [] (hp nw i0 i1 pd lv pl mt nt (zbk, znw, zth, zta, zwe, (nI s), zsg, zsa, zpa, zsd, zfo, zre, zma, zba, zbe, zev, zac, zwr, zsl, zwy, zim, zke)) Q
  | 0, i, x, hk, hx => by
    obtain rfl : i = s := by omega
    subst hx
    refine go_iload dX9_habits_19 rfl ?_
    refine go_aload_n dX9_habits_21 rfl ?_
    refine go_get dX9_habits_22 fX9_183 rfl rfl ?_
    refine go_icmp_ge (tgt := 103) dX9_habits_25 (by decide) (fun q25 => ?_) (fun zq => absurd (nI_le (a := i) (b := i) (by omega) (by omega)) zq)
    exact kk _
  | n + 1, i, x, hk, hx => by
    have hi := hO i (by omega)
    refine go_iload dX9_habits_19 rfl ?_
    refine go_aload_n dX9_habits_21 rfl ?_
    refine go_get dX9_habits_22 fX9_183 rfl rfl ?_
    refine go_icmp_ge (tgt := 103) dX9_habits_25 (by decide) (fun zq => absurd zq (nI_ge (a := i) (b := s) (by omega) (by omega))) (fun q25 => ?_)
    refine go_iload_n dX9_habits_28 rfl ?_
    refine go_if_eq (tgt := 95) dX9_habits_29 (by decide) (fun q29 => ?_) (fun q29 => ?_)
    · refine go_iconst (v := 0) dX9_habits_95 (by decide) ?_
      refine go_istore_n (L' := [_, _, _, _, _]) dX9_habits_96 rfl rfl rfl ?_
      refine go_iinc (v := nI (i + 1)) (L' := [_, _, _, _, _]) dX9_habits_97 rfl (nI_1 i) rfl rfl rfl ?_
      refine go_goto (tgt := 19) dX9_habits_100 (by decide) ?_
      exact hb_in hs8 hO hh kk n (i + 1) _ (by omega) (by rw [alR]; exact al_0 hx q29)
    · refine go_aload_n dX9_habits_32 rfl ?_
      refine go_iload_n dX9_habits_33 rfl ?_
      refine go_aload_n dX9_habits_34 rfl ?_
      refine go_get dX9_habits_35 fX9_22 rfl rfl ?_
      refine go_iconst (v := 4) dX9_habits_38 (by decide) ?_
      refine go_iload dX9_habits_39 rfl ?_
      refine go_imul dX9_habits_41 ?_
      refine go_topi_eq (n4 i) ?_
      refine go_ialdN (4 * i) dX9_habits_42 rfl (by omega) rfl ?_
      refine go_topi_eq (x := nI (O i / 100)) hi.2.1 ?_
      refine go_aload_n dX9_habits_43 rfl ?_
      refine go_get dX9_habits_44 fX9_22 rfl rfl ?_
      refine go_iconst (v := 4) dX9_habits_47 (by decide) ?_
      refine go_iload dX9_habits_48 rfl ?_
      refine go_imul dX9_habits_50 ?_
      refine go_topi_eq (n4 i) ?_
      refine go_iconst (v := 1) dX9_habits_51 (by decide) ?_
      refine go_iadd dX9_habits_52 ?_
      refine go_topi_eq (n4k i 1) ?_
      refine go_ialdN (4 * i + 1) dX9_habits_53 rfl (by omega) rfl ?_
      refine go_topi_eq (x := nI (O i / 10 % 10)) hi.2.2.1 ?_
      refine go_aload_n dX9_habits_54 rfl ?_
      refine go_get dX9_habits_55 fX9_22 rfl rfl ?_
      refine go_iconst (v := 4) dX9_habits_58 (by decide) ?_
      refine go_iload dX9_habits_59 rfl ?_
      refine go_imul dX9_habits_61 ?_
      refine go_topi_eq (n4 i) ?_
      refine go_iconst (v := 2) dX9_habits_62 (by decide) ?_
      refine go_iadd dX9_habits_63 ?_
      refine go_topi_eq (n4k i 2) ?_
      refine go_ialdN (4 * i + 2) dX9_habits_64 rfl (by omega) rfl ?_
      refine go_topi_eq (x := nI (O i % 10)) hi.2.2.2 ?_
      refine go_cV (as := [_, _, _, _]) dX9_habits_65 mX9_doesSign kX9_186 iX9_doesSign sX9_doesSign rfl rfl rfl rfl (rX9_doesSign (h := h) (n := O i / 100) (q := O i / 10 % 10) (w := O i % 10) hh hi.1.1 hi.1.2.1 hi.1.2.2.1 (by omega)) rfl rfl rfl ?_
      refine go_aload_n dX9_habits_68 rfl ?_
      refine go_get dX9_habits_69 fX9_22 rfl rfl ?_
      refine go_iconst (v := 4) dX9_habits_72 (by decide) ?_
      refine go_iload dX9_habits_73 rfl ?_
      refine go_imul dX9_habits_75 ?_
      refine go_topi_eq (n4 i) ?_
      refine go_iconst (v := 3) dX9_habits_76 (by decide) ?_
      refine go_iadd dX9_habits_77 ?_
      refine go_topi_eq (n4k i 3) ?_
      refine go_ialdN (4 * i + 3) dX9_habits_78 rfl (by omega) rfl ?_
      refine go_iconst (v := 1) dX9_habits_79 (by decide) ?_
      refine go_icmp_ne (tgt := 87) dX9_habits_80 (by decide) (fun q80 => ?_) (fun q80 => ?_)
      · refine go_iconst (v := 0) dX9_habits_87 (by decide) ?_
        refine go_icmp_ne (tgt := 95) dX9_habits_88 (by decide) (fun q88 => ?_) (fun q88 => ?_)
        · refine go_iconst (v := 0) dX9_habits_95 (by decide) ?_
          refine go_istore_n (L' := [_, _, _, _, _]) dX9_habits_96 rfl rfl rfl ?_
          refine go_iinc (v := nI (i + 1)) (L' := [_, _, _, _, _]) dX9_habits_97 rfl (nI_1 i) rfl rfl rfl ?_
          refine go_goto (tgt := 19) dX9_habits_100 (by decide) ?_
          exact hb_in hs8 hO hh kk n (i + 1) _ (by omega) (by rw [alR]; rw [al_t hx q29, al_n0 q80 q88]; rfl)
        · refine go_iconst (v := 1) dX9_habits_91 (by decide) ?_
          refine go_goto (tgt := 96) dX9_habits_92 (by decide) ?_
          refine go_istore_n (L' := [_, _, _, _, _]) dX9_habits_96 rfl rfl rfl ?_
          refine go_iinc (v := nI (i + 1)) (L' := [_, _, _, _, _]) dX9_habits_97 rfl (nI_1 i) rfl rfl rfl ?_
          refine go_goto (tgt := 19) dX9_habits_100 (by decide) ?_
          exact hb_in hs8 hO hh kk n (i + 1) _ (by omega) (by rw [alR]; rw [al_t hx q29, al_n1 q80 q88]; rfl)
      · refine go_iconst (v := 1) dX9_habits_83 (by decide) ?_
        refine go_goto (tgt := 88) dX9_habits_84 (by decide) ?_
        refine go_icmp_ne (tgt := 95) dX9_habits_88 (by decide) (fun q88 => ?_) (fun q88 => ?_)
        · refine go_iconst (v := 0) dX9_habits_95 (by decide) ?_
          refine go_istore_n (L' := [_, _, _, _, _]) dX9_habits_96 rfl rfl rfl ?_
          refine go_iinc (v := nI (i + 1)) (L' := [_, _, _, _, _]) dX9_habits_97 rfl (nI_1 i) rfl rfl rfl ?_
          refine go_goto (tgt := 19) dX9_habits_100 (by decide) ?_
          exact hb_in hs8 hO hh kk n (i + 1) _ (by omega) (by rw [alR]; rw [al_t hx q29, al_y0 q80 q88]; rfl)
        · refine go_iconst (v := 1) dX9_habits_91 (by decide) ?_
          refine go_goto (tgt := 96) dX9_habits_92 (by decide) ?_
          refine go_istore_n (L' := [_, _, _, _, _]) dX9_habits_96 rfl rfl rfl ?_
          refine go_iinc (v := nI (i + 1)) (L' := [_, _, _, _, _]) dX9_habits_97 rfl (nI_1 i) rfl rfl rfl ?_
          refine go_goto (tgt := 19) dX9_habits_100 (by decide) ?_
          exact hb_in hs8 hO hh kk n (i + 1) _ (by omega) (by rw [alR]; rw [al_t hx q29, al_y1 q80 q88]; rfl)
set_option maxRecDepth 100000 in
set_option maxHeartbeats 4000000 in
theorem hb_o {E : gE} {d : Nat} {nw i0 i1 : WorldS} {pd : PadS} {lv : LivesS} {pl : PlanS} {mt : MatS} {nt : NetS} {zbk znw zta zwe zsg zpa zev zac zwr zim zke : Nat → Int32} {zth zsa zsd zfo zre zma zba zsl zwy : Int32} {zbe : Nat → Int64} {Q : Option Value → gH → Prop} {O : Nat → Nat} {s : Nat} (hs8 : s ≤ 8) (hO : ∀ i, i < s → sgOK O zsg i) (kk : Q (some (.int (orB (fun h => alR zbe (wsumF zwe).toInt64 O zsg  h s) 12))) (hp nw i0 i1 pd lv pl mt nt (zbk, znw, zth, zta, zwe, (nI s), zsg, zsa, zpa, zsd, zfo, zre, zma, zba, zbe, zev, zac, zwr, zsl, zwy, zim, zke))) : ∀ (n h : Nat) (x1 : Int32) (a3 a4 : Option Value), h + n = 12 → x1 = orB (fun h => alR zbe (wsumF zwe).toInt64 O zsg  h s) h → Go E yX9_habits cX9_habits 5 (some .int) (d + 3) 0 0 0 0 8 [some (.ref 52), some (.int x1), some (.int (nI h)), a3, a4] [] (hp nw i0 i1 pd lv pl mt nt (zbk, znw, zth, zta, zwe, (nI s), zsg, zsa, zpa, zsd, zfo, zre, zma, zba, zbe, zev, zac, zwr, zsl, zwy, zim, zke)) Q
  | 0, h, x1, a3, a4, hk, hx => by
    obtain rfl : h = 12 := by omega
    subst hx
    refine go_iload_n dX9_habits_8 rfl ?_
    refine go_bipush (v := 12) dX9_habits_9 (by decide) ?_
    refine go_icmp_ge (tgt := 123) dX9_habits_11 (by decide) (fun q11 => ?_) (fun zq => absurd (nI_le (a := 12) (b := 12) (by decide) (by decide)) zq)
    refine go_iload_n dX9_habits_123 rfl ?_
    refine go_iret dX9_habits_124 rfl rfl ?_
    exact kk
  | n + 1, h, x1, a3, a4, hk, hx => by
    refine go_iload_n dX9_habits_8 rfl ?_
    refine go_bipush (v := 12) dX9_habits_9 (by decide) ?_
    refine go_icmp_ge (tgt := 123) dX9_habits_11 (by decide) (fun zq => absurd zq (nI_ge (a := h) (b := 12) (by omega) (by decide))) (fun q11 => ?_)
    refine go_iconst (v := 1) dX9_habits_14 (by decide) ?_
    refine go_istore_n (L' := [_, _, _, _, _]) dX9_habits_15 rfl rfl rfl ?_
    refine go_iconst (v := 0) dX9_habits_16 (by decide) ?_
    refine go_istore (L' := [_, _, _, _, _]) dX9_habits_17 rfl rfl rfl ?_
    refine hb_in hs8 hO (by omega) (fun b4 => ?_) s 0 1 (by omega) rfl
    refine go_iload_n dX9_habits_103 rfl ?_
    refine go_iload_n dX9_habits_104 rfl ?_
    refine go_bif_eq (tgt := 114) dX9_habits_105 (by decide) (fun q105 => ?_) (fun q105 => ?_)
    · refine go_iconst (v := 0) dX9_habits_114 (by decide) ?_
      refine go_ior dX9_habits_115 ?_
      refine go_istore_n (L' := [_, _, _, _, _]) dX9_habits_116 rfl rfl rfl ?_
      refine go_iinc (v := nI (h + 1)) (L' := [_, _, _, _, _]) dX9_habits_117 rfl (nI_1 h) rfl rfl rfl ?_
      refine go_goto (tgt := 8) dX9_habits_120 (by decide) ?_
      exact hb_o hs8 hO kk n (h + 1) _ _ _ (by omega) (by rw [hx, or0, orB, if_neg (by rw [q105]; decide)])
    · refine go_iconst (v := 1) dX9_habits_108 (by decide) ?_
      refine go_iload_n dX9_habits_109 rfl ?_
      refine go_ishl dX9_habits_110 ?_
      refine go_goto (tgt := 115) dX9_habits_111 (by decide) ?_
      refine go_ior dX9_habits_115 ?_
      refine go_istore_n (L' := [_, _, _, _, _]) dX9_habits_116 rfl rfl rfl ?_
      refine go_iinc (v := nI (h + 1)) (L' := [_, _, _, _, _]) dX9_habits_117 rfl (nI_1 h) rfl rfl rfl ?_
      refine go_goto (tgt := 8) dX9_habits_120 (by decide) ?_
      exact hb_o hs8 hO kk n (h + 1) _ _ _ (by omega) (by rw [hx, orB, if_pos q105])
set_option maxRecDepth 100000 in
set_option maxHeartbeats 4000000 in
theorem rX9_habits {E : gE} {d : Nat} {nw i0 i1 : WorldS} {pd : PadS} {lv : LivesS} {pl : PlanS} {mt : MatS} {nt : NetS} {zbk znw zta zwe zsg zpa zev zac zwr zim zke : Nat → Int32} {zth zsa zsd zfo zre zma zba zsl zwy : Int32} {zbe : Nat → Int64} {O : Nat → Nat} {s : Nat} (hs8 : s ≤ 8) (hO : ∀ i, i < s → sgOK O zsg i) : Ret E yX9_habits cX9_habits 5 (some .int) (d + 3) 0 0 [.ref 52] (hp nw i0 i1 pd lv pl mt nt (zbk, znw, zth, zta, zwe, (nI s), zsg, zsa, zpa, zsd, zfo, zre, zma, zba, zbe, zev, zac, zwr, zsl, zwy, zim, zke)) (dt (some (.int (orB (fun h => alR (lbM zwe (wsumF zwe).toInt64 zbe 8) (wsumF zwe).toInt64 O zsg h s) 12))) (hp nw i0 i1 pd lv pl mt nt (zbk, znw, zth, zta, zwe, (nI s), zsg, zsa, zpa, zsd, zfo, zre, zma, zba, (lbM zwe (wsumF zwe).toInt64 zbe 8), zev, zac, zwr, zsl, zwy, zim, zke))) := by
  refine ret_of_go (L := [_, _, _, _, _]) (by decide) (Nat.le_of_ble_eq_true rfl) rfl ?_
  refine go_aload_n dX9_habits_0 rfl ?_
  refine go_cVv (as := []) dX9_habits_1 mX9_layBest kX9_146 iX9_layBest sX9_layBest rfl rfl rfl rfl (rX9_layBest (m := (zbk, znw, zth, zta, zwe, (nI s), zsg, zsa, zpa, zsd, zfo, zre, zma, zba, zbe, zev, zac, zwr, zsl, zwy, zim, zke))) rfl rfl rfl ?_
  refine go_iconst (v := 0) dX9_habits_4 (by decide) ?_
  refine go_istore_n (L' := [_, _, _, _, _]) dX9_habits_5 rfl rfl rfl ?_
  refine go_iconst (v := 0) dX9_habits_6 (by decide) ?_
  refine go_istore_n (L' := [_, _, _, _, _]) dX9_habits_7 rfl rfl rfl ?_
  refine hb_o hs8 hO ⟨rfl, rfl⟩ 12 0 0 _ _ rfl rfl
set_option maxRecDepth 100000 in
set_option maxHeartbeats 4000000 in
theorem rX9_signs_1 {E : gE} {d : Nat} {nw i0 i1 : WorldS} {pd : PadS} {lv : LivesS} {pl : PlanS} {mt : MatS} {nt : NetS} {zbk znw zta zwe zsg zpa zev zac zwr zim zke : Nat → Int32} {zth zsa zsd zfo zre zma zba zsl zwy : Int32} {zbe : Nat → Int64} {O : Nat → Nat} {s : Nat} (hs8 : s ≤ 8) (hO : ∀ i, i < s → sgOK O zsg i) : Ret E yX9_signs cX9_signs 1 (some .int) (d + 4) 0 0 [.ref 52] (hp nw i0 i1 pd lv pl mt nt (zbk, znw, zth, zta, zwe, (nI s), zsg, zsa, zpa, zsd, zfo, zre, zma, zba, zbe, zev, zac, zwr, zsl, zwy, zim, zke)) (dt (some (.int (orB (fun h => alR (lbM zwe (wsumF zwe).toInt64 zbe 8) (wsumF zwe).toInt64 O zsg h s) 12))) (hp nw i0 i1 pd lv pl mt nt (zbk, znw, zth, zta, zwe, (nI s), zsg, zsa, zpa, zsd, zfo, zre, zma, zba, (lbM zwe (wsumF zwe).toInt64 zbe 8), zev, zac, zwr, zsl, zwy, zim, zke))) := by
  refine ret_of_go (L := [_]) (by decide) (Nat.le_of_ble_eq_true rfl) rfl ?_
  refine go_aload_n dX9_signs_0 rfl ?_
  refine go_cV (as := []) dX9_signs_1 mX9_habits kX9_190 iX9_habits sX9_habits rfl rfl rfl rfl (rX9_habits hs8 hO) rfl rfl rfl ?_
  refine go_iret dX9_signs_4 rfl rfl ?_
  exact ⟨rfl, rfl⟩
