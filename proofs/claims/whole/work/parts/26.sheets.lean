def pwL (b : Int64) : Nat → Int64
  | 0 => 1
  | n + 1 => pwL b n * b
/-- sum and choices ahead of the hit h -/
def wyR (q t : Nat) : Nat → Int64 × Int64
  | 0 => (0, 1)
  | h + 1 => ((wyR q t h).1 + (wyR q t h).2 * pwL (nI t).toInt64 h * pwL (nI (10 - t)).toInt64 (q - h), (wyR q t h).2 * (nI (q - h)).toInt64 / (nI (h + 1)).toInt64)
def cdR : Nat → Int64 → Int64 → Int64
  | 0, a, _ => a
  | n + 1, a, b => if b = 0 then a else cdR n b (a - a / b * b)
def cdF (a b : Int64) : Int64 := mxL 1 (cdR 100 a b)
def frF (u l : Int64) (part : Int32) : Int64 := if part = 0 then u / cdF u l else l / cdF u l
theorem cd_ne (a b : Int64) : ¬ cdF a b = 0 := by
  unfold cdF mxL
  split
  · decide
  · next h =>
    intro h2
    rw [h2] at h
    exact h (by decide)
theorem lg_0 {x y : Int64} : lg_cmp x y = 0 ↔ x = y := by
  unfold lg_cmp
  split
  · next h =>
    constructor
    · intro h2
      exact absurd h2 (by decide)
    · intro h2
      rw [h2] at h
      exact absurd h (Int64.lt_irrefl)
  · split
    · next h => exact ⟨fun _ => h, fun _ => rfl⟩
    · next h => exact ⟨fun h2 => absurd h2 (by decide), fun h2 => absurd h2 h⟩
theorem i64_ne0 {k : Nat} (h : k < 1000) : ¬ (nI (k + 1)).toInt64 = 0 := by
  rw [nI_l (by omega)]
  intro h2
  have := (lN_eq (a := k + 1) (b := 0) (by omega) (by omega)).mp h2
  omega
set_option maxRecDepth 100000 in
set_option maxHeartbeats 4000000 in
theorem rX8_power {E : gE} {d : Nat} {b : Int32} {n : Nat} {h : gH} (hn : n ≤ 1000) : Ret E yX8_power cX8_power 5 (some .long) d 0 0 [.int b, .int (nI n)] h (dt (some (.long (pwL b.toInt64 n))) h) := by
  refine ret_of_go (L := [_, _, _, _, _]) (by decide) (Nat.le_of_ble_eq_true rfl) rfl ?_
  have key : ∀ (j k : Nat) (acc : Int64), k + j = n → acc = pwL b.toInt64 k → Go E yX8_power cX8_power 5 (some .long) d 0 0 0 0 5 [some (.int b), some (.int (nI n)), some (.long acc), none, some (.int (nI k))] [] h (dt (some (.long (pwL b.toInt64 n))) h) := by
    intro j
    induction j with
    | zero =>
      intro k acc hk ha
      obtain rfl : k = n := by omega
      refine go_iload dX8_power_5 rfl ?_
      refine go_iload_n dX8_power_7 rfl ?_
      refine go_icmp_ge (tgt := 22) dX8_power_8 (by decide) (fun q8 => ?_) (fun zq => absurd (nI_le (Nat.le_refl _) (by omega)) zq)
      refine go_lload_n dX8_power_22 rfl ?_
      refine go_lret dX8_power_23 rfl rfl ?_
      exact ⟨by rw [ha], rfl⟩
    | succ j ih =>
      intro k acc hk ha
      refine go_iload dX8_power_5 rfl ?_
      refine go_iload_n dX8_power_7 rfl ?_
      refine go_icmp_ge (tgt := 22) dX8_power_8 (by decide) (fun zq => absurd zq (nI_ge (a := k) (b := n) (by omega) (by omega))) (fun q8 => ?_)
      refine go_lload_n dX8_power_11 rfl ?_
      refine go_iload_n dX8_power_12 rfl ?_
      refine go_i2l dX8_power_13 ?_
      refine go_lmul dX8_power_14 ?_
      refine go_lstore_n (L' := [_, _, _, _, _]) dX8_power_15 rfl rfl rfl ?_
      refine go_iinc (v := nI (k + 1)) (L' := [_, _, _, _, _]) dX8_power_16 rfl (nI_1 k) rfl rfl rfl ?_
      refine go_goto (tgt := 5) dX8_power_19 (by decide) ?_
      exact ih (k + 1) _ (by omega) (by rw [ha]; rfl)
  refine go_lconst (v := 1) dX8_power_0 (by decide) ?_
  refine go_lstore_n (L' := [_, _, _, _, _]) dX8_power_1 rfl rfl rfl ?_
  refine go_iconst (v := 0) dX8_power_2 (by decide) ?_
  refine go_istore (L' := [_, _, _, _, _]) dX8_power_3 rfl rfl rfl ?_
  exact key n 0 1 (by omega) rfl
set_option maxRecDepth 100000 in
set_option maxHeartbeats 4000000 in
theorem rX8_waysOfAtMost {E : gE} {d : Nat} {a q t : Nat} {h : gH} (ha : a ≤ 400) (hq : q ≤ 9) (ht : t ≤ 10) : Ret E yX8_waysOfAtMost cX8_waysOfAtMost 8 (some .long) (d + 1) 0 0 [.int (nI a), .int (nI q), .int (nI t)] h (dt (some (.long (wyR q t (min a q + 1)).1)) h) := by
  refine ret_of_go (L := [_, _, _, _, _, _, _, _]) (by decide) (Nat.le_of_ble_eq_true rfl) rfl ?_
  have key : ∀ (j k : Nat), k + j = min a q + 1 → Go E yX8_waysOfAtMost cX8_waysOfAtMost 8 (some .long) (d + 1) 0 0 0 0 8 [some (.int (nI a)), some (.int (nI q)), some (.int (nI t)), some (.long (wyR q t k).1), none, some (.long (wyR q t k).2), none, some (.int (nI k))] [] h (dt (some (.long (wyR q t (min a q + 1)).1)) h) := by
    intro j
    induction j with
    | zero =>
      intro k hk
      obtain rfl : k = min a q + 1 := by omega
      by_cases h9 : q < min a q + 1
      · refine go_iload dX8_waysOfAtMost_8 rfl ?_
        refine go_iload_n dX8_waysOfAtMost_10 rfl ?_
        refine go_icmp_gt (tgt := 66) dX8_waysOfAtMost_11 (by decide) (fun q11 => ?_) (fun zq => absurd (nI_lt h9 (by omega)) zq)
        refine go_lload_n dX8_waysOfAtMost_66 rfl ?_
        refine go_lret dX8_waysOfAtMost_67 rfl rfl ?_
        exact ⟨rfl, rfl⟩
      · refine go_iload dX8_waysOfAtMost_8 rfl ?_
        refine go_iload_n dX8_waysOfAtMost_10 rfl ?_
        refine go_icmp_gt (tgt := 66) dX8_waysOfAtMost_11 (by decide) (fun zq => absurd zq (nI_nlt (Nat.not_lt.mp h9) (by omega))) (fun q11 => ?_)
        refine go_iload dX8_waysOfAtMost_14 rfl ?_
        refine go_iload_n dX8_waysOfAtMost_16 rfl ?_
        refine go_icmp_gt (tgt := 66) dX8_waysOfAtMost_17 (by decide) (fun q17 => ?_) (fun zq => absurd (nI_lt (a := a) (b := min a q + 1) (by omega) (by omega)) zq)
        refine go_lload_n dX8_waysOfAtMost_66 rfl ?_
        refine go_lret dX8_waysOfAtMost_67 rfl rfl ?_
        exact ⟨rfl, rfl⟩
    | succ j ih =>
      intro k hk
      refine go_iload dX8_waysOfAtMost_8 rfl ?_
      refine go_iload_n dX8_waysOfAtMost_10 rfl ?_
      refine go_icmp_gt (tgt := 66) dX8_waysOfAtMost_11 (by decide) (fun zq => absurd zq (nI_nlt (a := q) (b := k) (by omega) (by omega))) (fun q11 => ?_)
      refine go_iload dX8_waysOfAtMost_14 rfl ?_
      refine go_iload_n dX8_waysOfAtMost_16 rfl ?_
      refine go_icmp_gt (tgt := 66) dX8_waysOfAtMost_17 (by decide) (fun zq => absurd zq (nI_nlt (a := a) (b := k) (by omega) (by omega))) (fun q17 => ?_)
      refine go_lload_n dX8_waysOfAtMost_20 rfl ?_
      refine go_lload dX8_waysOfAtMost_21 rfl ?_
      refine go_iload_n dX8_waysOfAtMost_23 rfl ?_
      refine go_iload dX8_waysOfAtMost_24 rfl ?_
      refine go_cS (as := [_, _]) dX8_waysOfAtMost_26 mX8_power kX8_172 tX8_power rfl rfl (rX8_power (n := k) (by omega)) rfl rfl rfl ?_
      refine go_lmul dX8_waysOfAtMost_29 ?_
      refine go_bipush (v := 10) dX8_waysOfAtMost_30 (by decide) ?_
      refine go_iload_n dX8_waysOfAtMost_32 rfl ?_
      refine go_isub dX8_waysOfAtMost_33 ?_
      refine go_topi_eq (x := nI (10 - t)) (pk_sub (a := 10) ht) ?_
      refine go_iload_n dX8_waysOfAtMost_34 rfl ?_
      refine go_iload dX8_waysOfAtMost_35 rfl ?_
      refine go_isub dX8_waysOfAtMost_37 ?_
      refine go_topi_eq (pk_sub (by omega)) ?_
      refine go_cS (as := [_, _]) dX8_waysOfAtMost_38 mX8_power kX8_172 tX8_power rfl rfl (rX8_power (n := q - k) (by omega)) rfl rfl rfl ?_
      refine go_lmul dX8_waysOfAtMost_41 ?_
      refine go_ladd dX8_waysOfAtMost_42 ?_
      refine go_lstore_n (L' := [_, _, _, _, _, _, _, _]) dX8_waysOfAtMost_43 rfl rfl rfl ?_
      refine go_lload dX8_waysOfAtMost_44 rfl ?_
      refine go_iload_n dX8_waysOfAtMost_46 rfl ?_
      refine go_iload dX8_waysOfAtMost_47 rfl ?_
      refine go_isub dX8_waysOfAtMost_49 ?_
      refine go_topi_eq (pk_sub (by omega)) ?_
      refine go_i2l dX8_waysOfAtMost_50 ?_
      refine go_lmul dX8_waysOfAtMost_51 ?_
      refine go_iload dX8_waysOfAtMost_52 rfl ?_
      refine go_iconst (v := 1) dX8_waysOfAtMost_54 (by decide) ?_
      refine go_iadd dX8_waysOfAtMost_55 ?_
      refine go_topi_eq (nI_1 k) ?_
      refine go_i2l dX8_waysOfAtMost_56 ?_
      refine go_ldiv dX8_waysOfAtMost_57 (i64_ne0 (by omega)) ?_
      refine go_lstore (L' := [_, _, _, _, _, _, _, _]) dX8_waysOfAtMost_58 rfl rfl rfl ?_
      refine go_iinc (v := nI (k + 1)) (L' := [_, _, _, _, _, _, _, _]) dX8_waysOfAtMost_60 rfl (nI_1 k) rfl rfl rfl ?_
      refine go_goto (tgt := 8) dX8_waysOfAtMost_63 (by decide) ?_
      exact ih (k + 1) (by omega)
  refine go_lconst (v := 0) dX8_waysOfAtMost_0 (by decide) ?_
  refine go_lstore_n (L' := [_, _, _, _, _, _, _, _]) dX8_waysOfAtMost_1 rfl rfl rfl ?_
  refine go_lconst (v := 1) dX8_waysOfAtMost_2 (by decide) ?_
  refine go_lstore (L' := [_, _, _, _, _, _, _, _]) dX8_waysOfAtMost_3 rfl rfl rfl ?_
  refine go_iconst (v := 0) dX8_waysOfAtMost_5 (by decide) ?_
  refine go_istore (L' := [_, _, _, _, _, _, _, _]) dX8_waysOfAtMost_6 rfl rfl rfl ?_
  exact key (min a q + 1) 0 (by omega)
set_option maxRecDepth 100000 in
set_option maxHeartbeats 4000000 in
theorem rX8_commonDivisor {E : gE} {d : Nat} {a b : Int64} {h : gH} : Ret E yX8_commonDivisor cX8_commonDivisor 7 (some .long) (d + 1) 0 0 [.long a, .long b] h (dt (some (.long (cdF a b))) h) := by
  refine ret_of_go (L := [_, _, _, _, _, _, _]) (by decide) (Nat.le_of_ble_eq_true rfl) rfl ?_
  have key : ∀ (n k : Nat) (x z : Int64) (a5 a6 : Option Value), k + n = 100 → cdR n x z = cdR 100 a b → Go E yX8_commonDivisor cX8_commonDivisor 7 (some .long) (d + 1) 0 0 0 0 3 [some (.long x), none, some (.long z), none, some (.int (nI k)), a5, a6] [] h (dt (some (.long (cdF a b))) h) := by
    intro n
    induction n with
    | zero =>
      intro k x z a5 a6 hk hf
      obtain rfl : k = 100 := by omega
      refine go_iload dX8_commonDivisor_3 rfl ?_
      refine go_bipush (v := 100) dX8_commonDivisor_5 (by decide) ?_
      refine go_icmp_ge (tgt := 32) dX8_commonDivisor_7 (by decide) (fun q7 => ?_) (fun zq => absurd (nI_le (a := 100) (b := 100) (by decide) (by decide)) zq)
      refine go_lconst (v := 1) dX8_commonDivisor_32 (by decide) ?_
      refine go_lload_n dX8_commonDivisor_33 rfl ?_
      refine go_mmaxl dX8_commonDivisor_34 mkX8_266 rfl rfl rfl ?_
      refine go_lret dX8_commonDivisor_37 rfl rfl ?_
      exact ⟨by rw [cdF, ← hf]; rfl, rfl⟩
    | succ n ih =>
      intro k x z a5 a6 hk hf
      rw [cdR] at hf
      refine go_iload dX8_commonDivisor_3 rfl ?_
      refine go_bipush (v := 100) dX8_commonDivisor_5 (by decide) ?_
      refine go_icmp_ge (tgt := 32) dX8_commonDivisor_7 (by decide) (fun zq => absurd zq (nI_ge (a := k) (b := 100) (by omega) (by decide))) (fun q7 => ?_)
      refine go_lload_n dX8_commonDivisor_10 rfl ?_
      refine go_lconst (v := 0) dX8_commonDivisor_11 (by decide) ?_
      refine go_lcmp dX8_commonDivisor_12 ?_
      refine go_if_eq (tgt := 32) dX8_commonDivisor_13 (by decide) (fun q13 => ?_) (fun q13 => ?_)
      · refine go_lconst (v := 1) dX8_commonDivisor_32 (by decide) ?_
        refine go_lload_n dX8_commonDivisor_33 rfl ?_
        refine go_mmaxl dX8_commonDivisor_34 mkX8_266 rfl rfl rfl ?_
        refine go_lret dX8_commonDivisor_37 rfl rfl ?_
        exact ⟨by rw [cdF, ← hf, if_pos (lg_0.mp q13)], rfl⟩
      · refine go_lload_n dX8_commonDivisor_16 rfl ?_
        refine go_lload_n dX8_commonDivisor_17 rfl ?_
        refine go_lrem dX8_commonDivisor_18 (fun h9 => q13 (lg_0.mpr h9)) ?_
        refine go_lstore (L' := [_, _, _, _, _, _, _]) dX8_commonDivisor_19 rfl rfl rfl ?_
        refine go_lload_n dX8_commonDivisor_21 rfl ?_
        refine go_lstore_n (L' := [_, _, _, _, _, _, _]) dX8_commonDivisor_22 rfl rfl rfl ?_
        refine go_lload dX8_commonDivisor_23 rfl ?_
        refine go_lstore_n (L' := [_, _, _, _, _, _, _]) dX8_commonDivisor_25 rfl rfl rfl ?_
        refine go_iinc (v := nI (k + 1)) (L' := [_, _, _, _, _, _, _]) dX8_commonDivisor_26 rfl (nI_1 k) rfl rfl rfl ?_
        refine go_goto (tgt := 3) dX8_commonDivisor_29 (by decide) ?_
        exact ih (k + 1) _ _ _ _ (by omega) (by rw [← hf, if_neg (fun h9 => q13 (lg_0.mpr h9))])
  refine go_iconst (v := 0) dX8_commonDivisor_0 (by decide) ?_
  refine go_istore (L' := [_, _, _, _, _, _, _]) dX8_commonDivisor_1 rfl rfl rfl ?_
  exact key 100 0 a b _ _ rfl rfl
set_option maxRecDepth 100000 in
set_option maxHeartbeats 4000000 in
theorem rX8_fractionPart {E : gE} {d : Nat} {u l : Int64} {part : Int32} {h : gH} : Ret E yX8_fractionPart cX8_fractionPart 7 (some .long) (d + 2) 0 0 [.long u, .long l, .int part] h (dt (some (.long (frF u l part))) h) := by
  refine ret_of_go (L := [_, _, _, _, _, _, _]) (by decide) (Nat.le_of_ble_eq_true rfl) rfl ?_
  refine go_lload_n dX8_fractionPart_0 rfl ?_
  refine go_lload_n dX8_fractionPart_1 rfl ?_
  refine go_cS (as := [_, _]) dX8_fractionPart_2 mX8_commonDivisor kX8_262 tX8_commonDivisor rfl rfl (rX8_commonDivisor) rfl rfl rfl ?_
  refine go_lstore (L' := [_, _, _, _, _, _, _]) dX8_fractionPart_5 rfl rfl rfl ?_
  refine go_iload dX8_fractionPart_7 rfl ?_
  refine go_if_ne (tgt := 19) dX8_fractionPart_9 (by decide) (fun q9 => ?_) (fun q9 => ?_)
  · refine go_lload_n dX8_fractionPart_19 rfl ?_
    refine go_lload dX8_fractionPart_20 rfl ?_
    refine go_ldiv dX8_fractionPart_22 (cd_ne _ _) ?_
    refine go_lret dX8_fractionPart_23 rfl rfl ?_
    exact ⟨by first | (rw [frF, if_pos q9]; done) | (rw [frF, if_neg q9]; done), rfl⟩
  · refine go_lload_n dX8_fractionPart_12 rfl ?_
    refine go_lload dX8_fractionPart_13 rfl ?_
    refine go_ldiv dX8_fractionPart_15 (cd_ne _ _) ?_
    refine go_goto (tgt := 23) dX8_fractionPart_16 (by decide) ?_
    refine go_lret dX8_fractionPart_23 rfl rfl ?_
    exact ⟨by first | (rw [frF, if_pos q9]; done) | (rw [frF, if_neg q9]; done), rfl⟩
set_option maxRecDepth 100000 in
set_option maxHeartbeats 4000000 in
theorem rX8_isPlan {E : gE} {d : Nat} {n q : Int32} {h : gH} : Ret E yX8_isPlan cX8_isPlan 2 (some .boolean) (d + 1) 0 0 [.int n, .int q] h (dt (some (.int (b2i (isInB n 0 9 && isInB q 0 8)))) h) := by
  refine ret_of_go (L := [_, _]) (by decide) (Nat.le_of_ble_eq_true rfl) rfl ?_
  refine go_iload_n dX8_isPlan_0 rfl ?_
  refine go_iconst (v := 0) dX8_isPlan_1 (by decide) ?_
  refine go_bipush (v := 9) dX8_isPlan_2 (by decide) ?_
  refine go_cS (as := [_, _, _]) dX8_isPlan_4 mX8_isIn kX8_55 tX8_isIn rfl rfl (rX8_isIn) rfl rfl rfl ?_
  refine go_bif_eq (tgt := 24) dX8_isPlan_7 (by decide) (fun q7 => ?_) (fun q7 => ?_)
  · refine go_iconst (v := 0) dX8_isPlan_24 (by decide) ?_
    refine go_zret dX8_isPlan_25 (by decide) rfl rfl ?_
    exact ⟨by simp_all [b2i], rfl⟩
  · refine go_iload_n dX8_isPlan_10 rfl ?_
    refine go_iconst (v := 0) dX8_isPlan_11 (by decide) ?_
    refine go_bipush (v := 8) dX8_isPlan_12 (by decide) ?_
    refine go_cS (as := [_, _, _]) dX8_isPlan_14 mX8_isIn kX8_55 tX8_isIn rfl rfl (rX8_isIn) rfl rfl rfl ?_
    refine go_bif_eq (tgt := 24) dX8_isPlan_17 (by decide) (fun q17 => ?_) (fun q17 => ?_)
    · refine go_iconst (v := 0) dX8_isPlan_24 (by decide) ?_
      refine go_zret dX8_isPlan_25 (by decide) rfl rfl ?_
      exact ⟨by simp_all [b2i], rfl⟩
    · refine go_iconst (v := 1) dX8_isPlan_20 (by decide) ?_
      refine go_goto (tgt := 25) dX8_isPlan_21 (by decide) ?_
      refine go_zret dX8_isPlan_25 (by decide) rfl rfl ?_
      exact ⟨by simp_all [b2i], rfl⟩
