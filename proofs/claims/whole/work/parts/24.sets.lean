/-! sets of PERSONS as numbers below 64 -/
def tb (s p : Nat) : Bool := decide (s / 2 ^ p % 2 = 1)
def lowN (s : Nat) : Nat := if s % 2 = 1 then 0 else if s / 2 % 2 = 1 then 1 else if s / 4 % 2 = 1 then 2 else if s / 8 % 2 = 1 then 3 else if s / 16 % 2 = 1 then 4 else 5
def pcN (s : Nat) : Nat := s % 2 + s / 2 % 2 + s / 4 % 2 + s / 8 % 2 + s / 16 % 2 + s / 32 % 2 + s / 64 % 2 + s / 128 % 2 + s / 256 % 2 + s / 512 % 2 + s / 1024 % 2 + s / 2048 % 2
theorem sh_bit : ∀ s, s < 64 → ∀ p, p < 6 → (nI s >>> (nI p &&& 31)) &&& 1 = nI (s / 2 ^ p % 2) := by decide +kernel
theorem xor_bit : ∀ s, s < 64 → ∀ p, p < 6 → nI s ^^^ ((1 : Int32) <<< (nI p &&& 31)) = nI (s ^^^ 2 ^ p) ∧ s ^^^ 2 ^ p < 64 := by decide +kernel
theorem or_bit : ∀ s, s < 64 → ∀ p, p < 6 → nI s ||| ((1 : Int32) <<< (nI p &&& 31)) = nI (s ||| 2 ^ p) ∧ s ||| 2 ^ p < 64 := by decide +kernel
theorem and_m1 : ∀ s, s < 64 → 0 < s → nI s &&& (nI s - 1) = nI (s &&& (s - 1)) ∧ s &&& (s - 1) < s := by decide +kernel
theorem nt_low : ∀ s, s < 64 → 0 < s → ntF (nI s) = nI (lowN s) ∧ lowN s < 6 := by decide +kernel
theorem bc_pc2 : ∀ a, a < 64 → ∀ b, b < 64 → bcF (nI (64 * a + b)) = nI (pcN (64 * a + b)) := by decide +kernel
theorem bc_pc (s : Nat) (h : s < 4096) : bcF (nI s) = nI (pcN s) := by
  have h2 := bc_pc2 (s / 64) (by omega) (s % 64) (by omega)
  rw [show 64 * (s / 64) + s % 64 = s by omega] at h2
  exact h2
theorem pc_le : ∀ s, s < 64 → pcN s ≤ 6 := by decide +kernel
theorem pc_left : ∀ s, s < 64 → ∀ p, p < 6 → tb s p = false → pcN s < 6 := by decide +kernel
theorem and_not : ∀ s, s < 64 → ∀ t, t < 64 → nI s &&& (nI t ^^^ (-1)) = nI (s &&& (63 ^^^ t)) := by decide +kernel
theorem has_tb : ∀ t, t < 64 → ∀ p, p < 6 → hasB (nI t) (nI p) = tb t p := by decide +kernel
theorem bit01 (s p : Nat) : s / 2 ^ p % 2 = 0 ∨ s / 2 ^ p % 2 = 1 := by omega
theorem nI01 {b : Nat} (h : b = 0 ∨ b = 1) : (nI b = 1 ↔ b = 1) ∧ (nI b = 0 ↔ b = 0) := by
  rcases h with rfl | rfl <;> decide
/-! Netting -/
def mcF (C : Nat → Int32) (s : Nat) : Nat → Int32
  | 0 => 0
  | p + 1 => if tb s p then mxI (mcF C s p) (C (s ^^^ 2 ^ p)) else mcF C s p
def nhR (F : FolkS) (N : NetS) : Nat → NetS
  | 0 => N
  | k + 1 =>
    (upd (nhR F N k).1 (k + 1) ((nhR F N k).1 ((k + 1) &&& k) + netF F (lowN (k + 1))),
     upd (nhR F N k).2 (k + 1) (mcF (nhR F N k).2 (k + 1) 6 + (if (nhR F N k).1 ((k + 1) &&& k) + netF F (lowN (k + 1)) = 0 then 1 else 0)))
set_option maxRecDepth 100000 in
set_option maxHeartbeats 4000000 in
theorem rX4_mostCirclesInside {E : gE} {d : Nat} {nw i0 i1 : WorldS} {pd : PadS} {lv : LivesS} {pl : PlanS} {mt : MatS} {nt : NetS} {m : ModS} {s : Nat} (hs64 : s < 64) : Ret E yX4_mostCirclesInside cX4_mostCirclesInside 4 (some .int) (d + 1) 0 0 [.ref 49, .int (nI s)] (hp nw i0 i1 pd lv pl mt nt m) (dt (some (.int (mcF nt.2 s 6))) (hp nw i0 i1 pd lv pl mt nt m)) := by
  refine ret_of_go (L := [_, _, _, _]) (by decide) (Nat.le_of_ble_eq_true rfl) rfl ?_
  have key : ∀ (n p : Nat) (acc : Int32), p + n = 6 → acc = mcF nt.2 s p → Go E yX4_mostCirclesInside cX4_mostCirclesInside 4 (some .int) (d + 1) 0 0 0 0 4 [some (.ref 49), some (.int (nI s)), some (.int acc), some (.int (nI p))] [] (hp nw i0 i1 pd lv pl mt nt m) (dt (some (.int (mcF nt.2 s 6))) (hp nw i0 i1 pd lv pl mt nt m)) := by
    intro n
    induction n with
    | zero =>
      intro p acc hp ha
      obtain rfl : p = 6 := by omega
      refine go_iload_n dX4_mostCirclesInside_4 rfl ?_
      refine go_bipush (v := 6) dX4_mostCirclesInside_5 (by decide) ?_
      refine go_icmp_ge (tgt := 40) dX4_mostCirclesInside_7 (by decide) (fun q7 => ?_) (fun q => absurd (nI_le (a := 6) (b := 6) (by decide) (by decide)) q)
      refine go_iload_n dX4_mostCirclesInside_40 rfl ?_
      refine go_iret dX4_mostCirclesInside_41 rfl rfl ?_
      exact ⟨by rw [ha], rfl⟩
    | succ n ih =>
      intro p acc hp ha
      refine go_iload_n dX4_mostCirclesInside_4 rfl ?_
      refine go_bipush (v := 6) dX4_mostCirclesInside_5 (by decide) ?_
      refine go_icmp_ge (tgt := 40) dX4_mostCirclesInside_7 (by decide) (fun q => absurd q (nI_ge (a := p) (b := 6) (by omega) (by decide))) (fun q7 => ?_)
      refine go_iload_n dX4_mostCirclesInside_10 rfl ?_
      refine go_iload_n dX4_mostCirclesInside_11 rfl ?_
      refine go_ishr dX4_mostCirclesInside_12 ?_
      refine go_iconst (v := 1) dX4_mostCirclesInside_13 (by decide) ?_
      refine go_iand dX4_mostCirclesInside_14 ?_
      refine go_topi_eq (sh_bit s hs64 p (by omega)) ?_
      refine go_iconst (v := 1) dX4_mostCirclesInside_15 (by decide) ?_
      refine go_icmp_ne (tgt := 34) dX4_mostCirclesInside_16 (by decide) (fun q16 => ?_) (fun q16 => ?_)
      · refine go_iinc (v := nI (p + 1)) (L' := [_, _, _, _]) dX4_mostCirclesInside_34 rfl (nI_1 p) rfl rfl rfl ?_
        refine go_goto (tgt := 4) dX4_mostCirclesInside_37 (by decide) ?_
        exact ih (p + 1) _ (by omega) (by rw [ha, mcF, tb]; rw [(nI01 (bit01 s p)).1] at q16; simp only [q16, decide_true, decide_false, if_true, if_false, Bool.false_eq_true])
      · refine go_iload_n dX4_mostCirclesInside_19 rfl ?_
        refine go_aload_n dX4_mostCirclesInside_20 rfl ?_
        refine go_get dX4_mostCirclesInside_21 fX4_15 rfl rfl ?_
        refine go_iload_n dX4_mostCirclesInside_24 rfl ?_
        refine go_iconst (v := 1) dX4_mostCirclesInside_25 (by decide) ?_
        refine go_iload_n dX4_mostCirclesInside_26 rfl ?_
        refine go_ishl dX4_mostCirclesInside_27 ?_
        refine go_ixor dX4_mostCirclesInside_28 ?_
        refine go_topi_eq (xor_bit s hs64 p (by omega)).1 ?_
        refine go_ialdN (s ^^^ 2 ^ p) dX4_mostCirclesInside_29 rfl ((xor_bit s hs64 p (by omega)).2) rfl ?_
        refine go_mmax dX4_mostCirclesInside_30 mkX4_32 rfl rfl rfl ?_
        refine go_istore_n (L' := [_, _, _, _]) dX4_mostCirclesInside_33 rfl rfl rfl ?_
        refine go_iinc (v := nI (p + 1)) (L' := [_, _, _, _]) dX4_mostCirclesInside_34 rfl (nI_1 p) rfl rfl rfl ?_
        refine go_goto (tgt := 4) dX4_mostCirclesInside_37 (by decide) ?_
        exact ih (p + 1) _ (by omega) (by rw [ha, mcF, tb]; rw [(nI01 (bit01 s p)).1] at q16; simp only [q16, decide_true, decide_false, if_true, if_false, Bool.false_eq_true])
  refine go_iconst (v := 0) dX4_mostCirclesInside_0 (by decide) ?_
  refine go_istore_n (L' := [_, _, _, _]) dX4_mostCirclesInside_1 rfl rfl rfl ?_
  refine go_iconst (v := 0) dX4_mostCirclesInside_2 (by decide) ?_
  refine go_istore_n (L' := [_, _, _, _]) dX4_mostCirclesInside_3 rfl rfl rfl ?_
  exact key 6 0 0 rfl rfl
set_option maxRecDepth 100000 in
set_option maxHeartbeats 4000000 in
theorem rX4_fewestHands {E : gE} {d : Nat} {nw i0 i1 : WorldS} {pd : PadS} {lv : LivesS} {pl : PlanS} {mt : MatS} {nt : NetS} {m : ModS} : Ret E yX4_fewestHands cX4_fewestHands 4 (some .int) (d + 2) 0 0 [.ref 49, .ref 2] (hp nw i0 i1 pd lv pl mt nt m) (dt (some (.int (6 - (nhR nw.1 nt 63).2 63))) (hp nw i0 i1 pd lv pl mt (nhR nw.1 nt 63) m)) := by
  refine ret_of_go (L := [_, _, _, _]) (by decide) (Nat.le_of_ble_eq_true rfl) rfl ?_
  have key : ∀ (n k : Nat) (a3 : Option Value), k + n = 63 → Go E yX4_fewestHands cX4_fewestHands 4 (some .int) (d + 2) 0 0 0 0 2 [some (.ref 49), some (.ref 2), some (.int (nI (k + 1))), a3] [] (hp nw i0 i1 pd lv pl mt (nhR nw.1 nt k) m) (dt (some (.int (6 - (nhR nw.1 nt 63).2 63))) (hp nw i0 i1 pd lv pl mt (nhR nw.1 nt 63) m)) := by
    intro n
    induction n with
    | zero =>
      intro k a3 hk
      obtain rfl : k = 63 := by omega
      refine go_iload_n dX4_fewestHands_2 rfl ?_
      refine go_bipush (v := 64) dX4_fewestHands_3 (by decide) ?_
      refine go_icmp_ge (tgt := 67) dX4_fewestHands_5 (by decide) (fun q5 => ?_) (fun q => absurd (nI_le (a := 64) (b := 64) (by decide) (by decide)) q)
      refine go_bipush (v := 6) dX4_fewestHands_67 (by decide) ?_
      refine go_aload_n dX4_fewestHands_69 rfl ?_
      refine go_get dX4_fewestHands_70 fX4_15 rfl rfl ?_
      refine go_bipush (v := 63) dX4_fewestHands_73 (by decide) ?_
      refine go_ialdN (63) dX4_fewestHands_75 rfl (by decide) rfl ?_
      refine go_isub dX4_fewestHands_76 ?_
      refine go_iret dX4_fewestHands_77 rfl rfl ?_
      exact ⟨rfl, rfl⟩
    | succ n ih =>
      intro k a3 hk
      have hm1 : nI (k + 1) &&& (nI (k + 1) - 1) = nI ((k + 1) &&& k) := (and_m1 (k + 1) (by omega) (by omega)).1
      have hlt : (k + 1) &&& k < 64 := Nat.lt_of_lt_of_le (and_m1 (k + 1) (by omega) (by omega)).2 (by omega)
      refine go_iload_n dX4_fewestHands_2 rfl ?_
      refine go_bipush (v := 64) dX4_fewestHands_3 (by decide) ?_
      refine go_icmp_ge (tgt := 67) dX4_fewestHands_5 (by decide) (fun q => absurd q (nI_ge (a := k + 1) (b := 64) (by omega) (by decide))) (fun q5 => ?_)
      refine go_iload_n dX4_fewestHands_8 rfl ?_
      refine go_cS (as := [_]) dX4_fewestHands_9 mJ6_numberOfTrailingZeros_0f7a4 kX4_18 tJ6_numberOfTrailingZeros_0f7a4 rfl rfl (rJ6_numberOfTrailingZeros_0f7a4) rfl rfl rfl ?_
      refine go_topi_eq (nt_low (k + 1) (by omega) (by omega)).1 ?_
      refine go_istore_n (L' := [_, _, _, _]) dX4_fewestHands_12 rfl rfl rfl ?_
      refine go_aload_n dX4_fewestHands_13 rfl ?_
      refine go_get dX4_fewestHands_14 fX4_9 rfl rfl ?_
      refine go_iload_n dX4_fewestHands_17 rfl ?_
      refine go_aload_n dX4_fewestHands_18 rfl ?_
      refine go_get dX4_fewestHands_19 fX4_9 rfl rfl ?_
      refine go_iload_n dX4_fewestHands_22 rfl ?_
      refine go_iload_n dX4_fewestHands_23 rfl ?_
      refine go_iconst (v := 1) dX4_fewestHands_24 (by decide) ?_
      refine go_isub dX4_fewestHands_25 ?_
      refine go_iand dX4_fewestHands_26 ?_
      refine go_topi_eq hm1 ?_
      refine go_ialdN ((k + 1) &&& k) dX4_fewestHands_27 rfl (hlt) rfl ?_
      refine go_aload_n dX4_fewestHands_28 rfl ?_
      refine go_iload_n dX4_fewestHands_29 rfl ?_
      refine go_cV (as := [_]) dX4_fewestHands_30 mX1_net kX4_24 iX1_net sX1_net rfl rfl rfl rfl (rX1_net_n (nt_low (k + 1) (by omega) (by omega)).2) rfl rfl rfl ?_
      refine go_iadd dX4_fewestHands_33 ?_
      refine go_iastN (k + 1) dX4_fewestHands_34 rfl (by omega) rfl ?_
      refine go_heap (h2 := (hp nw i0 i1 pd lv pl mt ((upd (nhR nw.1 nt k).1 (k + 1) ((nhR nw.1 nt k).1 ((k + 1) &&& k) + netF nw.1 (lowN (k + 1)))), (nhR nw.1 nt k).2) m)) rfl ?_
      refine go_aload_n dX4_fewestHands_35 rfl ?_
      refine go_get dX4_fewestHands_36 fX4_15 rfl rfl ?_
      refine go_iload_n dX4_fewestHands_39 rfl ?_
      refine go_aload_n dX4_fewestHands_40 rfl ?_
      refine go_iload_n dX4_fewestHands_41 rfl ?_
      refine go_cV (as := [_]) dX4_fewestHands_42 mX4_mostCirclesInside kX4_29 iX4_mostCirclesInside sX4_mostCirclesInside rfl rfl rfl rfl (rX4_mostCirclesInside (s := k + 1) (by omega)) rfl rfl rfl ?_
      refine go_aload_n dX4_fewestHands_45 rfl ?_
      refine go_get dX4_fewestHands_46 fX4_9 rfl rfl ?_
      refine go_iload_n dX4_fewestHands_49 rfl ?_
      refine go_ialdN (k + 1) dX4_fewestHands_50 rfl (by omega) rfl ?_
      refine go_if_ne (tgt := 58) dX4_fewestHands_51 (by decide) (fun q51 => ?_) (fun q51 => ?_)
      · refine go_iconst (v := 0) dX4_fewestHands_58 (by decide) ?_
        refine go_iadd dX4_fewestHands_59 ?_
        refine go_iastN (k + 1) dX4_fewestHands_60 rfl (by omega) rfl ?_
        refine go_iinc (v := nI (k + 1 + 1)) (L' := [_, _, _, _]) dX4_fewestHands_61 rfl (nI_1 (k + 1)) rfl rfl rfl ?_
        refine go_goto (tgt := 2) dX4_fewestHands_64 (by decide) ?_
        refine go_heap (h2 := (hp nw i0 i1 pd lv pl mt (nhR nw.1 nt (k + 1)) m)) ?_ (ih (k + 1) _ (by omega))
        have q52 : upd (nhR nw.1 nt k).1 (k + 1) ((nhR nw.1 nt k).1 ((k + 1) &&& k) + netF nw.1 (lowN (k + 1))) (k + 1) = (nhR nw.1 nt k).1 ((k + 1) &&& k) + netF nw.1 (lowN (k + 1)) := pk_us
        rw [nhR]
        first | (rw [if_pos (q52.symm.trans q51)]; rfl) | (rw [if_neg (fun z => q51 (q52.trans z))]; rfl)
      · refine go_iconst (v := 1) dX4_fewestHands_54 (by decide) ?_
        refine go_goto (tgt := 59) dX4_fewestHands_55 (by decide) ?_
        refine go_iadd dX4_fewestHands_59 ?_
        refine go_iastN (k + 1) dX4_fewestHands_60 rfl (by omega) rfl ?_
        refine go_iinc (v := nI (k + 1 + 1)) (L' := [_, _, _, _]) dX4_fewestHands_61 rfl (nI_1 (k + 1)) rfl rfl rfl ?_
        refine go_goto (tgt := 2) dX4_fewestHands_64 (by decide) ?_
        refine go_heap (h2 := (hp nw i0 i1 pd lv pl mt (nhR nw.1 nt (k + 1)) m)) ?_ (ih (k + 1) _ (by omega))
        have q52 : upd (nhR nw.1 nt k).1 (k + 1) ((nhR nw.1 nt k).1 ((k + 1) &&& k) + netF nw.1 (lowN (k + 1))) (k + 1) = (nhR nw.1 nt k).1 ((k + 1) &&& k) + netF nw.1 (lowN (k + 1)) := pk_us
        rw [nhR]
        first | (rw [if_pos (q52.symm.trans q51)]; rfl) | (rw [if_neg (fun z => q51 (q52.trans z))]; rfl)
  refine go_iconst (v := 1) dX4_fewestHands_0 (by decide) ?_
  refine go_istore_n (L' := [_, _, _, _]) dX4_fewestHands_1 rfl rfl rfl ?_
  exact key 63 0 _ rfl
