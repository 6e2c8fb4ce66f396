def gdR : Nat → Int64 → Int64 → Option Int64
  | 0, a, b => if b = 0 then some a else none
  | n + 1, a, b => if b = 0 then some a else gdR n b (a - a / b * b)
set_option maxRecDepth 100000 in
set_option maxHeartbeats 4000000 in
theorem rX9_part {E : gE} {d : Nat} {a b g : Int64} {w : Int32} {n0 : Nat} {h : gH} (hgd : gdR n0 a b = some g) (hg : ¬ g = 0) : Ret E yX9_part cX9_part 11 (some .long) d 0 0 [.long a, .long b, .int w] h (dt (some (.long (if w = 0 then a / g else b / g))) h) := by
  refine ret_of_go (L := [_, _, _, _, _, _, _, _, _, _, _]) (by decide) (Nat.le_of_ble_eq_true rfl) rfl ?_
  have fin : ∀ (a9 a10 : Option Value) (z : Int64), Go E yX9_part cX9_part 11 (some .long) d 0 0 0 0 31 [some (.long a), none, some (.long b), none, some (.int w), some (.long g), none, some (.long z), none, a9, a10] [] h (dt (some (.long (if w = 0 then a / g else b / g))) h) := by
    intro a9 a10 z
    refine go_iload dX9_part_31 rfl ?_
    refine go_if_ne (tgt := 43) dX9_part_33 (by decide) (fun q33 => ?_) (fun q33 => ?_)
    · refine go_lload_n dX9_part_43 rfl ?_
      refine go_lload dX9_part_44 rfl ?_
      refine go_ldiv dX9_part_46 hg ?_
      refine go_lret dX9_part_47 rfl rfl ?_
      exact ⟨by rw [if_neg q33], rfl⟩
    · refine go_lload_n dX9_part_36 rfl ?_
      refine go_lload dX9_part_37 rfl ?_
      refine go_ldiv dX9_part_39 hg ?_
      refine go_goto (tgt := 47) dX9_part_40 (by decide) ?_
      refine go_lret dX9_part_47 rfl rfl ?_
      exact ⟨by rw [if_pos q33], rfl⟩
  have key : ∀ (n : Nat) (x z : Int64) (a9 a10 : Option Value), gdR n x z = some g → Go E yX9_part cX9_part 11 (some .long) d 0 0 0 0 6 [some (.long a), none, some (.long b), none, some (.int w), some (.long x), none, some (.long z), none, a9, a10] [] h (dt (some (.long (if w = 0 then a / g else b / g))) h) := by
    intro n
    induction n with
    | zero =>
      intro x z a9 a10 hf
      rw [gdR] at hf
      by_cases hz : z = 0
      · rw [if_pos hz] at hf
        obtain rfl : x = g := Option.some.inj hf
        refine go_lload dX9_part_6 rfl ?_
        refine go_lconst (v := 0) dX9_part_8 (by decide) ?_
        refine go_lcmp dX9_part_9 ?_
        refine go_if_eq (tgt := 31) dX9_part_10 (by decide) (fun q10 => ?_) (fun zq => absurd (lg_0.mpr hz) zq)
        exact fin _ _ _
      · rw [if_neg hz] at hf
        exact absurd hf (by simp)
    | succ n ih =>
      intro x z a9 a10 hf
      rw [gdR] at hf
      by_cases hz : z = 0
      · rw [if_pos hz] at hf
        obtain rfl : x = g := Option.some.inj hf
        refine go_lload dX9_part_6 rfl ?_
        refine go_lconst (v := 0) dX9_part_8 (by decide) ?_
        refine go_lcmp dX9_part_9 ?_
        refine go_if_eq (tgt := 31) dX9_part_10 (by decide) (fun q10 => ?_) (fun zq => absurd (lg_0.mpr hz) zq)
        exact fin _ _ _
      · rw [if_neg hz] at hf
        refine go_lload dX9_part_6 rfl ?_
        refine go_lconst (v := 0) dX9_part_8 (by decide) ?_
        refine go_lcmp dX9_part_9 ?_
        refine go_if_eq (tgt := 31) dX9_part_10 (by decide) (fun zq => absurd zq (fun zq => hz (lg_0.mp zq))) (fun q10 => ?_)
        refine go_lload dX9_part_13 rfl ?_
        refine go_lload dX9_part_15 rfl ?_
        refine go_lrem dX9_part_17 hz ?_
        refine go_lstore (L' := [_, _, _, _, _, _, _, _, _, _, _]) dX9_part_18 rfl rfl rfl ?_
        refine go_lload dX9_part_20 rfl ?_
        refine go_lstore (L' := [_, _, _, _, _, _, _, _, _, _, _]) dX9_part_22 rfl rfl rfl ?_
        refine go_lload dX9_part_24 rfl ?_
        refine go_lstore (L' := [_, _, _, _, _, _, _, _, _, _, _]) dX9_part_26 rfl rfl rfl ?_
        refine go_goto (tgt := 6) dX9_part_28 (by decide) ?_
        exact ih _ _ _ _ hf
  refine go_lload_n dX9_part_0 rfl ?_
  refine go_lstore (L' := [_, _, _, _, _, _, _, _, _, _, _]) dX9_part_1 rfl rfl rfl ?_
  refine go_lload_n dX9_part_3 rfl ?_
  refine go_lstore (L' := [_, _, _, _, _, _, _, _, _, _, _]) dX9_part_4 rfl rfl rfl ?_
  exact key n0 a b _ _ hgd
