abbrev s_book (m : ModS) (v : Nat → Int32) : ModS := (v, m.2)
abbrev s_now (m : ModS) (v : Nat → Int32) : ModS := (m.1, v, m.2.2)
abbrev s_there (m : ModS) (v : Int32) : ModS := (m.1, m.2.1, v, m.2.2.2)
abbrev s_tail (m : ModS) (v : Nat → Int32) : ModS := (m.1, m.2.1, m.2.2.1, v, m.2.2.2.2)
abbrev s_weight (m : ModS) (v : Nat → Int32) : ModS := (m.1, m.2.1, m.2.2.1, m.2.2.2.1, v, m.2.2.2.2.2)
abbrev s_sights (m : ModS) (v : Int32) : ModS := (m.1, m.2.1, m.2.2.1, m.2.2.2.1, m.2.2.2.2.1, v, m.2.2.2.2.2.2)
abbrev s_sight (m : ModS) (v : Nat → Int32) : ModS := (m.1, m.2.1, m.2.2.1, m.2.2.2.1, m.2.2.2.2.1, m.2.2.2.2.2.1, v, m.2.2.2.2.2.2.2)
abbrev s_said (m : ModS) (v : Int32) : ModS := (m.1, m.2.1, m.2.2.1, m.2.2.2.1, m.2.2.2.2.1, m.2.2.2.2.2.1, m.2.2.2.2.2.2.1, v, m.2.2.2.2.2.2.2.2)
abbrev s_pad (m : ModS) (v : Nat → Int32) : ModS := (m.1, m.2.1, m.2.2.1, m.2.2.2.1, m.2.2.2.2.1, m.2.2.2.2.2.1, m.2.2.2.2.2.2.1, m.2.2.2.2.2.2.2.1, v, m.2.2.2.2.2.2.2.2.2)
abbrev s_signed (m : ModS) (v : Int32) : ModS := (m.1, m.2.1, m.2.2.1, m.2.2.2.1, m.2.2.2.2.1, m.2.2.2.2.2.1, m.2.2.2.2.2.2.1, m.2.2.2.2.2.2.2.1, m.2.2.2.2.2.2.2.2.1, v, m.2.2.2.2.2.2.2.2.2.2)
abbrev s_forgeries (m : ModS) (v : Int32) : ModS := (m.1, m.2.1, m.2.2.1, m.2.2.2.1, m.2.2.2.2.1, m.2.2.2.2.2.1, m.2.2.2.2.2.2.1, m.2.2.2.2.2.2.2.1, m.2.2.2.2.2.2.2.2.1, m.2.2.2.2.2.2.2.2.2.1, v, m.2.2.2.2.2.2.2.2.2.2.2)
abbrev s_reason (m : ModS) (v : Int32) : ModS := (m.1, m.2.1, m.2.2.1, m.2.2.2.1, m.2.2.2.2.1, m.2.2.2.2.2.1, m.2.2.2.2.2.2.1, m.2.2.2.2.2.2.2.1, m.2.2.2.2.2.2.2.2.1, m.2.2.2.2.2.2.2.2.2.1, m.2.2.2.2.2.2.2.2.2.2.1, v, m.2.2.2.2.2.2.2.2.2.2.2.2)
abbrev s_many (m : ModS) (v : Int32) : ModS := (m.1, m.2.1, m.2.2.1, m.2.2.2.1, m.2.2.2.2.1, m.2.2.2.2.2.1, m.2.2.2.2.2.2.1, m.2.2.2.2.2.2.2.1, m.2.2.2.2.2.2.2.2.1, m.2.2.2.2.2.2.2.2.2.1, m.2.2.2.2.2.2.2.2.2.2.1, m.2.2.2.2.2.2.2.2.2.2.2.1, v, m.2.2.2.2.2.2.2.2.2.2.2.2.2)
abbrev s_bare (m : ModS) (v : Int32) : ModS := (m.1, m.2.1, m.2.2.1, m.2.2.2.1, m.2.2.2.2.1, m.2.2.2.2.2.1, m.2.2.2.2.2.2.1, m.2.2.2.2.2.2.2.1, m.2.2.2.2.2.2.2.2.1, m.2.2.2.2.2.2.2.2.2.1, m.2.2.2.2.2.2.2.2.2.2.1, m.2.2.2.2.2.2.2.2.2.2.2.1, m.2.2.2.2.2.2.2.2.2.2.2.2.1, v, m.2.2.2.2.2.2.2.2.2.2.2.2.2.2)
abbrev s_best (m : ModS) (v : Nat → Int64) : ModS := (m.1, m.2.1, m.2.2.1, m.2.2.2.1, m.2.2.2.2.1, m.2.2.2.2.2.1, m.2.2.2.2.2.2.1, m.2.2.2.2.2.2.2.1, m.2.2.2.2.2.2.2.2.1, m.2.2.2.2.2.2.2.2.2.1, m.2.2.2.2.2.2.2.2.2.2.1, m.2.2.2.2.2.2.2.2.2.2.2.1, m.2.2.2.2.2.2.2.2.2.2.2.2.1, m.2.2.2.2.2.2.2.2.2.2.2.2.2.1, v, m.2.2.2.2.2.2.2.2.2.2.2.2.2.2.2)
abbrev s_evens (m : ModS) (v : Nat → Int32) : ModS := (m.1, m.2.1, m.2.2.1, m.2.2.2.1, m.2.2.2.2.1, m.2.2.2.2.2.1, m.2.2.2.2.2.2.1, m.2.2.2.2.2.2.2.1, m.2.2.2.2.2.2.2.2.1, m.2.2.2.2.2.2.2.2.2.1, m.2.2.2.2.2.2.2.2.2.2.1, m.2.2.2.2.2.2.2.2.2.2.2.1, m.2.2.2.2.2.2.2.2.2.2.2.2.1, m.2.2.2.2.2.2.2.2.2.2.2.2.2.1, m.2.2.2.2.2.2.2.2.2.2.2.2.2.2.1, v, m.2.2.2.2.2.2.2.2.2.2.2.2.2.2.2.2)
abbrev s_act (m : ModS) (v : Nat → Int32) : ModS := (m.1, m.2.1, m.2.2.1, m.2.2.2.1, m.2.2.2.2.1, m.2.2.2.2.2.1, m.2.2.2.2.2.2.1, m.2.2.2.2.2.2.2.1, m.2.2.2.2.2.2.2.2.1, m.2.2.2.2.2.2.2.2.2.1, m.2.2.2.2.2.2.2.2.2.2.1, m.2.2.2.2.2.2.2.2.2.2.2.1, m.2.2.2.2.2.2.2.2.2.2.2.2.1, m.2.2.2.2.2.2.2.2.2.2.2.2.2.1, m.2.2.2.2.2.2.2.2.2.2.2.2.2.2.1, m.2.2.2.2.2.2.2.2.2.2.2.2.2.2.2.1, v, m.2.2.2.2.2.2.2.2.2.2.2.2.2.2.2.2.2)
abbrev s_wrote (m : ModS) (v : Nat → Int32) : ModS := (m.1, m.2.1, m.2.2.1, m.2.2.2.1, m.2.2.2.2.1, m.2.2.2.2.2.1, m.2.2.2.2.2.2.1, m.2.2.2.2.2.2.2.1, m.2.2.2.2.2.2.2.2.1, m.2.2.2.2.2.2.2.2.2.1, m.2.2.2.2.2.2.2.2.2.2.1, m.2.2.2.2.2.2.2.2.2.2.2.1, m.2.2.2.2.2.2.2.2.2.2.2.2.1, m.2.2.2.2.2.2.2.2.2.2.2.2.2.1, m.2.2.2.2.2.2.2.2.2.2.2.2.2.2.1, m.2.2.2.2.2.2.2.2.2.2.2.2.2.2.2.1, m.2.2.2.2.2.2.2.2.2.2.2.2.2.2.2.2.1, v, m.2.2.2.2.2.2.2.2.2.2.2.2.2.2.2.2.2.2)
abbrev s_slips (m : ModS) (v : Int32) : ModS := (m.1, m.2.1, m.2.2.1, m.2.2.2.1, m.2.2.2.2.1, m.2.2.2.2.2.1, m.2.2.2.2.2.2.1, m.2.2.2.2.2.2.2.1, m.2.2.2.2.2.2.2.2.1, m.2.2.2.2.2.2.2.2.2.1, m.2.2.2.2.2.2.2.2.2.2.1, m.2.2.2.2.2.2.2.2.2.2.2.1, m.2.2.2.2.2.2.2.2.2.2.2.2.1, m.2.2.2.2.2.2.2.2.2.2.2.2.2.1, m.2.2.2.2.2.2.2.2.2.2.2.2.2.2.1, m.2.2.2.2.2.2.2.2.2.2.2.2.2.2.2.1, m.2.2.2.2.2.2.2.2.2.2.2.2.2.2.2.2.1, m.2.2.2.2.2.2.2.2.2.2.2.2.2.2.2.2.2.1, v, m.2.2.2.2.2.2.2.2.2.2.2.2.2.2.2.2.2.2.2)
abbrev s_ways (m : ModS) (v : Int32) : ModS := (m.1, m.2.1, m.2.2.1, m.2.2.2.1, m.2.2.2.2.1, m.2.2.2.2.2.1, m.2.2.2.2.2.2.1, m.2.2.2.2.2.2.2.1, m.2.2.2.2.2.2.2.2.1, m.2.2.2.2.2.2.2.2.2.1, m.2.2.2.2.2.2.2.2.2.2.1, m.2.2.2.2.2.2.2.2.2.2.2.1, m.2.2.2.2.2.2.2.2.2.2.2.2.1, m.2.2.2.2.2.2.2.2.2.2.2.2.2.1, m.2.2.2.2.2.2.2.2.2.2.2.2.2.2.1, m.2.2.2.2.2.2.2.2.2.2.2.2.2.2.2.1, m.2.2.2.2.2.2.2.2.2.2.2.2.2.2.2.2.1, m.2.2.2.2.2.2.2.2.2.2.2.2.2.2.2.2.2.1, m.2.2.2.2.2.2.2.2.2.2.2.2.2.2.2.2.2.2.1, v, m.2.2.2.2.2.2.2.2.2.2.2.2.2.2.2.2.2.2.2.2)
abbrev s_image (m : ModS) (v : Nat → Int32) : ModS := (m.1, m.2.1, m.2.2.1, m.2.2.2.1, m.2.2.2.2.1, m.2.2.2.2.2.1, m.2.2.2.2.2.2.1, m.2.2.2.2.2.2.2.1, m.2.2.2.2.2.2.2.2.1, m.2.2.2.2.2.2.2.2.2.1, m.2.2.2.2.2.2.2.2.2.2.1, m.2.2.2.2.2.2.2.2.2.2.2.1, m.2.2.2.2.2.2.2.2.2.2.2.2.1, m.2.2.2.2.2.2.2.2.2.2.2.2.2.1, m.2.2.2.2.2.2.2.2.2.2.2.2.2.2.1, m.2.2.2.2.2.2.2.2.2.2.2.2.2.2.2.1, m.2.2.2.2.2.2.2.2.2.2.2.2.2.2.2.2.1, m.2.2.2.2.2.2.2.2.2.2.2.2.2.2.2.2.2.1, m.2.2.2.2.2.2.2.2.2.2.2.2.2.2.2.2.2.2.1, m.2.2.2.2.2.2.2.2.2.2.2.2.2.2.2.2.2.2.2.1, v, m.2.2.2.2.2.2.2.2.2.2.2.2.2.2.2.2.2.2.2.2.2)
abbrev s_isKept (m : ModS) (v : Nat → Int32) : ModS := (m.1, m.2.1, m.2.2.1, m.2.2.2.1, m.2.2.2.2.1, m.2.2.2.2.2.1, m.2.2.2.2.2.2.1, m.2.2.2.2.2.2.2.1, m.2.2.2.2.2.2.2.2.1, m.2.2.2.2.2.2.2.2.2.1, m.2.2.2.2.2.2.2.2.2.2.1, m.2.2.2.2.2.2.2.2.2.2.2.1, m.2.2.2.2.2.2.2.2.2.2.2.2.1, m.2.2.2.2.2.2.2.2.2.2.2.2.2.1, m.2.2.2.2.2.2.2.2.2.2.2.2.2.2.1, m.2.2.2.2.2.2.2.2.2.2.2.2.2.2.2.1, m.2.2.2.2.2.2.2.2.2.2.2.2.2.2.2.2.1, m.2.2.2.2.2.2.2.2.2.2.2.2.2.2.2.2.2.1, m.2.2.2.2.2.2.2.2.2.2.2.2.2.2.2.2.2.2.1, m.2.2.2.2.2.2.2.2.2.2.2.2.2.2.2.2.2.2.2.1, m.2.2.2.2.2.2.2.2.2.2.2.2.2.2.2.2.2.2.2.2.1, v)
def hbB (t p : Int32) : Bool := decide ((t >>> (p &&& 31)) &&& 1 = 1)
set_option maxRecDepth 100000 in
set_option maxHeartbeats 4000000 in
theorem rX9_in {E : gE} {d : Nat} {v lo hi : Int32} {h : gH} : Ret E yX9_in cX9_in 3 (some .boolean) d 0 0 [.int v, .int lo, .int hi] h (dt (some (.int (b2i (isInB v lo hi)))) h) := by
  refine ret_of_go (L := [_, _, _]) (by decide) (Nat.le_of_ble_eq_true rfl) rfl ?_
  refine go_iload_n dX9_in_0 rfl ?_
  refine go_iload_n dX9_in_1 rfl ?_
  refine go_icmp_lt (tgt := 14) dX9_in_2 (by decide) (fun q2 => ?_) (fun q2 => ?_)
  · refine go_iconst (v := 0) dX9_in_14 (by decide) ?_
    refine go_zret dX9_in_15 (by decide) rfl rfl ?_
    refine ⟨?_, rfl⟩
    simp only [isInB, Int32.le_iff_toInt_le, Int32.lt_iff_toInt_lt] at *
    simp [b2i]
    try omega
  · refine go_iload_n dX9_in_5 rfl ?_
    refine go_iload_n dX9_in_6 rfl ?_
    refine go_icmp_gt (tgt := 14) dX9_in_7 (by decide) (fun q7 => ?_) (fun q7 => ?_)
    · refine go_iconst (v := 0) dX9_in_14 (by decide) ?_
      refine go_zret dX9_in_15 (by decide) rfl rfl ?_
      refine ⟨?_, rfl⟩
      simp only [isInB, Int32.le_iff_toInt_le, Int32.lt_iff_toInt_lt] at *
      simp [b2i]
      try omega
    · refine go_iconst (v := 1) dX9_in_10 (by decide) ?_
      refine go_goto (tgt := 15) dX9_in_11 (by decide) ?_
      refine go_zret dX9_in_15 (by decide) rfl rfl ?_
      refine ⟨?_, rfl⟩
      simp only [isInB, Int32.le_iff_toInt_le, Int32.lt_iff_toInt_lt] at *
      simp [b2i]
      try omega
set_option maxRecDepth 100000 in
set_option maxHeartbeats 4000000 in
theorem rX9_has {E : gE} {d : Nat} {t p : Int32} {h : gH} : Ret E yX9_has cX9_has 2 (some .boolean) d 0 0 [.int t, .int p] h (dt (some (.int (b2i (hbB t p)))) h) := by
  refine ret_of_go (L := [_, _]) (by decide) (Nat.le_of_ble_eq_true rfl) rfl ?_
  refine go_iload_n dX9_has_0 rfl ?_
  refine go_iload_n dX9_has_1 rfl ?_
  refine go_ishr dX9_has_2 ?_
  refine go_iconst (v := 1) dX9_has_3 (by decide) ?_
  refine go_iand dX9_has_4 ?_
  refine go_iconst (v := 1) dX9_has_5 (by decide) ?_
  refine go_icmp_ne (tgt := 13) dX9_has_6 (by decide) (fun q6 => ?_) (fun q6 => ?_)
  · refine go_iconst (v := 0) dX9_has_13 (by decide) ?_
    refine go_zret dX9_has_14 (by decide) rfl rfl ?_
    exact ⟨by simp_all [hbB, b2i], rfl⟩
  · refine go_iconst (v := 1) dX9_has_9 (by decide) ?_
    refine go_goto (tgt := 14) dX9_has_10 (by decide) ?_
    refine go_zret dX9_has_14 (by decide) rfl rfl ?_
    exact ⟨by simp_all [hbB, b2i], rfl⟩
set_option maxRecDepth 100000 in
set_option maxHeartbeats 4000000 in
theorem rX9_isThere {E : gE} {d : Nat} {nw i0 i1 : WorldS} {pd : PadS} {lv : LivesS} {pl : PlanS} {mt : MatS} {nt : NetS} {m : ModS} {p : Int32} : Ret E yX9_isThere cX9_isThere 2 (some .boolean) (d + 1) 0 0 [.ref 52, .int p] (hp nw i0 i1 pd lv pl mt nt m) (dt (some (.int (b2i (hasB (m_there m) p)))) (hp nw i0 i1 pd lv pl mt nt m)) := by
  refine ret_of_go (L := [_, _]) (by decide) (Nat.le_of_ble_eq_true rfl) rfl ?_
  refine go_iload_n dX9_isThere_0 rfl ?_
  refine go_iconst (v := 0) dX9_isThere_1 (by decide) ?_
  refine go_iconst (v := 5) dX9_isThere_2 (by decide) ?_
  refine go_cS (as := [_, _, _]) dX9_isThere_3 mX9_in kX9_48 tX9_in rfl rfl (rX9_in) rfl rfl rfl ?_
  refine go_bif_eq (tgt := 24) dX9_isThere_6 (by decide) (fun q6 => ?_) (fun q6 => ?_)
  · refine go_iconst (v := 0) dX9_isThere_24 (by decide) ?_
    refine go_zret dX9_isThere_25 (by decide) rfl rfl ?_
    exact ⟨by simp_all [hasB, hbB, b2i], rfl⟩
  · refine go_aload_n dX9_isThere_9 rfl ?_
    refine go_get dX9_isThere_10 fX9_52 rfl rfl ?_
    refine go_iload_n dX9_isThere_13 rfl ?_
    refine go_cS (as := [_, _]) dX9_isThere_14 mX9_has kX9_56 tX9_has rfl rfl (rX9_has) rfl rfl rfl ?_
    refine go_bif_eq (tgt := 24) dX9_isThere_17 (by decide) (fun q17 => ?_) (fun q17 => ?_)
    · refine go_iconst (v := 0) dX9_isThere_24 (by decide) ?_
      refine go_zret dX9_isThere_25 (by decide) rfl rfl ?_
      exact ⟨by simp_all [hasB, hbB, b2i], rfl⟩
    · refine go_iconst (v := 1) dX9_isThere_20 (by decide) ?_
      refine go_goto (tgt := 25) dX9_isThere_21 (by decide) ?_
      refine go_zret dX9_isThere_25 (by decide) rfl rfl ?_
      exact ⟨by simp_all [hasB, hbB, b2i], rfl⟩
theorem pcS2 : ∀ a, a < 64 → ∀ b, b < 64 → sumI (fun k => (nI (64 * a + b) >>> (nI k &&& 31)) &&& 1) 12 = nI (pcN (64 * a + b)) := by decide +kernel
theorem pcS (s : Nat) (h : s < 4096) : sumI (fun k => (nI s >>> (nI k &&& 31)) &&& 1) 12 = nI (pcN s) := by
  have h2 := pcS2 (s / 64) (by omega) (s % 64) (by omega)
  rw [show 64 * (s / 64) + s % 64 = s by omega] at h2
  exact h2
set_option maxRecDepth 100000 in
set_option maxHeartbeats 4000000 in
theorem rX9_bits {E : gE} {d : Nat} {s : Nat} {h : gH} (hs : s < 4096) : Ret E yX9_bits cX9_bits 3 (some .int) d 0 0 [.int (nI s)] h (dt (some (.int (nI (pcN s)))) h) := by
  refine ret_of_go (L := [_, _, _]) (by decide) (Nat.le_of_ble_eq_true rfl) rfl ?_
  have key : ∀ (n k : Nat) (acc : Int32), k + n = 12 → acc = sumI (fun k => (nI s >>> (nI k &&& 31)) &&& 1) k → Go E yX9_bits cX9_bits 3 (some .int) d 0 0 0 0 4 [some (.int (nI s)), some (.int acc), some (.int (nI k))] [] h (dt (some (.int (nI (pcN s)))) h) := by
    intro n
    induction n with
    | zero =>
      intro k acc hk ha
      obtain rfl : k = 12 := by omega
      refine go_iload_n dX9_bits_4 rfl ?_
      refine go_bipush (v := 12) dX9_bits_5 (by decide) ?_
      refine go_icmp_ge (tgt := 24) dX9_bits_7 (by decide) (fun q7 => ?_) (fun zq => absurd (nI_le (a := 12) (b := 12) (by decide) (by decide)) zq)
      refine go_iload_n dX9_bits_24 rfl ?_
      refine go_iret dX9_bits_25 rfl rfl ?_
      exact ⟨by rw [ha, pcS s hs], rfl⟩
    | succ n ih =>
      intro k acc hk ha
      refine go_iload_n dX9_bits_4 rfl ?_
      refine go_bipush (v := 12) dX9_bits_5 (by decide) ?_
      refine go_icmp_ge (tgt := 24) dX9_bits_7 (by decide) (fun zq => absurd zq (nI_ge (a := k) (b := 12) (by omega) (by decide))) (fun q7 => ?_)
      refine go_iload_n dX9_bits_10 rfl ?_
      refine go_iload_n dX9_bits_11 rfl ?_
      refine go_iload_n dX9_bits_12 rfl ?_
      refine go_ishr dX9_bits_13 ?_
      refine go_iconst (v := 1) dX9_bits_14 (by decide) ?_
      refine go_iand dX9_bits_15 ?_
      refine go_iadd dX9_bits_16 ?_
      refine go_istore_n (L' := [_, _, _]) dX9_bits_17 rfl rfl rfl ?_
      refine go_iinc (v := nI (k + 1)) (L' := [_, _, _]) dX9_bits_18 rfl (nI_1 k) rfl rfl rfl ?_
      refine go_goto (tgt := 4) dX9_bits_21 (by decide) ?_
      exact ih (k + 1) _ (by omega) (by rw [ha]; rfl)
  refine go_iconst (v := 0) dX9_bits_0 (by decide) ?_
  refine go_istore_n (L' := [_, _, _]) dX9_bits_1 rfl rfl rfl ?_
  refine go_iconst (v := 0) dX9_bits_2 (by decide) ?_
  refine go_istore_n (L' := [_, _, _]) dX9_bits_3 rfl rfl rfl ?_
  exact key 12 0 0 rfl rfl
set_option maxRecDepth 100000 in
set_option maxHeartbeats 4000000 in
theorem rX9_person_1 {E : gE} {d : Nat} {nw i0 i1 : WorldS} {pd : PadS} {lv : LivesS} {pl : PlanS} {mt : MatS} {nt : NetS} {m : ModS} {p s t : Int32} (h1 : isInB p 0 5 = false) : Ret E yX9_person cX9_person 4 (some .int) (d + 1) 0 0 [.ref 52, .int p, .int s, .int t] (hp nw i0 i1 pd lv pl mt nt m) (dt (some (.int (-1))) (hp nw i0 i1 pd lv pl mt nt m)) := by
  refine ret_of_go (L := [_, _, _, _]) (by decide) (Nat.le_of_ble_eq_true rfl) rfl ?_
  refine go_iload_n dX9_person_0 rfl ?_
  refine go_iconst (v := 0) dX9_person_1 (by decide) ?_
  refine go_iconst (v := 5) dX9_person_2 (by decide) ?_
  refine go_cS (as := [_, _, _]) dX9_person_3 mX9_in kX9_48 tX9_in rfl rfl (rX9_in) rfl rfl rfl ?_
  refine go_bn_f dX9_person_6 h1 ?_
  refine go_iconst (v := (-1)) dX9_person_9 (by decide) ?_
  refine go_iret dX9_person_10 rfl rfl ?_
  exact ⟨rfl, rfl⟩
set_option maxRecDepth 100000 in
set_option maxHeartbeats 4000000 in
theorem rX9_person_2 {E : gE} {d : Nat} {nw i0 i1 : WorldS} {pd : PadS} {lv : LivesS} {pl : PlanS} {mt : MatS} {nt : NetS} {m : ModS} {p s t : Int32} (h1 : isInB p 0 5 = true) (h2 : isInB s 0 400 = false) : Ret E yX9_person cX9_person 4 (some .int) (d + 1) 0 0 [.ref 52, .int p, .int s, .int t] (hp nw i0 i1 pd lv pl mt nt m) (dt (some (.int (-2))) (hp nw i0 i1 pd lv pl mt nt m)) := by
  refine ret_of_go (L := [_, _, _, _]) (by decide) (Nat.le_of_ble_eq_true rfl) rfl ?_
  refine go_iload_n dX9_person_0 rfl ?_
  refine go_iconst (v := 0) dX9_person_1 (by decide) ?_
  refine go_iconst (v := 5) dX9_person_2 (by decide) ?_
  refine go_cS (as := [_, _, _]) dX9_person_3 mX9_in kX9_48 tX9_in rfl rfl (rX9_in) rfl rfl rfl ?_
  refine go_bn_t (tgt := 11) dX9_person_6 (by decide) h1 ?_
  refine go_iload_n dX9_person_11 rfl ?_
  refine go_iconst (v := 0) dX9_person_12 (by decide) ?_
  refine go_sipush (v := 400) dX9_person_13 (by decide) ?_
  refine go_cS (as := [_, _, _]) dX9_person_16 mX9_in kX9_48 tX9_in rfl rfl (rX9_in) rfl rfl rfl ?_
  refine go_be_f (tgt := 32) dX9_person_19 (by decide) h2 ?_
  refine go_bipush (v := (-2)) dX9_person_32 (by decide) ?_
  refine go_iret dX9_person_34 rfl rfl ?_
  exact ⟨rfl, rfl⟩
set_option maxRecDepth 100000 in
set_option maxHeartbeats 4000000 in
theorem rX9_person_3 {E : gE} {d : Nat} {nw i0 i1 : WorldS} {pd : PadS} {lv : LivesS} {pl : PlanS} {mt : MatS} {nt : NetS} {m : ModS} {p s t : Int32} (h1 : isInB p 0 5 = true) (h2 : isInB s 0 400 = true) (h3 : isInB t 0 9 = false) : Ret E yX9_person cX9_person 4 (some .int) (d + 1) 0 0 [.ref 52, .int p, .int s, .int t] (hp nw i0 i1 pd lv pl mt nt m) (dt (some (.int (-2))) (hp nw i0 i1 pd lv pl mt nt m)) := by
  refine ret_of_go (L := [_, _, _, _]) (by decide) (Nat.le_of_ble_eq_true rfl) rfl ?_
  refine go_iload_n dX9_person_0 rfl ?_
  refine go_iconst (v := 0) dX9_person_1 (by decide) ?_
  refine go_iconst (v := 5) dX9_person_2 (by decide) ?_
  refine go_cS (as := [_, _, _]) dX9_person_3 mX9_in kX9_48 tX9_in rfl rfl (rX9_in) rfl rfl rfl ?_
  refine go_bn_t (tgt := 11) dX9_person_6 (by decide) h1 ?_
  refine go_iload_n dX9_person_11 rfl ?_
  refine go_iconst (v := 0) dX9_person_12 (by decide) ?_
  refine go_sipush (v := 400) dX9_person_13 (by decide) ?_
  refine go_cS (as := [_, _, _]) dX9_person_16 mX9_in kX9_48 tX9_in rfl rfl (rX9_in) rfl rfl rfl ?_
  refine go_be_t dX9_person_19 h2 ?_
  refine go_iload_n dX9_person_22 rfl ?_
  refine go_iconst (v := 0) dX9_person_23 (by decide) ?_
  refine go_bipush (v := 9) dX9_person_24 (by decide) ?_
  refine go_cS (as := [_, _, _]) dX9_person_26 mX9_in kX9_48 tX9_in rfl rfl (rX9_in) rfl rfl rfl ?_
  refine go_bn_f dX9_person_29 h3 ?_
  refine go_bipush (v := (-2)) dX9_person_32 (by decide) ?_
  refine go_iret dX9_person_34 rfl rfl ?_
  exact ⟨rfl, rfl⟩
theorem hb_tb : ∀ t, t < 64 → ∀ p, p < 6 → hbB (nI t) (nI p) = tb t p := by decide +kernel
theorem nIp (a b : Nat) : (OfNat.ofNat a : Int32) + nI b = nI (a + b) := nI_add a b
theorem and_bit : ∀ s, s < 64 → ∀ p, p < 6 → nI s &&& (((1 : Int32) <<< (nI p &&& 31)) ^^^ (-1)) = nI (s &&& (63 ^^^ 2 ^ p)) ∧ s &&& (63 ^^^ 2 ^ p) < 64 := by decide +kernel
theorem n206 (a b : Nat) : (20 : Int32) + 6 * nI a + nI b = nI (20 + 6 * a + b) := by
  rw [show (6 : Int32) = nI 6 from rfl, show (20 : Int32) = nI 20 from rfl, pk_mul, nI_add, nI_add]
set_option maxRecDepth 100000 in
set_option maxHeartbeats 4000000 in
theorem rX9_person_4 {E : gE} {d : Nat} {nw i0 i1 : WorldS} {pd : PadS} {lv : LivesS} {pl : PlanS} {mt : MatS} {nt : NetS} {m : ModS} {k th : Nat} {s t : Int32} (ht : th < 64) (hk : k < 6) (h2 : isInB s 0 400 = true) (h3 : isInB t 0 9 = true) (h4 : tb th k = true) : Ret E yX9_person cX9_person 4 (some .int) (d + 1) 0 0 [.ref 52, .int (nI k), .int s, .int t] (hp nw i0 i1 pd lv pl mt nt (s_there m (nI th))) (dt (some (.int (nI (pcN (th ||| 2 ^ k))))) (hp nw i0 i1 pd lv pl mt nt (s_tail (s_book (s_there m (nI (th ||| 2 ^ k))) (upd (m_book m) k s)) (upd (m_tail m) k t)))) := by
  refine ret_of_go (L := [_, _, _, _]) (by decide) (Nat.le_of_ble_eq_true rfl) rfl ?_
  refine go_iload_n dX9_person_0 rfl ?_
  refine go_iconst (v := 0) dX9_person_1 (by decide) ?_
  refine go_iconst (v := 5) dX9_person_2 (by decide) ?_
  refine go_cS (as := [_, _, _]) dX9_person_3 mX9_in kX9_48 tX9_in rfl rfl (rX9_in) rfl rfl rfl ?_
  refine go_bn_t (tgt := 11) dX9_person_6 (by decide) (inB_of (k := k) (a := 0) (b := 5) (by omega) (by omega) (by decide)) ?_
  refine go_iload_n dX9_person_11 rfl ?_
  refine go_iconst (v := 0) dX9_person_12 (by decide) ?_
  refine go_sipush (v := 400) dX9_person_13 (by decide) ?_
  refine go_cS (as := [_, _, _]) dX9_person_16 mX9_in kX9_48 tX9_in rfl rfl (rX9_in) rfl rfl rfl ?_
  refine go_be_t dX9_person_19 h2 ?_
  refine go_iload_n dX9_person_22 rfl ?_
  refine go_iconst (v := 0) dX9_person_23 (by decide) ?_
  refine go_bipush (v := 9) dX9_person_24 (by decide) ?_
  refine go_cS (as := [_, _, _]) dX9_person_26 mX9_in kX9_48 tX9_in rfl rfl (rX9_in) rfl rfl rfl ?_
  refine go_bn_t (tgt := 35) dX9_person_29 (by decide) h3 ?_
  refine go_aload_n dX9_person_35 rfl ?_
  refine go_get dX9_person_36 fX9_52 rfl rfl ?_
  refine go_iload_n dX9_person_39 rfl ?_
  refine go_cS (as := [_, _]) dX9_person_40 mX9_has kX9_56 tX9_has rfl rfl (rX9_has) rfl rfl rfl ?_
  refine go_bn_t (tgt := 66) dX9_person_43 (by decide) (by rw [hb_tb th ht k hk]; exact h4) ?_
  refine go_aload_n dX9_person_66 rfl ?_
  refine go_dup dX9_person_67 rfl ?_
  refine go_get dX9_person_68 fX9_52 rfl rfl ?_
  refine go_iconst (v := 1) dX9_person_71 (by decide) ?_
  refine go_iload_n dX9_person_72 rfl ?_
  refine go_ishl dX9_person_73 ?_
  refine go_ior dX9_person_74 ?_
  refine go_topi_eq (or_bit th ht k hk).1 ?_
  refine go_put dX9_person_75 fX9_52 (fun _ => rfl) (fun _ => rfl) rfl rfl ?_
  refine go_aload_n dX9_person_78 rfl ?_
  refine go_get dX9_person_79 fX9_7 rfl rfl ?_
  refine go_iload_n dX9_person_82 rfl ?_
  refine go_iload_n dX9_person_83 rfl ?_
  refine go_iastN (k) dX9_person_84 rfl (by omega) rfl ?_
  refine go_aload_n dX9_person_85 rfl ?_
  refine go_get dX9_person_86 fX9_16 rfl rfl ?_
  refine go_iload_n dX9_person_89 rfl ?_
  refine go_iload_n dX9_person_90 rfl ?_
  refine go_iastN (k) dX9_person_91 rfl (by omega) rfl ?_
  refine go_aload_n dX9_person_92 rfl ?_
  refine go_get dX9_person_93 fX9_52 rfl rfl ?_
  refine go_cS (as := [_]) dX9_person_96 mX9_bits kX9_60 tX9_bits rfl rfl (rX9_bits (Nat.lt_of_lt_of_le (or_bit th ht k hk).2 (by decide))) rfl rfl rfl ?_
  refine go_iret dX9_person_99 rfl rfl ?_
  exact ⟨rfl, rfl⟩
set_option maxRecDepth 100000 in
set_option maxHeartbeats 4000000 in
theorem rX9_person_5 {E : gE} {d : Nat} {nw i0 i1 : WorldS} {pd : PadS} {lv : LivesS} {pl : PlanS} {mt : MatS} {nt : NetS} {m : ModS} {k th : Nat} {s t : Int32} (ht : th < 64) (hk : k < 6) (h2 : isInB s 0 400 = true) (h3 : isInB t 0 9 = true) (h4 : tb th k = false) : Ret E yX9_person cX9_person 4 (some .int) (d + 1) 0 0 [.ref 52, .int (nI k), .int s, .int t] (hp nw i0 i1 pd lv pl mt nt (s_there m (nI th))) (dt (some (.int (nI (pcN (th ||| 2 ^ k))))) (hp nw i0 i1 pd lv pl mt nt (s_tail (s_book (s_there m (nI (th ||| 2 ^ k))) (upd (upd (upd (m_book m) (6 + k) 0) (12 + k) 0) k s)) (upd (m_tail m) k t)))) := by
  refine ret_of_go (L := [_, _, _, _]) (by decide) (Nat.le_of_ble_eq_true rfl) rfl ?_
  refine go_iload_n dX9_person_0 rfl ?_
  refine go_iconst (v := 0) dX9_person_1 (by decide) ?_
  refine go_iconst (v := 5) dX9_person_2 (by decide) ?_
  refine go_cS (as := [_, _, _]) dX9_person_3 mX9_in kX9_48 tX9_in rfl rfl (rX9_in) rfl rfl rfl ?_
  refine go_bn_t (tgt := 11) dX9_person_6 (by decide) (inB_of (k := k) (a := 0) (b := 5) (by omega) (by omega) (by decide)) ?_
  refine go_iload_n dX9_person_11 rfl ?_
  refine go_iconst (v := 0) dX9_person_12 (by decide) ?_
  refine go_sipush (v := 400) dX9_person_13 (by decide) ?_
  refine go_cS (as := [_, _, _]) dX9_person_16 mX9_in kX9_48 tX9_in rfl rfl (rX9_in) rfl rfl rfl ?_
  refine go_be_t dX9_person_19 h2 ?_
  refine go_iload_n dX9_person_22 rfl ?_
  refine go_iconst (v := 0) dX9_person_23 (by decide) ?_
  refine go_bipush (v := 9) dX9_person_24 (by decide) ?_
  refine go_cS (as := [_, _, _]) dX9_person_26 mX9_in kX9_48 tX9_in rfl rfl (rX9_in) rfl rfl rfl ?_
  refine go_bn_t (tgt := 35) dX9_person_29 (by decide) h3 ?_
  refine go_aload_n dX9_person_35 rfl ?_
  refine go_get dX9_person_36 fX9_52 rfl rfl ?_
  refine go_iload_n dX9_person_39 rfl ?_
  refine go_cS (as := [_, _]) dX9_person_40 mX9_has kX9_56 tX9_has rfl rfl (rX9_has) rfl rfl rfl ?_
  refine go_bn_f dX9_person_43 (by rw [hb_tb th ht k hk]; exact h4) ?_
  refine go_aload_n dX9_person_46 rfl ?_
  refine go_get dX9_person_47 fX9_7 rfl rfl ?_
  refine go_bipush (v := 6) dX9_person_50 (by decide) ?_
  refine go_iload_n dX9_person_52 rfl ?_
  refine go_iadd dX9_person_53 ?_
  refine go_topi_eq (x := nI (6 + k)) (nI_add 6 k) ?_
  refine go_iconst (v := 0) dX9_person_54 (by decide) ?_
  refine go_iastN (6 + k) dX9_person_55 rfl (by omega) rfl ?_
  refine go_aload_n dX9_person_56 rfl ?_
  refine go_get dX9_person_57 fX9_7 rfl rfl ?_
  refine go_bipush (v := 12) dX9_person_60 (by decide) ?_
  refine go_iload_n dX9_person_62 rfl ?_
  refine go_iadd dX9_person_63 ?_
  refine go_topi_eq (x := nI (12 + k)) (nI_add 12 k) ?_
  refine go_iconst (v := 0) dX9_person_64 (by decide) ?_
  refine go_iastN (12 + k) dX9_person_65 rfl (by omega) rfl ?_
  refine go_aload_n dX9_person_66 rfl ?_
  refine go_dup dX9_person_67 rfl ?_
  refine go_get dX9_person_68 fX9_52 rfl rfl ?_
  refine go_iconst (v := 1) dX9_person_71 (by decide) ?_
  refine go_iload_n dX9_person_72 rfl ?_
  refine go_ishl dX9_person_73 ?_
  refine go_ior dX9_person_74 ?_
  refine go_topi_eq (or_bit th ht k hk).1 ?_
  refine go_put dX9_person_75 fX9_52 (fun _ => rfl) (fun _ => rfl) rfl rfl ?_
  refine go_aload_n dX9_person_78 rfl ?_
  refine go_get dX9_person_79 fX9_7 rfl rfl ?_
  refine go_iload_n dX9_person_82 rfl ?_
  refine go_iload_n dX9_person_83 rfl ?_
  refine go_iastN (k) dX9_person_84 rfl (by omega) rfl ?_
  refine go_aload_n dX9_person_85 rfl ?_
  refine go_get dX9_person_86 fX9_16 rfl rfl ?_
  refine go_iload_n dX9_person_89 rfl ?_
  refine go_iload_n dX9_person_90 rfl ?_
  refine go_iastN (k) dX9_person_91 rfl (by omega) rfl ?_
  refine go_aload_n dX9_person_92 rfl ?_
  refine go_get dX9_person_93 fX9_52 rfl rfl ?_
  refine go_cS (as := [_]) dX9_person_96 mX9_bits kX9_60 tX9_bits rfl rfl (rX9_bits (Nat.lt_of_lt_of_le (or_bit th ht k hk).2 (by decide))) rfl rfl rfl ?_
  refine go_iret dX9_person_99 rfl rfl ?_
  exact ⟨rfl, rfl⟩
set_option maxRecDepth 100000 in
set_option maxHeartbeats 4000000 in
theorem rX9_die_1 {E : gE} {d : Nat} {nw i0 i1 : WorldS} {pd : PadS} {lv : LivesS} {pl : PlanS} {mt : MatS} {nt : NetS} {m : ModS} {p : Int32} (h1 : hasB (m_there m) p = false) : Ret E yX9_die cX9_die 3 (some .int) (d + 2) 0 0 [.ref 52, .int p] (hp nw i0 i1 pd lv pl mt nt m) (dt (some (.int (-1))) (hp nw i0 i1 pd lv pl mt nt m)) := by
  refine ret_of_go (L := [_, _, _]) (by decide) (Nat.le_of_ble_eq_true rfl) rfl ?_
  refine go_aload_n dX9_die_0 rfl ?_
  refine go_iload_n dX9_die_1 rfl ?_
  refine go_cV (as := [_]) dX9_die_2 mX9_isThere kX9_64 iX9_isThere sX9_isThere rfl rfl rfl rfl (rX9_isThere) rfl rfl rfl ?_
  refine go_bn_f dX9_die_5 h1 ?_
  refine go_iconst (v := (-1)) dX9_die_8 (by decide) ?_
  refine go_iret dX9_die_9 rfl rfl ?_
  exact ⟨rfl, rfl⟩
def dieB (bk : Nat → Int32) (p : Nat) : Nat → (Nat → Int32)
  | 0 => bk
  | n + 1 => upd (upd (dieB bk p n) (20 + 6 * p + n) 0) (20 + 6 * n + p) 0
set_option maxRecDepth 100000 in
set_option maxHeartbeats 4000000 in
theorem rX9_die_2 {E : gE} {d : Nat} {nw i0 i1 : WorldS} {pd : PadS} {lv : LivesS} {pl : PlanS} {mt : MatS} {nt : NetS} {m : ModS} {k th : Nat} (ht : th < 64) (hk : k < 6) (h1 : hasB (nI th) (nI k) = true) : Ret E yX9_die cX9_die 3 (some .int) (d + 2) 0 0 [.ref 52, .int (nI k)] (hp nw i0 i1 pd lv pl mt nt (s_there m (nI th))) (dt (some (.int (nI (pcN (th &&& (63 ^^^ 2 ^ k)))))) (hp nw i0 i1 pd lv pl mt nt (s_book (s_there m (nI (th &&& (63 ^^^ 2 ^ k)))) (dieB (m_book m) k 6)))) := by
  refine ret_of_go (L := [_, _, _]) (by decide) (Nat.le_of_ble_eq_true rfl) rfl ?_
  have key : ∀ (n j : Nat), j + n = 6 → Go E yX9_die cX9_die 3 (some .int) (d + 2) 0 0 0 0 26 [some (.ref 52), some (.int (nI k)), some (.int (nI j))] [] (hp nw i0 i1 pd lv pl mt nt (s_book (s_there m (nI (th &&& (63 ^^^ 2 ^ k)))) (dieB (m_book m) k j))) (dt (some (.int (nI (pcN (th &&& (63 ^^^ 2 ^ k)))))) (hp nw i0 i1 pd lv pl mt nt (s_book (s_there m (nI (th &&& (63 ^^^ 2 ^ k)))) (dieB (m_book m) k 6)))) := by
    intro n
    induction n with
    | zero =>
      intro j hj
      obtain rfl : j = 6 := by omega
      refine go_iload_n dX9_die_26 rfl ?_
      refine go_bipush (v := 6) dX9_die_27 (by decide) ?_
      refine go_icmp_ge (tgt := 68) dX9_die_29 (by decide) (fun q29 => ?_) (fun zq => absurd (nI_le (a := 6) (b := 6) (by decide) (by decide)) zq)
      refine go_aload_n dX9_die_68 rfl ?_
      refine go_get dX9_die_69 fX9_52 rfl rfl ?_
      refine go_cS (as := [_]) dX9_die_72 mX9_bits kX9_60 tX9_bits rfl rfl (rX9_bits (Nat.lt_of_lt_of_le (and_bit th ht k hk).2 (by decide))) rfl rfl rfl ?_
      refine go_iret dX9_die_75 rfl rfl ?_
      exact ⟨rfl, rfl⟩
    | succ n ih =>
      intro j hj
      refine go_iload_n dX9_die_26 rfl ?_
      refine go_bipush (v := 6) dX9_die_27 (by decide) ?_
      refine go_icmp_ge (tgt := 68) dX9_die_29 (by decide) (fun zq => absurd zq (nI_ge (a := j) (b := 6) (by omega) (by decide))) (fun q29 => ?_)
      refine go_aload_n dX9_die_32 rfl ?_
      refine go_get dX9_die_33 fX9_7 rfl rfl ?_
      refine go_bipush (v := 20) dX9_die_36 (by decide) ?_
      refine go_bipush (v := 6) dX9_die_38 (by decide) ?_
      refine go_iload_n dX9_die_40 rfl ?_
      refine go_imul dX9_die_41 ?_
      refine go_iadd dX9_die_42 ?_
      refine go_iload_n dX9_die_43 rfl ?_
      refine go_iadd dX9_die_44 ?_
      refine go_topi_eq (n206 k j) ?_
      refine go_iconst (v := 0) dX9_die_45 (by decide) ?_
      refine go_iastN (20 + 6 * k + j) dX9_die_46 rfl (by omega) rfl ?_
      refine go_aload_n dX9_die_47 rfl ?_
      refine go_get dX9_die_48 fX9_7 rfl rfl ?_
      refine go_bipush (v := 20) dX9_die_51 (by decide) ?_
      refine go_bipush (v := 6) dX9_die_53 (by decide) ?_
      refine go_iload_n dX9_die_55 rfl ?_
      refine go_imul dX9_die_56 ?_
      refine go_iadd dX9_die_57 ?_
      refine go_iload_n dX9_die_58 rfl ?_
      refine go_iadd dX9_die_59 ?_
      refine go_topi_eq (n206 j k) ?_
      refine go_iconst (v := 0) dX9_die_60 (by decide) ?_
      refine go_iastN (20 + 6 * j + k) dX9_die_61 rfl (by omega) rfl ?_
      refine go_iinc (v := nI (j + 1)) (L' := [_, _, _]) dX9_die_62 rfl (nI_1 j) rfl rfl rfl ?_
      refine go_goto (tgt := 26) dX9_die_65 (by decide) ?_
      exact ih (j + 1) (by omega)
  refine go_aload_n dX9_die_0 rfl ?_
  refine go_iload_n dX9_die_1 rfl ?_
  refine go_cV (as := [_]) dX9_die_2 mX9_isThere kX9_64 iX9_isThere sX9_isThere rfl rfl rfl rfl (rX9_isThere) rfl rfl rfl ?_
  refine go_bn_t (tgt := 10) dX9_die_5 (by decide) h1 ?_
  refine go_aload_n dX9_die_10 rfl ?_
  refine go_dup dX9_die_11 rfl ?_
  refine go_get dX9_die_12 fX9_52 rfl rfl ?_
  refine go_iconst (v := 1) dX9_die_15 (by decide) ?_
  refine go_iload_n dX9_die_16 rfl ?_
  refine go_ishl dX9_die_17 ?_
  refine go_iconst (v := (-1)) dX9_die_18 (by decide) ?_
  refine go_ixor dX9_die_19 ?_
  refine go_iand dX9_die_20 ?_
  refine go_topi_eq (and_bit th ht k hk).1 ?_
  refine go_put dX9_die_21 fX9_52 (fun _ => rfl) (fun _ => rfl) rfl rfl ?_
  refine go_iconst (v := 0) dX9_die_24 (by decide) ?_
  refine go_istore_n (L' := [_, _, _]) dX9_die_25 rfl rfl rfl ?_
  exact key 6 0 rfl
def othF (W : Nat → Int32) (k : Nat) : Nat → Int32
  | 0 => 0
  | q + 1 => othF W k q + (if q + 1 = k then 0 else W (q + 1))
set_option maxRecDepth 100000 in
set_option maxHeartbeats 4000000 in
theorem rX9_weight_1 {E : gE} {d : Nat} {nw i0 i1 : WorldS} {pd : PadS} {lv : LivesS} {pl : PlanS} {mt : MatS} {nt : NetS} {m : ModS} {p v : Int32} (h1 : isInB p 1 9 = false) : Ret E yX9_weight cX9_weight 5 (some .int) (d + 1) 0 0 [.ref 52, .int p, .int v] (hp nw i0 i1 pd lv pl mt nt m) (dt (some (.int (-2))) (hp nw i0 i1 pd lv pl mt nt m)) := by
  refine ret_of_go (L := [_, _, _, _, _]) (by decide) (Nat.le_of_ble_eq_true rfl) rfl ?_
  refine go_iload_n dX9_weight_0 rfl ?_
  refine go_iconst (v := 1) dX9_weight_1 (by decide) ?_
  refine go_bipush (v := 9) dX9_weight_2 (by decide) ?_
  refine go_cS (as := [_, _, _]) dX9_weight_4 mX9_in kX9_48 tX9_in rfl rfl (rX9_in) rfl rfl rfl ?_
  refine go_be_f (tgt := 20) dX9_weight_7 (by decide) h1 ?_
  refine go_bipush (v := (-2)) dX9_weight_20 (by decide) ?_
  refine go_iret dX9_weight_22 rfl rfl ?_
  exact ⟨rfl, rfl⟩
set_option maxRecDepth 100000 in
set_option maxHeartbeats 4000000 in
theorem rX9_weight_2 {E : gE} {d : Nat} {nw i0 i1 : WorldS} {pd : PadS} {lv : LivesS} {pl : PlanS} {mt : MatS} {nt : NetS} {m : ModS} {p v : Int32} (h1 : isInB p 1 9 = true) (h2 : isInB v 0 9 = false) : Ret E yX9_weight cX9_weight 5 (some .int) (d + 1) 0 0 [.ref 52, .int p, .int v] (hp nw i0 i1 pd lv pl mt nt m) (dt (some (.int (-2))) (hp nw i0 i1 pd lv pl mt nt m)) := by
  refine ret_of_go (L := [_, _, _, _, _]) (by decide) (Nat.le_of_ble_eq_true rfl) rfl ?_
  refine go_iload_n dX9_weight_0 rfl ?_
  refine go_iconst (v := 1) dX9_weight_1 (by decide) ?_
  refine go_bipush (v := 9) dX9_weight_2 (by decide) ?_
  refine go_cS (as := [_, _, _]) dX9_weight_4 mX9_in kX9_48 tX9_in rfl rfl (rX9_in) rfl rfl rfl ?_
  refine go_be_t dX9_weight_7 h1 ?_
  refine go_iload_n dX9_weight_10 rfl ?_
  refine go_iconst (v := 0) dX9_weight_11 (by decide) ?_
  refine go_bipush (v := 9) dX9_weight_12 (by decide) ?_
  refine go_cS (as := [_, _, _]) dX9_weight_14 mX9_in kX9_48 tX9_in rfl rfl (rX9_in) rfl rfl rfl ?_
  refine go_bn_f dX9_weight_17 h2 ?_
  refine go_bipush (v := (-2)) dX9_weight_20 (by decide) ?_
  refine go_iret dX9_weight_22 rfl rfl ?_
  exact ⟨rfl, rfl⟩
set_option maxRecDepth 100000 in
set_option maxHeartbeats 4000000 in
theorem rX9_weight_3 {E : gE} {d : Nat} {nw i0 i1 : WorldS} {pd : PadS} {lv : LivesS} {pl : PlanS} {mt : MatS} {nt : NetS} {m : ModS} {k : Nat} {v : Int32} (hk1 : 1 ≤ k) (hk9 : k ≤ 9) (h2 : isInB v 0 9 = true) (h4 : othF (m_weight m) k 9 + v = 0) : Ret E yX9_weight cX9_weight 5 (some .int) (d + 1) 0 0 [.ref 52, .int (nI k), .int v] (hp nw i0 i1 pd lv pl mt nt m) (dt (some (.int (-3))) (hp nw i0 i1 pd lv pl mt nt m)) := by
  refine ret_of_go (L := [_, _, _, _, _]) (by decide) (Nat.le_of_ble_eq_true rfl) rfl ?_
  have key : ∀ (n j : Nat) (acc : Int32), j + n = 9 → acc = othF (m_weight m) k j → Go E yX9_weight cX9_weight 5 (some .int) (d + 1) 0 0 0 0 28 [some (.ref 52), some (.int (nI k)), some (.int v), some (.int acc), some (.int (nI (j + 1)))] [] (hp nw i0 i1 pd lv pl mt nt m) (dt (some (.int (-3))) (hp nw i0 i1 pd lv pl mt nt m)) := by
    intro n
    induction n with
    | zero =>
      intro j acc hj ha
      obtain rfl : j = 9 := by omega
      subst ha
      refine go_iload dX9_weight_28 rfl ?_
      refine go_bipush (v := 10) dX9_weight_30 (by decide) ?_
      refine go_icmp_ge (tgt := 61) dX9_weight_32 (by decide) (fun q32 => ?_) (fun zq => absurd (nI_le (a := 10) (b := 10) (by decide) (by decide)) zq)
      refine go_iload_n dX9_weight_61 rfl ?_
      refine go_iload_n dX9_weight_62 rfl ?_
      refine go_iadd dX9_weight_63 ?_
      refine go_if_ne (tgt := 70) dX9_weight_64 (by decide) (fun zq => absurd h4 zq) (fun q64 => ?_)
      refine go_bipush (v := (-3)) dX9_weight_67 (by decide) ?_
      refine go_iret dX9_weight_69 rfl rfl ?_
      exact ⟨rfl, rfl⟩
    | succ n ih =>
      intro j acc hj ha
      have e9 : (nI (j + 1) = nI k) = (j + 1 = k) := propext (nI_eq (by omega) (by omega))
      refine go_iload dX9_weight_28 rfl ?_
      refine go_bipush (v := 10) dX9_weight_30 (by decide) ?_
      refine go_icmp_ge (tgt := 61) dX9_weight_32 (by decide) (fun zq => absurd zq (nI_ge (a := j + 1) (b := 10) (by omega) (by decide))) (fun q32 => ?_)
      refine go_iload_n dX9_weight_35 rfl ?_
      refine go_iload dX9_weight_36 rfl ?_
      refine go_iload_n dX9_weight_38 rfl ?_
      refine go_icmp_ne (tgt := 46) dX9_weight_39 (by decide) (fun q39 => ?_) (fun q39 => ?_)
      · refine go_aload_n dX9_weight_46 rfl ?_
        refine go_get dX9_weight_47 fX9_19 rfl rfl ?_
        refine go_iload dX9_weight_50 rfl ?_
        refine go_ialdN (j + 1) dX9_weight_52 rfl (by omega) rfl ?_
        refine go_iadd dX9_weight_53 ?_
        refine go_istore_n (L' := [_, _, _, _, _]) dX9_weight_54 rfl rfl rfl ?_
        refine go_iinc (v := nI (j + 1 + 1)) (L' := [_, _, _, _, _]) dX9_weight_55 rfl (nI_1 (j + 1)) rfl rfl rfl ?_
        refine go_goto (tgt := 28) dX9_weight_58 (by decide) ?_
        exact ih (j + 1) _ (by omega) (by rw [ha, othF, if_neg (by rw [e9] at q39; exact q39)])
      · refine go_iconst (v := 0) dX9_weight_42 (by decide) ?_
        refine go_goto (tgt := 53) dX9_weight_43 (by decide) ?_
        refine go_iadd dX9_weight_53 ?_
        refine go_istore_n (L' := [_, _, _, _, _]) dX9_weight_54 rfl rfl rfl ?_
        refine go_iinc (v := nI (j + 1 + 1)) (L' := [_, _, _, _, _]) dX9_weight_55 rfl (nI_1 (j + 1)) rfl rfl rfl ?_
        refine go_goto (tgt := 28) dX9_weight_58 (by decide) ?_
        exact ih (j + 1) _ (by omega) (by rw [ha, othF, if_pos (by rw [e9] at q39; exact q39)])
  refine go_iload_n dX9_weight_0 rfl ?_
  refine go_iconst (v := 1) dX9_weight_1 (by decide) ?_
  refine go_bipush (v := 9) dX9_weight_2 (by decide) ?_
  refine go_cS (as := [_, _, _]) dX9_weight_4 mX9_in kX9_48 tX9_in rfl rfl (rX9_in) rfl rfl rfl ?_
  refine go_be_t dX9_weight_7 (inB_of (k := k) (a := 1) (b := 9) (by omega) (by omega) (by decide)) ?_
  refine go_iload_n dX9_weight_10 rfl ?_
  refine go_iconst (v := 0) dX9_weight_11 (by decide) ?_
  refine go_bipush (v := 9) dX9_weight_12 (by decide) ?_
  refine go_cS (as := [_, _, _]) dX9_weight_14 mX9_in kX9_48 tX9_in rfl rfl (rX9_in) rfl rfl rfl ?_
  refine go_bn_t (tgt := 23) dX9_weight_17 (by decide) h2 ?_
  refine go_iconst (v := 0) dX9_weight_23 (by decide) ?_
  refine go_istore_n (L' := [_, _, _, _, _]) dX9_weight_24 rfl rfl rfl ?_
  refine go_iconst (v := 1) dX9_weight_25 (by decide) ?_
  refine go_istore (L' := [_, _, _, _, _]) dX9_weight_26 rfl rfl rfl ?_
  exact key 9 0 0 rfl rfl
set_option maxRecDepth 100000 in
set_option maxHeartbeats 4000000 in
theorem rX9_weight_4 {E : gE} {d : Nat} {nw i0 i1 : WorldS} {pd : PadS} {lv : LivesS} {pl : PlanS} {mt : MatS} {nt : NetS} {m : ModS} {k : Nat} {v : Int32} (hk1 : 1 ≤ k) (hk9 : k ≤ 9) (h2 : isInB v 0 9 = true) (h4 : ¬ othF (m_weight m) k 9 + v = 0) : Ret E yX9_weight cX9_weight 5 (some .int) (d + 1) 0 0 [.ref 52, .int (nI k), .int v] (hp nw i0 i1 pd lv pl mt nt m) (dt (some (.int (m_weight m k))) (hp nw i0 i1 pd lv pl mt nt (s_weight m (upd (m_weight m) k v)))) := by
  refine ret_of_go (L := [_, _, _, _, _]) (by decide) (Nat.le_of_ble_eq_true rfl) rfl ?_
  have key : ∀ (n j : Nat) (acc : Int32), j + n = 9 → acc = othF (m_weight m) k j → Go E yX9_weight cX9_weight 5 (some .int) (d + 1) 0 0 0 0 28 [some (.ref 52), some (.int (nI k)), some (.int v), some (.int acc), some (.int (nI (j + 1)))] [] (hp nw i0 i1 pd lv pl mt nt m) (dt (some (.int (m_weight m k))) (hp nw i0 i1 pd lv pl mt nt (s_weight m (upd (m_weight m) k v)))) := by
    intro n
    induction n with
    | zero =>
      intro j acc hj ha
      obtain rfl : j = 9 := by omega
      subst ha
      refine go_iload dX9_weight_28 rfl ?_
      refine go_bipush (v := 10) dX9_weight_30 (by decide) ?_
      refine go_icmp_ge (tgt := 61) dX9_weight_32 (by decide) (fun q32 => ?_) (fun zq => absurd (nI_le (a := 10) (b := 10) (by decide) (by decide)) zq)
      refine go_iload_n dX9_weight_61 rfl ?_
      refine go_iload_n dX9_weight_62 rfl ?_
      refine go_iadd dX9_weight_63 ?_
      refine go_if_ne (tgt := 70) dX9_weight_64 (by decide) (fun q64 => ?_) (fun zq => absurd zq h4)
      refine go_aload_n dX9_weight_70 rfl ?_
      refine go_get dX9_weight_71 fX9_19 rfl rfl ?_
      refine go_iload_n dX9_weight_74 rfl ?_
      refine go_ialdN (k) dX9_weight_75 rfl (by omega) rfl ?_
      refine go_istore (L' := [_, _, _, _, _]) dX9_weight_76 rfl rfl rfl ?_
      refine go_aload_n dX9_weight_78 rfl ?_
      refine go_get dX9_weight_79 fX9_19 rfl rfl ?_
      refine go_iload_n dX9_weight_82 rfl ?_
      refine go_iload_n dX9_weight_83 rfl ?_
      refine go_iastN (k) dX9_weight_84 rfl (by omega) rfl ?_
      refine go_iload dX9_weight_85 rfl ?_
      refine go_iret dX9_weight_87 rfl rfl ?_
      exact ⟨rfl, rfl⟩
    | succ n ih =>
      intro j acc hj ha
      have e9 : (nI (j + 1) = nI k) = (j + 1 = k) := propext (nI_eq (by omega) (by omega))
      refine go_iload dX9_weight_28 rfl ?_
      refine go_bipush (v := 10) dX9_weight_30 (by decide) ?_
      refine go_icmp_ge (tgt := 61) dX9_weight_32 (by decide) (fun zq => absurd zq (nI_ge (a := j + 1) (b := 10) (by omega) (by decide))) (fun q32 => ?_)
      refine go_iload_n dX9_weight_35 rfl ?_
      refine go_iload dX9_weight_36 rfl ?_
      refine go_iload_n dX9_weight_38 rfl ?_
      refine go_icmp_ne (tgt := 46) dX9_weight_39 (by decide) (fun q39 => ?_) (fun q39 => ?_)
      · refine go_aload_n dX9_weight_46 rfl ?_
        refine go_get dX9_weight_47 fX9_19 rfl rfl ?_
        refine go_iload dX9_weight_50 rfl ?_
        refine go_ialdN (j + 1) dX9_weight_52 rfl (by omega) rfl ?_
        refine go_iadd dX9_weight_53 ?_
        refine go_istore_n (L' := [_, _, _, _, _]) dX9_weight_54 rfl rfl rfl ?_
        refine go_iinc (v := nI (j + 1 + 1)) (L' := [_, _, _, _, _]) dX9_weight_55 rfl (nI_1 (j + 1)) rfl rfl rfl ?_
        refine go_goto (tgt := 28) dX9_weight_58 (by decide) ?_
        exact ih (j + 1) _ (by omega) (by rw [ha, othF, if_neg (by rw [e9] at q39; exact q39)])
      · refine go_iconst (v := 0) dX9_weight_42 (by decide) ?_
        refine go_goto (tgt := 53) dX9_weight_43 (by decide) ?_
        refine go_iadd dX9_weight_53 ?_
        refine go_istore_n (L' := [_, _, _, _, _]) dX9_weight_54 rfl rfl rfl ?_
        refine go_iinc (v := nI (j + 1 + 1)) (L' := [_, _, _, _, _]) dX9_weight_55 rfl (nI_1 (j + 1)) rfl rfl rfl ?_
        refine go_goto (tgt := 28) dX9_weight_58 (by decide) ?_
        exact ih (j + 1) _ (by omega) (by rw [ha, othF, if_pos (by rw [e9] at q39; exact q39)])
  refine go_iload_n dX9_weight_0 rfl ?_
  refine go_iconst (v := 1) dX9_weight_1 (by decide) ?_
  refine go_bipush (v := 9) dX9_weight_2 (by decide) ?_
  refine go_cS (as := [_, _, _]) dX9_weight_4 mX9_in kX9_48 tX9_in rfl rfl (rX9_in) rfl rfl rfl ?_
  refine go_be_t dX9_weight_7 (inB_of (k := k) (a := 1) (b := 9) (by omega) (by omega) (by decide)) ?_
  refine go_iload_n dX9_weight_10 rfl ?_
  refine go_iconst (v := 0) dX9_weight_11 (by decide) ?_
  refine go_bipush (v := 9) dX9_weight_12 (by decide) ?_
  refine go_cS (as := [_, _, _]) dX9_weight_14 mX9_in kX9_48 tX9_in rfl rfl (rX9_in) rfl rfl rfl ?_
  refine go_bn_t (tgt := 23) dX9_weight_17 (by decide) h2 ?_
  refine go_iconst (v := 0) dX9_weight_23 (by decide) ?_
  refine go_istore_n (L' := [_, _, _, _, _]) dX9_weight_24 rfl rfl rfl ?_
  refine go_iconst (v := 1) dX9_weight_25 (by decide) ?_
  refine go_istore (L' := [_, _, _, _, _]) dX9_weight_26 rfl rfl rfl ?_
  exact key 9 0 0 rfl rfl
set_option maxRecDepth 100000 in
set_option maxHeartbeats 4000000 in
theorem rX9_say_1 {E : gE} {d : Nat} {nw i0 i1 : WorldS} {pd : PadS} {lv : LivesS} {pl : PlanS} {mt : MatS} {nt : NetS} {m : ModS} {x : Int32} (h1 : isInB x 33 126 = false) : Ret E yX9_say cX9_say 2 (some .int) (d + 1) 0 0 [.ref 52, .int x] (hp nw i0 i1 pd lv pl mt nt m) (dt (some (.int (-2))) (hp nw i0 i1 pd lv pl mt nt m)) := by
  refine ret_of_go (L := [_, _]) (by decide) (Nat.le_of_ble_eq_true rfl) rfl ?_
  refine go_iload_n dX9_say_0 rfl ?_
  refine go_bipush (v := 33) dX9_say_1 (by decide) ?_
  refine go_bipush (v := 126) dX9_say_3 (by decide) ?_
  refine go_cS (as := [_, _, _]) dX9_say_5 mX9_in kX9_48 tX9_in rfl rfl (rX9_in) rfl rfl rfl ?_
  refine go_bn_f dX9_say_8 h1 ?_
  refine go_bipush (v := (-2)) dX9_say_11 (by decide) ?_
  refine go_iret dX9_say_13 rfl rfl ?_
  exact ⟨rfl, rfl⟩
set_option maxRecDepth 100000 in
set_option maxHeartbeats 4000000 in
theorem rX9_say_2 {E : gE} {d : Nat} {nw i0 i1 : WorldS} {pd : PadS} {lv : LivesS} {pl : PlanS} {mt : MatS} {nt : NetS} {m : ModS} {x : Int32} {c : Nat} (h1 : isInB x 33 126 = true) (hc : c = 60) : Ret E yX9_say cX9_say 2 (some .int) (d + 1) 0 0 [.ref 52, .int x] (hp nw i0 i1 pd lv pl mt nt (s_said m (nI c))) (dt (some (.int (-4))) (hp nw i0 i1 pd lv pl mt nt (s_said m (nI c)))) := by
  refine ret_of_go (L := [_, _]) (by decide) (Nat.le_of_ble_eq_true rfl) rfl ?_
  refine go_iload_n dX9_say_0 rfl ?_
  refine go_bipush (v := 33) dX9_say_1 (by decide) ?_
  refine go_bipush (v := 126) dX9_say_3 (by decide) ?_
  refine go_cS (as := [_, _, _]) dX9_say_5 mX9_in kX9_48 tX9_in rfl rfl (rX9_in) rfl rfl rfl ?_
  refine go_bn_t (tgt := 14) dX9_say_8 (by decide) h1 ?_
  refine go_aload_n dX9_say_14 rfl ?_
  refine go_get dX9_say_15 fX9_68 rfl rfl ?_
  refine go_bipush (v := 60) dX9_say_18 (by decide) ?_
  refine go_icmp_ne (tgt := 26) dX9_say_20 (by decide) (fun zq => absurd (by subst hc; rfl) zq) (fun q20 => ?_)
  refine go_bipush (v := (-4)) dX9_say_23 (by decide) ?_
  refine go_iret dX9_say_25 rfl rfl ?_
  exact ⟨rfl, rfl⟩
set_option maxRecDepth 100000 in
set_option maxHeartbeats 4000000 in
theorem rX9_say_3 {E : gE} {d : Nat} {nw i0 i1 : WorldS} {pd : PadS} {lv : LivesS} {pl : PlanS} {mt : MatS} {nt : NetS} {m : ModS} {x : Int32} {c : Nat} (h1 : isInB x 33 126 = true) (hc : c < 60) : Ret E yX9_say cX9_say 2 (some .int) (d + 1) 0 0 [.ref 52, .int x] (hp nw i0 i1 pd lv pl mt nt (s_said m (nI c))) (dt (some (.int (nI (c + 1)))) (hp nw i0 i1 pd lv pl mt nt (s_pad (s_said m (nI (c + 1))) (upd (m_pad m) c x)))) := by
  refine ret_of_go (L := [_, _]) (by decide) (Nat.le_of_ble_eq_true rfl) rfl ?_
  refine go_iload_n dX9_say_0 rfl ?_
  refine go_bipush (v := 33) dX9_say_1 (by decide) ?_
  refine go_bipush (v := 126) dX9_say_3 (by decide) ?_
  refine go_cS (as := [_, _, _]) dX9_say_5 mX9_in kX9_48 tX9_in rfl rfl (rX9_in) rfl rfl rfl ?_
  refine go_bn_t (tgt := 14) dX9_say_8 (by decide) h1 ?_
  refine go_aload_n dX9_say_14 rfl ?_
  refine go_get dX9_say_15 fX9_68 rfl rfl ?_
  refine go_bipush (v := 60) dX9_say_18 (by decide) ?_
  refine go_icmp_ne (tgt := 26) dX9_say_20 (by decide) (fun q20 => ?_) (fun zq => absurd zq (fun h9 => absurd ((nI_eq (a := c) (b := 60) (by omega) (by decide)).mp h9) (by omega)))
  refine go_aload_n dX9_say_26 rfl ?_
  refine go_get dX9_say_27 fX9_25 rfl rfl ?_
  refine go_aload_n dX9_say_30 rfl ?_
  refine go_get dX9_say_31 fX9_68 rfl rfl ?_
  refine go_iload_n dX9_say_34 rfl ?_
  refine go_iastN (c) dX9_say_35 rfl (by omega) rfl ?_
  refine go_aload_n dX9_say_36 rfl ?_
  refine go_dup dX9_say_37 rfl ?_
  refine go_get dX9_say_38 fX9_68 rfl rfl ?_
  refine go_iconst (v := 1) dX9_say_41 (by decide) ?_
  refine go_iadd dX9_say_42 ?_
  refine go_topi_eq (nI_1 c) ?_
  refine go_put dX9_say_43 fX9_68 (fun _ => rfl) (fun _ => rfl) rfl rfl ?_
  refine go_aload_n dX9_say_46 rfl ?_
  refine go_get dX9_say_47 fX9_68 rfl rfl ?_
  refine go_iret dX9_say_50 rfl rfl ?_
  exact ⟨rfl, rfl⟩
set_option maxRecDepth 100000 in
set_option maxHeartbeats 4000000 in
theorem rX9_wipe_1 {E : gE} {d : Nat} {nw i0 i1 : WorldS} {pd : PadS} {lv : LivesS} {pl : PlanS} {mt : MatS} {nt : NetS} {m : ModS} {c : Nat} : Ret E yX9_wipe cX9_wipe 2 (some .int) d 0 0 [.ref 52] (hp nw i0 i1 pd lv pl mt nt (s_said m (nI c))) (dt (some (.int (nI c))) (hp nw i0 i1 pd lv pl mt nt (s_said m (nI 0)))) := by
  refine ret_of_go (L := [_, _]) (by decide) (Nat.le_of_ble_eq_true rfl) rfl ?_
  refine go_aload_n dX9_wipe_0 rfl ?_
  refine go_get dX9_wipe_1 fX9_68 rfl rfl ?_
  refine go_istore_n (L' := [_, _]) dX9_wipe_4 rfl rfl rfl ?_
  refine go_aload_n dX9_wipe_5 rfl ?_
  refine go_iconst (v := 0) dX9_wipe_6 (by decide) ?_
  refine go_put dX9_wipe_7 fX9_68 (fun _ => rfl) (fun _ => rfl) rfl rfl ?_
  refine go_iload_n dX9_wipe_10 rfl ?_
  refine go_iret dX9_wipe_11 rfl rfl ?_
  exact ⟨rfl, rfl⟩
