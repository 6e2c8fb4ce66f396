set_option maxRecDepth 100000 in
set_option maxHeartbeats 4000000 in
theorem dn_loop {E : gE} {d : Nat} {nw i0 i1 : WorldS} {pd : PadS} {lv : LivesS} {pl : PlanS} {mt : MatS} {nt : NetS} {m : ModS} {Q : Option Value → gH → Prop} (kk : Q (some (.int (m_many m))) (hp nw i0 i1 pd lv pl mt nt (s_said (s_book m (m_now m)) (nI 0)))) : ∀ n k : Nat, k + n = 61 → Go E yX9_done cX9_done 2 (some .int) (d + 5) 0 0 0 0 12 [some (.ref 52), some (.int (nI k))] [] (hp nw i0 i1 pd lv pl mt nt (s_book m (fil (m_now m) (m_book m) k))) Q
  | 0, k, hk => by
    obtain rfl : k = 61 := by omega
    refine go_ext (a := 53) (m_now m) rfl (fun j hj => fil_in hj) ?_
    refine go_iload_n dX9_done_12 rfl ?_
    refine go_bipush (v := 61) dX9_done_13 (by decide) ?_
    refine go_icmp_ge (tgt := 36) dX9_done_15 (by decide) (fun q15 => ?_) (fun zq => absurd (nI_le (a := 61) (b := 61) (by decide) (by decide)) zq)
    refine go_aload_n dX9_done_36 rfl ?_
    refine go_iconst (v := 0) dX9_done_37 (by decide) ?_
    refine go_put dX9_done_38 fX9_68 (fun _ => rfl) (fun _ => rfl) rfl rfl ?_
    refine go_aload_n dX9_done_41 rfl ?_
    refine go_get dX9_done_42 fX9_100 rfl rfl ?_
    refine go_iret dX9_done_45 rfl rfl ?_
    exact kk
  | n + 1, k, hk => by
    refine go_iload_n dX9_done_12 rfl ?_
    refine go_bipush (v := 61) dX9_done_13 (by decide) ?_
    refine go_icmp_ge (tgt := 36) dX9_done_15 (by decide) (fun zq => absurd zq (nI_ge (a := k) (b := 61) (by omega) (by decide))) (fun q15 => ?_)
    refine go_aload_n dX9_done_18 rfl ?_
    refine go_get dX9_done_19 fX9_7 rfl rfl ?_
    refine go_iload_n dX9_done_22 rfl ?_
    refine go_aload_n dX9_done_23 rfl ?_
    refine go_get dX9_done_24 fX9_13 rfl rfl ?_
    refine go_iload_n dX9_done_27 rfl ?_
    refine go_ialdN (k) dX9_done_28 rfl (by omega) rfl ?_
    refine go_iastN (k) dX9_done_29 rfl (by omega) rfl ?_
    refine go_iinc (v := nI (k + 1)) (L' := [_, _]) dX9_done_30 rfl (nI_1 k) rfl rfl rfl ?_
    refine go_goto (tgt := 12) dX9_done_33 (by decide) ?_
    have h9 := dn_loop (E := E) (d := d) kk n (k + 1) (by omega)
    rw [← fil_s] at h9
    exact h9
set_option maxRecDepth 100000 in
set_option maxHeartbeats 4000000 in
theorem rX9_done_1 {E : gE} {d : Nat} {nw i0 i1 : WorldS} {pd : PadS} {lv : LivesS} {pl : PlanS} {mt : MatS} {nt : NetS} {m : ModS} {c : Nat} (hc : c ≤ 60) (hff : ¬ ffR (m_pad m) c 0 0 = -6) : Ret E yX9_done cX9_done 2 (some .int) (d + 5) 0 0 [.ref 52] (hp nw i0 i1 pd lv pl mt nt (s_said m (nI c))) (dt (some (.int (-5))) (hp nw i0 i1 pd lv pl mt nt (s_said m (nI c)))) := by
  refine ret_of_go (L := [_, _]) (by decide) (Nat.le_of_ble_eq_true rfl) rfl ?_
  refine go_aload_n dX9_done_0 rfl ?_
  refine go_cV (as := []) dX9_done_1 mX9_barOfLives kX9_132 iX9_barOfLives sX9_barOfLives rfl rfl rfl rfl (rX9_barOfLives_f hc hff) rfl rfl rfl ?_
  refine go_if_ge (tgt := 10) dX9_done_4 (by decide) (fun zq => absurd zq (by decide)) (fun q4 => ?_)
  refine go_bipush (v := (-5)) dX9_done_7 (by decide) ?_
  refine go_iret dX9_done_9 rfl rfl ?_
  exact ⟨rfl, rfl⟩
set_option maxRecDepth 100000 in
set_option maxHeartbeats 4000000 in
theorem rX9_done_2 {E : gE} {d : Nat} {nw i0 i1 : WorldS} {pd : PadS} {lv : LivesS} {pl : PlanS} {mt : MatS} {nt : NetS} {m : ModS} {c th : Nat} {F0 : FolkS} {A0 : ActS} (ht : th < 64) (hc : c ≤ 60) (hff : ffR (m_pad m) c 0 0 = -6) (hFR : FR th F0 (m_book m)) (hFI : FI th F0) (hb : ¬ (tellF F0 A0 (m_pad m) c).2.2.2.1 = -6) : Ret E yX9_done cX9_done 2 (some .int) (d + 5) 0 0 [.ref 52] (hp nw i0 i1 pd lv pl mt nt (s_said (s_there m (nI th)) (nI c))) (lzQ (s_said (s_there m (nI th)) (nI c)) (fun zm => (hp nw i0 i1 pd lv pl mt nt zm)) (-5) (fun _ _ _ _ _ => True)) := by
  refine ret_of_go (L := [_, _]) (by decide) (Nat.le_of_ble_eq_true rfl) rfl ?_
  refine go_aload_n dX9_done_0 rfl ?_
  refine go_callV (as := []) dX9_done_1 mX9_barOfLives kX9_132 iX9_barOfLives sX9_barOfLives rfl rfl rfl rfl (rX9_bar_5 (A0 := A0) ht hc hff hFR hFI hb) rfl rfl rfl ?_
  intro r h2 hq
  obtain ⟨n2, s2, f2, r2, m2, b2, rfl, rfl, h0⟩ := hq
  refine go_if_ge (tgt := 10) dX9_done_4 (by decide) (fun zq => absurd zq (by decide)) (fun q4 => ?_)
  refine go_bipush (v := (-5)) dX9_done_7 (by decide) ?_
  refine go_iret dX9_done_9 rfl rfl ?_
  exact ⟨n2, s2, f2, r2, m2, b2, rfl, rfl, trivial⟩
def dnQ (M : ModS) (th : Nat) (lf : LivesS) (hh : ModS → gH) : Option Value → gH → Prop := fun r h => ∃ (nw : Nat → Int32) (sg fo rs mn br : Int32), h = hh (s_said (s_book (mG M nw sg fo rs mn br) nw) (nI 0)) ∧ r = some (.int lf.2.2.1) ∧ FR th lf.1 nw ∧ FI th lf.1
set_option maxRecDepth 100000 in
set_option maxHeartbeats 4000000 in
theorem rX9_done_3 {E : gE} {d : Nat} {nw i0 i1 : WorldS} {pd : PadS} {lv : LivesS} {pl : PlanS} {mt : MatS} {nt : NetS} {m : ModS} {c th : Nat} {F0 : FolkS} {A0 : ActS} (ht : th < 64) (hc : c ≤ 60) (hff : ffR (m_pad m) c 0 0 = -6) (hFR : FR th F0 (m_book m)) (hFI : FI th F0) (hb : (tellF F0 A0 (m_pad m) c).2.2.2.1 = -6) : Ret E yX9_done cX9_done 2 (some .int) (d + 5) 0 0 [.ref 52] (hp nw i0 i1 pd lv pl mt nt (s_said (s_there m (nI th)) (nI c))) (dnQ (s_said (s_there m (nI th)) (nI c)) th (tellF F0 A0 (m_pad m) c) (fun zm => (hp nw i0 i1 pd lv pl mt nt zm))) := by
  refine ret_of_go (L := [_, _]) (by decide) (Nat.le_of_ble_eq_true rfl) rfl ?_
  refine go_aload_n dX9_done_0 rfl ?_
  refine go_callV (as := []) dX9_done_1 mX9_barOfLives kX9_132 iX9_barOfLives sX9_barOfLives rfl rfl rfl rfl (rX9_bar_0 (A0 := A0) ht hc hff hFR hFI hb) rfl rfl rfl ?_
  intro r h2 hq
  obtain ⟨n2, s2, f2, r2, m2, b2, rfl, rfl, h0⟩ := hq
  refine go_if_ge (tgt := 10) dX9_done_4 (by decide) (fun q4 => ?_) (fun zq => absurd (by decide) zq)
  refine go_iconst (v := 0) dX9_done_10 (by decide) ?_
  refine go_istore_n (L' := [_, _]) dX9_done_11 rfl rfl rfl ?_
  have h9 := dn_loop (E := E) (d := d) (nw := nw) (i0 := i0) (i1 := i1) (pd := pd) (lv := lv) (pl := pl) (mt := mt) (nt := nt) (m := mG (s_said (s_there m (nI th)) (nI c)) n2 s2 f2 r2 m2 b2) (Q := dnQ (s_said (s_there m (nI th)) (nI c)) th (tellF F0 A0 (m_pad m) c) (fun zm => (hp nw i0 i1 pd lv pl mt nt zm))) ⟨n2, s2, f2, r2, m2, b2, rfl, by rw [← h0.2.2.1], h0.1, h0.2.1⟩ 61 0 rfl
  rw [fil_0] at h9
  exact h9
set_option maxRecDepth 100000 in
set_option maxHeartbeats 4000000 in
theorem rX9_weights {E : gE} {d : Nat} {nw i0 i1 : WorldS} {pd : PadS} {lv : LivesS} {pl : PlanS} {mt : MatS} {nt : NetS} {m : ModS} : Ret E yX9_weights cX9_weights 3 (some .int) d 0 0 [.ref 52] (hp nw i0 i1 pd lv pl mt nt m) (dt (some (.int (wsumF (m_weight m)))) (hp nw i0 i1 pd lv pl mt nt m)) := by
  refine ret_of_go (L := [_, _, _]) (by decide) (Nat.le_of_ble_eq_true rfl) rfl ?_
  have key : ∀ (n k : Nat) (acc : Int32), k + n = 9 → acc = sumI (fun k => m_weight m (k + 1)) k → Go E yX9_weights cX9_weights 3 (some .int) d 0 0 0 0 4 [some (.ref 52), some (.int acc), some (.int (nI (k + 1)))] [] (hp nw i0 i1 pd lv pl mt nt m) (dt (some (.int (wsumF (m_weight m)))) (hp nw i0 i1 pd lv pl mt nt m)) := by
    intro n
    induction n with
    | zero =>
      intro k acc hk ha
      obtain rfl : k = 9 := by omega
      refine go_iload_n dX9_weights_4 rfl ?_
      refine go_bipush (v := 10) dX9_weights_5 (by decide) ?_
      refine go_icmp_ge (tgt := 25) dX9_weights_7 (by decide) (fun q7 => ?_) (fun zq => absurd (nI_le (a := 10) (b := 10) (by decide) (by decide)) zq)
      refine go_iload_n dX9_weights_25 rfl ?_
      refine go_iret dX9_weights_26 rfl rfl ?_
      exact ⟨by rw [ha, wsumF], rfl⟩
    | succ n ih =>
      intro k acc hk ha
      refine go_iload_n dX9_weights_4 rfl ?_
      refine go_bipush (v := 10) dX9_weights_5 (by decide) ?_
      refine go_icmp_ge (tgt := 25) dX9_weights_7 (by decide) (fun zq => absurd zq (nI_ge (a := k + 1) (b := 10) (by omega) (by decide))) (fun q7 => ?_)
      refine go_iload_n dX9_weights_10 rfl ?_
      refine go_aload_n dX9_weights_11 rfl ?_
      refine go_get dX9_weights_12 fX9_19 rfl rfl ?_
      refine go_iload_n dX9_weights_15 rfl ?_
      refine go_ialdN (k + 1) dX9_weights_16 rfl (by omega) rfl ?_
      refine go_iadd dX9_weights_17 ?_
      refine go_istore_n (L' := [_, _, _]) dX9_weights_18 rfl rfl rfl ?_
      refine go_iinc (v := nI (k + 1 + 1)) (L' := [_, _, _]) dX9_weights_19 rfl (nI_1 (k + 1)) rfl rfl rfl ?_
      refine go_goto (tgt := 4) dX9_weights_22 (by decide) ?_
      exact ih (k + 1) _ (by omega) (by rw [ha]; rfl)
  refine go_iconst (v := 0) dX9_weights_0 (by decide) ?_
  refine go_istore_n (L' := [_, _, _]) dX9_weights_1 rfl rfl rfl ?_
  refine go_iconst (v := 1) dX9_weights_2 (by decide) ?_
  refine go_istore_n (L' := [_, _, _]) dX9_weights_3 rfl rfl rfl ?_
  exact key 9 0 0 rfl rfl
set_option maxRecDepth 100000 in
set_option maxHeartbeats 4000000 in
theorem rX9_power {E : gE} {d : Nat} {b : Int64} {n : Nat} {h : gH} (hn : n ≤ 1000) : Ret E yX9_power cX9_power 6 (some .long) d 0 0 [.long b, .int (nI n)] h (dt (some (.long (pwL b n))) h) := by
  refine ret_of_go (L := [_, _, _, _, _, _]) (by decide) (Nat.le_of_ble_eq_true rfl) rfl ?_
  have key : ∀ (j k : Nat) (acc : Int64), k + j = n → acc = pwL b k → Go E yX9_power cX9_power 6 (some .long) d 0 0 0 0 5 [some (.long b), none, some (.int (nI n)), some (.long acc), none, some (.int (nI k))] [] h (dt (some (.long (pwL b n))) h) := by
    intro j
    induction j with
    | zero =>
      intro k acc hk ha
      obtain rfl : k = n := by omega
      refine go_iload dX9_power_5 rfl ?_
      refine go_iload_n dX9_power_7 rfl ?_
      refine go_icmp_ge (tgt := 21) dX9_power_8 (by decide) (fun q8 => ?_) (fun zq => absurd (nI_le (Nat.le_refl _) (by omega)) zq)
      refine go_lload_n dX9_power_21 rfl ?_
      refine go_lret dX9_power_22 rfl rfl ?_
      exact ⟨by rw [ha], rfl⟩
    | succ j ih =>
      intro k acc hk ha
      refine go_iload dX9_power_5 rfl ?_
      refine go_iload_n dX9_power_7 rfl ?_
      refine go_icmp_ge (tgt := 21) dX9_power_8 (by decide) (fun zq => absurd zq (nI_ge (a := k) (b := n) (by omega) (by omega))) (fun q8 => ?_)
      refine go_lload_n dX9_power_11 rfl ?_
      refine go_lload_n dX9_power_12 rfl ?_
      refine go_lmul dX9_power_13 ?_
      refine go_lstore_n (L' := [_, _, _, _, _, _]) dX9_power_14 rfl rfl rfl ?_
      refine go_iinc (v := nI (k + 1)) (L' := [_, _, _, _, _, _]) dX9_power_15 rfl (nI_1 k) rfl rfl rfl ?_
      refine go_goto (tgt := 5) dX9_power_18 (by decide) ?_
      exact ih (k + 1) _ (by omega) (by rw [ha]; rfl)
  refine go_lconst (v := 1) dX9_power_0 (by decide) ?_
  refine go_lstore_n (L' := [_, _, _, _, _, _]) dX9_power_1 rfl rfl rfl ?_
  refine go_iconst (v := 0) dX9_power_2 (by decide) ?_
  refine go_istore (L' := [_, _, _, _, _, _]) dX9_power_3 rfl rfl rfl ?_
  exact key n 0 1 (by omega) rfl
def chR (n k : Nat) : Nat → Int64
  | 0 => 1
  | i + 1 => chR n k i * (nI (n - k + (i + 1))).toInt64 / (nI (i + 1)).toInt64
def amR (q t : Nat) : Nat → Int64
  | 0 => 0
  | i + 1 => amR q t i + chR q i i * pwL (nI t).toInt64 i * pwL (10 - (nI t).toInt64) (q - i)
set_option maxRecDepth 100000 in
set_option maxHeartbeats 4000000 in
theorem rX9_choices {E : gE} {d : Nat} {n k : Nat} {h : gH} (hn : n ≤ 900) (hk : k ≤ n) : Ret E yX9_choices cX9_choices 5 (some .long) d 0 0 [.int (nI n), .int (nI k)] h (dt (some (.long (chR n k k))) h) := by
  refine ret_of_go (L := [_, _, _, _, _]) (by decide) (Nat.le_of_ble_eq_true rfl) rfl ?_
  have key : ∀ (j i : Nat), i + j = k → Go E yX9_choices cX9_choices 5 (some .long) d 0 0 0 0 5 [some (.int (nI n)), some (.int (nI k)), some (.long (chR n k i)), none, some (.int (nI (i + 1)))] [] h (dt (some (.long (chR n k k))) h) := by
    intro j
    induction j with
    | zero =>
      intro i hi
      obtain rfl : i = k := by omega
      refine go_iload dX9_choices_5 rfl ?_
      refine go_iload_n dX9_choices_7 rfl ?_
      refine go_icmp_gt (tgt := 31) dX9_choices_8 (by decide) (fun q8 => ?_) (fun zq => absurd (nI_lt (a := i) (b := i + 1) (by omega) (by omega)) zq)
      refine go_lload_n dX9_choices_31 rfl ?_
      refine go_lret dX9_choices_32 rfl rfl ?_
      exact ⟨rfl, rfl⟩
    | succ j ih =>
      intro i hi
      refine go_iload dX9_choices_5 rfl ?_
      refine go_iload_n dX9_choices_7 rfl ?_
      refine go_icmp_gt (tgt := 31) dX9_choices_8 (by decide) (fun zq => absurd zq (nI_nlt (a := k) (b := i + 1) (by omega) (by omega))) (fun q8 => ?_)
      refine go_lload_n dX9_choices_11 rfl ?_
      refine go_iload_n dX9_choices_12 rfl ?_
      refine go_iload_n dX9_choices_13 rfl ?_
      refine go_isub dX9_choices_14 ?_
      refine go_topi_eq (x := nI (n - k)) (pk_sub hk) ?_
      refine go_iload dX9_choices_15 rfl ?_
      refine go_iadd dX9_choices_17 ?_
      refine go_topi_eq (x := nI (n - k + (i + 1))) (nI_add (n - k) (i + 1)) ?_
      refine go_i2l dX9_choices_18 ?_
      refine go_lmul dX9_choices_19 ?_
      refine go_iload dX9_choices_20 rfl ?_
      refine go_i2l dX9_choices_22 ?_
      refine go_ldiv dX9_choices_23 (i64_ne0 (by omega)) ?_
      refine go_lstore_n (L' := [_, _, _, _, _]) dX9_choices_24 rfl rfl rfl ?_
      refine go_iinc (v := nI (i + 1 + 1)) (L' := [_, _, _, _, _]) dX9_choices_25 rfl (nI_1 (i + 1)) rfl rfl rfl ?_
      refine go_goto (tgt := 5) dX9_choices_28 (by decide) ?_
      exact ih (i + 1) (by omega)
  refine go_lconst (v := 1) dX9_choices_0 (by decide) ?_
  refine go_lstore_n (L' := [_, _, _, _, _]) dX9_choices_1 rfl rfl rfl ?_
  refine go_iconst (v := 1) dX9_choices_2 (by decide) ?_
  refine go_istore (L' := [_, _, _, _, _]) dX9_choices_3 rfl rfl rfl ?_
  exact key k 0 (by omega)
set_option maxRecDepth 100000 in
set_option maxHeartbeats 4000000 in
theorem rX9_atMost {E : gE} {d : Nat} {a q t : Nat} {h : gH} (ha : a ≤ 400) (hq : q ≤ 9) : Ret E yX9_atMost cX9_atMost 6 (some .long) (d + 1) 0 0 [.int (nI q), .int (nI a), .int (nI t)] h (dt (some (.long (amR q t (min a q + 1)))) h) := by
  refine ret_of_go (L := [_, _, _, _, _, _]) (by decide) (Nat.le_of_ble_eq_true rfl) rfl ?_
  have key : ∀ (j k : Nat), k + j = min a q + 1 → Go E yX9_atMost cX9_atMost 6 (some .long) (d + 1) 0 0 0 0 5 [some (.int (nI q)), some (.int (nI a)), some (.int (nI t)), some (.long (amR q t k)), none, some (.int (nI k))] [] h (dt (some (.long (amR q t (min a q + 1)))) h) := by
    intro j
    induction j with
    | zero =>
      intro k hk
      obtain rfl : k = min a q + 1 := by omega
      by_cases h9 : q < min a q + 1
      · refine go_iload dX9_atMost_5 rfl ?_
        refine go_iload_n dX9_atMost_7 rfl ?_
        refine go_icmp_gt (tgt := 54) dX9_atMost_8 (by decide) (fun q8 => ?_) (fun zq => absurd (nI_lt h9 (by omega)) zq)
        refine go_lload_n dX9_atMost_54 rfl ?_
        refine go_lret dX9_atMost_55 rfl rfl ?_
        exact ⟨rfl, rfl⟩
      · refine go_iload dX9_atMost_5 rfl ?_
        refine go_iload_n dX9_atMost_7 rfl ?_
        refine go_icmp_gt (tgt := 54) dX9_atMost_8 (by decide) (fun zq => absurd zq (nI_nlt (Nat.not_lt.mp h9) (by omega))) (fun q8 => ?_)
        refine go_iload dX9_atMost_11 rfl ?_
        refine go_iload_n dX9_atMost_13 rfl ?_
        refine go_icmp_gt (tgt := 54) dX9_atMost_14 (by decide) (fun q14 => ?_) (fun zq => absurd (nI_lt (a := a) (b := min a q + 1) (by omega) (by omega)) zq)
        refine go_lload_n dX9_atMost_54 rfl ?_
        refine go_lret dX9_atMost_55 rfl rfl ?_
        exact ⟨rfl, rfl⟩
    | succ j ih =>
      intro k hk
      refine go_iload dX9_atMost_5 rfl ?_
      refine go_iload_n dX9_atMost_7 rfl ?_
      refine go_icmp_gt (tgt := 54) dX9_atMost_8 (by decide) (fun zq => absurd zq (nI_nlt (a := q) (b := k) (by omega) (by omega))) (fun q8 => ?_)
      refine go_iload dX9_atMost_11 rfl ?_
      refine go_iload_n dX9_atMost_13 rfl ?_
      refine go_icmp_gt (tgt := 54) dX9_atMost_14 (by decide) (fun zq => absurd zq (nI_nlt (a := a) (b := k) (by omega) (by omega))) (fun q14 => ?_)
      refine go_lload_n dX9_atMost_17 rfl ?_
      refine go_iload_n dX9_atMost_18 rfl ?_
      refine go_iload dX9_atMost_19 rfl ?_
      refine go_cS (as := [_, _]) dX9_atMost_21 mX9_choices kX9_156 tX9_choices rfl rfl (rX9_choices (n := q) (k := k) (by omega) (by omega)) rfl rfl rfl ?_
      refine go_iload_n dX9_atMost_24 rfl ?_
      refine go_i2l dX9_atMost_25 ?_
      refine go_iload dX9_atMost_26 rfl ?_
      refine go_cS (as := [_, _]) dX9_atMost_28 mX9_power kX9_140 tX9_power rfl rfl (rX9_power (n := k) (by omega)) rfl rfl rfl ?_
      refine go_lmul dX9_atMost_31 ?_
      refine go_ldc2_w dX9_atMost_32 nX9_160 ?_
      refine go_iload_n dX9_atMost_35 rfl ?_
      refine go_i2l dX9_atMost_36 ?_
      refine go_lsub dX9_atMost_37 ?_
      refine go_iload_n dX9_atMost_38 rfl ?_
      refine go_iload dX9_atMost_39 rfl ?_
      refine go_isub dX9_atMost_41 ?_
      refine go_topi_eq (pk_sub (by omega)) ?_
      refine go_cS (as := [_, _]) dX9_atMost_42 mX9_power kX9_140 tX9_power rfl rfl (rX9_power (n := q - k) (by omega)) rfl rfl rfl ?_
      refine go_lmul dX9_atMost_45 ?_
      refine go_ladd dX9_atMost_46 ?_
      refine go_lstore_n (L' := [_, _, _, _, _, _]) dX9_atMost_47 rfl rfl rfl ?_
      refine go_iinc (v := nI (k + 1)) (L' := [_, _, _, _, _, _]) dX9_atMost_48 rfl (nI_1 k) rfl rfl rfl ?_
      refine go_goto (tgt := 5) dX9_atMost_51 (by decide) ?_
      exact ih (k + 1) (by omega)
  refine go_lconst (v := 0) dX9_atMost_0 (by decide) ?_
  refine go_lstore_n (L' := [_, _, _, _, _, _]) dX9_atMost_1 rfl rfl rfl ?_
  refine go_iconst (v := 0) dX9_atMost_2 (by decide) ?_
  refine go_istore (L' := [_, _, _, _, _, _]) dX9_atMost_3 rfl rfl rfl ?_
  exact key (min a q + 1) 0 (by omega)
