/-- an answer r0, the model's book as it was, and what P says of its NOW -/
def lzQ (M : ModS) (hh : ModS → gH) (r0 : Int32) (P : (Nat → Int32) → Int32 → Int32 → Int32 → Int32 → Prop) : Option Value → gH → Prop := fun r h => ∃ (nw : Nat → Int32) (sg fo rs mn br : Int32), h = hh (mG M nw sg fo rs mn br) ∧ r = some (.int r0) ∧ P nw sg rs mn br
/-- all can be: the model's NOW is the class's folk behind LIVES -/
def lzP (th : Nat) (lf : LivesS) : (Nat → Int32) → Int32 → Int32 → Int32 → Int32 → Prop := fun nw sg _ mn br => FR th lf.1 nw ∧ FI th lf.1 ∧ mn = lf.2.2.1 ∧ sg = lf.2.2.2.2.2.1 ∧ br = lf.2.2.2.2.2.2
theorem ff_rng {S : Nat → Int32} : ∀ (n j t : Nat), j + n ≤ 1000 → ffR S n j t = -6 ∨ 0 ≤ ffR S n j t
  | 0, j, t, h => by
    rw [ffR]
    split
    · exact Or.inl rfl
    · exact Or.inr (nI_nn (by omega))
  | n + 1, j, t, h => by
    rw [ffR]
    split
    · exact Or.inr (nI_nn (by omega))
    · exact ff_rng n (j + 1) _ (by omega)
theorem ff_ge {S : Nat → Int32} {c : Nat} (hc : c ≤ 60) (h : ¬ ffR S c 0 0 = -6) : 0 ≤ ffR S c 0 0 := (ff_rng c 0 0 (by omega)).resolve_left h
set_option maxRecDepth 100000 in
set_option maxHeartbeats 4000000 in
theorem rX9_barOfLives_f {E : gE} {d : Nat} {nw i0 i1 : WorldS} {pd : PadS} {lv : LivesS} {pl : PlanS} {mt : MatS} {nt : NetS} {m : ModS} {c : Nat} (hc : c ≤ 60) (hff : ¬ ffR (m_pad m) c 0 0 = -6) : Ret E yX9_barOfLives cX9_barOfLives 1 (some .int) (d + 4) 0 0 [.ref 52] (hp nw i0 i1 pd lv pl mt nt (s_said m (nI c))) (dt (some (.int (-5))) (hp nw i0 i1 pd lv pl mt nt (s_said m (nI c)))) := by
  refine ret_of_go (L := [_]) (by decide) (Nat.le_of_ble_eq_true rfl) rfl ?_
  refine go_aload_n dX9_barOfLives_0 rfl ?_
  refine go_cV (as := []) dX9_barOfLives_1 mX9_faultOf kX9_80 iX9_faultOf sX9_faultOf rfl rfl rfl rfl (rX9_faultOf hc) rfl rfl rfl ?_
  refine go_if_ge (tgt := 14) dX9_barOfLives_4 (by decide) (fun q4 => ?_) (fun zq => absurd (ff_ge hc hff) zq)
  refine go_bipush (v := (-5)) dX9_barOfLives_14 (by decide) ?_
  refine go_goto (tgt := 20) dX9_barOfLives_16 (by decide) ?_
  refine go_iret dX9_barOfLives_20 rfl rfl ?_
  exact ⟨rfl, rfl⟩
set_option maxRecDepth 100000 in
set_option maxHeartbeats 4000000 in
theorem rX9_bar_0 {E : gE} {d : Nat} {nw i0 i1 : WorldS} {pd : PadS} {lv : LivesS} {pl : PlanS} {mt : MatS} {nt : NetS} {m : ModS} {c th : Nat} {F0 : FolkS} {A0 : ActS} (ht : th < 64) (hc : c ≤ 60) (hff : ffR (m_pad m) c 0 0 = -6) (hFR : FR th F0 (m_book m)) (hFI : FI th F0) (hb : (tellF F0 A0 (m_pad m) c).2.2.2.1 = -6) : Ret E yX9_barOfLives cX9_barOfLives 1 (some .int) (d + 4) 0 0 [.ref 52] (hp nw i0 i1 pd lv pl mt nt (s_said (s_there m (nI th)) (nI c))) (lzQ (s_said (s_there m (nI th)) (nI c)) (fun zm => (hp nw i0 i1 pd lv pl mt nt zm)) 0 (lzP th (tellF F0 A0 (m_pad m) c))) := by
  refine ret_of_go (L := [_]) (by decide) (Nat.le_of_ble_eq_true rfl) rfl ?_
  refine go_aload_n dX9_barOfLives_0 rfl ?_
  refine go_cV (as := []) dX9_barOfLives_1 mX9_faultOf kX9_80 iX9_faultOf sX9_faultOf rfl rfl rfl rfl (rX9_faultOf hc) rfl rfl rfl ?_
  refine go_topi_eq (x := -6) hff ?_
  refine go_if_ge (tgt := 14) dX9_barOfLives_4 (by decide) (fun zq => absurd zq (by decide)) (fun q4 => ?_)
  refine go_aload_n dX9_barOfLives_7 rfl ?_
  refine go_callV (as := []) dX9_barOfLives_8 mX9_goLives kX9_129 iX9_goLives sX9_goLives rfl rfl rfl rfl (rX9_goLives (A0 := A0) ht hc hff hFR hFI) rfl rfl rfl ?_
  intro r h2 hq
  obtain ⟨n2, s2, f2, r2, m2, b2, rfl, rfl, h0, h1⟩ := hq
  refine go_if_lt (tgt := 19) dX9_barOfLives_11 (by decide) (fun q11 => ?_) (fun zq => absurd (by rw [hb]; decide) zq)
  refine go_iconst (v := 0) dX9_barOfLives_19 (by decide) ?_
  refine go_iret dX9_barOfLives_20 rfl rfl ?_
  exact ⟨n2, s2, f2, r2, m2, b2, rfl, rfl, (h0 hb).1, (h0 hb).2.1, (h0 hb).2.2.1, (h0 hb).2.2.2.1, (h0 hb).2.2.2.2.1⟩
set_option maxRecDepth 100000 in
set_option maxHeartbeats 4000000 in
theorem rX9_bar_5 {E : gE} {d : Nat} {nw i0 i1 : WorldS} {pd : PadS} {lv : LivesS} {pl : PlanS} {mt : MatS} {nt : NetS} {m : ModS} {c th : Nat} {F0 : FolkS} {A0 : ActS} (ht : th < 64) (hc : c ≤ 60) (hff : ffR (m_pad m) c 0 0 = -6) (hFR : FR th F0 (m_book m)) (hFI : FI th F0) (hb : ¬ (tellF F0 A0 (m_pad m) c).2.2.2.1 = -6) : Ret E yX9_barOfLives cX9_barOfLives 1 (some .int) (d + 4) 0 0 [.ref 52] (hp nw i0 i1 pd lv pl mt nt (s_said (s_there m (nI th)) (nI c))) (lzQ (s_said (s_there m (nI th)) (nI c)) (fun zm => (hp nw i0 i1 pd lv pl mt nt zm)) (-5) (fun _ _ _ _ _ => True)) := by
  refine ret_of_go (L := [_]) (by decide) (Nat.le_of_ble_eq_true rfl) rfl ?_
  refine go_aload_n dX9_barOfLives_0 rfl ?_
  refine go_cV (as := []) dX9_barOfLives_1 mX9_faultOf kX9_80 iX9_faultOf sX9_faultOf rfl rfl rfl rfl (rX9_faultOf hc) rfl rfl rfl ?_
  refine go_topi_eq (x := -6) hff ?_
  refine go_if_ge (tgt := 14) dX9_barOfLives_4 (by decide) (fun zq => absurd zq (by decide)) (fun q4 => ?_)
  refine go_aload_n dX9_barOfLives_7 rfl ?_
  refine go_callV (as := []) dX9_barOfLives_8 mX9_goLives kX9_129 iX9_goLives sX9_goLives rfl rfl rfl rfl (rX9_goLives (A0 := A0) ht hc hff hFR hFI) rfl rfl rfl ?_
  intro r h2 hq
  obtain ⟨n2, s2, f2, r2, m2, b2, rfl, rfl, h0, h1⟩ := hq
  refine go_if_lt (tgt := 19) dX9_barOfLives_11 (by decide) (fun zq => absurd zq (fun zq => absurd (h1 hb).2 (Int32.not_le.mpr zq))) (fun q11 => ?_)
  refine go_bipush (v := (-5)) dX9_barOfLives_14 (by decide) ?_
  refine go_goto (tgt := 20) dX9_barOfLives_16 (by decide) ?_
  refine go_iret dX9_barOfLives_20 rfl rfl ?_
  exact ⟨n2, s2, f2, r2, m2, b2, rfl, rfl, trivial⟩
set_option maxRecDepth 100000 in
set_option maxHeartbeats 4000000 in
theorem rX9_judge_1 {E : gE} {d : Nat} {nw i0 i1 : WorldS} {pd : PadS} {lv : LivesS} {pl : PlanS} {mt : MatS} {nt : NetS} {m : ModS} {w : Int32} (h1 : isInB w 0 1 = false) : Ret E yX9_judge cX9_judge 3 (some .int) (d + 1) 0 0 [.ref 52, .int w] (hp nw i0 i1 pd lv pl mt nt m) (dt (some (.int (-2))) (hp nw i0 i1 pd lv pl mt nt m)) := by
  refine ret_of_go (L := [_, _, _]) (by decide) (Nat.le_of_ble_eq_true rfl) rfl ?_
  refine go_iload_n dX9_judge_0 rfl ?_
  refine go_iconst (v := 0) dX9_judge_1 (by decide) ?_
  refine go_iconst (v := 1) dX9_judge_2 (by decide) ?_
  refine go_cS (as := [_, _, _]) dX9_judge_3 mX9_in kX9_48 tX9_in rfl rfl (rX9_in) rfl rfl rfl ?_
  refine go_bn_f dX9_judge_6 h1 ?_
  refine go_bipush (v := (-2)) dX9_judge_9 (by decide) ?_
  refine go_iret dX9_judge_11 rfl rfl ?_
  exact ⟨rfl, rfl⟩
set_option maxRecDepth 100000 in
set_option maxHeartbeats 4000000 in
theorem rX9_judge_2 {E : gE} {d : Nat} {nw i0 i1 : WorldS} {pd : PadS} {lv : LivesS} {pl : PlanS} {mt : MatS} {nt : NetS} {m : ModS} {w : Int32} {c : Nat} (hc : c ≤ 60) (hff : ¬ ffR (m_pad m) c 0 0 = -6) (h1 : isInB w 0 1 = true) : Ret E yX9_judge cX9_judge 3 (some .int) (d + 4) 0 0 [.ref 52, .int w] (hp nw i0 i1 pd lv pl mt nt (s_said m (nI c))) (dt (some (.int (-5))) (hp nw i0 i1 pd lv pl mt nt (s_said m (nI c)))) := by
  refine ret_of_go (L := [_, _, _]) (by decide) (Nat.le_of_ble_eq_true rfl) rfl ?_
  refine go_iload_n dX9_judge_0 rfl ?_
  refine go_iconst (v := 0) dX9_judge_1 (by decide) ?_
  refine go_iconst (v := 1) dX9_judge_2 (by decide) ?_
  refine go_cS (as := [_, _, _]) dX9_judge_3 mX9_in kX9_48 tX9_in rfl rfl (rX9_in) rfl rfl rfl ?_
  refine go_bn_t (tgt := 12) dX9_judge_6 (by decide) h1 ?_
  refine go_aload_n dX9_judge_12 rfl ?_
  refine go_cV (as := []) dX9_judge_13 mX9_faultOf kX9_80 iX9_faultOf sX9_faultOf rfl rfl rfl rfl (rX9_faultOf hc) rfl rfl rfl ?_
  refine go_if_lt (tgt := 22) dX9_judge_16 (by decide) (fun zq => absurd zq (Int32.not_lt.mpr (ff_ge hc hff))) (fun q16 => ?_)
  refine go_bipush (v := (-5)) dX9_judge_19 (by decide) ?_
  refine go_iret dX9_judge_21 rfl rfl ?_
  exact ⟨rfl, rfl⟩
set_option maxRecDepth 100000 in
set_option maxHeartbeats 4000000 in
theorem rX9_judge_3 {E : gE} {d : Nat} {nw i0 i1 : WorldS} {pd : PadS} {lv : LivesS} {pl : PlanS} {mt : MatS} {nt : NetS} {m : ModS} {w : Int32} {c th : Nat} {F0 : FolkS} {A0 : ActS} (ht : th < 64) (hc : c ≤ 60) (hff : ffR (m_pad m) c 0 0 = -6) (hFR : FR th F0 (m_book m)) (hFI : FI th F0) (h1w : isInB w 0 1 = true) (h3 : w = 0) : Ret E yX9_judge cX9_judge 3 (some .int) (d + 4) 0 0 [.ref 52, .int w] (hp nw i0 i1 pd lv pl mt nt (s_said (s_there m (nI th)) (nI c))) (lzQ (s_said (s_there m (nI th)) (nI c)) (fun zm => (hp nw i0 i1 pd lv pl mt nt zm)) (tellF F0 A0 (m_pad m) c).2.2.2.1 (fun _ _ _ _ _ => True)) := by
  refine ret_of_go (L := [_, _, _]) (by decide) (Nat.le_of_ble_eq_true rfl) rfl ?_
  refine go_iload_n dX9_judge_0 rfl ?_
  refine go_iconst (v := 0) dX9_judge_1 (by decide) ?_
  refine go_iconst (v := 1) dX9_judge_2 (by decide) ?_
  refine go_cS (as := [_, _, _]) dX9_judge_3 mX9_in kX9_48 tX9_in rfl rfl (rX9_in) rfl rfl rfl ?_
  refine go_bn_t (tgt := 12) dX9_judge_6 (by decide) h1w ?_
  refine go_aload_n dX9_judge_12 rfl ?_
  refine go_cV (as := []) dX9_judge_13 mX9_faultOf kX9_80 iX9_faultOf sX9_faultOf rfl rfl rfl rfl (rX9_faultOf hc) rfl rfl rfl ?_
  refine go_topi_eq (x := -6) hff ?_
  refine go_if_lt (tgt := 22) dX9_judge_16 (by decide) (fun q16 => ?_) (fun zq => absurd (by decide) zq)
  refine go_aload_n dX9_judge_22 rfl ?_
  refine go_callV (as := []) dX9_judge_23 mX9_goLives kX9_129 iX9_goLives sX9_goLives rfl rfl rfl rfl (rX9_goLives (A0 := A0) ht hc hff hFR hFI) rfl rfl rfl ?_
  intro r h2 hq
  obtain ⟨n2, s2, f2, r2, m2, b2, rfl, rfl, h0, h1⟩ := hq
  refine go_istore_n (L' := [_, _, _]) dX9_judge_26 rfl rfl rfl ?_
  refine go_iload_n dX9_judge_27 rfl ?_
  refine go_if_lt (tgt := 35) dX9_judge_28 (by decide) (fun q28 => ?_) (fun q28 => ?_)
  · refine go_iload_n dX9_judge_35 rfl ?_
    refine go_goto (tgt := 43) dX9_judge_36 (by decide) ?_
    refine go_iret dX9_judge_43 rfl rfl ?_
    exact ⟨n2, s2, f2, r2, m2, b2, rfl, rfl, trivial⟩
  · refine go_iload_n dX9_judge_31 rfl ?_
    refine go_if_ne (tgt := 39) dX9_judge_32 (by decide) (fun zq => absurd h3 zq) (fun q32 => ?_)
    refine go_iload_n dX9_judge_35 rfl ?_
    refine go_goto (tgt := 43) dX9_judge_36 (by decide) ?_
    refine go_iret dX9_judge_43 rfl rfl ?_
    exact ⟨n2, s2, f2, r2, m2, b2, rfl, rfl, trivial⟩
theorem lt_m6 {x : Int32} {p : Prop} (h : ¬ x = -6 → p ∧ 0 ≤ x) (q : x < 0) : x = -6 := Decidable.byContradiction fun z => absurd (h z).2 (Int32.not_le.mpr q)
theorem nlt_m6 {x : Int32} (q : ¬ x < 0) : ¬ x = -6 := fun z => q (by rw [z]; decide)
set_option maxRecDepth 100000 in
set_option maxHeartbeats 4000000 in
theorem rX9_judge_4 {E : gE} {d : Nat} {nw i0 i1 : WorldS} {pd : PadS} {lv : LivesS} {pl : PlanS} {mt : MatS} {nt : NetS} {m : ModS} {w : Int32} {c th : Nat} {F0 : FolkS} {A0 : ActS} (ht : th < 64) (hc : c ≤ 60) (hff : ffR (m_pad m) c 0 0 = -6) (hFR : FR th F0 (m_book m)) (hFI : FI th F0) (h1w : isInB w 0 1 = true) (h3 : ¬ w = 0) : Ret E yX9_judge cX9_judge 3 (some .int) (d + 4) 0 0 [.ref 52, .int w] (hp nw i0 i1 pd lv pl mt nt (s_said (s_there m (nI th)) (nI c))) (lzQ (s_said (s_there m (nI th)) (nI c)) (fun zm => (hp nw i0 i1 pd lv pl mt nt zm)) (tellF F0 A0 (m_pad m) c).2.2.2.2.1 (fun _ _ _ _ _ => True)) := by
  refine ret_of_go (L := [_, _, _]) (by decide) (Nat.le_of_ble_eq_true rfl) rfl ?_
  refine go_iload_n dX9_judge_0 rfl ?_
  refine go_iconst (v := 0) dX9_judge_1 (by decide) ?_
  refine go_iconst (v := 1) dX9_judge_2 (by decide) ?_
  refine go_cS (as := [_, _, _]) dX9_judge_3 mX9_in kX9_48 tX9_in rfl rfl (rX9_in) rfl rfl rfl ?_
  refine go_bn_t (tgt := 12) dX9_judge_6 (by decide) h1w ?_
  refine go_aload_n dX9_judge_12 rfl ?_
  refine go_cV (as := []) dX9_judge_13 mX9_faultOf kX9_80 iX9_faultOf sX9_faultOf rfl rfl rfl rfl (rX9_faultOf hc) rfl rfl rfl ?_
  refine go_topi_eq (x := -6) hff ?_
  refine go_if_lt (tgt := 22) dX9_judge_16 (by decide) (fun q16 => ?_) (fun zq => absurd (by decide) zq)
  refine go_aload_n dX9_judge_22 rfl ?_
  refine go_callV (as := []) dX9_judge_23 mX9_goLives kX9_129 iX9_goLives sX9_goLives rfl rfl rfl rfl (rX9_goLives (A0 := A0) ht hc hff hFR hFI) rfl rfl rfl ?_
  intro r h2 hq
  obtain ⟨n2, s2, f2, r2, m2, b2, rfl, rfl, h0, h1⟩ := hq
  refine go_istore_n (L' := [_, _, _]) dX9_judge_26 rfl rfl rfl ?_
  refine go_iload_n dX9_judge_27 rfl ?_
  refine go_if_lt (tgt := 35) dX9_judge_28 (by decide) (fun q28 => ?_) (fun q28 => ?_)
  · refine go_iload_n dX9_judge_35 rfl ?_
    refine go_goto (tgt := 43) dX9_judge_36 (by decide) ?_
    refine go_iret dX9_judge_43 rfl rfl ?_
    exact ⟨n2, s2, f2, r2, m2, b2, rfl, by rw [(h0 (lt_m6 h1 q28)).2.2.2.2.2, lt_m6 h1 q28], trivial⟩
  · refine go_iload_n dX9_judge_31 rfl ?_
    refine go_if_ne (tgt := 39) dX9_judge_32 (by decide) (fun q32 => ?_) (fun zq => absurd zq h3)
    refine go_aload_n dX9_judge_39 rfl ?_
    refine go_get dX9_judge_40 fX9_112 rfl rfl ?_
    refine go_iret dX9_judge_43 rfl rfl ?_
    exact ⟨n2, s2, f2, r2, m2, b2, rfl, by rw [← (h1 (nlt_m6 q28)).1], trivial⟩
set_option maxRecDepth 100000 in
set_option maxHeartbeats 4000000 in
theorem rX9_acts_1 {E : gE} {d : Nat} {nw i0 i1 : WorldS} {pd : PadS} {lv : LivesS} {pl : PlanS} {mt : MatS} {nt : NetS} {m : ModS} {w : Int32} (h1 : isInB w 0 1 = false) : Ret E yX9_acts cX9_acts 2 (some .int) (d + 1) 0 0 [.ref 52, .int w] (hp nw i0 i1 pd lv pl mt nt m) (dt (some (.int (-2))) (hp nw i0 i1 pd lv pl mt nt m)) := by
  refine ret_of_go (L := [_, _]) (by decide) (Nat.le_of_ble_eq_true rfl) rfl ?_
  refine go_iload_n dX9_acts_0 rfl ?_
  refine go_iconst (v := 0) dX9_acts_1 (by decide) ?_
  refine go_iconst (v := 1) dX9_acts_2 (by decide) ?_
  refine go_cS (as := [_, _, _]) dX9_acts_3 mX9_in kX9_48 tX9_in rfl rfl (rX9_in) rfl rfl rfl ?_
  refine go_bn_f dX9_acts_6 h1 ?_
  refine go_bipush (v := (-2)) dX9_acts_9 (by decide) ?_
  refine go_iret dX9_acts_11 rfl rfl ?_
  exact ⟨rfl, rfl⟩
set_option maxRecDepth 100000 in
set_option maxHeartbeats 4000000 in
theorem rX9_acts_2 {E : gE} {d : Nat} {nw i0 i1 : WorldS} {pd : PadS} {lv : LivesS} {pl : PlanS} {mt : MatS} {nt : NetS} {m : ModS} {w : Int32} {c : Nat} (hc : c ≤ 60) (hff : ¬ ffR (m_pad m) c 0 0 = -6) (h1 : isInB w 0 1 = true) : Ret E yX9_acts cX9_acts 2 (some .int) (d + 5) 0 0 [.ref 52, .int w] (hp nw i0 i1 pd lv pl mt nt (s_said m (nI c))) (dt (some (.int (-5))) (hp nw i0 i1 pd lv pl mt nt (s_said m (nI c)))) := by
  refine ret_of_go (L := [_, _]) (by decide) (Nat.le_of_ble_eq_true rfl) rfl ?_
  refine go_iload_n dX9_acts_0 rfl ?_
  refine go_iconst (v := 0) dX9_acts_1 (by decide) ?_
  refine go_iconst (v := 1) dX9_acts_2 (by decide) ?_
  refine go_cS (as := [_, _, _]) dX9_acts_3 mX9_in kX9_48 tX9_in rfl rfl (rX9_in) rfl rfl rfl ?_
  refine go_bn_t (tgt := 12) dX9_acts_6 (by decide) h1 ?_
  refine go_aload_n dX9_acts_12 rfl ?_
  refine go_cV (as := []) dX9_acts_13 mX9_barOfLives kX9_132 iX9_barOfLives sX9_barOfLives rfl rfl rfl rfl (rX9_barOfLives_f hc hff) rfl rfl rfl ?_
  refine go_if_ge (tgt := 22) dX9_acts_16 (by decide) (fun zq => absurd zq (by decide)) (fun q16 => ?_)
  refine go_bipush (v := (-5)) dX9_acts_19 (by decide) ?_
  refine go_iret dX9_acts_21 rfl rfl ?_
  exact ⟨rfl, rfl⟩
set_option maxRecDepth 100000 in
set_option maxHeartbeats 4000000 in
theorem rX9_acts_2b {E : gE} {d : Nat} {nw i0 i1 : WorldS} {pd : PadS} {lv : LivesS} {pl : PlanS} {mt : MatS} {nt : NetS} {m : ModS} {w : Int32} {c th : Nat} {F0 : FolkS} {A0 : ActS} (ht : th < 64) (hc : c ≤ 60) (hff : ffR (m_pad m) c 0 0 = -6) (hFR : FR th F0 (m_book m)) (hFI : FI th F0) (h1w : isInB w 0 1 = true) (hb : ¬ (tellF F0 A0 (m_pad m) c).2.2.2.1 = -6) : Ret E yX9_acts cX9_acts 2 (some .int) (d + 5) 0 0 [.ref 52, .int w] (hp nw i0 i1 pd lv pl mt nt (s_said (s_there m (nI th)) (nI c))) (lzQ (s_said (s_there m (nI th)) (nI c)) (fun zm => (hp nw i0 i1 pd lv pl mt nt zm)) (-5) (fun _ _ _ _ _ => True)) := by
  refine ret_of_go (L := [_, _]) (by decide) (Nat.le_of_ble_eq_true rfl) rfl ?_
  refine go_iload_n dX9_acts_0 rfl ?_
  refine go_iconst (v := 0) dX9_acts_1 (by decide) ?_
  refine go_iconst (v := 1) dX9_acts_2 (by decide) ?_
  refine go_cS (as := [_, _, _]) dX9_acts_3 mX9_in kX9_48 tX9_in rfl rfl (rX9_in) rfl rfl rfl ?_
  refine go_bn_t (tgt := 12) dX9_acts_6 (by decide) h1w ?_
  refine go_aload_n dX9_acts_12 rfl ?_
  refine go_callV (as := []) dX9_acts_13 mX9_barOfLives kX9_132 iX9_barOfLives sX9_barOfLives rfl rfl rfl rfl (rX9_bar_5 (A0 := A0) ht hc hff hFR hFI hb) rfl rfl rfl ?_
  intro r h2 hq
  obtain ⟨n2, s2, f2, r2, m2, b2, rfl, rfl, h0⟩ := hq
  refine go_if_ge (tgt := 22) dX9_acts_16 (by decide) (fun zq => absurd zq (by decide)) (fun q16 => ?_)
  refine go_bipush (v := (-5)) dX9_acts_19 (by decide) ?_
  refine go_iret dX9_acts_21 rfl rfl ?_
  exact ⟨n2, s2, f2, r2, m2, b2, rfl, rfl, trivial⟩
set_option maxRecDepth 100000 in
set_option maxHeartbeats 4000000 in
theorem rX9_acts_3 {E : gE} {d : Nat} {nw i0 i1 : WorldS} {pd : PadS} {lv : LivesS} {pl : PlanS} {mt : MatS} {nt : NetS} {m : ModS} {w : Int32} {c th : Nat} {F0 : FolkS} {A0 : ActS} (ht : th < 64) (hc : c ≤ 60) (hff : ffR (m_pad m) c 0 0 = -6) (hFR : FR th F0 (m_book m)) (hFI : FI th F0) (h1w : isInB w 0 1 = true) (hb : (tellF F0 A0 (m_pad m) c).2.2.2.1 = -6) (h3 : w = 0) : Ret E yX9_acts cX9_acts 2 (some .int) (d + 5) 0 0 [.ref 52, .int w] (hp nw i0 i1 pd lv pl mt nt (s_said (s_there m (nI th)) (nI c))) (lzQ (s_said (s_there m (nI th)) (nI c)) (fun zm => (hp nw i0 i1 pd lv pl mt nt zm)) (tellF F0 A0 (m_pad m) c).2.2.2.2.2.1 (fun _ _ _ _ _ => True)) := by
  refine ret_of_go (L := [_, _]) (by decide) (Nat.le_of_ble_eq_true rfl) rfl ?_
  refine go_iload_n dX9_acts_0 rfl ?_
  refine go_iconst (v := 0) dX9_acts_1 (by decide) ?_
  refine go_iconst (v := 1) dX9_acts_2 (by decide) ?_
  refine go_cS (as := [_, _, _]) dX9_acts_3 mX9_in kX9_48 tX9_in rfl rfl (rX9_in) rfl rfl rfl ?_
  refine go_bn_t (tgt := 12) dX9_acts_6 (by decide) h1w ?_
  refine go_aload_n dX9_acts_12 rfl ?_
  refine go_callV (as := []) dX9_acts_13 mX9_barOfLives kX9_132 iX9_barOfLives sX9_barOfLives rfl rfl rfl rfl (rX9_bar_0 (A0 := A0) ht hc hff hFR hFI hb) rfl rfl rfl ?_
  intro r h2 hq
  obtain ⟨n2, s2, f2, r2, m2, b2, rfl, rfl, h0⟩ := hq
  refine go_if_ge (tgt := 22) dX9_acts_16 (by decide) (fun q16 => ?_) (fun zq => absurd (by decide) zq)
  refine go_iload_n dX9_acts_22 rfl ?_
  refine go_if_ne (tgt := 33) dX9_acts_23 (by decide) (fun zq => absurd h3 zq) (fun q23 => ?_)
  refine go_aload_n dX9_acts_26 rfl ?_
  refine go_get dX9_acts_27 fX9_84 rfl rfl ?_
  refine go_goto (tgt := 37) dX9_acts_30 (by decide) ?_
  refine go_iret dX9_acts_37 rfl rfl ?_
  exact ⟨n2, s2, f2, r2, m2, b2, rfl, by rw [← h0.2.2.2.1], trivial⟩
set_option maxRecDepth 100000 in
set_option maxHeartbeats 4000000 in
theorem rX9_acts_4 {E : gE} {d : Nat} {nw i0 i1 : WorldS} {pd : PadS} {lv : LivesS} {pl : PlanS} {mt : MatS} {nt : NetS} {m : ModS} {w : Int32} {c th : Nat} {F0 : FolkS} {A0 : ActS} (ht : th < 64) (hc : c ≤ 60) (hff : ffR (m_pad m) c 0 0 = -6) (hFR : FR th F0 (m_book m)) (hFI : FI th F0) (h1w : isInB w 0 1 = true) (hb : (tellF F0 A0 (m_pad m) c).2.2.2.1 = -6) (h3 : ¬ w = 0) : Ret E yX9_acts cX9_acts 2 (some .int) (d + 5) 0 0 [.ref 52, .int w] (hp nw i0 i1 pd lv pl mt nt (s_said (s_there m (nI th)) (nI c))) (lzQ (s_said (s_there m (nI th)) (nI c)) (fun zm => (hp nw i0 i1 pd lv pl mt nt zm)) (tellF F0 A0 (m_pad m) c).2.2.2.2.2.2 (fun _ _ _ _ _ => True)) := by
  refine ret_of_go (L := [_, _]) (by decide) (Nat.le_of_ble_eq_true rfl) rfl ?_
  refine go_iload_n dX9_acts_0 rfl ?_
  refine go_iconst (v := 0) dX9_acts_1 (by decide) ?_
  refine go_iconst (v := 1) dX9_acts_2 (by decide) ?_
  refine go_cS (as := [_, _, _]) dX9_acts_3 mX9_in kX9_48 tX9_in rfl rfl (rX9_in) rfl rfl rfl ?_
  refine go_bn_t (tgt := 12) dX9_acts_6 (by decide) h1w ?_
  refine go_aload_n dX9_acts_12 rfl ?_
  refine go_callV (as := []) dX9_acts_13 mX9_barOfLives kX9_132 iX9_barOfLives sX9_barOfLives rfl rfl rfl rfl (rX9_bar_0 (A0 := A0) ht hc hff hFR hFI hb) rfl rfl rfl ?_
  intro r h2 hq
  obtain ⟨n2, s2, f2, r2, m2, b2, rfl, rfl, h0⟩ := hq
  refine go_if_ge (tgt := 22) dX9_acts_16 (by decide) (fun q16 => ?_) (fun zq => absurd (by decide) zq)
  refine go_iload_n dX9_acts_22 rfl ?_
  refine go_if_ne (tgt := 33) dX9_acts_23 (by decide) (fun q23 => ?_) (fun zq => absurd zq h3)
  refine go_aload_n dX9_acts_33 rfl ?_
  refine go_get dX9_acts_34 fX9_103 rfl rfl ?_
  refine go_iret dX9_acts_37 rfl rfl ?_
  exact ⟨n2, s2, f2, r2, m2, b2, rfl, by rw [← h0.2.2.2.2], trivial⟩
set_option maxRecDepth 100000 in
set_option maxHeartbeats 4000000 in
theorem rX9_state_1 {E : gE} {d : Nat} {nw i0 i1 : WorldS} {pd : PadS} {lv : LivesS} {pl : PlanS} {mt : MatS} {nt : NetS} {m : ModS} {p w : Int32} (h1 : hasB (m_there m) p = false) : Ret E yX9_state cX9_state 3 (some .int) (d + 2) 0 0 [.ref 52, .int p, .int w] (hp nw i0 i1 pd lv pl mt nt m) (dt (some (.int (-1))) (hp nw i0 i1 pd lv pl mt nt m)) := by
  refine ret_of_go (L := [_, _, _]) (by decide) (Nat.le_of_ble_eq_true rfl) rfl ?_
  refine go_aload_n dX9_state_0 rfl ?_
  refine go_iload_n dX9_state_1 rfl ?_
  refine go_cV (as := [_]) dX9_state_2 mX9_isThere kX9_64 iX9_isThere sX9_isThere rfl rfl rfl rfl (rX9_isThere) rfl rfl rfl ?_
  refine go_bn_f dX9_state_5 h1 ?_
  refine go_iconst (v := (-1)) dX9_state_8 (by decide) ?_
  refine go_iret dX9_state_9 rfl rfl ?_
  exact ⟨rfl, rfl⟩
set_option maxRecDepth 100000 in
set_option maxHeartbeats 4000000 in
theorem rX9_state_2 {E : gE} {d : Nat} {nw i0 i1 : WorldS} {pd : PadS} {lv : LivesS} {pl : PlanS} {mt : MatS} {nt : NetS} {m : ModS} {p w : Int32} (h1 : hasB (m_there m) p = true) (h2 : isInB w 0 2 = false) : Ret E yX9_state cX9_state 3 (some .int) (d + 2) 0 0 [.ref 52, .int p, .int w] (hp nw i0 i1 pd lv pl mt nt m) (dt (some (.int (-2))) (hp nw i0 i1 pd lv pl mt nt m)) := by
  refine ret_of_go (L := [_, _, _]) (by decide) (Nat.le_of_ble_eq_true rfl) rfl ?_
  refine go_aload_n dX9_state_0 rfl ?_
  refine go_iload_n dX9_state_1 rfl ?_
  refine go_cV (as := [_]) dX9_state_2 mX9_isThere kX9_64 iX9_isThere sX9_isThere rfl rfl rfl rfl (rX9_isThere) rfl rfl rfl ?_
  refine go_bn_t (tgt := 10) dX9_state_5 (by decide) h1 ?_
  refine go_iload_n dX9_state_10 rfl ?_
  refine go_iconst (v := 0) dX9_state_11 (by decide) ?_
  refine go_iconst (v := 2) dX9_state_12 (by decide) ?_
  refine go_cS (as := [_, _, _]) dX9_state_13 mX9_in kX9_48 tX9_in rfl rfl (rX9_in) rfl rfl rfl ?_
  refine go_be_f (tgt := 33) dX9_state_16 (by decide) h2 ?_
  refine go_bipush (v := (-2)) dX9_state_33 (by decide) ?_
  refine go_iret dX9_state_35 rfl rfl ?_
  exact ⟨rfl, rfl⟩
theorem n6k (i k : Nat) : (6 : Int32) * nI i + nI k = nI (6 * i + k) := by
  rw [show (6 : Int32) = nI 6 from rfl, pk_mul, nI_add]
set_option maxRecDepth 100000 in
set_option maxHeartbeats 4000000 in
theorem rX9_state_3 {E : gE} {d : Nat} {nw i0 i1 : WorldS} {pd : PadS} {lv : LivesS} {pl : PlanS} {mt : MatS} {nt : NetS} {m : ModS} {k i : Nat} (hk : k < 6) (hi : i < 3) (h1 : hasB (m_there m) (nI k) = true) : Ret E yX9_state cX9_state 3 (some .int) (d + 2) 0 0 [.ref 52, .int (nI k), .int (nI i)] (hp nw i0 i1 pd lv pl mt nt m) (dt (some (.int (m_book m (6 * i + k)))) (hp nw i0 i1 pd lv pl mt nt m)) := by
  refine ret_of_go (L := [_, _, _]) (by decide) (Nat.le_of_ble_eq_true rfl) rfl ?_
  refine go_aload_n dX9_state_0 rfl ?_
  refine go_iload_n dX9_state_1 rfl ?_
  refine go_cV (as := [_]) dX9_state_2 mX9_isThere kX9_64 iX9_isThere sX9_isThere rfl rfl rfl rfl (rX9_isThere) rfl rfl rfl ?_
  refine go_bn_t (tgt := 10) dX9_state_5 (by decide) h1 ?_
  refine go_iload_n dX9_state_10 rfl ?_
  refine go_iconst (v := 0) dX9_state_11 (by decide) ?_
  refine go_iconst (v := 2) dX9_state_12 (by decide) ?_
  refine go_cS (as := [_, _, _]) dX9_state_13 mX9_in kX9_48 tX9_in rfl rfl (rX9_in) rfl rfl rfl ?_
  refine go_be_t dX9_state_16 (inB_of (k := i) (a := 0) (b := 2) (by omega) (by omega) (by decide)) ?_
  refine go_aload_n dX9_state_19 rfl ?_
  refine go_get dX9_state_20 fX9_7 rfl rfl ?_
  refine go_bipush (v := 6) dX9_state_23 (by decide) ?_
  refine go_iload_n dX9_state_25 rfl ?_
  refine go_imul dX9_state_26 ?_
  refine go_iload_n dX9_state_27 rfl ?_
  refine go_iadd dX9_state_28 ?_
  refine go_topi_eq (n6k i k) ?_
  refine go_ialdN (6 * i + k) dX9_state_29 rfl (by omega) rfl ?_
  refine go_goto (tgt := 35) dX9_state_30 (by decide) ?_
  refine go_iret dX9_state_35 rfl rfl ?_
  exact ⟨rfl, rfl⟩
set_option maxRecDepth 100000 in
set_option maxHeartbeats 4000000 in
theorem rX9_behind_1 {E : gE} {d : Nat} {nw i0 i1 : WorldS} {pd : PadS} {lv : LivesS} {pl : PlanS} {mt : MatS} {nt : NetS} {m : ModS} {p w : Int32} (h1 : hasB (m_there m) p = false) : Ret E yX9_behind cX9_behind 3 (some .int) (d + 2) 0 0 [.ref 52, .int p, .int w] (hp nw i0 i1 pd lv pl mt nt m) (dt (some (.int (-1))) (hp nw i0 i1 pd lv pl mt nt m)) := by
  refine ret_of_go (L := [_, _, _]) (by decide) (Nat.le_of_ble_eq_true rfl) rfl ?_
  refine go_aload_n dX9_behind_0 rfl ?_
  refine go_iload_n dX9_behind_1 rfl ?_
  refine go_cV (as := [_]) dX9_behind_2 mX9_isThere kX9_64 iX9_isThere sX9_isThere rfl rfl rfl rfl (rX9_isThere) rfl rfl rfl ?_
  refine go_bn_f dX9_behind_5 h1 ?_
  refine go_iconst (v := (-1)) dX9_behind_8 (by decide) ?_
  refine go_iret dX9_behind_9 rfl rfl ?_
  exact ⟨rfl, rfl⟩
set_option maxRecDepth 100000 in
set_option maxHeartbeats 4000000 in
theorem rX9_behind_2 {E : gE} {d : Nat} {nw i0 i1 : WorldS} {pd : PadS} {lv : LivesS} {pl : PlanS} {mt : MatS} {nt : NetS} {m : ModS} {p w : Int32} (h1 : hasB (m_there m) p = true) (h2 : isInB w 0 2 = false) : Ret E yX9_behind cX9_behind 3 (some .int) (d + 2) 0 0 [.ref 52, .int p, .int w] (hp nw i0 i1 pd lv pl mt nt m) (dt (some (.int (-2))) (hp nw i0 i1 pd lv pl mt nt m)) := by
  refine ret_of_go (L := [_, _, _]) (by decide) (Nat.le_of_ble_eq_true rfl) rfl ?_
  refine go_aload_n dX9_behind_0 rfl ?_
  refine go_iload_n dX9_behind_1 rfl ?_
  refine go_cV (as := [_]) dX9_behind_2 mX9_isThere kX9_64 iX9_isThere sX9_isThere rfl rfl rfl rfl (rX9_isThere) rfl rfl rfl ?_
  refine go_bn_t (tgt := 10) dX9_behind_5 (by decide) h1 ?_
  refine go_iload_n dX9_behind_10 rfl ?_
  refine go_iconst (v := 0) dX9_behind_11 (by decide) ?_
  refine go_iconst (v := 2) dX9_behind_12 (by decide) ?_
  refine go_cS (as := [_, _, _]) dX9_behind_13 mX9_in kX9_48 tX9_in rfl rfl (rX9_in) rfl rfl rfl ?_
  refine go_bn_f dX9_behind_16 h2 ?_
  refine go_bipush (v := (-2)) dX9_behind_19 (by decide) ?_
  refine go_iret dX9_behind_21 rfl rfl ?_
  exact ⟨rfl, rfl⟩
set_option maxRecDepth 100000 in
set_option maxHeartbeats 4000000 in
theorem rX9_behind_3 {E : gE} {d : Nat} {nw i0 i1 : WorldS} {pd : PadS} {lv : LivesS} {pl : PlanS} {mt : MatS} {nt : NetS} {m : ModS} {p w : Int32} {c : Nat} (hc : c ≤ 60) (hff : ¬ ffR (m_pad m) c 0 0 = -6) (h1 : hasB (m_there m) p = true) (h2 : isInB w 0 2 = true) : Ret E yX9_behind cX9_behind 3 (some .int) (d + 5) 0 0 [.ref 52, .int p, .int w] (hp nw i0 i1 pd lv pl mt nt (s_said m (nI c))) (dt (some (.int (-5))) (hp nw i0 i1 pd lv pl mt nt (s_said m (nI c)))) := by
  refine ret_of_go (L := [_, _, _]) (by decide) (Nat.le_of_ble_eq_true rfl) rfl ?_
  refine go_aload_n dX9_behind_0 rfl ?_
  refine go_iload_n dX9_behind_1 rfl ?_
  refine go_cV (as := [_]) dX9_behind_2 mX9_isThere kX9_64 iX9_isThere sX9_isThere rfl rfl rfl rfl (rX9_isThere) rfl rfl rfl ?_
  refine go_bn_t (tgt := 10) dX9_behind_5 (by decide) h1 ?_
  refine go_iload_n dX9_behind_10 rfl ?_
  refine go_iconst (v := 0) dX9_behind_11 (by decide) ?_
  refine go_iconst (v := 2) dX9_behind_12 (by decide) ?_
  refine go_cS (as := [_, _, _]) dX9_behind_13 mX9_in kX9_48 tX9_in rfl rfl (rX9_in) rfl rfl rfl ?_
  refine go_bn_t (tgt := 22) dX9_behind_16 (by decide) h2 ?_
  refine go_aload_n dX9_behind_22 rfl ?_
  refine go_cV (as := []) dX9_behind_23 mX9_barOfLives kX9_132 iX9_barOfLives sX9_barOfLives rfl rfl rfl rfl (rX9_barOfLives_f hc hff) rfl rfl rfl ?_
  refine go_if_ge (tgt := 34) dX9_behind_26 (by decide) (fun zq => absurd zq (by decide)) (fun q26 => ?_)
  refine go_bipush (v := (-5)) dX9_behind_29 (by decide) ?_
  refine go_goto (tgt := 45) dX9_behind_31 (by decide) ?_
  refine go_iret dX9_behind_45 rfl rfl ?_
  exact ⟨rfl, rfl⟩
set_option maxRecDepth 100000 in
set_option maxHeartbeats 4000000 in
theorem rX9_behind_3b {E : gE} {d : Nat} {nw i0 i1 : WorldS} {pd : PadS} {lv : LivesS} {pl : PlanS} {mt : MatS} {nt : NetS} {m : ModS} {p w : Int32} {c th : Nat} {F0 : FolkS} {A0 : ActS} (ht : th < 64) (hc : c ≤ 60) (hff : ffR (m_pad m) c 0 0 = -6) (hFR : FR th F0 (m_book m)) (hFI : FI th F0) (h1w : hasB (nI th) p = true) (h2w : isInB w 0 2 = true) (hb : ¬ (tellF F0 A0 (m_pad m) c).2.2.2.1 = -6) : Ret E yX9_behind cX9_behind 3 (some .int) (d + 5) 0 0 [.ref 52, .int p, .int w] (hp nw i0 i1 pd lv pl mt nt (s_said (s_there m (nI th)) (nI c))) (lzQ (s_said (s_there m (nI th)) (nI c)) (fun zm => (hp nw i0 i1 pd lv pl mt nt zm)) (-5) (fun _ _ _ _ _ => True)) := by
  refine ret_of_go (L := [_, _, _]) (by decide) (Nat.le_of_ble_eq_true rfl) rfl ?_
  refine go_aload_n dX9_behind_0 rfl ?_
  refine go_iload_n dX9_behind_1 rfl ?_
  refine go_cV (as := [_]) dX9_behind_2 mX9_isThere kX9_64 iX9_isThere sX9_isThere rfl rfl rfl rfl (rX9_isThere) rfl rfl rfl ?_
  refine go_bn_t (tgt := 10) dX9_behind_5 (by decide) h1w ?_
  refine go_iload_n dX9_behind_10 rfl ?_
  refine go_iconst (v := 0) dX9_behind_11 (by decide) ?_
  refine go_iconst (v := 2) dX9_behind_12 (by decide) ?_
  refine go_cS (as := [_, _, _]) dX9_behind_13 mX9_in kX9_48 tX9_in rfl rfl (rX9_in) rfl rfl rfl ?_
  refine go_bn_t (tgt := 22) dX9_behind_16 (by decide) h2w ?_
  refine go_aload_n dX9_behind_22 rfl ?_
  refine go_callV (as := []) dX9_behind_23 mX9_barOfLives kX9_132 iX9_barOfLives sX9_barOfLives rfl rfl rfl rfl (rX9_bar_5 (A0 := A0) ht hc hff hFR hFI hb) rfl rfl rfl ?_
  intro r h2 hq
  obtain ⟨n2, s2, f2, r2, m2, b2, rfl, rfl, h0⟩ := hq
  refine go_if_ge (tgt := 34) dX9_behind_26 (by decide) (fun zq => absurd zq (by decide)) (fun q26 => ?_)
  refine go_bipush (v := (-5)) dX9_behind_29 (by decide) ?_
  refine go_goto (tgt := 45) dX9_behind_31 (by decide) ?_
  refine go_iret dX9_behind_45 rfl rfl ?_
  exact ⟨n2, s2, f2, r2, m2, b2, rfl, rfl, trivial⟩
/-- sheets, worth or forged of a PERSON -/
def rowF (F : FolkS) (k i : Nat) : Int32 := if i = 0 then fs_ F k else if i = 1 then fw F k else fg F k
theorem FR.row {th k i : Nat} {F : FolkS} {nw : Nat → Int32} (h : FR th F nw) (hk : k < 6) (hi : i < 3) (ht : tb th k = true) : nw (6 * i + k) = rowF F k i := by
  have := h.2.1 k hk ht
  rcases i with _ | _ | _ | i
  · rw [show 6 * 0 + k = k by omega, this.1]; rfl
  · rw [show 6 * (0 + 1) + k = 6 + k by omega, this.2.1]; rfl
  · rw [show 6 * (0 + 1 + 1) + k = 12 + k by omega, this.2.2]; rfl
  · omega
set_option maxRecDepth 100000 in
set_option maxHeartbeats 4000000 in
theorem rX9_behind_4 {E : gE} {d : Nat} {nw i0 i1 : WorldS} {pd : PadS} {lv : LivesS} {pl : PlanS} {mt : MatS} {nt : NetS} {m : ModS} {k i : Nat} {c th : Nat} {F0 : FolkS} {A0 : ActS} (ht : th < 64) (hc : c ≤ 60) (hff : ffR (m_pad m) c 0 0 = -6) (hFR : FR th F0 (m_book m)) (hFI : FI th F0) (hk : k < 6) (hi : i < 3) (h1w : hasB (nI th) (nI k) = true) (hb : (tellF F0 A0 (m_pad m) c).2.2.2.1 = -6) : Ret E yX9_behind cX9_behind 3 (some .int) (d + 5) 0 0 [.ref 52, .int (nI k), .int (nI i)] (hp nw i0 i1 pd lv pl mt nt (s_said (s_there m (nI th)) (nI c))) (lzQ (s_said (s_there m (nI th)) (nI c)) (fun zm => (hp nw i0 i1 pd lv pl mt nt zm)) (rowF (tellF F0 A0 (m_pad m) c).1 k i) (fun _ _ _ _ _ => True)) := by
  refine ret_of_go (L := [_, _, _]) (by decide) (Nat.le_of_ble_eq_true rfl) rfl ?_
  refine go_aload_n dX9_behind_0 rfl ?_
  refine go_iload_n dX9_behind_1 rfl ?_
  refine go_cV (as := [_]) dX9_behind_2 mX9_isThere kX9_64 iX9_isThere sX9_isThere rfl rfl rfl rfl (rX9_isThere) rfl rfl rfl ?_
  refine go_bn_t (tgt := 10) dX9_behind_5 (by decide) h1w ?_
  refine go_iload_n dX9_behind_10 rfl ?_
  refine go_iconst (v := 0) dX9_behind_11 (by decide) ?_
  refine go_iconst (v := 2) dX9_behind_12 (by decide) ?_
  refine go_cS (as := [_, _, _]) dX9_behind_13 mX9_in kX9_48 tX9_in rfl rfl (rX9_in) rfl rfl rfl ?_
  refine go_bn_t (tgt := 22) dX9_behind_16 (by decide) (inB_of (k := i) (a := 0) (b := 2) (by omega) (by omega) (by decide)) ?_
  refine go_aload_n dX9_behind_22 rfl ?_
  refine go_callV (as := []) dX9_behind_23 mX9_barOfLives kX9_132 iX9_barOfLives sX9_barOfLives rfl rfl rfl rfl (rX9_bar_0 (A0 := A0) ht hc hff hFR hFI hb) rfl rfl rfl ?_
  intro r h2 hq
  obtain ⟨n2, s2, f2, r2, m2, b2, rfl, rfl, h0⟩ := hq
  refine go_if_ge (tgt := 34) dX9_behind_26 (by decide) (fun q26 => ?_) (fun zq => absurd (by decide) zq)
  refine go_aload_n dX9_behind_34 rfl ?_
  refine go_get dX9_behind_35 fX9_13 rfl rfl ?_
  refine go_bipush (v := 6) dX9_behind_38 (by decide) ?_
  refine go_iload_n dX9_behind_40 rfl ?_
  refine go_imul dX9_behind_41 ?_
  refine go_iload_n dX9_behind_42 rfl ?_
  refine go_iadd dX9_behind_43 ?_
  refine go_topi_eq (n6k i k) ?_
  refine go_ialdN (6 * i + k) dX9_behind_44 rfl (by omega) rfl ?_
  refine go_iret dX9_behind_45 rfl rfl ?_
  exact ⟨n2, s2, f2, r2, m2, b2, rfl, by rw [← h0.1.row hk hi (by rw [← has_tb th ht k hk]; exact h1w)], trivial⟩
set_option maxRecDepth 100000 in
set_option maxHeartbeats 4000000 in
theorem rX9_owes_1 {E : gE} {d : Nat} {nw i0 i1 : WorldS} {pd : PadS} {lv : LivesS} {pl : PlanS} {mt : MatS} {nt : NetS} {m : ModS} {p q : Int32} (h1 : hasB (m_there m) p = false) : Ret E yX9_owes cX9_owes 3 (some .int) (d + 2) 0 0 [.ref 52, .int p, .int q] (hp nw i0 i1 pd lv pl mt nt m) (dt (some (.int (-1))) (hp nw i0 i1 pd lv pl mt nt m)) := by
  refine ret_of_go (L := [_, _, _]) (by decide) (Nat.le_of_ble_eq_true rfl) rfl ?_
  refine go_aload_n dX9_owes_0 rfl ?_
  refine go_iload_n dX9_owes_1 rfl ?_
  refine go_cV (as := [_]) dX9_owes_2 mX9_isThere kX9_64 iX9_isThere sX9_isThere rfl rfl rfl rfl (rX9_isThere) rfl rfl rfl ?_
  refine go_be_f (tgt := 38) dX9_owes_5 (by decide) h1 ?_
  refine go_iconst (v := (-1)) dX9_owes_38 (by decide) ?_
  refine go_iret dX9_owes_39 rfl rfl ?_
  exact ⟨rfl, rfl⟩
set_option maxRecDepth 100000 in
set_option maxHeartbeats 4000000 in
theorem rX9_owes_2 {E : gE} {d : Nat} {nw i0 i1 : WorldS} {pd : PadS} {lv : LivesS} {pl : PlanS} {mt : MatS} {nt : NetS} {m : ModS} {p q : Int32} (h1 : hasB (m_there m) p = true) (h2 : hasB (m_there m) q = false) : Ret E yX9_owes cX9_owes 3 (some .int) (d + 2) 0 0 [.ref 52, .int p, .int q] (hp nw i0 i1 pd lv pl mt nt m) (dt (some (.int (-1))) (hp nw i0 i1 pd lv pl mt nt m)) := by
  refine ret_of_go (L := [_, _, _]) (by decide) (Nat.le_of_ble_eq_true rfl) rfl ?_
  refine go_aload_n dX9_owes_0 rfl ?_
  refine go_iload_n dX9_owes_1 rfl ?_
  refine go_cV (as := [_]) dX9_owes_2 mX9_isThere kX9_64 iX9_isThere sX9_isThere rfl rfl rfl rfl (rX9_isThere) rfl rfl rfl ?_
  refine go_be_t dX9_owes_5 h1 ?_
  refine go_aload_n dX9_owes_8 rfl ?_
  refine go_iload_n dX9_owes_9 rfl ?_
  refine go_cV (as := [_]) dX9_owes_10 mX9_isThere kX9_64 iX9_isThere sX9_isThere rfl rfl rfl rfl (rX9_isThere) rfl rfl rfl ?_
  refine go_be_f (tgt := 38) dX9_owes_13 (by decide) h2 ?_
  refine go_iconst (v := (-1)) dX9_owes_38 (by decide) ?_
  refine go_iret dX9_owes_39 rfl rfl ?_
  exact ⟨rfl, rfl⟩
set_option maxRecDepth 100000 in
set_option maxHeartbeats 4000000 in
theorem rX9_owes_3 {E : gE} {d : Nat} {nw i0 i1 : WorldS} {pd : PadS} {lv : LivesS} {pl : PlanS} {mt : MatS} {nt : NetS} {m : ModS} {p q : Int32} (h1 : hasB (m_there m) p = true) (h2 : hasB (m_there m) q = true) (h3 : p = q) : Ret E yX9_owes cX9_owes 3 (some .int) (d + 2) 0 0 [.ref 52, .int p, .int q] (hp nw i0 i1 pd lv pl mt nt m) (dt (some (.int (-1))) (hp nw i0 i1 pd lv pl mt nt m)) := by
  refine ret_of_go (L := [_, _, _]) (by decide) (Nat.le_of_ble_eq_true rfl) rfl ?_
  refine go_aload_n dX9_owes_0 rfl ?_
  refine go_iload_n dX9_owes_1 rfl ?_
  refine go_cV (as := [_]) dX9_owes_2 mX9_isThere kX9_64 iX9_isThere sX9_isThere rfl rfl rfl rfl (rX9_isThere) rfl rfl rfl ?_
  refine go_be_t dX9_owes_5 h1 ?_
  refine go_aload_n dX9_owes_8 rfl ?_
  refine go_iload_n dX9_owes_9 rfl ?_
  refine go_cV (as := [_]) dX9_owes_10 mX9_isThere kX9_64 iX9_isThere sX9_isThere rfl rfl rfl rfl (rX9_isThere) rfl rfl rfl ?_
  refine go_be_t dX9_owes_13 h2 ?_
  refine go_iload_n dX9_owes_16 rfl ?_
  refine go_iload_n dX9_owes_17 rfl ?_
  refine go_icmp_eq (tgt := 38) dX9_owes_18 (by decide) (fun q18 => ?_) (fun zq => absurd h3 zq)
  refine go_iconst (v := (-1)) dX9_owes_38 (by decide) ?_
  refine go_iret dX9_owes_39 rfl rfl ?_
  exact ⟨rfl, rfl⟩
set_option maxRecDepth 100000 in
set_option maxHeartbeats 4000000 in
theorem rX9_owes_4 {E : gE} {d : Nat} {nw i0 i1 : WorldS} {pd : PadS} {lv : LivesS} {pl : PlanS} {mt : MatS} {nt : NetS} {m : ModS} {a b : Nat} (ha : a < 6) (hb : b < 6) (h1 : hasB (m_there m) (nI a) = true) (h2 : hasB (m_there m) (nI b) = true) (h3 : ¬ nI a = nI b) : Ret E yX9_owes cX9_owes 3 (some .int) (d + 2) 0 0 [.ref 52, .int (nI a), .int (nI b)] (hp nw i0 i1 pd lv pl mt nt m) (dt (some (.int (m_book m (20 + 6 * a + b)))) (hp nw i0 i1 pd lv pl mt nt m)) := by
  refine ret_of_go (L := [_, _, _]) (by decide) (Nat.le_of_ble_eq_true rfl) rfl ?_
  refine go_aload_n dX9_owes_0 rfl ?_
  refine go_iload_n dX9_owes_1 rfl ?_
  refine go_cV (as := [_]) dX9_owes_2 mX9_isThere kX9_64 iX9_isThere sX9_isThere rfl rfl rfl rfl (rX9_isThere) rfl rfl rfl ?_
  refine go_be_t dX9_owes_5 h1 ?_
  refine go_aload_n dX9_owes_8 rfl ?_
  refine go_iload_n dX9_owes_9 rfl ?_
  refine go_cV (as := [_]) dX9_owes_10 mX9_isThere kX9_64 iX9_isThere sX9_isThere rfl rfl rfl rfl (rX9_isThere) rfl rfl rfl ?_
  refine go_be_t dX9_owes_13 h2 ?_
  refine go_iload_n dX9_owes_16 rfl ?_
  refine go_iload_n dX9_owes_17 rfl ?_
  refine go_icmp_eq (tgt := 38) dX9_owes_18 (by decide) (fun zq => absurd zq h3) (fun q18 => ?_)
  refine go_aload_n dX9_owes_21 rfl ?_
  refine go_get dX9_owes_22 fX9_7 rfl rfl ?_
  refine go_bipush (v := 20) dX9_owes_25 (by decide) ?_
  refine go_bipush (v := 6) dX9_owes_27 (by decide) ?_
  refine go_iload_n dX9_owes_29 rfl ?_
  refine go_imul dX9_owes_30 ?_
  refine go_iadd dX9_owes_31 ?_
  refine go_iload_n dX9_owes_32 rfl ?_
  refine go_iadd dX9_owes_33 ?_
  refine go_topi_eq (n206 a b) ?_
  refine go_ialdN (20 + 6 * a + b) dX9_owes_34 rfl (by omega) rfl ?_
  refine go_goto (tgt := 39) dX9_owes_35 (by decide) ?_
  refine go_iret dX9_owes_39 rfl rfl ?_
  exact ⟨rfl, rfl⟩
