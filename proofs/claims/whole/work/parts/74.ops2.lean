/-! a TAIL stays as it is in LIVES -/
theorem app_tail (a : ActS) (F : FolkS) : ft (appF a F) = ft F := by
  unfold appF
  repeat' split
  all_goals rfl
theorem ta_tail (l : LivesS) : ft (taF l).1 = ft l.1 := by
  unfold taF
  split
  · exact app_tail _ _
  · rfl
theorem tl_tail {S : Nat → Int32} {c : Nat} : ∀ (n j : Nat) (l : LivesS), ft (tlR S c n j l).1 = ft l.1
  | 0, j, l => by rw [tlR]
  | n + 1, j, l => by
    rw [tlR]
    split
    · split
      · rw [tl_tail n _ _, ta_tail]
      · rfl
    · rfl
theorem tell_tail {F : FolkS} {A : ActS} {S : Nat → Int32} {c : Nat} {p : Nat} : ft (tellF F A S c).1 p = ft F p := congrFun (tl_tail 60 0 _) p
theorem hold_row {F : FolkS} {k i : Nat} (hi : i < 3) : holdF F k (nI i) = rowF F k i := by
  have : i = 0 ∨ i = 1 ∨ i = 2 := by omega
  rcases this with e | e | e <;> subst e <;> rfl
theorem can_f {nw : WorldS} {lv : LivesS} {S : Nat → Int32} {c : Nat} (h : ¬ ffR S c 0 0 = -6) : canB nw lv S c = false := by rw [canB, decide_eq_false h, Bool.false_and]
theorem can_5 {nw : WorldS} {lv : LivesS} {S : Nat → Int32} {c : Nat} (h : ¬ (tellF nw.1 lv.2.1 S c).2.2.2.1 = -6) : canB nw lv S c = false := by rw [canB, decide_eq_false h, Bool.and_false]
theorem can_t {nw : WorldS} {lv : LivesS} {S : Nat → Int32} {c : Nat} (h : ffR S c 0 0 = -6) (h2 : (tellF nw.1 lv.2.1 S c).2.2.2.1 = -6) : canB nw lv S c = true := by rw [canB, decide_eq_true h, decide_eq_true h2]; rfl
theorem told_t {nw : WorldS} {lv : LivesS} {S : Nat → Int32} {c : Nat} (h : ffR S c 0 0 = -6) : toldF nw lv S c = tellF nw.1 lv.2.1 S c := if_pos h
theorem told_f {nw : WorldS} {lv : LivesS} {S : Nat → Int32} {c : Nat} (h : ¬ ffR S c 0 0 = -6) : toldF nw lv S c = lv := if_neg h
set_option maxRecDepth 100000 in
set_option maxHeartbeats 4000000 in
theorem op_judge {w : Int32} : OpI yX8_judge cX8_judge 2 yX9_judge cX9_judge 3 [.int w] := by
  intro E h ⟨th, s, c, O, F2, we, ss, ke, i0, i1, S, lv, pl, mt, nt, zbk, znw, zta, zwe, zsg, zsd, zfo, zre, zma, zba, zbe, zev, zac, zwr, zsl, zwy, zim, zke, e, hR⟩
  subst e
  obtain ⟨⟨ht, hs8, hFR, hFI, hta, hwm, hwo, hsg, hss⟩, hc, hpl, hn1, hn2, hI0, hI1⟩ := id hR
  rcases b_cases (isInB w 0 1) with h1 | h1
  · by_cases hff : ffR S c 0 0 = -6
    · by_cases hw : w = 0
      · exact ⟨_, _, rX8_judge_3 hc h1 hff hw, is_hp, ret_conseq (rX9_judge_3 (m := (zbk, znw, (nI th), zta, zwe, (nI s), zsg, (nI c), S, zsd, zfo, zre, zma, zba, zbe, zev, zac, zwr, zsl, zwy, zim, zke)) (A0 := lv.2.1) ht hc hff hFR hFI h1 hw) (fun r g q => by obtain ⟨n2, s2, f2, r2, m2, b2, e1, e2, -⟩ := q; exact ⟨e2, by rw [e1]; exact relH_mk hR⟩)⟩
      · exact ⟨_, _, rX8_judge_4 hc h1 hff hw, is_hp, ret_conseq (rX9_judge_4 (m := (zbk, znw, (nI th), zta, zwe, (nI s), zsg, (nI c), S, zsd, zfo, zre, zma, zba, zbe, zev, zac, zwr, zsl, zwy, zim, zke)) (A0 := lv.2.1) ht hc hff hFR hFI h1 hw) (fun r g q => by obtain ⟨n2, s2, f2, r2, m2, b2, e1, e2, -⟩ := q; exact ⟨e2, by rw [e1]; exact relH_mk hR⟩)⟩
    · exact ⟨_, _, rX8_judge_2 hc h1 hff, is_hp, ret_conseq (rX9_judge_2 (m := (zbk, znw, (nI th), zta, zwe, (nI s), zsg, (nI c), S, zsd, zfo, zre, zma, zba, zbe, zev, zac, zwr, zsl, zwy, zim, zke)) hc hff h1) (fun r g q => ⟨q.1, by rw [q.2]; exact relH_mk hR⟩)⟩
  · exact ⟨_, _, rX8_judge_1 h1, is_hp, ret_conseq (rX9_judge_1 h1) (fun r g q => ⟨q.1, by rw [q.2]; exact relH_mk hR⟩)⟩
set_option maxRecDepth 100000 in
set_option maxHeartbeats 4000000 in
theorem op_acts {w : Int32} : OpI yX8_acts cX8_acts 2 yX9_acts cX9_acts 2 [.int w] := by
  intro E h ⟨th, s, c, O, F2, we, ss, ke, i0, i1, S, lv, pl, mt, nt, zbk, znw, zta, zwe, zsg, zsd, zfo, zre, zma, zba, zbe, zev, zac, zwr, zsl, zwy, zim, zke, e, hR⟩
  subst e
  obtain ⟨⟨ht, hs8, hFR, hFI, hta, hwm, hwo, hsg, hss⟩, hc, hpl, hn1, hn2, hI0, hI1⟩ := id hR
  rcases b_cases (isInB w 0 1) with h1 | h1
  · by_cases hff : ffR S c 0 0 = -6
    · by_cases hb : (tellF (nI th, F2) lv.2.1 S c).2.2.2.1 = -6
      · by_cases hw : w = 0
        · exact ⟨_, _, retI (rX8_acts_3 hc h1 (can_t hff hb) hw) (by rw [told_t hff]) rfl, is_hp, ret_conseq (rX9_acts_3 (m := (zbk, znw, (nI th), zta, zwe, (nI s), zsg, (nI c), S, zsd, zfo, zre, zma, zba, zbe, zev, zac, zwr, zsl, zwy, zim, zke)) (A0 := lv.2.1) ht hc hff hFR hFI h1 hb hw) (fun r g q => by obtain ⟨n2, s2, f2, r2, m2, b2, e1, e2, -⟩ := q; exact ⟨e2, by rw [e1]; exact relH_mk hR⟩)⟩
        · exact ⟨_, _, retI (rX8_acts_4 hc h1 (can_t hff hb) hw) (by rw [told_t hff]) rfl, is_hp, ret_conseq (rX9_acts_4 (m := (zbk, znw, (nI th), zta, zwe, (nI s), zsg, (nI c), S, zsd, zfo, zre, zma, zba, zbe, zev, zac, zwr, zsl, zwy, zim, zke)) (A0 := lv.2.1) ht hc hff hFR hFI h1 hb hw) (fun r g q => by obtain ⟨n2, s2, f2, r2, m2, b2, e1, e2, -⟩ := q; exact ⟨e2, by rw [e1]; exact relH_mk hR⟩)⟩
      · exact ⟨_, _, rX8_acts_2 hc h1 (can_5 hb), is_hp, ret_conseq (rX9_acts_2b (m := (zbk, znw, (nI th), zta, zwe, (nI s), zsg, (nI c), S, zsd, zfo, zre, zma, zba, zbe, zev, zac, zwr, zsl, zwy, zim, zke)) (A0 := lv.2.1) ht hc hff hFR hFI h1 hb) (fun r g q => by obtain ⟨n2, s2, f2, r2, m2, b2, e1, e2, -⟩ := q; exact ⟨e2, by rw [e1]; exact relH_mk hR⟩)⟩
    · exact ⟨_, _, rX8_acts_2 hc h1 (can_f hff), is_hp, ret_conseq (rX9_acts_2 (m := (zbk, znw, (nI th), zta, zwe, (nI s), zsg, (nI c), S, zsd, zfo, zre, zma, zba, zbe, zev, zac, zwr, zsl, zwy, zim, zke)) hc hff h1) (fun r g q => ⟨q.1, by rw [q.2]; exact relH_mk hR⟩)⟩
  · exact ⟨_, _, rX8_acts_1 h1, is_hp, ret_conseq (rX9_acts_1 h1) (fun r g q => ⟨q.1, by rw [q.2]; exact relH_mk hR⟩)⟩
set_option maxRecDepth 100000 in
set_option maxHeartbeats 4000000 in
theorem op_done  : OpI yX8_done cX8_done 1 yX9_done cX9_done 2 [] := by
  intro E h ⟨th, s, c, O, F2, we, ss, ke, i0, i1, S, lv, pl, mt, nt, zbk, znw, zta, zwe, zsg, zsd, zfo, zre, zma, zba, zbe, zev, zac, zwr, zsl, zwy, zim, zke, e, hR⟩
  subst e
  obtain ⟨⟨ht, hs8, hFR, hFI, hta, hwm, hwo, hsg, hss⟩, hc, hpl, hn1, hn2, hI0, hI1⟩ := id hR
  by_cases hff : ffR S c 0 0 = -6
  · by_cases hb : (tellF (nI th, F2) lv.2.1 S c).2.2.2.1 = -6
    · refine ⟨_, _, retI (rX8_done_2 hc (can_t hff hb)) (by rw [told_t hff]) rfl, is_hp, ret_conseq (rX9_done_3 (m := (zbk, znw, (nI th), zta, zwe, (nI s), zsg, (nI c), S, zsd, zfo, zre, zma, zba, zbe, zev, zac, zwr, zsl, zwy, zim, zke)) (A0 := lv.2.1) ht hc hff hFR hFI hb) (fun r g q => ?_)⟩
      obtain ⟨n2, s2, f2, r2, m2, b2, e1, e2, e3, e4⟩ := q
      refine ⟨e2, ?_⟩
      rw [e1, told_t hff]
      have e3b : FR th (tellF (nI th, F2) lv.2.1 S c).1 n2 := e3
      have e4b : FI th (tellF (nI th, F2) lv.2.1 S c).1 := e4
      have et : (tellF (nI th, F2) lv.2.1 S c).1 = (nI th, (tellF (nI th, F2) lv.2.1 S c).1.2) := Prod.ext e3b.1 rfl
      have hta2 : ∀ p, p < 6 → tb th p = true → zta p = ft (tellF (nI th, F2) lv.2.1 S c).1 p := fun p hp6 hp1 => by
        rw [tell_tail]
        exact hta p hp6 hp1
      rw [et] at e3b e4b hta2 ⊢
      exact relH_mk (c := 0) (zbk := n2) (znw := n2) ⟨⟨ht, hs8, e3b, e4b, hta2, hwm, hwo, hsg, hss⟩, by omega, hpl, hn1, hn2, hI0, hI1⟩
    · exact ⟨_, _, rX8_done_1 hc (can_5 hb), is_hp, ret_conseq (rX9_done_2 (m := (zbk, znw, (nI th), zta, zwe, (nI s), zsg, (nI c), S, zsd, zfo, zre, zma, zba, zbe, zev, zac, zwr, zsl, zwy, zim, zke)) (A0 := lv.2.1) ht hc hff hFR hFI hb) (fun r g q => by obtain ⟨n2, s2, f2, r2, m2, b2, e1, e2, -⟩ := q; exact ⟨e2, by rw [e1]; exact relH_mk hR⟩)⟩
  · exact ⟨_, _, rX8_done_1 hc (can_f hff), is_hp, ret_conseq (rX9_done_1 (m := (zbk, znw, (nI th), zta, zwe, (nI s), zsg, (nI c), S, zsd, zfo, zre, zma, zba, zbe, zev, zac, zwr, zsl, zwy, zim, zke)) hc hff) (fun r g q => ⟨q.1, by rw [q.2]; exact relH_mk hR⟩)⟩
set_option maxRecDepth 100000 in
set_option maxHeartbeats 4000000 in
theorem op_state {p w : Int32} : OpI yX8_state cX8_state 3 yX9_state cX9_state 3 [.int p, .int w] := by
  intro E h ⟨th, s, c, O, F2, we, ss, ke, i0, i1, S, lv, pl, mt, nt, zbk, znw, zta, zwe, zsg, zsd, zfo, zre, zma, zba, zbe, zev, zac, zwr, zsl, zwy, zim, zke, e, hR⟩
  subst e
  obtain ⟨⟨ht, hs8, hFR, hFI, hta, hwm, hwo, hsg, hss⟩, hc, hpl, hn1, hn2, hI0, hI1⟩ := id hR
  rcases b_cases (hasB (nI th) p) with h1 | h1
  · rcases b_cases (isInB w 0 2) with h2 | h2
    · obtain ⟨k, hk6, rfl⟩ := has_nI h1
      obtain ⟨i, -, hi, rfl⟩ := inB_nat (a := 0) (b := 2) (by decide) h2 (by decide)
      have hi3 : i < 3 := by omega
      have htk : tb th k = true := (has_tb th ht k hk6).symm.trans h1
      exact ⟨_, _, retI (rX8_state_3 hk6 h1 h2) ((hold_row hi3).trans (hFR.row hk6 hi3 htk).symm) rfl, is_hp, ret_conseq (rX9_state_3 hk6 hi3 h1) (fun r g q => ⟨q.1, by rw [q.2]; exact relH_mk hR⟩)⟩
    · exact ⟨_, _, rX8_state_2 h1 h2, is_hp, ret_conseq (rX9_state_2 h1 h2) (fun r g q => ⟨q.1, by rw [q.2]; exact relH_mk hR⟩)⟩
  · exact ⟨_, _, rX8_state_1 h1, is_hp, ret_conseq (rX9_state_1 h1) (fun r g q => ⟨q.1, by rw [q.2]; exact relH_mk hR⟩)⟩
set_option maxRecDepth 100000 in
set_option maxHeartbeats 4000000 in
theorem op_behind {p w : Int32} : OpI yX8_behind cX8_behind 3 yX9_behind cX9_behind 3 [.int p, .int w] := by
  intro E h ⟨th, s, c, O, F2, we, ss, ke, i0, i1, S, lv, pl, mt, nt, zbk, znw, zta, zwe, zsg, zsd, zfo, zre, zma, zba, zbe, zev, zac, zwr, zsl, zwy, zim, zke, e, hR⟩
  subst e
  obtain ⟨⟨ht, hs8, hFR, hFI, hta, hwm, hwo, hsg, hss⟩, hc, hpl, hn1, hn2, hI0, hI1⟩ := id hR
  rcases b_cases (hasB (nI th) p) with h1 | h1
  · rcases b_cases (isInB w 0 2) with h2 | h2
    · by_cases hff : ffR S c 0 0 = -6
      · by_cases hb : (tellF (nI th, F2) lv.2.1 S c).2.2.2.1 = -6
        · obtain ⟨k, hk6, rfl⟩ := has_nI h1
          obtain ⟨i, -, hi, rfl⟩ := inB_nat (a := 0) (b := 2) (by decide) h2 (by decide)
          have hi3 : i < 3 := by omega
          exact ⟨_, _, retI (rX8_behind_4 hc hk6 h1 h2 (can_t hff hb)) ((by rw [told_t hff]; exact hold_row hi3 : _ = rowF (tellF (nI th, F2) lv.2.1 S c).1 k i)) rfl, is_hp, ret_conseq (rX9_behind_4 (m := (zbk, znw, (nI th), zta, zwe, (nI s), zsg, (nI c), S, zsd, zfo, zre, zma, zba, zbe, zev, zac, zwr, zsl, zwy, zim, zke)) (A0 := lv.2.1) ht hc hff hFR hFI hk6 hi3 h1 hb) (fun r g q => by obtain ⟨n2, s2, f2, r2, m2, b2, e1, e2, -⟩ := q; exact ⟨e2, by rw [e1]; exact relH_mk hR⟩)⟩
        · exact ⟨_, _, rX8_behind_3 hc h1 h2 (can_5 hb), is_hp, ret_conseq (rX9_behind_3b (m := (zbk, znw, (nI th), zta, zwe, (nI s), zsg, (nI c), S, zsd, zfo, zre, zma, zba, zbe, zev, zac, zwr, zsl, zwy, zim, zke)) (A0 := lv.2.1) ht hc hff hFR hFI h1 h2 hb) (fun r g q => by obtain ⟨n2, s2, f2, r2, m2, b2, e1, e2, -⟩ := q; exact ⟨e2, by rw [e1]; exact relH_mk hR⟩)⟩
      · exact ⟨_, _, rX8_behind_3 hc h1 h2 (can_f hff), is_hp, ret_conseq (rX9_behind_3 (m := (zbk, znw, (nI th), zta, zwe, (nI s), zsg, (nI c), S, zsd, zfo, zre, zma, zba, zbe, zev, zac, zwr, zsl, zwy, zim, zke)) hc hff h1 h2) (fun r g q => ⟨q.1, by rw [q.2]; exact relH_mk hR⟩)⟩
    · exact ⟨_, _, rX8_behind_2 h1 h2, is_hp, ret_conseq (rX9_behind_2 h1 h2) (fun r g q => ⟨q.1, by rw [q.2]; exact relH_mk hR⟩)⟩
  · exact ⟨_, _, rX8_behind_1 h1, is_hp, ret_conseq (rX9_behind_1 h1) (fun r g q => ⟨q.1, by rw [q.2]; exact relH_mk hR⟩)⟩
set_option maxRecDepth 100000 in
set_option maxHeartbeats 4000000 in
theorem op_owes {p q : Int32} : OpI yX8_owes cX8_owes 3 yX9_owes cX9_owes 3 [.int p, .int q] := by
  intro E h ⟨th, s, c, O, F2, we, ss, ke, i0, i1, S, lv, pl, mt, nt, zbk, znw, zta, zwe, zsg, zsd, zfo, zre, zma, zba, zbe, zev, zac, zwr, zsl, zwy, zim, zke, e, hR⟩
  subst e
  obtain ⟨⟨ht, hs8, hFR, hFI, hta, hwm, hwo, hsg, hss⟩, hc, hpl, hn1, hn2, hI0, hI1⟩ := id hR
  rcases b_cases (hasB (nI th) p) with h1 | h1
  · rcases b_cases (hasB (nI th) q) with h2 | h2
    · by_cases h3 : p = q
      · exact ⟨_, _, rX8_owes_3 h1 h2 h3, is_hp, ret_conseq (rX9_owes_3 h1 h2 h3) (fun r g q => ⟨q.1, by rw [q.2]; exact relH_mk hR⟩)⟩
      · obtain ⟨a, ha, rfl⟩ := has_nI h1
        obtain ⟨b, hb, rfl⟩ := has_nI h2
        exact ⟨_, _, retI (rX8_owes_4 ha hb h1 h2 h3) (hFR.2.2.1 a ha b hb).symm rfl, is_hp, ret_conseq (rX9_owes_4 ha hb h1 h2 h3) (fun r g q => ⟨q.1, by rw [q.2]; exact relH_mk hR⟩)⟩
    · exact ⟨_, _, rX8_owes_2 h1 h2, is_hp, ret_conseq (rX9_owes_2 h1 h2) (fun r g q => ⟨q.1, by rw [q.2]; exact relH_mk hR⟩)⟩
  · exact ⟨_, _, rX8_owes_1 h1, is_hp, ret_conseq (rX9_owes_1 h1) (fun r g q => ⟨q.1, by rw [q.2]; exact relH_mk hR⟩)⟩
