set_option maxRecDepth 100000 in
set_option maxHeartbeats 4000000 in
theorem op_who {w : Int32} : OpI yX8_who cX8_who 2 yX9_who cX9_who 5 [.int w] := by
  intro E h ⟨th, s, c, O, F2, we, ss, ke, i0, i1, S, lv, pl, mt, nt, zbk, znw, zta, zwe, zsg, zsd, zfo, zre, zma, zba, zbe, zev, zac, zwr, zsl, zwy, zim, zke, e, hR⟩
  subst e
  obtain ⟨⟨ht, hs8, hFR, hFI, hta, hwm, hwo, hsg, hss⟩, hc, hpl, hn1, hn2, hI0, hI1⟩ := id hR
  rcases b_cases (isInB w 0 1) with h1 | h1
  · have hw2 := who_eq ht hFR hFI
    by_cases hw : w = 0
    · exact ⟨_, _, retI (rX8_who_2 h1 hw) (hw2.1.trans (if_pos hw).symm) rfl, is_hp, ret_conseq (rX9_who_2 ht h1) (fun r g q => ⟨q.1, by rw [q.2]; exact relH_mk hR⟩)⟩
    · exact ⟨_, _, retI (rX8_who_3 h1 hw) (hw2.2.trans (if_neg hw).symm) rfl, is_hp, ret_conseq (rX9_who_2 ht h1) (fun r g q => ⟨q.1, by rw [q.2]; exact relH_mk hR⟩)⟩
  · exact ⟨_, _, rX8_who_1 h1, is_hp, ret_conseq (rX9_who_1 h1) (fun r g q => ⟨q.1, by rw [q.2]; exact relH_mk hR⟩)⟩
set_option maxRecDepth 100000 in
set_option maxHeartbeats 4000000 in
theorem op_best {n q w : Int32} : OpL yX8_best cX8_best 4 yX9_best cX9_best 4 [.int n, .int q, .int w] := by
  intro E h ⟨th, s, c, O, F2, we, ss, ke, i0, i1, S, lv, pl, mt, nt, zbk, znw, zta, zwe, zsg, zsd, zfo, zre, zma, zba, zbe, zev, zac, zwr, zsl, zwy, zim, zke, e, hR⟩
  subst e
  obtain ⟨⟨ht, hs8, hFR, hFI, hta, hwm, hwo, hsg, hss⟩, hc, hpl, hn1, hn2, hI0, hI1⟩ := id hR
  obtain ⟨hpl2, tv, ts⟩ := hpl.learn hwo
  obtain ⟨tm, te⟩ := tabM_of (U := zbe) hwo hwm
  have ha := hwo.all_le
  have hR2 : RP th s c O F2 we ss i0 i1 (learnF we pl) nt zbk zta zwe zsg zim zke := ⟨⟨ht, hs8, hFR, hFI, hta, hwm, hwo, hsg, hss⟩, hc, hpl2, hn1, hn2, hI0, hI1⟩

  rcases b_cases (isInB n 0 9) with h1 | h1
  · rcases b_cases (isInB q 0 8) with h2 | h2
    · rcases b_cases (isInB w 0 1) with h3 | h3
      · obtain ⟨a, -, ha9, rfl⟩ := inB_nat (a := 0) (b := 9) (by decide) h1 (by decide)
        obtain ⟨b, -, hb8, rfl⟩ := inB_nat (a := 0) (b := 8) (by decide) h2 (by decide)
        have b1 := BV_lt ha (m := b) (n := a) hb8
        have b2 := pow81 ha (m := b) hb8
        have b3 : 0 < allN (wN we) ^ b := Nat.pow_pos (by have := hwo.2; omega)
        obtain ⟨g, g1, g2, g3⟩ := frac_eq (a := BV (wN we) b a) (b := allN (wN we) ^ b) (by omega) (by omega) b3
        have hgd : gdR 99 (lbM zwe (wsumF zwe).toInt64 zbe 8 (11 * a + b)) (pwL (wsumF zwe).toInt64 b) = some g := by rw [tm a b ha9 hb8, te, pwL_lN]; exact g1
        exact ⟨_, _, retL (rX8_best_3 ha9 hb8 h3) (by rw [tv a b ha9 hb8, ts b hb8, g3, ← tm a b ha9 hb8, ← pwL_lN, ← te]) rfl, is_hp, ret_conseq (rX9_best_4 ha9 hb8 h3 hgd g2) (fun r g q => ⟨q.1, by rw [q.2]; exact relH_mk hR2⟩)⟩
      · exact ⟨_, _, rX8_best_2 (by rw [h1, h2]; rfl) h3, is_hp, ret_conseq (rX9_best_3 h1 h2 h3) (fun r g q => ⟨q.1, by rw [q.2]; exact relH_mk hR⟩)⟩
    · exact ⟨_, _, rX8_best_1 (by rw [h1, h2]; rfl), is_hp, ret_conseq (rX9_best_2 h1 h2) (fun r g q => ⟨q.1, by rw [q.2]; exact relH_mk hR⟩)⟩
  · exact ⟨_, _, rX8_best_1 (by rw [h1, Bool.false_and]), is_hp, ret_conseq (rX9_best_1 h1) (fun r g q => ⟨q.1, by rw [q.2]; exact relH_mk hR⟩)⟩
theorem in89 {n : Int32} (h : isInB n 0 8 = true) : isInB n 0 9 = true := by
  obtain ⟨a, -, ha, rfl⟩ := inB_nat (a := 0) (b := 8) (by decide) h (by decide)
  exact inB_of (a := 0) (b := 9) (by omega) (by omega) (by decide)
set_option maxRecDepth 100000 in
set_option maxHeartbeats 4000000 in
theorem op_price {n q w : Int32} : OpL yX8_price cX8_price 4 yX9_price cX9_price 4 [.int n, .int q, .int w] := by
  intro E h ⟨th, s, c, O, F2, we, ss, ke, i0, i1, S, lv, pl, mt, nt, zbk, znw, zta, zwe, zsg, zsd, zfo, zre, zma, zba, zbe, zev, zac, zwr, zsl, zwy, zim, zke, e, hR⟩
  subst e
  obtain ⟨⟨ht, hs8, hFR, hFI, hta, hwm, hwo, hsg, hss⟩, hc, hpl, hn1, hn2, hI0, hI1⟩ := id hR
  obtain ⟨hpl2, tv, ts⟩ := hpl.learn hwo
  obtain ⟨tm, te⟩ := tabM_of (U := zbe) hwo hwm
  have ha := hwo.all_le
  have hR2 : RP th s c O F2 we ss i0 i1 (learnF we pl) nt zbk zta zwe zsg zim zke := ⟨⟨ht, hs8, hFR, hFI, hta, hwm, hwo, hsg, hss⟩, hc, hpl2, hn1, hn2, hI0, hI1⟩

  rcases b_cases (isInB n 0 8) with h1 | h1
  · rcases b_cases (isInB q 0 8) with h2 | h2
    · rcases b_cases (isInB w 0 1) with h3 | h3
      · obtain ⟨a, -, ha8, rfl⟩ := inB_nat (a := 0) (b := 8) (by decide) h1 (by decide)
        obtain ⟨b, -, hb8, rfl⟩ := inB_nat (a := 0) (b := 8) (by decide) h2 (by decide)
        have b0 := BV_lt ha (m := b) (n := a) hb8
        have b1 := BV_lt ha (m := b) (n := a + 1) hb8
        have b2 := pow81 ha (m := b) hb8
        have bm := BV_mono (wN we) b a
        have b3 : 0 < allN (wN we) ^ b := Nat.pow_pos (by have := hwo.2; omega)
        obtain ⟨g, g1, g2, g3⟩ := frac_eq (a := BV (wN we) b (a + 1) - BV (wN we) b a) (b := allN (wN we) ^ b) (by omega) (by omega) b3
        have ed : lbM zwe (wsumF zwe).toInt64 zbe 8 (11 * (a + 1) + b) - lbM zwe (wsumF zwe).toInt64 zbe 8 (11 * a + b) = lN (BV (wN we) b (a + 1) - BV (wN we) b a) := by rw [tm (a + 1) b (by omega) hb8, tm a b (by omega) hb8, lN_sub bm]
        have hgd : gdR 99 (lbM zwe (wsumF zwe).toInt64 zbe 8 (11 * (a + 1) + b) - lbM zwe (wsumF zwe).toInt64 zbe 8 (11 * a + b)) (pwL (wsumF zwe).toInt64 b) = some g := by rw [ed, te, pwL_lN]; exact g1
        exact ⟨_, _, retL (rX8_price_4 ha8 hb8 h3) (by rw [tv (a + 1) b (by omega) hb8, tv a b (by omega) hb8, lN_sub bm, ts b hb8, g3, ← ed, ← pwL_lN, ← te]) rfl, is_hp, ret_conseq (rX9_price_4 ha8 hb8 h3 hgd g2) (fun r g q => ⟨q.1, by rw [q.2]; exact relH_mk hR2⟩)⟩
      · exact ⟨_, _, rX8_price_3 h1 (by rw [in89 h1, h2]; rfl) h3, is_hp, ret_conseq (rX9_price_3 h1 h2 h3) (fun r g q => ⟨q.1, by rw [q.2]; exact relH_mk hR⟩)⟩
    · exact ⟨_, _, rX8_price_2 h1 (by rw [in89 h1, h2]; rfl), is_hp, ret_conseq (rX9_price_2 h1 h2) (fun r g q => ⟨q.1, by rw [q.2]; exact relH_mk hR⟩)⟩
  · exact ⟨_, _, rX8_price_1 h1, is_hp, ret_conseq (rX9_price_1 h1) (fun r g q => ⟨q.1, by rw [q.2]; exact relH_mk hR⟩)⟩
set_option maxRecDepth 100000 in
set_option maxHeartbeats 4000000 in
theorem op_least {n q : Int32} : OpI yX8_least cX8_least 3 yX9_least cX9_least 3 [.int n, .int q] := by
  intro E h ⟨th, s, c, O, F2, we, ss, ke, i0, i1, S, lv, pl, mt, nt, zbk, znw, zta, zwe, zsg, zsd, zfo, zre, zma, zba, zbe, zev, zac, zwr, zsl, zwy, zim, zke, e, hR⟩
  subst e
  obtain ⟨⟨ht, hs8, hFR, hFI, hta, hwm, hwo, hsg, hss⟩, hc, hpl, hn1, hn2, hI0, hI1⟩ := id hR
  obtain ⟨hpl2, tv, ts⟩ := hpl.learn hwo
  obtain ⟨tm, te⟩ := tabM_of (U := zbe) hwo hwm
  have ha := hwo.all_le
  have hR2 : RP th s c O F2 we ss i0 i1 (learnF we pl) nt zbk zta zwe zsg zim zke := ⟨⟨ht, hs8, hFR, hFI, hta, hwm, hwo, hsg, hss⟩, hc, hpl2, hn1, hn2, hI0, hI1⟩

  rcases b_cases (isInB n 0 9) with h1 | h1
  · rcases b_cases (isInB q 0 8) with h2 | h2
    · by_cases hn0 : n = 0
      · exact ⟨_, _, rX8_least_2 (by rw [h1, h2]; rfl) hn0, is_hp, ret_conseq (rX9_least_3 h1 h2 hn0) (fun r g q => ⟨q.1, by rw [q.2]; exact relH_mk hR⟩)⟩
      · by_cases hq0 : q = 0
        · exact ⟨_, _, rX8_least_3 (by rw [h1, h2]; rfl) hn0 hq0, is_hp, ret_conseq (rX9_least_4 h1 h2 hq0) (fun r g q => ⟨q.1, by rw [q.2]; exact relH_mk hR⟩)⟩
        · obtain ⟨a, -, ha9, rfl⟩ := inB_nat (a := 0) (b := 9) (by decide) h1 (by decide)
          obtain ⟨b, -, hb8, rfl⟩ := inB_nat (a := 0) (b := 8) (by decide) h2 (by decide)
          have ha0 : ¬ a = 0 := fun z => hn0 (by rw [z]; rfl)
          have hb0 : ¬ b = 0 := fun z => hq0 (by rw [z]; rfl)
          obtain ⟨p, rfl⟩ : ∃ p, a = p + 1 := ⟨a - 1, by omega⟩
          obtain ⟨z, rfl⟩ : ∃ z, b = z + 1 := ⟨b - 1, by omega⟩
          exact ⟨_, _, retI (rX8_least_4 (by omega) ha9 (by omega) hb8) (by rw [least_eq ⟨tv, ts⟩ tm ha (by omega) (by omega) 8 1 rfl, ← te]) rfl, is_hp, ret_conseq (rX9_least_5 (by omega) (by omega)) (fun r g q => ⟨q.1, by rw [q.2]; exact relH_mk hR2⟩)⟩
    · exact ⟨_, _, rX8_least_1 (by rw [h1, h2]; rfl), is_hp, ret_conseq (rX9_least_2 h1 h2) (fun r g q => ⟨q.1, by rw [q.2]; exact relH_mk hR⟩)⟩
  · exact ⟨_, _, rX8_least_1 (by rw [h1, Bool.false_and]), is_hp, ret_conseq (rX9_least_1 h1) (fun r g q => ⟨q.1, by rw [q.2]; exact relH_mk hR⟩)⟩
set_option maxRecDepth 100000 in
set_option maxHeartbeats 4000000 in
theorem op_last {n q t w : Int32} : OpL yX8_last cX8_last 5 yX9_last cX9_last 5 [.int n, .int q, .int t, .int w] := by
  intro E h ⟨th, s, c, O, F2, we, ss, ke, i0, i1, S, lv, pl, mt, nt, zbk, znw, zta, zwe, zsg, zsd, zfo, zre, zma, zba, zbe, zev, zac, zwr, zsl, zwy, zim, zke, e, hR⟩
  subst e
  obtain ⟨⟨ht, hs8, hFR, hFI, hta, hwm, hwo, hsg, hss⟩, hc, hpl, hn1, hn2, hI0, hI1⟩ := id hR
  rcases b_cases (isInB n 0 400) with h1 | h1
  · rcases b_cases (isInB q 0 9) with h2 | h2
    · rcases b_cases (isInB t 0 10) with h3 | h3
      · rcases b_cases (isInB w 0 1) with h4 | h4
        · obtain ⟨a, -, ha, rfl⟩ := inB_nat (a := 0) (b := 400) (by decide) h1 (by decide)
          obtain ⟨b, -, hb, rfl⟩ := inB_nat (a := 0) (b := 9) (by decide) h2 (by decide)
          obtain ⟨x, -, hx, rfl⟩ := inB_nat (a := 0) (b := 10) (by decide) h3 (by decide)
          obtain ⟨g, g1, g2, g3⟩ := last_eq (h := min a b) hb hx (Nat.min_le_right _ _)
          exact ⟨_, _, retL (rX8_last_5 ha hb hx h4) (g3 w) rfl, is_hp, ret_conseq (rX9_last_5 ha hb hx h4 g1 g2) (fun r g q => ⟨q.1, by rw [q.2]; exact relH_mk hR⟩)⟩
        · exact ⟨_, _, rX8_last_4 h1 h2 h3 h4, is_hp, ret_conseq (rX9_last_4 h1 h2 h3 h4) (fun r g q => ⟨q.1, by rw [q.2]; exact relH_mk hR⟩)⟩
      · exact ⟨_, _, rX8_last_3 h1 h2 h3, is_hp, ret_conseq (rX9_last_3 h1 h2 h3) (fun r g q => ⟨q.1, by rw [q.2]; exact relH_mk hR⟩)⟩
    · exact ⟨_, _, rX8_last_2 h1 h2, is_hp, ret_conseq (rX9_last_2 h1 h2) (fun r g q => ⟨q.1, by rw [q.2]; exact relH_mk hR⟩)⟩
  · exact ⟨_, _, rX8_last_1 h1, is_hp, ret_conseq (rX9_last_1 h1) (fun r g q => ⟨q.1, by rw [q.2]; exact relH_mk hR⟩)⟩
set_option maxRecDepth 100000 in
set_option maxHeartbeats 4000000 in
theorem op_blots {n q t w : Int32} : OpL yX8_blots cX8_blots 5 yX9_blots cX9_blots 5 [.int n, .int q, .int t, .int w] := by
  intro E h ⟨th, s, c, O, F2, we, ss, ke, i0, i1, S, lv, pl, mt, nt, zbk, znw, zta, zwe, zsg, zsd, zfo, zre, zma, zba, zbe, zev, zac, zwr, zsl, zwy, zim, zke, e, hR⟩
  subst e
  obtain ⟨⟨ht, hs8, hFR, hFI, hta, hwm, hwo, hsg, hss⟩, hc, hpl, hn1, hn2, hI0, hI1⟩ := id hR
  rcases b_cases (isInB n 0 9) with h1 | h1
  · rcases b_cases (isInB q 0 n) with h2 | h2
    · rcases b_cases (isInB t 0 10) with h3 | h3
      · rcases b_cases (isInB w 0 1) with h4 | h4
        · obtain ⟨b, -, hb, rfl⟩ := inB_nat (a := 0) (b := 9) (by decide) h1 (by decide)
          obtain ⟨a, -, ha, rfl⟩ := inB_nat (a := 0) (b := b) (by omega) h2 (by decide)
          obtain ⟨x, -, hx, rfl⟩ := inB_nat (a := 0) (b := 10) (by decide) h3 (by decide)
          obtain ⟨g, g1, g2, g3⟩ := last_eq (h := min (b - a) b) hb hx (Nat.min_le_right _ _)
          exact ⟨_, _, retL (rX8_blots_5 ha hb hx h4) (g3 w) rfl, is_hp, ret_conseq (rX9_blots_5 ha hb hx h4 g1 g2) (fun r g q => ⟨q.1, by rw [q.2]; exact relH_mk hR⟩)⟩
        · exact ⟨_, _, rX8_blots_4 h1 h2 h3 h4, is_hp, ret_conseq (rX9_blots_4 h1 h2 h3 h4) (fun r g q => ⟨q.1, by rw [q.2]; exact relH_mk hR⟩)⟩
      · exact ⟨_, _, rX8_blots_3 h1 h2 h3, is_hp, ret_conseq (rX9_blots_3 h1 h2 h3) (fun r g q => ⟨q.1, by rw [q.2]; exact relH_mk hR⟩)⟩
    · exact ⟨_, _, rX8_blots_2 h1 h2, is_hp, ret_conseq (rX9_blots_2 h1 h2) (fun r g q => ⟨q.1, by rw [q.2]; exact relH_mk hR⟩)⟩
  · exact ⟨_, _, rX8_blots_1 h1, is_hp, ret_conseq (rX9_blots_1 h1) (fun r g q => ⟨q.1, by rw [q.2]; exact relH_mk hR⟩)⟩
set_option maxRecDepth 100000 in
set_option maxHeartbeats 4000000 in
theorem op_netted {p : Int32} : OpI yX8_netted cX8_netted 2 yX9_netted cX9_netted 2 [.int p] := by
  intro E h ⟨th, s, c, O, F2, we, ss, ke, i0, i1, S, lv, pl, mt, nt, zbk, znw, zta, zwe, zsg, zsd, zfo, zre, zma, zba, zbe, zev, zac, zwr, zsl, zwy, zim, zke, e, hR⟩
  subst e
  obtain ⟨⟨ht, hs8, hFR, hFI, hta, hwm, hwo, hsg, hss⟩, hc, hpl, hn1, hn2, hI0, hI1⟩ := id hR
  rcases b_cases (hasB (nI th) p) with h1 | h1
  · obtain ⟨k, hk6, rfl⟩ := has_nI h1
    exact ⟨_, _, retI (rX8_netted_2 hk6 h1) (by rw [net_eq hFR hk6]) rfl, is_hp, ret_conseq (rX9_netted_2 hk6 h1) (fun r g q => ⟨q.1, by rw [q.2]; exact relH_mk hR⟩)⟩
  · exact ⟨_, _, rX8_netted_1 h1, is_hp, ret_conseq (rX9_netted_1 h1) (fun r g q => ⟨q.1, by rw [q.2]; exact relH_mk hR⟩)⟩
set_option maxRecDepth 100000 in
set_option maxHeartbeats 4000000 in
theorem op_hands  : OpI yX8_hands cX8_hands 1 yX9_hands cX9_hands 6 [] := by
  intro E h ⟨th, s, c, O, F2, we, ss, ke, i0, i1, S, lv, pl, mt, nt, zbk, znw, zta, zwe, zsg, zsd, zfo, zre, zma, zba, zbe, zev, zac, zwr, zsl, zwy, zim, zke, e, hR⟩
  subst e
  obtain ⟨⟨ht, hs8, hFR, hFI, hta, hwm, hwo, hsg, hss⟩, hc, hpl, hn1, hn2, hI0, hI1⟩ := id hR
  obtain ⟨o1, o2⟩ := orB_bn (opB zbk) 6 (by omega)
  have hl := bn_lt (opB zbk) 6
  have h64 : (2 : Nat) ^ 6 = 64 := by decide
  have z0 := nh_ok (F := (nI th, F2)) hn1 hn2 63 (Nat.le_refl _)
  have zs : (nhR (nI th, F2) nt 63).1 0 = 0 := by
    rw [z0.1 0 (by omega)]
    simp [ssG, tb]
  exact ⟨_, _, retI (rX8_hands_1) (hands_eq (Ev := zev) hFR (by omega) o1 hn1 hn2) rfl, is_hp, ret_conseq (rX9_hands_1 (by omega) o1) (fun r g q => ⟨q.1, by rw [q.2]; exact relH_mk ⟨⟨ht, hs8, hFR, hFI, hta, hwm, hwo, hsg, hss⟩, hc, hpl, zs, z0.2.1, hI0, hI1⟩⟩)⟩
set_option maxRecDepth 100000 in
set_option maxHeartbeats 4000000 in
theorem op_compare {n : Int32} : OpI yX8_compare cX8_compare 4 yX9_compare cX9_compare 4 [.int n] := by
  intro E h ⟨th, s, c, O, F2, we, ss, ke, i0, i1, S, lv, pl, mt, nt, zbk, znw, zta, zwe, zsg, zsd, zfo, zre, zma, zba, zbe, zev, zac, zwr, zsl, zwy, zim, zke, e, hR⟩
  subst e
  obtain ⟨⟨ht, hs8, hFR, hFI, hta, hwm, hwo, hsg, hss⟩, hc, hpl, hn1, hn2, hI0, hI1⟩ := id hR
  rcases b_cases (isInB n 1 99) with h1 | h1
  · obtain ⟨k, hk1, hk, rfl⟩ := inB_nat (a := 1) (b := 99) (by decide) h1 (by decide)
    exact ⟨_, _, rX8_compare_2 hk1 hk, is_hp, ret_conseq (rX9_compare_2 hk1 hk) (fun r g q => ⟨q.1, by rw [q.2]; exact relH_mk hR⟩)⟩
  · exact ⟨_, _, rX8_compare_1 h1, is_hp, ret_conseq (rX9_compare_1 h1) (fun r g q => ⟨q.1, by rw [q.2]; exact relH_mk hR⟩)⟩
set_option maxRecDepth 100000 in
set_option maxHeartbeats 4000000 in
theorem op_match {z w : Int32} : OpI yX8_match cX8_match 3 yX9_match cX9_match 3 [.int z, .int w] := by
  intro E h ⟨th, s, c, O, F2, we, ss, ke, i0, i1, S, lv, pl, mt, nt, zbk, znw, zta, zwe, zsg, zsd, zfo, zre, zma, zba, zbe, zev, zac, zwr, zsl, zwy, zim, zke, e, hR⟩
  subst e
  obtain ⟨⟨ht, hs8, hFR, hFI, hta, hwm, hwo, hsg, hss⟩, hc, hpl, hn1, hn2, hI0, hI1⟩ := id hR
  have hft : ∀ p, p < 6 → tb th p = true → ∃ x, x < 10 ∧ ft (nI th, F2) p = nI x ∧ zta p = nI x := by
    intro p hp6 hp1
    have hb := hFI.2.2.2.2 p hp6 hp1
    refine ⟨(ft (nI th, F2) p).toInt.toNat, by omega, ?_, ?_⟩
    · apply Int32.toInt_inj.mp
      rw [nI_toInt (by omega)]
      omega
    · rw [hta p hp6 hp1]
      apply Int32.toInt_inj.mp
      rw [nI_toInt (by omega)]
      omega
  have hz : laB th z = true → ∃ Z : Nat, Z < 2 ^ 31 ∧ z = nI Z := by
    intro h
    unfold laB at h
    have h0 : 0 ≤ z := by
      simp only [Bool.and_eq_true, decide_eq_true_eq] at h
      exact h.1
    exact nI_of (Int32.not_lt.mpr h0)

  rcases b_cases (laB th z) with h1 | h1
  · have h1b : tailsB th z = true := (tails_eq ht).trans h1
    rcases b_cases (isInB w 0 1) with h2 | h2
    · obtain ⟨Z, hZ, rfl⟩ := hz h1
      have hm := match_eq (M := mt) (zac := zac) (zwr := zwr) ht hZ hft
      by_cases hw : w = 0
      · exact ⟨_, _, retI (rX8_match_3 (nw := ((nI th, F2), we, (fun i => nI (O i)), ss, nI s, ke)) ht h1b h2 hw) hm.1 rfl, is_hp, ret_conseq (rX9_match_3 ht h1 h2 hw) (fun r g q => ⟨q.1, by rw [q.2]; exact relH_mk hR⟩)⟩
      · exact ⟨_, _, retI (rX8_match_4 (nw := ((nI th, F2), we, (fun i => nI (O i)), ss, nI s, ke)) ht h1b h2 hw) hm.2.1 rfl, is_hp, ret_conseq (rX9_match_4 ht h1 h2 hw) (fun r g q => ⟨q.1, by rw [q.2]; exact relH_mk hR⟩)⟩
    · exact ⟨_, _, rX8_match_2 (nw := ((nI th, F2), we, (fun i => nI (O i)), ss, nI s, ke)) ht h1b h2, is_hp, ret_conseq (rX9_match_2 ht h1 h2) (fun r g q => ⟨q.1, by rw [q.2]; exact relH_mk hR⟩)⟩
  · have h1b : tailsB th z = false := (tails_eq ht).trans h1
    exact ⟨_, _, rX8_match_1 (nw := ((nI th, F2), we, (fun i => nI (O i)), ss, nI s, ke)) ht h1b, is_hp, ret_conseq (rX9_match_1 ht h1) (fun r g q => ⟨q.1, by rw [q.2]; exact relH_mk hR⟩)⟩
set_option maxRecDepth 100000 in
set_option maxHeartbeats 4000000 in
theorem op_wrote {z w : Int32} : OpI yX8_wrote cX8_wrote 3 yX9_wrote cX9_wrote 3 [.int z, .int w] := by
  intro E h ⟨th, s, c, O, F2, we, ss, ke, i0, i1, S, lv, pl, mt, nt, zbk, znw, zta, zwe, zsg, zsd, zfo, zre, zma, zba, zbe, zev, zac, zwr, zsl, zwy, zim, zke, e, hR⟩
  subst e
  obtain ⟨⟨ht, hs8, hFR, hFI, hta, hwm, hwo, hsg, hss⟩, hc, hpl, hn1, hn2, hI0, hI1⟩ := id hR
  have hft : ∀ p, p < 6 → tb th p = true → ∃ x, x < 10 ∧ ft (nI th, F2) p = nI x ∧ zta p = nI x := by
    intro p hp6 hp1
    have hb := hFI.2.2.2.2 p hp6 hp1
    refine ⟨(ft (nI th, F2) p).toInt.toNat, by omega, ?_, ?_⟩
    · apply Int32.toInt_inj.mp
      rw [nI_toInt (by omega)]
      omega
    · rw [hta p hp6 hp1]
      apply Int32.toInt_inj.mp
      rw [nI_toInt (by omega)]
      omega
  have hz : laB th z = true → ∃ Z : Nat, Z < 2 ^ 31 ∧ z = nI Z := by
    intro h
    unfold laB at h
    have h0 : 0 ≤ z := by
      simp only [Bool.and_eq_true, decide_eq_true_eq] at h
      exact h.1
    exact nI_of (Int32.not_lt.mpr h0)

  rcases b_cases (laB th z) with h1 | h1
  · have h1b : tailsB th z = true := (tails_eq ht).trans h1
    rcases b_cases (isInB w 0 (nI (pcN th) - 1)) with h2 | h2
    · obtain ⟨Z, hZ, rfl⟩ := hz h1
      have hm := match_eq (M := mt) (zac := zac) (zwr := zwr) ht hZ hft
      have hp6 := pc_le th ht
      have hw : ∃ a : Nat, a < pcN th ∧ w = nI a := by
        rcases Nat.eq_zero_or_pos (pcN th) with e | e
        · rw [e] at h2
          simp only [isInB, Bool.and_eq_true, decide_eq_true_eq, Int32.le_iff_toInt_le] at h2
          have e0 : (0 : Int32).toInt = 0 := rfl
          have e1 : (nI 0 - 1).toInt = -1 := by decide
          omega
        · obtain ⟨n, hn⟩ : ∃ n, pcN th = n + 1 := ⟨pcN th - 1, by omega⟩
          rw [hn, nI_pred] at h2
          obtain ⟨a, -, ha, rfl⟩ := inB_nat (a := 0) (b := n) (by omega) h2 (by decide)
          exact ⟨a, by omega, rfl⟩
      obtain ⟨a, ha, rfl⟩ := hw
      exact ⟨_, _, retI (rX8_wrote_3 (nw := ((nI th, F2), we, (fun i => nI (O i)), ss, nI s, ke)) ht (by omega) h1b h2) (hm.2.2 a ha) rfl, is_hp, ret_conseq (rX9_wrote_3 ht (by omega) h1 h2) (fun r g q => ⟨q.1, by rw [q.2]; exact relH_mk hR⟩)⟩
    · exact ⟨_, _, rX8_wrote_2 (nw := ((nI th, F2), we, (fun i => nI (O i)), ss, nI s, ke)) ht h1b h2, is_hp, ret_conseq (rX9_wrote_2 ht h1 h2) (fun r g q => ⟨q.1, by rw [q.2]; exact relH_mk hR⟩)⟩
  · have h1b : tailsB th z = false := (tails_eq ht).trans h1
    exact ⟨_, _, rX8_wrote_1 (nw := ((nI th, F2), we, (fun i => nI (O i)), ss, nI s, ke)) ht h1b, is_hp, ret_conseq (rX9_wrote_1 ht h1) (fun r g q => ⟨q.1, by rw [q.2]; exact relH_mk hR⟩)⟩
