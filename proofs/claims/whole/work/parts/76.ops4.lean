theorem sg_new {f : Nat → Int32} {s : Nat} {n q w : Int32} {b : Bool} : sgU f s n q w b (4 * s) = n ∧ sgU f s n q w b (4 * s + 1) = q ∧ sgU f s n q w b (4 * s + 2) = w ∧ sgU f s n q w b (4 * s + 3) = b2i b := by
  unfold sgU
  refine ⟨?_, ?_, ?_, upd_s _ _ _⟩
  · rw [upd_n _ _ (by omega), upd_n _ _ (by omega), upd_n _ _ (by omega), upd_s]
  · rw [upd_n _ _ (by omega), upd_n _ _ (by omega), upd_s]
  · rw [upd_n _ _ (by omega), upd_s]
theorem sg_old {f : Nat → Int32} {s j : Nat} {n q w : Int32} {b : Bool} (h : j < 4 * s) : sgU f s n q w b j = f j := by
  unfold sgU
  rw [upd_n _ _ (by omega), upd_n _ _ (by omega), upd_n _ _ (by omega), upd_n _ _ (by omega)]
def updN (O : Nat → Nat) (s v : Nat) : Nat → Nat := fun i => if i = s then v else O i
theorem upd_O (O : Nat → Nat) (s n q w : Nat) : upd (fun i => nI (O i)) s (100 * nI n + 10 * nI q + nI w) = fun i => nI (updN O s (100 * n + 10 * q + w) i) := by
  funext i
  unfold updN
  by_cases e : i = s
  · subst e; rw [upd_s, if_pos rfl, nI_off]
  · rw [upd_n _ _ e, if_neg e]
theorem bo_nar {x : Int32} (h : x = 0 ∨ x = 1) : narrow .boolean (.int x) = .int x := by
  rcases h with e | e <;> subst e <;> rfl
set_option maxRecDepth 100000 in
set_option maxHeartbeats 4000000 in
theorem op_seen {n q w : Int32} {b : Bool} : OpI yX8_seen cX8_seen 5 yX9_seen cX9_seen 5 [.int n, .int q, .int w, .int (b2i b)] := by
  intro E h ⟨th, s, c, O, F2, we, ss, ke, i0, i1, S, lv, pl, mt, nt, zbk, znw, zta, zwe, zsg, zsd, zfo, zre, zma, zba, zbe, zev, zac, zwr, zsl, zwy, zim, zke, e, hR⟩
  subst e
  obtain ⟨⟨ht, hs8, hFR, hFI, hta, hwm, hwo, hsg, hss⟩, hc, hpl, hn1, hn2, hI0, hI1⟩ := id hR
  rcases b_cases (isInB n 0 9) with h1 | h1
  · rcases b_cases (isInB q 1 8) with h2 | h2
    · rcases b_cases (isInB w 1 9) with h3 | h3
      · by_cases h8 : s = 8
        · exact ⟨_, _, rX8_seen_4 (nw := ((nI th, F2), we, (fun i => nI (O i)), ss, nI s, ke)) h1 h2 h3 h8, is_hp, ret_conseq (rX9_seen_4 h1 h2 h3 h8) (fun r g q => ⟨q.1, by rw [q.2]; exact relH_mk hR⟩)⟩
        · have hlt : s < 8 := by omega
          obtain ⟨x, -, hx, rfl⟩ := inB_nat (a := 0) (b := 9) (by decide) h1 (by decide)
          obtain ⟨y, hy1, hy, rfl⟩ := inB_nat (a := 1) (b := 8) (by decide) h2 (by decide)
          obtain ⟨z, hz1, hz, rfl⟩ := inB_nat (a := 1) (b := 9) (by decide) h3 (by decide)
          have hsg2 : ∀ i, i < s + 1 → sgOK (updN O s (100 * x + 10 * y + z)) (sgU zsg s (nI x) (nI y) (nI z) b) i ∧ sgU zsg s (nI x) (nI y) (nI z) b (4 * i + 3) = upd ss s (b2i b) i := by
            intro i hi
            by_cases e : i = s
            · subst e
              obtain ⟨g1, g2, g3, g4⟩ := sg_new (f := zsg) (s := i) (n := nI x) (q := nI y) (w := nI z) (b := b)
              have eo : updN O i (100 * x + 10 * y + z) i = 100 * x + 10 * y + z := if_pos rfl
              have d1 : (100 * x + 10 * y + z) / 100 = x := by omega
              have d2 : (100 * x + 10 * y + z) / 10 % 10 = y := by omega
              have d3 : (100 * x + 10 * y + z) % 10 = z := by omega
              refine ⟨?_, by rw [g4, upd_s]⟩
              unfold sgOK offOK
              rw [eo, d1, d2, d3, g1, g2, g3]
              exact ⟨⟨hx, hy1, hy, hz1⟩, rfl, rfl, rfl⟩
            · obtain ⟨k1, k2⟩ := hsg i (by omega)
              have eo : updN O s (100 * x + 10 * y + z) i = O i := if_neg e
              refine ⟨?_, by rw [sg_old (by omega), upd_n _ _ e, k2]⟩
              unfold sgOK
              rw [eo, sg_old (by omega), sg_old (by omega), sg_old (by omega)]
              exact k1
          have hss2 : ∀ k, k < 8 → upd ss s (b2i b) k = 0 ∨ upd ss s (b2i b) k = 1 := by
            intro k hk
            by_cases e : k = s
            · subst e; rw [upd_s]; cases b
              · exact Or.inl rfl
              · exact Or.inr rfl
            · rw [upd_n _ _ e]; exact hss k hk
          exact ⟨_, _, retI (rX8_seen_5 (nw := ((nI th, F2), we, (fun i => nI (O i)), ss, nI s, ke)) h1 h2 h3 hlt) rfl (by rw [upd_O]), is_hp, ret_conseq (rX9_seen_5 h1 h2 h3 hlt) (fun r g q => ⟨q.1, by rw [q.2]; exact relH_mk (s := s + 1) ⟨⟨ht, by omega, hFR, hFI, hta, hwm, hwo, hsg2, hss2⟩, hc, hpl, hn1, hn2, hI0, hI1⟩⟩)⟩
      · exact ⟨_, _, rX8_seen_3 h1 h2 h3, is_hp, ret_conseq (rX9_seen_3 h1 h2 h3) (fun r g q => ⟨q.1, by rw [q.2]; exact relH_mk hR⟩)⟩
    · exact ⟨_, _, rX8_seen_2 h1 h2, is_hp, ret_conseq (rX9_seen_2 h1 h2) (fun r g q => ⟨q.1, by rw [q.2]; exact relH_mk hR⟩)⟩
  · exact ⟨_, _, rX8_seen_1 h1, is_hp, ret_conseq (rX9_seen_1 h1) (fun r g q => ⟨q.1, by rw [q.2]; exact relH_mk hR⟩)⟩
set_option maxRecDepth 100000 in
set_option maxHeartbeats 4000000 in
theorem op_forget  : OpI yX8_forget cX8_forget 2 yX9_forget cX9_forget 2 [] := by
  intro E h ⟨th, s, c, O, F2, we, ss, ke, i0, i1, S, lv, pl, mt, nt, zbk, znw, zta, zwe, zsg, zsd, zfo, zre, zma, zba, zbe, zev, zac, zwr, zsl, zwy, zim, zke, e, hR⟩
  subst e
  obtain ⟨⟨ht, hs8, hFR, hFI, hta, hwm, hwo, hsg, hss⟩, hc, hpl, hn1, hn2, hI0, hI1⟩ := id hR
  exact ⟨_, _, rX8_forget_1 (nw := ((nI th, F2), we, (fun i => nI (O i)), ss, nI s, ke)), is_hp, ret_conseq (rX9_forget_1) (fun r g q => ⟨q.1, by rw [q.2]; exact relH_mk (s := 0) ⟨⟨ht, by omega, hFR, hFI, hta, hwm, hwo, fun i hi => by omega, hss⟩, hc, hpl, hn1, hn2, hI0, hI1⟩⟩)⟩
set_option maxRecDepth 100000 in
set_option maxHeartbeats 4000000 in
theorem op_signs  : OpI yX8_signs cX8_signs 1 yX9_signs cX9_signs 1 [] := by
  intro E h ⟨th, s, c, O, F2, we, ss, ke, i0, i1, S, lv, pl, mt, nt, zbk, znw, zta, zwe, zsg, zsd, zfo, zre, zma, zba, zbe, zev, zac, zwr, zsl, zwy, zim, zke, e, hR⟩
  subst e
  obtain ⟨⟨ht, hs8, hFR, hFI, hta, hwm, hwo, hsg, hss⟩, hc, hpl, hn1, hn2, hI0, hI1⟩ := id hR
  obtain ⟨hpl2, tv, ts⟩ := hpl.learn hwo
  obtain ⟨tm, te⟩ := tabM_of (U := zbe) hwo hwm
  have ha := hwo.all_le
  have hR2 : RP th s c O F2 we ss i0 i1 (learnF we pl) nt zbk zta zwe zsg zim zke := ⟨⟨ht, hs8, hFR, hFI, hta, hwm, hwo, hsg, hss⟩, hc, hpl2, hn1, hn2, hI0, hI1⟩
  have hO1 : ∀ i, i < s → offOK (O i) := fun i hi => (hsg i hi).1.1
  have hO2 : ∀ i, i < s → sgOK O zsg i := fun i hi => (hsg i hi).1
  have hO3 : ∀ i, i < s → offOK (O i) ∧ zsg (4 * i + 3) = ss i ∧ (ss i = 0 ∨ ss i = 1) := fun i hi => ⟨hO1 i hi, (hsg i hi).2, hss i (by omega)⟩
  have hse := signs_eq ⟨tv, ts⟩ tm ha hO3
  rw [← te] at hse

  exact ⟨_, _, retI (rX8_signs_1 (nw := ((nI th, F2), we, (fun i => nI (O i)), ss, nI s, ke)) hs8 hO1) hse rfl, is_hp, ret_conseq (rX9_signs_1 hs8 hO2) (fun r g q => ⟨q.1, by rw [q.2]; exact relH_mk hR2⟩)⟩
set_option maxRecDepth 100000 in
set_option maxHeartbeats 4000000 in
theorem op_watch {w : Int32} : OpI yX8_watch cX8_watch 3 yX9_watch cX9_watch 10 [.int w] := by
  intro E h ⟨th, s, c, O, F2, we, ss, ke, i0, i1, S, lv, pl, mt, nt, zbk, znw, zta, zwe, zsg, zsd, zfo, zre, zma, zba, zbe, zev, zac, zwr, zsl, zwy, zim, zke, e, hR⟩
  subst e
  obtain ⟨⟨ht, hs8, hFR, hFI, hta, hwm, hwo, hsg, hss⟩, hc, hpl, hn1, hn2, hI0, hI1⟩ := id hR
  obtain ⟨hpl2, tv, ts⟩ := hpl.learn hwo
  obtain ⟨tm, te⟩ := tabM_of (U := zbe) hwo hwm
  have ha := hwo.all_le
  have hR2 : RP th s c O F2 we ss i0 i1 (learnF we pl) nt zbk zta zwe zsg zim zke := ⟨⟨ht, hs8, hFR, hFI, hta, hwm, hwo, hsg, hss⟩, hc, hpl2, hn1, hn2, hI0, hI1⟩
  have hO1 : ∀ i, i < s → offOK (O i) := fun i hi => (hsg i hi).1.1
  have hO2 : ∀ i, i < s → sgOK O zsg i := fun i hi => (hsg i hi).1
  have hO3 : ∀ i, i < s → offOK (O i) ∧ zsg (4 * i + 3) = ss i ∧ (ss i = 0 ∨ ss i = 1) := fun i hi => ⟨hO1 i hi, (hsg i hi).2, hss i (by omega)⟩
  have hse := signs_eq ⟨tv, ts⟩ tm ha hO3
  rw [← te] at hse

  rcases b_cases (isInB w 0 1) with h1 | h1
  · obtain ⟨o1, o2⟩ := orB_bn (fun h => alR (lbM zwe (wsumF zwe).toInt64 zbe 8) (wsumF zwe).toInt64 O zsg h s) 12 (Nat.le_refl _)
    have h4 := bn_4096 (fun h => alR (lbM zwe (wsumF zwe).toInt64 zbe 8) (wsumF zwe).toInt64 O zsg h s)
    generalize hS : bnN (fun h => alR (lbM zwe (wsumF zwe).toInt64 zbe 8) (wsumF zwe).toInt64 O zsg h s) 12 = Sb at o1 h4
    by_cases h0 : nI Sb = 0
    · have hS0 : Sb = 0 := (nI_eq (b := 0) (by omega) (by decide)).mp h0
      exact ⟨_, _, rX8_watch_2 (nw := ((nI th, F2), we, (fun i => nI (O i)), ss, nI s, ke)) hs8 hO1 h1 (by show fhR (learnF we pl).1 (learnF we pl).2.1 O ss s = 0; rw [hse, o1, h0]), is_hp, ret_conseq (rX9_watch_2 hs8 hO2 h1 h4 o1 hS0) (fun r g q => ⟨q.1, by rw [q.2]; exact relH_mk hR2⟩)⟩
    · have hg := wa_1 ⟨tv, ts⟩ tm ha (c := fun h => alR (lbM zwe (wsumF zwe).toInt64 zbe 8) (wsumF zwe).toInt64 O zsg h s) o1.symm h4 9 (Nat.le_refl _)
      rw [← te, ← hse] at hg
      have hg2 : goodW (bw1 (learnF we pl).1 (learnF we pl).2.1 (fhR (learnF we pl).1 (learnF we pl).2.1 O ss s) 10) (waR (lbM zwe (wsumF zwe).toInt64 zbe 8) (wsumF zwe).toInt64 Sb 1000) := hg
      refine ⟨_, _, retI (rX8_watch_3 (nw := ((nI th, F2), we, (fun i => nI (O i)), ss, nI s, ke)) hs8 hO1 h1 (by show ¬ fhR (learnF we pl).1 (learnF we pl).2.1 O ss s = 0; rw [hse, o1]; exact h0)) ?_ rfl, is_hp, ret_conseq (rX9_watch_3 hs8 hO2 h1 h4 o1 h0) (fun r g q => ⟨q.1, by rw [q.2]; exact relH_mk hR2⟩)⟩
      show (if w = 0 then (bw1 (learnF we pl).1 (learnF we pl).2.1 (fhR (learnF we pl).1 (learnF we pl).2.1 O ss s) 10).1 else (bw1 (learnF we pl).1 (learnF we pl).2.1 (fhR (learnF we pl).1 (learnF we pl).2.1 O ss s) 10).2) = _
      rw [hg2.1, if_neg (Int32.not_lt.mpr (by rw [← hg2.1]; exact hg2.2))]
  · exact ⟨_, _, rX8_watch_1 h1, is_hp, ret_conseq (rX9_watch_1 h1) (fun r g q => ⟨q.1, by rw [q.2]; exact relH_mk hR⟩)⟩
set_option maxRecDepth 100000 in
set_option maxHeartbeats 4000000 in
theorem op_book {x y w : Int32} : OpI yX8_book cX8_book 5 yX9_book cX9_book 8 [.int x, .int y, .int w] := by
  intro E h ⟨th, s, c, O, F2, we, ss, ke, i0, i1, S, lv, pl, mt, nt, zbk, znw, zta, zwe, zsg, zsd, zfo, zre, zma, zba, zbe, zev, zac, zwr, zsl, zwy, zim, zke, e, hR⟩
  subst e
  obtain ⟨⟨ht, hs8, hFR, hFI, hta, hwm, hwo, hsg, hss⟩, hc, hpl, hn1, hn2, hI0, hI1⟩ := id hR
  rcases b_cases (isInB x 0 9999) with h1 | h1
  · rcases b_cases (isInB y 1 99) with h2 | h2
    · rcases b_cases (isInB w 0 2) with h3 | h3
      · obtain ⟨X0, -, hX0, rfl⟩ := inB_nat (a := 0) (b := 9999) (by decide) h1 (by decide)
        obtain ⟨my, hm1, hmy, rfl⟩ := inB_nat (a := 1) (b := 99) (by decide) h2 (by decide)
        by_cases hw : w = 0
        · exact ⟨_, _, rX8_book_4 h1 hm1 hmy h3 hw, is_hp, ret_conseq (rX9_book_4 ht hFR hFI hX0 hm1 hmy h3) (fun r g q => by obtain ⟨nr, sg, fo, xk, k1, k2, k3⟩ := q; exact ⟨by rw [k2, book_eq ht k1, if_pos hw], by rw [k3]; exact relH_mk hR⟩)⟩
        · by_cases hw1 : w = 1
          · exact ⟨_, _, rX8_book_5 h1 hm1 hmy h3 hw hw1, is_hp, ret_conseq (rX9_book_4 ht hFR hFI hX0 hm1 hmy h3) (fun r g q => by obtain ⟨nr, sg, fo, xk, k1, k2, k3⟩ := q; exact ⟨by rw [k2, book_eq ht k1, if_neg hw, if_pos hw1], by rw [k3]; exact relH_mk hR⟩)⟩
          · exact ⟨_, _, rX8_book_6 h1 hm1 hmy h3 hw hw1, is_hp, ret_conseq (rX9_book_4 ht hFR hFI hX0 hm1 hmy h3) (fun r g q => by obtain ⟨nr, sg, fo, xk, k1, k2, k3⟩ := q; exact ⟨by rw [k2, book_eq ht k1, if_neg hw, if_neg hw1], by rw [k3]; exact relH_mk hR⟩)⟩
      · exact ⟨_, _, rX8_book_3 h1 h2 h3, is_hp, ret_conseq (rX9_book_3 h1 h2 h3) (fun r g q => ⟨q.1, by rw [q.2]; exact relH_mk hR⟩)⟩
    · exact ⟨_, _, rX8_book_2 h1 h2, is_hp, ret_conseq (rX9_book_2 h1 h2) (fun r g q => ⟨q.1, by rw [q.2]; exact relH_mk hR⟩)⟩
  · exact ⟨_, _, rX8_book_1 h1, is_hp, ret_conseq (rX9_book_1 h1) (fun r g q => ⟨q.1, by rw [q.2]; exact relH_mk hR⟩)⟩
set_option maxRecDepth 100000 in
set_option maxHeartbeats 4000000 in
theorem op_told {w : Int32} : OpI yX8_told cX8_told 2 yX9_told cX9_told 2 [.int w] := by
  intro E h ⟨th, s, c, O, F2, we, ss, ke, i0, i1, S, lv, pl, mt, nt, zbk, znw, zta, zwe, zsg, zsd, zfo, zre, zma, zba, zbe, zev, zac, zwr, zsl, zwy, zim, zke, e, hR⟩
  subst e
  obtain ⟨⟨ht, hs8, hFR, hFI, hta, hwm, hwo, hsg, hss⟩, hc, hpl, hn1, hn2, hI0, hI1⟩ := id hR
  by_cases e0 : w = 0
  · subst e0
    exact ⟨_, _, rX8_told_0, is_hp, ret_conseq (rX9_told_0) (fun r g q => ⟨q.1, by rw [q.2]; exact relH_mk hR⟩)⟩
  by_cases e1 : w = 1
  · subst e1
    exact ⟨_, _, rX8_told_1, is_hp, ret_conseq (rX9_told_1) (fun r g q => ⟨q.1, by rw [q.2]; exact relH_mk hR⟩)⟩
  by_cases e2 : w = 2
  · subst e2
    exact ⟨_, _, retI rX8_told_2 hFR.2.2.2.symm rfl, is_hp, ret_conseq (rX9_told_2) (fun r g q => ⟨q.1, by rw [q.2]; exact relH_mk hR⟩)⟩
  by_cases e3 : w = 3
  · subst e3
    exact ⟨_, _, rX8_told_3, is_hp, ret_conseq (rX9_told_3) (fun r g q => ⟨q.1, by rw [q.2]; exact relH_mk hR⟩)⟩
  rcases b_cases (isInB w 11 19) with h4 | h4
  · obtain ⟨k, hk1, hk9, rfl⟩ := inB_nat (a := 11) (b := 19) (by decide) h4 (by decide)
    obtain ⟨j, rfl⟩ : ∃ j, k = j + 10 := ⟨k - 10, by omega⟩
    exact ⟨_, _, retI (rX8_told_4 (k := j) (by omega) (by omega)) (hwm j (by omega)).symm rfl, is_hp, ret_conseq (rX9_told_4 (k := j) (by omega) (by omega)) (fun r g q => ⟨q.1, by rw [q.2]; exact relH_mk hR⟩)⟩
  rcases b_cases (isInB w 20 25) with h5 | h5
  · obtain ⟨k, hk1, hk9, rfl⟩ := inB_nat (a := 20) (b := 25) (by decide) h5 (by decide)
    obtain ⟨j, rfl⟩ : ∃ j, k = j + 20 := ⟨k - 20, by omega⟩
    have hj : j < 6 := by omega
    rcases b_cases (hasB (nI th) (nI j)) with h6 | h6
    · exact ⟨_, _, retI (rX8_told_5 hj h6) (hta j hj ((has_tb th ht j hj).symm.trans h6)).symm rfl, is_hp, ret_conseq (rX9_told_5 hj h6) (fun r g q => ⟨q.1, by rw [q.2]; exact relH_mk hR⟩)⟩
    · exact ⟨_, _, rX8_told_6 hj h6, is_hp, ret_conseq (rX9_told_6 hj h6) (fun r g q => ⟨q.1, by rw [q.2]; exact relH_mk hR⟩)⟩
  · exact ⟨_, _, rX8_told_7 e0 e1 e2 e3 h4 h5, is_hp, ret_conseq (rX9_told_7 e0 e1 e2 e3 h4 h5) (fun r g q => ⟨q.1, by rw [q.2]; exact relH_mk hR⟩)⟩
