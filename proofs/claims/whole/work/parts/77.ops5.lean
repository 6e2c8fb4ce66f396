/-! what an IMAGE holds -/
theorem imU_at {g bk ta we sg : Nat → Int32} {n : Nat} {th si : Int32} : (∀ j, j < 61 → imU g n bk ta we sg th si (130 * n + j) = bk j) ∧ (∀ j, j < 6 → imU g n bk ta we sg th si (130 * n + 61 + j) = ta j) ∧ (∀ j, j < 10 → imU g n bk ta we sg th si (130 * n + 70 + j) = we j) ∧ (∀ j, j < 32 → imU g n bk ta we sg th si (130 * n + 80 + j) = sg j) ∧ imU g n bk ta we sg th si (130 * n + 120) = th ∧ imU g n bk ta we sg th si (130 * n + 121) = si := by
  unfold imU
  refine ⟨fun j hj => ?_, fun j hj => ?_, fun j hj => ?_, fun j hj => ?_, ?_, upd_s _ _ _⟩
  · rw [upd_n _ _ (by omega), upd_n _ _ (by omega)]
    unfold cpO
    rw [if_neg (by omega), if_neg (by omega), if_neg (by omega), if_pos (by omega), Nat.add_sub_cancel_left]
  · rw [upd_n _ _ (by omega), upd_n _ _ (by omega)]
    unfold cpO
    rw [if_neg (by omega), if_neg (by omega), if_pos (by omega), Nat.add_sub_cancel_left]
  · rw [upd_n _ _ (by omega), upd_n _ _ (by omega)]
    unfold cpO
    rw [if_neg (by omega), if_pos (by omega), Nat.add_sub_cancel_left]
  · rw [upd_n _ _ (by omega), upd_n _ _ (by omega)]
    unfold cpO
    rw [if_pos (by omega), Nat.add_sub_cancel_left]
  · rw [upd_n _ _ (by omega), upd_s]
theorem imU_out {g bk ta we sg : Nat → Int32} {n i : Nat} {th si : Int32} (h : i < 130 * n ∨ 130 * n + 122 ≤ i) : imU g n bk ta we sg th si i = g i := by
  unfold imU
  rw [upd_n _ _ (by omega), upd_n _ _ (by omega)]
  unfold cpO
  rw [if_neg (by omega), if_neg (by omega), if_neg (by omega), if_neg (by omega)]
theorem FR.cong {th : Nat} {F : FolkS} {bk b2 : Nat → Int32} (h : FR th F bk) (e : ∀ j, j < 61 → b2 j = bk j) : FR th F b2 := by
  refine ⟨h.1, fun p hp6 hp1 => ?_, fun a ha b hb => ?_, ?_⟩
  · rw [e p (by omega), e (6 + p) (by omega), e (12 + p) (by omega)]
    exact h.2.1 p hp6 hp1
  · rw [e _ (by omega)]
    exact h.2.2.1 a ha b hb
  · rw [e 60 (by omega)]
    exact h.2.2.2
theorem WP.cong {th s : Nat} {O : Nat → Nat} {F2 : Fo2} {we ss bk ta wm sg b2 t2 w2 g2 : Nat → Int32} (h : WP th s O F2 we ss bk ta wm sg) (e1 : ∀ j, j < 61 → b2 j = bk j) (e2 : ∀ j, j < 6 → t2 j = ta j) (e3 : ∀ j, j < 10 → w2 j = wm j) (e4 : ∀ j, j < 32 → g2 j = sg j) : WP th s O F2 we ss b2 t2 w2 g2 := by
  obtain ⟨ht, hs8, hFR, hFI, hta, hwm, hwo, hsg, hss⟩ := h
  refine ⟨ht, hs8, hFR.cong e1, hFI, fun p hp6 hp1 => by rw [e2 p hp6]; exact hta p hp6 hp1, fun j hj => by rw [e3 j hj]; exact hwm j hj, hwo, fun i hi => ?_, hss⟩
  obtain ⟨k1, k2⟩ := hsg i hi
  refine ⟨?_, by rw [e4 _ (by omega)]; exact k2⟩
  unfold sgOK at k1 ⊢
  rw [e4 _ (by omega), e4 _ (by omega), e4 _ (by omega)]
  exact k1
theorem ImR.out {W : WorldS} {g g2 : Nat → Int32} {k k2 : Int32} {n : Nat} (h : ImR W g k n) (ek : k2 = k) (e : ∀ j, j < 122 → g2 (130 * n + j) = g (130 * n + j)) : ImR W g2 k2 n := by
  subst ek
  refine ⟨h.1, ?_⟩
  rcases h.2 with h0 | ⟨h1, th, s, O, F2, we, ss, ke, q1, q2, q3, q4⟩
  · exact Or.inl h0
  · refine Or.inr ⟨h1, th, s, O, F2, we, ss, ke, q1, by rw [e 120 (by omega)]; exact q2, by rw [e 121 (by omega)]; exact q3, ?_⟩
    refine q4.cong (fun j hj => e j (by omega)) (fun j hj => ?_) (fun j hj => ?_) (fun j hj => ?_)
    · have := e (61 + j) (by omega); rw [← Nat.add_assoc] at this; exact this
    · have := e (70 + j) (by omega); rw [← Nat.add_assoc] at this; exact this
    · have := e (80 + j) (by omega); rw [← Nat.add_assoc] at this; exact this
theorem ImR.new {th s : Nat} {O : Nat → Nat} {F2 : Fo2} {we ss bk ta wm sg g : Nat → Int32} {n : Nat} (h : WP th s O F2 we ss bk ta wm sg) : ImR (wld th s O F2 we ss 1) (imU g n bk ta wm sg (nI th) (nI s)) 1 n := by
  obtain ⟨a1, a2, a3, a4, a5, a6⟩ := imU_at (g := g) (n := n) (bk := bk) (ta := ta) (we := wm) (sg := sg) (th := nI th) (si := nI s)
  exact ⟨rfl, Or.inr ⟨rfl, th, s, O, F2, we, ss, 1, rfl, a5, a6, h.cong a1 a2 a3 a4⟩⟩
set_option maxRecDepth 100000 in
set_option maxHeartbeats 4000000 in
theorem op_image {n : Int32} : OpI yX8_image cX8_image 2 yX9_image cX9_image 4 [.int n] := by
  intro E h ⟨th, s, c, O, F2, we, ss, ke, i0, i1, S, lv, pl, mt, nt, zbk, znw, zta, zwe, zsg, zsd, zfo, zre, zma, zba, zbe, zev, zac, zwr, zsl, zwy, zim, zke, e, hR⟩
  subst e
  obtain ⟨⟨ht, hs8, hFR, hFI, hta, hwm, hwo, hsg, hss⟩, hc, hpl, hn1, hn2, hI0, hI1⟩ := id hR
  rcases b_cases (isInB n 0 1) with h1 | h1
  · obtain ⟨k, -, hk, rfl⟩ := inB_nat (a := 0) (b := 1) (by decide) h1 (by decide)
    have hk2 : k = 0 ∨ k = 1 := by omega
    rcases hk2 with e | e
    · subst e
      have hz : ∀ k, k < 8 → narrow .boolean (.int (ss k)) = .int (ss k) := fun k hk => bo_nar (hss k hk)
      have hnew : ImR (wld th s O F2 we ss 1) (imU zim 0 zbk zta zwe zsg (nI th) (nI s)) (upd zke 0 1 0) 0 := by rw [upd_s]; exact ImR.new hR.1
      have hold : ImR i1 (imU zim 0 zbk zta zwe zsg (nI th) (nI s)) (upd zke 0 1 1) 1 := hI1.out (upd_n _ _ (by decide)) (fun j hj => imU_out (by omega))
      exact ⟨_, _, rX8_image_20 (nw := ((nI th, F2), we, (fun i => nI (O i)), ss, nI s, ke)) hz, is_hp, ret_conseq (rX9_image_2 (n := 0) (by decide)) (fun r g q => ⟨q.1, by rw [q.2]; exact relH_mk (zke := upd zke 0 1) ⟨⟨ht, hs8, hFR, hFI, hta, hwm, hwo, hsg, hss⟩, hc, hpl, hn1, hn2, hnew, hold⟩⟩)⟩
    · subst e
      have hz : ∀ k, k < 8 → narrow .boolean (.int (ss k)) = .int (ss k) := fun k hk => bo_nar (hss k hk)
      have hnew : ImR (wld th s O F2 we ss 1) (imU zim 1 zbk zta zwe zsg (nI th) (nI s)) (upd zke 1 1 1) 1 := by rw [upd_s]; exact ImR.new hR.1
      have hold : ImR i0 (imU zim 1 zbk zta zwe zsg (nI th) (nI s)) (upd zke 1 1 0) 0 := hI0.out (upd_n _ _ (by decide)) (fun j hj => imU_out (by omega))
      exact ⟨_, _, rX8_image_21 (nw := ((nI th, F2), we, (fun i => nI (O i)), ss, nI s, ke)) hz, is_hp, ret_conseq (rX9_image_2 (n := 1) (by decide)) (fun r g q => ⟨q.1, by rw [q.2]; exact relH_mk (zke := upd zke 1 1) ⟨⟨ht, hs8, hFR, hFI, hta, hwm, hwo, hsg, hss⟩, hc, hpl, hn1, hn2, hold, hnew⟩⟩)⟩
  · exact ⟨_, _, rX8_image_1 h1, is_hp, ret_conseq (rX9_image_1 h1) (fun r g q => ⟨q.1, by rw [q.2]; exact relH_mk hR⟩)⟩
set_option maxRecDepth 100000 in
set_option maxHeartbeats 4000000 in
theorem op_restore {n : Int32} : OpI yX8_restore cX8_restore 2 yX9_restore cX9_restore 4 [.int n] := by
  intro E h ⟨th, s, c, O, F2, we, ss, ke, i0, i1, S, lv, pl, mt, nt, zbk, znw, zta, zwe, zsg, zsd, zfo, zre, zma, zba, zbe, zev, zac, zwr, zsl, zwy, zim, zke, e, hR⟩
  subst e
  obtain ⟨⟨ht, hs8, hFR, hFI, hta, hwm, hwo, hsg, hss⟩, hc, hpl, hn1, hn2, hI0, hI1⟩ := id hR
  rcases b_cases (isInB n 0 1) with h1 | h1
  · obtain ⟨k, -, hk, rfl⟩ := inB_nat (a := 0) (b := 1) (by decide) h1 (by decide)
    have hk2 : k = 0 ∨ k = 1 := by omega
    rcases hk2 with e | e
    · subst e
      by_cases hk0 : zke 0 = 0
      · exact ⟨_, _, rX8_restore_20 (by rw [← hI0.1]; exact hk0), is_hp, ret_conseq (rX9_restore_2 (n := 0) (by decide) hk0) (fun r g q => ⟨q.1, by rw [q.2]; exact relH_mk hR⟩)⟩
      · rcases hI0.2 with z | ⟨k1, th2, s2, O2, F3, we2, ss2, ke2, q1, q2, q3, q4⟩
        · exact absurd z hk0
        subst q1
        have hz : ∀ k, k < 8 → narrow .boolean (.int (ss2 k)) = .int (ss2 k) := fun k hk => bo_nar (q4.2.2.2.2.2.2.2.2 k hk)
        have hke : ¬ (wld th2 s2 O2 F3 we2 ss2 ke2).2.2.2.2.2 = 0 := by rw [← hI0.1]; exact hk0
        refine ⟨_, _, rX8_restore_30 (nw := ((nI th, F2), we, (fun i => nI (O i)), ss, nI s, ke)) hke hz, is_hp, ret_conseq (rX9_restore_3 (n := 0) (by decide) hk0) (fun r g q => ⟨q.1, ?_⟩)⟩
        rw [q.2, q2, q3]
        exact relH_mk (th := th2) (s := s2) (O := O2) (F2 := F3) (we := we2) (ss := ss2) ⟨q4, hc, hpl.forget, hn1, hn2, hI0, hI1⟩
    · subst e
      by_cases hk0 : zke 1 = 0
      · exact ⟨_, _, rX8_restore_21 (by rw [← hI1.1]; exact hk0), is_hp, ret_conseq (rX9_restore_2 (n := 1) (by decide) hk0) (fun r g q => ⟨q.1, by rw [q.2]; exact relH_mk hR⟩)⟩
      · rcases hI1.2 with z | ⟨k1, th2, s2, O2, F3, we2, ss2, ke2, q1, q2, q3, q4⟩
        · exact absurd z hk0
        subst q1
        have hz : ∀ k, k < 8 → narrow .boolean (.int (ss2 k)) = .int (ss2 k) := fun k hk => bo_nar (q4.2.2.2.2.2.2.2.2 k hk)
        have hke : ¬ (wld th2 s2 O2 F3 we2 ss2 ke2).2.2.2.2.2 = 0 := by rw [← hI1.1]; exact hk0
        refine ⟨_, _, rX8_restore_31 (nw := ((nI th, F2), we, (fun i => nI (O i)), ss, nI s, ke)) hke hz, is_hp, ret_conseq (rX9_restore_3 (n := 1) (by decide) hk0) (fun r g q => ⟨q.1, ?_⟩)⟩
        rw [q.2, q2, q3]
        exact relH_mk (th := th2) (s := s2) (O := O2) (F2 := F3) (we := we2) (ss := ss2) ⟨q4, hc, hpl.forget, hn1, hn2, hI0, hI1⟩
  · exact ⟨_, _, rX8_restore_1 h1, is_hp, ret_conseq (rX9_restore_1 h1) (fun r g q => ⟨q.1, by rw [q.2]; exact relH_mk hR⟩)⟩
