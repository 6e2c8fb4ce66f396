/-! LAST, BLOTS: a thousand cases -/
theorem ways_eq : ∀ q, q < 10 → ∀ t, t < 11 → ∀ h, h < 10 → h ≤ q → (wyR q t (h + 1)).1 = amR q t (h + 1) ∧ ¬ amR q t (h + 1) < 0 := by decide +kernel
theorem pw10L : ∀ q, q < 10 → pwL (10 : Int32).toInt64 q = lN (10 ^ q) ∧ pwL (10 : Int64) q = lN (10 ^ q) ∧ 0 < 10 ^ q ∧ 10 ^ q < 2 ^ 63 := by decide +kernel
theorem last_eq {q t h : Nat} (hq : q ≤ 9) (ht : t ≤ 10) (hh : h ≤ q) : ∃ g : Int64, gdR 99 (amR q t (h + 1)) (pwL 10 q) = some g ∧ ¬ g = 0 ∧ ∀ w : Int32, frF (wyR q t (h + 1)).1 (pwL (10 : Int32).toInt64 q) w = if w = 0 then amR q t (h + 1) / g else pwL 10 q / g := by
  obtain ⟨e1, e2⟩ := ways_eq q (by omega) t (by omega) h (by omega) hh
  obtain ⟨p1, p2, p3, p4⟩ := pw10L q (by omega)
  obtain ⟨a, ha, ea⟩ := pk_lOf e2
  rw [e1, p1, p2, ea]
  exact frac_eq ha p4 p3
/-! WHO -/
theorem who_ok {th : Nat} {F : FolkS} {bk : Nat → Int32} (ht : th < 64) (h : FR th F bk) (hI : FI th F) : ∀ k : Nat, k ≤ 6 → (whR th bk k = none → richF F k = (-6, -1)) ∧ ∀ r, whR th bk k = some r → richF F k = (nI r, fw F r) ∧ tb th r = true
  | 0, _ => ⟨fun _ => rfl, fun r hr => by simp [whR] at hr⟩
  | k + 1, hk => by
    obtain ⟨i1, i2⟩ := who_ok ht h hI k (by omega)
    rw [whR]
    have hb : hasB F.1 (nI k) = tb th k := by rw [h.1]; exact has_tb th ht k (by omega)
    by_cases hp1 : tb th k = true
    · rw [if_pos hp1]
      cases hw : whR th bk k with
      | none =>
        refine ⟨(fun z => by cases z), fun r hr => ?_⟩
        cases hr
        have hf := (hI.2.1 k (by omega)).1
        rw [rich_yes (hb.trans hp1) (by
          rw [i1 hw]
          show ¬ fw F k ≤ -1
          rw [Int32.le_iff_toInt_le]
          have : (-1 : Int32).toInt = -1 := rfl
          omega)]
        exact ⟨rfl, hp1⟩
      | some z =>
        obtain ⟨j1, j2⟩ := i2 z hw
        have hz := whR_lt k z hw
        have w1 := h.worth (k := k) (by omega) hp1
        have w2 := h.worth (k := z) (by omega) j2
        simp only
        rw [w1, w2]
        by_cases hle : fw F k ≤ fw F z
        · rw [if_pos hle]
          refine ⟨(fun q => by cases q), fun r hr => ?_⟩
          cases hr
          rw [rich_no2 (by rw [j1]; exact hle)]
          exact ⟨j1, j2⟩
        · rw [if_neg hle]
          refine ⟨(fun q => by cases q), fun r hr => ?_⟩
          cases hr
          rw [rich_yes (hb.trans hp1) (by rw [j1]; exact hle)]
          exact ⟨rfl, hp1⟩
    · have hp2 : tb th k = false := by simpa using hp1
      rw [if_neg hp1, rich_no1 (hb.trans hp2)]
      exact ⟨i1, i2⟩
theorem who_eq {th : Nat} {F : FolkS} {bk : Nat → Int32} (ht : th < 64) (h : FR th F bk) (hI : FI th F) : (richF F 6).1 = oN (whR th bk 6) ∧ orB (honB F) 6 = orB (hoB th bk) 6 := by
  obtain ⟨i1, i2⟩ := who_ok ht h hI 6 (Nat.le_refl _)
  refine ⟨?_, orB_cong (fun p hp6 => ?_)⟩
  · cases hw : whR th bk 6 with
    | none => rw [i1 hw]; rfl
    | some r => rw [(i2 r hw).1]; rfl
  · unfold honB hoB
    rw [h.1, has_tb th ht p hp6]
    cases ht2 : tb th p with
    | false => rfl
    | true => rw [(h.2.1 p hp6 ht2).2.2]
/-! YEAR-BOOK -/
theorem wt_eq {th : Nat} {F : FolkS} {nr : Nat → Int32} {y : Int32} (h : FR th (fYr F y) nr) (hI : FI th F) : ∀ k : Nat, k ≤ 6 → sumI (fw F) k = wtS th nr k
  | 0, _ => rfl
  | k + 1, hk => by
    rw [sumI, wtS, wt_eq h hI k (by omega)]
    by_cases ht : tb th k = true
    · rw [if_pos ht, h.worth (by omega) ht]
    · rw [if_neg ht, (hI.2.2.2.1 k (by omega) (by simpa using ht)).1]
theorem bs_ct {th : Nat} {nr : Nat → Int32} : ∀ k : Nat, bsS th nr k = nI (ctN (fun p => tb th p && decide (nr p = 0)) k)
  | 0 => rfl
  | k + 1 => by
    rw [bsS, ctN, bs_ct k]
    by_cases h : (tb th k && decide (nr k = 0)) = true
    · rw [if_pos h, if_pos h, nI_1]
    · rw [if_neg h, if_neg h, Int32.add_zero, Nat.add_zero]
theorem ct_cong {c e : Nat → Bool} : ∀ k : Nat, (∀ p, p < k → c p = e p) → ctN c k = ctN e k
  | 0, _ => rfl
  | k + 1, h => by rw [ctN, ctN, ct_cong k (fun p hp2 => h p (by omega)), h k (by omega)]
theorem bs_eq {th : Nat} {F : FolkS} {nr : Nat → Int32} {y : Int32} (ht : th < 64) (h : FR th (fYr F y) nr) : bcF (orB (bareB F) 6) = bsS th nr 6 := by
  obtain ⟨o1, o2⟩ := orB_bn (bareB F) 6 (by omega)
  have hl := bn_lt (bareB F) 6
  have h64 : (2 : Nat) ^ 6 = 64 := by decide
  rw [o1, bc_pc _ (by omega), o2, bs_ct]
  congr 1
  refine ct_cong 6 (fun p hp6 => ?_)
  unfold bareB
  have e1 : F.1 = nI th := h.1
  rw [e1, has_tb th ht p hp6]
  cases ht2 : tb th p with
  | false => rfl
  | true => rw [h.sheets hp6 ht2]
theorem book_eq {th my : Nat} {F0 : FolkS} {x fo xk w : Int32} {nr : Nat → Int32} (ht : th < 64) (h : bkI th F0 x my nr fo xk) : bkA th nr fo w = if w = 0 then sumI (fw (dwR F0 x my).1) 6 else if w = 1 then (dwR F0 x my).2.1 else bcF (orB (bareB (dwR F0 x my).1) 6) := by
  obtain ⟨⟨y, hF⟩, hI, h1, -⟩ := h
  rw [bkA, wt_eq hF hI 6 (Nat.le_refl _), bs_eq ht hF, h1]
/-! a PERSON comes, or dies -/
theorem FR.enter {th k : Nat} {F : FolkS} {bk : Nat → Int32} {s t : Int32} (ht : th < 64) (hk : k < 6) (h : FR th F bk) (hp : tb th k = true) : FR (th ||| 2 ^ k) (enterF F k s t) (upd bk k s) := by
  have hb := or_bit th ht k hk
  have hsame : th ||| 2 ^ k = th := by
    have : ∀ th, th < 64 → ∀ k, k < 6 → tb th k = true → th ||| 2 ^ k = th := by decide +kernel
    exact this th ht k hk hp
  refine ⟨?_, ?_, ?_, ?_⟩
  · show F.1 ||| _ = _
    rw [h.1, hb.1]
  · intro p hp6 hpt
    rw [hsame] at hpt
    obtain ⟨g1, g2, g3⟩ := h.2.1 p hp6 hpt
    refine ⟨?_, ?_, ?_⟩
    · show upd bk k s p = upd (fs_ F) k s p
      by_cases e : p = k
      · subst e; rw [upd_s, upd_s]
      · rw [upd_n _ _ e, upd_n _ _ e, g1]
    · rw [upd_n _ _ (by omega)]; exact g2
    · rw [upd_n _ _ (by omega)]; exact g3
  · intro a ha b hb2
    rw [upd_n _ _ (by omega)]
    exact h.2.2.1 a ha b hb2
  · rw [upd_n _ _ (by omega)]
    exact h.2.2.2
theorem or_tb : ∀ th, th < 64 → ∀ k, k < 6 → ∀ p, p < 6 → tb (th ||| 2 ^ k) p = (tb th p || decide (p = k)) := by decide +kernel
theorem and_tb : ∀ th, th < 64 → ∀ k, k < 6 → ∀ p, p < 6 → tb (th &&& (63 ^^^ 2 ^ k)) p = (tb th p && !(decide (p = k))) := by decide +kernel
theorem FR.enter2 {th k : Nat} {F : FolkS} {bk : Nat → Int32} {s t : Int32} (ht : th < 64) (hk : k < 6) (h : FR th F bk) (hI : FI th F) (hp : tb th k = false) : FR (th ||| 2 ^ k) (enterF F k s t) (upd (upd (upd bk (6 + k) 0) (12 + k) 0) k s) := by
  have hb := or_bit th ht k hk
  obtain ⟨z1, z2⟩ := hI.2.2.2.1 k hk hp
  refine ⟨?_, ?_, ?_, ?_⟩
  · show F.1 ||| _ = _
    rw [h.1, hb.1]
  · intro p hp6 hpt
    rw [or_tb th ht k hk p hp6] at hpt
    by_cases e : p = k
    · subst e
      refine ⟨?_, ?_, ?_⟩
      · show upd _ _ _ p = upd (fs_ F) p s p
        rw [upd_s, upd_s]
      · show upd _ _ _ (6 + p) = fw F p
        rw [upd_n _ _ (by omega), upd_n _ _ (by omega), upd_s, z1]
      · show upd _ _ _ (12 + p) = fg F p
        rw [upd_n _ _ (by omega), upd_s, z2]
    · rw [decide_eq_false e, Bool.or_false] at hpt
      obtain ⟨g1, g2, g3⟩ := h.2.1 p hp6 hpt
      refine ⟨?_, ?_, ?_⟩
      · show upd _ _ _ p = upd (fs_ F) k s p
        rw [upd_n _ _ e, upd_n _ _ (by omega), upd_n _ _ (by omega), upd_n _ _ e, g1]
      · rw [upd_n _ _ (by omega), upd_n _ _ (by omega), upd_n _ _ (by omega)]; exact g2
      · rw [upd_n _ _ (by omega), upd_n _ _ (by omega), upd_n _ _ (by omega)]; exact g3
  · intro a ha b hb2
    rw [upd_n _ _ (by omega), upd_n _ _ (by omega), upd_n _ _ (by omega)]
    exact h.2.2.1 a ha b hb2
  · rw [upd_n _ _ (by omega), upd_n _ _ (by omega), upd_n _ _ (by omega)]
    exact h.2.2.2
theorem FI.enter {th k : Nat} {F : FolkS} {s t : Int32} (ht : th < 64) (hk : k < 6) (h : FI th F) (hs : 0 ≤ s.toInt ∧ s.toInt ≤ 400) (htl : 0 ≤ t.toInt ∧ t.toInt ≤ 9) : FI (th ||| 2 ^ k) (enterF F k s t) := by
  refine ⟨?_, h.2.1, h.2.2.1, ?_, ?_⟩
  · intro p hp6 hpt
    show 0 ≤ (upd (fs_ F) k s p).toInt ∧ (upd (fs_ F) k s p).toInt ≤ 400
    by_cases e : p = k
    · subst e; rw [upd_s]; exact hs
    · rw [or_tb th ht k hk p hp6, decide_eq_false e, Bool.or_false] at hpt
      rw [upd_n _ _ e]
      exact h.1 p hp6 hpt
  · intro p hp6 hpt
    rw [or_tb th ht k hk p hp6] at hpt
    exact h.2.2.2.1 p hp6 (by
      cases hh : tb th p
      · rfl
      · rw [hh] at hpt; simp at hpt)
  · intro p hp6 hpt
    show 0 ≤ (upd (ft F) k t p).toInt ∧ (upd (ft F) k t p).toInt ≤ 9
    by_cases e : p = k
    · subst e; rw [upd_s]; exact htl
    · rw [or_tb th ht k hk p hp6, decide_eq_false e, Bool.or_false] at hpt
      rw [upd_n _ _ e]
      exact h.2.2.2.2 p hp6 hpt
theorem leaveD_at {de : Nat → Int32} {p : Nat} (hp6 : p < 6) : ∀ (k a b : Nat), k ≤ 6 → a < 6 → b < 6 → leaveD de p k (a * 6 + b) = if (a = p ∧ b < k) ∨ (b = p ∧ a < k) then 0 else de (a * 6 + b)
  | 0, a, b, _, ha, hb => by rw [leaveD, if_neg (by omega)]
  | k + 1, a, b, hk, ha, hb => by
    rw [leaveD]
    have ih := leaveD_at (de := de) hp6 k a b (by omega) ha hb
    by_cases e1 : a * 6 + b = k * 6 + p
    · have : a = k ∧ b = p := by omega
      rw [e1, upd_s, if_pos (by omega)]
    · rw [upd_n _ _ e1]
      by_cases e2 : a * 6 + b = p * 6 + k
      · have : a = p ∧ b = k := by omega
        rw [e2, upd_s, if_pos (by omega)]
      · rw [upd_n _ _ e2, ih]
        by_cases h : (a = p ∧ b < k) ∨ (b = p ∧ a < k)
        · rw [if_pos h, if_pos (by omega)]
        · rw [if_neg h, if_neg (by omega)]
theorem dieB_at {bk : Nat → Int32} {p : Nat} (hp6 : p < 6) : ∀ (k a b : Nat), k ≤ 6 → a < 6 → b < 6 → dieB bk p k (20 + 6 * a + b) = if (a = p ∧ b < k) ∨ (b = p ∧ a < k) then 0 else bk (20 + 6 * a + b)
  | 0, a, b, _, ha, hb => by rw [dieB, if_neg (by omega)]
  | k + 1, a, b, hk, ha, hb => by
    rw [dieB]
    have ih := dieB_at (bk := bk) hp6 k a b (by omega) ha hb
    by_cases e1 : 20 + 6 * a + b = 20 + 6 * k + p
    · have : a = k ∧ b = p := by omega
      rw [e1, upd_s, if_pos (by omega)]
    · rw [upd_n _ _ e1]
      by_cases e2 : 20 + 6 * a + b = 20 + 6 * p + k
      · have : a = p ∧ b = k := by omega
        rw [e2, upd_s, if_pos (by omega)]
      · rw [upd_n _ _ e2, ih]
        by_cases h : (a = p ∧ b < k) ∨ (b = p ∧ a < k)
        · rw [if_pos h, if_pos (by omega)]
        · rw [if_neg h, if_neg (by omega)]
theorem dieB_low {bk : Nat → Int32} {p : Nat} (hp6 : p < 6) : ∀ (k j : Nat), k ≤ 6 → (j < 20 ∨ 56 ≤ j) → dieB bk p k j = bk j
  | 0, j, _, _ => by rw [dieB]
  | k + 1, j, hk, hj => by rw [dieB, upd_n _ _ (by omega), upd_n _ _ (by omega), dieB_low hp6 k j (by omega) hj]
theorem FR.leave {th k : Nat} {F : FolkS} {bk : Nat → Int32} (ht : th < 64) (hk : k < 6) (h : FR th F bk) : FR (th &&& (63 ^^^ 2 ^ k)) (leaveF F k) (dieB bk k 6) := by
  have hb := and_bit th ht k hk
  refine ⟨?_, ?_, ?_, ?_⟩
  · show F.1 &&& _ = _
    rw [h.1, hb.1]
  · intro p hp6 hpt
    rw [and_tb th ht k hk p hp6] at hpt
    have e : ¬ p = k := by intro e; rw [decide_eq_true e] at hpt; simp at hpt
    have ht2 : tb th p = true := by rw [decide_eq_false e] at hpt; simpa using hpt
    obtain ⟨g1, g2, g3⟩ := h.2.1 p hp6 ht2
    rw [dieB_low hk 6 p (Nat.le_refl _) (by omega), dieB_low hk 6 (6 + p) (Nat.le_refl _) (by omega), dieB_low hk 6 (12 + p) (Nat.le_refl _) (by omega)]
    refine ⟨?_, ?_, ?_⟩
    · show bk p = upd (fs_ F) k 0 p
      rw [upd_n _ _ e, g1]
    · show bk (6 + p) = upd (fw F) k 0 p
      rw [upd_n _ _ e, g2]
    · show bk (12 + p) = upd (fg F) k 0 p
      rw [upd_n _ _ e, g3]
  · intro a ha b hb2
    show dieB bk k 6 _ = leaveD (fd F) k 6 (a * 6 + b)
    rw [dieB_at hk 6 a b (Nat.le_refl _) ha hb2, leaveD_at hk 6 a b (Nat.le_refl _) ha hb2, h.2.2.1 a ha b hb2]
  · rw [dieB_low hk 6 60 (Nat.le_refl _) (by omega)]
    exact h.2.2.2
theorem FI.leave {th k : Nat} {F : FolkS} (ht : th < 64) (hk : k < 6) (h : FI th F) : FI (th &&& (63 ^^^ 2 ^ k)) (leaveF F k) := by
  have hne : ∀ p, p < 6 → tb (th &&& (63 ^^^ 2 ^ k)) p = true → ¬ p = k ∧ tb th p = true := by
    intro p hp6 hpt
    rw [and_tb th ht k hk p hp6] at hpt
    have e : ¬ p = k := by intro e; rw [decide_eq_true e] at hpt; simp at hpt
    exact ⟨e, by rw [decide_eq_false e] at hpt; simpa using hpt⟩
  refine ⟨?_, ?_, h.2.2.1, ?_, ?_⟩
  · intro p hp6 hpt
    obtain ⟨e, ht2⟩ := hne p hp6 hpt
    show 0 ≤ (upd (fs_ F) k 0 p).toInt ∧ (upd (fs_ F) k 0 p).toInt ≤ 400
    rw [upd_n _ _ e]
    exact h.1 p hp6 ht2
  · intro p hp6
    show 0 ≤ (upd (fw F) k 0 p).toInt ∧ (upd (fw F) k 0 p).toInt ≤ 9999
    exact upd_rng (h.2.1 p hp6) (by decide)
  · intro p hp6 hpt
    show upd (fw F) k 0 p = 0 ∧ upd (fg F) k 0 p = 0
    by_cases e : p = k
    · subst e; rw [upd_s, upd_s]; exact ⟨rfl, rfl⟩
    · rw [upd_n _ _ e, upd_n _ _ e]
      refine h.2.2.2.1 p hp6 ?_
      rw [and_tb th ht k hk p hp6, decide_eq_false e] at hpt
      simpa using hpt
  · intro p hp6 hpt
    obtain ⟨e, ht2⟩ := hne p hp6 hpt
    show 0 ≤ (upd (ft F) k 0 p).toInt ∧ (upd (ft F) k 0 p).toInt ≤ 9
    rw [upd_n _ _ e]
    exact h.2.2.2.2 p hp6 ht2
