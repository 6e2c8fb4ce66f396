/-! HANDS: the class's circles and the model's evens -/
def ssG (N : Nat → Int32) (s : Nat) : Nat → Int32
  | 0 => 0
  | p + 1 => if tb s p then ssG N s p + N p else ssG N s p
theorem ss_M (bk : Nat → Int32) (s : Nat) : ∀ k : Nat, ssM bk s k = ssG (netM bk) s k
  | 0 => rfl
  | k + 1 => by rw [ssM, ssG, ss_M bk s k]
theorem ss_del {N : Nat → Int32} {s t j : Nat} (hj : tb s j = true) (ht : ∀ p, p < 6 → tb t p = (tb s p && !(decide (p = j)))) : ∀ k : Nat, k ≤ 6 → ssG N s k = ssG N t k + (if j < k then N j else 0)
  | 0, _ => by rw [ssG, ssG, if_neg (by omega)]; rfl
  | k + 1, hk => by
    have ih := ss_del (N := N) hj ht k (by omega)
    have h1 := ht k (by omega)
    rw [ssG, ssG, h1, ih]
    by_cases e : k = j
    · subst e
      simp [hj]
    · rw [decide_eq_false e, Bool.not_false, Bool.and_true]
      have e2 : (if j < k + 1 then N j else 0) = (if j < k then N j else 0) := by
        by_cases h : j < k
        · rw [if_pos h, if_pos (by omega)]
        · rw [if_neg h, if_neg (by omega)]
      rw [e2]
      generalize (if j < k then N j else 0) = X
      cases tb s k
      · simp
      · simp only [if_true]
        rw [Int32.add_assoc, Int32.add_comm X (N k), ← Int32.add_assoc]
theorem ss_and {N : Nat → Int32} {s o u : Nat} (hu : ∀ p, p < 6 → tb u p = (tb s p && tb o p)) (hN : ∀ p, p < 6 → tb o p = false → N p = 0) : ∀ k : Nat, k ≤ 6 → ssG N s k = ssG N u k
  | 0, _ => rfl
  | k + 1, hk => by
    rw [ssG, ssG, hu k (by omega), ss_and hu hN k (by omega)]
    cases ho : tb o k
    · rw [hN k (by omega) ho, Bool.and_false, if_neg (c := (false = true)) (by decide), Int32.add_zero]
      split <;> rfl
    · rw [Bool.and_true]
theorem low_del : ∀ s, s < 64 → 0 < s → tb s (lowN s) = true ∧ ∀ p, p < 6 → tb (s &&& (s - 1)) p = (tb s p && !(decide (p = lowN s))) := by decide +kernel
theorem ss_low {N : Nat → Int32} {s : Nat} (hs : s < 64) (h0 : 0 < s) : ssG N s 6 = ssG N (s &&& (s - 1)) 6 + N (lowN s) := by
  have hl := low_del s hs h0
  rw [ss_del hl.1 hl.2 6 (Nat.le_refl _), if_pos (nt_low s hs h0).2]
/-! the class's tables, when all are weighed -/
theorem mc_cong {C D : Nat → Int32} {s : Nat} (h : ∀ p, p < 6 → tb s p = true → C (s ^^^ 2 ^ p) = D (s ^^^ 2 ^ p)) : ∀ k : Nat, k ≤ 6 → mcF C s k = mcF D s k
  | 0, _ => rfl
  | k + 1, hk => by
    rw [mcF, mcF, mc_cong h k (by omega)]
    by_cases ht : tb s k = true
    · rw [if_pos ht, if_pos ht, h k (by omega) ht]
    · rw [if_neg ht, if_neg ht]
theorem xor_lt : ∀ s, s < 64 → ∀ p, p < 6 → tb s p = true → s ^^^ 2 ^ p < s := by decide +kernel
theorem nh_ok {F : FolkS} {nt : NetS} (h1 : nt.1 0 = 0) (h2 : nt.2 0 = 0) : ∀ k : Nat, k ≤ 63 →
    (∀ s, s ≤ k → (nhR F nt k).1 s = ssG (netF F) s 6) ∧ (nhR F nt k).2 0 = 0 ∧ ∀ s, 0 < s → s ≤ k → (nhR F nt k).2 s = mcF (nhR F nt k).2 s 6 + (if ssG (netF F) s 6 = 0 then 1 else 0)
  | 0, _ => by
    refine ⟨fun s hs => ?_, h2, fun s a b => by omega⟩
    obtain rfl : s = 0 := by omega
    rw [nhR, h1]
    simp [ssG, tb]
  | k + 1, hk => by
    obtain ⟨i1, i2, i3⟩ := nh_ok (F := F) h1 h2 k (by omega)
    rw [nhR]
    have hsm : (nhR F nt k).1 ((k + 1) &&& k) + netF F (lowN (k + 1)) = ssG (netF F) (k + 1) 6 := by
      have hm := and_m1 (k + 1) (by omega) (by omega)
      rw [ss_low (by omega) (by omega), i1 _ (by have := hm.2; rw [Nat.add_sub_cancel] at this; omega)]
      rfl
    rw [hsm]
    generalize nhR F nt k = R at i1 i2 i3 ⊢
    refine ⟨fun s hs => ?_, ?_, fun s a b => ?_⟩
    · by_cases e : s = k + 1
      · subst e; exact upd_s _ _ _
      · show upd _ _ _ _ = _
        rw [upd_n _ _ e, i1 s (by omega)]
    · dsimp only
      rw [upd_n _ _ (by omega), i2]
    · show upd _ _ _ _ = mcF (upd _ _ _) _ _ + _
      rw [mc_cong (C := upd R.2 (k + 1) (mcF R.2 (k + 1) 6 + if ssG (netF F) (k + 1) 6 = 0 then 1 else 0)) (D := R.2) (s := s) (fun p hp6 ht => upd_n _ _ (by have := xor_lt s (by omega) p hp6 ht; omega)) 6 (Nat.le_refl _)]
      by_cases e : s = k + 1
      · subst e; rw [upd_s]
      · rw [upd_n _ _ e, i3 s a (by omega)]
/-! the model's -/
theorem mt_cong {C D : Nat → Int32} {s : Nat} (h : ∀ p, p < 6 → tb s p = true → C (s &&& (63 ^^^ 2 ^ p)) = D (s &&& (63 ^^^ 2 ^ p))) : ∀ k : Nat, k ≤ 6 → mtM C s k = mtM D s k
  | 0, _ => rfl
  | k + 1, hk => by
    rw [mtM, mtM, mt_cong h k (by omega)]
    by_cases ht : tb s k = true
    · rw [if_pos ht, if_pos ht, h k (by omega) ht]
    · rw [if_neg ht, if_neg ht]
theorem xor_and : ∀ s, s < 64 → ∀ p, p < 6 → tb s p = true → s &&& (63 ^^^ 2 ^ p) = s ^^^ 2 ^ p := by decide +kernel
theorem hm_ok {bk : Nat → Int32} {o : Nat} {Ev : Nat → Int32} : ∀ k : Nat, k ≤ 63 → (hmR bk o Ev k) 0 = 0 ∧ ∀ s, 0 < s → s ≤ k → (hmR bk o Ev k) s = evV bk o (hmR bk o Ev k) s
  | 0, _ => ⟨by rw [hmR_0, upd_s], fun s a b => by omega⟩
  | k + 1, hk => by
    obtain ⟨i1, i2⟩ := hm_ok (bk := bk) (o := o) (Ev := Ev) k (by omega)
    rw [hmR_s]
    generalize hmR bk o Ev k = R at i1 i2 ⊢
    refine ⟨by rw [upd_n _ _ (by omega), i1], fun s a b => ?_⟩
    have e9 : evV bk o (upd R (k + 1) (evV bk o R (k + 1))) s = evV bk o R s := by
      unfold evV
      rw [mt_cong (s := s) (C := upd R (k + 1) _) (D := R) (fun p hp6 ht => upd_n _ _ (by
        have := xor_lt s (by omega) p hp6 ht
        rw [xor_and s (by omega) p hp6 ht]
        omega)) 6 (Nat.le_refl _)]
    rw [e9]
    by_cases e : s = k + 1
    · subst e; rw [upd_s]
    · rw [upd_n _ _ e, i2 s a (by omega)]
/-! the greatest of some numbers -/
def mxN (x : Nat → Nat) (s : Nat) : Nat → Nat
  | 0 => 0
  | p + 1 => if tb s p then max (mxN x s p) (x p) else mxN x s p
theorem mxN_ge {x : Nat → Nat} {s : Nat} : ∀ (k p : Nat), p < k → tb s p = true → x p ≤ mxN x s k
  | 0, p, h, _ => by omega
  | k + 1, p, h, ht => by
    rw [mxN]
    by_cases e : p = k
    · subst e
      rw [if_pos ht]
      exact Nat.le_max_right _ _
    · have := mxN_ge (x := x) (s := s) k p (by omega) ht
      split
      · exact Nat.le_trans this (Nat.le_max_left _ _)
      · exact this
theorem mxN_le {x : Nat → Nat} {s b : Nat} : ∀ k : Nat, (∀ p, p < k → tb s p = true → x p ≤ b) → mxN x s k ≤ b
  | 0, _ => Nat.zero_le _
  | k + 1, h => by
    have := mxN_le (x := x) (s := s) k (fun p hp2 ht => h p (by omega) ht)
    rw [mxN]
    split
    · next ht => exact Nat.max_le.mpr ⟨this, h k (by omega) ht⟩
    · exact this
theorem mx_nI {a b : Nat} (ha : a ≤ 1000) (hb : b ≤ 1000) : mxI (nI a) (nI b) = nI (max a b) := by
  unfold mxI
  rw [Nat.max_def]
  by_cases h : a < b
  · rw [if_pos ((nIlt (by omega) (by omega)).mpr h), if_pos (by omega)]
  · rw [if_neg (fun z => h ((nIlt (by omega) (by omega)).mp z))]
    split
    · congr 1; omega
    · rfl
theorem mc_mxN {C : Nat → Int32} {s : Nat} {x : Nat → Nat} (h : ∀ p, p < 6 → tb s p = true → C (s ^^^ 2 ^ p) = nI (x p) ∧ x p ≤ 1000) : ∀ k : Nat, k ≤ 6 → mcF C s k = nI (mxN x s k)
  | 0, _ => rfl
  | k + 1, hk => by
    have hb : mxN x s k ≤ 1000 := mxN_le k (fun p hp2 ht => (h p (by omega) ht).2)
    rw [mcF, mxN, mc_mxN h k (by omega)]
    by_cases ht : tb s k = true
    · rw [if_pos ht, if_pos ht, (h k (by omega) ht).1, mx_nI hb (h k (by omega) ht).2]
    · rw [if_neg ht, if_neg ht]
theorem mt_mxN {C : Nat → Int32} {s : Nat} {x : Nat → Nat} (h : ∀ p, p < 6 → tb s p = true → C (s &&& (63 ^^^ 2 ^ p)) = nI (x p) ∧ x p ≤ 1000) : ∀ k : Nat, k ≤ 6 → mtM C s k = nI (mxN x s k)
  | 0, _ => rfl
  | k + 1, hk => by
    have hb : mxN x s k ≤ 1000 := mxN_le k (fun p hp2 ht => (h p (by omega) ht).2)
    rw [mtM, mxN, mt_mxN h k (by omega)]
    by_cases ht : tb s k = true
    · obtain ⟨h1, h2⟩ := h k (by omega) ht
      rw [if_pos ht, if_pos ht, h1, Nat.max_def]
      by_cases h3 : x k ≤ mxN x s k
      · rw [if_pos ((nIle (by omega) (by omega)).mpr h3)]
        split
        · congr 1; omega
        · rfl
      · rw [if_neg (fun z => h3 ((nIle (by omega) (by omega)).mp z)), if_pos (by omega)]
    · rw [if_neg ht, if_neg ht]
/-! sets, by what is open -/
theorem st_10 : ∀ s, s < 64 → ∀ o, o < 64 → ∀ p, p < 6 → (tb s p && !(tb o p) && !(decide ((s ^^^ 2 ^ p) &&& o = s &&& o) && decide (pcN ((s ^^^ 2 ^ p) &&& (63 ^^^ o)) + 1 = pcN (s &&& (63 ^^^ o))))) = false := by decide +kernel
theorem st_1 (s : Nat) (hs : s < 64) (o : Nat) (ho : o < 64) (p : Nat) (hp6 : p < 6) (h1 : tb s p = true) (h2 : tb o p = false) : (s ^^^ 2 ^ p) &&& o = s &&& o ∧ pcN ((s ^^^ 2 ^ p) &&& (63 ^^^ o)) + 1 = pcN (s &&& (63 ^^^ o)) := by
  have e := st_10 s hs o ho p hp6
  rw [h1, h2] at e
  simp only [Bool.not_false, Bool.true_and, Bool.not_eq_false', Bool.and_eq_true, decide_eq_true_eq] at e
  exact e
theorem st_20 : ∀ s, s < 64 → ∀ o, o < 64 → ∀ p, p < 6 → (tb s p && tb o p && !(decide ((s ^^^ 2 ^ p) &&& o = (s &&& o) ^^^ 2 ^ p) && decide (pcN ((s ^^^ 2 ^ p) &&& (63 ^^^ o)) = pcN (s &&& (63 ^^^ o))))) = false := by decide +kernel
theorem st_2 (s : Nat) (hs : s < 64) (o : Nat) (ho : o < 64) (p : Nat) (hp6 : p < 6) (h1 : tb s p = true) (h2 : tb o p = true) : (s ^^^ 2 ^ p) &&& o = (s &&& o) ^^^ 2 ^ p ∧ pcN ((s ^^^ 2 ^ p) &&& (63 ^^^ o)) = pcN (s &&& (63 ^^^ o)) := by
  have e := st_20 s hs o ho p hp6
  rw [h1, h2] at e
  simp only [Bool.true_and, Bool.not_eq_false', Bool.and_eq_true, decide_eq_true_eq] at e
  exact e
theorem st_4 : ∀ s, s < 64 → ∀ o, o < 64 → ∀ p, p < 6 → tb (s &&& o) p = (tb s p && tb o p) := by decide +kernel
theorem st_5 : ∀ s, s < 64 → ∀ o, o < 64 → 0 < pcN (s &&& (63 ^^^ o)) → ∃ p, p < 6 ∧ tb s p = true ∧ tb o p = false := by decide +kernel
theorem st_6 : ∀ s, s < 64 → ∀ o, o < 64 → pcN (s &&& (63 ^^^ o)) = 0 → s &&& o = s ∧ s &&& (63 ^^^ o) = 0 := by decide +kernel
theorem st_7 : ∀ s, s < 64 → ∀ o, o < 64 → (s &&& o) &&& (63 ^^^ o) = 0 ∧ s &&& o ≤ s ∧ (s &&& o) &&& o = s &&& o ∧ pcN (s &&& o) ≤ 6 ∧ pcN (s &&& (63 ^^^ o)) ≤ 6 := by decide +kernel
theorem st_8 : ∀ s, s < 64 → ∀ p, p < 6 → tb s p = true → pcN (s ^^^ 2 ^ p) + 1 = pcN s := by decide +kernel
theorem st_9 : ∀ s, s < 64 → 0 < s → ∃ p, p < 6 ∧ tb s p = true := by decide +kernel
