/-! what a pad without FAULT is -/
theorem nI_ne_m6 {j : Nat} (h : j < 2 ^ 31) : ¬ nI j = -6 := by
  intro e
  have h1 := nI_toInt h
  rw [e] at h1
  have h2 : (-6 : Int32).toInt = -6 := by decide
  omega
theorem ff_step {S : Nat → Int32} {n j t : Nat} (hj : j < 2 ^ 31) (h : ffR S (n + 1) j t = -6) : ∃ u, abO t (S j) = some u ∧ ffR S n (j + 1) u = -6 := by
  rw [ffR] at h
  cases hu : abO t (S j) with
  | none =>
    rw [hu] at h
    exact absurd h (nI_ne_m6 hj)
  | some u =>
    rw [hu] at h
    exact ⟨u, rfl, h⟩
theorem ff_more {S : Nat → Int32} {n j t : Nat} (hj : j < 2 ^ 31) (ht : t ≠ 0) (h : ffR S n j t = -6) : ∃ k, n = k + 1 := by
  cases n with
  | zero =>
    rw [ffR, if_neg ht] at h
    exact absurd h (nI_ne_m6 hj)
  | succ k => exact ⟨k, rfl⟩
theorem abO_0 {x : Int32} {u : Nat} (h : abO 0 x = some u) : (x = 46 ∧ u = 0) ∨ (letB x = true ∧ u = 1) := by
  simp only [abO] at h
  split at h
  · next h1 => cases h; exact Or.inl ⟨h1, rfl⟩
  · split at h
    · next h2 => cases h; exact Or.inr ⟨h2, rfl⟩
    · cases h
theorem abO_1 {x : Int32} {u : Nat} (h : abO 1 x = some u) : (digB x = true ∧ u = 0) ∨ (x = 42 ∧ u = 0) ∨ (x = 33 ∧ u = 2) ∨ ((x = 62 ∨ x = 61 ∨ x = 60) ∧ u = 3) := by
  simp only [abO, abD] at h
  split at h
  · next h1 =>
    cases h
    rw [Bool.or_eq_true, decide_eq_true_eq] at h1
    rcases h1 with h1 | h1
    · exact Or.inl ⟨h1, rfl⟩
    · exact Or.inr (Or.inl ⟨h1, rfl⟩)
  · split at h
    · next h2 => cases h; exact Or.inr (Or.inr (Or.inl ⟨h2, rfl⟩))
    · split at h
      · next h3 => cases h; exact Or.inr (Or.inr (Or.inr ⟨Or.inl h3, rfl⟩))
      · split at h
        · next h3 => cases h; exact Or.inr (Or.inr (Or.inr ⟨Or.inr (Or.inl h3), rfl⟩))
        · split at h
          · next h3 => cases h; exact Or.inr (Or.inr (Or.inr ⟨Or.inr (Or.inr h3), rfl⟩))
          · cases h
theorem abO_2 {x : Int32} {u : Nat} (h : abO 2 x = some u) : digB x = true ∧ u = 0 := by
  simp only [abO] at h
  split at h
  · next h1 => cases h; exact ⟨h1, rfl⟩
  · cases h
theorem abO_3 {x : Int32} {u : Nat} (h : abO 3 x = some u) : digB x = true ∧ u = 4 := by
  simp only [abO] at h
  split at h
  · next h1 => cases h; exact ⟨h1, rfl⟩
  · cases h
theorem abO_4 {x : Int32} {u : Nat} (h : abO 4 x = some u) : letB x = true ∧ u = 0 := by
  simp only [abO] at h
  split at h
  · next h1 => cases h; exact ⟨h1, rfl⟩
  · cases h
/-- the ACT at a place where one begins -/
theorem wf_step {S : Nat → Int32} {n j : Nat} (hj : j + n < 2 ^ 30) (h : ffR S (n + 1) j 0 = -6) :
    (S j = 46 ∧ ffR S n (j + 1) 0 = -6) ∨
    (letB (S j) = true ∧ ∃ n1, n = n1 + 1 ∧ ((digB (S (j + 1)) = true ∧ ffR S n1 (j + 2) 0 = -6) ∨ (S (j + 1) = 42 ∧ ffR S n1 (j + 2) 0 = -6) ∨
      (S (j + 1) = 33 ∧ ∃ n2, n1 = n2 + 1 ∧ digB (S (j + 2)) = true ∧ ffR S n2 (j + 3) 0 = -6) ∨
      ((S (j + 1) = 62 ∨ S (j + 1) = 61 ∨ S (j + 1) = 60) ∧ ∃ n3, n1 = n3 + 2 ∧ digB (S (j + 2)) = true ∧ letB (S (j + 3)) = true ∧ ffR S n3 (j + 4) 0 = -6))) := by
  obtain ⟨u, hu, h1⟩ := ff_step (by omega) h
  rcases abO_0 hu with ⟨e, rfl⟩ | ⟨e, rfl⟩
  · exact Or.inl ⟨e, h1⟩
  · right
    refine ⟨e, ?_⟩
    obtain ⟨n1, rfl⟩ := ff_more (by omega) (by decide) h1
    refine ⟨n1, rfl, ?_⟩
    obtain ⟨v, hv, h2⟩ := ff_step (by omega) h1
    rcases abO_1 hv with ⟨e1, rfl⟩ | ⟨e1, rfl⟩ | ⟨e1, rfl⟩ | ⟨e1, rfl⟩
    · exact Or.inl ⟨e1, h2⟩
    · exact Or.inr (Or.inl ⟨e1, h2⟩)
    · obtain ⟨n2, rfl⟩ := ff_more (by omega) (by decide) h2
      obtain ⟨w, hw, h3⟩ := ff_step (by omega) h2
      obtain ⟨e2, rfl⟩ := abO_2 hw
      exact Or.inr (Or.inr (Or.inl ⟨e1, n2, rfl, e2, h3⟩))
    · obtain ⟨n2, rfl⟩ := ff_more (by omega) (by decide) h2
      obtain ⟨w, hw, h3⟩ := ff_step (by omega) h2
      obtain ⟨e2, rfl⟩ := abO_3 hw
      obtain ⟨n3, rfl⟩ := ff_more (by omega) (by decide) h3
      obtain ⟨z, hz, h4⟩ := ff_step (by omega) h3
      obtain ⟨e3, rfl⟩ := abO_4 hz
      exact Or.inr (Or.inr (Or.inr ⟨e1, n3, rfl, e2, e3, h4⟩))
theorem let_nI {x : Int32} (h : letB x = true) : ∃ p : Nat, p < 6 ∧ x - 65 = nI p := by
  obtain ⟨k, h1, h2, rfl⟩ := inB_nat (a := 65) (b := 70) (by decide) h (by decide)
  exact ⟨k - 65, by omega, pk_sub h1⟩
theorem dig_nI {x : Int32} (h : digB x = true) : ∃ g : Nat, 1 ≤ g ∧ g ≤ 9 ∧ x - 48 = nI g := by
  obtain ⟨k, h1, h2, rfl⟩ := inB_nat (a := 49) (b := 57) (by decide) h (by decide)
  exact ⟨k - 48, by omega, by omega, pk_sub (b := 48) (by omega)⟩
theorem sg_in {S : Nat → Int32} {c j : Nat} (h : j < c) : sg S c j = S j := by rw [sg, if_pos h]
theorem let_n46 {x : Int32} (h : letB x = true) : ¬ x = 46 := let_ne h
theorem ndig (k : Int32) (h : k = 33 ∨ k = 42 ∨ k = 62 ∨ k = 61 ∨ k = 60) : digB k = false := by
  rcases h with rfl | rfl | rfl | rfl | rfl <;> decide
/-! the reasons -/
theorem obs_rng (a : ActS) (F : FolkS) : obsF a F = 0 ∨ (0 < obsF a F) := by
  unfold obsF
  repeat' split
  all_goals first
    | exact Or.inl rfl
    | exact Or.inr (by decide)
