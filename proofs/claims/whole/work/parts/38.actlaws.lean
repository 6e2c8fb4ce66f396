abbrev mG (m : ModS) (nw : Nat → Int32) (sg fo rs mn br : Int32) : ModS := (m.1, nw, m.2.2.1, m.2.2.2.1, m.2.2.2.2.1, m.2.2.2.2.2.1, m.2.2.2.2.2.2.1, m.2.2.2.2.2.2.2.1, m.2.2.2.2.2.2.2.2.1, sg, fo, rs, mn, br, m.2.2.2.2.2.2.2.2.2.2.2.2.2.2)
/-- the model behind its telling of LIVES, beside the class's lf -/
def lvQ (m : ModS) (th : Nat) (lf : LivesS) (hh : ModS → gH) : Option Value → gH → Prop := fun r h => ∃ (nw : Nat → Int32) (sg fo rs mn br : Int32), h = hh (mG m nw sg fo rs mn br) ∧ r = some (.int lf.2.2.2.1) ∧
  (lf.2.2.2.1 = -6 → FR th lf.1 nw ∧ FI th lf.1 ∧ mn = lf.2.2.1 ∧ sg = lf.2.2.2.2.2.1 ∧ br = lf.2.2.2.2.2.2 ∧ lf.2.2.2.2.1 = -6) ∧ (¬ lf.2.2.2.1 = -6 → rs = lf.2.2.2.2.1 ∧ 0 ≤ lf.2.2.2.1)
theorem act_dot {S : Nat → Int32} {c j : Nat} (hj : j < c) (h : S j = 46) : actR S c j = (46, 46 - 65, 1, 46 - 65, 1) ∧ lenR S c j = 1 := by
  unfold actR lenR
  rw [sg_in hj, h, if_pos rfl, if_pos rfl]
  exact ⟨rfl, rfl⟩
theorem act_sign {S : Nat → Int32} {c j p g : Nat} (hj : j + 1 < c) (hl : letB (S j) = true) (hd : digB (S (j + 1)) = true) (ep : S j - 65 = nI p) (eg : S (j + 1) - 48 = nI g) : actR S c j = (49, nI p, nI g, nI p, 2) ∧ lenR S c j = 2 := by
  unfold actR lenR
  rw [sg_in (show j < c by omega), sg_in hj, if_neg (let_ne hl), if_neg (let_ne hl), if_pos hd, if_pos hd, ep, eg]
  exact ⟨rfl, rfl⟩
theorem act_forge {S : Nat → Int32} {c j p g : Nat} (hj : j + 2 < c) (hl : letB (S j) = true) (h1 : S (j + 1) = 33) (ep : S j - 65 = nI p) (eg : S (j + 2) - 48 = nI g) : actR S c j = (33, nI p, nI g, nI p, 3) ∧ lenR S c j = 3 := by
  have hd : ¬ digB (33 : Int32) = true := by decide
  unfold actR lenR
  rw [sg_in (show j < c by omega), sg_in (show j + 1 < c by omega), sg_in hj, if_neg (let_ne hl), if_neg (let_ne hl), h1, if_neg hd, if_neg hd, if_pos rfl, if_pos rfl, ep, eg]
  exact ⟨rfl, rfl⟩
theorem act_blot {S : Nat → Int32} {c j p : Nat} (hj : j + 1 < c) (hl : letB (S j) = true) (h1 : S (j + 1) = 42) (ep : S j - 65 = nI p) : actR S c j = (42, nI p, 1, nI p, 2) ∧ lenR S c j = 2 := by
  have hd : ¬ digB (42 : Int32) = true := by decide
  have h3 : ¬ (42 : Int32) = 33 := by decide
  unfold actR lenR
  rw [sg_in (show j < c by omega), sg_in hj, if_neg (let_ne hl), if_neg (let_ne hl), h1, if_neg hd, if_neg hd, if_neg h3, if_neg h3, if_pos rfl, if_pos rfl, ep]
  exact ⟨rfl, rfl⟩
theorem act_hand {S : Nat → Int32} {c j a b g : Nat} {k : Int32} (hk : k = 62 ∨ k = 61 ∨ k = 60) (hj : j + 3 < c) (hl : letB (S j) = true) (h1 : S (j + 1) = k) (ea : S j - 65 = nI a) (eg : S (j + 2) - 48 = nI g) (eb : S (j + 3) - 65 = nI b) : actR S c j = (k, nI a, nI g, nI b, 4) ∧ lenR S c j = 4 := by
  have hd : ¬ digB k = true := by rcases hk with rfl | rfl | rfl <;> decide
  have h3 : ¬ k = 33 := by rcases hk with rfl | rfl | rfl <;> decide
  have h4 : ¬ k = 42 := by rcases hk with rfl | rfl | rfl <;> decide
  unfold actR lenR
  rw [sg_in (show j < c by omega), sg_in (show j + 1 < c by omega), sg_in (show j + 2 < c by omega), sg_in hj, if_neg (let_ne hl), if_neg (let_ne hl), h1, if_neg hd, if_neg hd, if_neg h3, if_neg h3, if_neg h4, if_neg h4, ea, eg, eb]
  exact ⟨rfl, rfl⟩
theorem g_rng {g : Nat} (h : g ≤ 9) : 0 ≤ (nI g).toInt ∧ (nI g).toInt ≤ 9 := by
  rw [nI_toInt (by omega)]
  omega
theorem one_le {x : Int32} (h : 0 ≤ x.toInt) : (1 ≤ x) = ¬ (x = 0) := by
  refine propext ⟨fun q e => ?_, fun q => ?_⟩
  · rw [e] at q
    exact absurd q (by decide)
  · rw [Int32.le_iff_toInt_le]
    show 1 ≤ x.toInt
    have : x.toInt ≠ 0 := fun e => q (Int32.toInt_inj.mp (by rw [e]; rfl))
    omega
