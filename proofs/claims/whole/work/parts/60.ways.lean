/-! WAYS: least slips, how many ways, the first: triples (slips, ways, code) -/
def cmb (x y : Nat × Nat × Nat) : Nat × Nat × Nat := if x.1 ≤ y.1 then (if y.1 = x.1 then (x.1, x.2.1 + y.2.1, x.2.2) else x) else y
theorem cmb_assoc (x y z : Nat × Nat × Nat) : cmb (cmb x y) z = cmb x (cmb y z) := by
  obtain ⟨a, b, c⟩ := x
  obtain ⟨d, e, f⟩ := y
  obtain ⟨g, h, k⟩ := z
  simp only [cmb]
  by_cases h1 : a ≤ d
  · by_cases h2 : d = a
    · subst h2
      by_cases h3 : d ≤ g
      · by_cases h4 : g = d
        · subst h4
          simp [Nat.add_assoc]
        · simp [h3, h4]
      · have h5 : ¬ d ≤ g := h3
        simp [h3]
    · by_cases h3 : d ≤ g
      · by_cases h4 : g = d
        · subst h4
          simp [h1, h2]
        · have h6 : a ≤ g := by omega
          have h7 : ¬ g = a := by omega
          simp [h1, h2, h3, h4, h6, h7]
      · simp [h1, h2, h3]
  · by_cases h3 : d ≤ g
    · by_cases h4 : g = d
      · subst h4
        simp [h1]
      · have h6 : ¬ a ≤ g ∨ a ≤ g := by omega
        simp [h1, h3, h4]
    · have h6 : ¬ a ≤ g := by omega
      simp [h1, h3, h6]
def ocm (x y : Option (Nat × Nat × Nat)) : Option (Nat × Nat × Nat) := match x, y with
  | none, y => y
  | some a, none => some a
  | some a, some b => some (cmb a b)
def oap (q : Nat × Nat × Nat) (x : Option (Nat × Nat × Nat)) : Nat × Nat × Nat := match x with
  | none => q
  | some e => cmb q e
theorem oap_ocm (q : Nat × Nat × Nat) (x y : Option (Nat × Nat × Nat)) : oap (oap q x) y = oap q (ocm x y) := by
  cases x <;> cases y <;> simp [oap, ocm, cmb_assoc]
def adv (a : Nat) (e : Nat × Nat × Nat) : Nat × Nat × Nat := (a + e.1, e.2)
theorem adv_cmb (a : Nat) (x y : Nat × Nat × Nat) : adv a (cmb x y) = cmb (adv a x) (adv a y) := by
  obtain ⟨p, b, c⟩ := x
  obtain ⟨d, e, f⟩ := y
  simp only [cmb, adv]
  by_cases h1 : p ≤ d
  · by_cases h2 : d = p
    · subst h2
      simp
    · have h3 : ¬ a + d = a + p := by omega
      have h4 : a + p ≤ a + d := by omega
      simp [h1, h2]
  · have h4 : ¬ a + p ≤ a + d := by omega
    simp [h1]
theorem adv_ocm (a : Nat) (x y : Option (Nat × Nat × Nat)) : (ocm x y).map (adv a) = ocm (x.map (adv a)) (y.map (adv a)) := by
  cases x <;> cases y <;> simp [ocm, adv_cmb]
theorem adv_adv (a b : Nat) (x : Option (Nat × Nat × Nat)) : (x.map (adv b)).map (adv a) = x.map (adv (a + b)) := by
  cases x <;> simp [adv, Nat.add_assoc]
def oF (f : Nat → Option (Nat × Nat × Nat)) : Nat → Option (Nat × Nat × Nat)
  | 0 => none
  | p + 1 => ocm (oF f p) (f p)
theorem oF_map (a : Nat) (f : Nat → Option (Nat × Nat × Nat)) : ∀ k : Nat, (oF f k).map (adv a) = oF (fun p => (f p).map (adv a)) k
  | 0 => rfl
  | k + 1 => by rw [oF, adv_ocm, oF_map a f k, oF]
theorem oF_cong {f g : Nat → Option (Nat × Nat × Nat)} : ∀ k : Nat, (∀ p, p < k → f p = g p) → oF f k = oF g k
  | 0, _ => rfl
  | k + 1, h => by rw [oF, oF, oF_cong k (fun p hp2 => h p (by omega)), h k (by omega)]
theorem oF_some {f : Nat → Option (Nat × Nat × Nat)} : ∀ (k p : Nat), p < k → (∃ e, f p = some e) → ∃ e, oF f k = some e
  | 0, p, h, _ => by omega
  | k + 1, p, h, he => by
    by_cases h1 : p < k
    · obtain ⟨e, h2⟩ := oF_some k p h1 he
      rw [oF, h2]
      cases hf : f k <;> simp [ocm]
    · obtain rfl : p = k := by omega
      obtain ⟨e, h2⟩ := he
      rw [oF, h2]
      cases hf : oF f p <;> simp [ocm]
/-- where the least comes from: the first that has it -/
theorem oF_first {f : Nat → Option (Nat × Nat × Nat)} : ∀ (k : Nat) (e : Nat × Nat × Nat), oF f k = some e → ∃ (p : Nat) (x : Nat × Nat × Nat), p < k ∧ f p = some x ∧ e.1 = x.1 ∧ e.2.2 = x.2.2 ∧ (∀ (r : Nat) (z : Nat × Nat × Nat), r < k → f r = some z → e.1 ≤ z.1) ∧ ∀ (r : Nat) (z : Nat × Nat × Nat), r < p → f r = some z → e.1 < z.1
  | 0, e, h => by simp [oF] at h
  | k + 1, e, h => by
    rw [oF] at h
    cases hk : oF f k with
    | none =>
      rw [hk] at h
      have hn : ∀ r, r < k → f r = none := by
        intro r hr
        cases hf : f r with
        | none => rfl
        | some z =>
          obtain ⟨e2, h2⟩ := oF_some k r hr ⟨z, hf⟩
          rw [hk] at h2
          cases h2
      have h2 : f k = some e := by simpa [ocm] using h
      refine ⟨k, e, by omega, h2, rfl, rfl, ?_, ?_⟩
      · intro r z hr hz
        by_cases h3 : r < k
        · rw [hn r h3] at hz; cases hz
        · obtain rfl : r = k := by omega
          rw [h2] at hz
          cases hz
          exact Nat.le_refl _
      · intro r z hr hz
        rw [hn r hr] at hz
        cases hz
    | some y =>
      obtain ⟨p, x, hp1, hp2, hp3, hp4, hp5, hp6⟩ := oF_first k y hk
      rw [hk] at h
      cases hf : f k with
      | none =>
        rw [hf] at h
        have h2 : y = e := by simpa [ocm] using h
        subst h2
        refine ⟨p, x, by omega, hp2, hp3, hp4, ?_, hp6⟩
        intro r z hr hz
        by_cases h3 : r < k
        · exact hp5 r z h3 hz
        · obtain rfl : r = k := by omega
          rw [hf] at hz
          cases hz
      | some w =>
        rw [hf] at h
        have h2 : cmb y w = e := by simpa [ocm] using h
        by_cases h3 : y.1 ≤ w.1
        · have e1 : e.1 = y.1 ∧ e.2.2 = y.2.2 := by
            rw [← h2]
            unfold cmb
            rw [if_pos h3]
            split <;> simp
          refine ⟨p, x, by omega, hp2, e1.1.trans hp3, e1.2.trans hp4, ?_, ?_⟩
          · intro r z hr hz
            by_cases h4 : r < k
            · rw [e1.1]; exact hp5 r z h4 hz
            · obtain rfl : r = k := by omega
              rw [hf] at hz
              cases hz
              rw [e1.1]; exact h3
          · intro r z hr hz
            rw [e1.1]
            exact hp6 r z hr hz
        · have e1 : e = w := by
            rw [← h2]
            unfold cmb
            rw [if_neg h3]
          subst e1
          refine ⟨k, e, by omega, hf, rfl, rfl, ?_, ?_⟩
          · intro r z hr hz
            by_cases h4 : r < k
            · have := hp5 r z h4 hz
              omega
            · obtain rfl : r = k := by omega
              rw [hf] at hz
              cases hz
              exact Nat.le_refl _
          · intro r z hr hz
            have := hp5 r z hr hz
            omega
theorem oF_ways {f : Nat → Option (Nat × Nat × Nat)} {b : Nat} (hb : ∀ (r : Nat) (z : Nat × Nat × Nat), f r = some z → z.2.1 ≤ b) : ∀ (k : Nat) (e : Nat × Nat × Nat), oF f k = some e → e.2.1 ≤ k * b
  | 0, e, h => by simp [oF] at h
  | k + 1, e, h => by
    rw [oF] at h
    have hkb : (k + 1) * b = k * b + b := by rw [Nat.add_mul, Nat.one_mul]
    cases hk : oF f k with
    | none =>
      rw [hk] at h
      have h2 : f k = some e := by simpa [ocm] using h
      have := hb k e h2
      omega
    | some y =>
      have i1 := oF_ways hb k y hk
      rw [hk] at h
      cases hf : f k with
      | none =>
        rw [hf] at h
        have h2 : y = e := by simpa [ocm] using h
        subst h2
        omega
      | some w =>
        have i2 := hb k w hf
        rw [hf] at h
        have h2 : cmb y w = e := by simpa [ocm] using h
        rw [← h2]
        unfold cmb
        split
        · split
          · show y.2.1 + w.2.1 ≤ _
            omega
          · omega
        · omega
