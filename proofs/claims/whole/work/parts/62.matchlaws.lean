/-! the model's codes as numbers -/
theorem lmR_mf {th n : Nat} {A T wr : Nat → Int32} {c : Nat → Nat → Nat} (hc : ∀ i p, i < n → p < 6 → tb th p = true → adI (A i) (T p) = nI (c i p)) (h9 : ∀ i p, c i p ≤ 9) : ∀ k : Nat, k ≤ 46656 →
    (lmR th n A T wr k).1 = nI (mfN th n c k).1 ∧ (lmR th n A T wr k).2.1 = nI (mfN th n c k).2.1 ∧ (mfN th n c k).1 ≤ 1000000 ∧ ((mfN th n c k).1 < 1000000 → ∃ w : Nat → Int32, (lmR th n A T wr k).2.2 = wdR w 6 (mfN th n c k).2.2)
  | 0, _ => by
    rw [lmR_0]
    exact ⟨rfl, rfl, Nat.le_refl _, fun h => absurd (show (1000000 : Nat) < 1000000 from h) (by decide)⟩
  | k + 1, hk => by
    obtain ⟨i1, i2, i3, i4⟩ := lmR_mf hc h9 (wr := wr) k (by omega)
    rw [lmR_s, lm_val hc, mfN]
    generalize lmR th n A T wr k = q at i1 i2 i4 ⊢
    generalize mfN th n c k = x at i1 i2 i3 i4 ⊢
    cases hp2 : preN th n c 6 k with
    | none =>
      simp only [Option.map_none, lmS, oap, Int32.add_zero]
      exact ⟨i1, i2, i3, i4⟩
    | some z =>
      have hz : z.2 ≤ 54 := pre_le h9 6 k z hp2
      simp only [Option.map_some, lmS, oap, cmb]
      by_cases h1 : x.1 ≤ z.2
      · have g1 : q.1 ≤ nI z.2 := by rw [i1]; exact (nIle (by omega) (by omega)).mpr h1
        rw [if_pos g1, if_pos h1]
        by_cases h2 : z.2 = x.1
        · have g2 : nI z.2 = q.1 := by rw [i1, h2]
          rw [if_pos g2, if_pos h2]
          refine ⟨i1, ?_, i3, i4⟩
          show q.2.1 + 1 = nI (x.2.1 + 1)
          rw [i2, nI_1]
        · have g2 : ¬ nI z.2 = q.1 := by
            rw [i1]
            intro e
            exact h2 ((nI_eq (by omega) (by omega)).mp e)
          rw [if_neg g2, if_neg h2]
          refine ⟨i1, ?_, i3, i4⟩
          show q.2.1 + 0 = nI x.2.1
          rw [i2, Int32.add_zero]
      · have g1 : ¬ q.1 ≤ nI z.2 := by rw [i1]; exact fun e => h1 ((nIle (by omega) (by omega)).mp e)
        rw [if_neg g1, if_neg h1]
        exact ⟨rfl, rfl, by show z.2 ≤ _; omega, fun _ => ⟨q.2.2, rfl⟩⟩
/-! digits of a code -/
theorem wdR_ge : ∀ (j left : Nat) (wr : Nat → Int32) (a : Nat), j ≤ a → wdR wr j left a = wr a
  | 0, left, wr, a, h => by rw [wdR]
  | j + 1, left, wr, a, h => by
    rw [wdR, wdR_ge j _ _ a (by omega), upd_n _ _ (by omega)]
theorem wdR_at : ∀ (j left : Nat) (wr : Nat → Int32) (a r : Nat), a + r + 1 = j → wdR wr j left a = nI (left / 6 ^ r % 6)
  | 0, left, wr, a, r, h => by omega
  | j + 1, left, wr, a, r, h => by
    rw [wdR]
    cases r with
    | zero =>
      obtain rfl : a = j := by omega
      rw [wdR_ge a _ _ a (by omega), upd_s, Nat.pow_zero, Nat.div_one]
    | succ r =>
      rw [wdR_at j (left / 6) _ a r (by omega), Nat.div_div_eq_div_mul, ← Nat.pow_succ']
/-! the class's sets -/
def subB (S th : Nat) : Prop := S &&& (63 ^^^ th) = 0
theorem sub_full : ∀ th, th < 64 → ∀ S, S < 64 → S &&& (63 ^^^ th) = 0 → pcN S = pcN th → S = th := by decide +kernel
theorem sub_left : ∀ th, th < 64 → ∀ S, S < 64 → S &&& (63 ^^^ th) = 0 → pcN S < pcN th → ∃ p, p < 6 ∧ leftB th S p = true := by decide +kernel
theorem sub_or0 : ∀ th, th < 64 → ∀ S, S < 64 → ∀ p, p < 6 → (decide (S &&& (63 ^^^ th) = 0) && leftB th S p && !(decide ((S ||| 2 ^ p) &&& (63 ^^^ th) = 0) && decide (pcN (S ||| 2 ^ p) = pcN S + 1))) = false := by decide +kernel
theorem sub_or (th : Nat) (ht : th < 64) (S : Nat) (hS : S < 64) (h : S &&& (63 ^^^ th) = 0) (p : Nat) (hp6 : p < 6) (hl : leftB th S p = true) : (S ||| 2 ^ p) &&& (63 ^^^ th) = 0 ∧ pcN (S ||| 2 ^ p) = pcN S + 1 := by
  have e := sub_or0 th ht S hS p hp6
  rw [decide_eq_true h, hl] at e
  simp only [Bool.true_and, Bool.not_eq_false', Bool.and_eq_true, decide_eq_true_eq] at e
  exact e
theorem dO_end {th n : Nat} {c : Nat → Nat → Nat} : ∀ (j i S k : Nat), n ≤ i → dO th n c j i S k = some (0, 1, k * 6 ^ j)
  | 0, i, S, k, h => by simp [dO]
  | j + 1, i, S, k, h => by
    rw [dO, if_neg (by omega), dO_end j (i + 1) S (6 * k) (by omega), show 6 * k * 6 ^ j = k * 6 ^ (j + 1) from by rw [Nat.pow_succ, Nat.mul_comm 6 k, Nat.mul_assoc, Nat.mul_comm 6 (6 ^ j)]]
section Dp
variable {th : Nat} {c : Nat → Nat → Nat} {Sl Wy T Ft : Nat → Int32}
/-- what a table of sets is, when all are weighed -/
def tabOK (th : Nat) (Sl Wy T Ft : Nat → Int32) : Prop := Sl th = 0 ∧ Wy th = 1 ∧ ∀ S, S < 64 → S &&& (63 ^^^ th) = 0 → ¬ S = th → Sl S = (wsR th Sl Wy T Ft S 6).1 ∧ Wy S = (wsR th Sl Wy T Ft S 6).2
theorem ws_oF {S : Nat} {f : Nat → Option (Nat × Nat × Nat)} (hf : ∀ p, p < 6 → (leftB th S p = false → f p = none) ∧ (leftB th S p = true → ∃ e, f p = some e ∧ slW Sl T Ft S p = nI e.1 ∧ Wy (S ||| 2 ^ p) = nI e.2.1 ∧ e.1 ≤ 1000)) :
    ∀ p : Nat, p ≤ 6 → (wsR th Sl Wy T Ft S p).1 = nI (oap (60, 0, 0) (oF f p)).1 ∧ (wsR th Sl Wy T Ft S p).2 = nI (oap (60, 0, 0) (oF f p)).2.1 ∧ (oap (60, 0, 0) (oF f p)).1 ≤ 60
  | 0, _ => ⟨rfl, rfl, Nat.le_refl _⟩
  | p + 1, h => by
    obtain ⟨i1, i2, i3⟩ := ws_oF hf p (by omega)
    obtain ⟨f1, f2⟩ := hf p (by omega)
    rw [wsR, oF, ← oap_ocm]
    generalize oap (60, 0, 0) (oF f p) = x at i1 i2 i3 ⊢
    generalize wsR th Sl Wy T Ft S p = w at i1 i2 ⊢
    cases hl : leftB th S p with
    | false =>
      rw [f1 hl]
      simp only [Bool.false_eq_true, if_false, oap]
      exact ⟨i1, i2, i3⟩
    | true =>
      obtain ⟨e, e1, e2, e3, e4⟩ := f2 hl
      rw [e1, e2, e3]
      simp only [if_true, oap, cmb]
      by_cases h1 : x.1 ≤ e.1
      · have g1 : w.1 ≤ nI e.1 := by rw [i1]; exact (nIle (by omega) (by omega)).mpr h1
        rw [if_pos g1, if_pos h1]
        by_cases h2 : e.1 = x.1
        · have g2 : nI e.1 = w.1 := by rw [i1, h2]
          rw [if_pos g2, if_pos h2]
          refine ⟨i1, ?_, i3⟩
          show w.2 + nI e.2.1 = nI (x.2.1 + e.2.1)
          rw [i2, nI_add]
        · have g2 : ¬ nI e.1 = w.1 := by
            rw [i1]
            intro z
            exact h2 ((nI_eq (by omega) (by omega)).mp z)
          rw [if_neg g2, if_neg h2]
          exact ⟨i1, i2, i3⟩
      · have g1 : ¬ w.1 ≤ nI e.1 := by rw [i1]; exact fun z => h1 ((nIle (by omega) (by omega)).mp z)
        rw [if_neg g1, if_neg h1]
        refine ⟨rfl, ?_, by omega⟩
        show 0 + nI e.2.1 = nI e.2.1
        rw [Int32.zero_add]
theorem dO_ok (ht : th < 64) (h9 : ∀ i p, c i p ≤ 9) (hc : ∀ i p, i < pcN th → p < 6 → tb th p = true → abI (T i - Ft p) = nI (c i p)) (hT : tabOK th Sl Wy T Ft) : ∀ (j i S k : Nat), i + j = 6 → i ≤ pcN th → S < 64 → S &&& (63 ^^^ th) = 0 → pcN S = i →
    ∃ e, dO th (pcN th) c j i S k = some e ∧ Sl S = nI e.1 ∧ Wy S = nI e.2.1 ∧ e.1 + 9 * i ≤ 9 * pcN th ∧ e.2.2 / 6 ^ j = k
  | 0, i, S, k, hij, hi, hS, hsub, hpc => by
    have := pc_le th ht
    have e : S = th := sub_full th ht S hS hsub (by omega)
    subst e
    refine ⟨(0, 1, k), rfl, hT.1, hT.2.1, by omega, by simp⟩
  | j + 1, i, S, k, hij, hi, hS, hsub, hpc => by
    by_cases hin : i = pcN th
    · have e : S = th := sub_full th ht S hS hsub (by omega)
      subst e
      refine ⟨_, dO_end (j + 1) i S k (by omega), hT.1, hT.2.1, by show 0 + 9 * i ≤ _; omega, ?_⟩
      exact Nat.mul_div_cancel _ (Nat.pow_pos (by decide))
    · have hne : ¬ S = th := fun z => hin (by rw [← z]; exact hpc.symm)
      obtain ⟨t1, t2⟩ := hT.2.2 S hS hsub hne
      rw [dO, if_pos (by omega)]
      have hf : ∀ p, p < 6 → leftB th S p = true → ∃ e, (dO th (pcN th) c j (i + 1) (S ||| 2 ^ p) (6 * k + p)) = some e ∧ Sl (S ||| 2 ^ p) = nI e.1 ∧ Wy (S ||| 2 ^ p) = nI e.2.1 ∧ e.1 + 9 * (i + 1) ≤ 9 * pcN th ∧ e.2.2 / 6 ^ j = 6 * k + p := by
        intro p hp6 hl
        have so := sub_or th ht S hS hsub p hp6 hl
        exact dO_ok ht h9 hc hT j (i + 1) (S ||| 2 ^ p) (6 * k + p) (by omega) (by omega) (or_lt S hS p hp6) so.1 (by omega)
      have hl0 : ∀ p, leftB th S p = (tb th p && !(tb S p)) := fun p => rfl
      have hlt : ∀ p, leftB th S p = true → tb th p = true := fun p hl => by
        rw [hl0 p] at hl
        simp at hl
        exact hl.1
      have hpc6 := pc_le th ht
      have hF : ∀ p, p < 6 → (leftB th S p = false → (if tb th p && !(tb S p) then (dO th (pcN th) c j (i + 1) (S ||| 2 ^ p) (6 * k + p)).map (adv (c i p)) else none) = none) ∧ (leftB th S p = true → ∃ e, (if tb th p && !(tb S p) then (dO th (pcN th) c j (i + 1) (S ||| 2 ^ p) (6 * k + p)).map (adv (c i p)) else none) = some e ∧ slW Sl T Ft S p = nI e.1 ∧ Wy (S ||| 2 ^ p) = nI e.2.1 ∧ e.1 ≤ 1000) := by
        intro p hp6
        refine ⟨fun hl => by rw [← hl0 p, hl]; rfl, fun hl => ?_⟩
        obtain ⟨e, e1, e2, e3, e4, e5⟩ := hf p hp6 hl
        refine ⟨adv (c i p) e, by rw [← hl0 p, hl, e1]; rfl, ?_, e3, ?_⟩
        · rw [slW, hpc, hc i p (by omega) hp6 (hlt p hl), e2, nI_add]
          rfl
        · have := h9 i p
          show c i p + e.1 ≤ 1000
          omega
      obtain ⟨w1, w2, w3⟩ := ws_oF (Wy := Wy) hF 6 (Nat.le_refl 6)
      obtain ⟨p0, hp0, hl⟩ := sub_left th ht S hS hsub (by omega)
      obtain ⟨e0, he0, -⟩ := (hF p0 hp0).2 hl
      obtain ⟨e, he⟩ := oF_some (f := fun p => if tb th p && !(tb S p) then (dO th (pcN th) c j (i + 1) (S ||| 2 ^ p) (6 * k + p)).map (adv (c i p)) else none) 6 p0 hp0 ⟨e0, he0⟩
      obtain ⟨p, x, q1, q2, q3, q4, q5, q6⟩ := oF_first 6 e he
      cases hlp : leftB th S p with
      | false =>
        have := (hF p q1).1 hlp
        rw [q2] at this
        cases this
      | true =>
        obtain ⟨y, y1, y2, y3, y4, y5⟩ := hf p q1 hlp
        have ex : x = adv (c i p) y := by
          rw [← hl0 p, hlp, y1] at q2
          exact (Option.some.inj q2).symm
        have hv : e.1 = c i p + y.1 := by rw [q3, ex]; rfl
        have h99 := h9 i p
        have hcm : oap (60, 0, 0) (some e) = e := by
          show cmb (60, 0, 0) e = e
          unfold cmb
          rw [if_neg (by show ¬ 60 ≤ e.1; omega)]
        rw [he, hcm] at w1 w2
        refine ⟨e, he, t1.trans w1, t2.trans w2, by omega, ?_⟩
        rw [q4, ex]
        show y.2.2 / 6 ^ (j + 1) = k
        rw [Nat.pow_succ, ← Nat.div_div_eq_div_mul, y5]
        omega
/-- the first writer goes along the first way -/
theorem fw_first {S p : Nat} (hl : leftB th S p = true) (hs : slW Sl T Ft S p = Sl S) (hb : ∀ r, r < p → leftB th S r = true → ¬ slW Sl T Ft S r = Sl S) : ∀ (m r : Nat), r + m = 6 → r ≤ p → p < 6 → fwR th Sl T Ft S m r = some p
  | 0, r, h1, h2, h3 => by omega
  | m + 1, r, h1, h2, h3 => by
    rw [fwR]
    by_cases hr : r = p
    · subst hr
      rw [if_pos hl, if_pos hs]
    · have ih := fw_first hl hs hb m (r + 1) (by omega) (by omega) h3
      split
      · next g => rw [if_neg (hb r (by omega) g), ih]
      · exact ih
theorem dO_fw (ht : th < 64) (h9 : ∀ i p, c i p ≤ 9) (hc : ∀ i p, i < pcN th → p < 6 → tb th p = true → abI (T i - Ft p) = nI (c i p)) (hT : tabOK th Sl Wy T Ft) {j i S k : Nat} (hij : i + (j + 1) = 6) (hi : i < pcN th) (hS : S < 64) (hsub : S &&& (63 ^^^ th) = 0) (hpc : pcN S = i) :
    ∃ p, p < 6 ∧ leftB th S p = true ∧ fwR th Sl T Ft S 6 0 = some p ∧ ∀ e, dO th (pcN th) c (j + 1) i S k = some e → ∃ y, dO th (pcN th) c j (i + 1) (S ||| 2 ^ p) (6 * k + p) = some y ∧ y.2.2 = e.2.2 := by
  obtain ⟨e, he, e1, e2, e3, e4⟩ := dO_ok ht h9 hc hT (j + 1) i S k hij (by omega) hS hsub hpc
  have he0 := he
  rw [dO, if_pos hi] at he
  have hl0 : ∀ p, leftB th S p = (tb th p && !(tb S p)) := fun p => rfl
  have hlt : ∀ p, leftB th S p = true → tb th p = true := fun p hl => by
    rw [hl0 p] at hl
    simp at hl
    exact hl.1
  have hf : ∀ p, p < 6 → leftB th S p = true → ∃ y, (dO th (pcN th) c j (i + 1) (S ||| 2 ^ p) (6 * k + p)) = some y ∧ slW Sl T Ft S p = nI (c i p + y.1) ∧ y.1 ≤ 54 := by
    intro p hp6 hl
    have so := sub_or th ht S hS hsub p hp6 hl
    obtain ⟨y, y1, y2, y3, y4, y5⟩ := dO_ok ht h9 hc hT j (i + 1) (S ||| 2 ^ p) (6 * k + p) (by omega) (by omega) (or_lt S hS p hp6) so.1 (by omega)
    have hpc6 := pc_le th ht
    refine ⟨y, y1, ?_, by omega⟩
    rw [slW, hpc, hc i p (by omega) hp6 (hlt p hl), y2, nI_add]
  obtain ⟨p, x, q1, q2, q3, q4, q5, q6⟩ := oF_first 6 e he
  have hpc6 := pc_le th ht
  cases hlp : leftB th S p with
  | false =>
    rw [← hl0 p, hlp] at q2
    cases q2
  | true =>
    obtain ⟨y, y1, y2, y3⟩ := hf p q1 hlp
    have ex : x = adv (c i p) y := by
      rw [← hl0 p, hlp, y1] at q2
      exact (Option.some.inj q2).symm
    have hv : e.1 = c i p + y.1 := by rw [q3, ex]; rfl
    refine ⟨p, q1, hlp, ?_, ?_⟩
    · refine fw_first hlp (by rw [y2, e1, hv]) ?_ 6 0 rfl (Nat.zero_le p) q1
      intro r hr hlr
      obtain ⟨z, z1, z2, z3⟩ := hf r (by omega) hlr
      have hz := q6 r (adv (c i r) z) hr (by rw [← hl0 r, hlr, z1]; rfl)
      have hz2 : e.1 < c i r + z.1 := hz
      have h99 := h9 i r
      rw [z2, e1]
      intro zz
      have := (nI_eq (by omega) (by omega)).mp zz
      omega
    · intro e' he'
      rw [he0] at he'
      cases he'
      exact ⟨y, y1, by rw [q4, ex]; rfl⟩
theorem wo_ok (ht : th < 64) (h9 : ∀ i p, c i p ≤ 9) (hc : ∀ i p, i < pcN th → p < 6 → tb th p = true → abI (T i - Ft p) = nI (c i p)) (hT : tabOK th Sl Wy T Ft) : ∀ (a j i S k : Nat) (e : Nat × Nat × Nat), i + (j + a + 1) = 6 → i + a < pcN th → S < 64 → S &&& (63 ^^^ th) = 0 → pcN S = i → dO th (pcN th) c (j + a + 1) i S k = some e →
    woR th Sl T Ft a S = some (e.2.2 / 6 ^ j % 6)
  | 0, j, i, S, k, e, hij, hi, hS, hsub, hpc, he => by
    obtain ⟨p, p1, p2, p3, p4⟩ := dO_fw (k := k) ht h9 hc hT (j := j) (by omega) (by omega) hS hsub hpc
    obtain ⟨y, y1, y2⟩ := p4 e he
    have so := sub_or th ht S hS hsub p p1 p2
    obtain ⟨z, z1, z2, z3, z4, z5⟩ := dO_ok ht h9 hc hT j (i + 1) (S ||| 2 ^ p) (6 * k + p) (by omega) (by omega) (or_lt S hS p p1) so.1 (by omega)
    rw [y1] at z1
    cases z1
    rw [woR, p3, ← y2, z5]
    congr 1
    omega
  | a + 1, j, i, S, k, e, hij, hi, hS, hsub, hpc, he => by
    obtain ⟨p, p1, p2, p3, p4⟩ := dO_fw (k := k) ht h9 hc hT (j := j + a + 1) (by omega) (by omega) hS hsub hpc
    obtain ⟨y, y1, y2⟩ := p4 e he
    have so := sub_or th ht S hS hsub p p1 p2
    rw [woR, p3]
    simp only
    rw [wo_ok ht h9 hc hT a j (i + 1) (S ||| 2 ^ p) (6 * k + p) y (by omega) (by omega) (or_lt S hS p p1) so.1 (by omega) y1, y2]
end Dp
