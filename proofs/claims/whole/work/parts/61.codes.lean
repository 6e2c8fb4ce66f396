/-! the model's codes: a prefix of i digits has its PERSONS and its slips -/
def preN (th n : Nat) (c : Nat → Nat → Nat) : Nat → Nat → Option (Nat × Nat)
  | 0, _ => some (0, 0)
  | i + 1, k => match preN th n c i (k / 6) with
    | none => none
    | some q => if i < n then (if tb th (k % 6) && !(tb q.1 (k % 6)) then some (q.1 ||| 2 ^ (k % 6), q.2 + c i (k % 6)) else none) else (if k % 6 = 0 then some q else none)
theorem and_or1 : ∀ S, S < 64 → ∀ u, u < 64 → ∀ p, p < 6 → decide (S &&& (u ||| 2 ^ p) = 0) = (!(tb S p) && decide (S &&& u = 0)) := by decide +kernel
theorem and_or2 : ∀ S, S < 64 → ∀ u, u < 64 → ∀ p, p < 6 → decide ((S ||| 2 ^ p) &&& u = 0) = (!(tb u p) && decide (S &&& u = 0)) := by decide +kernel
theorem or_lt : ∀ S, S < 64 → ∀ p, p < 6 → S ||| 2 ^ p < 64 := by decide +kernel
theorem pre_lt {th n : Nat} {c : Nat → Nat → Nat} : ∀ (i k : Nat) (q : Nat × Nat), preN th n c i k = some q → q.1 < 64
  | 0, k, q, h => by
    simp [preN] at h
    subst h
    decide
  | i + 1, k, q, h => by
    rw [preN] at h
    cases hp2 : preN th n c i (k / 6) with
    | none => rw [hp2] at h; cases h
    | some z =>
      have iz := pre_lt i (k / 6) z hp2
      rw [hp2] at h
      have h6 : k % 6 < 6 := Nat.mod_lt _ (by decide)
      simp only at h
      split at h
      · split at h
        · cases h
          exact or_lt z.1 iz _ h6
        · cases h
      · split at h
        · cases h
          exact iz
        · cases h
theorem pre_le {th n : Nat} {c : Nat → Nat → Nat} (hc : ∀ i p, c i p ≤ 9) : ∀ (i k : Nat) (q : Nat × Nat), preN th n c i k = some q → q.2 ≤ 9 * i
  | 0, k, q, h => by
    simp [preN] at h
    subst h
    decide
  | i + 1, k, q, h => by
    rw [preN] at h
    cases hp2 : preN th n c i (k / 6) with
    | none => rw [hp2] at h; cases h
    | some z =>
      have iz := pre_le hc i (k / 6) z hp2
      rw [hp2] at h
      simp only at h
      split at h
      · split at h
        · cases h
          have := hc i (k % 6)
          show z.2 + c i (k % 6) ≤ _
          omega
        · cases h
      · split at h
        · cases h
          omega
        · cases h
theorem lmI_pre {th n : Nat} {A T : Nat → Int32} {c : Nat → Nat → Nat} (hc : ∀ i p, i < n → p < 6 → tb th p = true → adI (A i) (T p) = nI (c i p)) : ∀ (j rest used : Nat) (sum : Int32), used < 64 →
    lmI th n A T j rest used sum = (preN th n c j rest).bind (fun q => if q.1 &&& used = 0 then some (sum + nI q.2) else none)
  | 0, rest, used, sum, hu => by
    simp [lmI, preN]
    rfl
  | j + 1, rest, used, sum, hu => by
    have h6 : rest % 6 < 6 := Nat.mod_lt _ (by decide)
    rw [lmI, preN]
    by_cases hj : j < n
    · rw [if_pos hj]
      by_cases ht : tb th (rest % 6) = true
      · by_cases hu6 : tb used (rest % 6) = true
        · rw [hu6, ht, if_neg (by decide)]
          cases hp2 : preN th n c j (rest / 6) with
          | none => rfl
          | some z =>
            have iz := pre_lt j (rest / 6) z hp2
            simp only [if_pos hj]
            by_cases hs : tb z.1 (rest % 6) = true
            · rw [hs]; rfl
            · have hs2 : tb z.1 (rest % 6) = false := by simpa using hs
              rw [hs2]
              simp only [Bool.not_false, Bool.and_self, if_true, Option.bind_some]
              rw [if_neg (fun z9 => by
                have e := and_or2 z.1 iz used hu _ h6
                rw [decide_eq_true z9, hu6] at e
                simp at e)]
        · have hu2 : tb used (rest % 6) = false := by simpa using hu6
          rw [hu2, ht]
          simp only [Bool.not_false, Bool.and_self, if_true, Bool.true_and]
          rw [lmI_pre hc j (rest / 6) _ _ (or_lt used hu _ h6), hc j _ hj h6 ht]
          cases hp2 : preN th n c j (rest / 6) with
          | none => rfl
          | some z =>
            have iz := pre_lt j (rest / 6) z hp2
            simp only [if_pos hj, Option.bind_some]
            have e1 := and_or1 z.1 iz used hu _ h6
            have e2 := and_or2 z.1 iz used hu _ h6
            rw [hu2] at e2
            by_cases hs : tb z.1 (rest % 6) = true
            · rw [hs] at e1 ⊢
              rw [if_neg (by simpa using e1)]
              rfl
            · have hs2 : tb z.1 (rest % 6) = false := by simpa using hs
              rw [hs2] at e1 ⊢
              simp only [Bool.not_false, if_true, Option.bind_some]
              simp only [Bool.not_false, Bool.true_and, decide_eq_decide] at e1 e2
              have e3 : sum + nI (c j (rest % 6)) + nI z.2 = sum + nI (z.2 + c j (rest % 6)) := by rw [Int32.add_assoc, nI_add, Nat.add_comm]
              by_cases hz : z.1 &&& used = 0
              · rw [if_pos (e1.mpr hz), if_pos (e2.mpr hz), e3]
              · rw [if_neg (fun z9 => hz (e1.mp z9)), if_neg (fun z9 => hz (e2.mp z9))]
      · have ht2 : tb th (rest % 6) = false := by simpa using ht
        rw [ht2]
        simp only [Bool.false_and, Bool.false_eq_true, if_false]
        cases hp2 : preN th n c j (rest / 6) with
        | none => rfl
        | some z =>
          simp only [if_pos hj]
          rfl
    · rw [if_neg hj]
      by_cases h0 : rest % 6 = 0
      · rw [if_pos h0, lmI_pre hc j (rest / 6) _ _ hu]
        cases hp2 : preN th n c j (rest / 6) with
        | none => rfl
        | some z =>
          simp only [if_neg hj, if_pos h0]
      · rw [if_neg h0]
        cases hp2 : preN th n c j (rest / 6) with
        | none => rfl
        | some z =>
          simp only [if_neg hj, if_neg h0]
          rfl
theorem lm_val {th n : Nat} {A T : Nat → Int32} {c : Nat → Nat → Nat} (hc : ∀ i p, i < n → p < 6 → tb th p = true → adI (A i) (T p) = nI (c i p)) (k : Nat) : lmI th n A T 6 k 0 0 = (preN th n c 6 k).map (fun q => nI q.2) := by
  rw [lmI_pre hc 6 k 0 0 (by decide)]
  cases preN th n c 6 k with
  | none => rfl
  | some z => simp
/-! all codes, one after the other; then in blocks -/
def mfN (th n : Nat) (c : Nat → Nat → Nat) : Nat → Nat × Nat × Nat
  | 0 => (1000000, 0, 0)
  | k + 1 => oap (mfN th n c k) ((preN th n c 6 k).map (fun q => (q.2, 1, k)))
def bO (th n : Nat) (c : Nat → Nat → Nat) : Nat → Nat → Option (Nat × Nat × Nat)
  | 0, k => (preN th n c 6 k).map (fun q => (q.2, 1, k))
  | j + 1, k => oF (fun p => bO th n c j (6 * k + p)) 6
theorem mf_block {th n : Nat} {c : Nat → Nat → Nat} : ∀ (j k : Nat), mfN th n c ((k + 1) * 6 ^ j) = oap (mfN th n c (k * 6 ^ j)) (bO th n c j k)
  | 0, k => by simp [mfN, bO]
  | j + 1, k => by
    have inner : ∀ p : Nat, mfN th n c ((6 * k + p) * 6 ^ j) = oap (mfN th n c (6 * k * 6 ^ j)) (oF (fun p => bO th n c j (6 * k + p)) p) := by
      intro p
      induction p with
      | zero => rfl
      | succ p ih =>
        rw [← Nat.add_assoc, mf_block j (6 * k + p), ih, oap_ocm]
        rfl
    have h := inner 6
    rw [show (k + 1) * 6 ^ (j + 1) = (6 * k + 6) * 6 ^ j from by rw [Nat.pow_succ, ← Nat.mul_assoc, Nat.mul_right_comm, show (k + 1) * 6 = 6 * k + 6 from by omega], show k * 6 ^ (j + 1) = 6 * k * 6 ^ j from by rw [Nat.pow_succ, ← Nat.mul_assoc, Nat.mul_right_comm, Nat.mul_comm k 6]]
    rw [h, bO]
def dO (th n : Nat) (c : Nat → Nat → Nat) : Nat → Nat → Nat → Nat → Option (Nat × Nat × Nat)
  | 0, _, _, k => some (0, 1, k)
  | j + 1, i, S, k => if i < n then oF (fun p => if tb th p && !(tb S p) then (dO th n c j (i + 1) (S ||| 2 ^ p) (6 * k + p)).map (adv (c i p)) else none) 6 else dO th n c j (i + 1) S (6 * k)
theorem oF_none : ∀ k : Nat, oF (fun _ => none) k = none
  | 0 => rfl
  | k + 1 => by rw [oF, oF_none k]; rfl
theorem bO_dO {th n : Nat} {c : Nat → Nat → Nat} : ∀ (j i k : Nat), i + j = 6 → bO th n c j k = (preN th n c i k).bind (fun q => (dO th n c j i q.1 k).map (adv q.2))
  | 0, i, k, h => by
    obtain rfl : i = 6 := by omega
    rw [bO]
    cases preN th n c 6 k <;> simp [dO, adv]
  | j + 1, i, k, h => by
    have ih := fun p => bO_dO (th := th) (n := n) (c := c) j (i + 1) (6 * k + p) (by omega)
    have hd : ∀ p, p < 6 → (6 * k + p) / 6 = k ∧ (6 * k + p) % 6 = p := fun p h9 => by omega
    rw [bO]
    cases hp2 : preN th n c i k with
    | none =>
      rw [oF_cong (g := fun _ => none) 6 (fun p h9 => by rw [ih p, preN, (hd p h9).1, hp2]; rfl), oF_none]
      rfl
    | some z =>
      rw [Option.bind_some, dO]
      by_cases hi : i < n
      · rw [if_pos hi, oF_map]
        refine oF_cong 6 (fun p h9 => ?_)
        rw [ih p, preN, (hd p h9).1, (hd p h9).2, hp2]
        simp only [if_pos hi]
        cases tb th p && !(tb z.1 p) with
        | false => rfl
        | true =>
          simp only [if_true, Option.bind_some]
          rw [adv_adv]
      · rw [if_neg hi]
        have e : ∀ p, p < 6 → bO th n c j (6 * k + p) = if p = 0 then (dO th n c j (i + 1) z.1 (6 * k)).map (adv z.2) else none := by
          intro p h9
          rw [ih p, preN, (hd p h9).1, (hd p h9).2, hp2]
          simp only [if_neg hi]
          by_cases h0 : p = 0
          · subst h0
            rfl
          · rw [if_neg h0, if_neg h0]
            rfl
        rw [oF_cong 6 e]
        cases (dO th n c j (i + 1) z.1 (6 * k)).map (adv z.2) <;> rfl
theorem mf_all {th n : Nat} {c : Nat → Nat → Nat} : mfN th n c 46656 = oap (1000000, 0, 0) ((dO th n c 6 0 0 0).map (adv 0)) := by
  have h := mf_block (th := th) (n := n) (c := c) 6 0
  rw [bO_dO 6 0 0 rfl] at h
  exact h
