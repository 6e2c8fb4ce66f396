/-! Euclid: fewer than 100 steps for any two longs -/
def gdN : Nat → Nat → Nat → Option Nat
  | 0, a, b => if b = 0 then some a else none
  | n + 1, a, b => if b = 0 then some a else gdN n b (a % b)
def fbN : Nat → Nat × Nat
  | 0 => (1, 1)
  | n + 1 => match fbN n with | (a, b) => (b, a + b)
theorem gdN_fb : ∀ (n a b : Nat), b ≤ a → gdN n a b = none → (fbN n).1 ≤ b ∧ (fbN n).2 ≤ a
  | 0, a, b, h, hn => by
    rw [gdN] at hn
    split at hn
    · cases hn
    · show 1 ≤ b ∧ 1 ≤ a
      omega
  | n + 1, a, b, h, hn => by
    rw [gdN] at hn
    split at hn
    · cases hn
    · next hb =>
      have hm : a % b < b := Nat.mod_lt _ (by omega)
      obtain ⟨h1, h2⟩ := gdN_fb n b (a % b) (by omega) hn
      have e : fbN (n + 1) = ((fbN n).2, (fbN n).1 + (fbN n).2) := rfl
      rw [e]
      refine ⟨h2, ?_⟩
      have hd : b * (a / b) + a % b = a := Nat.div_add_mod a b
      have hq : 1 ≤ a / b := (Nat.le_div_iff_mul_le (by omega)).mpr (by omega)
      have hb2 : b * 1 ≤ b * (a / b) := Nat.mul_le_mul_left b hq
      show (fbN n).1 + (fbN n).2 ≤ a
      omega
theorem gdN_some {a b : Nat} (hb : b < 2 ^ 63) : ∃ g, gdN 99 a b = some g := by
  cases h : gdN 99 a b with
  | some g => exact ⟨g, rfl⟩
  | none =>
    rw [gdN] at h
    split at h
    · cases h
    · next hb0 =>
      have hm : a % b < b := Nat.mod_lt _ (by omega)
      obtain ⟨-, h2⟩ := gdN_fb 98 b (a % b) (by omega) h
      have h3 : 2 ^ 63 ≤ (fbN 98).2 := by decide +kernel
      omega
theorem gdN_pos : ∀ (n a b g : Nat), 0 < a + b → gdN n a b = some g → 0 < g
  | 0, a, b, g, h, hg => by
    rw [gdN] at hg
    split at hg
    · cases hg; omega
    · cases hg
  | n + 1, a, b, g, h, hg => by
    rw [gdN] at hg
    split at hg
    · cases hg; omega
    · exact gdN_pos n b (a % b) g (by omega) hg
theorem gdN_lt : ∀ (n a b g : Nat), a < 2 ^ 63 → b < 2 ^ 63 → gdN n a b = some g → g < 2 ^ 63
  | 0, a, b, g, h, h2, hg => by
    rw [gdN] at hg
    split at hg
    · cases hg; exact h
    · cases hg
  | n + 1, a, b, g, h, h2, hg => by
    rw [gdN] at hg
    split at hg
    · cases hg; exact h
    · next hb0 =>
      have hm : a % b < b := Nat.mod_lt _ (by omega)
      exact gdN_lt n b (a % b) g h2 (by omega) hg
theorem lN_0 {b : Nat} (h : b < 2 ^ 63) : lN b = 0 ↔ b = 0 := by
  rw [show (0 : Int64) = lN 0 from rfl]
  exact pk_lEQ h (by decide)
theorem gd_gdN : ∀ (n a b : Nat), a < 2 ^ 63 → b < 2 ^ 63 → gdR n (lN a) (lN b) = (gdN n a b).map lN
  | 0, a, b, ha, hb => by
    rw [gdR, gdN]
    by_cases h : b = 0
    · rw [if_pos ((lN_0 hb).mpr h), if_pos h]; rfl
    · rw [if_neg (fun z => h ((lN_0 hb).mp z)), if_neg h]; rfl
  | n + 1, a, b, ha, hb => by
    rw [gdR, gdN]
    by_cases h : b = 0
    · rw [if_pos ((lN_0 hb).mpr h), if_pos h]; rfl
    · have hm : a % b < b := Nat.mod_lt _ (by omega)
      rw [if_neg (fun z => h ((lN_0 hb).mp z)), if_neg h, pk_lRem ha (by omega) hb, gd_gdN n b (a % b) hb (by omega)]
theorem cd_gd : ∀ (n : Nat) (a b g : Int64), gdR n a b = some g → cdR (n + 1) a b = g
  | 0, a, b, g, h => by
    rw [gdR] at h
    split at h
    · next hb => cases h; rw [cdR, if_pos hb]
    · cases h
  | n + 1, a, b, g, h => by
    rw [gdR] at h
    rw [cdR]
    split at h
    · next hb => cases h; rw [if_pos hb]
    · next hb => rw [if_neg hb]; exact cd_gd n _ _ g h
/-- a fraction of naturals, the lower above 0: both reduce it alike -/
theorem frac_eq {a b : Nat} (ha : a < 2 ^ 63) (hb : b < 2 ^ 63) (h0 : 0 < b) : ∃ g : Int64, gdR 99 (lN a) (lN b) = some g ∧ ¬ g = 0 ∧ ∀ w : Int32, frF (lN a) (lN b) w = if w = 0 then lN a / g else lN b / g := by
  obtain ⟨g, hg⟩ := gdN_some (a := a) hb
  have hp0 := gdN_pos 99 a b g (by omega) hg
  have hl := gdN_lt 99 a b g ha hb hg
  have e : gdR 99 (lN a) (lN b) = some (lN g) := by rw [gd_gdN 99 a b ha hb, hg]; rfl
  have e2 : cdF (lN a) (lN b) = lN g := by
    rw [cdF, cd_gd 99 _ _ _ e]
    unfold mxL
    split
    · next h =>
      rw [show (1 : Int64) = lN 1 from rfl, pk_lLT hl (by decide)] at h
      omega
    · rfl
  refine ⟨lN g, e, fun z => ?_, fun w => ?_⟩
  · have := (lN_0 hl).mp z
    omega
  · rw [frF, e2]
