/-! BEST by numbers -/
def sumNN (f : Nat → Nat) : Nat → Nat
  | 0 => 0
  | n + 1 => sumNN f n + f n
theorem sumNN_le {f g : Nat → Nat} : ∀ n : Nat, (∀ k, k < n → f k ≤ g k) → sumNN f n ≤ sumNN g n
  | 0, _ => Nat.le_refl _
  | n + 1, h => by
    have i1 := sumNN_le n (fun k hk => h k (by omega))
    have i2 := h n (by omega)
    rw [sumNN, sumNN]
    omega
theorem sumNN_mul {f : Nat → Nat} {b : Nat} : ∀ n : Nat, sumNN (fun k => f k * b) n = sumNN f n * b
  | 0 => by rw [sumNN, sumNN, Nat.zero_mul]
  | n + 1 => by rw [sumNN, sumNN, sumNN_mul n, Nat.add_mul]
theorem sumNN_add {f g : Nat → Nat} : ∀ n : Nat, sumNN (fun k => f k + g k) n = sumNN f n + sumNN g n
  | 0 => rfl
  | n + 1 => by rw [sumNN, sumNN, sumNN, sumNN_add n]; omega
theorem sumL_lN {f : Nat → Int64} {g : Nat → Nat} : ∀ n : Nat, (∀ k, k < n → f k = lN (g k)) → sumL f n = lN (sumNN g n)
  | 0, _ => rfl
  | n + 1, h => by rw [sumL, sumNN, sumL_lN n (fun k hk => h k (by omega)), h n (by omega), lN_add]
theorem sumI_nI {f : Nat → Int32} {g : Nat → Nat} : ∀ n : Nat, (∀ k, k < n → f k = nI (g k)) → sumI f n = nI (sumNN g n)
  | 0, _ => rfl
  | n + 1, h => by rw [sumI, sumNN, sumI_nI n (fun k hk => h k (by omega)), h n (by omega), nI_add]
theorem nI_lN {n : Nat} (h : n < 2 ^ 31) : (nI n).toInt64 = lN n := by
  apply Int64.toInt_inj.mp
  rw [Int32.toInt_toInt64, nI_toInt h, pk_lT (by omega)]
theorem pwL_lN {a : Nat} : ∀ k : Nat, pwL (lN a) k = lN (a ^ k)
  | 0 => rfl
  | k + 1 => by rw [pwL, pwL_lN k, lN_mul, Nat.pow_succ]
/-- WEIGHTS as they may be -/
def wN (W : Nat → Int32) (k : Nat) : Nat := (W (k + 1)).toInt.toNat
def allN (w : Nat → Nat) : Nat := sumNN w 9
def wOK (W : Nat → Int32) : Prop := (∀ k, k < 9 → 0 ≤ (W (k + 1)).toInt ∧ (W (k + 1)).toInt ≤ 9) ∧ 1 ≤ allN (wN W)
theorem wOK.eq {W : Nat → Int32} (h : wOK W) {k : Nat} (hk : k < 9) : W (k + 1) = nI (wN W k) ∧ wN W k ≤ 9 := by
  have := h.1 k hk
  unfold wN
  refine ⟨?_, by omega⟩
  apply Int32.toInt_inj.mp
  rw [nI_toInt (by omega)]
  omega
theorem wOK.all_le {W : Nat → Int32} (h : wOK W) : allN (wN W) ≤ 81 := by
  have := sumNN_le (f := wN W) (g := fun _ => 9) 9 (fun k hk => (h.eq hk).2)
  exact this
theorem wOK.sum {W : Nat → Int32} (h : wOK W) : wsumF W = nI (allN (wN W)) := sumI_nI 9 (fun k hk => (h.eq hk).1)
theorem wOK.sumL {W : Nat → Int32} (h : wOK W) : (wsumF W).toInt64 = lN (allN (wN W)) := by
  have := h.all_le
  rw [h.sum, nI_lN (by omega)]
def BV (w : Nat → Nat) : Nat → Nat → Nat
  | 0, _ => 0
  | _ + 1, 0 => 0
  | m + 1, n + 1 => sumNN (fun k => w k * max (BV w m (n + 1)) ((k + 1) * allN w ^ m + BV w m n)) 9
theorem BV_0 (w : Nat → Nat) (m : Nat) : BV w m 0 = 0 := by cases m <;> rw [BV]
theorem BV_le (w : Nat → Nat) : ∀ m n : Nat, BV w m n ≤ 9 * m * allN w ^ m
  | 0, n => by rw [BV]; omega
  | m + 1, 0 => by rw [BV]; omega
  | m + 1, n + 1 => by
    rw [BV]
    have h1 : ∀ k, k < 9 → w k * max (BV w m (n + 1)) ((k + 1) * allN w ^ m + BV w m n) ≤ w k * (9 * (m + 1) * allN w ^ m) := by
      intro k hk
      refine Nat.mul_le_mul_left _ ?_
      have i1 := BV_le w m (n + 1)
      have i2 := BV_le w m n
      have i3 : (k + 1) * allN w ^ m ≤ 9 * allN w ^ m := Nat.mul_le_mul_right _ (by omega)
      have i4 : 9 * (m + 1) * allN w ^ m = 9 * m * allN w ^ m + 9 * allN w ^ m := by rw [Nat.mul_add, Nat.add_mul, Nat.mul_one]
      rw [Nat.max_def]
      split <;> omega
    have h2 := sumNN_le 9 h1
    rw [sumNN_mul] at h2
    rw [Nat.pow_succ, ← Nat.mul_assoc, Nat.mul_comm _ (allN w)]
    exact h2
theorem BV_mono (w : Nat → Nat) : ∀ m n : Nat, BV w m n ≤ BV w m (n + 1)
  | 0, n => by rw [BV, BV]; exact Nat.le_refl _
  | m + 1, 0 => by rw [BV]; exact Nat.zero_le _
  | m + 1, n + 1 => by
    rw [BV, BV]
    refine sumNN_le 9 (fun k hk => Nat.mul_le_mul_left _ ?_)
    have i1 := BV_mono w m (n + 1)
    have i2 := BV_mono w m n
    rw [Nat.max_def, Nat.max_def]
    split <;> split <;> omega
theorem BV_step (w : Nat → Nat) : ∀ m n : Nat, BV w m (n + 1) ≤ BV w m n + 9 * allN w ^ m
  | 0, n => by rw [BV, BV]; omega
  | m + 1, n => by
    have hm : 9 * allN w ^ (m + 1) = sumNN (fun k => w k * (9 * allN w ^ m)) 9 := by
      rw [sumNN_mul, Nat.pow_succ, ← Nat.mul_assoc, Nat.mul_comm]
      rfl
    cases n with
    | zero =>
      rw [BV_0, hm, BV]
      refine Nat.le_trans (sumNN_le (g := fun k => w k * (9 * allN w ^ m)) 9 (fun k hk => Nat.mul_le_mul_left _ ?_)) (Nat.le_of_eq (Nat.zero_add _).symm)
      have i1 := BV_step w m 0
      rw [BV_0] at i1 ⊢
      have i3 : (k + 1) * allN w ^ m ≤ 9 * allN w ^ m := Nat.mul_le_mul_right _ (by omega)
      rw [Nat.max_def]
      split <;> omega
    | succ n =>
      rw [hm, BV, BV, ← sumNN_add]
      refine sumNN_le 9 (fun k hk => ?_)
      rw [← Nat.mul_add]
      refine Nat.mul_le_mul_left _ ?_
      have i1 := BV_step w m (n + 1)
      have i2 := BV_step w m n
      rw [Nat.max_def, Nat.max_def]
      split <;> split <;> omega
theorem pow81 {a m : Nat} (ha : a ≤ 81) (hm : m ≤ 8) : a ^ m ≤ 1853020188851841 := by
  have h1 : a ^ m ≤ 81 ^ m := Nat.pow_le_pow_left ha m
  have h2 : 81 ^ m ≤ 81 ^ 8 := Nat.pow_le_pow_right (by decide) hm
  have h3 : 81 ^ 8 = 1853020188851841 := by decide +kernel
  omega
theorem BV_lt {w : Nat → Nat} (ha : allN w ≤ 81) {m n : Nat} (hm : m ≤ 8) : BV w m n ≤ 133417453597332552 := by
  have h1 := BV_le w m n
  have h2 := pow81 ha hm
  have h3 : 9 * m * allN w ^ m ≤ 72 * 1853020188851841 := Nat.mul_le_mul (by omega) h2
  omega
theorem mxL_lN {a b : Nat} (ha : a < 2 ^ 63) (hb : b < 2 ^ 63) : mxL (lN a) (lN b) = lN (max a b) := by
  unfold mxL
  rw [Nat.max_def]
  by_cases h : b < a
  · rw [if_pos ((pk_lLT hb ha).mpr h), if_neg (by omega)]
  · rw [if_neg (fun z => h ((pk_lLT hb ha).mp z))]
    split
    · rfl
    · omega
theorem mk2_lN {a b : Nat} (ha : a < 2 ^ 63) (hb : b < 2 ^ 63) : mk2 (lN b) (lN a) = lN (max a b) := by
  unfold mk2
  rw [Nat.max_def]
  by_cases h : b ≤ a
  · rw [if_pos ((lg_cmp_le _ _).mpr ((pk_lLE hb ha).mpr h))]
    split
    · congr 1; omega
    · rfl
  · rw [if_neg (fun z => h ((pk_lLE hb ha).mp ((lg_cmp_le _ _).mp z))), if_pos (by omega)]
theorem updL_s (f : Nat → Int64) (k : Nat) (v : Int64) : vp_updL f k v k = v := by simp [vp_updL]
theorem updL_n (f : Nat → Int64) {k j : Nat} (v : Int64) (h : j ≠ k) : vp_updL f k v j = f j := by simp [vp_updL, h]
