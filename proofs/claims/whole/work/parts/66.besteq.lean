/-! the model's table -/
theorem lb0_at (V : Nat → Int64) : ∀ k n : Nat, n < k → lb0 V k (11 * n) = 0
  | 0, n, h => by omega
  | k + 1, n, h => by
    rw [lb0_s]
    by_cases e : n = k
    · subst e; rw [updL_s]
    · rw [updL_n _ _ (by omega), lb0_at V k n (by omega)]
section Mod
variable {W : Nat → Int32} {T : Nat → Int64} {i : Nat}
theorem lbN_col {all : Int64} : ∀ (k j : Nat), (∀ n, n < k → j ≠ 11 * n + (i + 1)) → lbN W all i T k j = T j
  | 0, j, _ => by rw [lbN]
  | k + 1, j, h => by rw [lbN_s, updL_n _ _ (h k (by omega)), lbN_col k j (fun n hn => h n (by omega))]
theorem bv_val (hW : wOK W) (hi : i < 8) {V : Nat → Int64} {n : Nat} (hn : n < 10) (hV : ∀ n, n < 10 → V (11 * n + i) = lN (BV (wN W) i n)) : sumL (bvF W V (lN (allN (wN W))) i n) 9 = lN (BV (wN W) (i + 1) n) := by
  have ha := hW.all_le
  cases n with
  | zero =>
    rw [BV]
    refine Eq.trans (sumL_lN (g := fun _ => 0) 9 (fun k hk => ?_)) rfl
    rw [bvF, bvA, hV 0 (by omega), BV_0]
    rw [show mk2 (-1) (lN 0) = lN 0 from by decide +kernel, (hW.eq hk).1, nI_lN (by have := (hW.eq hk).2; omega), lN_mul, Nat.mul_zero]
  | succ p =>
    rw [BV]
    refine sumL_lN 9 (fun k hk => ?_)
    have b1 := BV_lt ha (m := i) (n := p + 1) (by omega)
    have b2 := BV_lt ha (m := i) (n := p) (by omega)
    have b3 := pow81 ha (m := i) (by omega)
    have b4 : (k + 1) * allN (wN W) ^ i ≤ 9 * 1853020188851841 := Nat.mul_le_mul (by omega) b3
    rw [bvF, bvA, hV (p + 1) (by omega), hV p (by omega), (hW.eq hk).1, nI_lN (by have := (hW.eq hk).2; omega), nI_lN (by omega), pwL_lN, lN_mul, lN_add, mk2_lN (by omega) (by omega), lN_mul]
theorem lbN_val (hW : wOK W) (hi : i < 8) (hT : ∀ n, n < 10 → T (11 * n + i) = lN (BV (wN W) i n)) : ∀ (k n : Nat), k ≤ 10 → n < k → lbN W (lN (allN (wN W))) i T k (11 * n + (i + 1)) = lN (BV (wN W) (i + 1) n)
  | 0, n, _, h => by omega
  | k + 1, n, hk, h => by
    rw [lbN_s]
    by_cases e : n = k
    · subst e
      rw [updL_s]
      refine bv_val hW hi (by omega) (fun n2 hn2 => ?_)
      rw [lbN_col _ _ (fun n3 hn3 => by omega), hT n2 hn2]
    · rw [updL_n _ _ (by omega), lbN_val hW hi hT k n (by omega) (by omega)]
theorem lbM_ok (hW : wOK W) {V : Nat → Int64} : ∀ (i n m : Nat), i ≤ 8 → n < 10 → m ≤ i → lbM W (lN (allN (wN W))) V i (11 * n + m) = lN (BV (wN W) m n)
  | 0, n, m, hi, hn, hm => by
    obtain rfl : m = 0 := by omega
    rw [lbM_0, BV, Nat.add_zero, lb0_at V 10 n hn]
    rfl
  | i + 1, n, m, hi, hn, hm => by
    rw [lbM_s]
    by_cases e : m = i + 1
    · subst e
      exact lbN_val hW (by omega) (fun n2 hn2 => lbM_ok hW i n2 i (by omega) hn2 (Nat.le_refl _)) 10 n (Nat.le_refl _) hn
    · rw [lbN_col _ _ (fun n3 hn3 => by omega), lbM_ok hW i n m (by omega) hn (by omega)]
end Mod
/-! the class's table -/
section Cls
variable {W : Nat → Int32} {C T : Nat → Int64} {m : Nat}
theorem lnN_s (k : Nat) : lnN W C T m (k + 1) = vp_updL (lnN W C T m k) ((k + 1) * 9 + m) (mbF W (lnN W C T m k) C (k + 1) m) := by rw [lnN]
theorem lnN_col : ∀ (k j : Nat), (∀ n, n < k → j ≠ (n + 1) * 9 + m) → lnN W C T m k j = T j
  | 0, j, _ => by rw [lnN]
  | k + 1, j, h => by rw [lnN_s, updL_n _ _ (h k (by omega)), lnN_col k j (fun n hn => h n (by omega))]
theorem mb_val (hW : wOK W) (hm : m < 8) {V : Nat → Int64} {n : Nat} (hn : n < 9) (hV : ∀ n, n ≤ 9 → V (n * 9 + m) = lN (BV (wN W) m n)) (hC : C m = lN (allN (wN W) ^ m)) : mbF W V C (n + 1) (m + 1) = lN (BV (wN W) (m + 1) (n + 1)) := by
  have ha := hW.all_le
  rw [mbF, BV]
  refine sumL_lN 9 (fun k hk => ?_)
  have b1 := BV_lt ha (m := m) (n := n + 1) (by omega)
  have b2 := BV_lt ha (m := m) (n := n) (by omega)
  have b3 := pow81 ha (m := m) (by omega)
  have b4 : (k + 1) * allN (wN W) ^ m ≤ 9 * 1853020188851841 := Nat.mul_le_mul (by omega) b3
  simp only [vsF, Nat.add_sub_cancel]
  rw [hV (n + 1) (by omega), hV n (by omega), hC, (hW.eq hk).1, nI_lN (by have := (hW.eq hk).2; omega), nI_lN (by omega), lN_mul, lN_add, mxL_lN (by omega) (by omega), lN_mul]
theorem lnN_val (hW : wOK W) (hm : m < 8) (hT : ∀ n, n ≤ 9 → T (n * 9 + m) = lN (BV (wN W) m n)) (hC : C m = lN (allN (wN W) ^ m)) : ∀ (k n : Nat), k ≤ 9 → n < k → lnN W C T (m + 1) k ((n + 1) * 9 + (m + 1)) = lN (BV (wN W) (m + 1) (n + 1))
  | 0, n, _, h => by omega
  | k + 1, n, hk, h => by
    rw [lnN_s]
    by_cases e : n = k
    · subst e
      rw [updL_s]
      refine mb_val hW hm (by omega) (fun n2 hn2 => ?_) hC
      rw [lnN_col _ _ (fun n3 hn3 => by omega), hT n2 hn2]
    · rw [updL_n _ _ (by omega), lnN_val hW hm hT hC k n (by omega) (by omega)]
theorem lnM_ok (hW : wOK W) {V : Nat → Int64} (h0 : ∀ n, n ≤ 9 → V (n * 9) = 0) (hr : ∀ m, m ≤ 8 → V m = 0) : ∀ k : Nat, k ≤ 8 →
    (∀ n m, n ≤ 9 → m ≤ k → (lnM W V C k).1 (n * 9 + m) = lN (BV (wN W) m n)) ∧ (∀ m, m ≤ k → (lnM W V C k).2 m = lN (allN (wN W) ^ m)) ∧ ∀ m, m ≤ 8 → (lnM W V C k).1 m = 0
  | 0, _ => by
    rw [lnM]
    refine ⟨fun n m hn hm => ?_, fun m hm => ?_, fun m hm => hr m hm⟩
    · obtain rfl : m = 0 := by omega
      rw [BV]
      exact h0 n hn
    · obtain rfl : m = 0 := by omega
      show vp_updL C 0 1 0 = _
      rw [updL_s]
      rfl
  | k + 1, hk => by
    obtain ⟨i1, i2, i3⟩ := lnM_ok hW h0 hr k (by omega)
    rw [lnM]
    generalize lnM W V C k = R at i1 i2 i3 ⊢
    have hC : ∀ m, m ≤ k + 1 → vp_updL R.2 (k + 1) (R.2 k * (wsumF W).toInt64) m = lN (allN (wN W) ^ m) := by
      intro m hm
      by_cases e : m = k + 1
      · subst e
        rw [updL_s, i2 k (Nat.le_refl _), hW.sumL, lN_mul, Nat.pow_succ]
      · rw [updL_n _ _ e, i2 m (by omega)]
    refine ⟨fun n m hn hm => ?_, hC, fun m hm => ?_⟩
    · by_cases e : m = k + 1
      · subst e
        cases n with
        | zero =>
          show lnN _ _ _ _ _ _ = _
          rw [lnN_col _ _ (fun n3 hn3 => by omega), Nat.zero_mul, Nat.zero_add, i3 _ (by omega), BV_0]
          rfl
        | succ n => exact lnN_val hW (by omega) (fun n2 hn2 => i1 n2 k hn2 (Nat.le_refl _)) (hC k (by omega)) 9 n (Nat.le_refl _) (by omega)
      · show lnN _ _ _ _ _ _ = _
        rw [lnN_col _ _ (fun n3 hn3 => by omega), i1 n m hn (by omega)]
    · show lnN _ _ _ _ _ _ = _
      rw [lnN_col _ _ (fun n3 hn3 => by omega), i3 m hm]
end Cls
/-- a plan beside the WEIGHTS: right where it is known -/
def plOK (W : Nat → Int32) (p : PlanS) : Prop := (∀ n, n ≤ 9 → p.1 (n * 9) = 0) ∧ (∀ m, m ≤ 8 → p.1 m = 0) ∧ (¬ p.2.2 = 0 → (∀ n m, n ≤ 9 → m ≤ 8 → p.1 (n * 9 + m) = lN (BV (wN W) m n)) ∧ ∀ m, m ≤ 8 → p.2.1 m = lN (allN (wN W) ^ m))
theorem plOK.forget {W W2 : Nat → Int32} {p : PlanS} (h : plOK W p) : plOK W2 (p.1, p.2.1, 0) := ⟨h.1, h.2.1, fun z => absurd rfl z⟩
theorem plOK.learn {W : Nat → Int32} {p : PlanS} (hW : wOK W) (h : plOK W p) : plOK W (learnF W p) ∧ (∀ n m, n ≤ 9 → m ≤ 8 → (learnF W p).1 (n * 9 + m) = lN (BV (wN W) m n)) ∧ ∀ m, m ≤ 8 → (learnF W p).2.1 m = lN (allN (wN W) ^ m) := by
  unfold learnF
  split
  · obtain ⟨a, b, c⟩ := lnM_ok (C := p.2.1) hW h.1 h.2.1 8 (Nat.le_refl _)
    refine ⟨⟨fun n hn => ?_, c, fun _ => ⟨a, b⟩⟩, a, b⟩
    have := a n 0 hn (by omega)
    rw [BV] at this
    exact this
  · next hz => exact ⟨h, h.2.2 hz⟩
