theorem wsR_cong {th s : Nat} {Sl Wy Sl2 Wy2 T Ft : Nat → Int32} (h : ∀ p, p < 6 → leftB th s p = true → Sl (s ||| 2 ^ p) = Sl2 (s ||| 2 ^ p) ∧ Wy (s ||| 2 ^ p) = Wy2 (s ||| 2 ^ p)) (m : Nat) : m ≤ 6 → wsR th Sl Wy T Ft s m = wsR th Sl2 Wy2 T Ft s m := by
  induction m with
  | zero => intro _; rw [wsR, wsR]
  | succ m ih =>
    intro hm
    have ih2 := ih (by omega)
    rw [wsR, wsR, ih2]
    cases hl : leftB th s m with
    | false => rw [if_neg (by decide), if_neg (by decide)]
    | true =>
      obtain ⟨e1, e2⟩ := h m (by omega) hl
      have es : slW Sl T Ft s m = slW Sl2 T Ft s m := by rw [slW, slW, e1]
      rw [es, e2]
theorem or_gt : ∀ s, s < 64 → ∀ p, p < 6 → tb s p = false → s < s ||| 2 ^ p := by decide +kernel
theorem sub_lt : ∀ th, th < 64 → ∀ s, s < 64 → s &&& (63 ^^^ th) = 0 → ¬ s = th → s < th := by decide +kernel
theorem wg_tab {th : Nat} {T Ft : Nat → Int32} : ∀ (k : Nat) (Sl Wy : Nat → Int32), k ≤ 64 →
    (∀ s, k ≤ s → (wgR th T Ft Sl Wy k).1 s = Sl s ∧ (wgR th T Ft Sl Wy k).2 s = Wy s) ∧
    (∀ s, s < k → s &&& (63 ^^^ th) = 0 → (wgR th T Ft Sl Wy k).1 s = (wsR th (wgR th T Ft Sl Wy k).1 (wgR th T Ft Sl Wy k).2 T Ft s 6).1 ∧ (wgR th T Ft Sl Wy k).2 s = (wsR th (wgR th T Ft Sl Wy k).1 (wgR th T Ft Sl Wy k).2 T Ft s 6).2)
  | 0, Sl, Wy, _ => ⟨fun s _ => ⟨rfl, rfl⟩, fun s h => by omega⟩
  | k + 1, Sl, Wy, hk => by
    rw [wgR]
    by_cases hs : k &&& (63 ^^^ th) = 0
    · rw [if_pos hs]
      obtain ⟨i1, i2⟩ := wg_tab (th := th) (T := T) (Ft := Ft) k (upd Sl k (wsR th Sl Wy T Ft k 6).1) (upd Wy k (wsR th Sl Wy T Ft k 6).2) (by omega)
      generalize wgR th T Ft (upd Sl k (wsR th Sl Wy T Ft k 6).1) (upd Wy k (wsR th Sl Wy T Ft k 6).2) k = R at i1 i2 ⊢
      refine ⟨fun s h => ?_, fun s h hsub => ?_⟩
      · obtain ⟨a, b⟩ := i1 s (by omega)
        rw [a, b, upd_n _ _ (by omega), upd_n _ _ (by omega)]
        exact ⟨rfl, rfl⟩
      · by_cases h2 : s < k
        · exact i2 s h2 hsub
        · obtain rfl : s = k := by omega
          obtain ⟨a, b⟩ := i1 s (by omega)
          rw [a, b, upd_s, upd_s]
          have e : wsR th Sl Wy T Ft s 6 = wsR th R.1 R.2 T Ft s 6 := by
            refine wsR_cong (fun p hp6 hl => ?_) 6 (Nat.le_refl 6)
            have hgt := or_gt s (by omega) p hp6 (left_tb hl)
            obtain ⟨a2, b2⟩ := i1 (s ||| 2 ^ p) (by omega)
            rw [a2, b2, upd_n _ _ (by omega), upd_n _ _ (by omega)]
            exact ⟨rfl, rfl⟩
          rw [e]
          exact ⟨rfl, rfl⟩
    · rw [if_neg hs]
      obtain ⟨i1, i2⟩ := wg_tab (th := th) (T := T) (Ft := Ft) k Sl Wy (by omega)
      refine ⟨fun s h => i1 s (by omega), fun s h hsub => ?_⟩
      by_cases h2 : s < k
      · exact i2 s h2 hsub
      · obtain rfl : s = k := by omega
        exact absurd hsub hs
theorem weigh_tab {th : Nat} {Ft : Nat → Int32} {z : Int32} {M : MatS} (ht : th < 64) : tabOK th (weighF th Ft z M).1 (weighF th Ft z M).2.1 (weighF th Ft z M).2.2 Ft := by
  obtain ⟨i1, i2⟩ := wg_tab (th := th) (T := tdR M.2.2 z (pcN th)) (Ft := Ft) th (upd M.1 th 0) (upd M.2.1 th 1) (by omega)
  refine ⟨?_, ?_, ?_⟩
  · have := (i1 th (Nat.le_refl _)).1
    rw [upd_s] at this
    exact this
  · have := (i1 th (Nat.le_refl _)).2
    rw [upd_s] at this
    exact this
  · intro S hS hsub hne
    exact i2 S (sub_lt th ht S hS hsub hne) hsub
/-! digits of a number of tails -/
theorem td_ge : ∀ (k : Nat) (T : Nat → Int32) (z : Int32) (i : Nat), k ≤ i → tdR T z k i = T i
  | 0, T, z, i, h => by rw [tdR]
  | k + 1, T, z, i, h => by rw [tdR, td_ge k _ _ i (by omega), upd_n _ _ (by omega)]
theorem td_at : ∀ (k : Nat) (T : Nat → Int32) (Z i r : Nat), Z < 2 ^ 31 → i + r + 1 = k → tdR T (nI Z) k i = nI (Z / 10 ^ r % 10)
  | 0, T, Z, i, r, hZ, h => by omega
  | k + 1, T, Z, i, r, hZ, h => by
    have e1 : rmI (nI Z) 10 = nI (Z % 10) := pk_rem (d := 10) hZ (by decide) (by decide)
    have e2 : nI Z / 10 = nI (Z / 10) := pk_div (d := 10) hZ (by decide) (by decide)
    rw [tdR, e1, e2]
    cases r with
    | zero =>
      obtain rfl : i = k := by omega
      rw [td_ge i _ _ i (by omega), upd_s, Nat.pow_zero, Nat.div_one]
    | succ r =>
      rw [td_at k _ (Z / 10) i r (by omega) (by omega), Nat.div_div_eq_div_mul, ← Nat.pow_succ']
theorem dv_at : ∀ (k Z : Nat), Z < 2 ^ 31 → dvR (nI Z) k = nI (Z / 10 ^ k)
  | 0, Z, hZ => by rw [dvR, Nat.pow_zero, Nat.div_one]
  | k + 1, Z, hZ => by
    have e2 : nI Z / 10 = nI (Z / 10) := pk_div (d := 10) hZ (by decide) (by decide)
    rw [dvR, e2, dv_at k (Z / 10) (by omega), Nat.div_div_eq_div_mul, ← Nat.pow_succ']
def dfN (x y : Nat) : Nat := if x ≤ y then y - x else x - y
theorem dfN_le : ∀ x, x < 10 → ∀ y, y < 10 → dfN x y ≤ 9 := by decide +kernel
theorem ad10 : ∀ x, x < 10 → ∀ y, y < 10 → adI (nI x) (nI y) = nI (dfN x y) ∧ abI (nI x - nI y) = nI (dfN x y) := by decide +kernel
theorem match_eq {th Z : Nat} {Ft zta zac zwr : Nat → Int32} {M : MatS} (ht : th < 64) (hZ : Z < 2 ^ 31) (hft : ∀ p, p < 6 → tb th p = true → ∃ x, x < 10 ∧ Ft p = nI x ∧ zta p = nI x) :
    (weighF th Ft (nI Z) M).1 0 = (lmR th (pcN th) (tdR zac (nI Z) (pcN th)) zta zwr 46656).1 ∧ (weighF th Ft (nI Z) M).2.1 0 = (lmR th (pcN th) (tdR zac (nI Z) (pcN th)) zta zwr 46656).2.1 ∧
    ∀ a, a < pcN th → oN (woR th (weighF th Ft (nI Z) M).1 (weighF th Ft (nI Z) M).2.2 Ft a 0) = (lmR th (pcN th) (tdR zac (nI Z) (pcN th)) zta zwr 46656).2.2 a := by
  have hn := pc_le th ht
  have key : ∃ c : Nat → Nat → Nat, (∀ i p, c i p ≤ 9) ∧ ∀ (T : Nat → Int32) (i p : Nat), i < pcN th → p < 6 → tb th p = true → adI (tdR T (nI Z) (pcN th) i) (zta p) = nI (c i p) ∧ abI (tdR T (nI Z) (pcN th) i - Ft p) = nI (c i p) := by
    refine ⟨fun i p => dfN (Z / 10 ^ (pcN th - 1 - i) % 10) ((Ft p).toInt.toNat % 10), fun i p => dfN_le _ (Nat.mod_lt _ (by decide)) _ (Nat.mod_lt _ (by decide)), fun T i p hi hp6 hl => ?_⟩
    obtain ⟨x, hx, e1, e2⟩ := hft p hp6 hl
    have ex : (Ft p).toInt.toNat % 10 = x := by
      rw [e1, nI_toInt (by omega), Int.toNat_natCast]
      omega
    show adI _ _ = nI (dfN _ ((Ft p).toInt.toNat % 10)) ∧ abI _ = nI (dfN _ ((Ft p).toInt.toNat % 10))
    rw [ex, td_at (pcN th) T Z i (pcN th - 1 - i) hZ (by omega), e1, e2]
    exact ad10 _ (Nat.mod_lt _ (by decide)) x hx
  obtain ⟨c, h9, hc⟩ := key
  have hT := weigh_tab (Ft := Ft) (z := nI Z) (M := M) ht
  have hcT : ∀ i p, i < pcN th → p < 6 → tb th p = true → abI ((weighF th Ft (nI Z) M).2.2 i - Ft p) = nI (c i p) := fun i p hi hp6 hl => (hc M.2.2 i p hi hp6 hl).2
  obtain ⟨e, he, e1, e2, e3, e4⟩ := dO_ok ht h9 hcT hT 6 0 0 0 rfl (Nat.zero_le _) (by decide) (by simp) rfl
  obtain ⟨m1, m2, m3, m4⟩ := lmR_mf (wr := zwr) (fun i p hi hp6 hl => (hc zac i p hi hp6 hl).1) h9 46656 (Nat.le_refl _)
  have hcm : mfN th (pcN th) c 46656 = e := by
    rw [mf_all, he]
    show cmb (1000000, 0, 0) (0 + e.1, e.2) = e
    unfold cmb
    rw [if_neg (by show ¬ 1000000 ≤ 0 + e.1; omega), Nat.zero_add]
  rw [hcm] at m1 m2 m4
  refine ⟨e1.trans m1.symm, e2.trans m2.symm, fun a ha => ?_⟩
  obtain ⟨w, hw⟩ := m4 (by omega)
  rw [hw]
  have hwo := wo_ok ht h9 hcT hT a (5 - a) 0 0 0 e (by omega) (by omega) (by decide) (by simp) rfl (by rw [show 5 - a + a + 1 = 6 by omega]; exact he)
  rw [hwo, wdR_at 6 e.2.2 w a (5 - a) (by omega)]
  rfl
theorem pw10 : ∀ k, k < 7 → (pwL (10 : Int32).toInt64 k).toInt = ((10 ^ k : Nat) : Int) := by decide +kernel
theorem tails_eq {th : Nat} {z : Int32} (ht : th < 64) : tailsB th z = laB th z := by
  unfold tailsB laB
  by_cases h : 0 ≤ z
  · obtain ⟨Z, hZ, rfl⟩ := nI_of (x := z) (Int32.not_lt.mpr h)
    have hn := pc_le th ht
    rw [decide_eq_true h, Bool.true_and, Bool.true_and, dv_at _ _ hZ, decide_eq_decide, Int64.lt_iff_toInt_lt, Int32.toInt_toInt64, nI_toInt hZ, pw10 _ (by omega)]
    have hp10 : 0 < 10 ^ pcN th := Nat.pow_pos (by decide)
    constructor
    · intro h1
      rw [Nat.div_eq_of_lt (by omega)]
      rfl
    · intro h1
      have h2 : Z / 10 ^ pcN th = 0 := by
        have h3 : Z / 10 ^ pcN th ≤ Z := Nat.div_le_self _ _
        exact (nI_eq (b := 0) (by omega) (by decide)).mp h1
      have h4 : Z < 10 ^ pcN th := by
        rcases Nat.div_eq_zero_iff.mp h2 with h5 | h5
        · omega
        · exact h5
      omega
  · rw [decide_eq_false h, Bool.false_and, Bool.false_and]
