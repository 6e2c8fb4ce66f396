/-! LEAST, habits, WATCH: class and model by numbers -/
def cndN (w : Nat → Nat) (p q x : Nat) : Prop := BV w q (p + 1) ≤ x * allN w ^ q + BV w q p
theorem cnd9 (w : Nat → Nat) (p q : Nat) : cndN w p q 9 := by
  have := BV_step w q p
  unfold cndN
  omega
theorem cnd_mono {w : Nat → Nat} {p q x y : Nat} (h : cndN w p q x) (hxy : x ≤ y) : cndN w p q y := by
  have := Nat.mul_le_mul_right (allN w ^ q) hxy
  unfold cndN at h ⊢
  omega
def tabC (w : Nat → Nat) (V C : Nat → Int64) : Prop := (∀ n m, n ≤ 9 → m ≤ 8 → V (n * 9 + m) = lN (BV w m n)) ∧ ∀ m, m ≤ 8 → C m = lN (allN w ^ m)
def tabM (w : Nat → Nat) (V : Nat → Int64) : Prop := ∀ n m, n ≤ 9 → m ≤ 8 → V (11 * n + m) = lN (BV w m n)
section Hab
variable {w : Nat → Nat} {V C U : Nat → Int64} {all : Int64}
theorem le_lN {p q x : Nat} (ha : allN w ≤ 81) (hq : q < 8) (hx : x ≤ 9) : (lN (BV w q (p + 1)) ≤ lN x * lN (allN w ^ q) + lN (BV w q p)) ↔ cndN w p q x := by
  have b1 := BV_lt ha (m := q) (n := p + 1) (by omega)
  have b2 := BV_lt ha (m := q) (n := p) (by omega)
  have b3 := pow81 ha (m := q) (by omega)
  have b4 : x * allN w ^ q ≤ 9 * 1853020188851841 := Nat.mul_le_mul hx b3
  rw [lN_mul, lN_add, pk_lLE (by omega) (by omega)]
  exact Iff.rfl
theorem its_cnd (hT : tabC w V C) (ha : allN w ≤ 81) {p q x : Nat} (hp9 : p < 9) (hq : q < 8) (hx : x ≤ 9) : itsB V C (p + 1) (q + 1) (nI x) = true ↔ cndN w p q x := by
  unfold itsB vsF
  rw [decide_eq_true_eq, Nat.add_sub_cancel, Nat.add_sub_cancel, hT.1 (p + 1) q (by omega) (by omega), hT.1 p q (by omega) (by omega), hT.2 q (by omega), nI_lN (by omega)]
  exact le_lN ha hq hx
theorem lo_cnd (hU : tabM w U) (ha : allN w ≤ 81) {p q x : Nat} (hp9 : p < 9) (hq : q < 8) (hx : x ≤ 9) : U (11 * (p + 1) + q) ≤ (nI x).toInt64 * pwL (lN (allN w)) q + U (11 * p + q) ↔ cndN w p q x := by
  rw [hU (p + 1) q (by omega) (by omega), hU p q (by omega) (by omega), nI_lN (by omega), pwL_lN]
  exact le_lN ha hq hx
theorem least_eq (hT : tabC w V C) (hU : tabM w U) (ha : allN w ≤ 81) {p q : Nat} (hp9 : p < 9) (hq : q < 8) : ∀ k x : Nat, x + k = 9 → ltR V C (p + 1) (q + 1) k x = loR U (pwL (lN (allN w)) q) (11 * p + q) (11 * (p + 1) + q) (k + 1) x
  | 0, x, h => by
    obtain rfl : x = 9 := by omega
    rw [ltR, loR, if_pos ((lo_cnd hU ha hp9 hq (Nat.le_refl _)).mpr (cnd9 w p q))]
  | k + 1, x, h => by
    rw [ltR, loR]
    by_cases hc : cndN w p q x
    · rw [if_pos ((its_cnd hT ha hp9 hq (by omega)).mpr hc), if_pos ((lo_cnd hU ha hp9 hq (by omega)).mpr hc)]
    · rw [if_neg (fun z => hc ((its_cnd hT ha hp9 hq (by omega)).mp z)), if_neg (fun z => hc ((lo_cnd hU ha hp9 hq (by omega)).mp z)), least_eq hT hU ha hp9 hq k (x + 1) (by omega)]
theorem lo_spec (hU : tabM w U) (ha : allN w ≤ 81) {p q : Nat} (hp9 : p < 9) (hq : q < 8) : ∀ k x : Nat, x + k = 9 → ∃ l, loR U (pwL (lN (allN w)) q) (11 * p + q) (11 * (p + 1) + q) (k + 1) x = nI l ∧ x ≤ l ∧ l ≤ 9 ∧ cndN w p q l ∧ ∀ z, x ≤ z → z < l → ¬ cndN w p q z
  | 0, x, h => by
    obtain rfl : x = 9 := by omega
    rw [loR, if_pos ((lo_cnd hU ha hp9 hq (Nat.le_refl _)).mpr (cnd9 w p q))]
    exact ⟨9, rfl, Nat.le_refl _, Nat.le_refl _, cnd9 w p q, fun z h1 h2 => by omega⟩
  | k + 1, x, h => by
    rw [loR]
    by_cases hc : cndN w p q x
    · rw [if_pos ((lo_cnd hU ha hp9 hq (by omega)).mpr hc)]
      exact ⟨x, rfl, Nat.le_refl _, by omega, hc, fun z h1 h2 => by omega⟩
    · rw [if_neg (fun z => hc ((lo_cnd hU ha hp9 hq (by omega)).mp z))]
      obtain ⟨l, h1, h2, h3, h4, h5⟩ := lo_spec hU ha hp9 hq k (x + 1) (by omega)
      refine ⟨l, h1, by omega, h3, h4, fun z hz1 hz2 => ?_⟩
      by_cases e : z = x
      · subst e; exact hc
      · exact h5 z (by omega) hz2
/-- by the habit h he signs -/
def sgB (V C : Nat → Int64) (n q x h : Nat) : Bool := if n = 0 then false else if h < 10 then decide (h ≤ x) else if h = 10 then itsB V C n q (nI x) else decide (q ≤ n ∨ 5 ≤ x)
theorem ds_sg (hT : tabC w V C) (hU : tabM w U) (ha : allN w ≤ 81) {n q x h : Nat} (hn : n ≤ 9) (hq1 : 1 ≤ q) (hq : q ≤ 8) (hx1 : 1 ≤ x) (hx : x ≤ 9) : dsB U (lN (allN w)) h n q x = sgB V C n q x h := by
  unfold dsB sgB
  cases n with
  | zero => rw [if_pos rfl, if_pos rfl]
  | succ p =>
    obtain ⟨r, rfl⟩ : ∃ r, q = r + 1 := ⟨q - 1, by omega⟩
    rw [if_neg (Nat.succ_ne_zero p), if_neg (Nat.succ_ne_zero p), Nat.add_sub_cancel, Nat.add_sub_cancel]
    split
    · rfl
    · split
      · obtain ⟨l, h1, h2, h3, h4, h5⟩ := lo_spec hU ha (p := p) (q := r) (by omega) (by omega) 8 1 rfl
        have hi := its_cnd hT ha (p := p) (q := r) (x := x) (by omega) (by omega) hx
        rw [h1]
        cases hb : itsB V C (p + 1) (r + 1) (nI x) with
        | true =>
          refine decide_eq_true ((nIle (by omega) (by omega)).mpr ?_)
          by_cases hlx : l ≤ x
          · exact hlx
          · exact absurd (hi.mp hb) (h5 x hx1 (by omega))
        | false =>
          refine decide_eq_false (fun z => ?_)
          have := (nIle (by omega) (by omega)).mp z
          have := hi.mpr (cnd_mono h4 this)
          rw [hb] at this
          cases this
      · rfl
theorem sh_tab : ∀ x, x < 10 → 1 ≤ x → ∀ a b : Bool, ((1 : Int32) <<< (nI (x + 1) &&& 31) - 1) ||| (if a then 1024 else 0) ||| (if b then 2048 else 0) = orB (fun h => if h < 10 then decide (h ≤ x) else if h = 10 then a else b) 12 := by decide +kernel
theorem sh_orB {n q x : Nat} (hx1 : 1 ≤ x) (hx : x ≤ 9) : shF V C n q x = orB (sgB V C n q x) 12 := by
  unfold shF
  by_cases h0 : n = 0
  · rw [if_pos h0, orB_cong12 (e := fun _ => false) (fun p hp2 => by rw [sgB, if_pos h0])]
    decide
  · rw [if_neg h0, orB_cong12 (e := fun h => if h < 10 then decide (h ≤ x) else if h = 10 then itsB V C n q (nI x) else decide (q ≤ n ∨ 5 ≤ x)) (fun p hp2 => by rw [sgB, if_neg h0]), ← sh_tab x (by omega) hx1]
    congr 1
    by_cases h5 : q ≤ n ∨ 5 ≤ x
    · rw [if_pos h5, decide_eq_true h5]; rfl
    · rw [if_neg h5, decide_eq_false h5]; rfl
def alC (V C : Nat → Int64) (O : Nat → Nat) (Z : Nat → Int32) : Nat → Nat → Bool
  | 0, _ => true
  | i + 1, h => alC V C O Z i h && (sgB V C (O i / 100) (O i / 10 % 10) (O i % 10) h == decide (¬ Z i = 0))
theorem fh_orB {O : Nat → Nat} {Z : Nat → Int32} : ∀ s : Nat, (∀ i, i < s → offOK (O i)) → fhR V C O Z s = orB (alC V C O Z s) 12
  | 0, _ => by rw [fhR, orB_cong12 (e := fun _ => true) (fun p hp2 => by rw [alC])]; decide
  | s + 1, h => by
    have ho := h s (by omega)
    have e10 : O s % 10 < 10 := Nat.mod_lt _ (by decide)
    rw [fhR, fh_orB s (fun i hi => h i (by omega)), sh_orB ho.2.2.2 (by omega)]
    by_cases hz : Z s = 0
    · rw [if_pos hz, orB_andnot]
      refine orB_cong12 (fun p hp2 => ?_)
      rw [alC, decide_eq_false (fun z => z hz)]
      cases sgB V C (O s / 100) (O s / 10 % 10) (O s % 10) p <;> rfl
    · rw [if_neg hz, orB_and]
      refine orB_cong12 (fun p hp2 => ?_)
      rw [alC, decide_eq_true hz]
      cases sgB V C (O s / 100) (O s / 10 % 10) (O s % 10) p <;> rfl
theorem al_eq (hT : tabC w V C) (hU : tabM w U) (ha : allN w ≤ 81) {O : Nat → Nat} {Z Sg : Nat → Int32} {h : Nat} : ∀ s : Nat, (∀ i, i < s → offOK (O i) ∧ Sg (4 * i + 3) = Z i ∧ (Z i = 0 ∨ Z i = 1)) → alR U (lN (allN w)) O Sg h s = alC V C O Z s h
  | 0, _ => by rw [alR, alC]
  | s + 1, hi => by
    obtain ⟨ho, h1, h2⟩ := hi s (by omega)
    rw [alR, alC, al_eq hT hU ha s (fun i h9 => hi i (by omega)), ds_sg hT hU ha ho.1 ho.2.1 ho.2.2.1 ho.2.2.2 (by have : O s % 10 < 10 := Nat.mod_lt _ (by decide); omega), h1]
    have e : decide (Z s = 1) = decide (¬ Z s = 0) := by
      rcases h2 with e | e <;> rw [e] <;> decide
    rw [e]
/-- SIGNS of both -/
theorem signs_eq (hT : tabC w V C) (hU : tabM w U) (ha : allN w ≤ 81) {O : Nat → Nat} {Z Sg : Nat → Int32} {s : Nat} (hi : ∀ i, i < s → offOK (O i) ∧ Sg (4 * i + 3) = Z i ∧ (Z i = 0 ∨ Z i = 1)) : fhR V C O Z s = orB (fun h => alR U (lN (allN w)) O Sg h s) 12 := by
  rw [fh_orB s (fun i h9 => (hi i h9).1)]
  exact orB_cong12 (fun p hp2 => (al_eq hT hU ha s hi).symm)
/-! WATCH -/
theorem mx_le (a b : Nat) (ha : a ≤ 12) (hb : b ≤ 12) : mxI (nI a) (nI b) = if nI a ≤ nI b then nI b else nI a := by
  unfold mxI
  by_cases h : a ≤ b
  · rw [if_pos ((nIle (by omega) (by omega)).mpr h)]
    by_cases h2 : a < b
    · rw [if_pos ((nIlt (by omega) (by omega)).mpr h2)]
    · obtain rfl : a = b := by omega
      split <;> rfl
  · rw [if_neg (fun z => h ((nIle (by omega) (by omega)).mp z)), if_neg (fun z => h (by have := (nIlt (by omega) (by omega)).mp z; omega))]
theorem ow_ct {c f : Nat → Bool} {n q x : Nat} {S : Nat} (hS : nI S = orB c 12) (hf : ∀ h, h < 12 → dsB U all h n q x = f h) : ∀ k : Nat, k ≤ 12 → owR U all S n q x k = nI (ctN (fun h => c h && f h) k)
  | 0, _ => by rw [owR, ctN]; rfl
  | k + 1, hk => by
    rw [owR, ctN, ow_ct hS hf k (by omega), hS, hb_orB c (by omega), hf k (by omega)]
    cases c k && f k
    · rw [if_neg (by decide), if_neg (by decide), Int32.add_zero, Nat.add_zero]
    · rw [if_pos rfl, if_pos rfl, nI_1]
/-- the worst of an offer, alike; 12 at most -/
theorem worst_eq (hT : tabC w V C) (hU : tabM w U) (ha : allN w ≤ 81) {c : Nat → Bool} {n q x S : Nat} (hS : nI S = orB c 12) (hS2 : S < 4096) (hn : n ≤ 9) (hq1 : 1 ≤ q) (hq : q ≤ 8) (hx1 : 1 ≤ x) (hx : x ≤ 9) :
    ∃ v, v ≤ 12 ∧ lfF V C (orB c 12) n q x = nI v ∧ woF U (lN (allN w)) S n q x = nI v := by
  have e1 := ow_ct (U := U) (all := lN (allN w)) (f := sgB V C n q x) (n := n) (q := q) (x := x) hS (fun h _ => ds_sg hT hU ha hn hq1 hq hx1 hx) 12 (Nat.le_refl _)
  have e2 : pcN S = ctN c 12 := by
    have := orB_bn c 12 (Nat.le_refl _)
    have h2 : S = bnN c 12 := (nI_eq (by omega) (by have := bn_4096 c; omega)).mp (hS.trans this.1)
    rw [h2, this.2]
  have e3 := ct_split c (sgB V C n q x) 12
  have l1 := ct_le (fun h => c h && sgB V C n q x h) 12
  have l2 := ct_le (fun h => c h && !(sgB V C n q x h)) 12
  unfold lfF woF
  rw [sh_orB hx1 hx, orB_and, orB_andnot, bc_orB, bc_orB, e1, e2]
  generalize ctN (fun h => c h && sgB V C n q x h) 12 = a at *
  generalize ctN (fun h => c h && !(sgB V C n q x h)) 12 = b at *
  rw [e3, pk_sub (by omega), show a + b - a = b by omega, mx_le a b l1 l2]
  split
  · exact ⟨b, l2, rfl, rfl⟩
  · exact ⟨a, l1, rfl, rfl⟩
def simW (x y : Int32 × Int32) : Prop := (x = (-6, 13) ∧ y = (-6, 1000000)) ∨ (x = y ∧ (0 : Int32) ≤ x.1)
def goodW (x y : Int32 × Int32) : Prop := x = y ∧ (0 : Int32) ≤ x.1
theorem wa_step (hT : tabC w V C) (hU : tabM w U) (ha : allN w ≤ 81) {c : Nat → Bool} {S : Nat} (hS : nI S = orB c 12) (hS2 : S < 4096) {n q x : Nat} (hn : n ≤ 9) (hq1 : 1 ≤ q) (hq : q ≤ 8) (hx1 : 1 ≤ x) (hx : x ≤ 9) {r : Int32 × Int32}
    (h : simW r (waR U (lN (allN w)) S (100 * n + 10 * q + x))) : goodW (bwS V C (orB c 12) n q x r) (waR U (lN (allN w)) S (100 * n + 10 * q + x + 1)) := by
  obtain ⟨v, h1, h2, h3⟩ := worst_eq hT hU ha hS hS2 hn hq1 hq hx1 hx
  have d1 : (100 * n + 10 * q + x) / 10 % 10 = q := by omega
  have d2 : (100 * n + 10 * q + x) % 10 = x := by omega
  have d3 : (100 * n + 10 * q + x) / 100 = n := by omega
  have nn : (0 : Int32) ≤ nI (100 * n + 10 * q + x) := nI_nn (by omega)
  rw [waR, d1, d2, d3, if_pos ⟨hq1, hq, by omega⟩, h3]
  unfold bwS
  rw [h2]
  rcases h with ⟨ex, ey⟩ | ⟨ex, hp0⟩
  · rw [ex, ey]
    have g1 : ¬ (13 : Int32) ≤ nI v := nI_ge (a := v) (b := 13) (by omega) (by decide)
    have g2 : ¬ (1000000 : Int32) ≤ nI v := nI_ge (a := v) (b := 1000000) (by omega) (by decide)
    rw [if_neg g1, if_neg g2]
    exact ⟨rfl, nn⟩
  · rw [← ex]
    split
    · exact ⟨rfl, hp0⟩
    · exact ⟨rfl, nn⟩
theorem wa_skip {S c : Nat} (h : ¬ (1 ≤ c / 10 % 10 ∧ c / 10 % 10 ≤ 8 ∧ 0 < c % 10)) : waR U all S (c + 1) = waR U all S c := by rw [waR, if_neg h]
theorem wa_3 (hT : tabC w V C) (hU : tabM w U) (ha : allN w ≤ 81) {c : Nat → Bool} {S : Nat} (hS : nI S = orB c 12) (hS2 : S < 4096) {n q : Nat} (hn : n ≤ 9) (hq1 : 1 ≤ q) (hq : q ≤ 8) {r : Int32 × Int32} (h : simW r (waR U (lN (allN w)) S (100 * n + 10 * q))) :
    ∀ x : Nat, x < 9 → goodW (bw3 V C (orB c 12) n q r (x + 1)) (waR U (lN (allN w)) S (100 * n + 10 * q + x + 2))
  | 0, _ => by
    rw [bw3, bw3]
    refine wa_step hT hU ha hS hS2 hn hq1 hq (Nat.le_refl 1) (by omega) ?_
    rw [wa_skip (by omega)]
    exact h
  | x + 1, hx => by
    rw [bw3]
    exact wa_step hT hU ha hS hS2 hn hq1 hq (x := x + 1 + 1) (by omega) (by omega) (Or.inr (wa_3 hT hU ha hS hS2 hn hq1 hq h x (by omega)))
theorem wa_skips {S c : Nat} : ∀ k : Nat, (∀ j, j < k → ¬ (1 ≤ (c + j) / 10 % 10 ∧ (c + j) / 10 % 10 ≤ 8 ∧ 0 < (c + j) % 10)) → waR U all S (c + k) = waR U all S c
  | 0, _ => rfl
  | k + 1, h => by rw [← Nat.add_assoc, wa_skip (h k (by omega)), wa_skips k (fun j hj => h j (by omega))]
theorem wa_2 (hT : tabC w V C) (hU : tabM w U) (ha : allN w ≤ 81) {c : Nat → Bool} {S : Nat} (hS : nI S = orB c 12) (hS2 : S < 4096) {n : Nat} (hn : n ≤ 9) {r : Int32 × Int32} (h : simW r (waR U (lN (allN w)) S (100 * n))) :
    ∀ q : Nat, q < 8 → goodW (bw2 V C (orB c 12) n r (q + 1)) (waR U (lN (allN w)) S (100 * n + 10 * (q + 2)))
  | 0, _ => by
    rw [bw2, bw2]
    refine wa_3 hT hU ha hS hS2 hn (Nat.le_refl 1) (by omega) ?_ 8 (by omega)
    rw [show 100 * n + 10 * (0 + 1) = 100 * n + 10 from rfl, wa_skips 10 (fun j hj => by omega)]
    exact h
  | q + 1, hq => by
    rw [bw2]
    exact wa_3 hT hU ha hS hS2 hn (q := q + 1 + 1) (by omega) (by omega) (Or.inr (wa_2 hT hU ha hS hS2 hn h q (by omega))) 8 (by omega)
theorem wa_1 (hT : tabC w V C) (hU : tabM w U) (ha : allN w ≤ 81) {c : Nat → Bool} {S : Nat} (hS : nI S = orB c 12) (hS2 : S < 4096) : ∀ n : Nat, n ≤ 9 → goodW (bw1 V C (orB c 12) (n + 1)) (waR U (lN (allN w)) S (100 * (n + 1)))
  | 0, _ => by
    rw [bw1, bw1, show 100 * (0 + 1) = 90 + 10 from rfl, wa_skips 10 (fun j hj => by omega)]
    refine wa_2 hT hU ha hS hS2 (n := 0) (by omega) (Or.inl ⟨rfl, ?_⟩) 7 (by omega)
    rw [show 100 * 0 = 0 from rfl, waR]
  | n + 1, hn => by
    rw [bw1, show 100 * (n + 1 + 1) = 100 * (n + 1) + 90 + 10 from by omega, wa_skips 10 (fun j hj => by omega)]
    exact wa_2 hT hU ha hS hS2 (n := n + 1) hn (Or.inr (wa_1 hT hU ha hS hS2 n (by omega))) 7 (by omega)
end Hab
