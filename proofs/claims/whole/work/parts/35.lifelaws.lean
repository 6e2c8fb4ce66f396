/-! pure laws of LIVES: the class's folk F and the model's row nw of 61 numbers -/
def FR (th : Nat) (F : FolkS) (nw : Nat → Int32) : Prop :=
  F.1 = nI th ∧ (∀ p, p < 6 → tb th p = true → nw p = fs_ F p ∧ nw (6 + p) = fw F p ∧ nw (12 + p) = fg F p) ∧ (∀ a, a < 6 → ∀ b, b < 6 → nw (20 + 6 * a + b) = fd F (a * 6 + b)) ∧ nw 60 = F.2.1
def FI (th : Nat) (F : FolkS) : Prop :=
  (∀ p, p < 6 → tb th p = true → 0 ≤ (fs_ F p).toInt ∧ (fs_ F p).toInt ≤ 400) ∧ (∀ p, p < 6 → 0 ≤ (fw F p).toInt ∧ (fw F p).toInt ≤ 9999) ∧ (0 ≤ F.2.1.toInt ∧ F.2.1.toInt ≤ 99) ∧ (∀ p, p < 6 → tb th p = false → fw F p = 0 ∧ fg F p = 0) ∧ (∀ p, p < 6 → tb th p = true → 0 ≤ (ft F p).toInt ∧ (ft F p).toInt ≤ 9)
theorem upd_s (f : Nat → Int32) (k : Nat) (v : Int32) : upd f k v k = v := pk_us
theorem upd_n (f : Nat → Int32) {k j : Nat} (v : Int32) (h : j ≠ k) : upd f k v j = f j := pk_un h
theorem upd_id (f : Nat → Int32) (k : Nat) : upd f k (f k) = f := by
  funext j
  by_cases h : j = k
  · subst h
    exact upd_s f j _
  · exact upd_n f _ h
theorem FR.sh {th k : Nat} {F : FolkS} {nw : Nat → Int32} {v : Int32} (h : FR th F nw) (hk : k < 6) : FR th (fSh F (upd (fs_ F) k v)) (upd nw k v) := by
  refine ⟨h.1, fun p hp ht => ?_, fun a ha b hb => ?_, ?_⟩
  · obtain ⟨h1, h2, h3⟩ := h.2.1 p hp ht
    refine ⟨?_, ?_, ?_⟩
    · by_cases e : p = k
      · subst e
        rw [upd_s]
        exact (upd_s _ _ _).symm
      · rw [upd_n _ _ e, h1]
        exact (upd_n _ _ e).symm
    · rw [upd_n _ _ (by omega)]
      exact h2
    · rw [upd_n _ _ (by omega)]
      exact h3
  · rw [upd_n _ _ (by omega)]
    exact h.2.2.1 a ha b hb
  · rw [upd_n _ _ (by omega)]
    exact h.2.2.2
theorem FR.wo {th k : Nat} {F : FolkS} {nw : Nat → Int32} {v : Int32} (h : FR th F nw) (hk : k < 6) : FR th (fWo F (upd (fw F) k v)) (upd nw (6 + k) v) := by
  refine ⟨h.1, fun p hp ht => ?_, fun a ha b hb => ?_, ?_⟩
  · obtain ⟨h1, h2, h3⟩ := h.2.1 p hp ht
    refine ⟨?_, ?_, ?_⟩
    · rw [upd_n _ _ (by omega)]
      exact h1
    · by_cases e : p = k
      · subst e
        rw [upd_s]
        exact (upd_s _ _ _).symm
      · rw [upd_n _ _ (by omega), h2]
        exact (upd_n _ _ e).symm
    · rw [upd_n _ _ (by omega)]
      exact h3
  · rw [upd_n _ _ (by omega)]
    exact h.2.2.1 a ha b hb
  · rw [upd_n _ _ (by omega)]
    exact h.2.2.2
theorem FR.fo {th k : Nat} {F : FolkS} {nw : Nat → Int32} {v : Int32} (h : FR th F nw) (hk : k < 6) : FR th (fFo F (upd (fg F) k v)) (upd nw (12 + k) v) := by
  refine ⟨h.1, fun p hp ht => ?_, fun a ha b hb => ?_, ?_⟩
  · obtain ⟨h1, h2, h3⟩ := h.2.1 p hp ht
    refine ⟨?_, ?_, ?_⟩
    · rw [upd_n _ _ (by omega)]
      exact h1
    · rw [upd_n _ _ (by omega)]
      exact h2
    · by_cases e : p = k
      · subst e
        rw [upd_s]
        exact (upd_s _ _ _).symm
      · rw [upd_n _ _ (by omega), h3]
        exact (upd_n _ _ e).symm
  · rw [upd_n _ _ (by omega)]
    exact h.2.2.1 a ha b hb
  · rw [upd_n _ _ (by omega)]
    exact h.2.2.2
theorem FR.de {th a b : Nat} {F : FolkS} {nw : Nat → Int32} {v : Int32} (h : FR th F nw) (ha : a < 6) (hb : b < 6) : FR th (fDe F (upd (fd F) (a * 6 + b) v)) (upd nw (20 + 6 * a + b) v) := by
  refine ⟨h.1, fun p hp ht => ?_, fun x hx z hz => ?_, ?_⟩
  · obtain ⟨h1, h2, h3⟩ := h.2.1 p hp ht
    refine ⟨?_, ?_, ?_⟩
    · rw [upd_n _ _ (by omega)]
      exact h1
    · rw [upd_n _ _ (by omega)]
      exact h2
    · rw [upd_n _ _ (by omega)]
      exact h3
  · by_cases e : x * 6 + z = a * 6 + b
    · rw [show 20 + 6 * x + z = 20 + 6 * a + b by omega, upd_s]
      show v = upd (fd F) (a * 6 + b) v (x * 6 + z)
      rw [e, upd_s]
    · rw [upd_n _ _ (by omega)]
      show _ = upd (fd F) (a * 6 + b) v (x * 6 + z)
      rw [upd_n _ _ e]
      exact h.2.2.1 x hx z hz
  · rw [upd_n _ _ (by omega)]
    exact h.2.2.2
theorem FR.yr {th : Nat} {F : FolkS} {nw : Nat → Int32} {v : Int32} (h : FR th F nw) : FR th (fYr F v) (upd nw 60 v) := by
  refine ⟨h.1, fun p hp ht => ?_, fun x hx z hz => ?_, upd_s _ _ _⟩
  · obtain ⟨h1, h2, h3⟩ := h.2.1 p hp ht
    refine ⟨?_, ?_, ?_⟩
    · rw [upd_n _ _ (by omega)]
      exact h1
    · rw [upd_n _ _ (by omega)]
      exact h2
    · rw [upd_n _ _ (by omega)]
      exact h3
  · rw [upd_n _ _ (by omega)]
    exact h.2.2.1 x hx z hz
theorem FR.sheets {th k : Nat} {F : FolkS} {nw : Nat → Int32} (h : FR th F nw) (hk : k < 6) (ht : tb th k = true) : nw k = fs_ F k := (h.2.1 k hk ht).1
theorem FR.worth {th k : Nat} {F : FolkS} {nw : Nat → Int32} (h : FR th F nw) (hk : k < 6) (ht : tb th k = true) : nw (6 + k) = fw F k := (h.2.1 k hk ht).2.1
theorem FR.earn {th k : Nat} {F : FolkS} {nw : Nat → Int32} {g : Int32} (h : FR th F nw) (hk : k < 6) (ht : tb th k = true) : FR th (earnF F k g) (mgain nw k g) := by
  unfold earnF mgain
  rw [h.worth hk ht]
  exact h.wo hk
theorem FR.sign {th k : Nat} {F : FolkS} {nw : Nat → Int32} {g : Int32} (h : FR th F nw) (hk : k < 6) (ht : tb th k = true) : FR th (signF F k g) (mgain (upd nw k (nw k - 1)) k g) := by
  unfold signF
  rw [h.sheets hk ht]
  exact (h.sh hk).earn hk ht
theorem FR.forge {th k : Nat} {F : FolkS} {nw : Nat → Int32} {g : Int32} (h : FR th F nw) (hk : k < 6) (ht : tb th k = true) : FR th (forgeF F k g) (upd (mgain nw k g) (12 + k) (mgain nw k g (12 + k) + 1)) := by
  have h1 := (h.earn (g := g) hk ht)
  have e : mgain nw k g (12 + k) = fg F k := (h1.2.1 k hk ht).2.2
  rw [e]
  exact h1.fo (v := fg F k + 1) hk
theorem FR.take {th k : Nat} {F : FolkS} {nw : Nat → Int32} {n : Int32} (h : FR th F nw) (hk : k < 6) (ht : tb th k = true) : FR th (takeF F k n) (upd nw k (nw k - n)) := by
  unfold takeF
  rw [h.sheets hk ht]
  exact h.sh hk
theorem FR.move {th a b : Nat} {F : FolkS} {nw : Nat → Int32} {n : Int32} (h : FR th F nw) (ha : a < 6) (hb : b < 6) (ta : tb th a = true) (tb2 : tb th b = true) : FR th (moveF F a b n) (mhand nw a b n) := by
  have h1 := h.take (n := n) ha ta
  unfold moveF giveF mhand
  rw [h1.sheets hb tb2]
  exact h1.sh hb
/-! the bounds -/
theorem i_add {x y : Int32} (h1 : -2147483648 ≤ x.toInt + y.toInt) (h2 : x.toInt + y.toInt < 2147483648) : (x + y).toInt = x.toInt + y.toInt := by
  rw [Int32.toInt_add]
  exact Int.bmod_eq_of_le (by omega) (by omega)
theorem i_sub {x y : Int32} (h1 : -2147483648 ≤ x.toInt - y.toInt) (h2 : x.toInt - y.toInt < 2147483648) : (x - y).toInt = x.toInt - y.toInt := by
  rw [Int32.toInt_sub]
  exact Int.bmod_eq_of_le (by omega) (by omega)
theorem mn_rng {b v : Int32} (h0 : 0 ≤ b.toInt) (h : 0 ≤ v.toInt) : 0 ≤ (mnI b v).toInt ∧ (mnI b v).toInt ≤ b.toInt := by
  unfold mnI
  split
  · next q =>
    rw [Int32.lt_iff_toInt_lt] at q
    omega
  · omega
theorem upd_rng {f : Nat → Int32} {k p : Nat} {v : Int32} {lo hi : Int} (h : lo ≤ (f p).toInt ∧ (f p).toInt ≤ hi) (hv : lo ≤ v.toInt ∧ v.toInt ≤ hi) : lo ≤ (upd f k v p).toInt ∧ (upd f k v p).toInt ≤ hi := by
  by_cases e : p = k
  · subst e
    rw [upd_s]
    exact hv
  · rw [upd_n _ _ e]
    exact h
theorem FI.sh {th k : Nat} {F : FolkS} {v : Int32} (h : FI th F) (hv : 0 ≤ v.toInt ∧ v.toInt ≤ 400) : FI th (fSh F (upd (fs_ F) k v)) :=
  ⟨fun p hp ht => upd_rng (h.1 p hp ht) hv, h.2⟩
theorem FI.earn {th k : Nat} {F : FolkS} {g : Int32} (h : FI th F) (hk : k < 6) (ht : tb th k = true) (hg : 0 ≤ g.toInt ∧ g.toInt ≤ 9) : FI th (earnF F k g) := by
  have h9 := h.2.1 k hk
  have e : (fw F k + g).toInt = (fw F k).toInt + g.toInt := i_add (by omega) (by omega)
  refine ⟨h.1, fun p hp => upd_rng (h.2.1 p hp) (mn_rng (by decide) (by omega)), h.2.2.1, fun p hp hf => ?_, h.2.2.2.2⟩
  have hne : p ≠ k := fun q => by rw [q, ht] at hf; cases hf
  refine ⟨?_, (h.2.2.2.1 p hp hf).2⟩
  show upd (fw F) k _ p = 0
  rw [upd_n _ _ hne]
  exact (h.2.2.2.1 p hp hf).1
theorem FI.fo {th k : Nat} {F : FolkS} {v : Int32} (h : FI th F) (ht : tb th k = true) : FI th (fFo F (upd (fg F) k v)) := by
  refine ⟨h.1, h.2.1, h.2.2.1, fun p hp hf => ⟨(h.2.2.2.1 p hp hf).1, ?_⟩, h.2.2.2.2⟩
  have hne : p ≠ k := fun q => by rw [q, ht] at hf; cases hf
  show upd (fg F) k _ p = 0
  rw [upd_n _ _ hne]
  exact (h.2.2.2.1 p hp hf).2
theorem FI.sign {th k : Nat} {F : FolkS} {g : Int32} (h : FI th F) (hk : k < 6) (ht : tb th k = true) (hg : 0 ≤ g.toInt ∧ g.toInt ≤ 9) (h1 : 1 ≤ (fs_ F k).toInt) : FI th (signF F k g) := by
  have h9 := h.1 k hk ht
  have e : (fs_ F k - 1).toInt = (fs_ F k).toInt - 1 := i_sub (by show _ ≤ (fs_ F k).toInt - 1; omega) (by show (fs_ F k).toInt - 1 < _; omega)
  exact (h.sh (by omega)).earn hk ht hg
theorem FI.forge {th k : Nat} {F : FolkS} {g : Int32} (h : FI th F) (hk : k < 6) (ht : tb th k = true) (hg : 0 ≤ g.toInt ∧ g.toInt ≤ 9) : FI th (forgeF F k g) := (h.fo ht).earn hk ht hg
theorem FI.take {th k : Nat} {F : FolkS} {n : Int32} (h : FI th F) (hk : k < 6) (ht : tb th k = true) (hn : 0 ≤ n.toInt) (h1 : n.toInt ≤ (fs_ F k).toInt) : FI th (takeF F k n) := by
  have h9 := h.1 k hk ht
  have e : (fs_ F k - n).toInt = (fs_ F k).toInt - n.toInt := i_sub (by omega) (by omega)
  exact h.sh (by omega)
theorem FI.move {th a b : Nat} {F : FolkS} {n : Int32} (h : FI th F) (ha : a < 6) (hb : b < 6) (ta : tb th a = true) (tb2 : tb th b = true) (hn : 0 ≤ n.toInt ∧ n.toInt ≤ 9) (h1 : n.toInt ≤ (fs_ F a).toInt) : FI th (moveF F a b n) := by
  have h2 := h.take ha ta hn.1 h1
  have h9 := h2.1 b hb tb2
  have e : (fs_ (takeF F a n) b + n).toInt = (fs_ (takeF F a n) b).toInt + n.toInt := i_add (by omega) (by omega)
  exact h2.sh (mn_rng (by decide) (by omega))
theorem FI.de {th : Nat} {F : FolkS} {f : Nat → Int32} (h : FI th F) : FI th (fDe F f) := h
theorem FI.yr {th : Nat} {F : FolkS} (h : FI th F) (h1 : F.2.1.toInt < 99) : FI th (fYr F (F.2.1 + 1)) := by
  have h9 := h.2.2.1
  have e : (F.2.1 + 1).toInt = F.2.1.toInt + 1 := i_add (by show _ ≤ F.2.1.toInt + 1; omega) (by show F.2.1.toInt + 1 < _; omega)
  exact ⟨h.1, h.2.1, (by show 0 ≤ (F.2.1 + 1).toInt ∧ (F.2.1 + 1).toInt ≤ 99; omega), h.2.2.2⟩
/-! sets by six truths -/
theorem orB_eq (c : Nat → Bool) : orB c 6 = nI ((if c 0 then 1 else 0) + (if c 1 then 2 else 0) + (if c 2 then 4 else 0) + (if c 3 then 8 else 0) + (if c 4 then 16 else 0) + (if c 5 then 32 else 0)) := by
  simp only [orB]
  generalize c 0 = a0
  generalize c 1 = a1
  generalize c 2 = a2
  generalize c 3 = a3
  generalize c 4 = a4
  generalize c 5 = a5
  revert a0 a1 a2 a3 a4 a5
  decide +kernel
theorem orB_cong {c e : Nat → Bool} (h : ∀ p, p < 6 → c p = e p) : orB c 6 = orB e 6 := by
  rw [orB_eq, orB_eq, h 0 (by decide), h 1 (by decide), h 2 (by decide), h 3 (by decide), h 4 (by decide), h 5 (by decide)]
theorem orB_andn (c e : Nat → Bool) : orB c 6 &&& (orB e 6 ^^^ (-1)) = orB (fun p => c p && !(e p)) 6 := by
  rw [orB_eq, orB_eq, orB_eq]
  generalize c 0 = a0
  generalize c 1 = a1
  generalize c 2 = a2
  generalize c 3 = a3
  generalize c 4 = a4
  generalize c 5 = a5
  generalize e 0 = b0
  generalize e 1 = b1
  generalize e 2 = b2
  generalize e 3 = b3
  generalize e 4 = b4
  generalize e 5 = b5
  revert a0 a1 a2 a3 a4 a5 b0 b1 b2 b3 b4 b5
  decide +kernel
