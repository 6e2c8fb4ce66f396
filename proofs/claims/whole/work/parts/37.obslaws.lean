/-! the reason of each ACT, PERSONS as numbers -/
theorem ob_dot {F : FolkS} {x y g l : Int32} : obsF (46, x, g, y, l) F = if F.2.1 < 99 then 0 else 4 := by
  unfold obsF
  rw [if_pos rfl]
theorem ap_dot {F : FolkS} {x y g l : Int32} : appF (46, x, g, y, l) F = fYr F (F.2.1 + 1) := by
  unfold appF
  dsimp only
  rw [if_neg (by decide), if_neg (by decide), if_neg (by decide), if_neg (by decide), if_neg (by decide), if_neg (by decide)]
theorem ob_no {F : FolkS} {th : Nat} {k x y g l : Int32} (e : F.1 = nI th) (hk : ¬ k = 46) (h : (hasB (nI th) x && hasB (nI th) y) = false) : obsF (k, x, g, y, l) F = 1 := by
  unfold obsF
  dsimp only
  rw [if_neg hk, e, h, if_neg Bool.false_ne_true]
theorem ob_one {F : FolkS} {th p : Nat} {k g l : Int32} (e : F.1 = nI th) (hp6 : p < 6) (ht : hasB (nI th) (nI p) = true) (hk : k = 49 ∨ k = 42) : obsF (k, nI p, g, nI p, l) F = if 1 ≤ fs_ F p then 0 else 3 := by
  rcases hk with rfl | rfl
  · unfold obsF
    dsimp only
    rw [if_neg (by decide), e, ht, Bool.and_self, if_pos rfl, show two (49 : Int32) = false from by decide, Bool.false_and, if_neg Bool.false_ne_true, if_neg (show ¬ (49 : Int32) = 60 by decide), if_neg (show ¬ (49 : Int32) = 61 by decide), nI_clamp (by omega)]
    rfl
  · unfold obsF
    dsimp only
    rw [if_neg (by decide), e, ht, Bool.and_self, if_pos rfl, show two (42 : Int32) = false from by decide, Bool.false_and, if_neg Bool.false_ne_true, if_neg (show ¬ (42 : Int32) = 60 by decide), if_neg (show ¬ (42 : Int32) = 61 by decide), nI_clamp (by omega)]
    rfl
theorem ob_forge {F : FolkS} {th p : Nat} {g l : Int32} (e : F.1 = nI th) (hp6 : p < 6) (ht : hasB (nI th) (nI p) = true) (hs : (0 : Int32) ≤ fs_ F p) : obsF (33, nI p, g, nI p, l) F = 0 := by
  unfold obsF
  dsimp only
  rw [if_neg (by decide), e, ht, Bool.and_self, if_pos rfl, show two (33 : Int32) = false from by decide, Bool.false_and, if_neg Bool.false_ne_true, if_neg (show ¬ (33 : Int32) = 60 by decide), if_neg (show ¬ (33 : Int32) = 61 by decide), nI_clamp (by omega)]
  exact if_pos hs
theorem ap_sign {F : FolkS} {p : Nat} {g y l : Int32} (hp6 : p < 6) : appF (49, nI p, g, y, l) F = signF F p g := by
  unfold appF
  dsimp only
  rw [if_neg (by decide), if_neg (by decide), if_pos rfl, nI_clamp (by omega)]
theorem ap_blot {F : FolkS} {p : Nat} {g y l : Int32} (hp6 : p < 6) : appF (42, nI p, g, y, l) F = takeF F p 1 := by
  unfold appF
  dsimp only
  rw [if_neg (by decide), if_pos rfl, nI_clamp (by omega)]
theorem ap_forge {F : FolkS} {p : Nat} {g y l : Int32} (hp6 : p < 6) : appF (33, nI p, g, y, l) F = forgeF F p g := by
  unfold appF
  dsimp only
  rw [if_pos rfl, nI_clamp (by omega)]
theorem ob_same {F : FolkS} {th : Nat} {k x g l : Int32} (e : F.1 = nI th) (hk : k = 62 ∨ k = 61 ∨ k = 60) (hx : hasB (nI th) x = true) : obsF (k, x, g, x, l) F = 2 := by
  have h2 : two k = true := by rcases hk with rfl | rfl | rfl <;> decide
  have h46 : ¬ k = 46 := by rcases hk with rfl | rfl | rfl <;> decide
  unfold obsF
  dsimp only
  rw [if_neg h46, e, hx, Bool.and_self, if_pos rfl, h2, decide_eq_true rfl, Bool.and_self, if_pos rfl]
theorem ob_two {F : FolkS} {th a b : Nat} {k g l : Int32} (e : F.1 = nI th) (hk : k = 62 ∨ k = 61 ∨ k = 60) (ha : a < 6) (hb : b < 6) (ta : hasB (nI th) (nI a) = true) (tb2 : hasB (nI th) (nI b) = true) (hne : ¬ nI a = nI b) :
    obsF (k, nI a, g, nI b, l) F = if g ≤ fs_ F (if k = 60 then b else a) then (if k = 61 then (if fd F (b * 6 + a) + g ≤ 99 then 0 else 5) else 0) else 3 := by
  have h2 : two k = true := by rcases hk with rfl | rfl | rfl <;> decide
  have h46 : ¬ k = 46 := by rcases hk with rfl | rfl | rfl <;> decide
  have h33 : ¬ k = 33 := by rcases hk with rfl | rfl | rfl <;> decide
  have hn : needF (k, nI a, g, nI b, l) = g := by
    unfold needF
    dsimp only
    rw [if_pos h33, h2, if_pos rfl]
  have hc : (if k = 60 then nI b else nI a).toNatClampNeg = (if k = 60 then b else a) := by
    split
    · exact nI_clamp (by omega)
    · exact nI_clamp (by omega)
  unfold obsF
  dsimp only
  rw [if_neg h46, e, ta, tb2, Bool.and_self, if_pos rfl, h2, decide_eq_false hne, Bool.and_false, if_neg Bool.false_ne_true, hn, hc, nI_clamp (by omega), nI_clamp (by omega)]
theorem ap_steal {F : FolkS} {a b : Nat} {g l : Int32} (ha : a < 6) (hb : b < 6) : appF (60, nI a, g, nI b, l) F = moveF F b a g := by
  unfold appF
  dsimp only
  rw [if_neg (by decide), if_neg (by decide), if_neg (by decide), if_pos rfl, nI_clamp (by omega), nI_clamp (by omega)]
theorem ap_lend {F : FolkS} {a b : Nat} {g l : Int32} (ha : a < 6) (hb : b < 6) : appF (61, nI a, g, nI b, l) F = oweF (moveF F a b g) b a g := by
  unfold appF
  dsimp only
  rw [if_neg (by decide), if_neg (by decide), if_neg (by decide), if_neg (by decide), if_pos rfl, nI_clamp (by omega), nI_clamp (by omega)]
theorem ap_give {F : FolkS} {a b : Nat} {g l : Int32} (ha : a < 6) (hb : b < 6) : appF (62, nI a, g, nI b, l) F = moveF F a b g := by
  unfold appF
  dsimp only
  rw [if_neg (by decide), if_neg (by decide), if_neg (by decide), if_neg (by decide), if_neg (by decide), if_pos rfl, nI_clamp (by omega), nI_clamp (by omega)]
/-- the model's hands, over its debts -/
theorem FR.hand0 {th a b : Nat} {F : FolkS} {nw : Nat → Int32} {n : Int32} {i : Nat} (h : FR th F nw) (ha : a < 6) (hb : b < 6) (ta : tb th a = true) (tb2 : tb th b = true) : FR th (moveF F a b n) (mhand (upd nw i (nw i + 0)) a b n) := by
  rw [Int32.add_zero, upd_id]
  exact h.move ha hb ta tb2
theorem FR.lend {th a b : Nat} {F : FolkS} {nw : Nat → Int32} {n : Int32} (h : FR th F nw) (ha : a < 6) (hb : b < 6) (ta : tb th a = true) (tb2 : tb th b = true) : FR th (oweF (moveF F a b n) b a n) (mhand (upd nw (20 + 6 * b + a) (nw (20 + 6 * b + a) + n)) a b n) := by
  rw [h.2.2.1 b hb a ha]
  exact (h.de (v := fd F (b * 6 + a) + n) hb ha).move ha hb ta tb2
/-- who had some and has none -/
theorem bare_eq {th : Nat} {F G : FolkS} {nw nw2 : Nat → Int32} (ht : th < 64) (h : FR th F nw) (i : FI th F) (h2 : FR th G nw2) (i2 : FI th G) :
    orB (someB (nI th) nw) 6 &&& (orB (someB (nI th) nw2) 6 ^^^ (-1)) = orB (bareB G) 6 &&& (orB (bareB F) 6 ^^^ (-1)) := by
  rw [orB_andn, orB_andn]
  refine orB_cong fun p hp6 => ?_
  simp only [someB, bareB, h.1, h2.1, hb_tb th ht p hp6, has_tb th ht p hp6]
  cases hb : tb th p with
  | false => rfl
  | true =>
    rw [h.sheets hp6 hb, h2.sheets hp6 hb]
    have a1 := (i.1 p hp6 hb).1
    have a2 := (i2.1 p hp6 hb).1
    have e1 : (fs_ F p ≤ 0) = (fs_ F p = 0) := propext ⟨fun q => Int32.le_antisymm q (Int32.le_iff_toInt_le.mpr a1), fun q => by rw [q]; exact Int32.le_refl 0⟩
    have e2 : (fs_ G p ≤ 0) = (fs_ G p = 0) := propext ⟨fun q => Int32.le_antisymm q (Int32.le_iff_toInt_le.mpr a2), fun q => by rw [q]; exact Int32.le_refl 0⟩
    simp only [e1, e2, Bool.true_and]
    generalize decide (fs_ F p = 0) = u
    generalize decide (fs_ G p = 0) = v
    revert u v
    decide
theorem tlR_stop {S : Nat → Int32} {c : Nat} {l : LivesS} (h : ¬ l.2.2.2.1 = -6) : ∀ (n j : Nat), tlR S c n j l = l
  | 0, j => rfl
  | n + 1, j => by
    rw [tlR, if_neg h]
    split <;> rfl
