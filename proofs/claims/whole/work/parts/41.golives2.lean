theorem nI_nn {a : Nat} (h : a ≤ 1000) : (0 : Int32) ≤ nI a := by
  rw [Int32.le_iff_toInt_le, nI_toInt (by omega)]
  show (0 : Int) ≤ (a : Int)
  omega
theorem m6_lt {x : Int32} (h : x = -6 ∨ 0 ≤ x) : (¬ 0 ≤ x) = (x = -6) := by
  refine propext ⟨fun q => h.resolve_right q, fun e => ?_⟩
  rw [e]
  decide
set_option maxRecDepth 100000 in
set_option maxHeartbeats 4000000 in
theorem gl_tail {E : gE} {d : Nat} {nw i0 i1 : WorldS} {pd : PadS} {lv : LivesS} {pl : PlanS} {mt : MatS} {nt : NetS} {m : ModS} {c th n j : Nat} {F0 : FolkS} {A0 : ActS} {l : LivesS} {nr : Nat → Int32} {sg rs mn br : Int32} (ht : th < 64) (hc : c ≤ 60) (ih : ∀ (j : Nat) (l : LivesS) (nr : Nat → Int32) (sg fo rs mn br : Int32) (a2 a3 a4 : Option Value), j ≤ c → c - j ≤ n → tlR (m_pad m) c n j l = (tellF F0 A0 (m_pad m) c) → ffR (m_pad m) (c - j) j 0 = -6 → FR th l.1 nr → FI th l.1 → l.2.2.2.1 = -6 → l.2.2.2.2.1 = -6 → (∃ a : Nat, a ≤ j ∧ mn = nI a) → l.2.2.1 = mn → l.2.2.2.2.2.1 = sg → l.2.2.2.2.2.2 = br → (br = -6 ∨ 0 ≤ br) → Go E yX9_goLives cX9_goLives 5 (some .int) (d + 3) 0 0 0 0 17 [some (.ref 52), some (.int (nI j)), a2, a3, a4] [] (hp nw i0 i1 pd lv pl mt nt (mG (s_said (s_there m (nI th)) (nI c)) nr sg fo rs mn br)) (lvQ (s_said (s_there m (nI th)) (nI c)) th (tellF F0 A0 (m_pad m) c) (fun zm => (hp nw i0 i1 pd lv pl mt nt zm)))) (hj : j < c) (hn : c - j ≤ n + 1) (hf : tlR (m_pad m) c (n + 1) j l = (tellF F0 A0 (m_pad m) c)) (hFR : FR th l.1 nr) (hFI : FI th l.1) (hb : l.2.2.2.1 = -6) (hw : l.2.2.2.2.1 = -6) (ha : ∃ a : Nat, a ≤ j ∧ mn = nI a) (hm : l.2.2.1 = mn) (hs : l.2.2.2.2.2.1 = sg) (he : l.2.2.2.2.2.2 = br) (hbr : br = -6 ∨ 0 ≤ br) : ∀ (j2 : Nat) (A : ActS) (v : Int32) (n2 : Nat → Int32) (s2 f2 : Int32) (b3 b4 : Option Value), actR (m_pad m) c j = A → j + lenR (m_pad m) c j = j2 → j < j2 → j2 ≤ c → ffR (m_pad m) (c - j2) j2 0 = -6 → obsF A l.1 = v → (v = 0 → FR th (appF A l.1) n2 ∧ FI th (appF A l.1) ∧ s2 = (if A.1 = 49 then sg + 1 else sg)) → Go E yX9_goLives cX9_goLives 5 (some .int) (d + 3) 0 0 0 0 194 [some (.ref 52), some (.int (nI j2)), some (.int (orB (someB (nI th) nr) 6)), b3, b4] [] (hp nw i0 i1 pd lv pl mt nt (s_reason (mG (s_said (s_there m (nI th)) (nI c)) n2 s2 f2 rs mn br) v)) (lvQ (s_said (s_there m (nI th)) (nI c)) th (tellF F0 A0 (m_pad m) c) (fun zm => (hp nw i0 i1 pd lv pl mt nt zm))) := by
  intro j2 A v n2 s2 f2 b3 b4 hA hl h1 h2 hff ho hv
  obtain ⟨a, haj, rfl⟩ := ha
  rw [tlR, if_pos hj, if_pos hb, hA, hl] at hf
  rcases obs_rng A l.1 with h0 | h0
  · rw [ho] at h0
    subst h0
    obtain ⟨k1, k2, k3⟩ := hv rfl
    have e := bare_eq ht hFR hFI k1 k2
    refine gl_on (m := m) (by decide) ?_
    have et : taF (l.1, A, l.2.2) = (appF A l.1, A, l.2.2.1 + 1, l.2.2.2.1, l.2.2.2.2.1, (if A.1 = 49 then l.2.2.2.2.2.1 + 1 else l.2.2.2.2.2.1), (if l.2.2.2.2.2.2 = -6 then (if orB (bareB (appF A l.1)) 6 &&& (orB (bareB l.1) 6 ^^^ (-1)) = 0 then l.2.2.2.2.2.2 else l.2.2.1) else l.2.2.2.2.2.2)) := by
      unfold taF
      exact if_pos ho
    rw [et] at hf
    have eb : glB (mG (s_said (s_there m (nI th)) (nI c)) n2 s2 f2 rs (nI a) br) (orB (someB (nI th) nr) 6) = (if l.2.2.2.2.2.2 = -6 then (if orB (bareB (appF A l.1)) 6 &&& (orB (bareB l.1) 6 ^^^ (-1)) = 0 then l.2.2.2.2.2.2 else l.2.2.1) else l.2.2.2.2.2.2) := by
      show (if 0 ≤ br then br else if orB (someB (nI th) nr) 6 &&& (orB (someB (nI th) n2) 6 ^^^ (-1)) = 0 then br else nI a) = _
      rw [e, he, hm]
      by_cases q : 0 ≤ br
      · rw [if_pos q, if_neg]
        intro z
        rw [z] at q
        exact absurd q (by decide)
      · rw [if_neg q, if_pos (show br = -6 from hbr.resolve_right q)]
    revert eb
    generalize glB (mG (s_said (s_there m (nI th)) (nI c)) n2 s2 f2 rs (nI a) br) (orB (someB (nI th) nr) 6) = bb
    intro eb
    refine go_heap (h2 := (hp nw i0 i1 pd lv pl mt nt (mG (s_said (s_there m (nI th)) (nI c)) n2 s2 f2 0 (nI a + 1) bb))) rfl ?_
    refine ih j2 _ n2 s2 f2 0 (nI a + 1) bb _ _ _ h2 (by omega) hf hff k1 k2 hb hw ⟨a + 1, by omega, nI_1 a⟩ (by rw [← hm]) (by rw [k3, ← hs]) eb.symm ?_
    rw [eb, he, hm]
    split
    · split
      · exact hbr
      · exact Or.inr (nI_nn (by omega))
    · exact hbr
  · have h0v := h0
    rw [ho] at h0v
    refine gl_stop (m := m) (Int32.not_le.mpr h0v) ?_
    have et : taF (l.1, A, l.2.2) = (l.1, A, l.2.2.1, l.2.2.1, v, l.2.2.2.2.2) := by
      unfold taF
      rw [← ho]
      have hz : ¬ obsF A l.1 = 0 := fun z => by
        rw [z] at h0
        exact absurd h0 (by decide)
      exact if_neg hz
    rw [et] at hf
    have hne : ¬ (l.1, A, l.2.2.1, l.2.2.1, v, l.2.2.2.2.2).2.2.2.1 = -6 := by
      show ¬ l.2.2.1 = -6
      rw [hm]
      exact nI_ne_m6 (by omega)
    rw [tlR_stop hne] at hf
    unfold lvQ
    rw [← hf]
    refine ⟨n2, s2, f2, v, nI a, br, rfl, by rw [← hm], fun z => absurd z hne, fun _ => ⟨rfl, ?_⟩⟩
    show 0 ≤ l.2.2.1
    rw [hm]
    exact nI_nn (by omega)
