theorem ok_dot {E : gE} {d : Nat} {nw i0 i1 : WorldS} {pd : PadS} {lv : LivesS} {pl : PlanS} {mt : MatS} {nt : NetS} {m : ModS} {c th : Nat} {nr : Nat → Int32} {sg fo rs mn br : Int32} {F : FolkS} (ht : th < 64) (hFR : FR th F nr) (hFI : FI th F)  : ∃ (v : Int32) (n2 : Nat → Int32) (s2 f2 : Int32), Ret E yX9_endYear cX9_endYear 1 (some .int) (d + 2) 0 0 [.ref 52] (hp nw i0 i1 pd lv pl mt nt (mG (s_said (s_there m (nI th)) (nI c)) nr sg fo rs mn br)) (dt (some (.int v)) (hp nw i0 i1 pd lv pl mt nt (mG (s_said (s_there m (nI th)) (nI c)) n2 s2 f2 rs mn br))) ∧ obsF (46, 46 - 65, 1, 46 - 65, 1) F = v ∧ (v = 0 → FR th (appF (46, 46 - 65, 1, 46 - 65, 1) F) n2 ∧ FI th (appF (46, 46 - 65, 1, 46 - 65, 1) F) ∧ s2 = (if ((46, 46 - 65, 1, 46 - 65, 1) : ActS).1 = 49 then sg + 1 else sg)) := by
  by_cases h1 : nr 60 = 99
  · refine ⟨4, nr, sg, fo, rX9_endYear_4 h1, ?_, fun z => absurd z (by decide)⟩
    rw [ob_dot, ← hFR.2.2.2, h1]
    decide
  · have hb := hFI.2.2.1
    have hn : F.2.1.toInt ≠ 99 := fun e => h1 (by rw [hFR.2.2.2]; exact Int32.toInt_inj.mp (by rw [e]; rfl))
    refine ⟨0, upd nr 60 (nr 60 + 1), sg, fo, rX9_endYear_0 h1, ?_, fun _ => ?_⟩
    · rw [ob_dot, if_pos]
      rw [Int32.lt_iff_toInt_lt]
      show F.2.1.toInt < 99
      omega
    · rw [ap_dot, hFR.2.2.2]
      exact ⟨hFR.yr, hFI.yr (by omega), rfl⟩
theorem ok_sign {E : gE} {d : Nat} {nw i0 i1 : WorldS} {pd : PadS} {lv : LivesS} {pl : PlanS} {mt : MatS} {nt : NetS} {m : ModS} {c th : Nat} {nr : Nat → Int32} {sg fo rs mn br : Int32} {F : FolkS} (ht : th < 64) (hFR : FR th F nr) (hFI : FI th F) {p g : Nat} (hp6 : p < 6) (hg : g ≤ 9) : ∃ (v : Int32) (n2 : Nat → Int32) (s2 f2 : Int32), Ret E yX9_signAct cX9_signAct 3 (some .int) (d + 2) 0 0 [.ref 52, .int (nI p), .int (nI g)] (hp nw i0 i1 pd lv pl mt nt (mG (s_said (s_there m (nI th)) (nI c)) nr sg fo rs mn br)) (dt (some (.int v)) (hp nw i0 i1 pd lv pl mt nt (mG (s_said (s_there m (nI th)) (nI c)) n2 s2 f2 rs mn br))) ∧ obsF (49, nI p, nI g, nI p, 2) F = v ∧ (v = 0 → FR th (appF (49, nI p, nI g, nI p, 2) F) n2 ∧ FI th (appF (49, nI p, nI g, nI p, 2) F) ∧ s2 = (if ((49, nI p, nI g, nI p, 2) : ActS).1 = 49 then sg + 1 else sg)) := by
  by_cases h1 : hasB (nI th) (nI p) = true
  · have tp : tb th p = true := by rw [← has_tb th ht p hp6]; exact h1
    have hs := hFI.1 p hp6 tp
    by_cases h2 : nr p = 0
    · refine ⟨3, nr, sg, fo, rX9_signAct_3 hp6 h1 h2, ?_, fun z => absurd z (by decide)⟩
      rw [ob_one hFR.1 hp6 h1 (Or.inl rfl), ← hFR.sheets hp6 tp, h2]
      decide
    · have h3 : 1 ≤ fs_ F p := by rw [one_le hs.1, ← hFR.sheets hp6 tp]; exact h2
      refine ⟨0, _, sg + 1, fo, rX9_signAct_0 hp6 h1 h2, ?_, fun _ => ?_⟩
      · rw [ob_one hFR.1 hp6 h1 (Or.inl rfl), if_pos h3]
      · rw [ap_sign hp6]
        exact ⟨hFR.sign hp6 tp, hFI.sign hp6 tp (g_rng hg) (Int32.le_iff_toInt_le.mp h3), rfl⟩
  · have h1f : hasB (nI th) (nI p) = false := by simpa using h1
    exact ⟨1, nr, sg, fo, rX9_signAct_1 h1f, ob_no hFR.1 (by decide) (by rw [h1f]; rfl), fun z => absurd z (by decide)⟩
theorem ok_blot {E : gE} {d : Nat} {nw i0 i1 : WorldS} {pd : PadS} {lv : LivesS} {pl : PlanS} {mt : MatS} {nt : NetS} {m : ModS} {c th : Nat} {nr : Nat → Int32} {sg fo rs mn br : Int32} {F : FolkS} (ht : th < 64) (hFR : FR th F nr) (hFI : FI th F) {p : Nat} (hp6 : p < 6) : ∃ (v : Int32) (n2 : Nat → Int32) (s2 f2 : Int32), Ret E yX9_blot cX9_blot 2 (some .int) (d + 2) 0 0 [.ref 52, .int (nI p)] (hp nw i0 i1 pd lv pl mt nt (mG (s_said (s_there m (nI th)) (nI c)) nr sg fo rs mn br)) (dt (some (.int v)) (hp nw i0 i1 pd lv pl mt nt (mG (s_said (s_there m (nI th)) (nI c)) n2 s2 f2 rs mn br))) ∧ obsF (42, nI p, 1, nI p, 2) F = v ∧ (v = 0 → FR th (appF (42, nI p, 1, nI p, 2) F) n2 ∧ FI th (appF (42, nI p, 1, nI p, 2) F) ∧ s2 = (if ((42, nI p, 1, nI p, 2) : ActS).1 = 49 then sg + 1 else sg)) := by
  by_cases h1 : hasB (nI th) (nI p) = true
  · have tp : tb th p = true := by rw [← has_tb th ht p hp6]; exact h1
    have hs := hFI.1 p hp6 tp
    by_cases h2 : nr p = 0
    · refine ⟨3, nr, sg, fo, rX9_blot_3 hp6 h1 h2, ?_, fun z => absurd z (by decide)⟩
      rw [ob_one hFR.1 hp6 h1 (Or.inr rfl), ← hFR.sheets hp6 tp, h2]
      decide
    · have h3 : 1 ≤ fs_ F p := by rw [one_le hs.1, ← hFR.sheets hp6 tp]; exact h2
      refine ⟨0, _, sg, fo, rX9_blot_0 hp6 h1 h2, ?_, fun _ => ?_⟩
      · rw [ob_one hFR.1 hp6 h1 (Or.inr rfl), if_pos h3]
      · rw [ap_blot hp6]
        exact ⟨hFR.take hp6 tp, hFI.take hp6 tp (by decide) (Int32.le_iff_toInt_le.mp h3), rfl⟩
  · have h1f : hasB (nI th) (nI p) = false := by simpa using h1
    exact ⟨1, nr, sg, fo, rX9_blot_1 h1f, ob_no hFR.1 (by decide) (by rw [h1f]; rfl), fun z => absurd z (by decide)⟩
theorem ok_forge {E : gE} {d : Nat} {nw i0 i1 : WorldS} {pd : PadS} {lv : LivesS} {pl : PlanS} {mt : MatS} {nt : NetS} {m : ModS} {c th : Nat} {nr : Nat → Int32} {sg fo rs mn br : Int32} {F : FolkS} (ht : th < 64) (hFR : FR th F nr) (hFI : FI th F) {p g : Nat} (hp6 : p < 6) (hg : g ≤ 9) : ∃ (v : Int32) (n2 : Nat → Int32) (s2 f2 : Int32), Ret E yX9_forge cX9_forge 3 (some .int) (d + 2) 0 0 [.ref 52, .int (nI p), .int (nI g)] (hp nw i0 i1 pd lv pl mt nt (mG (s_said (s_there m (nI th)) (nI c)) nr sg fo rs mn br)) (dt (some (.int v)) (hp nw i0 i1 pd lv pl mt nt (mG (s_said (s_there m (nI th)) (nI c)) n2 s2 f2 rs mn br))) ∧ obsF (33, nI p, nI g, nI p, 3) F = v ∧ (v = 0 → FR th (appF (33, nI p, nI g, nI p, 3) F) n2 ∧ FI th (appF (33, nI p, nI g, nI p, 3) F) ∧ s2 = (if ((33, nI p, nI g, nI p, 3) : ActS).1 = 49 then sg + 1 else sg)) := by
  by_cases h1 : hasB (nI th) (nI p) = true
  · have tp : tb th p = true := by rw [← has_tb th ht p hp6]; exact h1
    have hs := hFI.1 p hp6 tp
    refine ⟨0, _, sg, _, rX9_forge_0 hp6 h1, ?_, fun _ => ?_⟩
    · exact ob_forge hFR.1 hp6 h1 (Int32.le_iff_toInt_le.mpr hs.1)
    · rw [ap_forge hp6]
      exact ⟨hFR.forge hp6 tp, hFI.forge hp6 tp (g_rng hg), rfl⟩
  · have h1f : hasB (nI th) (nI p) = false := by simpa using h1
    exact ⟨1, nr, sg, fo, rX9_forge_1 h1f, ob_no hFR.1 (by decide) (by rw [h1f]; rfl), fun z => absurd z (by decide)⟩
theorem ok_give {E : gE} {d : Nat} {nw i0 i1 : WorldS} {pd : PadS} {lv : LivesS} {pl : PlanS} {mt : MatS} {nt : NetS} {m : ModS} {c th : Nat} {nr : Nat → Int32} {sg fo rs mn br : Int32} {F : FolkS} (ht : th < 64) (hFR : FR th F nr) (hFI : FI th F) {p g b : Nat} (hp6 : p < 6) (hb6 : b < 6) (hg : g ≤ 9) : ∃ (v : Int32) (n2 : Nat → Int32) (s2 f2 : Int32), Ret E yX9_hand cX9_hand 8 (some .int) (d + 2) 0 0 [.ref 52, .int (nI p), .int 62, .int (nI g), .int (nI b)] (hp nw i0 i1 pd lv pl mt nt (mG (s_said (s_there m (nI th)) (nI c)) nr sg fo rs mn br)) (dt (some (.int v)) (hp nw i0 i1 pd lv pl mt nt (mG (s_said (s_there m (nI th)) (nI c)) n2 s2 f2 rs mn br))) ∧ obsF (62, nI p, nI g, nI b, 4) F = v ∧ (v = 0 → FR th (appF (62, nI p, nI g, nI b, 4) F) n2 ∧ FI th (appF (62, nI p, nI g, nI b, 4) F) ∧ s2 = (if ((62, nI p, nI g, nI b, 4) : ActS).1 = 49 then sg + 1 else sg)) := by
  by_cases h1 : hasB (nI th) (nI p) = true
  · by_cases h2 : hasB (nI th) (nI b) = true
    · have tp : tb th p = true := by rw [← has_tb th ht p hp6]; exact h1
      have tq : tb th b = true := by rw [← has_tb th ht b hb6]; exact h2
      by_cases h3 : nI p = nI b
      · refine ⟨2, nr, sg, fo, rX9_hand_2 h1 h2 h3, ?_, fun z => absurd z (by decide)⟩
        rw [← h3]
        exact ob_same hFR.1 (Or.inl rfl) h1
      · by_cases h4 : nI g ≤ nr p
        · have h4b : nI g ≤ fs_ F p := by rw [← hFR.sheets hp6 tp]; exact h4
          have h4c := Int32.le_iff_toInt_le.mp h4b
          refine ⟨0, _, sg, fo, rX9_hand_0g hp6 hb6 h1 h2 h3 h4, ?_, fun _ => ?_⟩
          · rw [ob_two hFR.1 (Or.inl rfl) hp6 hb6 h1 h2 h3, if_neg (show ¬ (62 : Int32) = 60 by decide), if_pos h4b, if_neg (show ¬ (62 : Int32) = 61 by decide)]
          · rw [ap_give hp6 hb6]
            exact ⟨hFR.hand0 hp6 hb6 tp tq, hFI.move hp6 hb6 tp tq (g_rng hg) h4c, rfl⟩
        · refine ⟨3, nr, sg, fo, rX9_hand_3g hp6 hb6 h1 h2 h3 h4, ?_, fun z => absurd z (by decide)⟩
          have h4b : ¬ nI g ≤ fs_ F p := by rw [← hFR.sheets hp6 tp]; exact h4
          rw [ob_two hFR.1 (Or.inl rfl) hp6 hb6 h1 h2 h3, if_neg (show ¬ (62 : Int32) = 60 by decide), if_neg h4b]
    · have h2f : hasB (nI th) (nI b) = false := by simpa using h2
      exact ⟨1, nr, sg, fo, rX9_hand_1b h1 h2f, ob_no hFR.1 (by decide) (by rw [h1, h2f]; rfl), fun z => absurd z (by decide)⟩
  · have h1f : hasB (nI th) (nI p) = false := by simpa using h1
    exact ⟨1, nr, sg, fo, rX9_hand_1 h1f, ob_no hFR.1 (by decide) (by rw [h1f]; rfl), fun z => absurd z (by decide)⟩
theorem ok_lend {E : gE} {d : Nat} {nw i0 i1 : WorldS} {pd : PadS} {lv : LivesS} {pl : PlanS} {mt : MatS} {nt : NetS} {m : ModS} {c th : Nat} {nr : Nat → Int32} {sg fo rs mn br : Int32} {F : FolkS} (ht : th < 64) (hFR : FR th F nr) (hFI : FI th F) {p g b : Nat} (hp6 : p < 6) (hb6 : b < 6) (hg : g ≤ 9) : ∃ (v : Int32) (n2 : Nat → Int32) (s2 f2 : Int32), Ret E yX9_hand cX9_hand 8 (some .int) (d + 2) 0 0 [.ref 52, .int (nI p), .int 61, .int (nI g), .int (nI b)] (hp nw i0 i1 pd lv pl mt nt (mG (s_said (s_there m (nI th)) (nI c)) nr sg fo rs mn br)) (dt (some (.int v)) (hp nw i0 i1 pd lv pl mt nt (mG (s_said (s_there m (nI th)) (nI c)) n2 s2 f2 rs mn br))) ∧ obsF (61, nI p, nI g, nI b, 4) F = v ∧ (v = 0 → FR th (appF (61, nI p, nI g, nI b, 4) F) n2 ∧ FI th (appF (61, nI p, nI g, nI b, 4) F) ∧ s2 = (if ((61, nI p, nI g, nI b, 4) : ActS).1 = 49 then sg + 1 else sg)) := by
  by_cases h1 : hasB (nI th) (nI p) = true
  · by_cases h2 : hasB (nI th) (nI b) = true
    · have tp : tb th p = true := by rw [← has_tb th ht p hp6]; exact h1
      have tq : tb th b = true := by rw [← has_tb th ht b hb6]; exact h2
      by_cases h3 : nI p = nI b
      · refine ⟨2, nr, sg, fo, rX9_hand_2 h1 h2 h3, ?_, fun z => absurd z (by decide)⟩
        rw [← h3]
        exact ob_same hFR.1 (Or.inr (Or.inl rfl)) h1
      · by_cases h4 : nI g ≤ nr p
        · have h4b : nI g ≤ fs_ F p := by rw [← hFR.sheets hp6 tp]; exact h4
          have h4c := Int32.le_iff_toInt_le.mp h4b
          by_cases h5 : nr (20 + 6 * b + p) + nI g ≤ 99
          · have h5b : fd F (b * 6 + p) + nI g ≤ 99 := by rw [← hFR.2.2.1 b hb6 p hp6]; exact h5
            refine ⟨0, _, sg, fo, rX9_hand_0l hp6 hb6 h1 h2 h3 h4 h5, ?_, fun _ => ?_⟩
            · rw [ob_two hFR.1 (Or.inr (Or.inl rfl)) hp6 hb6 h1 h2 h3, if_neg (show ¬ (61 : Int32) = 60 by decide), if_pos h4b, if_pos (show (61 : Int32) = 61 by decide), if_pos h5b]
            · rw [ap_lend hp6 hb6]
              exact ⟨hFR.lend hp6 hb6 tp tq, (hFI.move hp6 hb6 tp tq (g_rng hg) h4c).de, rfl⟩
          · have h5b : ¬ fd F (b * 6 + p) + nI g ≤ 99 := by rw [← hFR.2.2.1 b hb6 p hp6]; exact h5
            refine ⟨5, nr, sg, fo, rX9_hand_5l hp6 hb6 h1 h2 h3 h4 h5, ?_, fun z => absurd z (by decide)⟩
            rw [ob_two hFR.1 (Or.inr (Or.inl rfl)) hp6 hb6 h1 h2 h3, if_neg (show ¬ (61 : Int32) = 60 by decide), if_pos h4b, if_pos (show (61 : Int32) = 61 by decide), if_neg h5b]
        · refine ⟨3, nr, sg, fo, rX9_hand_3l hp6 hb6 h1 h2 h3 h4, ?_, fun z => absurd z (by decide)⟩
          have h4b : ¬ nI g ≤ fs_ F p := by rw [← hFR.sheets hp6 tp]; exact h4
          rw [ob_two hFR.1 (Or.inr (Or.inl rfl)) hp6 hb6 h1 h2 h3, if_neg (show ¬ (61 : Int32) = 60 by decide), if_neg h4b]
    · have h2f : hasB (nI th) (nI b) = false := by simpa using h2
      exact ⟨1, nr, sg, fo, rX9_hand_1b h1 h2f, ob_no hFR.1 (by decide) (by rw [h1, h2f]; rfl), fun z => absurd z (by decide)⟩
  · have h1f : hasB (nI th) (nI p) = false := by simpa using h1
    exact ⟨1, nr, sg, fo, rX9_hand_1 h1f, ob_no hFR.1 (by decide) (by rw [h1f]; rfl), fun z => absurd z (by decide)⟩
theorem ok_steal {E : gE} {d : Nat} {nw i0 i1 : WorldS} {pd : PadS} {lv : LivesS} {pl : PlanS} {mt : MatS} {nt : NetS} {m : ModS} {c th : Nat} {nr : Nat → Int32} {sg fo rs mn br : Int32} {F : FolkS} (ht : th < 64) (hFR : FR th F nr) (hFI : FI th F) {p g b : Nat} (hp6 : p < 6) (hb6 : b < 6) (hg : g ≤ 9) : ∃ (v : Int32) (n2 : Nat → Int32) (s2 f2 : Int32), Ret E yX9_hand cX9_hand 8 (some .int) (d + 2) 0 0 [.ref 52, .int (nI p), .int 60, .int (nI g), .int (nI b)] (hp nw i0 i1 pd lv pl mt nt (mG (s_said (s_there m (nI th)) (nI c)) nr sg fo rs mn br)) (dt (some (.int v)) (hp nw i0 i1 pd lv pl mt nt (mG (s_said (s_there m (nI th)) (nI c)) n2 s2 f2 rs mn br))) ∧ obsF (60, nI p, nI g, nI b, 4) F = v ∧ (v = 0 → FR th (appF (60, nI p, nI g, nI b, 4) F) n2 ∧ FI th (appF (60, nI p, nI g, nI b, 4) F) ∧ s2 = (if ((60, nI p, nI g, nI b, 4) : ActS).1 = 49 then sg + 1 else sg)) := by
  by_cases h1 : hasB (nI th) (nI p) = true
  · by_cases h2 : hasB (nI th) (nI b) = true
    · have tp : tb th p = true := by rw [← has_tb th ht p hp6]; exact h1
      have tq : tb th b = true := by rw [← has_tb th ht b hb6]; exact h2
      by_cases h3 : nI p = nI b
      · refine ⟨2, nr, sg, fo, rX9_hand_2 h1 h2 h3, ?_, fun z => absurd z (by decide)⟩
        rw [← h3]
        exact ob_same hFR.1 (Or.inr (Or.inr rfl)) h1
      · by_cases h4 : nI g ≤ nr b
        · have h4b : nI g ≤ fs_ F b := by rw [← hFR.sheets hb6 tq]; exact h4
          have h4c := Int32.le_iff_toInt_le.mp h4b
          refine ⟨0, _, sg, fo, rX9_hand_0s hp6 hb6 h1 h2 h3 h4, ?_, fun _ => ?_⟩
          · rw [ob_two hFR.1 (Or.inr (Or.inr rfl)) hp6 hb6 h1 h2 h3, if_pos (show  (60 : Int32) = 60 by decide), if_pos h4b, if_neg (show ¬ (60 : Int32) = 61 by decide)]
          · rw [ap_steal hp6 hb6]
            exact ⟨hFR.hand0 hb6 hp6 tq tp, hFI.move hb6 hp6 tq tp (g_rng hg) h4c, rfl⟩
        · refine ⟨3, nr, sg, fo, rX9_hand_3s hp6 hb6 h1 h2 h3 h4, ?_, fun z => absurd z (by decide)⟩
          have h4b : ¬ nI g ≤ fs_ F b := by rw [← hFR.sheets hb6 tq]; exact h4
          rw [ob_two hFR.1 (Or.inr (Or.inr rfl)) hp6 hb6 h1 h2 h3, if_pos (show  (60 : Int32) = 60 by decide), if_neg h4b]
    · have h2f : hasB (nI th) (nI b) = false := by simpa using h2
      exact ⟨1, nr, sg, fo, rX9_hand_1b h1 h2f, ob_no hFR.1 (by decide) (by rw [h1, h2f]; rfl), fun z => absurd z (by decide)⟩
  · have h1f : hasB (nI th) (nI p) = false := by simpa using h1
    exact ⟨1, nr, sg, fo, rX9_hand_1 h1f, ob_no hFR.1 (by decide) (by rw [h1f]; rfl), fun z => absurd z (by decide)⟩
