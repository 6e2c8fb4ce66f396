set_option maxRecDepth 100000 in
set_option maxHeartbeats 4000000 in
theorem rX9_goLives {E : gE} {d : Nat} {nw i0 i1 : WorldS} {pd : PadS} {lv : LivesS} {pl : PlanS} {mt : MatS} {nt : NetS} {m : ModS} {c th : Nat} {F0 : FolkS} {A0 : ActS} (ht : th < 64) (hc : c ≤ 60) (hff : ffR (m_pad m) c 0 0 = -6) (hFR : FR th F0 (m_book m)) (hFI : FI th F0) : Ret E yX9_goLives cX9_goLives 5 (some .int) (d + 3) 0 0 [.ref 52] (hp nw i0 i1 pd lv pl mt nt (s_said (s_there m (nI th)) (nI c))) (lvQ (s_said (s_there m (nI th)) (nI c)) th (tellF F0 A0 (m_pad m) c) (fun zm => (hp nw i0 i1 pd lv pl mt nt zm))) := by
  refine ret_of_go (L := [_, _, _, _, _]) (by decide) (Nat.le_of_ble_eq_true rfl) rfl ?_
  have key : ∀ n : Nat, ∀ (j : Nat) (l : LivesS) (nr : Nat → Int32) (sg fo rs mn br : Int32) (a2 a3 a4 : Option Value), j ≤ c → c - j ≤ n → tlR (m_pad m) c n j l = (tellF F0 A0 (m_pad m) c) → ffR (m_pad m) (c - j) j 0 = -6 → FR th l.1 nr → FI th l.1 → l.2.2.2.1 = -6 → l.2.2.2.2.1 = -6 → (∃ a : Nat, a ≤ j ∧ mn = nI a) → l.2.2.1 = mn → l.2.2.2.2.2.1 = sg → l.2.2.2.2.2.2 = br → (br = -6 ∨ 0 ≤ br) → Go E yX9_goLives cX9_goLives 5 (some .int) (d + 3) 0 0 0 0 17 [some (.ref 52), some (.int (nI j)), a2, a3, a4] [] (hp nw i0 i1 pd lv pl mt nt (mG (s_said (s_there m (nI th)) (nI c)) nr sg fo rs mn br)) (lvQ (s_said (s_there m (nI th)) (nI c)) th (tellF F0 A0 (m_pad m) c) (fun zm => (hp nw i0 i1 pd lv pl mt nt zm))) := by
    intro n
    induction n with
    | zero =>
      intro j l nr sg fo rs mn br a2 a3 a4 hj hn hf hff hFR hFI hb hw ha hm hs he hbr
      rw [tlR] at hf
      refine gl_end hc (by omega) (by omega) ?_
      unfold lvQ
      rw [← hf]
      exact ⟨nr, sg, fo, rs, mn, br, rfl, by rw [hb], fun _ => ⟨hFR, hFI, hm.symm, hs.symm, he.symm, hw⟩, fun z => absurd hb z⟩
    | succ n ih =>
      intro j l nr sg fo rs mn br a2 a3 a4 hj hn hf hff hFR hFI hb hw ha hm hs he hbr
      by_cases hjc : j < c
      · have T := gl_tail (rs := rs) ht hc ih hjc hn hf hFR hFI hb hw ha hm hs he hbr
        obtain ⟨k, hk⟩ : ∃ k, c - j = k + 1 := ⟨c - j - 1, by omega⟩
        rw [hk] at hff
        rcases wf_step (by omega) hff with ⟨hS, h9⟩ | ⟨hl, n1, rfl, ⟨hd, h9⟩ | ⟨hS, h9⟩ | ⟨hS, n3, rfl, hd, h9⟩ | ⟨hS, n3, rfl, hd, hl2, h9⟩⟩
        · obtain ⟨v, n2, s2, f2, hR, ho, hv⟩ := ok_dot (E := E) (d := d) (nw := nw) (i0 := i0) (i1 := i1) (pd := pd) (lv := lv) (pl := pl) (mt := mt) (nt := nt) (m := m) (c := c) (sg := sg) (fo := fo) (rs := rs) (mn := mn) (br := br) ht hFR hFI
          obtain ⟨eA, eL⟩ := act_dot hjc hS
          refine gl_dot hc hjc hS hR (fun b3 b4 => ?_)
          exact T _ _ v n2 s2 f2 b3 b4 eA (by rw [eL]) (by omega) (by omega) (by rw [show c - (j + 1) = k by omega]; exact h9) ho hv
        · obtain ⟨p, hp6, ep⟩ := let_nI hl
          obtain ⟨g, _, hg, eg⟩ := dig_nI hd
          obtain ⟨v, n2, s2, f2, hR, ho, hv⟩ := ok_sign (E := E) (d := d) (nw := nw) (i0 := i0) (i1 := i1) (pd := pd) (lv := lv) (pl := pl) (mt := mt) (nt := nt) (m := m) (c := c) (sg := sg) (fo := fo) (rs := rs) (mn := mn) (br := br) ht hFR hFI hp6 hg
          obtain ⟨eA, eL⟩ := act_sign (c := c) (by omega) hl hd ep eg
          refine gl_sign hc (by omega) hl hd ep eg hR (fun b3 b4 => ?_)
          exact T _ _ v n2 s2 f2 b3 b4 eA (by rw [eL]) (by omega) (by omega) (by rw [show c - (j + 2) = n1 by omega]; exact h9) ho hv
        · obtain ⟨p, hp6, ep⟩ := let_nI hl
          obtain ⟨v, n2, s2, f2, hR, ho, hv⟩ := ok_blot (E := E) (d := d) (nw := nw) (i0 := i0) (i1 := i1) (pd := pd) (lv := lv) (pl := pl) (mt := mt) (nt := nt) (m := m) (c := c) (sg := sg) (fo := fo) (rs := rs) (mn := mn) (br := br) ht hFR hFI hp6
          obtain ⟨eA, eL⟩ := act_blot (c := c) (by omega) hl hS ep
          refine gl_blot hc (by omega) hl hS ep hR (fun b3 b4 => ?_)
          exact T _ _ v n2 s2 f2 b3 b4 eA (by rw [eL]) (by omega) (by omega) (by rw [show c - (j + 2) = n1 by omega]; exact h9) ho hv
        · obtain ⟨p, hp6, ep⟩ := let_nI hl
          obtain ⟨g, _, hg, eg⟩ := dig_nI hd
          obtain ⟨v, n2, s2, f2, hR, ho, hv⟩ := ok_forge (E := E) (d := d) (nw := nw) (i0 := i0) (i1 := i1) (pd := pd) (lv := lv) (pl := pl) (mt := mt) (nt := nt) (m := m) (c := c) (sg := sg) (fo := fo) (rs := rs) (mn := mn) (br := br) ht hFR hFI hp6 hg
          obtain ⟨eA, eL⟩ := act_forge (c := c) (by omega) hl hS ep eg
          refine gl_forge hc (by omega) hl hS ep eg hR (fun b3 b4 => ?_)
          exact T _ _ v n2 s2 f2 b3 b4 eA (by rw [eL]) (by omega) (by omega) (by rw [show c - (j + 3) = n3 by omega]; exact h9) ho hv
        · obtain ⟨p, hp6, ep⟩ := let_nI hl
          obtain ⟨g, _, hg, eg⟩ := dig_nI hd
          obtain ⟨b, hb6, eb⟩ := let_nI hl2
          rcases hS with hS | hS | hS
          · obtain ⟨v, n2, s2, f2, hR, ho, hv⟩ := ok_give (E := E) (d := d) (nw := nw) (i0 := i0) (i1 := i1) (pd := pd) (lv := lv) (pl := pl) (mt := mt) (nt := nt) (m := m) (c := c) (sg := sg) (fo := fo) (rs := rs) (mn := mn) (br := br) ht hFR hFI hp6 hb6 hg
            obtain ⟨eA, eL⟩ := act_hand (c := c) (Or.inl rfl) (by omega) hl hS ep eg eb
            refine gl_hand hc (by omega) (by decide) (by decide) (by decide) hl hS ep eg eb hR (fun b3 b4 => ?_)
            exact T _ _ v n2 s2 f2 b3 b4 eA (by rw [eL]) (by omega) (by omega) (by rw [show c - (j + 4) = n3 by omega]; exact h9) ho hv
          · obtain ⟨v, n2, s2, f2, hR, ho, hv⟩ := ok_lend (E := E) (d := d) (nw := nw) (i0 := i0) (i1 := i1) (pd := pd) (lv := lv) (pl := pl) (mt := mt) (nt := nt) (m := m) (c := c) (sg := sg) (fo := fo) (rs := rs) (mn := mn) (br := br) ht hFR hFI hp6 hb6 hg
            obtain ⟨eA, eL⟩ := act_hand (c := c) (Or.inr (Or.inl rfl)) (by omega) hl hS ep eg eb
            refine gl_hand hc (by omega) (by decide) (by decide) (by decide) hl hS ep eg eb hR (fun b3 b4 => ?_)
            exact T _ _ v n2 s2 f2 b3 b4 eA (by rw [eL]) (by omega) (by omega) (by rw [show c - (j + 4) = n3 by omega]; exact h9) ho hv
          · obtain ⟨v, n2, s2, f2, hR, ho, hv⟩ := ok_steal (E := E) (d := d) (nw := nw) (i0 := i0) (i1 := i1) (pd := pd) (lv := lv) (pl := pl) (mt := mt) (nt := nt) (m := m) (c := c) (sg := sg) (fo := fo) (rs := rs) (mn := mn) (br := br) ht hFR hFI hp6 hb6 hg
            obtain ⟨eA, eL⟩ := act_hand (c := c) (Or.inr (Or.inr rfl)) (by omega) hl hS ep eg eb
            refine gl_hand hc (by omega) (by decide) (by decide) (by decide) hl hS ep eg eb hR (fun b3 b4 => ?_)
            exact T _ _ v n2 s2 f2 b3 b4 eA (by rw [eL]) (by omega) (by omega) (by rw [show c - (j + 4) = n3 by omega]; exact h9) ho hv
      · rw [tlR, if_neg hjc] at hf
        refine gl_end hc (by omega) (by omega) ?_
        unfold lvQ
        rw [← hf]
        exact ⟨nr, sg, fo, rs, mn, br, rfl, by rw [hb], fun _ => ⟨hFR, hFI, hm.symm, hs.symm, he.symm, hw⟩, fun z => absurd hb z⟩
  refine go_aload_n dX9_goLives_0 rfl ?_
  refine go_cVv (as := []) dX9_goLives_1 mX9_asNow kX9_97 iX9_asNow sX9_asNow rfl rfl rfl rfl (rX9_asNow) rfl rfl rfl ?_
  refine go_aload_n dX9_goLives_4 rfl ?_
  refine go_iconst (v := 0) dX9_goLives_5 (by decide) ?_
  refine go_put dX9_goLives_6 fX9_100 (fun _ => rfl) (fun _ => rfl) rfl rfl ?_
  refine go_aload_n dX9_goLives_9 rfl ?_
  refine go_bipush (v := (-6)) dX9_goLives_10 (by decide) ?_
  refine go_put dX9_goLives_12 fX9_103 (fun _ => rfl) (fun _ => rfl) rfl rfl ?_
  refine go_iconst (v := 0) dX9_goLives_15 (by decide) ?_
  refine go_istore_n (L' := [_, _, _, _, _]) dX9_goLives_16 rfl rfl rfl ?_
  refine go_heap (h2 := (hp nw i0 i1 pd lv pl mt nt (mG (s_said (s_there m (nI th)) (nI c)) (m_book m) 0 0 (m_reason m) 0 (-6)))) rfl ?_
  exact key 60 0 (F0, A0, 0, -6, -6, 0, -6) (m_book m) 0 0 (m_reason m) 0 (-6) _ _ _ (by omega) (by omega) (by unfold tellF; rfl) hff hFR hFI rfl rfl ⟨0, by omega, rfl⟩ rfl rfl rfl (Or.inl rfl)
