set_option maxRecDepth 100000 in
set_option maxHeartbeats 4000000 in
theorem lw_body {E : gE} {p : Program} {e : Env} {s : State} {m : MethodId} {args : Array Value} {below : List Frame} {meth : Method} {c : Code} {Z : State → Prop} {b N : Nat} {xs : Nat → Int32} (X : gX2 E yL_law cL_law 4 ret p s m meth c) (hX : va_X b N xs s s.heap) (hb : b < E.2.2.2) (h0 : s.heap.size = E.2.2.2) (hN : N ≤ 320) {i : Nat} (hi : i + 5 ≤ N) {h : gH} (hrel : RelH h) (kk : ∀ h2 : gH, RelH h2 → GoP E p e s m args below meth c 4 Z 10 65 1516 600000 7302250 1085 [some (.retAddr b), some (.ref 0), some (.ref 52), some (.int (nI i))] [] h2) : GoP E p e s m args below meth c 4 Z 10 65 1516 600000 7302250 26 [some (.retAddr b), some (.ref 0), some (.ref 52), some (.int (nI i))] [] h := by
  obtain ⟨k, hk, ek⟩ := pk_andE (xs i) (m := 31) 5 (by decide)
  refine gp_script X dL_law_26 rfl ?_
  refine gp_iload_n X dL_law_27 rfl ?_
  refine gp_sld (k := i) X dL_law_28 hX hb h0 (by omega) hN ?_
  refine gp_bipush (v := 31) X dL_law_29 (by decide) ?_
  refine gp_iand X dL_law_31 ?_
  refine gp_topi_eq ek ?_
  rcases (show k = 0 ∨ k = 1 ∨ k = 2 ∨ k = 3 ∨ k = 4 ∨ k = 5 ∨ k = 6 ∨ k = 7 ∨ k = 8 ∨ k = 9 ∨ k = 10 ∨ k = 11 ∨ k = 12 ∨ k = 13 ∨ k = 14 ∨ k = 15 ∨ k = 16 ∨ k = 17 ∨ k = 18 ∨ k = 19 ∨ k = 20 ∨ k = 21 ∨ k = 22 ∨ k = 23 ∨ k = 24 ∨ k = 25 ∨ k = 26 ∨ k = 27 ∨ k = 28 ∨ k = 29 ∨ k = 30 ∨ k = 31 by omega) with rfl | rfl | rfl | rfl | rfl | rfl | rfl | rfl | rfl | rfl | rfl | rfl | rfl | rfl | rfl | rfl | rfl | rfl | rfl | rfl | rfl | rfl | rfl | rfl | rfl | rfl | rfl | rfl | rfl | rfl | rfl | rfl
  · refine gp_tableIn (x := nI 0) (tgt := 172) X dL_law_32 (by decide) (by decide) rfl (by decide) ?_
    exact lw_c0 X hX hb h0 hN hi hrel kk
  · refine gp_tableIn (x := nI 1) (tgt := 215) X dL_law_32 (by decide) (by decide) rfl (by decide) ?_
    exact lw_c1 X hX hb h0 hN hi hrel kk
  · refine gp_tableIn (x := nI 2) (tgt := 238) X dL_law_32 (by decide) (by decide) rfl (by decide) ?_
    exact lw_c2 X hX hb h0 hN hi hrel kk
  · refine gp_tableIn (x := nI 3) (tgt := 271) X dL_law_32 (by decide) (by decide) rfl (by decide) ?_
    exact lw_c3 X hX hb h0 hN hi hrel kk
  · refine gp_tableIn (x := nI 4) (tgt := 294) X dL_law_32 (by decide) (by decide) rfl (by decide) ?_
    exact lw_c4 X hX hb h0 hN hi hrel kk
  · refine gp_tableIn (x := nI 5) (tgt := 307) X dL_law_32 (by decide) (by decide) rfl (by decide) ?_
    exact lw_c5 X hX hb h0 hN hi hrel kk
  · refine gp_tableIn (x := nI 6) (tgt := 320) X dL_law_32 (by decide) (by decide) rfl (by decide) ?_
    exact lw_c6 X hX hb h0 hN hi hrel kk
  · refine gp_tableIn (x := nI 7) (tgt := 343) X dL_law_32 (by decide) (by decide) rfl (by decide) ?_
    exact lw_c7 X hX hb h0 hN hi hrel kk
  · refine gp_tableIn (x := nI 8) (tgt := 356) X dL_law_32 (by decide) (by decide) rfl (by decide) ?_
    exact lw_c8 X hX hb h0 hN hi hrel kk
  · refine gp_tableIn (x := nI 9) (tgt := 389) X dL_law_32 (by decide) (by decide) rfl (by decide) ?_
    exact lw_c9 X hX hb h0 hN hi hrel kk
  · refine gp_tableIn (x := nI 10) (tgt := 422) X dL_law_32 (by decide) (by decide) rfl (by decide) ?_
    exact lw_c10 X hX hb h0 hN hi hrel kk
  · refine gp_tableIn (x := nI 11) (tgt := 445) X dL_law_32 (by decide) (by decide) rfl (by decide) ?_
    exact lw_c11 X hX hb h0 hN hi hrel kk
  · refine gp_tableIn (x := nI 12) (tgt := 478) X dL_law_32 (by decide) (by decide) rfl (by decide) ?_
    exact lw_c12 X hX hb h0 hN hi hrel kk
  · refine gp_tableIn (x := nI 13) (tgt := 501) X dL_law_32 (by decide) (by decide) rfl (by decide) ?_
    exact lw_c13 X hX hb h0 hN hi hrel kk
  · refine gp_tableIn (x := nI 14) (tgt := 545) X dL_law_32 (by decide) (by decide) rfl (by decide) ?_
    exact lw_c14 X hX hb h0 hN hi hrel kk
  · refine gp_tableIn (x := nI 15) (tgt := 578) X dL_law_32 (by decide) (by decide) rfl (by decide) ?_
    exact lw_c15 X hX hb h0 hN hi hrel kk
  · refine gp_tableIn (x := nI 16) (tgt := 622) X dL_law_32 (by decide) (by decide) rfl (by decide) ?_
    exact lw_c16 X hX hb h0 hN hi hrel kk
  · refine gp_tableIn (x := nI 17) (tgt := 676) X dL_law_32 (by decide) (by decide) rfl (by decide) ?_
    exact lw_c17 X hX hb h0 hN hi hrel kk
  · refine gp_tableIn (x := nI 18) (tgt := 699) X dL_law_32 (by decide) (by decide) rfl (by decide) ?_
    exact lw_c18 X hX hb h0 hN hi hrel kk
  · refine gp_tableIn (x := nI 19) (tgt := 712) X dL_law_32 (by decide) (by decide) rfl (by decide) ?_
    exact lw_c19 X hX hb h0 hN hi hrel kk
  · refine gp_tableIn (x := nI 20) (tgt := 745) X dL_law_32 (by decide) (by decide) rfl (by decide) ?_
    exact lw_c20 X hX hb h0 hN hi hrel kk
  · refine gp_tableIn (x := nI 21) (tgt := 778) X dL_law_32 (by decide) (by decide) rfl (by decide) ?_
    exact lw_c21 X hX hb h0 hN hi hrel kk
  · refine gp_tableIn (x := nI 22) (tgt := 801) X dL_law_32 (by decide) (by decide) rfl (by decide) ?_
    exact lw_c22 X hX hb h0 hN hi hrel kk
  · refine gp_tableIn (x := nI 23) (tgt := 855) X dL_law_32 (by decide) (by decide) rfl (by decide) ?_
    exact lw_c23 X hX hb h0 hN hi hrel kk
  · refine gp_tableIn (x := nI 24) (tgt := 924) X dL_law_32 (by decide) (by decide) rfl (by decide) ?_
    exact lw_c24 X hX hb h0 hN hi hrel kk
  · refine gp_tableIn (x := nI 25) (tgt := 937) X dL_law_32 (by decide) (by decide) rfl (by decide) ?_
    exact lw_c25 X hX hb h0 hN hi hrel kk
  · refine gp_tableIn (x := nI 26) (tgt := 950) X dL_law_32 (by decide) (by decide) rfl (by decide) ?_
    exact lw_c26 X hX hb h0 hN hi hrel kk
  · refine gp_tableIn (x := nI 27) (tgt := 973) X dL_law_32 (by decide) (by decide) rfl (by decide) ?_
    exact lw_c27 X hX hb h0 hN hi hrel kk
  · refine gp_tableIn (x := nI 28) (tgt := 1016) X dL_law_32 (by decide) (by decide) rfl (by decide) ?_
    exact lw_c28 X hX hb h0 hN hi hrel kk
  · refine gp_tableIn (x := nI 29) (tgt := 1039) X dL_law_32 (by decide) (by decide) rfl (by decide) ?_
    exact lw_c29 X hX hb h0 hN hi hrel kk
  · refine gp_tableIn (x := nI 30) (tgt := 1062) X dL_law_32 (by decide) (by decide) rfl (by decide) ?_
    exact lw_c30 X hX hb h0 hN hi hrel kk
  · refine gp_tableOut (x := nI 31) (tgt := 1085) X dL_law_32 (Or.inr (by decide)) (by decide) ?_
    exact kk h hrel
set_option maxRecDepth 100000 in
set_option maxHeartbeats 4000000 in
theorem lw_loop {E : gE} {p : Program} {e : Env} {s : State} {m : MethodId} {args : Array Value} {below : List Frame} {meth : Method} {c : Code} {Z : State → Prop} {b N : Nat} {xs : Nat → Int32} (X : gX2 E yL_law cL_law 4 ret p s m meth c) (hX : va_X b N xs s s.heap) (hb : b < E.2.2.2) (h0 : s.heap.size = E.2.2.2) (hN : N ≤ 320) (kz : ∀ (i : Nat) (h : gH), GoP E p e s m args below meth c 4 Z 10 65 1516 600000 7302250 1091 [some (.retAddr b), some (.ref 0), some (.ref 52), some (.int (nI i))] [] h) : ∀ (n i : Nat) (h : gH), N ≤ i + n → i ≤ 400 → RelH h → GoP E p e s m args below meth c 4 Z 10 65 1516 600000 7302250 18 [some (.retAddr b), some (.ref 0), some (.ref 52), some (.int (nI i))] [] h
  | n, i, h, hn, hi4, hrel => by
    have e5 : (nI N - 5).toInt = (N : Int) - 5 := by
      have h5 : (5 : Int32).toInt = 5 := rfl
      rw [i_sub (by rw [nI_toInt (by omega), h5]; omega) (by rw [nI_toInt (by omega), h5]; omega), nI_toInt (by omega), h5]
    refine gp_iload_n X dL_law_18 rfl ?_
    refine gp_script X dL_law_19 rfl ?_
    refine gp_slen X dL_law_20 hX hb h0 ?_
    refine gp_iconst (v := 5) X dL_law_21 (by decide) ?_
    refine gp_isub X dL_law_22 ?_
    refine gp_icmp_gt (tgt := 1091) X dL_law_23 (by decide) (fun _ => kz i h) (fun q => ?_)
    have hi : i + 5 ≤ N := by
      rw [Int32.lt_iff_toInt_lt, e5, nI_toInt (by omega)] at q
      omega
    refine lw_body X hX hb h0 hN hi hrel (fun h2 hr2 => ?_)
    refine gp_iinc (v := nI (i + 5)) (L' := [_, _, _, _]) X dL_law_1085 rfl (nI_add i 5) rfl rfl rfl ?_
    refine gp_goto (tgt := 18) X dL_law_1088 (by decide) ?_
    exact lw_loop X hX hb h0 hN kz (n - 1) (i + 5) h2 (by omega) (by omega) hr2
termination_by n => n
decreasing_by omega
set_option maxRecDepth 100000 in
set_option maxHeartbeats 4000000 in
theorem law_K {s : State} {b : Nat} (hts : ∀ w ∈ lw_tbl, w.before #[Value.ref b] s = true) : ∃ (D : va_G) (ar : Nat → ClassId), ∀ (l : Launch) (n : Nat), gK (l, D, ar, n) s := by
  obtain ⟨c0, i0, k0⟩ := u_known (C := RX0) (T := TX0) (N := 5) (n := 5) hts gclX0.2.1 (hts _ aX0)
  obtain ⟨c1, i1, k1⟩ := u_known (C := RX1) (T := TX1) (N := 7) (n := 7) hts gclX1.2.1 (hts _ aX1)
  obtain ⟨c2, i2, k2⟩ := u_known (C := RX2) (T := TX2) (N := 7) (n := 7) hts gclX2.2.1 (hts _ aX2)
  obtain ⟨c3, i3, k3⟩ := u_known (C := RX3) (T := TX3) (N := 3) (n := 3) hts gclX3.2.1 (hts _ aX3)
  obtain ⟨c4, i4, k4⟩ := u_known (C := RX4) (T := TX4) (N := 2) (n := 2) hts gclX4.2.1 (hts _ aX4)
  obtain ⟨c5, i5, k5⟩ := u_known (C := RX5) (T := TX5) (N := 2) (n := 2) hts gclX5.2.1 (hts _ aX5)
  obtain ⟨c6, i6, k6⟩ := u_known (C := RX6) (T := TX6) (N := 3) (n := 3) hts gclX6.2.1 (hts _ aX6)
  obtain ⟨c7, i7, k7⟩ := u_known (C := RX7) (T := TX7) (N := 6) (n := 6) hts gclX7.2.1 (hts _ aX7)
  obtain ⟨c8, i8, k8⟩ := u_known (C := RX8) (T := TX8) (N := 7) (n := 7) hts gclX8.2.1 (hts _ aX8)
  obtain ⟨c9, i9, k9⟩ := u_known (C := RX9) (T := TX9) (N := 22) (n := 22) hts gclX9.2.1 (hts _ aX9)
  obtain ⟨cI, kI, pI, f1, f2, f3⟩ := Cond.arrayClass_spec (hts _ ac_int)
  obtain ⟨cL, kL, pL, l1, l2, l3⟩ := Cond.arrayClass_spec (hts _ ac_long)
  obtain ⟨cZ, kZ, pZ, z1, z2, z3⟩ := Cond.arrayClass_spec (hts _ ac_boolean)
  have hov : (Cond.arrayOver (.object "SignedSheets$World")).before #[Value.ref b] s = true := hts _ (List.mem_of_getElem? (i := 124) (by decide +kernel))
  obtain ⟨comp, cQ, kQ, g1, g2, g3, g4, g5⟩ := Cond.arrayOver_spec hov
  refine ⟨(fun k => if k = 0 then c0 else if k = 1 then c1 else if k = 2 then c2 else if k = 3 then c3 else if k = 4 then c4 else if k = 5 then c5 else if k = 6 then c6 else if k = 7 then c7 else if k = 8 then c8 else c9, fun k => if k = 0 then i0 else if k = 1 then i1 else if k = 2 then i2 else if k = 3 then i3 else if k = 4 then i4 else if k = 5 then i5 else if k = 6 then i6 else if k = 7 then i7 else if k = 8 then i8 else i9), fun k => if k = 0 then cI else if k = 1 then cL else if k = 2 then cZ else cQ, fun l n => ⟨⟨fun w hw hg a => word_at (wh_rfl s) (good_of_word hg) (hts w hw), fun a i x h hm => va_Nw.of rfl (hts _ hm), va_AO.of hov⟩, ?_, ?_⟩⟩
  · intro k q hq
    match k, hq with
    | 0, hq => cases hq; exact k0
    | 1, hq => cases hq; exact k1
    | 2, hq => cases hq; exact k2
    | 3, hq => cases hq; exact k3
    | 4, hq => cases hq; exact k4
    | 5, hq => cases hq; exact k5
    | 6, hq => cases hq; exact k6
    | 7, hq => cases hq; exact k7
    | 8, hq => cases hq; exact k8
    | 9, hq => cases hq; exact k9
    | k + 10, hq => simp [vwCl] at hq
  · intro k q hq
    match k, hq with
    | 0, hq => cases hq; exact ⟨fun n z => ⟨fun k h => (by cases h), kI, f2, pI, f3⟩, f1⟩
    | 1, hq => cases hq; exact ⟨fun n z => ⟨fun k h => (by cases h), kL, l2, pL, l3⟩, l1⟩
    | 2, hq => cases hq; exact ⟨fun n z => ⟨fun k h => (by cases h), kZ, z2, pZ, z3⟩, z1⟩
    | 3, hq => cases hq; exact ⟨fun n z => ⟨fun k h => (by cases h), kQ, g3, comp, g4⟩, kQ, comp, g3, g4, g1, g5⟩
    | k + 4, hq => simp [gtys] at hq
