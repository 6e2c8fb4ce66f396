def leftB (th s p : Nat) : Bool := tb th p && !(tb s p)
/-- slips with PERSON p for the act behind the set s: Sl slips, T tails of acts, F tails of PERSONS -/
def slW (Sl T Ft : Nat → Int32) (s p : Nat) : Int32 := abI (T (pcN s) - Ft p) + Sl (s ||| 2 ^ p)
def wsR (th : Nat) (Sl Wy T Ft : Nat → Int32) (s : Nat) : Nat → Int32 × Int32
  | 0 => (60, 0)
  | p + 1 =>
    if leftB th s p then
      (if (wsR th Sl Wy T Ft s p).1 ≤ slW Sl T Ft s p then
        (if slW Sl T Ft s p = (wsR th Sl Wy T Ft s p).1 then ((wsR th Sl Wy T Ft s p).1, (wsR th Sl Wy T Ft s p).2 + Wy (s ||| 2 ^ p)) else wsR th Sl Wy T Ft s p)
       else (slW Sl T Ft s p, 0 + Wy (s ||| 2 ^ p)))
    else wsR th Sl Wy T Ft s p
def oN (r : Option Nat) : Int32 := match r with
  | none => -6
  | some p => nI p
def fwR (th : Nat) (Sl T Ft : Nat → Int32) (s : Nat) : Nat → Nat → Option Nat
  | 0, _ => none
  | n + 1, p => if leftB th s p then (if slW Sl T Ft s p = Sl s then some p else fwR th Sl T Ft s n (p + 1)) else fwR th Sl T Ft s n (p + 1)
/-- the writer of the act n behind the set s -/
def woR (th : Nat) (Sl T Ft : Nat → Int32) : Nat → Nat → Option Nat
  | 0, s => fwR th Sl T Ft s 6 0
  | n + 1, s => match fwR th Sl T Ft s 6 0 with
    | none => none
    | some p => woR th Sl T Ft n (s ||| 2 ^ p)
def tdR (T : Nat → Int32) (z : Int32) : Nat → (Nat → Int32)
  | 0 => T
  | k + 1 => tdR (upd T k (rmI z 10)) (z / 10) k
/-- the sets below k, from k - 1 down: subsets of th are weighed -/
def wgR (th : Nat) (T Ft : Nat → Int32) (Sl Wy : Nat → Int32) : Nat → (Nat → Int32) × (Nat → Int32)
  | 0 => (Sl, Wy)
  | k + 1 => if k &&& (63 ^^^ th) = 0 then wgR th T Ft (upd Sl k (wsR th Sl Wy T Ft k 6).1) (upd Wy k (wsR th Sl Wy T Ft k 6).2) k else wgR th T Ft Sl Wy k
def weighF (th : Nat) (Ft : Nat → Int32) (z : Int32) (M : MatS) : MatS :=
  ((wgR th (tdR M.2.2 z (pcN th)) Ft (upd M.1 th 0) (upd M.2.1 th 1) th).1, (wgR th (tdR M.2.2 z (pcN th)) Ft (upd M.1 th 0) (upd M.2.1 th 1) th).2, tdR M.2.2 z (pcN th))
theorem fwR_lt {th : Nat} {Sl T Ft : Nat → Int32} {s : Nat} : ∀ (n p q : Nat), p + n = 6 → fwR th Sl T Ft s n p = some q → q < 6
  | 0, p, q, h, e => by simp [fwR] at e
  | n + 1, p, q, h, e => by
    rw [fwR] at e
    split at e
    · split at e
      · cases e
        omega
      · exact fwR_lt n (p + 1) q (by omega) e
    · exact fwR_lt n (p + 1) q (by omega) e
theorem nI_n6 {q : Nat} (h : q < 6) : ¬ nI q = -6 := by
  obtain ⟨rfl⟩ | ⟨rfl⟩ | ⟨rfl⟩ | ⟨rfl⟩ | ⟨rfl⟩ | ⟨rfl⟩ : q = 0 ∨ q = 1 ∨ q = 2 ∨ q = 3 ∨ q = 4 ∨ q = 5 := by omega
  all_goals decide
set_option maxRecDepth 100000 in
set_option maxHeartbeats 4000000 in
theorem rX3_isLeft {E : gE} {d : Nat} {nw i0 i1 : WorldS} {pd : PadS} {lv : LivesS} {pl : PlanS} {mt : MatS} {nt : NetS} {m : ModS} {th : Nat} {s p : Nat} (ht : th < 64) (hs64 : s < 64) (hp6 : p < 6) : Ret E yX3_isLeft cX3_isLeft 3 (some .boolean) (d + 2) 0 0 [.ref 2, .int (nI s), .int (nI p)] (hp ((nI th, nw.1.2), nw.2) i0 i1 pd lv pl mt nt m) (dt (some (.int (b2i (leftB th s p)))) (hp ((nI th, nw.1.2), nw.2) i0 i1 pd lv pl mt nt m)) := by
  refine ret_of_go (L := [_, _, _]) (by decide) (Nat.le_of_ble_eq_true rfl) rfl ?_
  refine go_aload_n dX3_isLeft_0 rfl ?_
  refine go_iload_n dX3_isLeft_1 rfl ?_
  refine go_cV (as := [_]) dX3_isLeft_2 mX1_has kX3_43 iX1_has sX1_has rfl rfl rfl rfl (rX1_has_n) rfl rfl rfl ?_
  rw [has_tb th ht p hp6]
  refine go_bif_eq (tgt := 20) dX3_isLeft_5 (by decide) (fun q5 => ?_) (fun q5 => ?_)
  · refine go_iconst (v := 0) dX3_isLeft_20 (by decide) ?_
    refine go_zret dX3_isLeft_21 (by decide) rfl rfl ?_
    exact ⟨by first | (rw [leftB, q5]; rfl) | (rw [(nI01 (bit01 s p)).2] at q13; rw [leftB, q5, Bool.true_and]; simp [tb, q13, b2i]; done), rfl⟩
  · refine go_iload_n dX3_isLeft_8 rfl ?_
    refine go_iload_n dX3_isLeft_9 rfl ?_
    refine go_ishr dX3_isLeft_10 ?_
    refine go_iconst (v := 1) dX3_isLeft_11 (by decide) ?_
    refine go_iand dX3_isLeft_12 ?_
    refine go_topi_eq (sh_bit s hs64 p hp6) ?_
    refine go_if_ne (tgt := 20) dX3_isLeft_13 (by decide) (fun q13 => ?_) (fun q13 => ?_)
    · refine go_iconst (v := 0) dX3_isLeft_20 (by decide) ?_
      refine go_zret dX3_isLeft_21 (by decide) rfl rfl ?_
      exact ⟨by first | (rw [leftB, q5]; rfl) | (rw [(nI01 (bit01 s p)).2] at q13; rw [leftB, q5, Bool.true_and]; simp [tb, q13, b2i]; done), rfl⟩
    · refine go_iconst (v := 1) dX3_isLeft_16 (by decide) ?_
      refine go_goto (tgt := 21) dX3_isLeft_17 (by decide) ?_
      refine go_zret dX3_isLeft_21 (by decide) rfl rfl ?_
      exact ⟨by first | (rw [leftB, q5]; rfl) | (rw [(nI01 (bit01 s p)).2] at q13; rw [leftB, q5, Bool.true_and]; simp [tb, q13, b2i]; done), rfl⟩
set_option maxRecDepth 100000 in
set_option maxHeartbeats 4000000 in
theorem rX3_slipsWith {E : gE} {d : Nat} {nw i0 i1 : WorldS} {pd : PadS} {lv : LivesS} {pl : PlanS} {mt : MatS} {nt : NetS} {m : ModS} {th : Nat} {s p : Nat} (hs64 : s < 64) (hp6 : p < 6) (hl : tb s p = false) : Ret E yX3_slipsWith cX3_slipsWith 5 (some .int) (d + 1) 0 0 [.ref 45, .ref 2, .int (nI s), .int (nI p)] (hp ((nI th, nw.1.2), nw.2) i0 i1 pd lv pl mt nt m) (dt (some (.int (slW mt.1 mt.2.2 (ft nw.1) s p))) (hp ((nI th, nw.1.2), nw.2) i0 i1 pd lv pl mt nt m)) := by
  refine ret_of_go (L := [_, _, _, _, _]) (by decide) (Nat.le_of_ble_eq_true rfl) rfl ?_
  refine go_iload_n dX3_slipsWith_0 rfl ?_
  refine go_cS (as := [_]) dX3_slipsWith_1 mJ6_bitCount_0f7a4 kX3_47 tJ6_bitCount_0f7a4 rfl rfl (rJ6_bitCount_0f7a4) rfl rfl rfl ?_
  refine go_topi_eq (bc_pc s (by omega)) ?_
  refine go_istore (L' := [_, _, _, _, _]) dX3_slipsWith_4 rfl rfl rfl ?_
  refine go_aload_n dX3_slipsWith_6 rfl ?_
  refine go_get dX3_slipsWith_7 fX3_18 rfl rfl ?_
  refine go_iload dX3_slipsWith_10 rfl ?_
  refine go_ialdN (pcN s) dX3_slipsWith_12 rfl (pc_left s hs64 p hp6 hl) rfl ?_
  refine go_aload_n dX3_slipsWith_13 rfl ?_
  refine go_get dX3_slipsWith_14 fX3_53 rfl rfl ?_
  refine go_iload_n dX3_slipsWith_17 rfl ?_
  refine go_ialdN (p) dX3_slipsWith_18 rfl (hp6) rfl ?_
  refine go_isub dX3_slipsWith_19 ?_
  refine go_mabs dX3_slipsWith_20 mkX3_56 rfl rfl rfl ?_
  refine go_aload_n dX3_slipsWith_23 rfl ?_
  refine go_get dX3_slipsWith_24 fX3_9 rfl rfl ?_
  refine go_iload_n dX3_slipsWith_27 rfl ?_
  refine go_iconst (v := 1) dX3_slipsWith_28 (by decide) ?_
  refine go_iload_n dX3_slipsWith_29 rfl ?_
  refine go_ishl dX3_slipsWith_30 ?_
  refine go_ior dX3_slipsWith_31 ?_
  refine go_topi_eq (or_bit s hs64 p hp6).1 ?_
  refine go_ialdN (s ||| 2 ^ p) dX3_slipsWith_32 rfl ((or_bit s hs64 p hp6).2) rfl ?_
  refine go_iadd dX3_slipsWith_33 ?_
  refine go_iret dX3_slipsWith_34 rfl rfl ?_
  exact ⟨rfl, rfl⟩
theorem left_tb {th s p : Nat} (h : leftB th s p = true) : tb s p = false := by
  simp only [leftB, Bool.and_eq_true, Bool.not_eq_true'] at h
  exact h.2
set_option maxRecDepth 100000 in
set_option maxHeartbeats 4000000 in
theorem rX3_weighSet {E : gE} {d : Nat} {nw i0 i1 : WorldS} {pd : PadS} {lv : LivesS} {pl : PlanS} {mt : MatS} {nt : NetS} {m : ModS} {th : Nat} {s : Nat} (ht : th < 64) (hs64 : s < 64) : Ret E yX3_weighSet cX3_weighSet 7 none (d + 3) 0 0 [.ref 45, .ref 2, .int (nI s)] (hp ((nI th, nw.1.2), nw.2) i0 i1 pd lv pl mt nt m) (dt none (hp ((nI th, nw.1.2), nw.2) i0 i1 pd lv pl (upd mt.1 s (wsR th mt.1 mt.2.1 mt.2.2 (ft nw.1) s 6).1, upd mt.2.1 s (wsR th mt.1 mt.2.1 mt.2.2 (ft nw.1) s 6).2, mt.2.2) nt m)) := by
  refine ret_of_go (L := [_, _, _, _, _, _, _]) (by decide) (Nat.le_of_ble_eq_true rfl) rfl ?_
  have key : ∀ (n p : Nat) (fe co : Int32) (a6 : Option Value), p + n = 6 → fe = (wsR th mt.1 mt.2.1 mt.2.2 (ft nw.1) s p).1 → co = (wsR th mt.1 mt.2.1 mt.2.2 (ft nw.1) s p).2 → Go E yX3_weighSet cX3_weighSet 7 none (d + 3) 0 0 0 0 9 [some (.ref 45), some (.ref 2), some (.int (nI s)), some (.int fe), some (.int co), some (.int (nI p)), a6] [] (hp ((nI th, nw.1.2), nw.2) i0 i1 pd lv pl mt nt m) (dt none (hp ((nI th, nw.1.2), nw.2) i0 i1 pd lv pl (upd mt.1 s (wsR th mt.1 mt.2.1 mt.2.2 (ft nw.1) s 6).1, upd mt.2.1 s (wsR th mt.1 mt.2.1 mt.2.2 (ft nw.1) s 6).2, mt.2.2) nt m)) := by
    intro n
    induction n with
    | zero =>
      intro p fe co a6 hp6 h1 h2
      obtain rfl : p = 6 := by omega
      refine go_iload dX3_weighSet_9 rfl ?_
      refine go_bipush (v := 6) dX3_weighSet_11 (by decide) ?_
      refine go_icmp_ge (tgt := 76) dX3_weighSet_13 (by decide) (fun q13 => ?_) (fun q => absurd (nI_le (a := 6) (b := 6) (by decide) (by decide)) q)
      refine go_aload_n dX3_weighSet_76 rfl ?_
      refine go_get dX3_weighSet_77 fX3_9 rfl rfl ?_
      refine go_iload_n dX3_weighSet_80 rfl ?_
      refine go_iload_n dX3_weighSet_81 rfl ?_
      refine go_iastN (s) dX3_weighSet_82 rfl (hs64) rfl ?_
      refine go_aload_n dX3_weighSet_83 rfl ?_
      refine go_get dX3_weighSet_84 fX3_15 rfl rfl ?_
      refine go_iload_n dX3_weighSet_87 rfl ?_
      refine go_iload dX3_weighSet_88 rfl ?_
      refine go_iastN (s) dX3_weighSet_90 rfl (hs64) rfl ?_
      refine go_vret dX3_weighSet_91 rfl rfl ?_
      exact ⟨rfl, by rw [h1, h2]; rfl⟩
    | succ n ih =>
      intro p fe co a6 hp6 h1 h2
      refine go_iload dX3_weighSet_9 rfl ?_
      refine go_bipush (v := 6) dX3_weighSet_11 (by decide) ?_
      refine go_icmp_ge (tgt := 76) dX3_weighSet_13 (by decide) (fun q => absurd q (nI_ge (a := p) (b := 6) (by omega) (by decide))) (fun q13 => ?_)
      refine go_aload_n dX3_weighSet_16 rfl ?_
      refine go_iload_n dX3_weighSet_17 rfl ?_
      refine go_iload dX3_weighSet_18 rfl ?_
      refine go_cS (as := [_, _, _]) dX3_weighSet_20 mX3_isLeft kX3_35 tX3_isLeft rfl rfl (rX3_isLeft (p := p) ht hs64 (by omega)) rfl rfl rfl ?_
      refine go_bif_eq (tgt := 70) dX3_weighSet_23 (by decide) (fun q23 => ?_) (fun q23 => ?_)
      · refine go_iinc (v := nI (p + 1)) (L' := [_, _, _, _, _, _, _]) dX3_weighSet_70 rfl (nI_1 p) rfl rfl rfl ?_
        refine go_goto (tgt := 9) dX3_weighSet_73 (by decide) ?_
        exact ih (p + 1) _ _ _ (by omega) (by rw [wsR, if_neg (by rw [q23]; decide)]; exact h1) (by rw [wsR, if_neg (by rw [q23]; decide)]; exact h2)
      · refine go_aload_n dX3_weighSet_26 rfl ?_
        refine go_aload_n dX3_weighSet_27 rfl ?_
        refine go_iload_n dX3_weighSet_28 rfl ?_
        refine go_iload dX3_weighSet_29 rfl ?_
        refine go_cV (as := [_, _, _]) dX3_weighSet_31 mX3_slipsWith kX3_39 iX3_slipsWith sX3_slipsWith rfl rfl rfl rfl (rX3_slipsWith (p := p) hs64 (by omega) (left_tb q23)) rfl rfl rfl ?_
        refine go_istore (L' := [_, _, _, _, _, _, _]) dX3_weighSet_34 rfl rfl rfl ?_
        refine go_iload dX3_weighSet_36 rfl ?_
        refine go_iload_n dX3_weighSet_38 rfl ?_
        refine go_icmp_ge (tgt := 48) dX3_weighSet_39 (by decide) (fun q39 => ?_) (fun q39 => ?_)
        · refine go_iload dX3_weighSet_48 rfl ?_
          refine go_iload_n dX3_weighSet_50 rfl ?_
          refine go_icmp_ne (tgt := 70) dX3_weighSet_51 (by decide) (fun q51 => ?_) (fun q51 => ?_)
          · refine go_iinc (v := nI (p + 1)) (L' := [_, _, _, _, _, _, _]) dX3_weighSet_70 rfl (nI_1 p) rfl rfl rfl ?_
            refine go_goto (tgt := 9) dX3_weighSet_73 (by decide) ?_
            exact ih (p + 1) _ _ _ (by omega) (by rw [wsR, if_pos q23, if_pos (by rw [← h1]; exact q39), if_neg (by rw [← h1]; exact q51)]; exact h1) (by rw [wsR, if_pos q23, if_pos (by rw [← h1]; exact q39), if_neg (by rw [← h1]; exact q51)]; exact h2)
          · refine go_iload dX3_weighSet_54 rfl ?_
            refine go_aload_n dX3_weighSet_56 rfl ?_
            refine go_get dX3_weighSet_57 fX3_15 rfl rfl ?_
            refine go_iload_n dX3_weighSet_60 rfl ?_
            refine go_iconst (v := 1) dX3_weighSet_61 (by decide) ?_
            refine go_iload dX3_weighSet_62 rfl ?_
            refine go_ishl dX3_weighSet_64 ?_
            refine go_ior dX3_weighSet_65 ?_
            refine go_topi_eq (or_bit s hs64 p (by omega)).1 ?_
            refine go_ialdN (s ||| 2 ^ p) dX3_weighSet_66 rfl ((or_bit s hs64 p (by omega)).2) rfl ?_
            refine go_iadd dX3_weighSet_67 ?_
            refine go_istore (L' := [_, _, _, _, _, _, _]) dX3_weighSet_68 rfl rfl rfl ?_
            refine go_iinc (v := nI (p + 1)) (L' := [_, _, _, _, _, _, _]) dX3_weighSet_70 rfl (nI_1 p) rfl rfl rfl ?_
            refine go_goto (tgt := 9) dX3_weighSet_73 (by decide) ?_
            exact ih (p + 1) _ _ _ (by omega) (by rw [wsR, if_pos q23, if_pos (by rw [← h1]; exact q39), if_pos (by rw [← h1]; exact q51)]; exact h1) (by rw [wsR, if_pos q23, if_pos (by rw [← h1]; exact q39), if_pos (by rw [← h1]; exact q51), h2])
        · refine go_iload dX3_weighSet_42 rfl ?_
          refine go_istore_n (L' := [_, _, _, _, _, _, _]) dX3_weighSet_44 rfl rfl rfl ?_
          refine go_iconst (v := 0) dX3_weighSet_45 (by decide) ?_
          refine go_istore (L' := [_, _, _, _, _, _, _]) dX3_weighSet_46 rfl rfl rfl ?_
          refine go_iload dX3_weighSet_48 rfl ?_
          refine go_iload_n dX3_weighSet_50 rfl ?_
          refine go_icmp_ne (tgt := 70) dX3_weighSet_51 (by decide) (fun q51 => ?_) (fun q51 => ?_)
          · refine go_iinc (v := nI (p + 1)) (L' := [_, _, _, _, _, _, _]) dX3_weighSet_70 rfl (nI_1 p) rfl rfl rfl ?_
            refine go_goto (tgt := 9) dX3_weighSet_73 (by decide) ?_
            exact absurd rfl q51
          · refine go_iload dX3_weighSet_54 rfl ?_
            refine go_aload_n dX3_weighSet_56 rfl ?_
            refine go_get dX3_weighSet_57 fX3_15 rfl rfl ?_
            refine go_iload_n dX3_weighSet_60 rfl ?_
            refine go_iconst (v := 1) dX3_weighSet_61 (by decide) ?_
            refine go_iload dX3_weighSet_62 rfl ?_
            refine go_ishl dX3_weighSet_64 ?_
            refine go_ior dX3_weighSet_65 ?_
            refine go_topi_eq (or_bit s hs64 p (by omega)).1 ?_
            refine go_ialdN (s ||| 2 ^ p) dX3_weighSet_66 rfl ((or_bit s hs64 p (by omega)).2) rfl ?_
            refine go_iadd dX3_weighSet_67 ?_
            refine go_istore (L' := [_, _, _, _, _, _, _]) dX3_weighSet_68 rfl rfl rfl ?_
            refine go_iinc (v := nI (p + 1)) (L' := [_, _, _, _, _, _, _]) dX3_weighSet_70 rfl (nI_1 p) rfl rfl rfl ?_
            refine go_goto (tgt := 9) dX3_weighSet_73 (by decide) ?_
            exact ih (p + 1) _ _ _ (by omega) (by rw [wsR, if_pos q23, if_neg (by rw [← h1]; exact q39)]) (by rw [wsR, if_pos q23, if_neg (by rw [← h1]; exact q39)])
  refine go_bipush (v := 60) dX3_weighSet_0 (by decide) ?_
  refine go_istore_n (L' := [_, _, _, _, _, _, _]) dX3_weighSet_2 rfl rfl rfl ?_
  refine go_iconst (v := 0) dX3_weighSet_3 (by decide) ?_
  refine go_istore (L' := [_, _, _, _, _, _, _]) dX3_weighSet_4 rfl rfl rfl ?_
  refine go_iconst (v := 0) dX3_weighSet_6 (by decide) ?_
  refine go_istore (L' := [_, _, _, _, _, _, _]) dX3_weighSet_7 rfl rfl rfl ?_
  exact key 6 0 _ _ _ rfl rfl rfl
set_option maxRecDepth 100000 in
set_option maxHeartbeats 4000000 in
theorem rX3_firstWriter {E : gE} {d : Nat} {nw i0 i1 : WorldS} {pd : PadS} {lv : LivesS} {pl : PlanS} {mt : MatS} {nt : NetS} {m : ModS} {th : Nat} {s : Nat} (ht : th < 64) (hs64 : s < 64) : Ret E yX3_firstWriter cX3_firstWriter 4 (some .int) (d + 3) 0 0 [.ref 45, .ref 2, .int (nI s)] (hp ((nI th, nw.1.2), nw.2) i0 i1 pd lv pl mt nt m) (dt (some (.int (oN (fwR th mt.1 mt.2.2 (ft nw.1) s 6 0)))) (hp ((nI th, nw.1.2), nw.2) i0 i1 pd lv pl mt nt m)) := by
  refine ret_of_go (L := [_, _, _, _]) (by decide) (Nat.le_of_ble_eq_true rfl) rfl ?_
  have key : ∀ (n p : Nat), p + n = 6 → fwR th mt.1 mt.2.2 (ft nw.1) s n p = fwR th mt.1 mt.2.2 (ft nw.1) s 6 0 → Go E yX3_firstWriter cX3_firstWriter 4 (some .int) (d + 3) 0 0 0 0 2 [some (.ref 45), some (.ref 2), some (.int (nI s)), some (.int (nI p))] [] (hp ((nI th, nw.1.2), nw.2) i0 i1 pd lv pl mt nt m) (dt (some (.int (oN (fwR th mt.1 mt.2.2 (ft nw.1) s 6 0)))) (hp ((nI th, nw.1.2), nw.2) i0 i1 pd lv pl mt nt m)) := by
    intro n
    induction n with
    | zero =>
      intro p hp6 hf
      obtain rfl : p = 6 := by omega
      refine go_iload_n dX3_firstWriter_2 rfl ?_
      refine go_bipush (v := 6) dX3_firstWriter_3 (by decide) ?_
      refine go_icmp_ge (tgt := 41) dX3_firstWriter_5 (by decide) (fun q5 => ?_) (fun q => absurd (nI_le (a := 6) (b := 6) (by decide) (by decide)) q)
      refine go_bipush (v := (-6)) dX3_firstWriter_41 (by decide) ?_
      refine go_iret dX3_firstWriter_43 rfl rfl ?_
      exact ⟨by rw [← hf]; rfl, rfl⟩
    | succ n ih =>
      intro p hp6 hf
      rw [fwR] at hf
      refine go_iload_n dX3_firstWriter_2 rfl ?_
      refine go_bipush (v := 6) dX3_firstWriter_3 (by decide) ?_
      refine go_icmp_ge (tgt := 41) dX3_firstWriter_5 (by decide) (fun q => absurd q (nI_ge (a := p) (b := 6) (by omega) (by decide))) (fun q5 => ?_)
      refine go_aload_n dX3_firstWriter_8 rfl ?_
      refine go_iload_n dX3_firstWriter_9 rfl ?_
      refine go_iload_n dX3_firstWriter_10 rfl ?_
      refine go_cS (as := [_, _, _]) dX3_firstWriter_11 mX3_isLeft kX3_35 tX3_isLeft rfl rfl (rX3_isLeft (p := p) ht hs64 (by omega)) rfl rfl rfl ?_
      refine go_bif_eq (tgt := 35) dX3_firstWriter_14 (by decide) (fun q14 => ?_) (fun q14 => ?_)
      · refine go_iinc (v := nI (p + 1)) (L' := [_, _, _, _]) dX3_firstWriter_35 rfl (nI_1 p) rfl rfl rfl ?_
        refine go_goto (tgt := 2) dX3_firstWriter_38 (by decide) ?_
        exact ih (p + 1) (by omega) (by rw [← hf, if_neg (by rw [q14]; decide)])
      · refine go_aload_n dX3_firstWriter_17 rfl ?_
        refine go_aload_n dX3_firstWriter_18 rfl ?_
        refine go_iload_n dX3_firstWriter_19 rfl ?_
        refine go_iload_n dX3_firstWriter_20 rfl ?_
        refine go_cV (as := [_, _, _]) dX3_firstWriter_21 mX3_slipsWith kX3_39 iX3_slipsWith sX3_slipsWith rfl rfl rfl rfl (rX3_slipsWith (p := p) hs64 (by omega) (left_tb q14)) rfl rfl rfl ?_
        refine go_aload_n dX3_firstWriter_24 rfl ?_
        refine go_get dX3_firstWriter_25 fX3_9 rfl rfl ?_
        refine go_iload_n dX3_firstWriter_28 rfl ?_
        refine go_ialdN (s) dX3_firstWriter_29 rfl (hs64) rfl ?_
        refine go_icmp_ne (tgt := 35) dX3_firstWriter_30 (by decide) (fun q30 => ?_) (fun q30 => ?_)
        · refine go_iinc (v := nI (p + 1)) (L' := [_, _, _, _]) dX3_firstWriter_35 rfl (nI_1 p) rfl rfl rfl ?_
          refine go_goto (tgt := 2) dX3_firstWriter_38 (by decide) ?_
          exact ih (p + 1) (by omega) (by rw [← hf, if_pos q14, if_neg q30])
        · refine go_iload_n dX3_firstWriter_33 rfl ?_
          refine go_iret dX3_firstWriter_34 rfl rfl ?_
          exact ⟨by rw [← hf, if_pos q14, if_pos q30]; rfl, rfl⟩
  refine go_iconst (v := 0) dX3_firstWriter_0 (by decide) ?_
  refine go_istore_n (L' := [_, _, _, _]) dX3_firstWriter_1 rfl rfl rfl ?_
  exact key 6 0 rfl rfl
set_option maxRecDepth 100000 in
set_option maxHeartbeats 4000000 in
theorem rX3_writerOf {E : gE} {d : Nat} {nw i0 i1 : WorldS} {pd : PadS} {lv : LivesS} {pl : PlanS} {mt : MatS} {nt : NetS} {m : ModS} {th : Nat} {a : Nat} (ht : th < 64) (ha : a ≤ 6) : Ret E yX3_writerOf cX3_writerOf 6 (some .int) (d + 4) 0 0 [.ref 45, .ref 2, .int (nI a)] (hp ((nI th, nw.1.2), nw.2) i0 i1 pd lv pl mt nt m) (dt (some (.int (oN (woR th mt.1 mt.2.2 (ft nw.1) a 0)))) (hp ((nI th, nw.1.2), nw.2) i0 i1 pd lv pl mt nt m)) := by
  refine ret_of_go (L := [_, _, _, _, _, _]) (by decide) (Nat.le_of_ble_eq_true rfl) rfl ?_
  have key : ∀ (n i s : Nat) (a4 : Option Value), i + n = a → s < 64 → woR th mt.1 mt.2.2 (ft nw.1) n s = woR th mt.1 mt.2.2 (ft nw.1) a 0 → Go E yX3_writerOf cX3_writerOf 6 (some .int) (d + 4) 0 0 0 0 9 [some (.ref 45), some (.ref 2), some (.int (nI a)), some (.int (nI s)), a4, some (.int (nI i))] [] (hp ((nI th, nw.1.2), nw.2) i0 i1 pd lv pl mt nt m) (dt (some (.int (oN (woR th mt.1 mt.2.2 (ft nw.1) a 0)))) (hp ((nI th, nw.1.2), nw.2) i0 i1 pd lv pl mt nt m)) := by
    intro n
    induction n with
    | zero =>
      intro i s a4 hi hs64 hf
      obtain rfl : i = a := by omega
      rw [woR] at hf
      cases hw : fwR th mt.1 mt.2.2 (ft nw.1) s 6 0 with
      | none =>
        refine go_iload dX3_writerOf_9 rfl ?_
        refine go_iload_n dX3_writerOf_11 rfl ?_
        refine go_icmp_gt (tgt := 46) dX3_writerOf_12 (by decide) (fun q => absurd q (nI_nlt (a := i) (b := i) (by omega) (by omega))) (fun q12 => ?_)
        refine go_aload_n dX3_writerOf_15 rfl ?_
        refine go_aload_n dX3_writerOf_16 rfl ?_
        refine go_iload_n dX3_writerOf_17 rfl ?_
        refine go_cV (as := [_, _]) dX3_writerOf_18 mX3_firstWriter kX3_61 iX3_firstWriter sX3_firstWriter rfl rfl rfl rfl (rX3_firstWriter ht hs64) rfl rfl rfl ?_
        rw [hw]
        refine go_istore (L' := [_, _, _, _, _, _]) dX3_writerOf_21 rfl rfl rfl ?_
        refine go_iload dX3_writerOf_23 rfl ?_
        refine go_bipush (v := (-6)) dX3_writerOf_25 (by decide) ?_
        refine go_icmp_ne (tgt := 33) dX3_writerOf_27 (by decide) (fun q => absurd rfl q) (fun q27 => ?_)
        refine go_bipush (v := (-6)) dX3_writerOf_30 (by decide) ?_
        refine go_iret dX3_writerOf_32 rfl rfl ?_
        exact ⟨by rw [← hf, hw]; rfl, rfl⟩
      | some p =>
        have hp6 := fwR_lt 6 0 p rfl hw
        refine go_iload dX3_writerOf_9 rfl ?_
        refine go_iload_n dX3_writerOf_11 rfl ?_
        refine go_icmp_gt (tgt := 46) dX3_writerOf_12 (by decide) (fun q => absurd q (nI_nlt (a := i) (b := i) (by omega) (by omega))) (fun q12 => ?_)
        refine go_aload_n dX3_writerOf_15 rfl ?_
        refine go_aload_n dX3_writerOf_16 rfl ?_
        refine go_iload_n dX3_writerOf_17 rfl ?_
        refine go_cV (as := [_, _]) dX3_writerOf_18 mX3_firstWriter kX3_61 iX3_firstWriter sX3_firstWriter rfl rfl rfl rfl (rX3_firstWriter ht hs64) rfl rfl rfl ?_
        rw [hw]
        refine go_istore (L' := [_, _, _, _, _, _]) dX3_writerOf_21 rfl rfl rfl ?_
        refine go_iload dX3_writerOf_23 rfl ?_
        refine go_bipush (v := (-6)) dX3_writerOf_25 (by decide) ?_
        refine go_icmp_ne (tgt := 33) dX3_writerOf_27 (by decide) (fun q27 => ?_) (fun q => absurd q (nI_n6 hp6))
        refine go_iload_n dX3_writerOf_33 rfl ?_
        refine go_iconst (v := 1) dX3_writerOf_34 (by decide) ?_
        refine go_iload dX3_writerOf_35 rfl ?_
        refine go_ishl dX3_writerOf_37 ?_
        refine go_ior dX3_writerOf_38 ?_
        refine go_topi_eq (or_bit s hs64 p hp6).1 ?_
        refine go_istore_n (L' := [_, _, _, _, _, _]) dX3_writerOf_39 rfl rfl rfl ?_
        refine go_iinc (v := nI (i + 1)) (L' := [_, _, _, _, _, _]) dX3_writerOf_40 rfl (nI_1 i) rfl rfl rfl ?_
        refine go_goto (tgt := 9) dX3_writerOf_43 (by decide) ?_
        skip
        refine go_iload dX3_writerOf_9 rfl ?_
        refine go_iload_n dX3_writerOf_11 rfl ?_
        refine go_icmp_gt (tgt := 46) dX3_writerOf_12 (by decide) (fun q12 => ?_) (fun q => absurd (nI_lt (a := i) (b := i + 1) (by omega) (by omega)) q)
        refine go_iload dX3_writerOf_46 rfl ?_
        refine go_iret dX3_writerOf_48 rfl rfl ?_
        exact ⟨by rw [← hf, hw], rfl⟩
    | succ n ih =>
      intro i s a4 hi hs64 hf
      rw [woR] at hf
      cases hw : fwR th mt.1 mt.2.2 (ft nw.1) s 6 0 with
      | none =>
        rw [hw] at hf
        refine go_iload dX3_writerOf_9 rfl ?_
        refine go_iload_n dX3_writerOf_11 rfl ?_
        refine go_icmp_gt (tgt := 46) dX3_writerOf_12 (by decide) (fun q => absurd q (nI_nlt (a := a) (b := i) (by omega) (by omega))) (fun q12 => ?_)
        refine go_aload_n dX3_writerOf_15 rfl ?_
        refine go_aload_n dX3_writerOf_16 rfl ?_
        refine go_iload_n dX3_writerOf_17 rfl ?_
        refine go_cV (as := [_, _]) dX3_writerOf_18 mX3_firstWriter kX3_61 iX3_firstWriter sX3_firstWriter rfl rfl rfl rfl (rX3_firstWriter ht hs64) rfl rfl rfl ?_
        rw [hw]
        refine go_istore (L' := [_, _, _, _, _, _]) dX3_writerOf_21 rfl rfl rfl ?_
        refine go_iload dX3_writerOf_23 rfl ?_
        refine go_bipush (v := (-6)) dX3_writerOf_25 (by decide) ?_
        refine go_icmp_ne (tgt := 33) dX3_writerOf_27 (by decide) (fun q => absurd rfl q) (fun q27 => ?_)
        refine go_bipush (v := (-6)) dX3_writerOf_30 (by decide) ?_
        refine go_iret dX3_writerOf_32 rfl rfl ?_
        exact ⟨by rw [← hf]; rfl, rfl⟩
      | some p =>
        rw [hw] at hf
        have hp6 := fwR_lt 6 0 p rfl hw
        refine go_iload dX3_writerOf_9 rfl ?_
        refine go_iload_n dX3_writerOf_11 rfl ?_
        refine go_icmp_gt (tgt := 46) dX3_writerOf_12 (by decide) (fun q => absurd q (nI_nlt (a := a) (b := i) (by omega) (by omega))) (fun q12 => ?_)
        refine go_aload_n dX3_writerOf_15 rfl ?_
        refine go_aload_n dX3_writerOf_16 rfl ?_
        refine go_iload_n dX3_writerOf_17 rfl ?_
        refine go_cV (as := [_, _]) dX3_writerOf_18 mX3_firstWriter kX3_61 iX3_firstWriter sX3_firstWriter rfl rfl rfl rfl (rX3_firstWriter ht hs64) rfl rfl rfl ?_
        rw [hw]
        refine go_istore (L' := [_, _, _, _, _, _]) dX3_writerOf_21 rfl rfl rfl ?_
        refine go_iload dX3_writerOf_23 rfl ?_
        refine go_bipush (v := (-6)) dX3_writerOf_25 (by decide) ?_
        refine go_icmp_ne (tgt := 33) dX3_writerOf_27 (by decide) (fun q27 => ?_) (fun q => absurd q (nI_n6 hp6))
        refine go_iload_n dX3_writerOf_33 rfl ?_
        refine go_iconst (v := 1) dX3_writerOf_34 (by decide) ?_
        refine go_iload dX3_writerOf_35 rfl ?_
        refine go_ishl dX3_writerOf_37 ?_
        refine go_ior dX3_writerOf_38 ?_
        refine go_topi_eq (or_bit s hs64 p hp6).1 ?_
        refine go_istore_n (L' := [_, _, _, _, _, _]) dX3_writerOf_39 rfl rfl rfl ?_
        refine go_iinc (v := nI (i + 1)) (L' := [_, _, _, _, _, _]) dX3_writerOf_40 rfl (nI_1 i) rfl rfl rfl ?_
        refine go_goto (tgt := 9) dX3_writerOf_43 (by decide) ?_
        exact ih (i + 1) (s ||| 2 ^ p) _ (by omega) (or_bit s hs64 p hp6).2 hf
  refine go_iconst (v := 0) dX3_writerOf_0 (by decide) ?_
  refine go_istore_n (L' := [_, _, _, _, _, _]) dX3_writerOf_1 rfl rfl rfl ?_
  refine go_bipush (v := (-6)) dX3_writerOf_2 (by decide) ?_
  refine go_istore (L' := [_, _, _, _, _, _]) dX3_writerOf_4 rfl rfl rfl ?_
  refine go_iconst (v := 0) dX3_writerOf_6 (by decide) ?_
  refine go_istore (L' := [_, _, _, _, _, _]) dX3_writerOf_7 rfl rfl rfl ?_
  exact key a 0 0 _ (by omega) (by decide) rfl
theorem nI_dec (k : Nat) : nI k + Int32.ofInt (-1) = nI k - 1 := by
  rw [show Int32.ofInt (-1) = -1 from by decide, Int32.sub_eq_add_neg]
theorem nI0_and {k t : Nat} (h : nI (k &&& t) = 0) (hk : k < 64 := by omega) : k &&& t = 0 := by
  have h1 : k &&& t ≤ k := Nat.and_le_left
  rcases Nat.eq_zero_or_pos (k &&& t) with h2 | h2
  · exact h2
  · exact absurd h (nI_ne0 h2 (by omega))
set_option maxRecDepth 100000 in
set_option maxHeartbeats 4000000 in
theorem rX3_weigh {E : gE} {d : Nat} {nw i0 i1 : WorldS} {pd : PadS} {lv : LivesS} {pl : PlanS} {mt : MatS} {nt : NetS} {m : ModS} {th : Nat} {z : Int32} (ht : th < 64) : Ret E yX3_weigh cX3_weigh 5 none (d + 4) 0 0 [.ref 45, .ref 2, .int z] (hp ((nI th, nw.1.2), nw.2) i0 i1 pd lv pl mt nt m) (dt none (hp ((nI th, nw.1.2), nw.2) i0 i1 pd lv pl (weighF th (ft nw.1) z mt) nt m)) := by
  refine ret_of_go (L := [_, _, _, _, _]) (by decide) (Nat.le_of_ble_eq_true rfl) rfl ?_
  have key2 : ∀ (k : Nat) (Sl Wy : Nat → Int32) (r3 : Int32), k ≤ 63 → wgR th (tdR mt.2.2 z (pcN th)) (ft nw.1) Sl Wy k = wgR th (tdR mt.2.2 z (pcN th)) (ft nw.1) (upd mt.1 th 0) (upd mt.2.1 th 1) th → Go E yX3_weigh cX3_weigh 5 none (d + 4) 0 0 0 0 65 [some (.ref 45), some (.ref 2), some (.int z), some (.int r3), some (.int (nI k - 1))] [] (hp ((nI th, nw.1.2), nw.2) i0 i1 pd lv pl (Sl, Wy, (tdR mt.2.2 z (pcN th))) nt m) (dt none (hp ((nI th, nw.1.2), nw.2) i0 i1 pd lv pl (weighF th (ft nw.1) z mt) nt m)) := by
    intro k
    induction k with
    | zero =>
      intro Sl Wy r3 hk hf
      rw [wgR] at hf
      refine go_iload dX3_weigh_65 rfl ?_
      refine go_if_lt (tgt := 95) dX3_weigh_67 (by decide) (fun q67 => ?_) (fun q => absurd (by decide) q)
      refine go_vret dX3_weigh_95 rfl rfl ?_
      exact ⟨rfl, by rw [weighF, ← hf]⟩
    | succ k ih =>
      intro Sl Wy r3 hk hf
      rw [wgR] at hf
      rw [nI_pred]
      refine go_iload dX3_weigh_65 rfl ?_
      refine go_if_lt (tgt := 95) dX3_weigh_67 (by decide) (fun q => absurd q (nI_pos (by omega))) (fun q67 => ?_)
      refine go_iload dX3_weigh_70 rfl ?_
      refine go_aload_n dX3_weigh_72 rfl ?_
      refine go_get dX3_weigh_73 fX3_27 rfl rfl ?_
      refine go_iconst (v := (-1)) dX3_weigh_76 (by decide) ?_
      refine go_ixor dX3_weigh_77 ?_
      refine go_iand dX3_weigh_78 ?_
      refine go_topi_eq (and_not k (by omega) th ht) ?_
      refine go_if_ne (tgt := 89) dX3_weigh_79 (by decide) (fun q79 => ?_) (fun q79 => ?_)
      · refine go_iinc (v := nI k - 1) (L' := [_, _, _, _, _]) dX3_weigh_89 rfl (nI_dec k) rfl rfl rfl ?_
        refine go_goto (tgt := 65) dX3_weigh_92 (by decide) ?_
        exact ih Sl Wy _ (by omega) (by rw [← hf, if_neg (fun z9 => q79 (by rw [z9]; rfl))])
      · refine go_aload_n dX3_weigh_82 rfl ?_
        refine go_aload_n dX3_weigh_83 rfl ?_
        refine go_iload dX3_weigh_84 rfl ?_
        refine go_cVv (as := [_, _]) dX3_weigh_86 mX3_weighSet kX3_31 iX3_weighSet sX3_weighSet rfl rfl rfl rfl (rX3_weighSet (s := k) ht (by omega)) rfl rfl rfl ?_
        refine go_iinc (v := nI k - 1) (L' := [_, _, _, _, _]) dX3_weigh_89 rfl (nI_dec k) rfl rfl rfl ?_
        refine go_goto (tgt := 65) dX3_weigh_92 (by decide) ?_
        exact ih _ _ _ (by omega) (by rw [← hf, if_pos (nI0_and q79)])
  have key1 : ∀ (k : Nat) (r : Int32) (T : Nat → Int32), k ≤ 6 → tdR T r k = (tdR mt.2.2 z (pcN th)) → Go E yX3_weigh cX3_weigh 5 none (d + 4) 0 0 0 0 10 [some (.ref 45), some (.ref 2), some (.int z), some (.int r), some (.int (nI k - 1))] [] (hp ((nI th, nw.1.2), nw.2) i0 i1 pd lv pl (mt.1, mt.2.1, T) nt m) (dt none (hp ((nI th, nw.1.2), nw.2) i0 i1 pd lv pl (weighF th (ft nw.1) z mt) nt m)) := by
    intro k
    induction k with
    | zero =>
      intro r T hk hf
      rw [tdR] at hf
      subst hf
      refine go_iload dX3_weigh_10 rfl ?_
      refine go_if_lt (tgt := 37) dX3_weigh_12 (by decide) (fun q12 => ?_) (fun q => absurd (by decide) q)
      refine go_aload_n dX3_weigh_37 rfl ?_
      refine go_get dX3_weigh_38 fX3_9 rfl rfl ?_
      refine go_aload_n dX3_weigh_41 rfl ?_
      refine go_get dX3_weigh_42 fX3_27 rfl rfl ?_
      refine go_iconst (v := 0) dX3_weigh_45 (by decide) ?_
      refine go_iastN (th) dX3_weigh_46 rfl (ht) rfl ?_
      refine go_aload_n dX3_weigh_47 rfl ?_
      refine go_get dX3_weigh_48 fX3_15 rfl rfl ?_
      refine go_aload_n dX3_weigh_51 rfl ?_
      refine go_get dX3_weigh_52 fX3_27 rfl rfl ?_
      refine go_iconst (v := 1) dX3_weigh_55 (by decide) ?_
      refine go_iastN (th) dX3_weigh_56 rfl (ht) rfl ?_
      refine go_aload_n dX3_weigh_57 rfl ?_
      refine go_get dX3_weigh_58 fX3_27 rfl rfl ?_
      refine go_iconst (v := 1) dX3_weigh_61 (by decide) ?_
      refine go_isub dX3_weigh_62 ?_
      refine go_istore (L' := [_, _, _, _, _]) dX3_weigh_63 rfl rfl rfl ?_
      exact key2 th _ _ _ (by omega) rfl
    | succ k ih =>
      intro r T hk hf
      rw [tdR] at hf
      rw [nI_pred]
      refine go_iload dX3_weigh_10 rfl ?_
      refine go_if_lt (tgt := 37) dX3_weigh_12 (by decide) (fun q => absurd q (nI_pos (by omega))) (fun q12 => ?_)
      refine go_aload_n dX3_weigh_15 rfl ?_
      refine go_get dX3_weigh_16 fX3_18 rfl rfl ?_
      refine go_iload dX3_weigh_19 rfl ?_
      refine go_iload_n dX3_weigh_21 rfl ?_
      refine go_bipush (v := 10) dX3_weigh_22 (by decide) ?_
      refine go_irem dX3_weigh_24 (by decide) ?_
      refine go_iastN (k) dX3_weigh_25 rfl (by omega) rfl ?_
      refine go_iload_n dX3_weigh_26 rfl ?_
      refine go_bipush (v := 10) dX3_weigh_27 (by decide) ?_
      refine go_idiv dX3_weigh_29 (by decide) ?_
      refine go_istore_n (L' := [_, _, _, _, _]) dX3_weigh_30 rfl rfl rfl ?_
      refine go_iinc (v := nI k - 1) (L' := [_, _, _, _, _]) dX3_weigh_31 rfl (nI_dec k) rfl rfl rfl ?_
      refine go_goto (tgt := 10) dX3_weigh_34 (by decide) ?_
      exact ih _ _ (by omega) hf
  refine go_iload_n dX3_weigh_0 rfl ?_
  refine go_istore_n (L' := [_, _, _, _, _]) dX3_weigh_1 rfl rfl rfl ?_
  refine go_aload_n dX3_weigh_2 rfl ?_
  refine go_cV (as := []) dX3_weigh_3 mX1_count kX3_21 iX1_count sX1_count rfl rfl rfl rfl (rX1_count_n) rfl rfl rfl ?_
  refine go_topi_eq (bc_pc th (by omega)) ?_
  refine go_iconst (v := 1) dX3_weigh_6 (by decide) ?_
  refine go_isub dX3_weigh_7 ?_
  refine go_istore (L' := [_, _, _, _, _]) dX3_weigh_8 rfl rfl rfl ?_
  exact key1 (pcN th) z mt.2.2 (pc_le th ht) rfl
