def dvR (z : Int32) : Nat → Int32
  | 0 => z
  | k + 1 => dvR (z / 10) k
def laB (th : Nat) (z : Int32) : Bool := decide (0 ≤ z) && decide (dvR z (pcN th) = 0)
theorem tdR_s (T : Nat → Int32) (z : Int32) (k : Nat) : tdR T z (k + 1) = tdR (upd T k (rmI z 10)) (z / 10) k := by rw [tdR]
theorem dvR_s (z : Int32) (k : Nat) : dvR z (k + 1) = dvR (z / 10) k := by rw [dvR]
theorem hs_ac {nw i0 i1 : WorldS} {pd : PadS} {lv : LivesS} {pl : PlanS} {mt : MatS} {nt : NetS} {zbk znw zta zwe zsg zpa zev zwr zim zke : Nat → Int32} {zsi zsa zsd zfo zre zma zba zsl zwy : Int32} {zbe : Nat → Int64} {th : Nat} {T V2 : Nat → Int32} : hs (hp nw i0 i1 pd lv pl mt nt (zbk, znw, (nI th), zta, zwe, zsi, zsg, zsa, zpa, zsd, zfo, zre, zma, zba, zbe, zev, T, zwr, zsl, zwy, zim, zke)) 61 (.inl (0, 6, .inl V2)) = (hp nw i0 i1 pd lv pl mt nt (zbk, znw, (nI th), zta, zwe, zsi, zsg, zsa, zpa, zsd, zfo, zre, zma, zba, zbe, zev, V2, zwr, zsl, zwy, zim, zke)) := by simp only [hp, hs]
theorem nIm1_neg : nI 0 - 1 < 0 := by decide
theorem nIm1_nn {k : Nat} (h : k < 1000) : ¬ (nI (k + 1) - 1 < 0) := by
  rw [show nI (k + 1) - 1 = nI k from nI_pred k]
  exact Int32.not_lt.mpr (nI_nn (by omega))
set_option maxRecDepth 100000 in
set_option maxHeartbeats 4000000 in
theorem rX9_layActs {E : gE} {d : Nat} {nw i0 i1 : WorldS} {pd : PadS} {lv : LivesS} {pl : PlanS} {mt : MatS} {nt : NetS} {zbk znw zta zwe zsg zpa zev zac zwr zim zke : Nat → Int32} {zsi zsa zsd zfo zre zma zba zsl zwy : Int32} {zbe : Nat → Int64} {th : Nat} {z : Int32} (ht : th < 64) : Ret E yX9_layActs cX9_layActs 4 (some .boolean) (d + 1) 0 0 [.ref 52, .int z] (hp nw i0 i1 pd lv pl mt nt (zbk, znw, (nI th), zta, zwe, zsi, zsg, zsa, zpa, zsd, zfo, zre, zma, zba, zbe, zev, zac, zwr, zsl, zwy, zim, zke)) (dt (some (.int (b2i (laB th z)))) (hp nw i0 i1 pd lv pl mt nt (zbk, znw, (nI th), zta, zwe, zsi, zsg, zsa, zpa, zsd, zfo, zre, zma, zba, zbe, zev, (tdR zac z (pcN th)), zwr, zsl, zwy, zim, zke))) := by
  refine ret_of_go (L := [_, _, _, _]) (by decide) (Nat.le_of_ble_eq_true rfl) rfl ?_
  have key : ∀ (k : Nat) (T : Nat → Int32) (left : Int32), k ≤ 6 → (tdR zac z (pcN th)) = tdR T left k → (dvR z (pcN th)) = dvR left k → Go E yX9_layActs cX9_layActs 4 (some .boolean) (d + 1) 0 0 0 0 12 [some (.ref 52), some (.int z), some (.int left), some (.int (nI k - 1))] [] (hp nw i0 i1 pd lv pl mt nt (zbk, znw, (nI th), zta, zwe, zsi, zsg, zsa, zpa, zsd, zfo, zre, zma, zba, zbe, zev, T, zwr, zsl, zwy, zim, zke)) (dt (some (.int (b2i (laB th z)))) (hp nw i0 i1 pd lv pl mt nt (zbk, znw, (nI th), zta, zwe, zsi, zsg, zsa, zpa, zsd, zfo, zre, zma, zba, zbe, zev, (tdR zac z (pcN th)), zwr, zsl, zwy, zim, zke))) := by
    intro k
    induction k with
    | zero =>
      intro T left hk h1 h2
      have h1b : T = (tdR zac z (pcN th)) := h1.symm
      have h2b : left = (dvR z (pcN th)) := h2.symm
      subst h1b
      subst h2b
      refine go_iload_n dX9_layActs_12 rfl ?_
      refine go_if_lt (tgt := 37) dX9_layActs_13 (by decide) (fun q13 => ?_) (fun zq => absurd nIm1_neg zq)
      refine go_iload_n dX9_layActs_37 rfl ?_
      refine go_if_lt (tgt := 49) dX9_layActs_38 (by decide) (fun q38 => ?_) (fun q38 => ?_)
      · refine go_iconst (v := 0) dX9_layActs_49 (by decide) ?_
        refine go_zret dX9_layActs_50 (by decide) rfl rfl ?_
        exact ⟨by rw [laB, decide_eq_false (Int32.not_le.mpr q38)]; rfl, rfl⟩
      · refine go_iload_n dX9_layActs_41 rfl ?_
        refine go_if_ne (tgt := 49) dX9_layActs_42 (by decide) (fun q42 => ?_) (fun q42 => ?_)
        · refine go_iconst (v := 0) dX9_layActs_49 (by decide) ?_
          refine go_zret dX9_layActs_50 (by decide) rfl rfl ?_
          exact ⟨by rw [laB, decide_eq_false q42, Bool.and_false]; rfl, rfl⟩
        · refine go_iconst (v := 1) dX9_layActs_45 (by decide) ?_
          refine go_goto (tgt := 50) dX9_layActs_46 (by decide) ?_
          refine go_zret dX9_layActs_50 (by decide) rfl rfl ?_
          exact ⟨by rw [laB, decide_eq_true (Int32.not_lt.mp q38), decide_eq_true q42]; rfl, rfl⟩
    | succ k ih =>
      intro T left hk h1 h2
      rw [show nI (k + 1) - 1 = nI k from nI_pred k]
      refine go_iload_n dX9_layActs_12 rfl ?_
      refine go_if_lt (tgt := 37) dX9_layActs_13 (by decide) (fun zq => absurd zq (Int32.not_lt.mpr (nI_nn (by omega)))) (fun q13 => ?_)
      refine go_aload_n dX9_layActs_16 rfl ?_
      refine go_get dX9_layActs_17 fX9_35 rfl rfl ?_
      refine go_iload_n dX9_layActs_20 rfl ?_
      refine go_iload_n dX9_layActs_21 rfl ?_
      refine go_bipush (v := 10) dX9_layActs_22 (by decide) ?_
      refine go_irem dX9_layActs_24 (by decide) ?_
      refine go_iastN (k) dX9_layActs_25 rfl (by omega) rfl ?_
      refine go_heap (h2 := (hp nw i0 i1 pd lv pl mt nt (zbk, znw, (nI th), zta, zwe, zsi, zsg, zsa, zpa, zsd, zfo, zre, zma, zba, zbe, zev, (upd T k (rmI left 10)), zwr, zsl, zwy, zim, zke))) hs_ac ?_
      refine go_iload_n dX9_layActs_26 rfl ?_
      refine go_bipush (v := 10) dX9_layActs_27 (by decide) ?_
      refine go_idiv dX9_layActs_29 (by decide) ?_
      refine go_istore_n (L' := [_, _, _, _]) dX9_layActs_30 rfl rfl rfl ?_
      refine go_iinc (v := nI k - 1) (L' := [_, _, _, _]) dX9_layActs_31 rfl (nI_dec k) rfl rfl rfl ?_
      refine go_goto (tgt := 12) dX9_layActs_34 (by decide) ?_
      exact ih _ _ (by omega) (by rw [h1, tdR_s]) (by rw [h2, dvR_s])
  refine go_iload_n dX9_layActs_0 rfl ?_
  refine go_istore_n (L' := [_, _, _, _]) dX9_layActs_1 rfl rfl rfl ?_
  refine go_aload_n dX9_layActs_2 rfl ?_
  refine go_get dX9_layActs_3 fX9_52 rfl rfl ?_
  refine go_cS (as := [_]) dX9_layActs_6 mX9_bits kX9_60 tX9_bits rfl rfl (rX9_bits (by omega)) rfl rfl rfl ?_
  refine go_iconst (v := 1) dX9_layActs_9 (by decide) ?_
  refine go_isub dX9_layActs_10 ?_
  refine go_istore_n (L' := [_, _, _, _]) dX9_layActs_11 rfl rfl rfl ?_
  exact key (pcN th) zac z (pc_le th ht) rfl rfl
