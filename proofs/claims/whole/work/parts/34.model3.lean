set_option maxRecDepth 100000 in
set_option maxHeartbeats 4000000 in
theorem rX9_asNow {E : gE} {d : Nat} {nw i0 i1 : WorldS} {pd : PadS} {lv : LivesS} {pl : PlanS} {mt : MatS} {nt : NetS} {m : ModS} : Ret E yX9_asNow cX9_asNow 2 none d 0 0 [.ref 52] (hp nw i0 i1 pd lv pl mt nt m) (dt none (hp nw i0 i1 pd lv pl mt nt (s_forgeries (s_signed (s_now m (m_book m)) 0) 0))) := by
  refine ret_of_go (L := [_, _]) (by decide) (Nat.le_of_ble_eq_true rfl) rfl ?_
  have key : ∀ (n k : Nat), k + n = 61 → Go E yX9_asNow cX9_asNow 2 none d 0 0 0 0 2 [some (.ref 52), some (.int (nI k))] [] (hp nw i0 i1 pd lv pl mt nt (s_now m (fil (m_book m) (m_now m) k))) (dt none (hp nw i0 i1 pd lv pl mt nt (s_forgeries (s_signed (s_now m (m_book m)) 0) 0))) := by
    intro n
    induction n with
    | zero =>
      intro k hk
      obtain rfl : k = 61 := by omega
      refine go_ext (a := 54) (m_book m) rfl (fun j hj => fil_in hj) ?_
      refine go_iload_n dX9_asNow_2 rfl ?_
      refine go_bipush (v := 61) dX9_asNow_3 (by decide) ?_
      refine go_icmp_ge (tgt := 26) dX9_asNow_5 (by decide) (fun q5 => ?_) (fun zq => absurd (nI_le (a := 61) (b := 61) (by decide) (by decide)) zq)
      refine go_aload_n dX9_asNow_26 rfl ?_
      refine go_iconst (v := 0) dX9_asNow_27 (by decide) ?_
      refine go_put dX9_asNow_28 fX9_84 (fun _ => rfl) (fun _ => rfl) rfl rfl ?_
      refine go_aload_n dX9_asNow_31 rfl ?_
      refine go_iconst (v := 0) dX9_asNow_32 (by decide) ?_
      refine go_put dX9_asNow_33 fX9_87 (fun _ => rfl) (fun _ => rfl) rfl rfl ?_
      refine go_vret dX9_asNow_36 rfl rfl ?_
      exact ⟨rfl, rfl⟩
    | succ n ih =>
      intro k hk
      refine go_iload_n dX9_asNow_2 rfl ?_
      refine go_bipush (v := 61) dX9_asNow_3 (by decide) ?_
      refine go_icmp_ge (tgt := 26) dX9_asNow_5 (by decide) (fun zq => absurd zq (nI_ge (a := k) (b := 61) (by omega) (by decide))) (fun q5 => ?_)
      refine go_aload_n dX9_asNow_8 rfl ?_
      refine go_get dX9_asNow_9 fX9_13 rfl rfl ?_
      refine go_iload_n dX9_asNow_12 rfl ?_
      refine go_aload_n dX9_asNow_13 rfl ?_
      refine go_get dX9_asNow_14 fX9_7 rfl rfl ?_
      refine go_iload_n dX9_asNow_17 rfl ?_
      refine go_ialdN (k) dX9_asNow_18 rfl (by omega) rfl ?_
      refine go_iastN (k) dX9_asNow_19 rfl (by omega) rfl ?_
      refine go_iinc (v := nI (k + 1)) (L' := [_, _]) dX9_asNow_20 rfl (nI_1 k) rfl rfl rfl ?_
      refine go_goto (tgt := 2) dX9_asNow_23 (by decide) ?_
      have h9 := ih (k + 1) (by omega)
      rw [← fil_s] at h9
      exact h9
  refine go_iconst (v := 0) dX9_asNow_0 (by decide) ?_
  refine go_istore_n (L' := [_, _]) dX9_asNow_1 rfl rfl rfl ?_
  have h9 := key 61 0 rfl
  rw [fil_0] at h9
  exact h9
theorem mn_le {v b : Int32} (h : v ≤ b) : mnI b v = v := by
  unfold mnI
  split
  · rfl
  · next h2 => exact Int32.le_antisymm (Int32.not_lt.mp h2) h
theorem mn_gt {v b : Int32} (h : ¬ v ≤ b) : mnI b v = b := by
  unfold mnI
  rw [if_neg]
  intro h2
  exact h (Int32.le_of_lt h2)
set_option maxRecDepth 100000 in
set_option maxHeartbeats 4000000 in
theorem rX9_gains {E : gE} {d : Nat} {nw i0 i1 : WorldS} {pd : PadS} {lv : LivesS} {pl : PlanS} {mt : MatS} {nt : NetS} {m : ModS} {k : Nat} {w : Int32} (hk : k < 6) : Ret E yX9_gains cX9_gains 3 none d 0 0 [.ref 52, .int (nI k), .int w] (hp nw i0 i1 pd lv pl mt nt m) (dt none (hp nw i0 i1 pd lv pl mt nt (s_now m (upd (m_now m) (6 + k) (mnI 9999 (m_now m (6 + k) + w)))))) := by
  refine ret_of_go (L := [_, _, _]) (by decide) (Nat.le_of_ble_eq_true rfl) rfl ?_
  refine go_aload_n dX9_gains_0 rfl ?_
  refine go_get dX9_gains_1 fX9_13 rfl rfl ?_
  refine go_bipush (v := 6) dX9_gains_4 (by decide) ?_
  refine go_iload_n dX9_gains_6 rfl ?_
  refine go_iadd dX9_gains_7 ?_
  refine go_topi_eq (x := nI (6 + k)) (nI_add 6 k) ?_
  refine go_aload_n dX9_gains_8 rfl ?_
  refine go_get dX9_gains_9 fX9_13 rfl rfl ?_
  refine go_bipush (v := 6) dX9_gains_12 (by decide) ?_
  refine go_iload_n dX9_gains_14 rfl ?_
  refine go_iadd dX9_gains_15 ?_
  refine go_topi_eq (x := nI (6 + k)) (nI_add 6 k) ?_
  refine go_ialdN (6 + k) dX9_gains_16 rfl (by omega) rfl ?_
  refine go_iload_n dX9_gains_17 rfl ?_
  refine go_iadd dX9_gains_18 ?_
  refine go_sipush (v := 9999) dX9_gains_19 (by decide) ?_
  refine go_icmp_le (tgt := 31) dX9_gains_22 (by decide) (fun q22 => ?_) (fun q22 => ?_)
  · refine go_aload_n dX9_gains_31 rfl ?_
    refine go_get dX9_gains_32 fX9_13 rfl rfl ?_
    refine go_bipush (v := 6) dX9_gains_35 (by decide) ?_
    refine go_iload_n dX9_gains_37 rfl ?_
    refine go_iadd dX9_gains_38 ?_
    refine go_topi_eq (x := nI (6 + k)) (nI_add 6 k) ?_
    refine go_ialdN (6 + k) dX9_gains_39 rfl (by omega) rfl ?_
    refine go_iload_n dX9_gains_40 rfl ?_
    refine go_iadd dX9_gains_41 ?_
    refine go_iastN (6 + k) dX9_gains_42 rfl (by omega) rfl ?_
    refine go_vret dX9_gains_43 rfl rfl ?_
    exact ⟨rfl, by first | (rw [mn_le q22]; rfl) | (rw [mn_gt q22]; rfl)⟩
  · refine go_sipush (v := 9999) dX9_gains_25 (by decide) ?_
    refine go_goto (tgt := 42) dX9_gains_28 (by decide) ?_
    refine go_iastN (6 + k) dX9_gains_42 rfl (by omega) rfl ?_
    refine go_vret dX9_gains_43 rfl rfl ?_
    exact ⟨rfl, by first | (rw [mn_le q22]; rfl) | (rw [mn_gt q22]; rfl)⟩
set_option maxRecDepth 100000 in
set_option maxHeartbeats 4000000 in
theorem rX9_gets {E : gE} {d : Nat} {nw i0 i1 : WorldS} {pd : PadS} {lv : LivesS} {pl : PlanS} {mt : MatS} {nt : NetS} {m : ModS} {k : Nat} {w : Int32} (hk : k < 6) : Ret E yX9_gets cX9_gets 3 none d 0 0 [.ref 52, .int (nI k), .int w] (hp nw i0 i1 pd lv pl mt nt m) (dt none (hp nw i0 i1 pd lv pl mt nt (s_now m (upd (m_now m) k (mnI 400 (m_now m k + w)))))) := by
  refine ret_of_go (L := [_, _, _]) (by decide) (Nat.le_of_ble_eq_true rfl) rfl ?_
  refine go_aload_n dX9_gets_0 rfl ?_
  refine go_get dX9_gets_1 fX9_13 rfl rfl ?_
  refine go_iload_n dX9_gets_4 rfl ?_
  refine go_aload_n dX9_gets_5 rfl ?_
  refine go_get dX9_gets_6 fX9_13 rfl rfl ?_
  refine go_iload_n dX9_gets_9 rfl ?_
  refine go_ialdN (k) dX9_gets_10 rfl (by omega) rfl ?_
  refine go_iload_n dX9_gets_11 rfl ?_
  refine go_iadd dX9_gets_12 ?_
  refine go_sipush (v := 400) dX9_gets_13 (by decide) ?_
  refine go_icmp_le (tgt := 25) dX9_gets_16 (by decide) (fun q16 => ?_) (fun q16 => ?_)
  · refine go_aload_n dX9_gets_25 rfl ?_
    refine go_get dX9_gets_26 fX9_13 rfl rfl ?_
    refine go_iload_n dX9_gets_29 rfl ?_
    refine go_ialdN (k) dX9_gets_30 rfl (by omega) rfl ?_
    refine go_iload_n dX9_gets_31 rfl ?_
    refine go_iadd dX9_gets_32 ?_
    refine go_iastN (k) dX9_gets_33 rfl (by omega) rfl ?_
    refine go_vret dX9_gets_34 rfl rfl ?_
    exact ⟨rfl, by first | (rw [mn_le q16]; rfl) | (rw [mn_gt q16]; rfl)⟩
  · refine go_sipush (v := 400) dX9_gets_19 (by decide) ?_
    refine go_goto (tgt := 33) dX9_gets_22 (by decide) ?_
    refine go_iastN (k) dX9_gets_33 rfl (by omega) rfl ?_
    refine go_vret dX9_gets_34 rfl rfl ?_
    exact ⟨rfl, by first | (rw [mn_le q16]; rfl) | (rw [mn_gt q16]; rfl)⟩
set_option maxRecDepth 100000 in
set_option maxHeartbeats 4000000 in
theorem rX9_signAct_1 {E : gE} {d : Nat} {nw i0 i1 : WorldS} {pd : PadS} {lv : LivesS} {pl : PlanS} {mt : MatS} {nt : NetS} {m : ModS} {p w : Int32} (h1 : hasB (m_there m) p = false) : Ret E yX9_signAct cX9_signAct 3 (some .int) (d + 2) 0 0 [.ref 52, .int p, .int w] (hp nw i0 i1 pd lv pl mt nt m) (dt (some (.int 1)) (hp nw i0 i1 pd lv pl mt nt m)) := by
  refine ret_of_go (L := [_, _, _]) (by decide) (Nat.le_of_ble_eq_true rfl) rfl ?_
  refine go_aload_n dX9_signAct_0 rfl ?_
  refine go_iload_n dX9_signAct_1 rfl ?_
  refine go_cV (as := [_]) dX9_signAct_2 mX9_isThere kX9_64 iX9_isThere sX9_isThere rfl rfl rfl rfl (rX9_isThere) rfl rfl rfl ?_
  refine go_bn_f dX9_signAct_5 h1 ?_
  refine go_iconst (v := 1) dX9_signAct_8 (by decide) ?_
  refine go_iret dX9_signAct_9 rfl rfl ?_
  exact ⟨rfl, rfl⟩
set_option maxRecDepth 100000 in
set_option maxHeartbeats 4000000 in
theorem rX9_signAct_3 {E : gE} {d : Nat} {nw i0 i1 : WorldS} {pd : PadS} {lv : LivesS} {pl : PlanS} {mt : MatS} {nt : NetS} {m : ModS} {k : Nat} {w : Int32} (hk : k < 6) (h1 : hasB (m_there m) (nI k) = true) (h2 : m_now m k = 0) : Ret E yX9_signAct cX9_signAct 3 (some .int) (d + 2) 0 0 [.ref 52, .int (nI k), .int w] (hp nw i0 i1 pd lv pl mt nt m) (dt (some (.int 3)) (hp nw i0 i1 pd lv pl mt nt m)) := by
  refine ret_of_go (L := [_, _, _]) (by decide) (Nat.le_of_ble_eq_true rfl) rfl ?_
  refine go_aload_n dX9_signAct_0 rfl ?_
  refine go_iload_n dX9_signAct_1 rfl ?_
  refine go_cV (as := [_]) dX9_signAct_2 mX9_isThere kX9_64 iX9_isThere sX9_isThere rfl rfl rfl rfl (rX9_isThere) rfl rfl rfl ?_
  refine go_bn_t (tgt := 10) dX9_signAct_5 (by decide) h1 ?_
  refine go_aload_n dX9_signAct_10 rfl ?_
  refine go_get dX9_signAct_11 fX9_13 rfl rfl ?_
  refine go_iload_n dX9_signAct_14 rfl ?_
  refine go_ialdN (k) dX9_signAct_15 rfl (by omega) rfl ?_
  refine go_if_ne (tgt := 21) dX9_signAct_16 (by decide) (fun zq => absurd h2 zq) (fun q16 => ?_)
  refine go_iconst (v := 3) dX9_signAct_19 (by decide) ?_
  refine go_iret dX9_signAct_20 rfl rfl ?_
  exact ⟨rfl, rfl⟩
def mgain (nw : Nat → Int32) (k : Nat) (w : Int32) : Nat → Int32 := upd nw (6 + k) (mnI 9999 (nw (6 + k) + w))
set_option maxRecDepth 100000 in
set_option maxHeartbeats 4000000 in
theorem rX9_signAct_0 {E : gE} {d : Nat} {nw i0 i1 : WorldS} {pd : PadS} {lv : LivesS} {pl : PlanS} {mt : MatS} {nt : NetS} {m : ModS} {k : Nat} {w : Int32} (hk : k < 6) (h1 : hasB (m_there m) (nI k) = true) (h2 : ¬ m_now m k = 0) : Ret E yX9_signAct cX9_signAct 3 (some .int) (d + 2) 0 0 [.ref 52, .int (nI k), .int w] (hp nw i0 i1 pd lv pl mt nt m) (dt (some (.int 0)) (hp nw i0 i1 pd lv pl mt nt (s_signed (s_now m (mgain (upd (m_now m) k (m_now m k - 1)) k w)) (m_signed m + 1)))) := by
  refine ret_of_go (L := [_, _, _]) (by decide) (Nat.le_of_ble_eq_true rfl) rfl ?_
  refine go_aload_n dX9_signAct_0 rfl ?_
  refine go_iload_n dX9_signAct_1 rfl ?_
  refine go_cV (as := [_]) dX9_signAct_2 mX9_isThere kX9_64 iX9_isThere sX9_isThere rfl rfl rfl rfl (rX9_isThere) rfl rfl rfl ?_
  refine go_bn_t (tgt := 10) dX9_signAct_5 (by decide) h1 ?_
  refine go_aload_n dX9_signAct_10 rfl ?_
  refine go_get dX9_signAct_11 fX9_13 rfl rfl ?_
  refine go_iload_n dX9_signAct_14 rfl ?_
  refine go_ialdN (k) dX9_signAct_15 rfl (by omega) rfl ?_
  refine go_if_ne (tgt := 21) dX9_signAct_16 (by decide) (fun q16 => ?_) (fun zq => absurd zq h2)
  refine go_aload_n dX9_signAct_21 rfl ?_
  refine go_get dX9_signAct_22 fX9_13 rfl rfl ?_
  refine go_iload_n dX9_signAct_25 rfl ?_
  refine go_dup2 dX9_signAct_26 rfl rfl ?_
  refine go_ialdN (k) dX9_signAct_27 rfl (by omega) rfl ?_
  refine go_iconst (v := 1) dX9_signAct_28 (by decide) ?_
  refine go_isub dX9_signAct_29 ?_
  refine go_iastN (k) dX9_signAct_30 rfl (by omega) rfl ?_
  refine go_heap (h2 := (hp nw i0 i1 pd lv pl mt nt (s_now m (upd (m_now m) k (m_now m k - 1))))) rfl ?_
  refine go_aload_n dX9_signAct_31 rfl ?_
  refine go_iload_n dX9_signAct_32 rfl ?_
  refine go_iload_n dX9_signAct_33 rfl ?_
  refine go_cVv (as := [_, _]) dX9_signAct_34 mX9_gains kX9_90 iX9_gains sX9_gains rfl rfl rfl rfl (rX9_gains hk) rfl rfl rfl ?_
  refine go_aload_n dX9_signAct_37 rfl ?_
  refine go_dup dX9_signAct_38 rfl ?_
  refine go_get dX9_signAct_39 fX9_84 rfl rfl ?_
  refine go_iconst (v := 1) dX9_signAct_42 (by decide) ?_
  refine go_iadd dX9_signAct_43 ?_
  refine go_put dX9_signAct_44 fX9_84 (fun _ => rfl) (fun _ => rfl) rfl rfl ?_
  refine go_iconst (v := 0) dX9_signAct_47 (by decide) ?_
  refine go_iret dX9_signAct_48 rfl rfl ?_
  exact ⟨rfl, rfl⟩
set_option maxRecDepth 100000 in
set_option maxHeartbeats 4000000 in
theorem rX9_forge_1 {E : gE} {d : Nat} {nw i0 i1 : WorldS} {pd : PadS} {lv : LivesS} {pl : PlanS} {mt : MatS} {nt : NetS} {m : ModS} {p w : Int32} (h1 : hasB (m_there m) p = false) : Ret E yX9_forge cX9_forge 3 (some .int) (d + 2) 0 0 [.ref 52, .int p, .int w] (hp nw i0 i1 pd lv pl mt nt m) (dt (some (.int 1)) (hp nw i0 i1 pd lv pl mt nt m)) := by
  refine ret_of_go (L := [_, _, _]) (by decide) (Nat.le_of_ble_eq_true rfl) rfl ?_
  refine go_aload_n dX9_forge_0 rfl ?_
  refine go_iload_n dX9_forge_1 rfl ?_
  refine go_cV (as := [_]) dX9_forge_2 mX9_isThere kX9_64 iX9_isThere sX9_isThere rfl rfl rfl rfl (rX9_isThere) rfl rfl rfl ?_
  refine go_bn_f dX9_forge_5 h1 ?_
  refine go_iconst (v := 1) dX9_forge_8 (by decide) ?_
  refine go_iret dX9_forge_9 rfl rfl ?_
  exact ⟨rfl, rfl⟩
set_option maxRecDepth 100000 in
set_option maxHeartbeats 4000000 in
theorem rX9_forge_0 {E : gE} {d : Nat} {nw i0 i1 : WorldS} {pd : PadS} {lv : LivesS} {pl : PlanS} {mt : MatS} {nt : NetS} {m : ModS} {k : Nat} {w : Int32} (hk : k < 6) (h1 : hasB (m_there m) (nI k) = true) : Ret E yX9_forge cX9_forge 3 (some .int) (d + 2) 0 0 [.ref 52, .int (nI k), .int w] (hp nw i0 i1 pd lv pl mt nt m) (dt (some (.int 0)) (hp nw i0 i1 pd lv pl mt nt (s_forgeries (s_now m (upd (mgain (m_now m) k w) (12 + k) (mgain (m_now m) k w (12 + k) + 1))) (m_forgeries m + 1)))) := by
  refine ret_of_go (L := [_, _, _]) (by decide) (Nat.le_of_ble_eq_true rfl) rfl ?_
  refine go_aload_n dX9_forge_0 rfl ?_
  refine go_iload_n dX9_forge_1 rfl ?_
  refine go_cV (as := [_]) dX9_forge_2 mX9_isThere kX9_64 iX9_isThere sX9_isThere rfl rfl rfl rfl (rX9_isThere) rfl rfl rfl ?_
  refine go_bn_t (tgt := 10) dX9_forge_5 (by decide) h1 ?_
  refine go_aload_n dX9_forge_10 rfl ?_
  refine go_iload_n dX9_forge_11 rfl ?_
  refine go_iload_n dX9_forge_12 rfl ?_
  refine go_cVv (as := [_, _]) dX9_forge_13 mX9_gains kX9_90 iX9_gains sX9_gains rfl rfl rfl rfl (rX9_gains hk) rfl rfl rfl ?_
  refine go_aload_n dX9_forge_16 rfl ?_
  refine go_get dX9_forge_17 fX9_13 rfl rfl ?_
  refine go_bipush (v := 12) dX9_forge_20 (by decide) ?_
  refine go_iload_n dX9_forge_22 rfl ?_
  refine go_iadd dX9_forge_23 ?_
  refine go_topi_eq (x := nI (12 + k)) (nI_add 12 k) ?_
  refine go_dup2 dX9_forge_24 rfl rfl ?_
  refine go_ialdN (12 + k) dX9_forge_25 rfl (by omega) rfl ?_
  refine go_iconst (v := 1) dX9_forge_26 (by decide) ?_
  refine go_iadd dX9_forge_27 ?_
  refine go_iastN (12 + k) dX9_forge_28 rfl (by omega) rfl ?_
  refine go_aload_n dX9_forge_29 rfl ?_
  refine go_dup dX9_forge_30 rfl ?_
  refine go_get dX9_forge_31 fX9_87 rfl rfl ?_
  refine go_iconst (v := 1) dX9_forge_34 (by decide) ?_
  refine go_iadd dX9_forge_35 ?_
  refine go_put dX9_forge_36 fX9_87 (fun _ => rfl) (fun _ => rfl) rfl rfl ?_
  refine go_iconst (v := 0) dX9_forge_39 (by decide) ?_
  refine go_iret dX9_forge_40 rfl rfl ?_
  exact ⟨rfl, rfl⟩
set_option maxRecDepth 100000 in
set_option maxHeartbeats 4000000 in
theorem rX9_blot_1 {E : gE} {d : Nat} {nw i0 i1 : WorldS} {pd : PadS} {lv : LivesS} {pl : PlanS} {mt : MatS} {nt : NetS} {m : ModS} {p : Int32} (h1 : hasB (m_there m) p = false) : Ret E yX9_blot cX9_blot 2 (some .int) (d + 2) 0 0 [.ref 52, .int p] (hp nw i0 i1 pd lv pl mt nt m) (dt (some (.int 1)) (hp nw i0 i1 pd lv pl mt nt m)) := by
  refine ret_of_go (L := [_, _]) (by decide) (Nat.le_of_ble_eq_true rfl) rfl ?_
  refine go_aload_n dX9_blot_0 rfl ?_
  refine go_iload_n dX9_blot_1 rfl ?_
  refine go_cV (as := [_]) dX9_blot_2 mX9_isThere kX9_64 iX9_isThere sX9_isThere rfl rfl rfl rfl (rX9_isThere) rfl rfl rfl ?_
  refine go_bn_f dX9_blot_5 h1 ?_
  refine go_iconst (v := 1) dX9_blot_8 (by decide) ?_
  refine go_iret dX9_blot_9 rfl rfl ?_
  exact ⟨rfl, rfl⟩
set_option maxRecDepth 100000 in
set_option maxHeartbeats 4000000 in
theorem rX9_blot_3 {E : gE} {d : Nat} {nw i0 i1 : WorldS} {pd : PadS} {lv : LivesS} {pl : PlanS} {mt : MatS} {nt : NetS} {m : ModS} {k : Nat} (hk : k < 6) (h1 : hasB (m_there m) (nI k) = true) (h2 : m_now m k = 0) : Ret E yX9_blot cX9_blot 2 (some .int) (d + 2) 0 0 [.ref 52, .int (nI k)] (hp nw i0 i1 pd lv pl mt nt m) (dt (some (.int 3)) (hp nw i0 i1 pd lv pl mt nt m)) := by
  refine ret_of_go (L := [_, _]) (by decide) (Nat.le_of_ble_eq_true rfl) rfl ?_
  refine go_aload_n dX9_blot_0 rfl ?_
  refine go_iload_n dX9_blot_1 rfl ?_
  refine go_cV (as := [_]) dX9_blot_2 mX9_isThere kX9_64 iX9_isThere sX9_isThere rfl rfl rfl rfl (rX9_isThere) rfl rfl rfl ?_
  refine go_bn_t (tgt := 10) dX9_blot_5 (by decide) h1 ?_
  refine go_aload_n dX9_blot_10 rfl ?_
  refine go_get dX9_blot_11 fX9_13 rfl rfl ?_
  refine go_iload_n dX9_blot_14 rfl ?_
  refine go_ialdN (k) dX9_blot_15 rfl (by omega) rfl ?_
  refine go_if_ne (tgt := 21) dX9_blot_16 (by decide) (fun zq => absurd h2 zq) (fun q16 => ?_)
  refine go_iconst (v := 3) dX9_blot_19 (by decide) ?_
  refine go_iret dX9_blot_20 rfl rfl ?_
  exact ⟨rfl, rfl⟩
set_option maxRecDepth 100000 in
set_option maxHeartbeats 4000000 in
theorem rX9_blot_0 {E : gE} {d : Nat} {nw i0 i1 : WorldS} {pd : PadS} {lv : LivesS} {pl : PlanS} {mt : MatS} {nt : NetS} {m : ModS} {k : Nat} (hk : k < 6) (h1 : hasB (m_there m) (nI k) = true) (h2 : ¬ m_now m k = 0) : Ret E yX9_blot cX9_blot 2 (some .int) (d + 2) 0 0 [.ref 52, .int (nI k)] (hp nw i0 i1 pd lv pl mt nt m) (dt (some (.int 0)) (hp nw i0 i1 pd lv pl mt nt (s_now m (upd (m_now m) k (m_now m k - 1))))) := by
  refine ret_of_go (L := [_, _]) (by decide) (Nat.le_of_ble_eq_true rfl) rfl ?_
  refine go_aload_n dX9_blot_0 rfl ?_
  refine go_iload_n dX9_blot_1 rfl ?_
  refine go_cV (as := [_]) dX9_blot_2 mX9_isThere kX9_64 iX9_isThere sX9_isThere rfl rfl rfl rfl (rX9_isThere) rfl rfl rfl ?_
  refine go_bn_t (tgt := 10) dX9_blot_5 (by decide) h1 ?_
  refine go_aload_n dX9_blot_10 rfl ?_
  refine go_get dX9_blot_11 fX9_13 rfl rfl ?_
  refine go_iload_n dX9_blot_14 rfl ?_
  refine go_ialdN (k) dX9_blot_15 rfl (by omega) rfl ?_
  refine go_if_ne (tgt := 21) dX9_blot_16 (by decide) (fun q16 => ?_) (fun zq => absurd zq h2)
  refine go_aload_n dX9_blot_21 rfl ?_
  refine go_get dX9_blot_22 fX9_13 rfl rfl ?_
  refine go_iload_n dX9_blot_25 rfl ?_
  refine go_dup2 dX9_blot_26 rfl rfl ?_
  refine go_ialdN (k) dX9_blot_27 rfl (by omega) rfl ?_
  refine go_iconst (v := 1) dX9_blot_28 (by decide) ?_
  refine go_isub dX9_blot_29 ?_
  refine go_iastN (k) dX9_blot_30 rfl (by omega) rfl ?_
  refine go_iconst (v := 0) dX9_blot_31 (by decide) ?_
  refine go_iret dX9_blot_32 rfl rfl ?_
  exact ⟨rfl, rfl⟩
set_option maxRecDepth 100000 in
set_option maxHeartbeats 4000000 in
theorem rX9_hand_1 {E : gE} {d : Nat} {nw i0 i1 : WorldS} {pd : PadS} {lv : LivesS} {pl : PlanS} {mt : MatS} {nt : NetS} {m : ModS} {p w n q : Int32} (h1 : hasB (m_there m) p = false) : Ret E yX9_hand cX9_hand 8 (some .int) (d + 2) 0 0 [.ref 52, .int p, .int w, .int n, .int q] (hp nw i0 i1 pd lv pl mt nt m) (dt (some (.int 1)) (hp nw i0 i1 pd lv pl mt nt m)) := by
  refine ret_of_go (L := [_, _, _, _, _, _, _, _]) (by decide) (Nat.le_of_ble_eq_true rfl) rfl ?_
  refine go_aload_n dX9_hand_0 rfl ?_
  refine go_iload_n dX9_hand_1 rfl ?_
  refine go_cV (as := [_]) dX9_hand_2 mX9_isThere kX9_64 iX9_isThere sX9_isThere rfl rfl rfl rfl (rX9_isThere) rfl rfl rfl ?_
  refine go_be_f (tgt := 17) dX9_hand_5 (by decide) h1 ?_
  refine go_iconst (v := 1) dX9_hand_17 (by decide) ?_
  refine go_iret dX9_hand_18 rfl rfl ?_
  exact ⟨rfl, rfl⟩
set_option maxRecDepth 100000 in
set_option maxHeartbeats 4000000 in
theorem rX9_hand_1b {E : gE} {d : Nat} {nw i0 i1 : WorldS} {pd : PadS} {lv : LivesS} {pl : PlanS} {mt : MatS} {nt : NetS} {m : ModS} {p w n q : Int32} (h1 : hasB (m_there m) p = true) (h2 : hasB (m_there m) q = false) : Ret E yX9_hand cX9_hand 8 (some .int) (d + 2) 0 0 [.ref 52, .int p, .int w, .int n, .int q] (hp nw i0 i1 pd lv pl mt nt m) (dt (some (.int 1)) (hp nw i0 i1 pd lv pl mt nt m)) := by
  refine ret_of_go (L := [_, _, _, _, _, _, _, _]) (by decide) (Nat.le_of_ble_eq_true rfl) rfl ?_
  refine go_aload_n dX9_hand_0 rfl ?_
  refine go_iload_n dX9_hand_1 rfl ?_
  refine go_cV (as := [_]) dX9_hand_2 mX9_isThere kX9_64 iX9_isThere sX9_isThere rfl rfl rfl rfl (rX9_isThere) rfl rfl rfl ?_
  refine go_be_t dX9_hand_5 h1 ?_
  refine go_aload_n dX9_hand_8 rfl ?_
  refine go_iload dX9_hand_9 rfl ?_
  refine go_cV (as := [_]) dX9_hand_11 mX9_isThere kX9_64 iX9_isThere sX9_isThere rfl rfl rfl rfl (rX9_isThere) rfl rfl rfl ?_
  refine go_bn_f dX9_hand_14 h2 ?_
  refine go_iconst (v := 1) dX9_hand_17 (by decide) ?_
  refine go_iret dX9_hand_18 rfl rfl ?_
  exact ⟨rfl, rfl⟩
set_option maxRecDepth 100000 in
set_option maxHeartbeats 4000000 in
theorem rX9_hand_2 {E : gE} {d : Nat} {nw i0 i1 : WorldS} {pd : PadS} {lv : LivesS} {pl : PlanS} {mt : MatS} {nt : NetS} {m : ModS} {p w n q : Int32} (h1 : hasB (m_there m) p = true) (h2 : hasB (m_there m) q = true) (h3 : p = q) : Ret E yX9_hand cX9_hand 8 (some .int) (d + 2) 0 0 [.ref 52, .int p, .int w, .int n, .int q] (hp nw i0 i1 pd lv pl mt nt m) (dt (some (.int 2)) (hp nw i0 i1 pd lv pl mt nt m)) := by
  refine ret_of_go (L := [_, _, _, _, _, _, _, _]) (by decide) (Nat.le_of_ble_eq_true rfl) rfl ?_
  refine go_aload_n dX9_hand_0 rfl ?_
  refine go_iload_n dX9_hand_1 rfl ?_
  refine go_cV (as := [_]) dX9_hand_2 mX9_isThere kX9_64 iX9_isThere sX9_isThere rfl rfl rfl rfl (rX9_isThere) rfl rfl rfl ?_
  refine go_be_t dX9_hand_5 h1 ?_
  refine go_aload_n dX9_hand_8 rfl ?_
  refine go_iload dX9_hand_9 rfl ?_
  refine go_cV (as := [_]) dX9_hand_11 mX9_isThere kX9_64 iX9_isThere sX9_isThere rfl rfl rfl rfl (rX9_isThere) rfl rfl rfl ?_
  refine go_bn_t (tgt := 19) dX9_hand_14 (by decide) h2 ?_
  refine go_iload_n dX9_hand_19 rfl ?_
  refine go_iload dX9_hand_20 rfl ?_
  refine go_icmp_ne (tgt := 27) dX9_hand_22 (by decide) (fun zq => absurd h3 zq) (fun q22 => ?_)
  refine go_iconst (v := 2) dX9_hand_25 (by decide) ?_
  refine go_iret dX9_hand_26 rfl rfl ?_
  exact ⟨rfl, rfl⟩
/-- n SHEETS from a to b -/
def mhand (nw : Nat → Int32) (a b : Nat) (n : Int32) : Nat → Int32 := upd (upd nw a (nw a - n)) b (mnI 400 (upd nw a (nw a - n) b + n))
set_option maxRecDepth 100000 in
set_option maxHeartbeats 4000000 in
theorem rX9_hand_3s {E : gE} {d : Nat} {nw i0 i1 : WorldS} {pd : PadS} {lv : LivesS} {pl : PlanS} {mt : MatS} {nt : NetS} {m : ModS} {a b : Nat} {n : Int32} (ha : a < 6) (hb : b < 6) (h1 : hasB (m_there m) (nI a) = true) (h2 : hasB (m_there m) (nI b) = true) (h3 : ¬ nI a = nI b) (h4 : ¬ n ≤ m_now m b) : Ret E yX9_hand cX9_hand 8 (some .int) (d + 2) 0 0 [.ref 52, .int (nI a), .int 60, .int n, .int (nI b)] (hp nw i0 i1 pd lv pl mt nt m) (dt (some (.int 3)) (hp nw i0 i1 pd lv pl mt nt m)) := by
  refine ret_of_go (L := [_, _, _, _, _, _, _, _]) (by decide) (Nat.le_of_ble_eq_true rfl) rfl ?_
  refine go_aload_n dX9_hand_0 rfl ?_
  refine go_iload_n dX9_hand_1 rfl ?_
  refine go_cV (as := [_]) dX9_hand_2 mX9_isThere kX9_64 iX9_isThere sX9_isThere rfl rfl rfl rfl (rX9_isThere) rfl rfl rfl ?_
  refine go_be_t dX9_hand_5 h1 ?_
  refine go_aload_n dX9_hand_8 rfl ?_
  refine go_iload dX9_hand_9 rfl ?_
  refine go_cV (as := [_]) dX9_hand_11 mX9_isThere kX9_64 iX9_isThere sX9_isThere rfl rfl rfl rfl (rX9_isThere) rfl rfl rfl ?_
  refine go_bn_t (tgt := 19) dX9_hand_14 (by decide) h2 ?_
  refine go_iload_n dX9_hand_19 rfl ?_
  refine go_iload dX9_hand_20 rfl ?_
  refine go_icmp_ne (tgt := 27) dX9_hand_22 (by decide) (fun q22 => ?_) (fun zq => absurd zq h3)
  refine go_iload_n dX9_hand_27 rfl ?_
  refine go_bipush (v := 60) dX9_hand_28 (by decide) ?_
  refine go_icmp_ne (tgt := 38) dX9_hand_30 (by decide) (fun zq => absurd rfl zq) (fun q30 => ?_)
  refine go_iload dX9_hand_33 rfl ?_
  refine go_goto (tgt := 39) dX9_hand_35 (by decide) ?_
  refine go_istore (L' := [_, _, _, _, _, _, _, _]) dX9_hand_39 rfl rfl rfl ?_
  refine go_iload_n dX9_hand_41 rfl ?_
  refine go_bipush (v := 60) dX9_hand_42 (by decide) ?_
  refine go_icmp_ne (tgt := 51) dX9_hand_44 (by decide) (fun zq => absurd rfl zq) (fun q44 => ?_)
  refine go_iload_n dX9_hand_47 rfl ?_
  refine go_goto (tgt := 53) dX9_hand_48 (by decide) ?_
  refine go_istore (L' := [_, _, _, _, _, _, _, _]) dX9_hand_53 rfl rfl rfl ?_
  refine go_aload_n dX9_hand_55 rfl ?_
  refine go_get dX9_hand_56 fX9_13 rfl rfl ?_
  refine go_iload dX9_hand_59 rfl ?_
  refine go_ialdN (b) dX9_hand_61 rfl (by omega) rfl ?_
  refine go_iload_n dX9_hand_62 rfl ?_
  refine go_icmp_ge (tgt := 68) dX9_hand_63 (by decide) (fun zq => absurd zq h4) (fun q63 => ?_)
  refine go_iconst (v := 3) dX9_hand_66 (by decide) ?_
  refine go_iret dX9_hand_67 rfl rfl ?_
  exact ⟨rfl, rfl⟩
set_option maxRecDepth 100000 in
set_option maxHeartbeats 4000000 in
theorem rX9_hand_0s {E : gE} {d : Nat} {nw i0 i1 : WorldS} {pd : PadS} {lv : LivesS} {pl : PlanS} {mt : MatS} {nt : NetS} {m : ModS} {a b : Nat} {n : Int32} (ha : a < 6) (hb : b < 6) (h1 : hasB (m_there m) (nI a) = true) (h2 : hasB (m_there m) (nI b) = true) (h3 : ¬ nI a = nI b) (h4 : n ≤ m_now m b) : Ret E yX9_hand cX9_hand 8 (some .int) (d + 2) 0 0 [.ref 52, .int (nI a), .int 60, .int n, .int (nI b)] (hp nw i0 i1 pd lv pl mt nt m) (dt (some (.int 0)) (hp nw i0 i1 pd lv pl mt nt (s_now m (mhand (upd (m_now m) (20 + 6 * b + a) (m_now m (20 + 6 * b + a) + 0)) b a n)))) := by
  refine ret_of_go (L := [_, _, _, _, _, _, _, _]) (by decide) (Nat.le_of_ble_eq_true rfl) rfl ?_
  refine go_aload_n dX9_hand_0 rfl ?_
  refine go_iload_n dX9_hand_1 rfl ?_
  refine go_cV (as := [_]) dX9_hand_2 mX9_isThere kX9_64 iX9_isThere sX9_isThere rfl rfl rfl rfl (rX9_isThere) rfl rfl rfl ?_
  refine go_be_t dX9_hand_5 h1 ?_
  refine go_aload_n dX9_hand_8 rfl ?_
  refine go_iload dX9_hand_9 rfl ?_
  refine go_cV (as := [_]) dX9_hand_11 mX9_isThere kX9_64 iX9_isThere sX9_isThere rfl rfl rfl rfl (rX9_isThere) rfl rfl rfl ?_
  refine go_bn_t (tgt := 19) dX9_hand_14 (by decide) h2 ?_
  refine go_iload_n dX9_hand_19 rfl ?_
  refine go_iload dX9_hand_20 rfl ?_
  refine go_icmp_ne (tgt := 27) dX9_hand_22 (by decide) (fun q22 => ?_) (fun zq => absurd zq h3)
  refine go_iload_n dX9_hand_27 rfl ?_
  refine go_bipush (v := 60) dX9_hand_28 (by decide) ?_
  refine go_icmp_ne (tgt := 38) dX9_hand_30 (by decide) (fun zq => absurd rfl zq) (fun q30 => ?_)
  refine go_iload dX9_hand_33 rfl ?_
  refine go_goto (tgt := 39) dX9_hand_35 (by decide) ?_
  refine go_istore (L' := [_, _, _, _, _, _, _, _]) dX9_hand_39 rfl rfl rfl ?_
  refine go_iload_n dX9_hand_41 rfl ?_
  refine go_bipush (v := 60) dX9_hand_42 (by decide) ?_
  refine go_icmp_ne (tgt := 51) dX9_hand_44 (by decide) (fun zq => absurd rfl zq) (fun q44 => ?_)
  refine go_iload_n dX9_hand_47 rfl ?_
  refine go_goto (tgt := 53) dX9_hand_48 (by decide) ?_
  refine go_istore (L' := [_, _, _, _, _, _, _, _]) dX9_hand_53 rfl rfl rfl ?_
  refine go_aload_n dX9_hand_55 rfl ?_
  refine go_get dX9_hand_56 fX9_13 rfl rfl ?_
  refine go_iload dX9_hand_59 rfl ?_
  refine go_ialdN (b) dX9_hand_61 rfl (by omega) rfl ?_
  refine go_iload_n dX9_hand_62 rfl ?_
  refine go_icmp_ge (tgt := 68) dX9_hand_63 (by decide) (fun q63 => ?_) (fun zq => absurd h4 zq)
  refine go_bipush (v := 20) dX9_hand_68 (by decide) ?_
  refine go_bipush (v := 6) dX9_hand_70 (by decide) ?_
  refine go_iload dX9_hand_72 rfl ?_
  refine go_imul dX9_hand_74 ?_
  refine go_iadd dX9_hand_75 ?_
  refine go_iload_n dX9_hand_76 rfl ?_
  refine go_iadd dX9_hand_77 ?_
  refine go_topi_eq (n206 b a) ?_
  refine go_istore (L' := [_, _, _, _, _, _, _, _]) dX9_hand_78 rfl rfl rfl ?_
  refine go_iload_n dX9_hand_80 rfl ?_
  refine go_bipush (v := 61) dX9_hand_81 (by decide) ?_
  refine go_icmp_ne (tgt := 102) dX9_hand_83 (by decide) (fun q83 => ?_) (fun zq => absurd zq (by decide))
  refine go_aload_n dX9_hand_102 rfl ?_
  refine go_get dX9_hand_103 fX9_13 rfl rfl ?_
  refine go_iload dX9_hand_106 rfl ?_
  refine go_dup2 dX9_hand_108 rfl rfl ?_
  refine go_ialdN ((20 + 6 * b + a)) dX9_hand_109 rfl (by omega) rfl ?_
  refine go_iload_n dX9_hand_110 rfl ?_
  refine go_bipush (v := 61) dX9_hand_111 (by decide) ?_
  refine go_icmp_ne (tgt := 120) dX9_hand_113 (by decide) (fun q113 => ?_) (fun zq => absurd zq (by decide))
  refine go_iconst (v := 0) dX9_hand_120 (by decide) ?_
  refine go_iadd dX9_hand_121 ?_
  refine go_iastN ((20 + 6 * b + a)) dX9_hand_122 rfl (by omega) rfl ?_
  refine go_aload_n dX9_hand_123 rfl ?_
  refine go_get dX9_hand_124 fX9_13 rfl rfl ?_
  refine go_iload dX9_hand_127 rfl ?_
  refine go_dup2 dX9_hand_129 rfl rfl ?_
  refine go_ialdN (b) dX9_hand_130 rfl (by omega) rfl ?_
  refine go_iload_n dX9_hand_131 rfl ?_
  refine go_isub dX9_hand_132 ?_
  refine go_iastN (b) dX9_hand_133 rfl (by omega) rfl ?_
  refine go_heap (h2 := (hp nw i0 i1 pd lv pl mt nt (s_now m (upd (upd (m_now m) (20 + 6 * b + a) (m_now m (20 + 6 * b + a) + 0)) b ((upd (m_now m) (20 + 6 * b + a) (m_now m (20 + 6 * b + a) + 0)) b - n))))) rfl ?_
  refine go_aload_n dX9_hand_134 rfl ?_
  refine go_iload dX9_hand_135 rfl ?_
  refine go_iload_n dX9_hand_137 rfl ?_
  refine go_cVv (as := [_, _]) dX9_hand_138 mX9_gets kX9_94 iX9_gets sX9_gets rfl rfl rfl rfl (rX9_gets (k := a) (by omega)) rfl rfl rfl ?_
  refine go_iconst (v := 0) dX9_hand_141 (by decide) ?_
  refine go_iret dX9_hand_142 rfl rfl ?_
  exact ⟨rfl, rfl⟩
set_option maxRecDepth 100000 in
set_option maxHeartbeats 4000000 in
theorem rX9_hand_3g {E : gE} {d : Nat} {nw i0 i1 : WorldS} {pd : PadS} {lv : LivesS} {pl : PlanS} {mt : MatS} {nt : NetS} {m : ModS} {a b : Nat} {n : Int32} (ha : a < 6) (hb : b < 6) (h1 : hasB (m_there m) (nI a) = true) (h2 : hasB (m_there m) (nI b) = true) (h3 : ¬ nI a = nI b) (h4 : ¬ n ≤ m_now m a) : Ret E yX9_hand cX9_hand 8 (some .int) (d + 2) 0 0 [.ref 52, .int (nI a), .int 62, .int n, .int (nI b)] (hp nw i0 i1 pd lv pl mt nt m) (dt (some (.int 3)) (hp nw i0 i1 pd lv pl mt nt m)) := by
  refine ret_of_go (L := [_, _, _, _, _, _, _, _]) (by decide) (Nat.le_of_ble_eq_true rfl) rfl ?_
  refine go_aload_n dX9_hand_0 rfl ?_
  refine go_iload_n dX9_hand_1 rfl ?_
  refine go_cV (as := [_]) dX9_hand_2 mX9_isThere kX9_64 iX9_isThere sX9_isThere rfl rfl rfl rfl (rX9_isThere) rfl rfl rfl ?_
  refine go_be_t dX9_hand_5 h1 ?_
  refine go_aload_n dX9_hand_8 rfl ?_
  refine go_iload dX9_hand_9 rfl ?_
  refine go_cV (as := [_]) dX9_hand_11 mX9_isThere kX9_64 iX9_isThere sX9_isThere rfl rfl rfl rfl (rX9_isThere) rfl rfl rfl ?_
  refine go_bn_t (tgt := 19) dX9_hand_14 (by decide) h2 ?_
  refine go_iload_n dX9_hand_19 rfl ?_
  refine go_iload dX9_hand_20 rfl ?_
  refine go_icmp_ne (tgt := 27) dX9_hand_22 (by decide) (fun q22 => ?_) (fun zq => absurd zq h3)
  refine go_iload_n dX9_hand_27 rfl ?_
  refine go_bipush (v := 60) dX9_hand_28 (by decide) ?_
  refine go_icmp_ne (tgt := 38) dX9_hand_30 (by decide) (fun q30 => ?_) (fun zq => absurd zq (by decide))
  refine go_iload_n dX9_hand_38 rfl ?_
  refine go_istore (L' := [_, _, _, _, _, _, _, _]) dX9_hand_39 rfl rfl rfl ?_
  refine go_iload_n dX9_hand_41 rfl ?_
  refine go_bipush (v := 60) dX9_hand_42 (by decide) ?_
  refine go_icmp_ne (tgt := 51) dX9_hand_44 (by decide) (fun q44 => ?_) (fun zq => absurd zq (by decide))
  refine go_iload dX9_hand_51 rfl ?_
  refine go_istore (L' := [_, _, _, _, _, _, _, _]) dX9_hand_53 rfl rfl rfl ?_
  refine go_aload_n dX9_hand_55 rfl ?_
  refine go_get dX9_hand_56 fX9_13 rfl rfl ?_
  refine go_iload dX9_hand_59 rfl ?_
  refine go_ialdN (a) dX9_hand_61 rfl (by omega) rfl ?_
  refine go_iload_n dX9_hand_62 rfl ?_
  refine go_icmp_ge (tgt := 68) dX9_hand_63 (by decide) (fun zq => absurd zq h4) (fun q63 => ?_)
  refine go_iconst (v := 3) dX9_hand_66 (by decide) ?_
  refine go_iret dX9_hand_67 rfl rfl ?_
  exact ⟨rfl, rfl⟩
set_option maxRecDepth 100000 in
set_option maxHeartbeats 4000000 in
theorem rX9_hand_0g {E : gE} {d : Nat} {nw i0 i1 : WorldS} {pd : PadS} {lv : LivesS} {pl : PlanS} {mt : MatS} {nt : NetS} {m : ModS} {a b : Nat} {n : Int32} (ha : a < 6) (hb : b < 6) (h1 : hasB (m_there m) (nI a) = true) (h2 : hasB (m_there m) (nI b) = true) (h3 : ¬ nI a = nI b) (h4 : n ≤ m_now m a) : Ret E yX9_hand cX9_hand 8 (some .int) (d + 2) 0 0 [.ref 52, .int (nI a), .int 62, .int n, .int (nI b)] (hp nw i0 i1 pd lv pl mt nt m) (dt (some (.int 0)) (hp nw i0 i1 pd lv pl mt nt (s_now m (mhand (upd (m_now m) (20 + 6 * b + a) (m_now m (20 + 6 * b + a) + 0)) a b n)))) := by
  refine ret_of_go (L := [_, _, _, _, _, _, _, _]) (by decide) (Nat.le_of_ble_eq_true rfl) rfl ?_
  refine go_aload_n dX9_hand_0 rfl ?_
  refine go_iload_n dX9_hand_1 rfl ?_
  refine go_cV (as := [_]) dX9_hand_2 mX9_isThere kX9_64 iX9_isThere sX9_isThere rfl rfl rfl rfl (rX9_isThere) rfl rfl rfl ?_
  refine go_be_t dX9_hand_5 h1 ?_
  refine go_aload_n dX9_hand_8 rfl ?_
  refine go_iload dX9_hand_9 rfl ?_
  refine go_cV (as := [_]) dX9_hand_11 mX9_isThere kX9_64 iX9_isThere sX9_isThere rfl rfl rfl rfl (rX9_isThere) rfl rfl rfl ?_
  refine go_bn_t (tgt := 19) dX9_hand_14 (by decide) h2 ?_
  refine go_iload_n dX9_hand_19 rfl ?_
  refine go_iload dX9_hand_20 rfl ?_
  refine go_icmp_ne (tgt := 27) dX9_hand_22 (by decide) (fun q22 => ?_) (fun zq => absurd zq h3)
  refine go_iload_n dX9_hand_27 rfl ?_
  refine go_bipush (v := 60) dX9_hand_28 (by decide) ?_
  refine go_icmp_ne (tgt := 38) dX9_hand_30 (by decide) (fun q30 => ?_) (fun zq => absurd zq (by decide))
  refine go_iload_n dX9_hand_38 rfl ?_
  refine go_istore (L' := [_, _, _, _, _, _, _, _]) dX9_hand_39 rfl rfl rfl ?_
  refine go_iload_n dX9_hand_41 rfl ?_
  refine go_bipush (v := 60) dX9_hand_42 (by decide) ?_
  refine go_icmp_ne (tgt := 51) dX9_hand_44 (by decide) (fun q44 => ?_) (fun zq => absurd zq (by decide))
  refine go_iload dX9_hand_51 rfl ?_
  refine go_istore (L' := [_, _, _, _, _, _, _, _]) dX9_hand_53 rfl rfl rfl ?_
  refine go_aload_n dX9_hand_55 rfl ?_
  refine go_get dX9_hand_56 fX9_13 rfl rfl ?_
  refine go_iload dX9_hand_59 rfl ?_
  refine go_ialdN (a) dX9_hand_61 rfl (by omega) rfl ?_
  refine go_iload_n dX9_hand_62 rfl ?_
  refine go_icmp_ge (tgt := 68) dX9_hand_63 (by decide) (fun q63 => ?_) (fun zq => absurd h4 zq)
  refine go_bipush (v := 20) dX9_hand_68 (by decide) ?_
  refine go_bipush (v := 6) dX9_hand_70 (by decide) ?_
  refine go_iload dX9_hand_72 rfl ?_
  refine go_imul dX9_hand_74 ?_
  refine go_iadd dX9_hand_75 ?_
  refine go_iload_n dX9_hand_76 rfl ?_
  refine go_iadd dX9_hand_77 ?_
  refine go_topi_eq (n206 b a) ?_
  refine go_istore (L' := [_, _, _, _, _, _, _, _]) dX9_hand_78 rfl rfl rfl ?_
  refine go_iload_n dX9_hand_80 rfl ?_
  refine go_bipush (v := 61) dX9_hand_81 (by decide) ?_
  refine go_icmp_ne (tgt := 102) dX9_hand_83 (by decide) (fun q83 => ?_) (fun zq => absurd zq (by decide))
  refine go_aload_n dX9_hand_102 rfl ?_
  refine go_get dX9_hand_103 fX9_13 rfl rfl ?_
  refine go_iload dX9_hand_106 rfl ?_
  refine go_dup2 dX9_hand_108 rfl rfl ?_
  refine go_ialdN ((20 + 6 * b + a)) dX9_hand_109 rfl (by omega) rfl ?_
  refine go_iload_n dX9_hand_110 rfl ?_
  refine go_bipush (v := 61) dX9_hand_111 (by decide) ?_
  refine go_icmp_ne (tgt := 120) dX9_hand_113 (by decide) (fun q113 => ?_) (fun zq => absurd zq (by decide))
  refine go_iconst (v := 0) dX9_hand_120 (by decide) ?_
  refine go_iadd dX9_hand_121 ?_
  refine go_iastN ((20 + 6 * b + a)) dX9_hand_122 rfl (by omega) rfl ?_
  refine go_aload_n dX9_hand_123 rfl ?_
  refine go_get dX9_hand_124 fX9_13 rfl rfl ?_
  refine go_iload dX9_hand_127 rfl ?_
  refine go_dup2 dX9_hand_129 rfl rfl ?_
  refine go_ialdN (a) dX9_hand_130 rfl (by omega) rfl ?_
  refine go_iload_n dX9_hand_131 rfl ?_
  refine go_isub dX9_hand_132 ?_
  refine go_iastN (a) dX9_hand_133 rfl (by omega) rfl ?_
  refine go_heap (h2 := (hp nw i0 i1 pd lv pl mt nt (s_now m (upd (upd (m_now m) (20 + 6 * b + a) (m_now m (20 + 6 * b + a) + 0)) a ((upd (m_now m) (20 + 6 * b + a) (m_now m (20 + 6 * b + a) + 0)) a - n))))) rfl ?_
  refine go_aload_n dX9_hand_134 rfl ?_
  refine go_iload dX9_hand_135 rfl ?_
  refine go_iload_n dX9_hand_137 rfl ?_
  refine go_cVv (as := [_, _]) dX9_hand_138 mX9_gets kX9_94 iX9_gets sX9_gets rfl rfl rfl rfl (rX9_gets (k := b) (by omega)) rfl rfl rfl ?_
  refine go_iconst (v := 0) dX9_hand_141 (by decide) ?_
  refine go_iret dX9_hand_142 rfl rfl ?_
  exact ⟨rfl, rfl⟩
set_option maxRecDepth 100000 in
set_option maxHeartbeats 4000000 in
theorem rX9_hand_3l {E : gE} {d : Nat} {nw i0 i1 : WorldS} {pd : PadS} {lv : LivesS} {pl : PlanS} {mt : MatS} {nt : NetS} {m : ModS} {a b : Nat} {n : Int32} (ha : a < 6) (hb : b < 6) (h1 : hasB (m_there m) (nI a) = true) (h2 : hasB (m_there m) (nI b) = true) (h3 : ¬ nI a = nI b) (h4 : ¬ n ≤ m_now m a) : Ret E yX9_hand cX9_hand 8 (some .int) (d + 2) 0 0 [.ref 52, .int (nI a), .int 61, .int n, .int (nI b)] (hp nw i0 i1 pd lv pl mt nt m) (dt (some (.int 3)) (hp nw i0 i1 pd lv pl mt nt m)) := by
  refine ret_of_go (L := [_, _, _, _, _, _, _, _]) (by decide) (Nat.le_of_ble_eq_true rfl) rfl ?_
  refine go_aload_n dX9_hand_0 rfl ?_
  refine go_iload_n dX9_hand_1 rfl ?_
  refine go_cV (as := [_]) dX9_hand_2 mX9_isThere kX9_64 iX9_isThere sX9_isThere rfl rfl rfl rfl (rX9_isThere) rfl rfl rfl ?_
  refine go_be_t dX9_hand_5 h1 ?_
  refine go_aload_n dX9_hand_8 rfl ?_
  refine go_iload dX9_hand_9 rfl ?_
  refine go_cV (as := [_]) dX9_hand_11 mX9_isThere kX9_64 iX9_isThere sX9_isThere rfl rfl rfl rfl (rX9_isThere) rfl rfl rfl ?_
  refine go_bn_t (tgt := 19) dX9_hand_14 (by decide) h2 ?_
  refine go_iload_n dX9_hand_19 rfl ?_
  refine go_iload dX9_hand_20 rfl ?_
  refine go_icmp_ne (tgt := 27) dX9_hand_22 (by decide) (fun q22 => ?_) (fun zq => absurd zq h3)
  refine go_iload_n dX9_hand_27 rfl ?_
  refine go_bipush (v := 60) dX9_hand_28 (by decide) ?_
  refine go_icmp_ne (tgt := 38) dX9_hand_30 (by decide) (fun q30 => ?_) (fun zq => absurd zq (by decide))
  refine go_iload_n dX9_hand_38 rfl ?_
  refine go_istore (L' := [_, _, _, _, _, _, _, _]) dX9_hand_39 rfl rfl rfl ?_
  refine go_iload_n dX9_hand_41 rfl ?_
  refine go_bipush (v := 60) dX9_hand_42 (by decide) ?_
  refine go_icmp_ne (tgt := 51) dX9_hand_44 (by decide) (fun q44 => ?_) (fun zq => absurd zq (by decide))
  refine go_iload dX9_hand_51 rfl ?_
  refine go_istore (L' := [_, _, _, _, _, _, _, _]) dX9_hand_53 rfl rfl rfl ?_
  refine go_aload_n dX9_hand_55 rfl ?_
  refine go_get dX9_hand_56 fX9_13 rfl rfl ?_
  refine go_iload dX9_hand_59 rfl ?_
  refine go_ialdN (a) dX9_hand_61 rfl (by omega) rfl ?_
  refine go_iload_n dX9_hand_62 rfl ?_
  refine go_icmp_ge (tgt := 68) dX9_hand_63 (by decide) (fun zq => absurd zq h4) (fun q63 => ?_)
  refine go_iconst (v := 3) dX9_hand_66 (by decide) ?_
  refine go_iret dX9_hand_67 rfl rfl ?_
  exact ⟨rfl, rfl⟩
set_option maxRecDepth 100000 in
set_option maxHeartbeats 4000000 in
theorem rX9_hand_5l {E : gE} {d : Nat} {nw i0 i1 : WorldS} {pd : PadS} {lv : LivesS} {pl : PlanS} {mt : MatS} {nt : NetS} {m : ModS} {a b : Nat} {n : Int32} (ha : a < 6) (hb : b < 6) (h1 : hasB (m_there m) (nI a) = true) (h2 : hasB (m_there m) (nI b) = true) (h3 : ¬ nI a = nI b) (h4 : n ≤ m_now m a) (h5 : ¬ m_now m (20 + 6 * b + a) + n ≤ 99) : Ret E yX9_hand cX9_hand 8 (some .int) (d + 2) 0 0 [.ref 52, .int (nI a), .int 61, .int n, .int (nI b)] (hp nw i0 i1 pd lv pl mt nt m) (dt (some (.int 5)) (hp nw i0 i1 pd lv pl mt nt m)) := by
  refine ret_of_go (L := [_, _, _, _, _, _, _, _]) (by decide) (Nat.le_of_ble_eq_true rfl) rfl ?_
  refine go_aload_n dX9_hand_0 rfl ?_
  refine go_iload_n dX9_hand_1 rfl ?_
  refine go_cV (as := [_]) dX9_hand_2 mX9_isThere kX9_64 iX9_isThere sX9_isThere rfl rfl rfl rfl (rX9_isThere) rfl rfl rfl ?_
  refine go_be_t dX9_hand_5 h1 ?_
  refine go_aload_n dX9_hand_8 rfl ?_
  refine go_iload dX9_hand_9 rfl ?_
  refine go_cV (as := [_]) dX9_hand_11 mX9_isThere kX9_64 iX9_isThere sX9_isThere rfl rfl rfl rfl (rX9_isThere) rfl rfl rfl ?_
  refine go_bn_t (tgt := 19) dX9_hand_14 (by decide) h2 ?_
  refine go_iload_n dX9_hand_19 rfl ?_
  refine go_iload dX9_hand_20 rfl ?_
  refine go_icmp_ne (tgt := 27) dX9_hand_22 (by decide) (fun q22 => ?_) (fun zq => absurd zq h3)
  refine go_iload_n dX9_hand_27 rfl ?_
  refine go_bipush (v := 60) dX9_hand_28 (by decide) ?_
  refine go_icmp_ne (tgt := 38) dX9_hand_30 (by decide) (fun q30 => ?_) (fun zq => absurd zq (by decide))
  refine go_iload_n dX9_hand_38 rfl ?_
  refine go_istore (L' := [_, _, _, _, _, _, _, _]) dX9_hand_39 rfl rfl rfl ?_
  refine go_iload_n dX9_hand_41 rfl ?_
  refine go_bipush (v := 60) dX9_hand_42 (by decide) ?_
  refine go_icmp_ne (tgt := 51) dX9_hand_44 (by decide) (fun q44 => ?_) (fun zq => absurd zq (by decide))
  refine go_iload dX9_hand_51 rfl ?_
  refine go_istore (L' := [_, _, _, _, _, _, _, _]) dX9_hand_53 rfl rfl rfl ?_
  refine go_aload_n dX9_hand_55 rfl ?_
  refine go_get dX9_hand_56 fX9_13 rfl rfl ?_
  refine go_iload dX9_hand_59 rfl ?_
  refine go_ialdN (a) dX9_hand_61 rfl (by omega) rfl ?_
  refine go_iload_n dX9_hand_62 rfl ?_
  refine go_icmp_ge (tgt := 68) dX9_hand_63 (by decide) (fun q63 => ?_) (fun zq => absurd h4 zq)
  refine go_bipush (v := 20) dX9_hand_68 (by decide) ?_
  refine go_bipush (v := 6) dX9_hand_70 (by decide) ?_
  refine go_iload dX9_hand_72 rfl ?_
  refine go_imul dX9_hand_74 ?_
  refine go_iadd dX9_hand_75 ?_
  refine go_iload_n dX9_hand_76 rfl ?_
  refine go_iadd dX9_hand_77 ?_
  refine go_topi_eq (n206 b a) ?_
  refine go_istore (L' := [_, _, _, _, _, _, _, _]) dX9_hand_78 rfl rfl rfl ?_
  refine go_iload_n dX9_hand_80 rfl ?_
  refine go_bipush (v := 61) dX9_hand_81 (by decide) ?_
  refine go_icmp_ne (tgt := 102) dX9_hand_83 (by decide) (fun zq => absurd rfl zq) (fun q83 => ?_)
  refine go_aload_n dX9_hand_86 rfl ?_
  refine go_get dX9_hand_87 fX9_13 rfl rfl ?_
  refine go_iload dX9_hand_90 rfl ?_
  refine go_ialdN ((20 + 6 * b + a)) dX9_hand_92 rfl (by omega) rfl ?_
  refine go_iload_n dX9_hand_93 rfl ?_
  refine go_iadd dX9_hand_94 ?_
  refine go_bipush (v := 99) dX9_hand_95 (by decide) ?_
  refine go_icmp_le (tgt := 102) dX9_hand_97 (by decide) (fun zq => absurd zq h5) (fun q97 => ?_)
  refine go_iconst (v := 5) dX9_hand_100 (by decide) ?_
  refine go_iret dX9_hand_101 rfl rfl ?_
  exact ⟨rfl, rfl⟩
set_option maxRecDepth 100000 in
set_option maxHeartbeats 4000000 in
theorem rX9_hand_0l {E : gE} {d : Nat} {nw i0 i1 : WorldS} {pd : PadS} {lv : LivesS} {pl : PlanS} {mt : MatS} {nt : NetS} {m : ModS} {a b : Nat} {n : Int32} (ha : a < 6) (hb : b < 6) (h1 : hasB (m_there m) (nI a) = true) (h2 : hasB (m_there m) (nI b) = true) (h3 : ¬ nI a = nI b) (h4 : n ≤ m_now m a) (h5 : m_now m (20 + 6 * b + a) + n ≤ 99) : Ret E yX9_hand cX9_hand 8 (some .int) (d + 2) 0 0 [.ref 52, .int (nI a), .int 61, .int n, .int (nI b)] (hp nw i0 i1 pd lv pl mt nt m) (dt (some (.int 0)) (hp nw i0 i1 pd lv pl mt nt (s_now m (mhand (upd (m_now m) (20 + 6 * b + a) (m_now m (20 + 6 * b + a) + n)) a b n)))) := by
  refine ret_of_go (L := [_, _, _, _, _, _, _, _]) (by decide) (Nat.le_of_ble_eq_true rfl) rfl ?_
  refine go_aload_n dX9_hand_0 rfl ?_
  refine go_iload_n dX9_hand_1 rfl ?_
  refine go_cV (as := [_]) dX9_hand_2 mX9_isThere kX9_64 iX9_isThere sX9_isThere rfl rfl rfl rfl (rX9_isThere) rfl rfl rfl ?_
  refine go_be_t dX9_hand_5 h1 ?_
  refine go_aload_n dX9_hand_8 rfl ?_
  refine go_iload dX9_hand_9 rfl ?_
  refine go_cV (as := [_]) dX9_hand_11 mX9_isThere kX9_64 iX9_isThere sX9_isThere rfl rfl rfl rfl (rX9_isThere) rfl rfl rfl ?_
  refine go_bn_t (tgt := 19) dX9_hand_14 (by decide) h2 ?_
  refine go_iload_n dX9_hand_19 rfl ?_
  refine go_iload dX9_hand_20 rfl ?_
  refine go_icmp_ne (tgt := 27) dX9_hand_22 (by decide) (fun q22 => ?_) (fun zq => absurd zq h3)
  refine go_iload_n dX9_hand_27 rfl ?_
  refine go_bipush (v := 60) dX9_hand_28 (by decide) ?_
  refine go_icmp_ne (tgt := 38) dX9_hand_30 (by decide) (fun q30 => ?_) (fun zq => absurd zq (by decide))
  refine go_iload_n dX9_hand_38 rfl ?_
  refine go_istore (L' := [_, _, _, _, _, _, _, _]) dX9_hand_39 rfl rfl rfl ?_
  refine go_iload_n dX9_hand_41 rfl ?_
  refine go_bipush (v := 60) dX9_hand_42 (by decide) ?_
  refine go_icmp_ne (tgt := 51) dX9_hand_44 (by decide) (fun q44 => ?_) (fun zq => absurd zq (by decide))
  refine go_iload dX9_hand_51 rfl ?_
  refine go_istore (L' := [_, _, _, _, _, _, _, _]) dX9_hand_53 rfl rfl rfl ?_
  refine go_aload_n dX9_hand_55 rfl ?_
  refine go_get dX9_hand_56 fX9_13 rfl rfl ?_
  refine go_iload dX9_hand_59 rfl ?_
  refine go_ialdN (a) dX9_hand_61 rfl (by omega) rfl ?_
  refine go_iload_n dX9_hand_62 rfl ?_
  refine go_icmp_ge (tgt := 68) dX9_hand_63 (by decide) (fun q63 => ?_) (fun zq => absurd h4 zq)
  refine go_bipush (v := 20) dX9_hand_68 (by decide) ?_
  refine go_bipush (v := 6) dX9_hand_70 (by decide) ?_
  refine go_iload dX9_hand_72 rfl ?_
  refine go_imul dX9_hand_74 ?_
  refine go_iadd dX9_hand_75 ?_
  refine go_iload_n dX9_hand_76 rfl ?_
  refine go_iadd dX9_hand_77 ?_
  refine go_topi_eq (n206 b a) ?_
  refine go_istore (L' := [_, _, _, _, _, _, _, _]) dX9_hand_78 rfl rfl rfl ?_
  refine go_iload_n dX9_hand_80 rfl ?_
  refine go_bipush (v := 61) dX9_hand_81 (by decide) ?_
  refine go_icmp_ne (tgt := 102) dX9_hand_83 (by decide) (fun zq => absurd rfl zq) (fun q83 => ?_)
  refine go_aload_n dX9_hand_86 rfl ?_
  refine go_get dX9_hand_87 fX9_13 rfl rfl ?_
  refine go_iload dX9_hand_90 rfl ?_
  refine go_ialdN ((20 + 6 * b + a)) dX9_hand_92 rfl (by omega) rfl ?_
  refine go_iload_n dX9_hand_93 rfl ?_
  refine go_iadd dX9_hand_94 ?_
  refine go_bipush (v := 99) dX9_hand_95 (by decide) ?_
  refine go_icmp_le (tgt := 102) dX9_hand_97 (by decide) (fun q97 => ?_) (fun zq => absurd h5 zq)
  refine go_aload_n dX9_hand_102 rfl ?_
  refine go_get dX9_hand_103 fX9_13 rfl rfl ?_
  refine go_iload dX9_hand_106 rfl ?_
  refine go_dup2 dX9_hand_108 rfl rfl ?_
  refine go_ialdN ((20 + 6 * b + a)) dX9_hand_109 rfl (by omega) rfl ?_
  refine go_iload_n dX9_hand_110 rfl ?_
  refine go_bipush (v := 61) dX9_hand_111 (by decide) ?_
  refine go_icmp_ne (tgt := 120) dX9_hand_113 (by decide) (fun zq => absurd rfl zq) (fun q113 => ?_)
  refine go_iload_n dX9_hand_116 rfl ?_
  refine go_goto (tgt := 121) dX9_hand_117 (by decide) ?_
  refine go_iadd dX9_hand_121 ?_
  refine go_iastN ((20 + 6 * b + a)) dX9_hand_122 rfl (by omega) rfl ?_
  refine go_aload_n dX9_hand_123 rfl ?_
  refine go_get dX9_hand_124 fX9_13 rfl rfl ?_
  refine go_iload dX9_hand_127 rfl ?_
  refine go_dup2 dX9_hand_129 rfl rfl ?_
  refine go_ialdN (a) dX9_hand_130 rfl (by omega) rfl ?_
  refine go_iload_n dX9_hand_131 rfl ?_
  refine go_isub dX9_hand_132 ?_
  refine go_iastN (a) dX9_hand_133 rfl (by omega) rfl ?_
  refine go_heap (h2 := (hp nw i0 i1 pd lv pl mt nt (s_now m (upd (upd (m_now m) (20 + 6 * b + a) (m_now m (20 + 6 * b + a) + n)) a ((upd (m_now m) (20 + 6 * b + a) (m_now m (20 + 6 * b + a) + n)) a - n))))) rfl ?_
  refine go_aload_n dX9_hand_134 rfl ?_
  refine go_iload dX9_hand_135 rfl ?_
  refine go_iload_n dX9_hand_137 rfl ?_
  refine go_cVv (as := [_, _]) dX9_hand_138 mX9_gets kX9_94 iX9_gets sX9_gets rfl rfl rfl rfl (rX9_gets (k := b) (by omega)) rfl rfl rfl ?_
  refine go_iconst (v := 0) dX9_hand_141 (by decide) ?_
  refine go_iret dX9_hand_142 rfl rfl ?_
  exact ⟨rfl, rfl⟩
set_option maxRecDepth 100000 in
set_option maxHeartbeats 4000000 in
theorem rX9_endYear_4 {E : gE} {d : Nat} {nw i0 i1 : WorldS} {pd : PadS} {lv : LivesS} {pl : PlanS} {mt : MatS} {nt : NetS} {m : ModS} (h1 : m_now m 60 = 99) : Ret E yX9_endYear cX9_endYear 1 (some .int) d 0 0 [.ref 52] (hp nw i0 i1 pd lv pl mt nt m) (dt (some (.int 4)) (hp nw i0 i1 pd lv pl mt nt m)) := by
  refine ret_of_go (L := [_]) (by decide) (Nat.le_of_ble_eq_true rfl) rfl ?_
  refine go_aload_n dX9_endYear_0 rfl ?_
  refine go_get dX9_endYear_1 fX9_13 rfl rfl ?_
  refine go_bipush (v := 60) dX9_endYear_4 (by decide) ?_
  refine go_ialdN (60) dX9_endYear_6 rfl (by decide) rfl ?_
  refine go_bipush (v := 99) dX9_endYear_7 (by decide) ?_
  refine go_icmp_ne (tgt := 14) dX9_endYear_9 (by decide) (fun zq => absurd h1 zq) (fun q9 => ?_)
  refine go_iconst (v := 4) dX9_endYear_12 (by decide) ?_
  refine go_iret dX9_endYear_13 rfl rfl ?_
  exact ⟨rfl, rfl⟩
set_option maxRecDepth 100000 in
set_option maxHeartbeats 4000000 in
theorem rX9_endYear_0 {E : gE} {d : Nat} {nw i0 i1 : WorldS} {pd : PadS} {lv : LivesS} {pl : PlanS} {mt : MatS} {nt : NetS} {m : ModS} (h1 : ¬ m_now m 60 = 99) : Ret E yX9_endYear cX9_endYear 1 (some .int) d 0 0 [.ref 52] (hp nw i0 i1 pd lv pl mt nt m) (dt (some (.int 0)) (hp nw i0 i1 pd lv pl mt nt (s_now m (upd (m_now m) 60 (m_now m 60 + 1))))) := by
  refine ret_of_go (L := [_]) (by decide) (Nat.le_of_ble_eq_true rfl) rfl ?_
  refine go_aload_n dX9_endYear_0 rfl ?_
  refine go_get dX9_endYear_1 fX9_13 rfl rfl ?_
  refine go_bipush (v := 60) dX9_endYear_4 (by decide) ?_
  refine go_ialdN (60) dX9_endYear_6 rfl (by decide) rfl ?_
  refine go_bipush (v := 99) dX9_endYear_7 (by decide) ?_
  refine go_icmp_ne (tgt := 14) dX9_endYear_9 (by decide) (fun q9 => ?_) (fun zq => absurd zq h1)
  refine go_aload_n dX9_endYear_14 rfl ?_
  refine go_get dX9_endYear_15 fX9_13 rfl rfl ?_
  refine go_bipush (v := 60) dX9_endYear_18 (by decide) ?_
  refine go_dup2 dX9_endYear_20 rfl rfl ?_
  refine go_ialdN (60) dX9_endYear_21 rfl (by decide) rfl ?_
  refine go_iconst (v := 1) dX9_endYear_22 (by decide) ?_
  refine go_iadd dX9_endYear_23 ?_
  refine go_iastN (60) dX9_endYear_24 rfl (by decide) rfl ?_
  refine go_iconst (v := 0) dX9_endYear_25 (by decide) ?_
  refine go_iret dX9_endYear_26 rfl rfl ?_
  exact ⟨rfl, rfl⟩
def someB (t : Int32) (nw : Nat → Int32) (k : Nat) : Bool := hbB t (nI k) && !(decide (nw k ≤ 0))
set_option maxRecDepth 100000 in
set_option maxHeartbeats 4000000 in
theorem rX9_some {E : gE} {d : Nat} {nw i0 i1 : WorldS} {pd : PadS} {lv : LivesS} {pl : PlanS} {mt : MatS} {nt : NetS} {m : ModS} : Ret E yX9_some cX9_some 3 (some .int) (d + 1) 0 0 [.ref 52] (hp nw i0 i1 pd lv pl mt nt m) (dt (some (.int (orB (someB (m_there m) (m_now m)) 6))) (hp nw i0 i1 pd lv pl mt nt m)) := by
  refine ret_of_go (L := [_, _, _]) (by decide) (Nat.le_of_ble_eq_true rfl) rfl ?_
  have key : ∀ (n k : Nat) (acc : Int32), k + n = 6 → acc = orB (someB (m_there m) (m_now m)) k → Go E yX9_some cX9_some 3 (some .int) (d + 1) 0 0 0 0 4 [some (.ref 52), some (.int acc), some (.int (nI k))] [] (hp nw i0 i1 pd lv pl mt nt m) (dt (some (.int (orB (someB (m_there m) (m_now m)) 6))) (hp nw i0 i1 pd lv pl mt nt m)) := by
    intro n
    induction n with
    | zero =>
      intro k acc hk ha
      obtain rfl : k = 6 := by omega
      refine go_iload_n dX9_some_4 rfl ?_
      refine go_bipush (v := 6) dX9_some_5 (by decide) ?_
      refine go_icmp_ge (tgt := 46) dX9_some_7 (by decide) (fun q7 => ?_) (fun zq => absurd (nI_le (a := 6) (b := 6) (by decide) (by decide)) zq)
      refine go_iload_n dX9_some_46 rfl ?_
      refine go_iret dX9_some_47 rfl rfl ?_
      exact ⟨by rw [ha], rfl⟩
    | succ n ih =>
      intro k acc hk ha
      refine go_iload_n dX9_some_4 rfl ?_
      refine go_bipush (v := 6) dX9_some_5 (by decide) ?_
      refine go_icmp_ge (tgt := 46) dX9_some_7 (by decide) (fun zq => absurd zq (nI_ge (a := k) (b := 6) (by omega) (by decide))) (fun q7 => ?_)
      refine go_iload_n dX9_some_10 rfl ?_
      refine go_aload_n dX9_some_11 rfl ?_
      refine go_get dX9_some_12 fX9_52 rfl rfl ?_
      refine go_iload_n dX9_some_15 rfl ?_
      refine go_cS (as := [_, _]) dX9_some_16 mX9_has kX9_56 tX9_has rfl rfl (rX9_has) rfl rfl rfl ?_
      refine go_bif_eq (tgt := 37) dX9_some_19 (by decide) (fun q19 => ?_) (fun q19 => ?_)
      · refine go_iconst (v := 0) dX9_some_37 (by decide) ?_
        refine go_ior dX9_some_38 ?_
        refine go_istore_n (L' := [_, _, _]) dX9_some_39 rfl rfl rfl ?_
        refine go_iinc (v := nI (k + 1)) (L' := [_, _, _]) dX9_some_40 rfl (nI_1 k) rfl rfl rfl ?_
        refine go_goto (tgt := 4) dX9_some_43 (by decide) ?_
        exact ih (k + 1) _ (by omega) (by rw [ha, orB, someB, q19, or0]; rfl)
      · refine go_aload_n dX9_some_22 rfl ?_
        refine go_get dX9_some_23 fX9_13 rfl rfl ?_
        refine go_iload_n dX9_some_26 rfl ?_
        refine go_ialdN (k) dX9_some_27 rfl (by omega) rfl ?_
        refine go_if_le (tgt := 37) dX9_some_28 (by decide) (fun q28 => ?_) (fun q28 => ?_)
        · refine go_iconst (v := 0) dX9_some_37 (by decide) ?_
          refine go_ior dX9_some_38 ?_
          refine go_istore_n (L' := [_, _, _]) dX9_some_39 rfl rfl rfl ?_
          refine go_iinc (v := nI (k + 1)) (L' := [_, _, _]) dX9_some_40 rfl (nI_1 k) rfl rfl rfl ?_
          refine go_goto (tgt := 4) dX9_some_43 (by decide) ?_
          exact ih (k + 1) _ (by omega) (by rw [ha, orB, someB, q19, decide_eq_true q28, or0]; rfl)
        · refine go_iconst (v := 1) dX9_some_31 (by decide) ?_
          refine go_iload_n dX9_some_32 rfl ?_
          refine go_ishl dX9_some_33 ?_
          refine go_goto (tgt := 38) dX9_some_34 (by decide) ?_
          refine go_ior dX9_some_38 ?_
          refine go_istore_n (L' := [_, _, _]) dX9_some_39 rfl rfl rfl ?_
          refine go_iinc (v := nI (k + 1)) (L' := [_, _, _]) dX9_some_40 rfl (nI_1 k) rfl rfl rfl ?_
          refine go_goto (tgt := 4) dX9_some_43 (by decide) ?_
          exact ih (k + 1) _ (by omega) (by rw [ha, orB, someB, q19, decide_eq_false q28]; rfl)
  refine go_iconst (v := 0) dX9_some_0 (by decide) ?_
  refine go_istore_n (L' := [_, _, _]) dX9_some_1 rfl rfl rfl ?_
  refine go_iconst (v := 0) dX9_some_2 (by decide) ?_
  refine go_istore_n (L' := [_, _, _]) dX9_some_3 rfl rfl rfl ?_
  exact key 6 0 0 rfl rfl
