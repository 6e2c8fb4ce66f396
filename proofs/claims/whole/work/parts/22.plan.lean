def wsumF (W : Nat → Int32) : Int32 := sumI (fun k => W (k + 1)) 9
def fil (f g : Nat → Int32) (k : Nat) : Nat → Int32 := fun j => if j < k then f j else g j
theorem fil_0 (f g : Nat → Int32) : fil f g 0 = g := by
  funext j
  simp [fil]
theorem fil_s (f g : Nat → Int32) (k : Nat) : upd (fil f g k) k (f k) = fil f g (k + 1) := by
  funext j
  unfold upd fil
  by_cases h : j = k
  · subst h
    simp
  · rw [if_neg h]
    by_cases h2 : j < k
    · rw [if_pos h2, if_pos (by omega)]
    · rw [if_neg h2, if_neg (by omega)]
theorem fil_in {f g : Nat → Int32} {k j : Nat} (h : j < k) : fil f g k j = f j := by simp [fil, h]
def sumL (f : Nat → Int64) : Nat → Int64
  | 0 => 0
  | n + 1 => sumL f n + f n
/-- weight, scales and values by a plan's cells -/
def vsF (V C : Nat → Int64) (n m : Nat) (w : Int32) : Int64 := w.toInt64 * C (m - 1) + V ((n - 1) * 9 + (m - 1))
def itsB (V C : Nat → Int64) (n m : Nat) (w : Int32) : Bool := decide (V (n * 9 + (m - 1)) ≤ vsF V C n m w)
def mbF (W : Nat → Int32) (V C : Nat → Int64) (n m : Nat) : Int64 := sumL (fun k => (W (k + 1)).toInt64 * mxL (V (n * 9 + (m - 1))) (vsF V C n m (nI (k + 1)))) 9
def ltR (V C : Nat → Int64) (n m : Nat) : Nat → Nat → Int32
  | 0, w => nI w
  | k + 1, w => if itsB V C n m (nI w) then nI w else ltR V C n m k (w + 1)
def lnN (W : Nat → Int32) (C V : Nat → Int64) (m : Nat) : Nat → (Nat → Int64)
  | 0 => V
  | k + 1 => vp_updL (lnN W C V m k) ((k + 1) * 9 + m) (mbF W (lnN W C V m k) C (k + 1) m)
def lnM (W : Nat → Int32) (V C : Nat → Int64) : Nat → (Nat → Int64) × (Nat → Int64)
  | 0 => (V, vp_updL C 0 1)
  | k + 1 => (lnN W (vp_updL (lnM W V C k).2 (k + 1) ((lnM W V C k).2 k * (wsumF W).toInt64)) (lnM W V C k).1 (k + 1) 9, vp_updL (lnM W V C k).2 (k + 1) ((lnM W V C k).2 k * (wsumF W).toInt64))
def learnF (W : Nat → Int32) (p : PlanS) : PlanS := if p.2.2 = 0 then ((lnM W p.1 p.2.1 8).1, (lnM W p.1 p.2.1 8).2, 1) else p
theorem nI9 {a b : Nat} : nI a * 9 + nI b = nI (a * 9 + b) := by rw [show (9 : Int32) = nI 9 from rfl, pk_mul, nI_add]
theorem nI_m1 {k : Nat} (h : 1 ≤ k) : nI k - 1 = nI (k - 1) := by
  obtain ⟨j, rfl⟩ : ∃ j, k = j + 1 := ⟨k - 1, by omega⟩
  exact nI_pred j
theorem lg_lt {x y : Int64} : lg_cmp x y < 0 ↔ ¬ y ≤ x := by
  rw [← lg_cmp_ge]
  exact Int32.not_le.symm
set_option maxRecDepth 100000 in
set_option maxHeartbeats 4000000 in
theorem rX7_weightOfAll {E : gE} {d : Nat} {nw i0 i1 : WorldS} {pd : PadS} {lv : LivesS} {pl : PlanS} {mt : MatS} {nt : NetS} {m : ModS} : Ret E yX7_weightOfAll cX7_weightOfAll 3 (some .int) d 0 0 [.ref 1] (hp nw i0 i1 pd lv pl mt nt m) (dt (some (.int (wsumF nw.2.1))) (hp nw i0 i1 pd lv pl mt nt m)) := by
  refine ret_of_go (L := [_, _, _]) (by decide) (Nat.le_of_ble_eq_true rfl) rfl ?_
  have key : ∀ (n k : Nat) (acc : Int32), k + n = 9 → acc = sumI (fun k => nw.2.1 (k + 1)) k → Go E yX7_weightOfAll cX7_weightOfAll 3 (some .int) d 0 0 0 0 4 [some (.ref 1), some (.int acc), some (.int (nI (k + 1)))] [] (hp nw i0 i1 pd lv pl mt nt m) (dt (some (.int (wsumF nw.2.1))) (hp nw i0 i1 pd lv pl mt nt m)) := by
    intro n
    induction n with
    | zero =>
      intro k acc hk ha
      obtain rfl : k = 9 := by omega
      refine go_iload_n dX7_weightOfAll_4 rfl ?_
      refine go_bipush (v := 9) dX7_weightOfAll_5 (by decide) ?_
      refine go_icmp_gt (tgt := 25) dX7_weightOfAll_7 (by decide) (fun q7 => ?_) (fun q => absurd (nI_lt (a := 9) (b := 10) (by decide) (by decide)) q)
      refine go_iload_n dX7_weightOfAll_25 rfl ?_
      refine go_iret dX7_weightOfAll_26 rfl rfl ?_
      exact ⟨by rw [ha]; rfl, rfl⟩
    | succ n ih =>
      intro k acc hk ha
      refine go_iload_n dX7_weightOfAll_4 rfl ?_
      refine go_bipush (v := 9) dX7_weightOfAll_5 (by decide) ?_
      refine go_icmp_gt (tgt := 25) dX7_weightOfAll_7 (by decide) (fun q => absurd q (nI_nlt (a := 9) (b := k + 1) (by omega) (by decide))) (fun q7 => ?_)
      refine go_iload_n dX7_weightOfAll_10 rfl ?_
      refine go_aload_n dX7_weightOfAll_11 rfl ?_
      refine go_get dX7_weightOfAll_12 fX7_18 rfl rfl ?_
      refine go_iload_n dX7_weightOfAll_15 rfl ?_
      refine go_ialdN (k + 1) dX7_weightOfAll_16 rfl (by omega) rfl ?_
      refine go_iadd dX7_weightOfAll_17 ?_
      refine go_istore_n (L' := [_, _, _]) dX7_weightOfAll_18 rfl rfl rfl ?_
      refine go_iinc (v := nI (k + 1 + 1)) (L' := [_, _, _]) dX7_weightOfAll_19 rfl (nI_1 (k + 1)) rfl rfl rfl ?_
      refine go_goto (tgt := 4) dX7_weightOfAll_22 (by decide) ?_
      exact ih (k + 1) _ (by omega) (by rw [ha]; rfl)
  refine go_iconst (v := 0) dX7_weightOfAll_0 (by decide) ?_
  refine go_istore_n (L' := [_, _, _]) dX7_weightOfAll_1 rfl rfl rfl ?_
  refine go_iconst (v := 1) dX7_weightOfAll_2 (by decide) ?_
  refine go_istore_n (L' := [_, _, _]) dX7_weightOfAll_3 rfl rfl rfl ?_
  exact key 9 0 0 rfl rfl
set_option maxRecDepth 100000 in
set_option maxHeartbeats 4000000 in
theorem rX7_addSight {E : gE} {d : Nat} {nw i0 i1 : WorldS} {pd : PadS} {lv : LivesS} {pl : PlanS} {mt : MatS} {nt : NetS} {m : ModS} {n q w : Int32} {b : Bool} {s : Nat} (hs8 : s < 8) : Ret E yX7_addSight cX7_addSight 5 none d 0 0 [.ref 1, .int n, .int q, .int w, .int (b2i b)] (hp (nw.1, nw.2.1, nw.2.2.1, nw.2.2.2.1, nI s, nw.2.2.2.2.2) i0 i1 pd lv pl mt nt m) (dt none (hp (nw.1, nw.2.1, upd nw.2.2.1 s (100 * n + 10 * q + w), upd nw.2.2.2.1 s (b2i b), nI (s + 1), nw.2.2.2.2.2) i0 i1 pd lv pl mt nt m)) := by
  refine ret_of_go (L := [_, _, _, _, _]) (by decide) (Nat.le_of_ble_eq_true rfl) rfl ?_
  refine go_aload_n dX7_addSight_0 rfl ?_
  refine go_get dX7_addSight_1 fX7_22 rfl rfl ?_
  refine go_aload_n dX7_addSight_4 rfl ?_
  refine go_get dX7_addSight_5 fX7_29 rfl rfl ?_
  refine go_bipush (v := 100) dX7_addSight_8 (by decide) ?_
  refine go_iload_n dX7_addSight_10 rfl ?_
  refine go_imul dX7_addSight_11 ?_
  refine go_bipush (v := 10) dX7_addSight_12 (by decide) ?_
  refine go_iload_n dX7_addSight_14 rfl ?_
  refine go_imul dX7_addSight_15 ?_
  refine go_iadd dX7_addSight_16 ?_
  refine go_iload_n dX7_addSight_17 rfl ?_
  refine go_iadd dX7_addSight_18 ?_
  refine go_iastN (s) dX7_addSight_19 rfl (hs8) rfl ?_
  refine go_aload_n dX7_addSight_20 rfl ?_
  refine go_get dX7_addSight_21 fX7_25 rfl rfl ?_
  refine go_aload_n dX7_addSight_24 rfl ?_
  refine go_get dX7_addSight_25 fX7_29 rfl rfl ?_
  refine go_iload dX7_addSight_28 rfl ?_
  refine go_zastN s dX7_addSight_30 rfl hs8 rfl (b2i_nar b) ?_
  refine go_aload_n dX7_addSight_31 rfl ?_
  refine go_dup dX7_addSight_32 rfl ?_
  refine go_get dX7_addSight_33 fX7_29 rfl rfl ?_
  refine go_iconst (v := 1) dX7_addSight_36 (by decide) ?_
  refine go_iadd dX7_addSight_37 ?_
  refine go_topi_eq (nI_1 s) ?_
  refine go_put dX7_addSight_38 fX7_29 (fun _ => rfl) (fun _ => rfl) rfl rfl ?_
  refine go_vret dX7_addSight_41 rfl rfl ?_
  exact ⟨rfl, rfl⟩
set_option maxRecDepth 100000 in
set_option maxHeartbeats 4000000 in
theorem rX7_copyFrom_0n {E : gE} {d : Nat} {nw i0 i1 : WorldS} {pd : PadS} {lv : LivesS} {pl : PlanS} {mt : MatS} {nt : NetS} {m : ModS} (hz : ∀ k, k < 8 → narrow .boolean (.int (nw.2.2.2.1 k)) = .int (nw.2.2.2.1 k)) : Ret E yX7_copyFrom cX7_copyFrom 3 none (d + 2) 0 0 [.ref 12, .ref 1] (hp nw i0 i1 pd lv pl mt nt m) (dt none (hp nw (nw.1, nw.2.1, nw.2.2.1, nw.2.2.2.1, nw.2.2.2.2.1, i0.2.2.2.2.2) i1 pd lv pl mt nt m)) := by
  refine ret_of_go (L := [_, _, _]) (by decide) (Nat.le_of_ble_eq_true rfl) rfl ?_
  have key : ∀ (n k : Nat), k + n = 8 → Go E yX7_copyFrom cX7_copyFrom 3 none (d + 2) 0 0 0 0 36 [some (.ref 12), some (.ref 1), some (.int (nI k))] [] (hp nw (nw.1, nw.2.1, fil nw.2.2.1 i0.2.2.1 k, fil nw.2.2.2.1 i0.2.2.2.1 k, nw.2.2.2.2.1, i0.2.2.2.2.2) i1 pd lv pl mt nt m) (dt none (hp nw (nw.1, nw.2.1, nw.2.2.1, nw.2.2.2.1, nw.2.2.2.2.1, i0.2.2.2.2.2) i1 pd lv pl mt nt m)) := by
    intro n
    induction n with
    | zero =>
      intro k hk
      obtain rfl : k = 8 := by omega
      refine go_ext (a := 20) nw.2.2.1 rfl (fun j hj => fil_in hj) ?_
      refine go_ext (a := 21) nw.2.2.2.1 rfl (fun j hj => fil_in hj) ?_
      refine go_iload_n dX7_copyFrom_36 rfl ?_
      refine go_bipush (v := 8) dX7_copyFrom_37 (by decide) ?_
      refine go_icmp_ge (tgt := 72) dX7_copyFrom_39 (by decide) (fun q39 => ?_) (fun q => absurd (nI_le (a := 8) (b := 8) (by decide) (by decide)) q)
      refine go_vret dX7_copyFrom_72 rfl rfl ?_
      exact ⟨rfl, rfl⟩
    | succ n ih =>
      intro k hk
      refine go_iload_n dX7_copyFrom_36 rfl ?_
      refine go_bipush (v := 8) dX7_copyFrom_37 (by decide) ?_
      refine go_icmp_ge (tgt := 72) dX7_copyFrom_39 (by decide) (fun q => absurd q (nI_ge (a := k) (b := 8) (by omega) (by decide))) (fun q39 => ?_)
      refine go_aload_n dX7_copyFrom_42 rfl ?_
      refine go_get dX7_copyFrom_43 fX7_22 rfl rfl ?_
      refine go_iload_n dX7_copyFrom_46 rfl ?_
      refine go_aload_n dX7_copyFrom_47 rfl ?_
      refine go_get dX7_copyFrom_48 fX7_22 rfl rfl ?_
      refine go_iload_n dX7_copyFrom_51 rfl ?_
      refine go_ialdN (k) dX7_copyFrom_52 rfl (by omega) rfl ?_
      refine go_iastN (k) dX7_copyFrom_53 rfl (by omega) rfl ?_
      refine go_aload_n dX7_copyFrom_54 rfl ?_
      refine go_get dX7_copyFrom_55 fX7_25 rfl rfl ?_
      refine go_iload_n dX7_copyFrom_58 rfl ?_
      refine go_aload_n dX7_copyFrom_59 rfl ?_
      refine go_get dX7_copyFrom_60 fX7_25 rfl rfl ?_
      refine go_iload_n dX7_copyFrom_63 rfl ?_
      refine go_zaldN (k) dX7_copyFrom_64 rfl (by omega) rfl ?_
      refine go_zastN k dX7_copyFrom_65 rfl (by omega) rfl (hz k (by omega)) ?_
      refine go_iinc (v := nI (k + 1)) (L' := [_, _, _]) dX7_copyFrom_66 rfl (nI_1 k) rfl rfl rfl ?_
      refine go_goto (tgt := 36) dX7_copyFrom_69 (by decide) ?_
      have h9 := ih (k + 1) (by omega)
      rw [← fil_s, ← fil_s] at h9
      exact h9
  refine go_aload_n dX7_copyFrom_0 rfl ?_
  refine go_get dX7_copyFrom_1 fX7_12 rfl rfl ?_
  refine go_aload_n dX7_copyFrom_4 rfl ?_
  refine go_get dX7_copyFrom_5 fX7_12 rfl rfl ?_
  refine go_cVv (as := [_]) dX7_copyFrom_8 mX1_copyFrom kX7_33 iX1_copyFrom sX1_copyFrom rfl rfl rfl rfl (rX1_copyFrom_0n) rfl rfl rfl ?_
  refine go_aload_n dX7_copyFrom_11 rfl ?_
  refine go_get dX7_copyFrom_12 fX7_18 rfl rfl ?_
  refine go_iconst (v := 0) dX7_copyFrom_15 (by decide) ?_
  refine go_aload_n dX7_copyFrom_16 rfl ?_
  refine go_get dX7_copyFrom_17 fX7_18 rfl rfl ?_
  refine go_iconst (v := 0) dX7_copyFrom_20 (by decide) ?_
  refine go_bipush (v := 10) dX7_copyFrom_21 (by decide) ?_
  refine go_copyF dX7_copyFrom_23 kX7_37 rfl rfl (by decide) (by decide) rfl ?_
  refine go_aload_n dX7_copyFrom_26 rfl ?_
  refine go_aload_n dX7_copyFrom_27 rfl ?_
  refine go_get dX7_copyFrom_28 fX7_29 rfl rfl ?_
  refine go_put dX7_copyFrom_31 fX7_29 (fun _ => rfl) (fun _ => rfl) rfl rfl ?_
  refine go_iconst (v := 0) dX7_copyFrom_34 (by decide) ?_
  refine go_istore_n (L' := [_, _, _]) dX7_copyFrom_35 rfl rfl rfl ?_
  have h9 := key 8 0 rfl
  rw [fil_0, fil_0] at h9
  exact h9
set_option maxRecDepth 100000 in
set_option maxHeartbeats 4000000 in
theorem rX7_copyFrom_1n {E : gE} {d : Nat} {nw i0 i1 : WorldS} {pd : PadS} {lv : LivesS} {pl : PlanS} {mt : MatS} {nt : NetS} {m : ModS} (hz : ∀ k, k < 8 → narrow .boolean (.int (nw.2.2.2.1 k)) = .int (nw.2.2.2.1 k)) : Ret E yX7_copyFrom cX7_copyFrom 3 none (d + 2) 0 0 [.ref 22, .ref 1] (hp nw i0 i1 pd lv pl mt nt m) (dt none (hp nw i0 (nw.1, nw.2.1, nw.2.2.1, nw.2.2.2.1, nw.2.2.2.2.1, i1.2.2.2.2.2) pd lv pl mt nt m)) := by
  refine ret_of_go (L := [_, _, _]) (by decide) (Nat.le_of_ble_eq_true rfl) rfl ?_
  have key : ∀ (n k : Nat), k + n = 8 → Go E yX7_copyFrom cX7_copyFrom 3 none (d + 2) 0 0 0 0 36 [some (.ref 22), some (.ref 1), some (.int (nI k))] [] (hp nw i0 (nw.1, nw.2.1, fil nw.2.2.1 i1.2.2.1 k, fil nw.2.2.2.1 i1.2.2.2.1 k, nw.2.2.2.2.1, i1.2.2.2.2.2) pd lv pl mt nt m) (dt none (hp nw i0 (nw.1, nw.2.1, nw.2.2.1, nw.2.2.2.1, nw.2.2.2.2.1, i1.2.2.2.2.2) pd lv pl mt nt m)) := by
    intro n
    induction n with
    | zero =>
      intro k hk
      obtain rfl : k = 8 := by omega
      refine go_ext (a := 30) nw.2.2.1 rfl (fun j hj => fil_in hj) ?_
      refine go_ext (a := 31) nw.2.2.2.1 rfl (fun j hj => fil_in hj) ?_
      refine go_iload_n dX7_copyFrom_36 rfl ?_
      refine go_bipush (v := 8) dX7_copyFrom_37 (by decide) ?_
      refine go_icmp_ge (tgt := 72) dX7_copyFrom_39 (by decide) (fun q39 => ?_) (fun q => absurd (nI_le (a := 8) (b := 8) (by decide) (by decide)) q)
      refine go_vret dX7_copyFrom_72 rfl rfl ?_
      exact ⟨rfl, rfl⟩
    | succ n ih =>
      intro k hk
      refine go_iload_n dX7_copyFrom_36 rfl ?_
      refine go_bipush (v := 8) dX7_copyFrom_37 (by decide) ?_
      refine go_icmp_ge (tgt := 72) dX7_copyFrom_39 (by decide) (fun q => absurd q (nI_ge (a := k) (b := 8) (by omega) (by decide))) (fun q39 => ?_)
      refine go_aload_n dX7_copyFrom_42 rfl ?_
      refine go_get dX7_copyFrom_43 fX7_22 rfl rfl ?_
      refine go_iload_n dX7_copyFrom_46 rfl ?_
      refine go_aload_n dX7_copyFrom_47 rfl ?_
      refine go_get dX7_copyFrom_48 fX7_22 rfl rfl ?_
      refine go_iload_n dX7_copyFrom_51 rfl ?_
      refine go_ialdN (k) dX7_copyFrom_52 rfl (by omega) rfl ?_
      refine go_iastN (k) dX7_copyFrom_53 rfl (by omega) rfl ?_
      refine go_aload_n dX7_copyFrom_54 rfl ?_
      refine go_get dX7_copyFrom_55 fX7_25 rfl rfl ?_
      refine go_iload_n dX7_copyFrom_58 rfl ?_
      refine go_aload_n dX7_copyFrom_59 rfl ?_
      refine go_get dX7_copyFrom_60 fX7_25 rfl rfl ?_
      refine go_iload_n dX7_copyFrom_63 rfl ?_
      refine go_zaldN (k) dX7_copyFrom_64 rfl (by omega) rfl ?_
      refine go_zastN k dX7_copyFrom_65 rfl (by omega) rfl (hz k (by omega)) ?_
      refine go_iinc (v := nI (k + 1)) (L' := [_, _, _]) dX7_copyFrom_66 rfl (nI_1 k) rfl rfl rfl ?_
      refine go_goto (tgt := 36) dX7_copyFrom_69 (by decide) ?_
      have h9 := ih (k + 1) (by omega)
      rw [← fil_s, ← fil_s] at h9
      exact h9
  refine go_aload_n dX7_copyFrom_0 rfl ?_
  refine go_get dX7_copyFrom_1 fX7_12 rfl rfl ?_
  refine go_aload_n dX7_copyFrom_4 rfl ?_
  refine go_get dX7_copyFrom_5 fX7_12 rfl rfl ?_
  refine go_cVv (as := [_]) dX7_copyFrom_8 mX1_copyFrom kX7_33 iX1_copyFrom sX1_copyFrom rfl rfl rfl rfl (rX1_copyFrom_1n) rfl rfl rfl ?_
  refine go_aload_n dX7_copyFrom_11 rfl ?_
  refine go_get dX7_copyFrom_12 fX7_18 rfl rfl ?_
  refine go_iconst (v := 0) dX7_copyFrom_15 (by decide) ?_
  refine go_aload_n dX7_copyFrom_16 rfl ?_
  refine go_get dX7_copyFrom_17 fX7_18 rfl rfl ?_
  refine go_iconst (v := 0) dX7_copyFrom_20 (by decide) ?_
  refine go_bipush (v := 10) dX7_copyFrom_21 (by decide) ?_
  refine go_copyF dX7_copyFrom_23 kX7_37 rfl rfl (by decide) (by decide) rfl ?_
  refine go_aload_n dX7_copyFrom_26 rfl ?_
  refine go_aload_n dX7_copyFrom_27 rfl ?_
  refine go_get dX7_copyFrom_28 fX7_29 rfl rfl ?_
  refine go_put dX7_copyFrom_31 fX7_29 (fun _ => rfl) (fun _ => rfl) rfl rfl ?_
  refine go_iconst (v := 0) dX7_copyFrom_34 (by decide) ?_
  refine go_istore_n (L' := [_, _, _]) dX7_copyFrom_35 rfl rfl rfl ?_
  have h9 := key 8 0 rfl
  rw [fil_0, fil_0] at h9
  exact h9
set_option maxRecDepth 100000 in
set_option maxHeartbeats 4000000 in
theorem rX7_copyFrom_n0 {E : gE} {d : Nat} {nw i0 i1 : WorldS} {pd : PadS} {lv : LivesS} {pl : PlanS} {mt : MatS} {nt : NetS} {m : ModS} (hz : ∀ k, k < 8 → narrow .boolean (.int (i0.2.2.2.1 k)) = .int (i0.2.2.2.1 k)) : Ret E yX7_copyFrom cX7_copyFrom 3 none (d + 2) 0 0 [.ref 1, .ref 12] (hp nw i0 i1 pd lv pl mt nt m) (dt none (hp (i0.1, i0.2.1, i0.2.2.1, i0.2.2.2.1, i0.2.2.2.2.1, nw.2.2.2.2.2) i0 i1 pd lv pl mt nt m)) := by
  refine ret_of_go (L := [_, _, _]) (by decide) (Nat.le_of_ble_eq_true rfl) rfl ?_
  have key : ∀ (n k : Nat), k + n = 8 → Go E yX7_copyFrom cX7_copyFrom 3 none (d + 2) 0 0 0 0 36 [some (.ref 1), some (.ref 12), some (.int (nI k))] [] (hp (i0.1, i0.2.1, fil i0.2.2.1 nw.2.2.1 k, fil i0.2.2.2.1 nw.2.2.2.1 k, i0.2.2.2.2.1, nw.2.2.2.2.2) i0 i1 pd lv pl mt nt m) (dt none (hp (i0.1, i0.2.1, i0.2.2.1, i0.2.2.2.1, i0.2.2.2.2.1, nw.2.2.2.2.2) i0 i1 pd lv pl mt nt m)) := by
    intro n
    induction n with
    | zero =>
      intro k hk
      obtain rfl : k = 8 := by omega
      refine go_ext (a := 9) i0.2.2.1 rfl (fun j hj => fil_in hj) ?_
      refine go_ext (a := 10) i0.2.2.2.1 rfl (fun j hj => fil_in hj) ?_
      refine go_iload_n dX7_copyFrom_36 rfl ?_
      refine go_bipush (v := 8) dX7_copyFrom_37 (by decide) ?_
      refine go_icmp_ge (tgt := 72) dX7_copyFrom_39 (by decide) (fun q39 => ?_) (fun q => absurd (nI_le (a := 8) (b := 8) (by decide) (by decide)) q)
      refine go_vret dX7_copyFrom_72 rfl rfl ?_
      exact ⟨rfl, rfl⟩
    | succ n ih =>
      intro k hk
      refine go_iload_n dX7_copyFrom_36 rfl ?_
      refine go_bipush (v := 8) dX7_copyFrom_37 (by decide) ?_
      refine go_icmp_ge (tgt := 72) dX7_copyFrom_39 (by decide) (fun q => absurd q (nI_ge (a := k) (b := 8) (by omega) (by decide))) (fun q39 => ?_)
      refine go_aload_n dX7_copyFrom_42 rfl ?_
      refine go_get dX7_copyFrom_43 fX7_22 rfl rfl ?_
      refine go_iload_n dX7_copyFrom_46 rfl ?_
      refine go_aload_n dX7_copyFrom_47 rfl ?_
      refine go_get dX7_copyFrom_48 fX7_22 rfl rfl ?_
      refine go_iload_n dX7_copyFrom_51 rfl ?_
      refine go_ialdN (k) dX7_copyFrom_52 rfl (by omega) rfl ?_
      refine go_iastN (k) dX7_copyFrom_53 rfl (by omega) rfl ?_
      refine go_aload_n dX7_copyFrom_54 rfl ?_
      refine go_get dX7_copyFrom_55 fX7_25 rfl rfl ?_
      refine go_iload_n dX7_copyFrom_58 rfl ?_
      refine go_aload_n dX7_copyFrom_59 rfl ?_
      refine go_get dX7_copyFrom_60 fX7_25 rfl rfl ?_
      refine go_iload_n dX7_copyFrom_63 rfl ?_
      refine go_zaldN (k) dX7_copyFrom_64 rfl (by omega) rfl ?_
      refine go_zastN k dX7_copyFrom_65 rfl (by omega) rfl (hz k (by omega)) ?_
      refine go_iinc (v := nI (k + 1)) (L' := [_, _, _]) dX7_copyFrom_66 rfl (nI_1 k) rfl rfl rfl ?_
      refine go_goto (tgt := 36) dX7_copyFrom_69 (by decide) ?_
      have h9 := ih (k + 1) (by omega)
      rw [← fil_s, ← fil_s] at h9
      exact h9
  refine go_aload_n dX7_copyFrom_0 rfl ?_
  refine go_get dX7_copyFrom_1 fX7_12 rfl rfl ?_
  refine go_aload_n dX7_copyFrom_4 rfl ?_
  refine go_get dX7_copyFrom_5 fX7_12 rfl rfl ?_
  refine go_cVv (as := [_]) dX7_copyFrom_8 mX1_copyFrom kX7_33 iX1_copyFrom sX1_copyFrom rfl rfl rfl rfl (rX1_copyFrom_n0) rfl rfl rfl ?_
  refine go_aload_n dX7_copyFrom_11 rfl ?_
  refine go_get dX7_copyFrom_12 fX7_18 rfl rfl ?_
  refine go_iconst (v := 0) dX7_copyFrom_15 (by decide) ?_
  refine go_aload_n dX7_copyFrom_16 rfl ?_
  refine go_get dX7_copyFrom_17 fX7_18 rfl rfl ?_
  refine go_iconst (v := 0) dX7_copyFrom_20 (by decide) ?_
  refine go_bipush (v := 10) dX7_copyFrom_21 (by decide) ?_
  refine go_copyF dX7_copyFrom_23 kX7_37 rfl rfl (by decide) (by decide) rfl ?_
  refine go_aload_n dX7_copyFrom_26 rfl ?_
  refine go_aload_n dX7_copyFrom_27 rfl ?_
  refine go_get dX7_copyFrom_28 fX7_29 rfl rfl ?_
  refine go_put dX7_copyFrom_31 fX7_29 (fun _ => rfl) (fun _ => rfl) rfl rfl ?_
  refine go_iconst (v := 0) dX7_copyFrom_34 (by decide) ?_
  refine go_istore_n (L' := [_, _, _]) dX7_copyFrom_35 rfl rfl rfl ?_
  have h9 := key 8 0 rfl
  rw [fil_0, fil_0] at h9
  exact h9
set_option maxRecDepth 100000 in
set_option maxHeartbeats 4000000 in
theorem rX7_copyFrom_n1 {E : gE} {d : Nat} {nw i0 i1 : WorldS} {pd : PadS} {lv : LivesS} {pl : PlanS} {mt : MatS} {nt : NetS} {m : ModS} (hz : ∀ k, k < 8 → narrow .boolean (.int (i1.2.2.2.1 k)) = .int (i1.2.2.2.1 k)) : Ret E yX7_copyFrom cX7_copyFrom 3 none (d + 2) 0 0 [.ref 1, .ref 22] (hp nw i0 i1 pd lv pl mt nt m) (dt none (hp (i1.1, i1.2.1, i1.2.2.1, i1.2.2.2.1, i1.2.2.2.2.1, nw.2.2.2.2.2) i0 i1 pd lv pl mt nt m)) := by
  refine ret_of_go (L := [_, _, _]) (by decide) (Nat.le_of_ble_eq_true rfl) rfl ?_
  have key : ∀ (n k : Nat), k + n = 8 → Go E yX7_copyFrom cX7_copyFrom 3 none (d + 2) 0 0 0 0 36 [some (.ref 1), some (.ref 22), some (.int (nI k))] [] (hp (i1.1, i1.2.1, fil i1.2.2.1 nw.2.2.1 k, fil i1.2.2.2.1 nw.2.2.2.1 k, i1.2.2.2.2.1, nw.2.2.2.2.2) i0 i1 pd lv pl mt nt m) (dt none (hp (i1.1, i1.2.1, i1.2.2.1, i1.2.2.2.1, i1.2.2.2.2.1, nw.2.2.2.2.2) i0 i1 pd lv pl mt nt m)) := by
    intro n
    induction n with
    | zero =>
      intro k hk
      obtain rfl : k = 8 := by omega
      refine go_ext (a := 9) i1.2.2.1 rfl (fun j hj => fil_in hj) ?_
      refine go_ext (a := 10) i1.2.2.2.1 rfl (fun j hj => fil_in hj) ?_
      refine go_iload_n dX7_copyFrom_36 rfl ?_
      refine go_bipush (v := 8) dX7_copyFrom_37 (by decide) ?_
      refine go_icmp_ge (tgt := 72) dX7_copyFrom_39 (by decide) (fun q39 => ?_) (fun q => absurd (nI_le (a := 8) (b := 8) (by decide) (by decide)) q)
      refine go_vret dX7_copyFrom_72 rfl rfl ?_
      exact ⟨rfl, rfl⟩
    | succ n ih =>
      intro k hk
      refine go_iload_n dX7_copyFrom_36 rfl ?_
      refine go_bipush (v := 8) dX7_copyFrom_37 (by decide) ?_
      refine go_icmp_ge (tgt := 72) dX7_copyFrom_39 (by decide) (fun q => absurd q (nI_ge (a := k) (b := 8) (by omega) (by decide))) (fun q39 => ?_)
      refine go_aload_n dX7_copyFrom_42 rfl ?_
      refine go_get dX7_copyFrom_43 fX7_22 rfl rfl ?_
      refine go_iload_n dX7_copyFrom_46 rfl ?_
      refine go_aload_n dX7_copyFrom_47 rfl ?_
      refine go_get dX7_copyFrom_48 fX7_22 rfl rfl ?_
      refine go_iload_n dX7_copyFrom_51 rfl ?_
      refine go_ialdN (k) dX7_copyFrom_52 rfl (by omega) rfl ?_
      refine go_iastN (k) dX7_copyFrom_53 rfl (by omega) rfl ?_
      refine go_aload_n dX7_copyFrom_54 rfl ?_
      refine go_get dX7_copyFrom_55 fX7_25 rfl rfl ?_
      refine go_iload_n dX7_copyFrom_58 rfl ?_
      refine go_aload_n dX7_copyFrom_59 rfl ?_
      refine go_get dX7_copyFrom_60 fX7_25 rfl rfl ?_
      refine go_iload_n dX7_copyFrom_63 rfl ?_
      refine go_zaldN (k) dX7_copyFrom_64 rfl (by omega) rfl ?_
      refine go_zastN k dX7_copyFrom_65 rfl (by omega) rfl (hz k (by omega)) ?_
      refine go_iinc (v := nI (k + 1)) (L' := [_, _, _]) dX7_copyFrom_66 rfl (nI_1 k) rfl rfl rfl ?_
      refine go_goto (tgt := 36) dX7_copyFrom_69 (by decide) ?_
      have h9 := ih (k + 1) (by omega)
      rw [← fil_s, ← fil_s] at h9
      exact h9
  refine go_aload_n dX7_copyFrom_0 rfl ?_
  refine go_get dX7_copyFrom_1 fX7_12 rfl rfl ?_
  refine go_aload_n dX7_copyFrom_4 rfl ?_
  refine go_get dX7_copyFrom_5 fX7_12 rfl rfl ?_
  refine go_cVv (as := [_]) dX7_copyFrom_8 mX1_copyFrom kX7_33 iX1_copyFrom sX1_copyFrom rfl rfl rfl rfl (rX1_copyFrom_n1) rfl rfl rfl ?_
  refine go_aload_n dX7_copyFrom_11 rfl ?_
  refine go_get dX7_copyFrom_12 fX7_18 rfl rfl ?_
  refine go_iconst (v := 0) dX7_copyFrom_15 (by decide) ?_
  refine go_aload_n dX7_copyFrom_16 rfl ?_
  refine go_get dX7_copyFrom_17 fX7_18 rfl rfl ?_
  refine go_iconst (v := 0) dX7_copyFrom_20 (by decide) ?_
  refine go_bipush (v := 10) dX7_copyFrom_21 (by decide) ?_
  refine go_copyF dX7_copyFrom_23 kX7_37 rfl rfl (by decide) (by decide) rfl ?_
  refine go_aload_n dX7_copyFrom_26 rfl ?_
  refine go_aload_n dX7_copyFrom_27 rfl ?_
  refine go_get dX7_copyFrom_28 fX7_29 rfl rfl ?_
  refine go_put dX7_copyFrom_31 fX7_29 (fun _ => rfl) (fun _ => rfl) rfl rfl ?_
  refine go_iconst (v := 0) dX7_copyFrom_34 (by decide) ?_
  refine go_istore_n (L' := [_, _, _]) dX7_copyFrom_35 rfl rfl rfl ?_
  have h9 := key 8 0 rfl
  rw [fil_0, fil_0] at h9
  exact h9
set_option maxRecDepth 100000 in
set_option maxHeartbeats 4000000 in
theorem rX6_forgetValues {E : gE} {d : Nat} {nw i0 i1 : WorldS} {pd : PadS} {lv : LivesS} {pl : PlanS} {mt : MatS} {nt : NetS} {m : ModS} : Ret E yX6_forgetValues cX6_forgetValues 1 none d 0 0 [.ref 42] (hp nw i0 i1 pd lv pl mt nt m) (dt none (hp nw i0 i1 pd lv (pl.1, pl.2.1, 0) mt nt m)) := by
  refine ret_of_go (L := [_]) (by decide) (Nat.le_of_ble_eq_true rfl) rfl ?_
  refine go_aload_n dX6_forgetValues_0 rfl ?_
  refine go_iconst (v := 0) dX6_forgetValues_1 (by decide) ?_
  refine go_put dX6_forgetValues_2 fX6_18 (fun _ => rfl) (fun _ => rfl) rfl rfl ?_
  refine go_vret dX6_forgetValues_5 rfl rfl ?_
  exact ⟨rfl, rfl⟩
set_option maxRecDepth 100000 in
set_option maxHeartbeats 4000000 in
theorem rX6_value {E : gE} {d : Nat} {nw i0 i1 : WorldS} {pd : PadS} {lv : LivesS} {pl : PlanS} {mt : MatS} {nt : NetS} {m : ModS} {n q : Nat} (hn : n ≤ 9) (hq : q ≤ 8) : Ret E yX6_value cX6_value 3 (some .long) d 0 0 [.ref 42, .int (nI n), .int (nI q)] (hp nw i0 i1 pd lv pl mt nt m) (dt (some (.long (pl.1 (n * 9 + q)))) (hp nw i0 i1 pd lv pl mt nt m)) := by
  refine ret_of_go (L := [_, _, _]) (by decide) (Nat.le_of_ble_eq_true rfl) rfl ?_
  refine go_aload_n dX6_value_0 rfl ?_
  refine go_get dX6_value_1 fX6_11 rfl rfl ?_
  refine go_iload_n dX6_value_4 rfl ?_
  refine go_bipush (v := 9) dX6_value_5 (by decide) ?_
  refine go_imul dX6_value_7 ?_
  refine go_iload_n dX6_value_8 rfl ?_
  refine go_iadd dX6_value_9 ?_
  refine go_topi_eq nI9 ?_
  refine go_laldN (n * 9 + q) dX6_value_10 rfl (by omega) rfl ?_
  refine go_lret dX6_value_11 rfl rfl ?_
  exact ⟨rfl, rfl⟩
set_option maxRecDepth 100000 in
set_option maxHeartbeats 4000000 in
theorem rX6_scale {E : gE} {d : Nat} {nw i0 i1 : WorldS} {pd : PadS} {lv : LivesS} {pl : PlanS} {mt : MatS} {nt : NetS} {m : ModS} {q : Nat} (hq : q ≤ 8) : Ret E yX6_scale cX6_scale 2 (some .long) d 0 0 [.ref 42, .int (nI q)] (hp nw i0 i1 pd lv pl mt nt m) (dt (some (.long (pl.2.1 q))) (hp nw i0 i1 pd lv pl mt nt m)) := by
  refine ret_of_go (L := [_, _]) (by decide) (Nat.le_of_ble_eq_true rfl) rfl ?_
  refine go_aload_n dX6_scale_0 rfl ?_
  refine go_get dX6_scale_1 fX6_15 rfl rfl ?_
  refine go_iload_n dX6_scale_4 rfl ?_
  refine go_laldN (q) dX6_scale_5 rfl (by omega) rfl ?_
  refine go_lret dX6_scale_6 rfl rfl ?_
  exact ⟨rfl, rfl⟩
set_option maxRecDepth 100000 in
set_option maxHeartbeats 4000000 in
theorem rX6_valueOfSigning {E : gE} {d : Nat} {nw i0 i1 : WorldS} {pd : PadS} {lv : LivesS} {pl : PlanS} {mt : MatS} {nt : NetS} {m : ModS} {n q : Nat} {w : Int32} (h1 : 1 ≤ n) (hn : n ≤ 9) (h2 : 1 ≤ q) (hq : q ≤ 8) : Ret E yX6_valueOfSigning cX6_valueOfSigning 4 (some .long) (d + 1) 0 0 [.ref 42, .int (nI n), .int (nI q), .int w] (hp nw i0 i1 pd lv pl mt nt m) (dt (some (.long (vsF pl.1 pl.2.1 n q w))) (hp nw i0 i1 pd lv pl mt nt m)) := by
  refine ret_of_go (L := [_, _, _, _]) (by decide) (Nat.le_of_ble_eq_true rfl) rfl ?_
  refine go_iload_n dX6_valueOfSigning_0 rfl ?_
  refine go_i2l dX6_valueOfSigning_1 ?_
  refine go_aload_n dX6_valueOfSigning_2 rfl ?_
  refine go_get dX6_valueOfSigning_3 fX6_15 rfl rfl ?_
  refine go_iload_n dX6_valueOfSigning_6 rfl ?_
  refine go_iconst (v := 1) dX6_valueOfSigning_7 (by decide) ?_
  refine go_isub dX6_valueOfSigning_8 ?_
  refine go_topi_eq (nI_m1 h2) ?_
  refine go_laldN (q - 1) dX6_valueOfSigning_9 rfl (by omega) rfl ?_
  refine go_lmul dX6_valueOfSigning_10 ?_
  refine go_aload_n dX6_valueOfSigning_11 rfl ?_
  refine go_iload_n dX6_valueOfSigning_12 rfl ?_
  refine go_iconst (v := 1) dX6_valueOfSigning_13 (by decide) ?_
  refine go_isub dX6_valueOfSigning_14 ?_
  refine go_topi_eq (nI_m1 h1) ?_
  refine go_iload_n dX6_valueOfSigning_15 rfl ?_
  refine go_iconst (v := 1) dX6_valueOfSigning_16 (by decide) ?_
  refine go_isub dX6_valueOfSigning_17 ?_
  refine go_topi_eq (nI_m1 h2) ?_
  refine go_cV (as := [_, _]) dX6_valueOfSigning_18 mX6_value kX6_36 iX6_value sX6_value rfl rfl rfl rfl (rX6_value (n := n - 1) (q := q - 1) (by omega) (by omega)) rfl rfl rfl ?_
  refine go_ladd dX6_valueOfSigning_21 ?_
  refine go_lret dX6_valueOfSigning_22 rfl rfl ?_
  exact ⟨rfl, rfl⟩
set_option maxRecDepth 100000 in
set_option maxHeartbeats 4000000 in
theorem rX6_isToSign {E : gE} {d : Nat} {nw i0 i1 : WorldS} {pd : PadS} {lv : LivesS} {pl : PlanS} {mt : MatS} {nt : NetS} {m : ModS} {n q : Nat} {w : Int32} (h1 : 1 ≤ n) (hn : n ≤ 9) (h2 : 1 ≤ q) (hq : q ≤ 8) : Ret E yX6_isToSign cX6_isToSign 4 (some .boolean) (d + 2) 0 0 [.ref 42, .int (nI n), .int (nI q), .int w] (hp nw i0 i1 pd lv pl mt nt m) (dt (some (.int (b2i (itsB pl.1 pl.2.1 n q w)))) (hp nw i0 i1 pd lv pl mt nt m)) := by
  refine ret_of_go (L := [_, _, _, _]) (by decide) (Nat.le_of_ble_eq_true rfl) rfl ?_
  refine go_aload_n dX6_isToSign_0 rfl ?_
  refine go_iload_n dX6_isToSign_1 rfl ?_
  refine go_iload_n dX6_isToSign_2 rfl ?_
  refine go_iload_n dX6_isToSign_3 rfl ?_
  refine go_cV (as := [_, _, _]) dX6_isToSign_4 mX6_valueOfSigning kX6_40 iX6_valueOfSigning sX6_valueOfSigning rfl rfl rfl rfl (rX6_valueOfSigning h1 hn h2 hq) rfl rfl rfl ?_
  refine go_aload_n dX6_isToSign_7 rfl ?_
  refine go_iload_n dX6_isToSign_8 rfl ?_
  refine go_iload_n dX6_isToSign_9 rfl ?_
  refine go_iconst (v := 1) dX6_isToSign_10 (by decide) ?_
  refine go_isub dX6_isToSign_11 ?_
  refine go_topi_eq (nI_m1 h2) ?_
  refine go_cV (as := [_, _]) dX6_isToSign_12 mX6_value kX6_36 iX6_value sX6_value rfl rfl rfl rfl (rX6_value (n := n) (q := q - 1) (by omega) (by omega)) rfl rfl rfl ?_
  refine go_lcmp dX6_isToSign_15 ?_
  refine go_if_lt (tgt := 23) dX6_isToSign_16 (by decide) (fun q16 => ?_) (fun q16 => ?_)
  · refine go_iconst (v := 0) dX6_isToSign_23 (by decide) ?_
    refine go_zret dX6_isToSign_24 (by decide) rfl rfl ?_
    exact ⟨by rw [lg_lt] at q16; simp only [itsB, *, decide_true, decide_false, b2i, if_true, if_false, Bool.false_eq_true]; first | done | (simp_all; done), rfl⟩
  · refine go_iconst (v := 1) dX6_isToSign_19 (by decide) ?_
    refine go_goto (tgt := 24) dX6_isToSign_20 (by decide) ?_
    refine go_zret dX6_isToSign_24 (by decide) rfl rfl ?_
    exact ⟨by rw [lg_lt] at q16; simp only [itsB, *, decide_true, decide_false, b2i, if_true, if_false, Bool.false_eq_true]; first | done | (simp_all; done), rfl⟩
