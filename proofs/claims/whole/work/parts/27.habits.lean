def shF (V C : Nat → Int64) (n q w : Nat) : Int32 :=
  if n = 0 then 0 else
  ((1 : Int32) <<< (nI (w + 1) &&& 31) - 1) ||| (if itsB V C n q (nI w) then 1024 else 0) ||| (if q ≤ n ∨ 5 ≤ w then 2048 else 0)
/-- an offer as a number: 100 n + 10 q + w -/
def offOK (k : Nat) : Prop := k / 100 ≤ 9 ∧ 1 ≤ k / 10 % 10 ∧ k / 10 % 10 ≤ 8 ∧ 1 ≤ k % 10
def fhR (V C : Nat → Int64) (O : Nat → Nat) (Z : Nat → Int32) : Nat → Int32
  | 0 => 4095
  | i + 1 => fhR V C O Z i &&& (if Z i = 0 then shF V C (O i / 100) (O i / 10 % 10) (O i % 10) ^^^ (-1) else shF V C (O i / 100) (O i / 10 % 10) (O i % 10))
def lfF (V C : Nat → Int64) (hb : Int32) (n q w : Nat) : Int32 := mxI (bcF (hb &&& shF V C n q w)) (bcF (hb &&& (shF V C n q w ^^^ (-1))))
def bwS (V C : Nat → Int64) (hb : Int32) (n q w : Nat) (r : Int32 × Int32) : Int32 × Int32 := if r.2 ≤ lfF V C hb n q w then r else (nI (100 * n + 10 * q + w), lfF V C hb n q w)
def bw3 (V C : Nat → Int64) (hb : Int32) (n q : Nat) (r : Int32 × Int32) : Nat → Int32 × Int32
  | 0 => r
  | w + 1 => bwS V C hb n q (w + 1) (bw3 V C hb n q r w)
def bw2 (V C : Nat → Int64) (hb : Int32) (n : Nat) (r : Int32 × Int32) : Nat → Int32 × Int32
  | 0 => r
  | q + 1 => bw3 V C hb n (q + 1) (bw2 V C hb n r q) 9
def bw1 (V C : Nat → Int64) (hb : Int32) : Nat → Int32 × Int32
  | 0 => (-6, 13)
  | n + 1 => bw2 V C hb n (bw1 V C hb n) 8
theorem nI_off (n q w : Nat) : 100 * nI n + 10 * nI q + nI w = nI (100 * n + 10 * q + w) := by
  rw [show (100 : Int32) = nI 100 from rfl, show (10 : Int32) = nI 10 from rfl, pk_mul, pk_mul, nI_add, nI_add]
theorem or0 (x : Int32) : x ||| 0 = x := by simp
set_option maxRecDepth 100000 in
set_option maxHeartbeats 4000000 in
theorem rX8_signingHabits {E : gE} {d : Nat} {nw i0 i1 : WorldS} {pd : PadS} {lv : LivesS} {pl : PlanS} {mt : MatS} {nt : NetS} {m : ModS} {n q w : Nat} (hn : n ≤ 9) (h2 : 1 ≤ q) (hq : q ≤ 8) (h3 : 1 ≤ w) (hw : w ≤ 9) : Ret E yX8_signingHabits cX8_signingHabits 5 (some .int) (d + 3) 0 0 [.ref 0, .int (nI n), .int (nI q), .int (nI w)] (hp nw i0 i1 pd lv pl mt nt m) (dt (some (.int (shF pl.1 pl.2.1 n q w))) (hp nw i0 i1 pd lv pl mt nt m)) := by
  refine ret_of_go (L := [_, _, _, _, _]) (by decide) (Nat.le_of_ble_eq_true rfl) rfl ?_
  by_cases h0 : n = 0
  · subst h0
    refine go_iload_n dX8_signingHabits_0 rfl ?_
    refine go_if_ne (tgt := 6) dX8_signingHabits_1 (by decide) (fun zq => absurd rfl zq) (fun q1 => ?_)
    refine go_iconst (v := 0) dX8_signingHabits_4 (by decide) ?_
    refine go_iret dX8_signingHabits_5 rfl rfl ?_
    exact ⟨by rw [shF, if_pos rfl], rfl⟩
  · have h5 : (nI q ≤ nI n) = (q ≤ n) := propext (nI_leI (by omega) (by omega))
    have h6 : (nI w < (5 : Int32)) = (w < 5) := propext (nI_ltI (b := 5) (by omega) (by decide))
    refine go_iload_n dX8_signingHabits_0 rfl ?_
    refine go_if_ne (tgt := 6) dX8_signingHabits_1 (by decide) (fun q1 => ?_) (fun zq => absurd zq (nI_ne0 (by omega) (by omega)))
    refine go_iconst (v := 1) dX8_signingHabits_6 (by decide) ?_
    refine go_iload_n dX8_signingHabits_7 rfl ?_
    refine go_iconst (v := 1) dX8_signingHabits_8 (by decide) ?_
    refine go_iadd dX8_signingHabits_9 ?_
    refine go_topi_eq (nI_1 w) ?_
    refine go_ishl dX8_signingHabits_10 ?_
    refine go_iconst (v := 1) dX8_signingHabits_11 (by decide) ?_
    refine go_isub dX8_signingHabits_12 ?_
    refine go_istore (L' := [_, _, _, _, _]) dX8_signingHabits_13 rfl rfl rfl ?_
    refine go_aload_n dX8_signingHabits_15 rfl ?_
    refine go_get dX8_signingHabits_16 fX8_37 rfl rfl ?_
    refine go_iload_n dX8_signingHabits_19 rfl ?_
    refine go_iload_n dX8_signingHabits_20 rfl ?_
    refine go_iload_n dX8_signingHabits_21 rfl ?_
    refine go_cV (as := [_, _, _]) dX8_signingHabits_22 mX6_isToSign kX8_243 iX6_isToSign sX6_isToSign rfl rfl rfl rfl (rX6_isToSign (n := n) (q := q) (by omega) hn h2 hq) rfl rfl rfl ?_
    refine go_bif_eq (tgt := 36) dX8_signingHabits_25 (by decide) (fun q25 => ?_) (fun q25 => ?_)
    · refine go_iload_n dX8_signingHabits_36 rfl ?_
      refine go_iload_n dX8_signingHabits_37 rfl ?_
      refine go_icmp_ge (tgt := 46) dX8_signingHabits_38 (by decide) (fun q38 => ?_) (fun q38 => ?_)
      · refine go_iload dX8_signingHabits_46 rfl ?_
        refine go_sipush (v := 2048) dX8_signingHabits_48 (by decide) ?_
        refine go_ior dX8_signingHabits_51 ?_
        refine go_istore (L' := [_, _, _, _, _]) dX8_signingHabits_52 rfl rfl rfl ?_
        refine go_iload dX8_signingHabits_54 rfl ?_
        refine go_iret dX8_signingHabits_56 rfl rfl ?_
        exact ⟨by rw [shF, if_neg h0, if_neg (by rw [q25]; decide), if_pos (Or.inl (by rw [h5] at q38; exact q38)), or0], rfl⟩
      · refine go_iload_n dX8_signingHabits_41 rfl ?_
        refine go_iconst (v := 5) dX8_signingHabits_42 (by decide) ?_
        refine go_icmp_lt (tgt := 54) dX8_signingHabits_43 (by decide) (fun q43 => ?_) (fun q43 => ?_)
        · refine go_iload dX8_signingHabits_54 rfl ?_
          refine go_iret dX8_signingHabits_56 rfl rfl ?_
          exact ⟨by rw [shF, if_neg h0, if_neg (by rw [q25]; decide), if_neg (fun z9 => z9.elim (by rw [h5] at q38; exact q38) (fun z8 => by rw [h6] at q43; omega)), or0, or0], rfl⟩
        · refine go_iload dX8_signingHabits_46 rfl ?_
          refine go_sipush (v := 2048) dX8_signingHabits_48 (by decide) ?_
          refine go_ior dX8_signingHabits_51 ?_
          refine go_istore (L' := [_, _, _, _, _]) dX8_signingHabits_52 rfl rfl rfl ?_
          refine go_iload dX8_signingHabits_54 rfl ?_
          refine go_iret dX8_signingHabits_56 rfl rfl ?_
          exact ⟨by rw [shF, if_neg h0, if_neg (by rw [q25]; decide), if_pos (Or.inr (by rw [h6] at q43; omega)), or0], rfl⟩
    · refine go_iload dX8_signingHabits_28 rfl ?_
      refine go_sipush (v := 1024) dX8_signingHabits_30 (by decide) ?_
      refine go_ior dX8_signingHabits_33 ?_
      refine go_istore (L' := [_, _, _, _, _]) dX8_signingHabits_34 rfl rfl rfl ?_
      refine go_iload_n dX8_signingHabits_36 rfl ?_
      refine go_iload_n dX8_signingHabits_37 rfl ?_
      refine go_icmp_ge (tgt := 46) dX8_signingHabits_38 (by decide) (fun q38 => ?_) (fun q38 => ?_)
      · refine go_iload dX8_signingHabits_46 rfl ?_
        refine go_sipush (v := 2048) dX8_signingHabits_48 (by decide) ?_
        refine go_ior dX8_signingHabits_51 ?_
        refine go_istore (L' := [_, _, _, _, _]) dX8_signingHabits_52 rfl rfl rfl ?_
        refine go_iload dX8_signingHabits_54 rfl ?_
        refine go_iret dX8_signingHabits_56 rfl rfl ?_
        exact ⟨by rw [shF, if_neg h0, if_pos q25, if_pos (Or.inl (by rw [h5] at q38; exact q38))], rfl⟩
      · refine go_iload_n dX8_signingHabits_41 rfl ?_
        refine go_iconst (v := 5) dX8_signingHabits_42 (by decide) ?_
        refine go_icmp_lt (tgt := 54) dX8_signingHabits_43 (by decide) (fun q43 => ?_) (fun q43 => ?_)
        · refine go_iload dX8_signingHabits_54 rfl ?_
          refine go_iret dX8_signingHabits_56 rfl rfl ?_
          exact ⟨by rw [shF, if_neg h0, if_pos q25, if_neg (fun z9 => z9.elim (by rw [h5] at q38; exact q38) (fun z8 => by rw [h6] at q43; omega)), or0], rfl⟩
        · refine go_iload dX8_signingHabits_46 rfl ?_
          refine go_sipush (v := 2048) dX8_signingHabits_48 (by decide) ?_
          refine go_ior dX8_signingHabits_51 ?_
          refine go_istore (L' := [_, _, _, _, _]) dX8_signingHabits_52 rfl rfl rfl ?_
          refine go_iload dX8_signingHabits_54 rfl ?_
          refine go_iret dX8_signingHabits_56 rfl rfl ?_
          exact ⟨by rw [shF, if_neg h0, if_pos q25, if_pos (Or.inr (by rw [h6] at q43; omega))], rfl⟩
set_option maxRecDepth 100000 in
set_option maxHeartbeats 4000000 in
theorem rX8_fittingHabits {E : gE} {d : Nat} {nw i0 i1 : WorldS} {pd : PadS} {lv : LivesS} {pl : PlanS} {mt : MatS} {nt : NetS} {m : ModS} {O : Nat → Nat} {s : Nat} (hs8 : s ≤ 8) (hO : ∀ i, i < s → offOK (O i)) : Ret E yX8_fittingHabits cX8_fittingHabits 5 (some .int) (d + 4) 0 0 [.ref 0] (hp (nw.1, nw.2.1, fun i => nI (O i), nw.2.2.2.1, nI s, nw.2.2.2.2.2) i0 i1 pd lv pl mt nt m) (dt (some (.int (fhR pl.1 pl.2.1 O nw.2.2.2.1 s))) (hp (nw.1, nw.2.1, fun i => nI (O i), nw.2.2.2.1, nI s, nw.2.2.2.2.2) i0 i1 pd lv pl mt nt m)) := by
  refine ret_of_go (L := [_, _, _, _, _]) (by decide) (Nat.le_of_ble_eq_true rfl) rfl ?_
  have key : ∀ (n i : Nat) (acc : Int32) (a3 a4 : Option Value), i + n = s → acc = fhR pl.1 pl.2.1 O nw.2.2.2.1 i → Go E yX8_fittingHabits cX8_fittingHabits 5 (some .int) (d + 4) 0 0 0 0 6 [some (.ref 0), some (.int acc), some (.int (nI i)), a3, a4] [] (hp (nw.1, nw.2.1, fun i => nI (O i), nw.2.2.2.1, nI s, nw.2.2.2.2.2) i0 i1 pd lv pl mt nt m) (dt (some (.int (fhR pl.1 pl.2.1 O nw.2.2.2.1 s))) (hp (nw.1, nw.2.1, fun i => nI (O i), nw.2.2.2.1, nI s, nw.2.2.2.2.2) i0 i1 pd lv pl mt nt m)) := by
    intro n
    induction n with
    | zero =>
      intro i acc a3 a4 hi ha
      obtain rfl : i = s := by omega
      refine go_iload_n dX8_fittingHabits_6 rfl ?_
      refine go_aload_n dX8_fittingHabits_7 rfl ?_
      refine go_get dX8_fittingHabits_8 fX8_10 rfl rfl ?_
      refine go_get dX8_fittingHabits_11 fX8_200 rfl rfl ?_
      refine go_icmp_ge (tgt := 78) dX8_fittingHabits_14 (by decide) (fun q14 => ?_) (fun zq => absurd (nI_le (Nat.le_refl _) (by omega)) zq)
      refine go_iload_n dX8_fittingHabits_78 rfl ?_
      refine go_iret dX8_fittingHabits_79 rfl rfl ?_
      exact ⟨by rw [ha], rfl⟩
    | succ n ih =>
      intro i acc a3 a4 hi ha
      obtain ⟨k1, k2, k3, k4⟩ := hO i (by omega)
      have hk : O i < 1000 := by omega
      refine go_iload_n dX8_fittingHabits_6 rfl ?_
      refine go_aload_n dX8_fittingHabits_7 rfl ?_
      refine go_get dX8_fittingHabits_8 fX8_10 rfl rfl ?_
      refine go_get dX8_fittingHabits_11 fX8_200 rfl rfl ?_
      refine go_icmp_ge (tgt := 78) dX8_fittingHabits_14 (by decide) (fun zq => absurd zq (nI_ge (a := i) (b := s) (by omega) (by omega))) (fun q14 => ?_)
      refine go_aload_n dX8_fittingHabits_17 rfl ?_
      refine go_get dX8_fittingHabits_18 fX8_10 rfl rfl ?_
      refine go_get dX8_fittingHabits_21 fX8_246 rfl rfl ?_
      refine go_iload_n dX8_fittingHabits_24 rfl ?_
      refine go_ialdN (i) dX8_fittingHabits_25 rfl (by omega) rfl ?_
      refine go_istore_n (L' := [_, _, _, _, _]) dX8_fittingHabits_26 rfl rfl rfl ?_
      refine go_aload_n dX8_fittingHabits_27 rfl ?_
      refine go_iload_n dX8_fittingHabits_28 rfl ?_
      refine go_bipush (v := 100) dX8_fittingHabits_29 (by decide) ?_
      refine go_idiv dX8_fittingHabits_31 (by decide) ?_
      refine go_topi_eq (pk_div (d := 100) (by omega) (by decide) (by decide)) ?_
      refine go_iload_n dX8_fittingHabits_32 rfl ?_
      refine go_bipush (v := 10) dX8_fittingHabits_33 (by decide) ?_
      refine go_idiv dX8_fittingHabits_35 (by decide) ?_
      refine go_topi_eq (pk_div (d := 10) (by omega) (by decide) (by decide)) ?_
      refine go_bipush (v := 10) dX8_fittingHabits_36 (by decide) ?_
      refine go_irem dX8_fittingHabits_38 (by decide) ?_
      refine go_topi_eq (pk_rem (d := 10) (by omega) (by decide) (by decide)) ?_
      refine go_iload_n dX8_fittingHabits_39 rfl ?_
      refine go_bipush (v := 10) dX8_fittingHabits_40 (by decide) ?_
      refine go_irem dX8_fittingHabits_42 (by decide) ?_
      refine go_topi_eq (pk_rem (d := 10) (by omega) (by decide) (by decide)) ?_
      refine go_cV (as := [_, _, _]) dX8_fittingHabits_43 mX8_signingHabits kX8_249 iX8_signingHabits sX8_signingHabits rfl rfl rfl rfl (rX8_signingHabits (n := O i / 100) (q := O i / 10 % 10) (w := O i % 10) k1 k2 k3 k4 (by omega)) rfl rfl rfl ?_
      refine go_istore (L' := [_, _, _, _, _]) dX8_fittingHabits_46 rfl rfl rfl ?_
      refine go_iload_n dX8_fittingHabits_48 rfl ?_
      refine go_aload_n dX8_fittingHabits_49 rfl ?_
      refine go_get dX8_fittingHabits_50 fX8_10 rfl rfl ?_
      refine go_get dX8_fittingHabits_53 fX8_253 rfl rfl ?_
      refine go_iload_n dX8_fittingHabits_56 rfl ?_
      refine go_zaldN (i) dX8_fittingHabits_57 rfl (by omega) rfl ?_
      refine go_if_eq (tgt := 66) dX8_fittingHabits_58 (by decide) (fun q58 => ?_) (fun q58 => ?_)
      · refine go_iload dX8_fittingHabits_66 rfl ?_
        refine go_iconst (v := (-1)) dX8_fittingHabits_68 (by decide) ?_
        refine go_ixor dX8_fittingHabits_69 ?_
        refine go_iand dX8_fittingHabits_70 ?_
        refine go_istore_n (L' := [_, _, _, _, _]) dX8_fittingHabits_71 rfl rfl rfl ?_
        refine go_iinc (v := nI (i + 1)) (L' := [_, _, _, _, _]) dX8_fittingHabits_72 rfl (nI_1 i) rfl rfl rfl ?_
        refine go_goto (tgt := 6) dX8_fittingHabits_75 (by decide) ?_
        exact ih (i + 1) _ _ _ (by omega) (by rw [ha, fhR, if_pos q58])
      · refine go_iload dX8_fittingHabits_61 rfl ?_
        refine go_goto (tgt := 70) dX8_fittingHabits_63 (by decide) ?_
        refine go_iand dX8_fittingHabits_70 ?_
        refine go_istore_n (L' := [_, _, _, _, _]) dX8_fittingHabits_71 rfl rfl rfl ?_
        refine go_iinc (v := nI (i + 1)) (L' := [_, _, _, _, _]) dX8_fittingHabits_72 rfl (nI_1 i) rfl rfl rfl ?_
        refine go_goto (tgt := 6) dX8_fittingHabits_75 (by decide) ?_
        exact ih (i + 1) _ _ _ (by omega) (by rw [ha, fhR, if_neg q58])
  refine go_sipush (v := 4095) dX8_fittingHabits_0 (by decide) ?_
  refine go_istore_n (L' := [_, _, _, _, _]) dX8_fittingHabits_3 rfl rfl rfl ?_
  refine go_iconst (v := 0) dX8_fittingHabits_4 (by decide) ?_
  refine go_istore_n (L' := [_, _, _, _, _]) dX8_fittingHabits_5 rfl rfl rfl ?_
  exact key s 0 _ _ _ (by omega) rfl
