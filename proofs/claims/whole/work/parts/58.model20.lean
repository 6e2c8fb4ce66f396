def cpO (f g : Nat → Int32) (o k : Nat) : Nat → Int32 := fun j => if o ≤ j ∧ j < o + k then f (j - o) else g j
theorem cpO_0 (f g : Nat → Int32) (o : Nat) : cpO f g o 0 = g := by
  funext j
  unfold cpO
  rw [if_neg (by omega)]
theorem cpO_s (f g : Nat → Int32) (o k : Nat) : upd (cpO f g o k) (o + k) (f k) = cpO f g o (k + 1) := by
  funext j
  unfold upd cpO
  by_cases h : j = o + k
  · subst h
    rw [if_pos rfl, if_pos (by omega), Nat.add_sub_cancel_left]
  · rw [if_neg h]
    by_cases h2 : o ≤ j ∧ j < o + k
    · rw [if_pos h2, if_pos (by omega)]
    · rw [if_neg h2, if_neg (by omega)]
theorem n130 (n : Nat) : (130 : Int32) * nI n = nI (130 * n) := by rw [show (130 : Int32) = nI 130 from rfl, pk_mul]
theorem n130k (a k : Nat) : nI a + nI k = nI (a + k) := nI_add _ _
theorem n130o (a o k : Nat) : nI a + (OfNat.ofNat o : Int32) + nI k = nI (a + o + k) := by
  rw [show (OfNat.ofNat o : Int32) = nI o from rfl, nI_add, nI_add]
theorem hs_im {nw i0 i1 : WorldS} {pd : PadS} {lv : LivesS} {pl : PlanS} {mt : MatS} {nt : NetS} {zbk znw zta zwe zsg zpa zev zac zwr zke : Nat → Int32} {zth zsi zsa zsd zfo zre zma zba zsl zwy : Int32} {zbe : Nat → Int64} {V V2 : Nat → Int32} : hs (hp nw i0 i1 pd lv pl mt nt (zbk, znw, zth, zta, zwe, zsi, zsg, zsa, zpa, zsd, zfo, zre, zma, zba, zbe, zev, zac, zwr, zsl, zwy, V, zke)) 63 (.inl (0, 260, .inl V2)) = (hp nw i0 i1 pd lv pl mt nt (zbk, znw, zth, zta, zwe, zsi, zsg, zsa, zpa, zsd, zfo, zre, zma, zba, zbe, zev, zac, zwr, zsl, zwy, V2, zke)) := by simp only [hp, hs]
set_option maxRecDepth 100000 in
set_option maxHeartbeats 4000000 in
theorem im_20 {E : gE} {d : Nat} {nw i0 i1 : WorldS} {pd : PadS} {lv : LivesS} {pl : PlanS} {mt : MatS} {nt : NetS} {zbk znw zta zwe zsg zpa zev zac zwr zke : Nat → Int32} {zth zsi zsa zsd zfo zre zma zba zsl zwy : Int32} {zbe : Nat → Int64} {n : Nat} {V : Nat → Int32} {Q : Option Value → gH → Prop} (hn : n ≤ 1) (kk : ∀ a3 : Option Value, Go E yX9_image cX9_image 4 (some .int) (d + 1) 0 0 0 0 46 [some (.ref 52), some (.int (nI n)), some (.int (nI (130 * n))), a3] [] (hp nw i0 i1 pd lv pl mt nt (zbk, znw, zth, zta, zwe, zsi, zsg, zsa, zpa, zsd, zfo, zre, zma, zba, zbe, zev, zac, zwr, zsl, zwy, (cpO zbk V (130 * n) 61), zke)) Q) : ∀ (r k : Nat), k + r = 61 → Go E yX9_image cX9_image 4 (some .int) (d + 1) 0 0 0 0 20 [some (.ref 52), some (.int (nI n)), some (.int (nI (130 * n))), some (.int (nI k))] [] (hp nw i0 i1 pd lv pl mt nt (zbk, znw, zth, zta, zwe, zsi, zsg, zsa, zpa, zsd, zfo, zre, zma, zba, zbe, zev, zac, zwr, zsl, zwy, (cpO zbk V (130 * n) k), zke)) Q
  | 0, k, hk => by
    obtain rfl : k = 61 := by omega
    refine go_iload_n dX9_image_20 rfl ?_
    refine go_bipush (v := 61) dX9_image_21 (by decide) ?_
    refine go_icmp_ge (tgt := 46) dX9_image_23 (by decide) (fun q23 => ?_) (fun zq => absurd (nI_le (a := 61) (b := 61) (by decide) (by decide)) zq)
    exact kk _
  | r + 1, k, hk => by
    refine go_iload_n dX9_image_20 rfl ?_
    refine go_bipush (v := 61) dX9_image_21 (by decide) ?_
    refine go_icmp_ge (tgt := 46) dX9_image_23 (by decide) (fun zq => absurd zq (nI_ge (a := k) (b := 61) (by omega) (by decide))) (fun q23 => ?_)
    refine go_aload_n dX9_image_26 rfl ?_
    refine go_get dX9_image_27 fX9_41 rfl rfl ?_
    refine go_iload_n dX9_image_30 rfl ?_
    refine go_iload_n dX9_image_31 rfl ?_
    refine go_iadd dX9_image_32 ?_
    refine go_topi_eq (n130k (130 * n) k) ?_
    refine go_aload_n dX9_image_33 rfl ?_
    refine go_get dX9_image_34 fX9_7 rfl rfl ?_
    refine go_iload_n dX9_image_37 rfl ?_
    refine go_ialdN (k) dX9_image_38 rfl (by omega) rfl ?_
    refine go_iastN ((130 * n) + k) dX9_image_39 rfl (by omega) rfl ?_
    refine go_heap (h2 := (hp nw i0 i1 pd lv pl mt nt (zbk, znw, zth, zta, zwe, zsi, zsg, zsa, zpa, zsd, zfo, zre, zma, zba, zbe, zev, zac, zwr, zsl, zwy, (cpO zbk V (130 * n) (k + 1)), zke))) (hs_im.trans (by rw [← cpO_s])) ?_
    refine go_iinc (v := nI (k + 1)) (L' := [_, _, _, _]) dX9_image_40 rfl (nI_1 k) rfl rfl rfl ?_
    refine go_goto (tgt := 20) dX9_image_43 (by decide) ?_
    exact im_20 hn kk r (k + 1) (by omega)
set_option maxRecDepth 100000 in
set_option maxHeartbeats 4000000 in
theorem im_48 {E : gE} {d : Nat} {nw i0 i1 : WorldS} {pd : PadS} {lv : LivesS} {pl : PlanS} {mt : MatS} {nt : NetS} {zbk znw zta zwe zsg zpa zev zac zwr zke : Nat → Int32} {zth zsi zsa zsd zfo zre zma zba zsl zwy : Int32} {zbe : Nat → Int64} {n : Nat} {V : Nat → Int32} {Q : Option Value → gH → Prop} (hn : n ≤ 1) (kk : ∀ a3 : Option Value, Go E yX9_image cX9_image 4 (some .int) (d + 1) 0 0 0 0 77 [some (.ref 52), some (.int (nI n)), some (.int (nI (130 * n))), a3] [] (hp nw i0 i1 pd lv pl mt nt (zbk, znw, zth, zta, zwe, zsi, zsg, zsa, zpa, zsd, zfo, zre, zma, zba, zbe, zev, zac, zwr, zsl, zwy, (cpO zta V (130 * n + 61) 6), zke)) Q) : ∀ (r k : Nat), k + r = 6 → Go E yX9_image cX9_image 4 (some .int) (d + 1) 0 0 0 0 48 [some (.ref 52), some (.int (nI n)), some (.int (nI (130 * n))), some (.int (nI k))] [] (hp nw i0 i1 pd lv pl mt nt (zbk, znw, zth, zta, zwe, zsi, zsg, zsa, zpa, zsd, zfo, zre, zma, zba, zbe, zev, zac, zwr, zsl, zwy, (cpO zta V (130 * n + 61) k), zke)) Q
  | 0, k, hk => by
    obtain rfl : k = 6 := by omega
    refine go_iload_n dX9_image_48 rfl ?_
    refine go_bipush (v := 6) dX9_image_49 (by decide) ?_
    refine go_icmp_ge (tgt := 77) dX9_image_51 (by decide) (fun q51 => ?_) (fun zq => absurd (nI_le (a := 6) (b := 6) (by decide) (by decide)) zq)
    exact kk _
  | r + 1, k, hk => by
    refine go_iload_n dX9_image_48 rfl ?_
    refine go_bipush (v := 6) dX9_image_49 (by decide) ?_
    refine go_icmp_ge (tgt := 77) dX9_image_51 (by decide) (fun zq => absurd zq (nI_ge (a := k) (b := 6) (by omega) (by decide))) (fun q51 => ?_)
    refine go_aload_n dX9_image_54 rfl ?_
    refine go_get dX9_image_55 fX9_41 rfl rfl ?_
    refine go_iload_n dX9_image_58 rfl ?_
    refine go_bipush (v := 61) dX9_image_59 (by decide) ?_
    refine go_iadd dX9_image_61 ?_
    refine go_iload_n dX9_image_62 rfl ?_
    refine go_iadd dX9_image_63 ?_
    refine go_topi_eq (n130o (130 * n) 61 k) ?_
    refine go_aload_n dX9_image_64 rfl ?_
    refine go_get dX9_image_65 fX9_16 rfl rfl ?_
    refine go_iload_n dX9_image_68 rfl ?_
    refine go_ialdN (k) dX9_image_69 rfl (by omega) rfl ?_
    refine go_iastN ((130 * n + 61) + k) dX9_image_70 rfl (by omega) rfl ?_
    refine go_heap (h2 := (hp nw i0 i1 pd lv pl mt nt (zbk, znw, zth, zta, zwe, zsi, zsg, zsa, zpa, zsd, zfo, zre, zma, zba, zbe, zev, zac, zwr, zsl, zwy, (cpO zta V (130 * n + 61) (k + 1)), zke))) (hs_im.trans (by rw [← cpO_s])) ?_
    refine go_iinc (v := nI (k + 1)) (L' := [_, _, _, _]) dX9_image_71 rfl (nI_1 k) rfl rfl rfl ?_
    refine go_goto (tgt := 48) dX9_image_74 (by decide) ?_
    exact im_48 hn kk r (k + 1) (by omega)
set_option maxRecDepth 100000 in
set_option maxHeartbeats 4000000 in
theorem im_79 {E : gE} {d : Nat} {nw i0 i1 : WorldS} {pd : PadS} {lv : LivesS} {pl : PlanS} {mt : MatS} {nt : NetS} {zbk znw zta zwe zsg zpa zev zac zwr zke : Nat → Int32} {zth zsi zsa zsd zfo zre zma zba zsl zwy : Int32} {zbe : Nat → Int64} {n : Nat} {V : Nat → Int32} {Q : Option Value → gH → Prop} (hn : n ≤ 1) (kk : ∀ a3 : Option Value, Go E yX9_image cX9_image 4 (some .int) (d + 1) 0 0 0 0 108 [some (.ref 52), some (.int (nI n)), some (.int (nI (130 * n))), a3] [] (hp nw i0 i1 pd lv pl mt nt (zbk, znw, zth, zta, zwe, zsi, zsg, zsa, zpa, zsd, zfo, zre, zma, zba, zbe, zev, zac, zwr, zsl, zwy, (cpO zwe V (130 * n + 70) 10), zke)) Q) : ∀ (r k : Nat), k + r = 10 → Go E yX9_image cX9_image 4 (some .int) (d + 1) 0 0 0 0 79 [some (.ref 52), some (.int (nI n)), some (.int (nI (130 * n))), some (.int (nI k))] [] (hp nw i0 i1 pd lv pl mt nt (zbk, znw, zth, zta, zwe, zsi, zsg, zsa, zpa, zsd, zfo, zre, zma, zba, zbe, zev, zac, zwr, zsl, zwy, (cpO zwe V (130 * n + 70) k), zke)) Q
  | 0, k, hk => by
    obtain rfl : k = 10 := by omega
    refine go_iload_n dX9_image_79 rfl ?_
    refine go_bipush (v := 10) dX9_image_80 (by decide) ?_
    refine go_icmp_ge (tgt := 108) dX9_image_82 (by decide) (fun q82 => ?_) (fun zq => absurd (nI_le (a := 10) (b := 10) (by decide) (by decide)) zq)
    exact kk _
  | r + 1, k, hk => by
    refine go_iload_n dX9_image_79 rfl ?_
    refine go_bipush (v := 10) dX9_image_80 (by decide) ?_
    refine go_icmp_ge (tgt := 108) dX9_image_82 (by decide) (fun zq => absurd zq (nI_ge (a := k) (b := 10) (by omega) (by decide))) (fun q82 => ?_)
    refine go_aload_n dX9_image_85 rfl ?_
    refine go_get dX9_image_86 fX9_41 rfl rfl ?_
    refine go_iload_n dX9_image_89 rfl ?_
    refine go_bipush (v := 70) dX9_image_90 (by decide) ?_
    refine go_iadd dX9_image_92 ?_
    refine go_iload_n dX9_image_93 rfl ?_
    refine go_iadd dX9_image_94 ?_
    refine go_topi_eq (n130o (130 * n) 70 k) ?_
    refine go_aload_n dX9_image_95 rfl ?_
    refine go_get dX9_image_96 fX9_19 rfl rfl ?_
    refine go_iload_n dX9_image_99 rfl ?_
    refine go_ialdN (k) dX9_image_100 rfl (by omega) rfl ?_
    refine go_iastN ((130 * n + 70) + k) dX9_image_101 rfl (by omega) rfl ?_
    refine go_heap (h2 := (hp nw i0 i1 pd lv pl mt nt (zbk, znw, zth, zta, zwe, zsi, zsg, zsa, zpa, zsd, zfo, zre, zma, zba, zbe, zev, zac, zwr, zsl, zwy, (cpO zwe V (130 * n + 70) (k + 1)), zke))) (hs_im.trans (by rw [← cpO_s])) ?_
    refine go_iinc (v := nI (k + 1)) (L' := [_, _, _, _]) dX9_image_102 rfl (nI_1 k) rfl rfl rfl ?_
    refine go_goto (tgt := 79) dX9_image_105 (by decide) ?_
    exact im_79 hn kk r (k + 1) (by omega)
set_option maxRecDepth 100000 in
set_option maxHeartbeats 4000000 in
theorem im_110 {E : gE} {d : Nat} {nw i0 i1 : WorldS} {pd : PadS} {lv : LivesS} {pl : PlanS} {mt : MatS} {nt : NetS} {zbk znw zta zwe zsg zpa zev zac zwr zke : Nat → Int32} {zth zsi zsa zsd zfo zre zma zba zsl zwy : Int32} {zbe : Nat → Int64} {n : Nat} {V : Nat → Int32} {Q : Option Value → gH → Prop} (hn : n ≤ 1) (kk : ∀ a3 : Option Value, Go E yX9_image cX9_image 4 (some .int) (d + 1) 0 0 0 0 139 [some (.ref 52), some (.int (nI n)), some (.int (nI (130 * n))), a3] [] (hp nw i0 i1 pd lv pl mt nt (zbk, znw, zth, zta, zwe, zsi, zsg, zsa, zpa, zsd, zfo, zre, zma, zba, zbe, zev, zac, zwr, zsl, zwy, (cpO zsg V (130 * n + 80) 32), zke)) Q) : ∀ (r k : Nat), k + r = 32 → Go E yX9_image cX9_image 4 (some .int) (d + 1) 0 0 0 0 110 [some (.ref 52), some (.int (nI n)), some (.int (nI (130 * n))), some (.int (nI k))] [] (hp nw i0 i1 pd lv pl mt nt (zbk, znw, zth, zta, zwe, zsi, zsg, zsa, zpa, zsd, zfo, zre, zma, zba, zbe, zev, zac, zwr, zsl, zwy, (cpO zsg V (130 * n + 80) k), zke)) Q
  | 0, k, hk => by
    obtain rfl : k = 32 := by omega
    refine go_iload_n dX9_image_110 rfl ?_
    refine go_bipush (v := 32) dX9_image_111 (by decide) ?_
    refine go_icmp_ge (tgt := 139) dX9_image_113 (by decide) (fun q113 => ?_) (fun zq => absurd (nI_le (a := 32) (b := 32) (by decide) (by decide)) zq)
    exact kk _
  | r + 1, k, hk => by
    refine go_iload_n dX9_image_110 rfl ?_
    refine go_bipush (v := 32) dX9_image_111 (by decide) ?_
    refine go_icmp_ge (tgt := 139) dX9_image_113 (by decide) (fun zq => absurd zq (nI_ge (a := k) (b := 32) (by omega) (by decide))) (fun q113 => ?_)
    refine go_aload_n dX9_image_116 rfl ?_
    refine go_get dX9_image_117 fX9_41 rfl rfl ?_
    refine go_iload_n dX9_image_120 rfl ?_
    refine go_bipush (v := 80) dX9_image_121 (by decide) ?_
    refine go_iadd dX9_image_123 ?_
    refine go_iload_n dX9_image_124 rfl ?_
    refine go_iadd dX9_image_125 ?_
    refine go_topi_eq (n130o (130 * n) 80 k) ?_
    refine go_aload_n dX9_image_126 rfl ?_
    refine go_get dX9_image_127 fX9_22 rfl rfl ?_
    refine go_iload_n dX9_image_130 rfl ?_
    refine go_ialdN (k) dX9_image_131 rfl (by omega) rfl ?_
    refine go_iastN ((130 * n + 80) + k) dX9_image_132 rfl (by omega) rfl ?_
    refine go_heap (h2 := (hp nw i0 i1 pd lv pl mt nt (zbk, znw, zth, zta, zwe, zsi, zsg, zsa, zpa, zsd, zfo, zre, zma, zba, zbe, zev, zac, zwr, zsl, zwy, (cpO zsg V (130 * n + 80) (k + 1)), zke))) (hs_im.trans (by rw [← cpO_s])) ?_
    refine go_iinc (v := nI (k + 1)) (L' := [_, _, _, _]) dX9_image_133 rfl (nI_1 k) rfl rfl rfl ?_
    refine go_goto (tgt := 110) dX9_image_136 (by decide) ?_
    exact im_110 hn kk r (k + 1) (by omega)
set_option maxRecDepth 100000 in
set_option maxHeartbeats 4000000 in
theorem rX9_image_1 {E : gE} {d : Nat} {nw i0 i1 : WorldS} {pd : PadS} {lv : LivesS} {pl : PlanS} {mt : MatS} {nt : NetS} {zbk znw zta zwe zsg zpa zev zac zwr zim zke : Nat → Int32} {zth zsi zsa zsd zfo zre zma zba zsl zwy : Int32} {zbe : Nat → Int64} {n : Int32} (h1 : isInB n 0 1 = false) : Ret E yX9_image cX9_image 4 (some .int) (d + 1) 0 0 [.ref 52, .int n] (hp nw i0 i1 pd lv pl mt nt (zbk, znw, zth, zta, zwe, zsi, zsg, zsa, zpa, zsd, zfo, zre, zma, zba, zbe, zev, zac, zwr, zsl, zwy, zim, zke)) (dt (some (.int (-2))) (hp nw i0 i1 pd lv pl mt nt (zbk, znw, zth, zta, zwe, zsi, zsg, zsa, zpa, zsd, zfo, zre, zma, zba, zbe, zev, zac, zwr, zsl, zwy, zim, zke))) := by
  refine ret_of_go (L := [_, _, _, _]) (by decide) (Nat.le_of_ble_eq_true rfl) rfl ?_
  refine go_iload_n dX9_image_0 rfl ?_
  refine go_iconst (v := 0) dX9_image_1 (by decide) ?_
  refine go_iconst (v := 1) dX9_image_2 (by decide) ?_
  refine go_cS (as := [_, _, _]) dX9_image_3 mX9_in kX9_48 tX9_in rfl rfl (rX9_in) rfl rfl rfl ?_
  refine go_bn_f dX9_image_6 h1 ?_
  refine go_bipush (v := (-2)) dX9_image_9 (by decide) ?_
  refine go_iret dX9_image_11 rfl rfl ?_
  exact ⟨rfl, rfl⟩
def imU (g : Nat → Int32) (n : Nat) (bk ta we sg : Nat → Int32) (th si : Int32) : Nat → Int32 :=
  upd (upd (cpO sg (cpO we (cpO ta (cpO bk g (130 * n) 61) (130 * n + 61) 6) (130 * n + 70) 10) (130 * n + 80) 32) (130 * n + 120) th) (130 * n + 121) si
theorem n130c (a o : Nat) : nI a + (OfNat.ofNat o : Int32) = nI (a + o) := nI_add a o
set_option maxRecDepth 100000 in
set_option maxHeartbeats 4000000 in
theorem rX9_image_2 {E : gE} {d : Nat} {nw i0 i1 : WorldS} {pd : PadS} {lv : LivesS} {pl : PlanS} {mt : MatS} {nt : NetS} {zbk znw zta zwe zsg zpa zev zac zwr zim zke : Nat → Int32} {zth zsi zsa zsd zfo zre zma zba zsl zwy : Int32} {zbe : Nat → Int64} {n : Nat} (hn : n ≤ 1) : Ret E yX9_image cX9_image 4 (some .int) (d + 1) 0 0 [.ref 52, .int (nI n)] (hp nw i0 i1 pd lv pl mt nt (zbk, znw, zth, zta, zwe, zsi, zsg, zsa, zpa, zsd, zfo, zre, zma, zba, zbe, zev, zac, zwr, zsl, zwy, zim, zke)) (dt (some (.int 1)) (hp nw i0 i1 pd lv pl mt nt (zbk, znw, zth, zta, zwe, zsi, zsg, zsa, zpa, zsd, zfo, zre, zma, zba, zbe, zev, zac, zwr, zsl, zwy, (imU zim n zbk zta zwe zsg zth zsi), (upd zke n 1)))) := by
  refine ret_of_go (L := [_, _, _, _]) (by decide) (Nat.le_of_ble_eq_true rfl) rfl ?_
  refine go_iload_n dX9_image_0 rfl ?_
  refine go_iconst (v := 0) dX9_image_1 (by decide) ?_
  refine go_iconst (v := 1) dX9_image_2 (by decide) ?_
  refine go_cS (as := [_, _, _]) dX9_image_3 mX9_in kX9_48 tX9_in rfl rfl (rX9_in) rfl rfl rfl ?_
  refine go_bn_t (tgt := 12) dX9_image_6 (by decide) (inB_of (k := n) (a := 0) (b := 1) (by omega) (by omega) (by decide)) ?_
  refine go_sipush (v := 130) dX9_image_12 (by decide) ?_
  refine go_iload_n dX9_image_15 rfl ?_
  refine go_imul dX9_image_16 ?_
  refine go_topi_eq (n130 n) ?_
  refine go_istore_n (L' := [_, _, _, _]) dX9_image_17 rfl rfl rfl ?_
  refine go_iconst (v := 0) dX9_image_18 (by decide) ?_
  refine go_istore_n (L' := [_, _, _, _]) dX9_image_19 rfl rfl rfl ?_
  refine go_heap (h2 := (hp nw i0 i1 pd lv pl mt nt (zbk, znw, zth, zta, zwe, zsi, zsg, zsa, zpa, zsd, zfo, zre, zma, zba, zbe, zev, zac, zwr, zsl, zwy, (cpO zbk zim (130 * n) 0), zke))) (by rw [cpO_0]) ?_
  refine im_20 hn (fun b3 => ?_) 61 0 rfl
  refine go_iconst (v := 0) dX9_image_46 (by decide) ?_
  refine go_istore_n (L' := [_, _, _, _]) dX9_image_47 rfl rfl rfl ?_
  refine go_heap (h2 := (hp nw i0 i1 pd lv pl mt nt (zbk, znw, zth, zta, zwe, zsi, zsg, zsa, zpa, zsd, zfo, zre, zma, zba, zbe, zev, zac, zwr, zsl, zwy, (cpO zta (cpO zbk zim (130 * n) 61) (130 * n + 61) 0), zke))) (by rw [cpO_0]) ?_
  refine im_48 hn (fun b3 => ?_) 6 0 rfl
  refine go_iconst (v := 0) dX9_image_77 (by decide) ?_
  refine go_istore_n (L' := [_, _, _, _]) dX9_image_78 rfl rfl rfl ?_
  refine go_heap (h2 := (hp nw i0 i1 pd lv pl mt nt (zbk, znw, zth, zta, zwe, zsi, zsg, zsa, zpa, zsd, zfo, zre, zma, zba, zbe, zev, zac, zwr, zsl, zwy, (cpO zwe (cpO zta (cpO zbk zim (130 * n) 61) (130 * n + 61) 6) (130 * n + 70) 0), zke))) (by rw [cpO_0]) ?_
  refine im_79 hn (fun b3 => ?_) 10 0 rfl
  refine go_iconst (v := 0) dX9_image_108 (by decide) ?_
  refine go_istore_n (L' := [_, _, _, _]) dX9_image_109 rfl rfl rfl ?_
  refine go_heap (h2 := (hp nw i0 i1 pd lv pl mt nt (zbk, znw, zth, zta, zwe, zsi, zsg, zsa, zpa, zsd, zfo, zre, zma, zba, zbe, zev, zac, zwr, zsl, zwy, (cpO zsg (cpO zwe (cpO zta (cpO zbk zim (130 * n) 61) (130 * n + 61) 6) (130 * n + 70) 10) (130 * n + 80) 0), zke))) (by rw [cpO_0]) ?_
  refine im_110 hn (fun b3 => ?_) 32 0 rfl
  refine go_aload_n dX9_image_139 rfl ?_
  refine go_get dX9_image_140 fX9_41 rfl rfl ?_
  refine go_iload_n dX9_image_143 rfl ?_
  refine go_bipush (v := 120) dX9_image_144 (by decide) ?_
  refine go_iadd dX9_image_146 ?_
  refine go_topi_eq (n130c (130 * n) 120) ?_
  refine go_aload_n dX9_image_147 rfl ?_
  refine go_get dX9_image_148 fX9_52 rfl rfl ?_
  refine go_iastN (130 * n + 120) dX9_image_151 rfl (by omega) rfl ?_
  refine go_heap (h2 := (hp nw i0 i1 pd lv pl mt nt (zbk, znw, zth, zta, zwe, zsi, zsg, zsa, zpa, zsd, zfo, zre, zma, zba, zbe, zev, zac, zwr, zsl, zwy, (upd (cpO zsg (cpO zwe (cpO zta (cpO zbk zim (130 * n) 61) (130 * n + 61) 6) (130 * n + 70) 10) (130 * n + 80) 32) (130 * n + 120) zth), zke))) hs_im ?_
  refine go_aload_n dX9_image_152 rfl ?_
  refine go_get dX9_image_153 fX9_41 rfl rfl ?_
  refine go_iload_n dX9_image_156 rfl ?_
  refine go_bipush (v := 121) dX9_image_157 (by decide) ?_
  refine go_iadd dX9_image_159 ?_
  refine go_topi_eq (n130c (130 * n) 121) ?_
  refine go_aload_n dX9_image_160 rfl ?_
  refine go_get dX9_image_161 fX9_183 rfl rfl ?_
  refine go_iastN (130 * n + 121) dX9_image_164 rfl (by omega) rfl ?_
  refine go_heap (h2 := (hp nw i0 i1 pd lv pl mt nt (zbk, znw, zth, zta, zwe, zsi, zsg, zsa, zpa, zsd, zfo, zre, zma, zba, zbe, zev, zac, zwr, zsl, zwy, (imU zim n zbk zta zwe zsg zth zsi), zke))) hs_im ?_
  refine go_aload_n dX9_image_165 rfl ?_
  refine go_get dX9_image_166 fX9_44 rfl rfl ?_
  refine go_iload_n dX9_image_169 rfl ?_
  refine go_iconst (v := 1) dX9_image_170 (by decide) ?_
  refine go_zastN (n) dX9_image_171 rfl (by omega) rfl rfl ?_
  refine go_iconst (v := 1) dX9_image_172 (by decide) ?_
  refine go_iret dX9_image_173 rfl rfl ?_
  exact ⟨rfl, by simp only [hp, hs]⟩
set_option maxRecDepth 100000 in
set_option maxHeartbeats 4000000 in
theorem rX9_restore_1 {E : gE} {d : Nat} {nw i0 i1 : WorldS} {pd : PadS} {lv : LivesS} {pl : PlanS} {mt : MatS} {nt : NetS} {zbk znw zta zwe zsg zpa zev zac zwr zim zke : Nat → Int32} {zth zsi zsa zsd zfo zre zma zba zsl zwy : Int32} {zbe : Nat → Int64} {n : Int32} (h1 : isInB n 0 1 = false) : Ret E yX9_restore cX9_restore 4 (some .int) (d + 1) 0 0 [.ref 52, .int n] (hp nw i0 i1 pd lv pl mt nt (zbk, znw, zth, zta, zwe, zsi, zsg, zsa, zpa, zsd, zfo, zre, zma, zba, zbe, zev, zac, zwr, zsl, zwy, zim, zke)) (dt (some (.int (-2))) (hp nw i0 i1 pd lv pl mt nt (zbk, znw, zth, zta, zwe, zsi, zsg, zsa, zpa, zsd, zfo, zre, zma, zba, zbe, zev, zac, zwr, zsl, zwy, zim, zke))) := by
  refine ret_of_go (L := [_, _, _, _]) (by decide) (Nat.le_of_ble_eq_true rfl) rfl ?_
  refine go_iload_n dX9_restore_0 rfl ?_
  refine go_iconst (v := 0) dX9_restore_1 (by decide) ?_
  refine go_iconst (v := 1) dX9_restore_2 (by decide) ?_
  refine go_cS (as := [_, _, _]) dX9_restore_3 mX9_in kX9_48 tX9_in rfl rfl (rX9_in) rfl rfl rfl ?_
  refine go_bn_f dX9_restore_6 h1 ?_
  refine go_bipush (v := (-2)) dX9_restore_9 (by decide) ?_
  refine go_iret dX9_restore_11 rfl rfl ?_
  exact ⟨rfl, rfl⟩
set_option maxRecDepth 100000 in
set_option maxHeartbeats 4000000 in
theorem rX9_restore_2 {E : gE} {d : Nat} {nw i0 i1 : WorldS} {pd : PadS} {lv : LivesS} {pl : PlanS} {mt : MatS} {nt : NetS} {zbk znw zta zwe zsg zpa zev zac zwr zim zke : Nat → Int32} {zth zsi zsa zsd zfo zre zma zba zsl zwy : Int32} {zbe : Nat → Int64} {n : Nat} (hn : n ≤ 1) (h2 : zke n = 0) : Ret E yX9_restore cX9_restore 4 (some .int) (d + 1) 0 0 [.ref 52, .int (nI n)] (hp nw i0 i1 pd lv pl mt nt (zbk, znw, zth, zta, zwe, zsi, zsg, zsa, zpa, zsd, zfo, zre, zma, zba, zbe, zev, zac, zwr, zsl, zwy, zim, zke)) (dt (some (.int (-3))) (hp nw i0 i1 pd lv pl mt nt (zbk, znw, zth, zta, zwe, zsi, zsg, zsa, zpa, zsd, zfo, zre, zma, zba, zbe, zev, zac, zwr, zsl, zwy, zim, zke))) := by
  refine ret_of_go (L := [_, _, _, _]) (by decide) (Nat.le_of_ble_eq_true rfl) rfl ?_
  refine go_iload_n dX9_restore_0 rfl ?_
  refine go_iconst (v := 0) dX9_restore_1 (by decide) ?_
  refine go_iconst (v := 1) dX9_restore_2 (by decide) ?_
  refine go_cS (as := [_, _, _]) dX9_restore_3 mX9_in kX9_48 tX9_in rfl rfl (rX9_in) rfl rfl rfl ?_
  refine go_bn_t (tgt := 12) dX9_restore_6 (by decide) (inB_of (k := n) (a := 0) (b := 1) (by omega) (by omega) (by decide)) ?_
  refine go_aload_n dX9_restore_12 rfl ?_
  refine go_get dX9_restore_13 fX9_44 rfl rfl ?_
  refine go_iload_n dX9_restore_16 rfl ?_
  refine go_zaldN (n) dX9_restore_17 rfl (by omega) rfl ?_
  refine go_if_ne (tgt := 24) dX9_restore_18 (by decide) (fun zq => absurd h2 zq) (fun q18 => ?_)
  refine go_bipush (v := (-3)) dX9_restore_21 (by decide) ?_
  refine go_iret dX9_restore_23 rfl rfl ?_
  exact ⟨rfl, rfl⟩
theorem hs_r53 {nw i0 i1 : WorldS} {pd : PadS} {lv : LivesS} {pl : PlanS} {mt : MatS} {nt : NetS} {znw zta zwe zsg zpa zev zac zwr zim zke : Nat → Int32} {zth zsi zsa zsd zfo zre zma zba zsl zwy : Int32} {zbe : Nat → Int64} {V V2 : Nat → Int32} : hs (hp nw i0 i1 pd lv pl mt nt (V, znw, zth, zta, zwe, zsi, zsg, zsa, zpa, zsd, zfo, zre, zma, zba, zbe, zev, zac, zwr, zsl, zwy, zim, zke)) 53 (.inl (0, 61, .inl V2)) = (hp nw i0 i1 pd lv pl mt nt (V2, znw, zth, zta, zwe, zsi, zsg, zsa, zpa, zsd, zfo, zre, zma, zba, zbe, zev, zac, zwr, zsl, zwy, zim, zke)) := by simp only [hp, hs]
theorem hs_r55 {nw i0 i1 : WorldS} {pd : PadS} {lv : LivesS} {pl : PlanS} {mt : MatS} {nt : NetS} {zbk znw zwe zsg zpa zev zac zwr zim zke : Nat → Int32} {zth zsi zsa zsd zfo zre zma zba zsl zwy : Int32} {zbe : Nat → Int64} {V V2 : Nat → Int32} : hs (hp nw i0 i1 pd lv pl mt nt (zbk, znw, zth, V, zwe, zsi, zsg, zsa, zpa, zsd, zfo, zre, zma, zba, zbe, zev, zac, zwr, zsl, zwy, zim, zke)) 55 (.inl (0, 6, .inl V2)) = (hp nw i0 i1 pd lv pl mt nt (zbk, znw, zth, V2, zwe, zsi, zsg, zsa, zpa, zsd, zfo, zre, zma, zba, zbe, zev, zac, zwr, zsl, zwy, zim, zke)) := by simp only [hp, hs]
theorem hs_r56 {nw i0 i1 : WorldS} {pd : PadS} {lv : LivesS} {pl : PlanS} {mt : MatS} {nt : NetS} {zbk znw zta zsg zpa zev zac zwr zim zke : Nat → Int32} {zth zsi zsa zsd zfo zre zma zba zsl zwy : Int32} {zbe : Nat → Int64} {V V2 : Nat → Int32} : hs (hp nw i0 i1 pd lv pl mt nt (zbk, znw, zth, zta, V, zsi, zsg, zsa, zpa, zsd, zfo, zre, zma, zba, zbe, zev, zac, zwr, zsl, zwy, zim, zke)) 56 (.inl (0, 10, .inl V2)) = (hp nw i0 i1 pd lv pl mt nt (zbk, znw, zth, zta, V2, zsi, zsg, zsa, zpa, zsd, zfo, zre, zma, zba, zbe, zev, zac, zwr, zsl, zwy, zim, zke)) := by simp only [hp, hs]
theorem hs_r57 {nw i0 i1 : WorldS} {pd : PadS} {lv : LivesS} {pl : PlanS} {mt : MatS} {nt : NetS} {zbk znw zta zwe zpa zev zac zwr zim zke : Nat → Int32} {zth zsi zsa zsd zfo zre zma zba zsl zwy : Int32} {zbe : Nat → Int64} {V V2 : Nat → Int32} : hs (hp nw i0 i1 pd lv pl mt nt (zbk, znw, zth, zta, zwe, zsi, V, zsa, zpa, zsd, zfo, zre, zma, zba, zbe, zev, zac, zwr, zsl, zwy, zim, zke)) 57 (.inl (0, 32, .inl V2)) = (hp nw i0 i1 pd lv pl mt nt (zbk, znw, zth, zta, zwe, zsi, V2, zsa, zpa, zsd, zfo, zre, zma, zba, zbe, zev, zac, zwr, zsl, zwy, zim, zke)) := by simp only [hp, hs]
set_option maxRecDepth 100000 in
set_option maxHeartbeats 4000000 in
theorem re_32 {E : gE} {d : Nat} {nw i0 i1 : WorldS} {pd : PadS} {lv : LivesS} {pl : PlanS} {mt : MatS} {nt : NetS} {znw zta zwe zsg zpa zev zac zwr zim zke : Nat → Int32} {zth zsi zsa zsd zfo zre zma zba zsl zwy : Int32} {zbe : Nat → Int64} {n : Nat} {V : Nat → Int32} {Q : Option Value → gH → Prop} (hn : n ≤ 1) (kk : ∀ a3 : Option Value, Go E yX9_restore cX9_restore 4 (some .int) (d + 1) 0 0 0 0 58 [some (.ref 52), some (.int (nI n)), some (.int (nI (130 * n))), a3] [] (hp nw i0 i1 pd lv pl mt nt ((fun j => zim (130 * n + j)), znw, zth, zta, zwe, zsi, zsg, zsa, zpa, zsd, zfo, zre, zma, zba, zbe, zev, zac, zwr, zsl, zwy, zim, zke)) Q) : ∀ (r k : Nat), k + r = 61 → Go E yX9_restore cX9_restore 4 (some .int) (d + 1) 0 0 0 0 32 [some (.ref 52), some (.int (nI n)), some (.int (nI (130 * n))), some (.int (nI k))] [] (hp nw i0 i1 pd lv pl mt nt ((fil (fun j => zim (130 * n + j)) V k), znw, zth, zta, zwe, zsi, zsg, zsa, zpa, zsd, zfo, zre, zma, zba, zbe, zev, zac, zwr, zsl, zwy, zim, zke)) Q
  | 0, k, hk => by
    obtain rfl : k = 61 := by omega
    refine go_ext (a := 53) (fun j => zim (130 * n + j)) rfl (fun j hj => fil_in (f := (fun j => zim (130 * n + j))) (g := V) hj) ?_
    refine go_heap (h2 := (hp nw i0 i1 pd lv pl mt nt ((fun j => zim (130 * n + j)), znw, zth, zta, zwe, zsi, zsg, zsa, zpa, zsd, zfo, zre, zma, zba, zbe, zev, zac, zwr, zsl, zwy, zim, zke))) hs_r53 ?_
    refine go_iload_n dX9_restore_32 rfl ?_
    refine go_bipush (v := 61) dX9_restore_33 (by decide) ?_
    refine go_icmp_ge (tgt := 58) dX9_restore_35 (by decide) (fun q35 => ?_) (fun zq => absurd (nI_le (a := 61) (b := 61) (by decide) (by decide)) zq)
    exact kk _
  | r + 1, k, hk => by
    refine go_iload_n dX9_restore_32 rfl ?_
    refine go_bipush (v := 61) dX9_restore_33 (by decide) ?_
    refine go_icmp_ge (tgt := 58) dX9_restore_35 (by decide) (fun zq => absurd zq (nI_ge (a := k) (b := 61) (by omega) (by decide))) (fun q35 => ?_)
    refine go_aload_n dX9_restore_38 rfl ?_
    refine go_get dX9_restore_39 fX9_7 rfl rfl ?_
    refine go_iload_n dX9_restore_42 rfl ?_
    refine go_aload_n dX9_restore_43 rfl ?_
    refine go_get dX9_restore_44 fX9_41 rfl rfl ?_
    refine go_iload_n dX9_restore_47 rfl ?_
    refine go_iload_n dX9_restore_48 rfl ?_
    refine go_iadd dX9_restore_49 ?_
    refine go_topi_eq (n130k (130 * n) k) ?_
    refine go_ialdN (130 * n + k) dX9_restore_50 rfl (by omega) rfl ?_
    refine go_iastN (k) dX9_restore_51 rfl (by omega) rfl ?_
    refine go_heap (h2 := (hp nw i0 i1 pd lv pl mt nt ((fil (fun j => zim (130 * n + j)) V (k + 1)), znw, zth, zta, zwe, zsi, zsg, zsa, zpa, zsd, zfo, zre, zma, zba, zbe, zev, zac, zwr, zsl, zwy, zim, zke))) (hs_r53.trans (by rw [← fil_s])) ?_
    refine go_iinc (v := nI (k + 1)) (L' := [_, _, _, _]) dX9_restore_52 rfl (nI_1 k) rfl rfl rfl ?_
    refine go_goto (tgt := 32) dX9_restore_55 (by decide) ?_
    exact re_32 hn kk r (k + 1) (by omega)
set_option maxRecDepth 100000 in
set_option maxHeartbeats 4000000 in
theorem re_60 {E : gE} {d : Nat} {nw i0 i1 : WorldS} {pd : PadS} {lv : LivesS} {pl : PlanS} {mt : MatS} {nt : NetS} {zbk znw zwe zsg zpa zev zac zwr zim zke : Nat → Int32} {zth zsi zsa zsd zfo zre zma zba zsl zwy : Int32} {zbe : Nat → Int64} {n : Nat} {V : Nat → Int32} {Q : Option Value → gH → Prop} (hn : n ≤ 1) (kk : ∀ a3 : Option Value, Go E yX9_restore cX9_restore 4 (some .int) (d + 1) 0 0 0 0 89 [some (.ref 52), some (.int (nI n)), some (.int (nI (130 * n))), a3] [] (hp nw i0 i1 pd lv pl mt nt (zbk, znw, zth, (fun j => zim (130 * n + 61 + j)), zwe, zsi, zsg, zsa, zpa, zsd, zfo, zre, zma, zba, zbe, zev, zac, zwr, zsl, zwy, zim, zke)) Q) : ∀ (r k : Nat), k + r = 6 → Go E yX9_restore cX9_restore 4 (some .int) (d + 1) 0 0 0 0 60 [some (.ref 52), some (.int (nI n)), some (.int (nI (130 * n))), some (.int (nI k))] [] (hp nw i0 i1 pd lv pl mt nt (zbk, znw, zth, (fil (fun j => zim (130 * n + 61 + j)) V k), zwe, zsi, zsg, zsa, zpa, zsd, zfo, zre, zma, zba, zbe, zev, zac, zwr, zsl, zwy, zim, zke)) Q
  | 0, k, hk => by
    obtain rfl : k = 6 := by omega
    refine go_ext (a := 55) (fun j => zim (130 * n + 61 + j)) rfl (fun j hj => fil_in (f := (fun j => zim (130 * n + 61 + j))) (g := V) hj) ?_
    refine go_heap (h2 := (hp nw i0 i1 pd lv pl mt nt (zbk, znw, zth, (fun j => zim (130 * n + 61 + j)), zwe, zsi, zsg, zsa, zpa, zsd, zfo, zre, zma, zba, zbe, zev, zac, zwr, zsl, zwy, zim, zke))) hs_r55 ?_
    refine go_iload_n dX9_restore_60 rfl ?_
    refine go_bipush (v := 6) dX9_restore_61 (by decide) ?_
    refine go_icmp_ge (tgt := 89) dX9_restore_63 (by decide) (fun q63 => ?_) (fun zq => absurd (nI_le (a := 6) (b := 6) (by decide) (by decide)) zq)
    exact kk _
  | r + 1, k, hk => by
    refine go_iload_n dX9_restore_60 rfl ?_
    refine go_bipush (v := 6) dX9_restore_61 (by decide) ?_
    refine go_icmp_ge (tgt := 89) dX9_restore_63 (by decide) (fun zq => absurd zq (nI_ge (a := k) (b := 6) (by omega) (by decide))) (fun q63 => ?_)
    refine go_aload_n dX9_restore_66 rfl ?_
    refine go_get dX9_restore_67 fX9_16 rfl rfl ?_
    refine go_iload_n dX9_restore_70 rfl ?_
    refine go_aload_n dX9_restore_71 rfl ?_
    refine go_get dX9_restore_72 fX9_41 rfl rfl ?_
    refine go_iload_n dX9_restore_75 rfl ?_
    refine go_bipush (v := 61) dX9_restore_76 (by decide) ?_
    refine go_iadd dX9_restore_78 ?_
    refine go_iload_n dX9_restore_79 rfl ?_
    refine go_iadd dX9_restore_80 ?_
    refine go_topi_eq (n130o (130 * n) 61 k) ?_
    refine go_ialdN (130 * n + 61 + k) dX9_restore_81 rfl (by omega) rfl ?_
    refine go_iastN (k) dX9_restore_82 rfl (by omega) rfl ?_
    refine go_heap (h2 := (hp nw i0 i1 pd lv pl mt nt (zbk, znw, zth, (fil (fun j => zim (130 * n + 61 + j)) V (k + 1)), zwe, zsi, zsg, zsa, zpa, zsd, zfo, zre, zma, zba, zbe, zev, zac, zwr, zsl, zwy, zim, zke))) (hs_r55.trans (by rw [← fil_s])) ?_
    refine go_iinc (v := nI (k + 1)) (L' := [_, _, _, _]) dX9_restore_83 rfl (nI_1 k) rfl rfl rfl ?_
    refine go_goto (tgt := 60) dX9_restore_86 (by decide) ?_
    exact re_60 hn kk r (k + 1) (by omega)
set_option maxRecDepth 100000 in
set_option maxHeartbeats 4000000 in
theorem re_91 {E : gE} {d : Nat} {nw i0 i1 : WorldS} {pd : PadS} {lv : LivesS} {pl : PlanS} {mt : MatS} {nt : NetS} {zbk znw zta zsg zpa zev zac zwr zim zke : Nat → Int32} {zth zsi zsa zsd zfo zre zma zba zsl zwy : Int32} {zbe : Nat → Int64} {n : Nat} {V : Nat → Int32} {Q : Option Value → gH → Prop} (hn : n ≤ 1) (kk : ∀ a3 : Option Value, Go E yX9_restore cX9_restore 4 (some .int) (d + 1) 0 0 0 0 120 [some (.ref 52), some (.int (nI n)), some (.int (nI (130 * n))), a3] [] (hp nw i0 i1 pd lv pl mt nt (zbk, znw, zth, zta, (fun j => zim (130 * n + 70 + j)), zsi, zsg, zsa, zpa, zsd, zfo, zre, zma, zba, zbe, zev, zac, zwr, zsl, zwy, zim, zke)) Q) : ∀ (r k : Nat), k + r = 10 → Go E yX9_restore cX9_restore 4 (some .int) (d + 1) 0 0 0 0 91 [some (.ref 52), some (.int (nI n)), some (.int (nI (130 * n))), some (.int (nI k))] [] (hp nw i0 i1 pd lv pl mt nt (zbk, znw, zth, zta, (fil (fun j => zim (130 * n + 70 + j)) V k), zsi, zsg, zsa, zpa, zsd, zfo, zre, zma, zba, zbe, zev, zac, zwr, zsl, zwy, zim, zke)) Q
  | 0, k, hk => by
    obtain rfl : k = 10 := by omega
    refine go_ext (a := 56) (fun j => zim (130 * n + 70 + j)) rfl (fun j hj => fil_in (f := (fun j => zim (130 * n + 70 + j))) (g := V) hj) ?_
    refine go_heap (h2 := (hp nw i0 i1 pd lv pl mt nt (zbk, znw, zth, zta, (fun j => zim (130 * n + 70 + j)), zsi, zsg, zsa, zpa, zsd, zfo, zre, zma, zba, zbe, zev, zac, zwr, zsl, zwy, zim, zke))) hs_r56 ?_
    refine go_iload_n dX9_restore_91 rfl ?_
    refine go_bipush (v := 10) dX9_restore_92 (by decide) ?_
    refine go_icmp_ge (tgt := 120) dX9_restore_94 (by decide) (fun q94 => ?_) (fun zq => absurd (nI_le (a := 10) (b := 10) (by decide) (by decide)) zq)
    exact kk _
  | r + 1, k, hk => by
    refine go_iload_n dX9_restore_91 rfl ?_
    refine go_bipush (v := 10) dX9_restore_92 (by decide) ?_
    refine go_icmp_ge (tgt := 120) dX9_restore_94 (by decide) (fun zq => absurd zq (nI_ge (a := k) (b := 10) (by omega) (by decide))) (fun q94 => ?_)
    refine go_aload_n dX9_restore_97 rfl ?_
    refine go_get dX9_restore_98 fX9_19 rfl rfl ?_
    refine go_iload_n dX9_restore_101 rfl ?_
    refine go_aload_n dX9_restore_102 rfl ?_
    refine go_get dX9_restore_103 fX9_41 rfl rfl ?_
    refine go_iload_n dX9_restore_106 rfl ?_
    refine go_bipush (v := 70) dX9_restore_107 (by decide) ?_
    refine go_iadd dX9_restore_109 ?_
    refine go_iload_n dX9_restore_110 rfl ?_
    refine go_iadd dX9_restore_111 ?_
    refine go_topi_eq (n130o (130 * n) 70 k) ?_
    refine go_ialdN (130 * n + 70 + k) dX9_restore_112 rfl (by omega) rfl ?_
    refine go_iastN (k) dX9_restore_113 rfl (by omega) rfl ?_
    refine go_heap (h2 := (hp nw i0 i1 pd lv pl mt nt (zbk, znw, zth, zta, (fil (fun j => zim (130 * n + 70 + j)) V (k + 1)), zsi, zsg, zsa, zpa, zsd, zfo, zre, zma, zba, zbe, zev, zac, zwr, zsl, zwy, zim, zke))) (hs_r56.trans (by rw [← fil_s])) ?_
    refine go_iinc (v := nI (k + 1)) (L' := [_, _, _, _]) dX9_restore_114 rfl (nI_1 k) rfl rfl rfl ?_
    refine go_goto (tgt := 91) dX9_restore_117 (by decide) ?_
    exact re_91 hn kk r (k + 1) (by omega)
set_option maxRecDepth 100000 in
set_option maxHeartbeats 4000000 in
theorem re_122 {E : gE} {d : Nat} {nw i0 i1 : WorldS} {pd : PadS} {lv : LivesS} {pl : PlanS} {mt : MatS} {nt : NetS} {zbk znw zta zwe zpa zev zac zwr zim zke : Nat → Int32} {zth zsi zsa zsd zfo zre zma zba zsl zwy : Int32} {zbe : Nat → Int64} {n : Nat} {V : Nat → Int32} {Q : Option Value → gH → Prop} (hn : n ≤ 1) (kk : ∀ a3 : Option Value, Go E yX9_restore cX9_restore 4 (some .int) (d + 1) 0 0 0 0 151 [some (.ref 52), some (.int (nI n)), some (.int (nI (130 * n))), a3] [] (hp nw i0 i1 pd lv pl mt nt (zbk, znw, zth, zta, zwe, zsi, (fun j => zim (130 * n + 80 + j)), zsa, zpa, zsd, zfo, zre, zma, zba, zbe, zev, zac, zwr, zsl, zwy, zim, zke)) Q) : ∀ (r k : Nat), k + r = 32 → Go E yX9_restore cX9_restore 4 (some .int) (d + 1) 0 0 0 0 122 [some (.ref 52), some (.int (nI n)), some (.int (nI (130 * n))), some (.int (nI k))] [] (hp nw i0 i1 pd lv pl mt nt (zbk, znw, zth, zta, zwe, zsi, (fil (fun j => zim (130 * n + 80 + j)) V k), zsa, zpa, zsd, zfo, zre, zma, zba, zbe, zev, zac, zwr, zsl, zwy, zim, zke)) Q
  | 0, k, hk => by
    obtain rfl : k = 32 := by omega
    refine go_ext (a := 57) (fun j => zim (130 * n + 80 + j)) rfl (fun j hj => fil_in (f := (fun j => zim (130 * n + 80 + j))) (g := V) hj) ?_
    refine go_heap (h2 := (hp nw i0 i1 pd lv pl mt nt (zbk, znw, zth, zta, zwe, zsi, (fun j => zim (130 * n + 80 + j)), zsa, zpa, zsd, zfo, zre, zma, zba, zbe, zev, zac, zwr, zsl, zwy, zim, zke))) hs_r57 ?_
    refine go_iload_n dX9_restore_122 rfl ?_
    refine go_bipush (v := 32) dX9_restore_123 (by decide) ?_
    refine go_icmp_ge (tgt := 151) dX9_restore_125 (by decide) (fun q125 => ?_) (fun zq => absurd (nI_le (a := 32) (b := 32) (by decide) (by decide)) zq)
    exact kk _
  | r + 1, k, hk => by
    refine go_iload_n dX9_restore_122 rfl ?_
    refine go_bipush (v := 32) dX9_restore_123 (by decide) ?_
    refine go_icmp_ge (tgt := 151) dX9_restore_125 (by decide) (fun zq => absurd zq (nI_ge (a := k) (b := 32) (by omega) (by decide))) (fun q125 => ?_)
    refine go_aload_n dX9_restore_128 rfl ?_
    refine go_get dX9_restore_129 fX9_22 rfl rfl ?_
    refine go_iload_n dX9_restore_132 rfl ?_
    refine go_aload_n dX9_restore_133 rfl ?_
    refine go_get dX9_restore_134 fX9_41 rfl rfl ?_
    refine go_iload_n dX9_restore_137 rfl ?_
    refine go_bipush (v := 80) dX9_restore_138 (by decide) ?_
    refine go_iadd dX9_restore_140 ?_
    refine go_iload_n dX9_restore_141 rfl ?_
    refine go_iadd dX9_restore_142 ?_
    refine go_topi_eq (n130o (130 * n) 80 k) ?_
    refine go_ialdN (130 * n + 80 + k) dX9_restore_143 rfl (by omega) rfl ?_
    refine go_iastN (k) dX9_restore_144 rfl (by omega) rfl ?_
    refine go_heap (h2 := (hp nw i0 i1 pd lv pl mt nt (zbk, znw, zth, zta, zwe, zsi, (fil (fun j => zim (130 * n + 80 + j)) V (k + 1)), zsa, zpa, zsd, zfo, zre, zma, zba, zbe, zev, zac, zwr, zsl, zwy, zim, zke))) (hs_r57.trans (by rw [← fil_s])) ?_
    refine go_iinc (v := nI (k + 1)) (L' := [_, _, _, _]) dX9_restore_145 rfl (nI_1 k) rfl rfl rfl ?_
    refine go_goto (tgt := 122) dX9_restore_148 (by decide) ?_
    exact re_122 hn kk r (k + 1) (by omega)
set_option maxRecDepth 100000 in
set_option maxHeartbeats 4000000 in
theorem rX9_restore_3 {E : gE} {d : Nat} {nw i0 i1 : WorldS} {pd : PadS} {lv : LivesS} {pl : PlanS} {mt : MatS} {nt : NetS} {zbk znw zta zwe zsg zpa zev zac zwr zim zke : Nat → Int32} {zth zsi zsa zsd zfo zre zma zba zsl zwy : Int32} {zbe : Nat → Int64} {n : Nat} (hn : n ≤ 1) (h2 : ¬ zke n = 0) : Ret E yX9_restore cX9_restore 4 (some .int) (d + 1) 0 0 [.ref 52, .int (nI n)] (hp nw i0 i1 pd lv pl mt nt (zbk, znw, zth, zta, zwe, zsi, zsg, zsa, zpa, zsd, zfo, zre, zma, zba, zbe, zev, zac, zwr, zsl, zwy, zim, zke)) (dt (some (.int 1)) (hp nw i0 i1 pd lv pl mt nt ((fun j => zim (130 * n + j)), znw, (zim (130 * n + 120)), (fun j => zim (130 * n + 61 + j)), (fun j => zim (130 * n + 70 + j)), (zim (130 * n + 121)), (fun j => zim (130 * n + 80 + j)), zsa, zpa, zsd, zfo, zre, zma, zba, zbe, zev, zac, zwr, zsl, zwy, zim, zke))) := by
  refine ret_of_go (L := [_, _, _, _]) (by decide) (Nat.le_of_ble_eq_true rfl) rfl ?_
  refine go_iload_n dX9_restore_0 rfl ?_
  refine go_iconst (v := 0) dX9_restore_1 (by decide) ?_
  refine go_iconst (v := 1) dX9_restore_2 (by decide) ?_
  refine go_cS (as := [_, _, _]) dX9_restore_3 mX9_in kX9_48 tX9_in rfl rfl (rX9_in) rfl rfl rfl ?_
  refine go_bn_t (tgt := 12) dX9_restore_6 (by decide) (inB_of (k := n) (a := 0) (b := 1) (by omega) (by omega) (by decide)) ?_
  refine go_aload_n dX9_restore_12 rfl ?_
  refine go_get dX9_restore_13 fX9_44 rfl rfl ?_
  refine go_iload_n dX9_restore_16 rfl ?_
  refine go_zaldN (n) dX9_restore_17 rfl (by omega) rfl ?_
  refine go_if_ne (tgt := 24) dX9_restore_18 (by decide) (fun q18 => ?_) (fun zq => absurd zq h2)
  refine go_sipush (v := 130) dX9_restore_24 (by decide) ?_
  refine go_iload_n dX9_restore_27 rfl ?_
  refine go_imul dX9_restore_28 ?_
  refine go_topi_eq (n130 n) ?_
  refine go_istore_n (L' := [_, _, _, _]) dX9_restore_29 rfl rfl rfl ?_
  refine go_iconst (v := 0) dX9_restore_30 (by decide) ?_
  refine go_istore_n (L' := [_, _, _, _]) dX9_restore_31 rfl rfl rfl ?_
  refine go_heap (h2 := (hp nw i0 i1 pd lv pl mt nt ((fil (fun j => zim (130 * n + j)) zbk 0), znw, zth, zta, zwe, zsi, zsg, zsa, zpa, zsd, zfo, zre, zma, zba, zbe, zev, zac, zwr, zsl, zwy, zim, zke))) (by rw [fil_0]) ?_
  refine re_32 hn (fun b3 => ?_) 61 0 rfl
  refine go_iconst (v := 0) dX9_restore_58 (by decide) ?_
  refine go_istore_n (L' := [_, _, _, _]) dX9_restore_59 rfl rfl rfl ?_
  refine go_heap (h2 := (hp nw i0 i1 pd lv pl mt nt ((fun j => zim (130 * n + j)), znw, zth, (fil (fun j => zim (130 * n + 61 + j)) zta 0), zwe, zsi, zsg, zsa, zpa, zsd, zfo, zre, zma, zba, zbe, zev, zac, zwr, zsl, zwy, zim, zke))) (by rw [fil_0]) ?_
  refine re_60 hn (fun b3 => ?_) 6 0 rfl
  refine go_iconst (v := 0) dX9_restore_89 (by decide) ?_
  refine go_istore_n (L' := [_, _, _, _]) dX9_restore_90 rfl rfl rfl ?_
  refine go_heap (h2 := (hp nw i0 i1 pd lv pl mt nt ((fun j => zim (130 * n + j)), znw, zth, (fun j => zim (130 * n + 61 + j)), (fil (fun j => zim (130 * n + 70 + j)) zwe 0), zsi, zsg, zsa, zpa, zsd, zfo, zre, zma, zba, zbe, zev, zac, zwr, zsl, zwy, zim, zke))) (by rw [fil_0]) ?_
  refine re_91 hn (fun b3 => ?_) 10 0 rfl
  refine go_iconst (v := 0) dX9_restore_120 (by decide) ?_
  refine go_istore_n (L' := [_, _, _, _]) dX9_restore_121 rfl rfl rfl ?_
  refine go_heap (h2 := (hp nw i0 i1 pd lv pl mt nt ((fun j => zim (130 * n + j)), znw, zth, (fun j => zim (130 * n + 61 + j)), (fun j => zim (130 * n + 70 + j)), zsi, (fil (fun j => zim (130 * n + 80 + j)) zsg 0), zsa, zpa, zsd, zfo, zre, zma, zba, zbe, zev, zac, zwr, zsl, zwy, zim, zke))) (by rw [fil_0]) ?_
  refine re_122 hn (fun b3 => ?_) 32 0 rfl
  refine go_aload_n dX9_restore_151 rfl ?_
  refine go_aload_n dX9_restore_152 rfl ?_
  refine go_get dX9_restore_153 fX9_41 rfl rfl ?_
  refine go_iload_n dX9_restore_156 rfl ?_
  refine go_bipush (v := 120) dX9_restore_157 (by decide) ?_
  refine go_iadd dX9_restore_159 ?_
  refine go_topi_eq (n130c (130 * n) 120) ?_
  refine go_ialdN (130 * n + 120) dX9_restore_160 rfl (by omega) rfl ?_
  refine go_put dX9_restore_161 fX9_52 (fun _ => rfl) (fun _ => rfl) rfl rfl ?_
  refine go_heap (h2 := (hp nw i0 i1 pd lv pl mt nt ((fun j => zim (130 * n + j)), znw, (zim (130 * n + 120)), (fun j => zim (130 * n + 61 + j)), (fun j => zim (130 * n + 70 + j)), zsi, (fun j => zim (130 * n + 80 + j)), zsa, zpa, zsd, zfo, zre, zma, zba, zbe, zev, zac, zwr, zsl, zwy, zim, zke))) (by simp only [hp, hs, List.set]) ?_
  refine go_aload_n dX9_restore_164 rfl ?_
  refine go_aload_n dX9_restore_165 rfl ?_
  refine go_get dX9_restore_166 fX9_41 rfl rfl ?_
  refine go_iload_n dX9_restore_169 rfl ?_
  refine go_bipush (v := 121) dX9_restore_170 (by decide) ?_
  refine go_iadd dX9_restore_172 ?_
  refine go_topi_eq (n130c (130 * n) 121) ?_
  refine go_ialdN (130 * n + 121) dX9_restore_173 rfl (by omega) rfl ?_
  refine go_put dX9_restore_174 fX9_183 (fun _ => rfl) (fun _ => rfl) rfl rfl ?_
  refine go_heap (h2 := (hp nw i0 i1 pd lv pl mt nt ((fun j => zim (130 * n + j)), znw, (zim (130 * n + 120)), (fun j => zim (130 * n + 61 + j)), (fun j => zim (130 * n + 70 + j)), (zim (130 * n + 121)), (fun j => zim (130 * n + 80 + j)), zsa, zpa, zsd, zfo, zre, zma, zba, zbe, zev, zac, zwr, zsl, zwy, zim, zke))) (by simp only [hp, hs, List.set]) ?_
  refine go_iconst (v := 1) dX9_restore_177 (by decide) ?_
  refine go_iret dX9_restore_178 rfl rfl ?_
  exact ⟨rfl, rfl⟩
