def opB (bk : Nat → Int32) (p : Nat) : Bool := !(decide (netM bk p = 0))
def ssM (bk : Nat → Int32) (s : Nat) : Nat → Int32
  | 0 => 0
  | p + 1 => if tb s p then ssM bk s p + netM bk p else ssM bk s p
def mtM (Ev : Nat → Int32) (s : Nat) : Nat → Int32
  | 0 => 0
  | p + 1 => if tb s p then (if Ev (s &&& (63 ^^^ 2 ^ p)) ≤ mtM Ev s p then mtM Ev s p else Ev (s &&& (63 ^^^ 2 ^ p))) else mtM Ev s p
def evV (bk : Nat → Int32) (o : Nat) (Ev : Nat → Int32) (s : Nat) : Int32 :=
  if s &&& (63 ^^^ o) = 0 then (if ssM bk s 6 = 0 then mtM Ev s 6 + 1 else mtM Ev s 6) else 0
def hmR (bk : Nat → Int32) (o : Nat) (Ev : Nat → Int32) : Nat → (Nat → Int32)
  | 0 => upd Ev 0 0
  | k + 1 => upd (hmR bk o Ev k) (k + 1) (evV bk o (hmR bk o Ev k) (k + 1))
theorem hmR_s (bk : Nat → Int32) (o : Nat) (Ev : Nat → Int32) (k : Nat) : hmR bk o Ev (k + 1) = upd (hmR bk o Ev k) (k + 1) (evV bk o (hmR bk o Ev k) (k + 1)) := by rw [hmR]
theorem hmR_0 (bk : Nat → Int32) (o : Nat) (Ev : Nat → Int32) : hmR bk o Ev 0 = upd Ev 0 0 := by rw [hmR]
theorem hs_ev {nw i0 i1 : WorldS} {pd : PadS} {lv : LivesS} {pl : PlanS} {mt : MatS} {nt : NetS} {zbk znw zta zwe zsg zpa zac zwr zim zke : Nat → Int32} {zth zsi zsa zsd zfo zre zma zba zsl zwy : Int32} {zbe : Nat → Int64} {Ev V2 : Nat → Int32} : hs (hp nw i0 i1 pd lv pl mt nt (zbk, znw, zth, zta, zwe, zsi, zsg, zsa, zpa, zsd, zfo, zre, zma, zba, zbe, Ev, zac, zwr, zsl, zwy, zim, zke)) 60 (.inl (0, 64, .inl V2)) = (hp nw i0 i1 pd lv pl mt nt (zbk, znw, zth, zta, zwe, zsi, zsg, zsa, zpa, zsd, zfo, zre, zma, zba, zbe, V2, zac, zwr, zsl, zwy, zim, zke)) := by simp only [hp, hs]
set_option maxRecDepth 100000 in
set_option maxHeartbeats 4000000 in
theorem hn_in {E : gE} {d : Nat} {nw i0 i1 : WorldS} {pd : PadS} {lv : LivesS} {pl : PlanS} {mt : MatS} {nt : NetS} {zbk znw zta zwe zsg zpa zac zwr zim zke : Nat → Int32} {zth zsi zsa zsd zfo zre zma zba zsl zwy : Int32} {zbe : Nat → Int64} {Ev : Nat → Int32} {Q : Option Value → gH → Prop} {x1 : Int32} {s : Nat} (hs64 : s < 64) (kk : ∀ (a5 : Option Value), Go E yX9_hands cX9_hands 6 (some .int) (d + 1) 0 0 0 0 126 [some (.ref 52), some (.int x1), some (.int (nI s)), some (.int (ssM zbk s 6)), some (.int (mtM Ev s 6)), a5] [] (hp nw i0 i1 pd lv pl mt nt (zbk, znw, zth, zta, zwe, zsi, zsg, zsa, zpa, zsd, zfo, zre, zma, zba, zbe, Ev, zac, zwr, zsl, zwy, zim, zke)) Q) : ∀ (n k : Nat), k + n = 6 → ∀ (a b : Int32), a = ssM zbk s k → b = mtM Ev s k → Go E yX9_hands cX9_hands 6 (some .int) (d + 1) 0 0 0 0 57 [some (.ref 52), some (.int x1), some (.int (nI s)), some (.int a), some (.int b), some (.int (nI k))] [] (hp nw i0 i1 pd lv pl mt nt (zbk, znw, zth, zta, zwe, zsi, zsg, zsa, zpa, zsd, zfo, zre, zma, zba, zbe, Ev, zac, zwr, zsl, zwy, zim, zke)) Q
  | 0, k, hk, a, b, ha, hb => by
    obtain rfl : k = 6 := by omega
    subst ha
    subst hb
    refine go_iload dX9_hands_57 rfl ?_
    refine go_bipush (v := 6) dX9_hands_59 (by decide) ?_
    refine go_icmp_ge (tgt := 126) dX9_hands_61 (by decide) (fun q61 => ?_) (fun zq => absurd (nI_le (a := 6) (b := 6) (by decide) (by decide)) zq)
    exact kk _
  | n + 1, k, hk, a, b, ha, hb => by
    refine go_iload dX9_hands_57 rfl ?_
    refine go_bipush (v := 6) dX9_hands_59 (by decide) ?_
    refine go_icmp_ge (tgt := 126) dX9_hands_61 (by decide) (fun zq => absurd zq (nI_ge (a := k) (b := 6) (by omega) (by decide))) (fun q61 => ?_)
    refine go_iload_n dX9_hands_64 rfl ?_
    refine go_iload dX9_hands_65 rfl ?_
    refine go_cS (as := [_, _]) dX9_hands_67 mX9_has kX9_56 tX9_has rfl rfl (rX9_has) rfl rfl rfl ?_
    refine go_bif_eq (tgt := 120) dX9_hands_70 (by decide) (fun q70 => ?_) (fun q70 => ?_)
    · refine go_iinc (v := nI (k + 1)) (L' := [_, _, _, _, _, _]) dX9_hands_120 rfl (nI_1 k) rfl rfl rfl ?_
      refine go_goto (tgt := 57) dX9_hands_123 (by decide) ?_
      have t70 : tb s k = false := (hb_tb s hs64 k (by omega)).symm.trans q70; exact hn_in hs64 kk n (k + 1) (by omega) _ _ (by rw [ha]; simp [ssM, t70]) (by rw [hb]; simp [mtM, t70])
    · refine go_iload_n dX9_hands_73 rfl ?_
      refine go_aload_n dX9_hands_74 rfl ?_
      refine go_iload dX9_hands_75 rfl ?_
      refine go_cV (as := [_]) dX9_hands_77 mX9_netOf kX9_166 iX9_netOf sX9_netOf rfl rfl rfl rfl (rX9_netOf (by omega)) rfl rfl rfl ?_
      refine go_iadd dX9_hands_80 ?_
      refine go_istore_n (L' := [_, _, _, _, _, _]) dX9_hands_81 rfl rfl rfl ?_
      refine go_aload_n dX9_hands_82 rfl ?_
      refine go_get dX9_hands_83 fX9_32 rfl rfl ?_
      refine go_iload_n dX9_hands_86 rfl ?_
      refine go_iconst (v := 1) dX9_hands_87 (by decide) ?_
      refine go_iload dX9_hands_88 rfl ?_
      refine go_ishl dX9_hands_90 ?_
      refine go_iconst (v := (-1)) dX9_hands_91 (by decide) ?_
      refine go_ixor dX9_hands_92 ?_
      refine go_iand dX9_hands_93 ?_
      refine go_topi_eq (and_bit s hs64 k (by omega)).1 ?_
      refine go_ialdN (s &&& (63 ^^^ 2 ^ k)) dX9_hands_94 rfl ((and_bit s hs64 k (by omega)).2) rfl ?_
      refine go_iload dX9_hands_95 rfl ?_
      refine go_icmp_le (tgt := 116) dX9_hands_97 (by decide) (fun q97 => ?_) (fun q97 => ?_)
      · refine go_iload dX9_hands_116 rfl ?_
        refine go_istore (L' := [_, _, _, _, _, _]) dX9_hands_118 rfl rfl rfl ?_
        refine go_iinc (v := nI (k + 1)) (L' := [_, _, _, _, _, _]) dX9_hands_120 rfl (nI_1 k) rfl rfl rfl ?_
        refine go_goto (tgt := 57) dX9_hands_123 (by decide) ?_
        have t70 : tb s k = true := (hb_tb s hs64 k (by omega)).symm.trans q70; have q9 : Ev (s &&& (63 ^^^ 2 ^ k)) ≤ mtM Ev s k := hb ▸ q97; exact hn_in hs64 kk n (k + 1) (by omega) _ _ (by rw [ha]; simp [ssM, t70]) (by rw [hb, mtM, if_pos t70, if_pos q9])
      · refine go_aload_n dX9_hands_100 rfl ?_
        refine go_get dX9_hands_101 fX9_32 rfl rfl ?_
        refine go_iload_n dX9_hands_104 rfl ?_
        refine go_iconst (v := 1) dX9_hands_105 (by decide) ?_
        refine go_iload dX9_hands_106 rfl ?_
        refine go_ishl dX9_hands_108 ?_
        refine go_iconst (v := (-1)) dX9_hands_109 (by decide) ?_
        refine go_ixor dX9_hands_110 ?_
        refine go_iand dX9_hands_111 ?_
        refine go_topi_eq (and_bit s hs64 k (by omega)).1 ?_
        refine go_ialdN (s &&& (63 ^^^ 2 ^ k)) dX9_hands_112 rfl ((and_bit s hs64 k (by omega)).2) rfl ?_
        refine go_goto (tgt := 118) dX9_hands_113 (by decide) ?_
        refine go_istore (L' := [_, _, _, _, _, _]) dX9_hands_118 rfl rfl rfl ?_
        refine go_iinc (v := nI (k + 1)) (L' := [_, _, _, _, _, _]) dX9_hands_120 rfl (nI_1 k) rfl rfl rfl ?_
        refine go_goto (tgt := 57) dX9_hands_123 (by decide) ?_
        have t70 : tb s k = true := (hb_tb s hs64 k (by omega)).symm.trans q70; have q9 : ¬ Ev (s &&& (63 ^^^ 2 ^ k)) ≤ mtM Ev s k := hb ▸ q97; exact hn_in hs64 kk n (k + 1) (by omega) _ _ (by rw [ha]; simp [ssM, t70]) (by show Ev (s &&& (63 ^^^ 2 ^ k)) = _; rw [mtM, if_pos t70, if_neg q9])
set_option maxRecDepth 100000 in
set_option maxHeartbeats 4000000 in
theorem hn_s {E : gE} {d : Nat} {nw i0 i1 : WorldS} {pd : PadS} {lv : LivesS} {pl : PlanS} {mt : MatS} {nt : NetS} {zbk znw zta zwe zsg zpa zac zwr zim zke : Nat → Int32} {zth zsi zsa zsd zfo zre zma zba zsl zwy : Int32} {zbe : Nat → Int64} {Ev : Nat → Int32} {Q : Option Value → gH → Prop} {o s : Nat} {a5 : Option Value} (ho : o < 64) (hs64 : s < 64) (kk : Go E yX9_hands cX9_hands 6 (some .int) (d + 1) 0 0 0 0 43 [some (.ref 52), some (.int (nI o)), some (.int (nI (s + 1))), some (.int (ssM zbk s 6)), some (.int (mtM Ev s 6)), a5] [] (hp nw i0 i1 pd lv pl mt nt (zbk, znw, zth, zta, zwe, zsi, zsg, zsa, zpa, zsd, zfo, zre, zma, zba, zbe, (upd Ev s (evV zbk o Ev s)), zac, zwr, zsl, zwy, zim, zke)) Q) : Go E yX9_hands cX9_hands 6 (some .int) (d + 1) 0 0 0 0 126 [some (.ref 52), some (.int (nI o)), some (.int (nI s)), some (.int (ssM zbk s 6)), some (.int (mtM Ev s 6)), a5] [] (hp nw i0 i1 pd lv pl mt nt (zbk, znw, zth, zta, zwe, zsi, zsg, zsa, zpa, zsd, zfo, zre, zma, zba, zbe, Ev, zac, zwr, zsl, zwy, zim, zke)) Q := by
  refine go_aload_n dX9_hands_126 rfl ?_
  refine go_get dX9_hands_127 fX9_32 rfl rfl ?_
  refine go_iload_n dX9_hands_130 rfl ?_
  refine go_iload_n dX9_hands_131 rfl ?_
  refine go_iload_n dX9_hands_132 rfl ?_
  refine go_iconst (v := (-1)) dX9_hands_133 (by decide) ?_
  refine go_ixor dX9_hands_134 ?_
  refine go_iand dX9_hands_135 ?_
  refine go_topi_eq (and_not s hs64 o ho) ?_
  refine go_if_eq (tgt := 143) dX9_hands_136 (by decide) (fun q136 => ?_) (fun q136 => ?_)
  · refine go_iload_n dX9_hands_143 rfl ?_
    refine go_if_ne (tgt := 154) dX9_hands_144 (by decide) (fun q144 => ?_) (fun q144 => ?_)
    · refine go_iload dX9_hands_154 rfl ?_
      refine go_iastN (s) dX9_hands_156 rfl (hs64) rfl ?_
      refine go_heap (h2 := (hp nw i0 i1 pd lv pl mt nt (zbk, znw, zth, zta, zwe, zsi, zsg, zsa, zpa, zsd, zfo, zre, zma, zba, zbe, (upd Ev s (evV zbk o Ev s)), zac, zwr, zsl, zwy, zim, zke))) (hs_ev.trans (by rw [evV, if_pos (nI0_and q136), if_neg q144])) ?_
      refine go_iinc (v := nI (s + 1)) (L' := [_, _, _, _, _, _]) dX9_hands_157 rfl (nI_1 s) rfl rfl rfl ?_
      refine go_goto (tgt := 43) dX9_hands_160 (by decide) ?_
      exact kk
    · refine go_iload dX9_hands_147 rfl ?_
      refine go_iconst (v := 1) dX9_hands_149 (by decide) ?_
      refine go_iadd dX9_hands_150 ?_
      refine go_goto (tgt := 156) dX9_hands_151 (by decide) ?_
      refine go_iastN (s) dX9_hands_156 rfl (hs64) rfl ?_
      refine go_heap (h2 := (hp nw i0 i1 pd lv pl mt nt (zbk, znw, zth, zta, zwe, zsi, zsg, zsa, zpa, zsd, zfo, zre, zma, zba, zbe, (upd Ev s (evV zbk o Ev s)), zac, zwr, zsl, zwy, zim, zke))) (hs_ev.trans (by rw [evV, if_pos (nI0_and q136), if_pos q144])) ?_
      refine go_iinc (v := nI (s + 1)) (L' := [_, _, _, _, _, _]) dX9_hands_157 rfl (nI_1 s) rfl rfl rfl ?_
      refine go_goto (tgt := 43) dX9_hands_160 (by decide) ?_
      exact kk
  · refine go_iconst (v := 0) dX9_hands_139 (by decide) ?_
    refine go_goto (tgt := 156) dX9_hands_140 (by decide) ?_
    refine go_iastN (s) dX9_hands_156 rfl (hs64) rfl ?_
    refine go_heap (h2 := (hp nw i0 i1 pd lv pl mt nt (zbk, znw, zth, zta, zwe, zsi, zsg, zsa, zpa, zsd, zfo, zre, zma, zba, zbe, (upd Ev s (evV zbk o Ev s)), zac, zwr, zsl, zwy, zim, zke))) (hs_ev.trans (by rw [evV, if_neg (fun z => q136 (by rw [z]; rfl))])) ?_
    refine go_iinc (v := nI (s + 1)) (L' := [_, _, _, _, _, _]) dX9_hands_157 rfl (nI_1 s) rfl rfl rfl ?_
    refine go_goto (tgt := 43) dX9_hands_160 (by decide) ?_
    exact kk
set_option maxRecDepth 100000 in
set_option maxHeartbeats 4000000 in
theorem hn_o {E : gE} {d : Nat} {nw i0 i1 : WorldS} {pd : PadS} {lv : LivesS} {pl : PlanS} {mt : MatS} {nt : NetS} {zbk znw zta zwe zsg zpa zac zwr zim zke : Nat → Int32} {zth zsi zsa zsd zfo zre zma zba zsl zwy : Int32} {zbe : Nat → Int64} {Ev : Nat → Int32} {Q : Option Value → gH → Prop} {o : Nat} {X : Nat → Int32} (ho : o < 64) (hX : hmR zbk o Ev 63 = X) (kk : Q (some (.int (nI (pcN o) - X o))) (hp nw i0 i1 pd lv pl mt nt (zbk, znw, zth, zta, zwe, zsi, zsg, zsa, zpa, zsd, zfo, zre, zma, zba, zbe, X, zac, zwr, zsl, zwy, zim, zke))) : ∀ (n k : Nat), k + n = 63 → ∀ (a3 a4 a5 : Option Value), Go E yX9_hands cX9_hands 6 (some .int) (d + 1) 0 0 0 0 43 [some (.ref 52), some (.int (nI o)), some (.int (nI (k + 1))), a3, a4, a5] [] (hp nw i0 i1 pd lv pl mt nt (zbk, znw, zth, zta, zwe, zsi, zsg, zsa, zpa, zsd, zfo, zre, zma, zba, zbe, (hmR zbk o Ev k), zac, zwr, zsl, zwy, zim, zke)) Q
  | 0, k, hk, a3, a4, a5 => by
    obtain rfl : k = 63 := by omega
    rw [hX]
    refine go_iload_n dX9_hands_43 rfl ?_
    refine go_bipush (v := 64) dX9_hands_44 (by decide) ?_
    refine go_icmp_ge (tgt := 163) dX9_hands_46 (by decide) (fun q46 => ?_) (fun zq => absurd (nI_le (a := 64) (b := 64) (by decide) (by decide)) zq)
    refine go_iload_n dX9_hands_163 rfl ?_
    refine go_cS (as := [_]) dX9_hands_164 mX9_bits kX9_60 tX9_bits rfl rfl (rX9_bits (by omega)) rfl rfl rfl ?_
    refine go_aload_n dX9_hands_167 rfl ?_
    refine go_get dX9_hands_168 fX9_32 rfl rfl ?_
    refine go_iload_n dX9_hands_171 rfl ?_
    refine go_ialdN (o) dX9_hands_172 rfl (ho) rfl ?_
    refine go_isub dX9_hands_173 ?_
    refine go_iret dX9_hands_174 rfl rfl ?_
    exact kk
  | n + 1, k, hk, a3, a4, a5 => by
    refine go_iload_n dX9_hands_43 rfl ?_
    refine go_bipush (v := 64) dX9_hands_44 (by decide) ?_
    refine go_icmp_ge (tgt := 163) dX9_hands_46 (by decide) (fun zq => absurd zq (nI_ge (a := k + 1) (b := 64) (by omega) (by decide))) (fun q46 => ?_)
    refine go_iconst (v := 0) dX9_hands_49 (by decide) ?_
    refine go_istore_n (L' := [_, _, _, _, _, _]) dX9_hands_50 rfl rfl rfl ?_
    refine go_iconst (v := 0) dX9_hands_51 (by decide) ?_
    refine go_istore (L' := [_, _, _, _, _, _]) dX9_hands_52 rfl rfl rfl ?_
    refine go_iconst (v := 0) dX9_hands_54 (by decide) ?_
    refine go_istore (L' := [_, _, _, _, _, _]) dX9_hands_55 rfl rfl rfl ?_
    refine hn_in (s := k + 1) (by omega) (fun b5 => ?_) 6 0 rfl _ _ rfl rfl
    refine hn_s ho (by omega) ?_
    rw [← hmR_s]
    exact hn_o ho hX kk n (k + 1) (by omega) _ _ _
set_option maxRecDepth 100000 in
set_option maxHeartbeats 4000000 in
theorem rX9_hands_1 {E : gE} {d : Nat} {nw i0 i1 : WorldS} {pd : PadS} {lv : LivesS} {pl : PlanS} {mt : MatS} {nt : NetS} {zbk znw zta zwe zsg zpa zev zac zwr zim zke : Nat → Int32} {zth zsi zsa zsd zfo zre zma zba zsl zwy : Int32} {zbe : Nat → Int64} {o : Nat} (ho : o < 64) (he : orB (opB zbk) 6 = nI o) : Ret E yX9_hands cX9_hands 6 (some .int) (d + 1) 0 0 [.ref 52] (hp nw i0 i1 pd lv pl mt nt (zbk, znw, zth, zta, zwe, zsi, zsg, zsa, zpa, zsd, zfo, zre, zma, zba, zbe, zev, zac, zwr, zsl, zwy, zim, zke)) (dt (some (.int (nI (pcN o) - hmR zbk o zev 63 o))) (hp nw i0 i1 pd lv pl mt nt (zbk, znw, zth, zta, zwe, zsi, zsg, zsa, zpa, zsd, zfo, zre, zma, zba, zbe, (hmR zbk o zev 63), zac, zwr, zsl, zwy, zim, zke))) := by
  refine ret_of_go (L := [_, _, _, _, _, _]) (by decide) (Nat.le_of_ble_eq_true rfl) rfl ?_
  have key : ∀ (n k : Nat) (acc : Int32), k + n = 6 → acc = orB (opB zbk) k → Go E yX9_hands cX9_hands 6 (some .int) (d + 1) 0 0 0 0 4 [some (.ref 52), some (.int acc), some (.int (nI k)), none, none, none] [] (hp nw i0 i1 pd lv pl mt nt (zbk, znw, zth, zta, zwe, zsi, zsg, zsa, zpa, zsd, zfo, zre, zma, zba, zbe, zev, zac, zwr, zsl, zwy, zim, zke)) (dt (some (.int (nI (pcN o) - hmR zbk o zev 63 o))) (hp nw i0 i1 pd lv pl mt nt (zbk, znw, zth, zta, zwe, zsi, zsg, zsa, zpa, zsd, zfo, zre, zma, zba, zbe, (hmR zbk o zev 63), zac, zwr, zsl, zwy, zim, zke))) := by
    intro n
    induction n with
    | zero =>
      intro k acc hk ha
      obtain rfl : k = 6 := by omega
      obtain rfl : acc = nI o := ha.trans he
      refine go_iload_n dX9_hands_4 rfl ?_
      refine go_bipush (v := 6) dX9_hands_5 (by decide) ?_
      refine go_icmp_ge (tgt := 34) dX9_hands_7 (by decide) (fun q7 => ?_) (fun zq => absurd (nI_le (a := 6) (b := 6) (by decide) (by decide)) zq)
      refine go_aload_n dX9_hands_34 rfl ?_
      refine go_get dX9_hands_35 fX9_32 rfl rfl ?_
      refine go_iconst (v := 0) dX9_hands_38 (by decide) ?_
      refine go_iconst (v := 0) dX9_hands_39 (by decide) ?_
      refine go_iastN (0) dX9_hands_40 rfl (by decide) rfl ?_
      refine go_heap (h2 := (hp nw i0 i1 pd lv pl mt nt (zbk, znw, zth, zta, zwe, zsi, zsg, zsa, zpa, zsd, zfo, zre, zma, zba, zbe, (hmR zbk o zev 0), zac, zwr, zsl, zwy, zim, zke))) (hs_ev.trans (by rw [hmR_0])) ?_
      refine go_iconst (v := 1) dX9_hands_41 (by decide) ?_
      refine go_istore_n (L' := [_, _, _, _, _, _]) dX9_hands_42 rfl rfl rfl ?_
      exact hn_o ho rfl ⟨rfl, rfl⟩ 63 0 rfl _ _ _
    | succ n ih =>
      intro k acc hk ha
      refine go_iload_n dX9_hands_4 rfl ?_
      refine go_bipush (v := 6) dX9_hands_5 (by decide) ?_
      refine go_icmp_ge (tgt := 34) dX9_hands_7 (by decide) (fun zq => absurd zq (nI_ge (a := k) (b := 6) (by omega) (by decide))) (fun q7 => ?_)
      refine go_iload_n dX9_hands_10 rfl ?_
      refine go_aload_n dX9_hands_11 rfl ?_
      refine go_iload_n dX9_hands_12 rfl ?_
      refine go_cV (as := [_]) dX9_hands_13 mX9_netOf kX9_166 iX9_netOf sX9_netOf rfl rfl rfl rfl (rX9_netOf (by omega)) rfl rfl rfl ?_
      refine go_if_eq (tgt := 25) dX9_hands_16 (by decide) (fun q16 => ?_) (fun q16 => ?_)
      · refine go_iconst (v := 0) dX9_hands_25 (by decide) ?_
        refine go_ior dX9_hands_26 ?_
        refine go_istore_n (L' := [_, _, _, _, _, _]) dX9_hands_27 rfl rfl rfl ?_
        refine go_iinc (v := nI (k + 1)) (L' := [_, _, _, _, _, _]) dX9_hands_28 rfl (nI_1 k) rfl rfl rfl ?_
        refine go_goto (tgt := 4) dX9_hands_31 (by decide) ?_
        exact ih (k + 1) _ (by omega) (by rw [ha, or0]; simp [orB, opB, q16])
      · refine go_iconst (v := 1) dX9_hands_19 (by decide) ?_
        refine go_iload_n dX9_hands_20 rfl ?_
        refine go_ishl dX9_hands_21 ?_
        refine go_goto (tgt := 26) dX9_hands_22 (by decide) ?_
        refine go_ior dX9_hands_26 ?_
        refine go_istore_n (L' := [_, _, _, _, _, _]) dX9_hands_27 rfl rfl rfl ?_
        refine go_iinc (v := nI (k + 1)) (L' := [_, _, _, _, _, _]) dX9_hands_28 rfl (nI_1 k) rfl rfl rfl ?_
        refine go_goto (tgt := 4) dX9_hands_31 (by decide) ?_
        exact ih (k + 1) _ (by omega) (by rw [ha]; simp [orB, opB, q16])
  refine go_iconst (v := 0) dX9_hands_0 (by decide) ?_
  refine go_istore_n (L' := [_, _, _, _, _, _]) dX9_hands_1 rfl rfl rfl ?_
  refine go_iconst (v := 0) dX9_hands_2 (by decide) ?_
  refine go_istore_n (L' := [_, _, _, _, _, _]) dX9_hands_3 rfl rfl rfl ?_
  exact key 6 0 _ rfl rfl
