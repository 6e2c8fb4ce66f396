set_option maxRecDepth 100000 in
set_option maxHeartbeats 4000000 in
theorem rX9_watch_1 {E : gE} {d : Nat} {nw i0 i1 : WorldS} {pd : PadS} {lv : LivesS} {pl : PlanS} {mt : MatS} {nt : NetS} {zbk znw zta zwe zsg zpa zev zac zwr zim zke : Nat → Int32} {zth zsi zsa zsd zfo zre zma zba zsl zwy : Int32} {zbe : Nat → Int64} {w : Int32} (h1 : isInB w 0 1 = false) : Ret E yX9_watch cX9_watch 10 (some .int) (d + 1) 0 0 [.ref 52, .int w] (hp nw i0 i1 pd lv pl mt nt (zbk, znw, zth, zta, zwe, zsi, zsg, zsa, zpa, zsd, zfo, zre, zma, zba, zbe, zev, zac, zwr, zsl, zwy, zim, zke)) (dt (some (.int (-2))) (hp nw i0 i1 pd lv pl mt nt (zbk, znw, zth, zta, zwe, zsi, zsg, zsa, zpa, zsd, zfo, zre, zma, zba, zbe, zev, zac, zwr, zsl, zwy, zim, zke))) := by
  refine ret_of_go (L := [_, _, _, _, _, _, _, _, _, _]) (by decide) (Nat.le_of_ble_eq_true rfl) rfl ?_
  refine go_iload_n dX9_watch_0 rfl ?_
  refine go_iconst (v := 0) dX9_watch_1 (by decide) ?_
  refine go_iconst (v := 1) dX9_watch_2 (by decide) ?_
  refine go_cS (as := [_, _, _]) dX9_watch_3 mX9_in kX9_48 tX9_in rfl rfl (rX9_in) rfl rfl rfl ?_
  refine go_bn_f dX9_watch_6 h1 ?_
  refine go_bipush (v := (-2)) dX9_watch_9 (by decide) ?_
  refine go_iret dX9_watch_11 rfl rfl ?_
  exact ⟨rfl, rfl⟩
def owR (V : Nat → Int64) (all : Int64) (S n q w : Nat) : Nat → Int32
  | 0 => 0
  | h + 1 => owR V all S n q w h + (if hbB (nI S) (nI h) && dsB V all h n q w then 1 else 0)
def woF (V : Nat → Int64) (all : Int64) (S n q w : Nat) : Int32 :=
  if owR V all S n q w 12 ≤ nI (pcN S) - owR V all S n q w 12 then nI (pcN S) - owR V all S n q w 12 else owR V all S n q w 12
def waR (V : Nat → Int64) (all : Int64) (S : Nat) : Nat → Int32 × Int32
  | 0 => (-6, 1000000)
  | c + 1 => if 1 ≤ c / 10 % 10 ∧ c / 10 % 10 ≤ 8 ∧ 0 < c % 10 then
      (if (waR V all S c).2 ≤ woF V all S (c / 100) (c / 10 % 10) (c % 10) then waR V all S c else (nI c, woF V all S (c / 100) (c / 10 % 10) (c % 10)))
    else waR V all S c
theorem in18 : ∀ k, k < 10 → isInB (nI k) 1 8 = decide (1 ≤ k ∧ k ≤ 8) := by decide
set_option maxRecDepth 100000 in
set_option maxHeartbeats 4000000 in
theorem wt_in {E : gE} {d : Nat} {nw i0 i1 : WorldS} {pd : PadS} {lv : LivesS} {pl : PlanS} {mt : MatS} {nt : NetS} {zbk znw zta zwe zsg zpa zev zac zwr zim zke : Nat → Int32} {zth zsi zsa zsd zfo zre zma zba zsl zwy : Int32} {zbe : Nat → Int64} {Q : Option Value → gH → Prop} {S : Nat} {wh : Int32} {c : Nat} {f l : Int32} (hc : c < 1000) (h1 : 1 ≤ c / 10 % 10) (h2 : c / 10 % 10 ≤ 8) (h3 : 0 < c % 10) (kk : ∀ a9 : Option Value, Go E yX9_watch cX9_watch 10 (some .int) (d + 3) 0 0 0 0 128 [some (.ref 52), some (.int wh), some (.int (nI S)), some (.int f), some (.int l), some (.int (nI c)), some (.int (nI (c / 10 % 10))), some (.int (nI (c % 10))), some (.int (owR zbe (wsumF zwe).toInt64 S (c / 100) (c / 10 % 10) (c % 10) 12)), a9] [] (hp nw i0 i1 pd lv pl mt nt (zbk, znw, zth, zta, zwe, zsi, zsg, zsa, zpa, zsd, zfo, zre, zma, zba, zbe, zev, zac, zwr, zsl, zwy, zim, zke)) Q) : ∀ (n k : Nat) (x : Int32), k + n = 12 → x = (owR zbe (wsumF zwe).toInt64 S (c / 100) (c / 10 % 10) (c % 10) k) → Go E yX9_watch cX9_watch 10 (some .int) (d + 3) 0 0 0 0 78 [some (.ref 52), some (.int wh), some (.int (nI S)), some (.int f), some (.int l), some (.int (nI c)), some (.int (nI (c / 10 % 10))), some (.int (nI (c % 10))), some (.int x), some (.int (nI k))] [] (hp nw i0 i1 pd lv pl mt nt (zbk, znw, zth, zta, zwe, zsi, zsg, zsa, zpa, zsd, zfo, zre, zma, zba, zbe, zev, zac, zwr, zsl, zwy, zim, zke)) Q
  | 0, k, x, hk, hx => by
    obtain rfl : k = 12 := by omega
    subst hx
    refine go_iload dX9_watch_78 rfl ?_
    refine go_bipush (v := 12) dX9_watch_80 (by decide) ?_
    refine go_icmp_ge (tgt := 128) dX9_watch_82 (by decide) (fun q82 => ?_) (fun zq => absurd (nI_le (a := 12) (b := 12) (by decide) (by decide)) zq)
    exact kk _
  | n + 1, k, x, hk, hx => by
    refine go_iload dX9_watch_78 rfl ?_
    refine go_bipush (v := 12) dX9_watch_80 (by decide) ?_
    refine go_icmp_ge (tgt := 128) dX9_watch_82 (by decide) (fun zq => absurd zq (nI_ge (a := k) (b := 12) (by omega) (by decide))) (fun q82 => ?_)
    refine go_iload dX9_watch_85 rfl ?_
    refine go_iload_n dX9_watch_87 rfl ?_
    refine go_iload dX9_watch_88 rfl ?_
    refine go_cS (as := [_, _]) dX9_watch_90 mX9_has kX9_56 tX9_has rfl rfl (rX9_has) rfl rfl rfl ?_
    refine go_bif_eq (tgt := 118) dX9_watch_93 (by decide) (fun q93 => ?_) (fun q93 => ?_)
    · refine go_iconst (v := 0) dX9_watch_118 (by decide) ?_
      refine go_iadd dX9_watch_119 ?_
      refine go_istore (L' := [_, _, _, _, _, _, _, _, _, _]) dX9_watch_120 rfl rfl rfl ?_
      refine go_iinc (v := nI (k + 1)) (L' := [_, _, _, _, _, _, _, _, _, _]) dX9_watch_122 rfl (nI_1 k) rfl rfl rfl ?_
      refine go_goto (tgt := 78) dX9_watch_125 (by decide) ?_
      exact wt_in hc h1 h2 h3 kk n (k + 1) _ (by omega) (by rw [hx, owR, if_neg (by rw [q93]; simp)])
    · refine go_aload_n dX9_watch_96 rfl ?_
      refine go_iload dX9_watch_97 rfl ?_
      refine go_iload dX9_watch_99 rfl ?_
      refine go_bipush (v := 100) dX9_watch_101 (by decide) ?_
      refine go_idiv dX9_watch_103 (by decide) ?_
      refine go_topi_eq (pk_div (d := 100) (by omega) (by decide) (by decide)) ?_
      refine go_iload dX9_watch_104 rfl ?_
      refine go_iload dX9_watch_106 rfl ?_
      refine go_cV (as := [_, _, _, _]) dX9_watch_108 mX9_doesSign kX9_186 iX9_doesSign sX9_doesSign rfl rfl rfl rfl (rX9_doesSign (h := k) (n := c / 100) (q := c / 10 % 10) (w := c % 10) (by omega) (by omega) h1 h2 (by omega)) rfl rfl rfl ?_
      refine go_bif_eq (tgt := 118) dX9_watch_111 (by decide) (fun q111 => ?_) (fun q111 => ?_)
      · refine go_iconst (v := 0) dX9_watch_118 (by decide) ?_
        refine go_iadd dX9_watch_119 ?_
        refine go_istore (L' := [_, _, _, _, _, _, _, _, _, _]) dX9_watch_120 rfl rfl rfl ?_
        refine go_iinc (v := nI (k + 1)) (L' := [_, _, _, _, _, _, _, _, _, _]) dX9_watch_122 rfl (nI_1 k) rfl rfl rfl ?_
        refine go_goto (tgt := 78) dX9_watch_125 (by decide) ?_
        exact wt_in hc h1 h2 h3 kk n (k + 1) _ (by omega) (by rw [hx, owR, if_neg (by rw [q111]; simp)])
      · refine go_iconst (v := 1) dX9_watch_114 (by decide) ?_
        refine go_goto (tgt := 119) dX9_watch_115 (by decide) ?_
        refine go_iadd dX9_watch_119 ?_
        refine go_istore (L' := [_, _, _, _, _, _, _, _, _, _]) dX9_watch_120 rfl rfl rfl ?_
        refine go_iinc (v := nI (k + 1)) (L' := [_, _, _, _, _, _, _, _, _, _]) dX9_watch_122 rfl (nI_1 k) rfl rfl rfl ?_
        refine go_goto (tgt := 78) dX9_watch_125 (by decide) ?_
        exact wt_in hc h1 h2 h3 kk n (k + 1) _ (by omega) (by rw [hx, owR, if_pos (by rw [q93, q111]; rfl)])
set_option maxRecDepth 100000 in
set_option maxHeartbeats 4000000 in
theorem wt_w {E : gE} {d : Nat} {nw i0 i1 : WorldS} {pd : PadS} {lv : LivesS} {pl : PlanS} {mt : MatS} {nt : NetS} {zbk znw zta zwe zsg zpa zev zac zwr zim zke : Nat → Int32} {zth zsi zsa zsd zfo zre zma zba zsl zwy : Int32} {zbe : Nat → Int64} {Q : Option Value → gH → Prop} {S : Nat} {wh : Int32} {c : Nat} {f l : Int32} {a9 : Option Value} (hS : S < 4096) (kk : Go E yX9_watch cX9_watch 10 (some .int) (d + 3) 0 0 0 0 154 [some (.ref 52), some (.int wh), some (.int (nI S)), some (.int f), some (.int l), some (.int (nI c)), some (.int (nI (c / 10 % 10))), some (.int (nI (c % 10))), some (.int (owR zbe (wsumF zwe).toInt64 S (c / 100) (c / 10 % 10) (c % 10) 12)), some (.int (woF zbe (wsumF zwe).toInt64 S (c / 100) (c / 10 % 10) (c % 10)))] [] (hp nw i0 i1 pd lv pl mt nt (zbk, znw, zth, zta, zwe, zsi, zsg, zsa, zpa, zsd, zfo, zre, zma, zba, zbe, zev, zac, zwr, zsl, zwy, zim, zke)) Q) : Go E yX9_watch cX9_watch 10 (some .int) (d + 3) 0 0 0 0 128 [some (.ref 52), some (.int wh), some (.int (nI S)), some (.int f), some (.int l), some (.int (nI c)), some (.int (nI (c / 10 % 10))), some (.int (nI (c % 10))), some (.int (owR zbe (wsumF zwe).toInt64 S (c / 100) (c / 10 % 10) (c % 10) 12)), a9] [] (hp nw i0 i1 pd lv pl mt nt (zbk, znw, zth, zta, zwe, zsi, zsg, zsa, zpa, zsd, zfo, zre, zma, zba, zbe, zev, zac, zwr, zsl, zwy, zim, zke)) Q := by
  refine go_iload dX9_watch_128 rfl ?_
  refine go_iload_n dX9_watch_130 rfl ?_
  refine go_cS (as := [_]) dX9_watch_131 mX9_bits kX9_60 tX9_bits rfl rfl (rX9_bits hS) rfl rfl rfl ?_
  refine go_iload dX9_watch_134 rfl ?_
  refine go_isub dX9_watch_136 ?_
  refine go_icmp_le (tgt := 145) dX9_watch_137 (by decide) (fun q137 => ?_) (fun q137 => ?_)
  · refine go_iload_n dX9_watch_145 rfl ?_
    refine go_cS (as := [_]) dX9_watch_146 mX9_bits kX9_60 tX9_bits rfl rfl (rX9_bits hS) rfl rfl rfl ?_
    refine go_iload dX9_watch_149 rfl ?_
    refine go_isub dX9_watch_151 ?_
    refine go_istore (L' := [_, _, _, _, _, _, _, _, _, _]) dX9_watch_152 rfl rfl rfl ?_
    rw [woF, if_pos q137] at kk; exact kk
  · refine go_iload dX9_watch_140 rfl ?_
    refine go_goto (tgt := 152) dX9_watch_142 (by decide) ?_
    refine go_istore (L' := [_, _, _, _, _, _, _, _, _, _]) dX9_watch_152 rfl rfl rfl ?_
    rw [woF, if_neg q137] at kk; exact kk
set_option maxRecDepth 100000 in
set_option maxHeartbeats 4000000 in
theorem wt_c {E : gE} {d : Nat} {nw i0 i1 : WorldS} {pd : PadS} {lv : LivesS} {pl : PlanS} {mt : MatS} {nt : NetS} {zbk znw zta zwe zsg zpa zev zac zwr zim zke : Nat → Int32} {zth zsi zsa zsd zfo zre zma zba zsl zwy : Int32} {zbe : Nat → Int64} {Q : Option Value → gH → Prop} {S : Nat} {wh : Int32} {c : Nat} {f l v : Int32} {a6 a7 a8 : Option Value} (kk : Go E yX9_watch cX9_watch 10 (some .int) (d + 3) 0 0 0 0 27 [some (.ref 52), some (.int wh), some (.int (nI S)), some (.int (if l ≤ v then (f, l) else (nI c, v)).1), some (.int (if l ≤ v then (f, l) else (nI c, v)).2), some (.int (nI (c + 1))), a6, a7, a8, some (.int v)] [] (hp nw i0 i1 pd lv pl mt nt (zbk, znw, zth, zta, zwe, zsi, zsg, zsa, zpa, zsd, zfo, zre, zma, zba, zbe, zev, zac, zwr, zsl, zwy, zim, zke)) Q) : Go E yX9_watch cX9_watch 10 (some .int) (d + 3) 0 0 0 0 154 [some (.ref 52), some (.int wh), some (.int (nI S)), some (.int f), some (.int l), some (.int (nI c)), a6, a7, a8, some (.int v)] [] (hp nw i0 i1 pd lv pl mt nt (zbk, znw, zth, zta, zwe, zsi, zsg, zsa, zpa, zsd, zfo, zre, zma, zba, zbe, zev, zac, zwr, zsl, zwy, zim, zke)) Q := by
  refine go_iload dX9_watch_154 rfl ?_
  refine go_iload dX9_watch_156 rfl ?_
  refine go_icmp_ge (tgt := 166) dX9_watch_158 (by decide) (fun q158 => ?_) (fun q158 => ?_)
  · refine go_iload_n dX9_watch_166 rfl ?_
    refine go_istore_n (L' := [_, _, _, _, _, _, _, _, _, _]) dX9_watch_167 rfl rfl rfl ?_
    refine go_iload dX9_watch_168 rfl ?_
    refine go_iload dX9_watch_170 rfl ?_
    refine go_icmp_ge (tgt := 180) dX9_watch_172 (by decide) (fun q172 => ?_) (fun q172 => ?_)
    · refine go_iload dX9_watch_180 rfl ?_
      refine go_istore (L' := [_, _, _, _, _, _, _, _, _, _]) dX9_watch_182 rfl rfl rfl ?_
      refine go_iinc (v := nI (c + 1)) (L' := [_, _, _, _, _, _, _, _, _, _]) dX9_watch_184 rfl (nI_1 c) rfl rfl rfl ?_
      refine go_goto (tgt := 27) dX9_watch_187 (by decide) ?_
      rw [if_pos q158] at kk; exact kk
    · refine go_iload dX9_watch_175 rfl ?_
      refine go_goto (tgt := 182) dX9_watch_177 (by decide) ?_
      refine go_istore (L' := [_, _, _, _, _, _, _, _, _, _]) dX9_watch_182 rfl rfl rfl ?_
      refine go_iinc (v := nI (c + 1)) (L' := [_, _, _, _, _, _, _, _, _, _]) dX9_watch_184 rfl (nI_1 c) rfl rfl rfl ?_
      refine go_goto (tgt := 27) dX9_watch_187 (by decide) ?_
      exact absurd q158 q172
  · refine go_iload dX9_watch_161 rfl ?_
    refine go_goto (tgt := 167) dX9_watch_163 (by decide) ?_
    refine go_istore_n (L' := [_, _, _, _, _, _, _, _, _, _]) dX9_watch_167 rfl rfl rfl ?_
    refine go_iload dX9_watch_168 rfl ?_
    refine go_iload dX9_watch_170 rfl ?_
    refine go_icmp_ge (tgt := 180) dX9_watch_172 (by decide) (fun q172 => ?_) (fun q172 => ?_)
    · refine go_iload dX9_watch_180 rfl ?_
      refine go_istore (L' := [_, _, _, _, _, _, _, _, _, _]) dX9_watch_182 rfl rfl rfl ?_
      refine go_iinc (v := nI (c + 1)) (L' := [_, _, _, _, _, _, _, _, _, _]) dX9_watch_184 rfl (nI_1 c) rfl rfl rfl ?_
      refine go_goto (tgt := 27) dX9_watch_187 (by decide) ?_
      exact absurd q172 q158
    · refine go_iload dX9_watch_175 rfl ?_
      refine go_goto (tgt := 182) dX9_watch_177 (by decide) ?_
      refine go_istore (L' := [_, _, _, _, _, _, _, _, _, _]) dX9_watch_182 rfl rfl rfl ?_
      refine go_iinc (v := nI (c + 1)) (L' := [_, _, _, _, _, _, _, _, _, _]) dX9_watch_184 rfl (nI_1 c) rfl rfl rfl ?_
      refine go_goto (tgt := 27) dX9_watch_187 (by decide) ?_
      rw [if_neg q158] at kk; exact kk
set_option maxRecDepth 100000 in
set_option maxHeartbeats 4000000 in
theorem wt_o {E : gE} {d : Nat} {nw i0 i1 : WorldS} {pd : PadS} {lv : LivesS} {pl : PlanS} {mt : MatS} {nt : NetS} {zbk znw zta zwe zsg zpa zev zac zwr zim zke : Nat → Int32} {zth zsi zsa zsd zfo zre zma zba zsl zwy : Int32} {zbe : Nat → Int64} {Q : Option Value → gH → Prop} {S : Nat} {wh : Int32} {X : Int32 × Int32} (hS : S < 4096) (hS0 : ¬ nI S = 0) (hX : (waR zbe (wsumF zwe).toInt64 S 1000) = X) (kk : Q (some (.int (if X.1 < 0 then X.1 else if wh = 0 then X.1 else X.2))) (hp nw i0 i1 pd lv pl mt nt (zbk, znw, zth, zta, zwe, zsi, zsg, zsa, zpa, zsd, zfo, zre, zma, zba, zbe, zev, zac, zwr, zsl, zwy, zim, zke))) : ∀ (n c : Nat) (a6 a7 a8 a9 : Option Value), c + n = 1000 → is2 a6 = false → is2 a7 = false → is2 a8 = false → Go E yX9_watch cX9_watch 10 (some .int) (d + 3) 0 0 0 0 27 [some (.ref 52), some (.int wh), some (.int (nI S)), some (.int (waR zbe (wsumF zwe).toInt64 S c).1), some (.int (waR zbe (wsumF zwe).toInt64 S c).2), some (.int (nI c)), a6, a7, a8, a9] [] (hp nw i0 i1 pd lv pl mt nt (zbk, znw, zth, zta, zwe, zsi, zsg, zsa, zpa, zsd, zfo, zre, zma, zba, zbe, zev, zac, zwr, zsl, zwy, zim, zke)) Q
  | 0, c, a6, a7, a8, a9, hk, i6, i7, i8 => by
    obtain rfl : c = 1000 := by omega
    rw [hX]
    refine go_iload dX9_watch_27 rfl ?_
    refine go_sipush (v := 1000) dX9_watch_29 (by decide) ?_
    refine go_icmp_ge (tgt := 190) dX9_watch_32 (by decide) (fun q32 => ?_) (fun zq => absurd (nI_le (a := 1000) (b := 1000) (by decide) (by decide)) zq)
    refine go_iload_n dX9_watch_190 rfl ?_
    refine go_if_lt (tgt := 198) dX9_watch_191 (by decide) (fun q191 => ?_) (fun q191 => ?_)
    · refine go_iload_n dX9_watch_198 rfl ?_
      refine go_goto (tgt := 204) dX9_watch_199 (by decide) ?_
      refine go_iret dX9_watch_204 rfl rfl ?_
      rw [if_pos q191] at kk; exact kk
    · refine go_iload_n dX9_watch_194 rfl ?_
      refine go_if_ne (tgt := 202) dX9_watch_195 (by decide) (fun q195 => ?_) (fun q195 => ?_)
      · refine go_iload dX9_watch_202 rfl ?_
        refine go_iret dX9_watch_204 rfl rfl ?_
        rw [if_neg q191, if_neg q195] at kk; exact kk
      · refine go_iload_n dX9_watch_198 rfl ?_
        refine go_goto (tgt := 204) dX9_watch_199 (by decide) ?_
        refine go_iret dX9_watch_204 rfl rfl ?_
        rw [if_neg q191, if_pos q195] at kk; exact kk
  | n + 1, c, a6, a7, a8, a9, hk, i6, i7, i8 => by
    have ih := wt_o (E := E) (d := d) hS hS0 hX kk n (c + 1)
    by_cases hm : 1 ≤ c / 10 % 10 ∧ c / 10 % 10 ≤ 8
    · by_cases hw : 0 < c % 10
      · rw [waR, if_pos ⟨hm.1, hm.2, hw⟩] at ih
        refine go_iload dX9_watch_27 rfl ?_
        refine go_sipush (v := 1000) dX9_watch_29 (by decide) ?_
        refine go_icmp_ge (tgt := 190) dX9_watch_32 (by decide) (fun zq => absurd zq (nI_ge (a := c) (b := 1000) (by omega) (by decide))) (fun q32 => ?_)
        refine go_iload_n dX9_watch_35 rfl ?_
        refine go_if_eq (tgt := 190) dX9_watch_36 (by decide) (fun zq => absurd zq hS0) (fun q36 => ?_)
        refine go_iload dX9_watch_39 rfl ?_
        refine go_bipush (v := 10) dX9_watch_41 (by decide) ?_
        refine go_idiv dX9_watch_43 (by decide) ?_
        refine go_topi_eq (pk_div (d := 10) (by omega) (by decide) (by decide)) ?_
        refine go_bipush (v := 10) dX9_watch_44 (by decide) ?_
        refine go_irem dX9_watch_46 (by decide) ?_
        refine go_topi_eq (pk_rem (a := c / 10) (d := 10) (by omega) (by decide) (by decide)) ?_
        refine go_istore (L' := [_, _, _, _, _, _, _, _, _, _]) dX9_watch_47 rfl rfl rfl ?_
        refine go_iload dX9_watch_49 rfl ?_
        refine go_bipush (v := 10) dX9_watch_51 (by decide) ?_
        refine go_irem dX9_watch_53 (by decide) ?_
        refine go_topi_eq (pk_rem (d := 10) (by omega) (by decide) (by decide)) ?_
        refine go_istore (L' := [_, _, _, _, _, _, _, _, _, _]) dX9_watch_54 rfl rfl rfl ?_
        refine go_iload dX9_watch_56 rfl ?_
        refine go_iconst (v := 1) dX9_watch_58 (by decide) ?_
        refine go_bipush (v := 8) dX9_watch_59 (by decide) ?_
        refine go_cS (as := [_, _, _]) dX9_watch_61 mX9_in kX9_48 tX9_in rfl rfl (rX9_in) rfl rfl rfl ?_
        refine go_be_t dX9_watch_64 (by rw [(in18 (c / 10 % 10) (by omega))]; exact decide_eq_true hm) ?_
        refine go_iload dX9_watch_67 rfl ?_
        refine go_if_le (tgt := 184) dX9_watch_69 (by decide) (fun zq => absurd zq (fun z => absurd ((nIle (b := 0) (by omega) (by decide)).mp z) (by omega))) (fun q69 => ?_)
        refine go_iconst (v := 0) dX9_watch_72 (by decide) ?_
        refine go_istore (L' := [_, _, _, _, _, _, _, _, _, _]) dX9_watch_73 rfl rfl rfl ?_
        refine go_iconst (v := 0) dX9_watch_75 (by decide) ?_
        refine go_istore (L' := [_, _, _, _, _, _, _, _, _, _]) dX9_watch_76 rfl rfl rfl ?_
        refine wt_in (by omega) hm.1 hm.2 hw (fun b9 => ?_) 12 0 0 rfl rfl
        refine wt_w hS ?_
        refine wt_c ?_
        exact ih _ _ _ _ (by omega) rfl rfl rfl
      · rw [waR, if_neg (fun z => hw z.2.2)] at ih
        refine go_iload dX9_watch_27 rfl ?_
        refine go_sipush (v := 1000) dX9_watch_29 (by decide) ?_
        refine go_icmp_ge (tgt := 190) dX9_watch_32 (by decide) (fun zq => absurd zq (nI_ge (a := c) (b := 1000) (by omega) (by decide))) (fun q32 => ?_)
        refine go_iload_n dX9_watch_35 rfl ?_
        refine go_if_eq (tgt := 190) dX9_watch_36 (by decide) (fun zq => absurd zq hS0) (fun q36 => ?_)
        refine go_iload dX9_watch_39 rfl ?_
        refine go_bipush (v := 10) dX9_watch_41 (by decide) ?_
        refine go_idiv dX9_watch_43 (by decide) ?_
        refine go_topi_eq (pk_div (d := 10) (by omega) (by decide) (by decide)) ?_
        refine go_bipush (v := 10) dX9_watch_44 (by decide) ?_
        refine go_irem dX9_watch_46 (by decide) ?_
        refine go_topi_eq (pk_rem (a := c / 10) (d := 10) (by omega) (by decide) (by decide)) ?_
        refine go_istore (L' := [_, _, _, _, _, _, _, _, _, _]) dX9_watch_47 rfl rfl rfl ?_
        refine go_iload dX9_watch_49 rfl ?_
        refine go_bipush (v := 10) dX9_watch_51 (by decide) ?_
        refine go_irem dX9_watch_53 (by decide) ?_
        refine go_topi_eq (pk_rem (d := 10) (by omega) (by decide) (by decide)) ?_
        refine go_istore (L' := [_, _, _, _, _, _, _, _, _, _]) dX9_watch_54 rfl rfl rfl ?_
        refine go_iload dX9_watch_56 rfl ?_
        refine go_iconst (v := 1) dX9_watch_58 (by decide) ?_
        refine go_bipush (v := 8) dX9_watch_59 (by decide) ?_
        refine go_cS (as := [_, _, _]) dX9_watch_61 mX9_in kX9_48 tX9_in rfl rfl (rX9_in) rfl rfl rfl ?_
        refine go_be_t dX9_watch_64 (by rw [(in18 (c / 10 % 10) (by omega))]; exact decide_eq_true hm) ?_
        refine go_iload dX9_watch_67 rfl ?_
        refine go_if_le (tgt := 184) dX9_watch_69 (by decide) (fun q69 => ?_) (fun zq => absurd ((nIle (b := 0) (by omega) (by decide)).mpr (by omega)) zq)
        refine go_iinc (v := nI (c + 1)) (L' := [_, _, _, _, _, _, _, _, _, _]) dX9_watch_184 rfl (nI_1 c) rfl rfl rfl ?_
        refine go_goto (tgt := 27) dX9_watch_187 (by decide) ?_
        exact ih _ _ _ _ (by omega) rfl rfl i8
    · rw [waR, if_neg (fun z => hm ⟨z.1, z.2.1⟩)] at ih
      refine go_iload dX9_watch_27 rfl ?_
      refine go_sipush (v := 1000) dX9_watch_29 (by decide) ?_
      refine go_icmp_ge (tgt := 190) dX9_watch_32 (by decide) (fun zq => absurd zq (nI_ge (a := c) (b := 1000) (by omega) (by decide))) (fun q32 => ?_)
      refine go_iload_n dX9_watch_35 rfl ?_
      refine go_if_eq (tgt := 190) dX9_watch_36 (by decide) (fun zq => absurd zq hS0) (fun q36 => ?_)
      refine go_iload dX9_watch_39 rfl ?_
      refine go_bipush (v := 10) dX9_watch_41 (by decide) ?_
      refine go_idiv dX9_watch_43 (by decide) ?_
      refine go_topi_eq (pk_div (d := 10) (by omega) (by decide) (by decide)) ?_
      refine go_bipush (v := 10) dX9_watch_44 (by decide) ?_
      refine go_irem dX9_watch_46 (by decide) ?_
      refine go_topi_eq (pk_rem (a := c / 10) (d := 10) (by omega) (by decide) (by decide)) ?_
      refine go_istore (L' := [_, _, _, _, _, _, _, _, _, _]) dX9_watch_47 rfl rfl rfl ?_
      refine go_iload dX9_watch_49 rfl ?_
      refine go_bipush (v := 10) dX9_watch_51 (by decide) ?_
      refine go_irem dX9_watch_53 (by decide) ?_
      refine go_topi_eq (pk_rem (d := 10) (by omega) (by decide) (by decide)) ?_
      refine go_istore (L' := [_, _, _, _, _, _, _, _, _, _]) dX9_watch_54 rfl rfl rfl ?_
      refine go_iload dX9_watch_56 rfl ?_
      refine go_iconst (v := 1) dX9_watch_58 (by decide) ?_
      refine go_bipush (v := 8) dX9_watch_59 (by decide) ?_
      refine go_cS (as := [_, _, _]) dX9_watch_61 mX9_in kX9_48 tX9_in rfl rfl (rX9_in) rfl rfl rfl ?_
      refine go_be_f (tgt := 184) dX9_watch_64 (by decide) (by rw [(in18 (c / 10 % 10) (by omega))]; exact decide_eq_false hm) ?_
      refine go_iinc (v := nI (c + 1)) (L' := [_, _, _, _, _, _, _, _, _, _]) dX9_watch_184 rfl (nI_1 c) rfl rfl rfl ?_
      refine go_goto (tgt := 27) dX9_watch_187 (by decide) ?_
      exact ih _ _ _ _ (by omega) rfl rfl i8
set_option maxRecDepth 100000 in
set_option maxHeartbeats 4000000 in
theorem rX9_watch_2 {E : gE} {d : Nat} {nw i0 i1 : WorldS} {pd : PadS} {lv : LivesS} {pl : PlanS} {mt : MatS} {nt : NetS} {zbk znw zta zwe zsg zpa zev zac zwr zim zke : Nat → Int32} {zth zsa zsd zfo zre zma zba zsl zwy : Int32} {zbe : Nat → Int64} {O : Nat → Nat} {s S : Nat} {w : Int32} (hs8 : s ≤ 8) (hO : ∀ i, i < s → sgOK O zsg i) (h1 : isInB w 0 1 = true) (hS : S < 4096) (he : orB (fun h => alR (lbM zwe (wsumF zwe).toInt64 zbe 8) (wsumF zwe).toInt64 O zsg h s) 12 = nI S) (h0 : S = 0) : Ret E yX9_watch cX9_watch 10 (some .int) (d + 4) 0 0 [.ref 52, .int w] (hp nw i0 i1 pd lv pl mt nt (zbk, znw, zth, zta, zwe, (nI s), zsg, zsa, zpa, zsd, zfo, zre, zma, zba, zbe, zev, zac, zwr, zsl, zwy, zim, zke)) (dt (some (.int (-6))) (hp nw i0 i1 pd lv pl mt nt (zbk, znw, zth, zta, zwe, (nI s), zsg, zsa, zpa, zsd, zfo, zre, zma, zba, (lbM zwe (wsumF zwe).toInt64 zbe 8), zev, zac, zwr, zsl, zwy, zim, zke))) := by
  refine ret_of_go (L := [_, _, _, _, _, _, _, _, _, _]) (by decide) (Nat.le_of_ble_eq_true rfl) rfl ?_
  refine go_iload_n dX9_watch_0 rfl ?_
  refine go_iconst (v := 0) dX9_watch_1 (by decide) ?_
  refine go_iconst (v := 1) dX9_watch_2 (by decide) ?_
  refine go_cS (as := [_, _, _]) dX9_watch_3 mX9_in kX9_48 tX9_in rfl rfl (rX9_in) rfl rfl rfl ?_
  refine go_bn_t (tgt := 12) dX9_watch_6 (by decide) h1 ?_
  refine go_aload_n dX9_watch_12 rfl ?_
  refine go_cV (as := []) dX9_watch_13 mX9_habits kX9_190 iX9_habits sX9_habits rfl rfl rfl rfl (rX9_habits hs8 hO) rfl rfl rfl ?_
  refine go_topi_eq he ?_
  refine go_istore_n (L' := [_, _, _, _, _, _, _, _, _, _]) dX9_watch_16 rfl rfl rfl ?_
  refine go_bipush (v := (-6)) dX9_watch_17 (by decide) ?_
  refine go_istore_n (L' := [_, _, _, _, _, _, _, _, _, _]) dX9_watch_19 rfl rfl rfl ?_
  refine go_ldc dX9_watch_20 nX9_169 ?_
  refine go_istore (L' := [_, _, _, _, _, _, _, _, _, _]) dX9_watch_22 rfl rfl rfl ?_
  refine go_iconst (v := 0) dX9_watch_24 (by decide) ?_
  refine go_istore (L' := [_, _, _, _, _, _, _, _, _, _]) dX9_watch_25 rfl rfl rfl ?_
  refine go_iload dX9_watch_27 rfl ?_
  refine go_sipush (v := 1000) dX9_watch_29 (by decide) ?_
  refine go_icmp_ge (tgt := 190) dX9_watch_32 (by decide) (fun zq => absurd zq (by decide)) (fun q32 => ?_)
  refine go_iload_n dX9_watch_35 rfl ?_
  refine go_if_eq (tgt := 190) dX9_watch_36 (by decide) (fun q36 => ?_) (fun zq => absurd (by rw [h0]; rfl) zq)
  refine go_iload_n dX9_watch_190 rfl ?_
  refine go_if_lt (tgt := 198) dX9_watch_191 (by decide) (fun q191 => ?_) (fun zq => absurd (by decide) zq)
  refine go_iload_n dX9_watch_198 rfl ?_
  refine go_goto (tgt := 204) dX9_watch_199 (by decide) ?_
  refine go_iret dX9_watch_204 rfl rfl ?_
  exact ⟨rfl, rfl⟩
set_option maxRecDepth 100000 in
set_option maxHeartbeats 4000000 in
theorem rX9_watch_3 {E : gE} {d : Nat} {nw i0 i1 : WorldS} {pd : PadS} {lv : LivesS} {pl : PlanS} {mt : MatS} {nt : NetS} {zbk znw zta zwe zsg zpa zev zac zwr zim zke : Nat → Int32} {zth zsa zsd zfo zre zma zba zsl zwy : Int32} {zbe : Nat → Int64} {O : Nat → Nat} {s S : Nat} {w : Int32} (hs8 : s ≤ 8) (hO : ∀ i, i < s → sgOK O zsg i) (h1 : isInB w 0 1 = true) (hS : S < 4096) (he : orB (fun h => alR (lbM zwe (wsumF zwe).toInt64 zbe 8) (wsumF zwe).toInt64 O zsg h s) 12 = nI S) (h0 : ¬ nI S = 0) : Ret E yX9_watch cX9_watch 10 (some .int) (d + 4) 0 0 [.ref 52, .int w] (hp nw i0 i1 pd lv pl mt nt (zbk, znw, zth, zta, zwe, (nI s), zsg, zsa, zpa, zsd, zfo, zre, zma, zba, zbe, zev, zac, zwr, zsl, zwy, zim, zke)) (dt (some (.int (if (waR (lbM zwe (wsumF zwe).toInt64 zbe 8) (wsumF zwe).toInt64 S 1000).1 < 0 then (waR (lbM zwe (wsumF zwe).toInt64 zbe 8) (wsumF zwe).toInt64 S 1000).1 else if w = 0 then (waR (lbM zwe (wsumF zwe).toInt64 zbe 8) (wsumF zwe).toInt64 S 1000).1 else (waR (lbM zwe (wsumF zwe).toInt64 zbe 8) (wsumF zwe).toInt64 S 1000).2))) (hp nw i0 i1 pd lv pl mt nt (zbk, znw, zth, zta, zwe, (nI s), zsg, zsa, zpa, zsd, zfo, zre, zma, zba, (lbM zwe (wsumF zwe).toInt64 zbe 8), zev, zac, zwr, zsl, zwy, zim, zke))) := by
  refine ret_of_go (L := [_, _, _, _, _, _, _, _, _, _]) (by decide) (Nat.le_of_ble_eq_true rfl) rfl ?_
  refine go_iload_n dX9_watch_0 rfl ?_
  refine go_iconst (v := 0) dX9_watch_1 (by decide) ?_
  refine go_iconst (v := 1) dX9_watch_2 (by decide) ?_
  refine go_cS (as := [_, _, _]) dX9_watch_3 mX9_in kX9_48 tX9_in rfl rfl (rX9_in) rfl rfl rfl ?_
  refine go_bn_t (tgt := 12) dX9_watch_6 (by decide) h1 ?_
  refine go_aload_n dX9_watch_12 rfl ?_
  refine go_cV (as := []) dX9_watch_13 mX9_habits kX9_190 iX9_habits sX9_habits rfl rfl rfl rfl (rX9_habits hs8 hO) rfl rfl rfl ?_
  refine go_topi_eq he ?_
  refine go_istore_n (L' := [_, _, _, _, _, _, _, _, _, _]) dX9_watch_16 rfl rfl rfl ?_
  refine go_bipush (v := (-6)) dX9_watch_17 (by decide) ?_
  refine go_istore_n (L' := [_, _, _, _, _, _, _, _, _, _]) dX9_watch_19 rfl rfl rfl ?_
  refine go_ldc dX9_watch_20 nX9_169 ?_
  refine go_istore (L' := [_, _, _, _, _, _, _, _, _, _]) dX9_watch_22 rfl rfl rfl ?_
  refine go_iconst (v := 0) dX9_watch_24 (by decide) ?_
  refine go_istore (L' := [_, _, _, _, _, _, _, _, _, _]) dX9_watch_25 rfl rfl rfl ?_
  exact wt_o (d := d + 1) (zbe := (lbM zwe (wsumF zwe).toInt64 zbe 8)) hS h0 rfl ⟨rfl, rfl⟩ 1000 0 _ _ _ _ rfl rfl rfl rfl
