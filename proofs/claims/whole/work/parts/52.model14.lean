def adI (a b : Int32) : Int32 := if a ≤ b then b - a else a - b
/-- one code of 6 digits by 6, from the last act back: slips together, if it is a way -/
def lmI (th n : Nat) (A T : Nat → Int32) : Nat → Nat → Nat → Int32 → Option Int32
  | 0, _, _, sum => some sum
  | j + 1, rest, used, sum =>
    if j < n then (if tb th (rest % 6) && !(tb used (rest % 6)) then lmI th n A T j (rest / 6) (used ||| 2 ^ (rest % 6)) (sum + adI (A j) (T (rest % 6))) else none)
    else (if rest % 6 = 0 then lmI th n A T j (rest / 6) used sum else none)
def wdR (wr : Nat → Int32) : Nat → Nat → (Nat → Int32)
  | 0, _ => wr
  | j + 1, left => wdR (upd wr j (nI (left % 6))) j (left / 6)
def lmS (r : Option Int32) (c : Nat) (q : Int32 × Int32 × (Nat → Int32)) : Int32 × Int32 × (Nat → Int32) := match r with
  | none => (q.1, q.2.1 + 0, q.2.2)
  | some s => if q.1 ≤ s then (if s = q.1 then (q.1, q.2.1 + 1, q.2.2) else (q.1, q.2.1 + 0, q.2.2)) else (s, 0 + 1, wdR q.2.2 6 c)
def lmR (th n : Nat) (A T wr : Nat → Int32) : Nat → Int32 × Int32 × (Nat → Int32)
  | 0 => (1000000, 0, wr)
  | c + 1 => lmS (lmI th n A T 6 c 0 0) c (lmR th n A T wr c)
theorem lmR_0 (th n : Nat) (A T wr : Nat → Int32) : lmR th n A T wr 0 = (1000000, 0, wr) := by rw [lmR]
theorem lmR_s (th n : Nat) (A T wr : Nat → Int32) (c : Nat) : lmR th n A T wr (c + 1) = lmS (lmI th n A T 6 c 0 0) c (lmR th n A T wr c) := by rw [lmR]
theorem wdR_s (wr : Nat → Int32) (j left : Nat) : wdR wr (j + 1) left = wdR (upd wr j (nI (left % 6))) j (left / 6) := by rw [wdR]
theorem hs_wr {nw i0 i1 : WorldS} {pd : PadS} {lv : LivesS} {pl : PlanS} {mt : MatS} {nt : NetS} {zbk znw zta zwe zsg zpa zev zac zim zke : Nat → Int32} {zsi zsa zsd zfo zre zma zba : Int32} {zbe : Nat → Int64} {th : Nat} {sl wy : Int32} {wr : Nat → Int32} {V2 : Nat → Int32} : hs (hp nw i0 i1 pd lv pl mt nt (zbk, znw, (nI th), zta, zwe, zsi, zsg, zsa, zpa, zsd, zfo, zre, zma, zba, zbe, zev, zac, wr, sl, wy, zim, zke)) 62 (.inl (0, 6, .inl V2)) = (hp nw i0 i1 pd lv pl mt nt (zbk, znw, (nI th), zta, zwe, zsi, zsg, zsa, zpa, zsd, zfo, zre, zma, zba, zbe, zev, zac, V2, sl, wy, zim, zke)) := by simp only [hp, hs]
set_option maxRecDepth 100000 in
set_option maxHeartbeats 4000000 in
theorem lm_out {E : gE} {d : Nat} {nw i0 i1 : WorldS} {pd : PadS} {lv : LivesS} {pl : PlanS} {mt : MatS} {nt : NetS} {zbk znw zta zwe zsg zpa zev zac zim zke : Nat → Int32} {zsi zsa zsd zfo zre zma zba : Int32} {zbe : Nat → Int64} {th n : Nat} {sl wy : Int32} {wr : Nat → Int32} {Q : Option Value → gH → Prop} {c : Nat} {x i : Int32} {a3 a4 a8 : Option Value} (kk : Go E yX9_layMatch cX9_layMatch 9 none (d + 1) 0 0 0 0 182 [some (.ref 52), some (.int (nI n)), some (.int (nI c)), a3, a4, some (.int x), some (.int 0), some (.int i), a8] [] (hp nw i0 i1 pd lv pl mt nt (zbk, znw, (nI th), zta, zwe, zsi, zsg, zsa, zpa, zsd, zfo, zre, zma, zba, zbe, zev, zac, wr, sl, wy, zim, zke)) Q) : Go E yX9_layMatch cX9_layMatch 9 none (d + 1) 0 0 0 0 41 [some (.ref 52), some (.int (nI n)), some (.int (nI c)), a3, a4, some (.int x), some (.int 0), some (.int i), a8] [] (hp nw i0 i1 pd lv pl mt nt (zbk, znw, (nI th), zta, zwe, zsi, zsg, zsa, zpa, zsd, zfo, zre, zma, zba, zbe, zev, zac, wr, sl, wy, zim, zke)) Q := by
  refine go_iload dX9_layMatch_41 rfl ?_
  refine go_if_lt (tgt := 182) dX9_layMatch_43 (by decide) (fun q43 => ?_) (fun q43 => ?_)
  · exact kk
  · refine go_iload dX9_layMatch_46 rfl ?_
    refine go_if_eq (tgt := 182) dX9_layMatch_48 (by decide) (fun q48 => ?_) (fun zq => absurd rfl zq)
    exact kk
set_option maxRecDepth 100000 in
set_option maxHeartbeats 4000000 in
theorem lm_add {E : gE} {d : Nat} {nw i0 i1 : WorldS} {pd : PadS} {lv : LivesS} {pl : PlanS} {mt : MatS} {nt : NetS} {zbk znw zta zwe zsg zpa zev zac zim zke : Nat → Int32} {zsi zsa zsd zfo zre zma zba : Int32} {zbe : Nat → Int64} {th n : Nat} {sl wy : Int32} {wr : Nat → Int32} {Q : Option Value → gH → Prop} {c rest used j p : Nat} {sum v : Int32} (hp6 : p < 6) (hu : used < 64) (hj : j < 6) (kk : Go E yX9_layMatch cX9_layMatch 9 none (d + 1) 0 0 0 0 41 [some (.ref 52), some (.int (nI n)), some (.int (nI c)), some (.int (nI rest)), some (.int (nI (used ||| 2 ^ p))), some (.int (sum + adI (zac j) (zta p))), some (.int v), some (.int (nI j - 1)), some (.int (nI p))] [] (hp nw i0 i1 pd lv pl mt nt (zbk, znw, (nI th), zta, zwe, zsi, zsg, zsa, zpa, zsd, zfo, zre, zma, zba, zbe, zev, zac, wr, sl, wy, zim, zke)) Q) : Go E yX9_layMatch cX9_layMatch 9 none (d + 1) 0 0 0 0 97 [some (.ref 52), some (.int (nI n)), some (.int (nI c)), some (.int (nI rest)), some (.int (nI used)), some (.int sum), some (.int v), some (.int (nI j)), some (.int (nI p))] [] (hp nw i0 i1 pd lv pl mt nt (zbk, znw, (nI th), zta, zwe, zsi, zsg, zsa, zpa, zsd, zfo, zre, zma, zba, zbe, zev, zac, wr, sl, wy, zim, zke)) Q := by
  refine go_iload dX9_layMatch_97 rfl ?_
  refine go_iconst (v := 1) dX9_layMatch_99 (by decide) ?_
  refine go_iload dX9_layMatch_100 rfl ?_
  refine go_ishl dX9_layMatch_102 ?_
  refine go_ior dX9_layMatch_103 ?_
  refine go_topi_eq (or_bit used hu p hp6).1 ?_
  refine go_istore (L' := [_, _, _, _, _, _, _, _, _]) dX9_layMatch_104 rfl rfl rfl ?_
  refine go_iload dX9_layMatch_106 rfl ?_
  refine go_aload_n dX9_layMatch_108 rfl ?_
  refine go_get dX9_layMatch_109 fX9_35 rfl rfl ?_
  refine go_iload dX9_layMatch_112 rfl ?_
  refine go_ialdN (j) dX9_layMatch_114 rfl (by omega) rfl ?_
  refine go_aload_n dX9_layMatch_115 rfl ?_
  refine go_get dX9_layMatch_116 fX9_16 rfl rfl ?_
  refine go_iload dX9_layMatch_119 rfl ?_
  refine go_ialdN (p) dX9_layMatch_121 rfl (by omega) rfl ?_
  refine go_icmp_le (tgt := 143) dX9_layMatch_122 (by decide) (fun q122 => ?_) (fun q122 => ?_)
  · refine go_aload_n dX9_layMatch_143 rfl ?_
    refine go_get dX9_layMatch_144 fX9_16 rfl rfl ?_
    refine go_iload dX9_layMatch_147 rfl ?_
    refine go_ialdN (p) dX9_layMatch_149 rfl (by omega) rfl ?_
    refine go_aload_n dX9_layMatch_150 rfl ?_
    refine go_get dX9_layMatch_151 fX9_35 rfl rfl ?_
    refine go_iload dX9_layMatch_154 rfl ?_
    refine go_ialdN (j) dX9_layMatch_156 rfl (by omega) rfl ?_
    refine go_isub dX9_layMatch_157 ?_
    refine go_iadd dX9_layMatch_158 ?_
    refine go_istore (L' := [_, _, _, _, _, _, _, _, _]) dX9_layMatch_159 rfl rfl rfl ?_
    refine go_goto (tgt := 176) dX9_layMatch_161 (by decide) ?_
    refine go_iinc (v := nI j - 1) (L' := [_, _, _, _, _, _, _, _, _]) dX9_layMatch_176 rfl (nI_dec j) rfl rfl rfl ?_
    refine go_goto (tgt := 41) dX9_layMatch_179 (by decide) ?_
    have q9 : zac j ≤ zta p := q122; rw [adI, if_pos q9] at kk; exact kk
  · refine go_aload_n dX9_layMatch_125 rfl ?_
    refine go_get dX9_layMatch_126 fX9_35 rfl rfl ?_
    refine go_iload dX9_layMatch_129 rfl ?_
    refine go_ialdN (j) dX9_layMatch_131 rfl (by omega) rfl ?_
    refine go_aload_n dX9_layMatch_132 rfl ?_
    refine go_get dX9_layMatch_133 fX9_16 rfl rfl ?_
    refine go_iload dX9_layMatch_136 rfl ?_
    refine go_ialdN (p) dX9_layMatch_138 rfl (by omega) rfl ?_
    refine go_isub dX9_layMatch_139 ?_
    refine go_goto (tgt := 158) dX9_layMatch_140 (by decide) ?_
    refine go_iadd dX9_layMatch_158 ?_
    refine go_istore (L' := [_, _, _, _, _, _, _, _, _]) dX9_layMatch_159 rfl rfl rfl ?_
    refine go_goto (tgt := 176) dX9_layMatch_161 (by decide) ?_
    refine go_iinc (v := nI j - 1) (L' := [_, _, _, _, _, _, _, _, _]) dX9_layMatch_176 rfl (nI_dec j) rfl rfl rfl ?_
    refine go_goto (tgt := 41) dX9_layMatch_179 (by decide) ?_
    have q9 : ¬ zac j ≤ zta p := q122; rw [adI, if_neg q9] at kk; exact kk
set_option maxRecDepth 100000 in
set_option maxHeartbeats 4000000 in
theorem lm_in {E : gE} {d : Nat} {nw i0 i1 : WorldS} {pd : PadS} {lv : LivesS} {pl : PlanS} {mt : MatS} {nt : NetS} {zbk znw zta zwe zsg zpa zev zac zim zke : Nat → Int32} {zsi zsa zsd zfo zre zma zba : Int32} {zbe : Nat → Int64} {th n : Nat} {sl wy : Int32} {wr : Nat → Int32} {Q : Option Value → gH → Prop} {c : Nat} (ht : th < 64) (hn : n ≤ 6) (kS : ∀ (s : Int32) (b3 b4 b7 b8 : Option Value), lmI th n zac zta 6 c 0 0 = some s → Go E yX9_layMatch cX9_layMatch 9 none (d + 1) 0 0 0 0 182 [some (.ref 52), some (.int (nI n)), some (.int (nI c)), b3, b4, some (.int s), some (.int 1), b7, b8] [] (hp nw i0 i1 pd lv pl mt nt (zbk, znw, (nI th), zta, zwe, zsi, zsg, zsa, zpa, zsd, zfo, zre, zma, zba, zbe, zev, zac, wr, sl, wy, zim, zke)) Q) (kN : ∀ (x : Int32) (b3 b4 b7 b8 : Option Value), lmI th n zac zta 6 c 0 0 = none → Go E yX9_layMatch cX9_layMatch 9 none (d + 1) 0 0 0 0 182 [some (.ref 52), some (.int (nI n)), some (.int (nI c)), b3, b4, some (.int x), some (.int 0), b7, b8] [] (hp nw i0 i1 pd lv pl mt nt (zbk, znw, (nI th), zta, zwe, zsi, zsg, zsa, zpa, zsd, zfo, zre, zma, zba, zbe, zev, zac, wr, sl, wy, zim, zke)) Q) : ∀ (j rest used : Nat) (sum : Int32) (a8 : Option Value), j ≤ 6 → rest < 46656 → used < 64 → lmI th n zac zta 6 c 0 0 = lmI th n zac zta j rest used sum → Go E yX9_layMatch cX9_layMatch 9 none (d + 1) 0 0 0 0 41 [some (.ref 52), some (.int (nI n)), some (.int (nI c)), some (.int (nI rest)), some (.int (nI used)), some (.int sum), some (.int 1), some (.int (nI j - 1)), a8] [] (hp nw i0 i1 pd lv pl mt nt (zbk, znw, (nI th), zta, zwe, zsi, zsg, zsa, zpa, zsd, zfo, zre, zma, zba, zbe, zev, zac, wr, sl, wy, zim, zke)) Q
  | 0, rest, used, sum, a8, hj, hrs, hu, he => by
    refine go_iload dX9_layMatch_41 rfl ?_
    refine go_if_lt (tgt := 182) dX9_layMatch_43 (by decide) (fun q43 => ?_) (fun zq => absurd nIm1_neg zq)
    exact kS sum _ _ _ _ (by rw [he, lmI])
  | j + 1, rest, used, sum, a8, hj, hrs, hu, he => by
    rw [show nI (j + 1) - 1 = nI j from nI_pred j]
    have hr6 : rest % 6 < 6 := Nat.mod_lt _ (by decide)
    refine go_iload dX9_layMatch_41 rfl ?_
    refine go_if_lt (tgt := 182) dX9_layMatch_43 (by decide) (fun zq => absurd zq (Int32.not_lt.mpr (nI_nn (by omega)))) (fun q43 => ?_)
    refine go_iload dX9_layMatch_46 rfl ?_
    refine go_if_eq (tgt := 182) dX9_layMatch_48 (by decide) (fun zq => absurd zq (by decide)) (fun q48 => ?_)
    refine go_iload_n dX9_layMatch_51 rfl ?_
    refine go_bipush (v := 6) dX9_layMatch_52 (by decide) ?_
    refine go_irem dX9_layMatch_54 (by decide) ?_
    refine go_topi_eq (pk_rem (d := 6) (by omega) (by decide) (by decide)) ?_
    refine go_istore (L' := [_, _, _, _, _, _, _, _, _]) dX9_layMatch_55 rfl rfl rfl ?_
    refine go_iload_n dX9_layMatch_57 rfl ?_
    refine go_bipush (v := 6) dX9_layMatch_58 (by decide) ?_
    refine go_idiv dX9_layMatch_60 (by decide) ?_
    refine go_topi_eq (pk_div (d := 6) (by omega) (by decide) (by decide)) ?_
    refine go_istore_n (L' := [_, _, _, _, _, _, _, _, _]) dX9_layMatch_61 rfl rfl rfl ?_
    refine go_iload dX9_layMatch_62 rfl ?_
    refine go_iload_n dX9_layMatch_64 rfl ?_
    refine go_icmp_ge (tgt := 164) dX9_layMatch_65 (by decide) (fun q65 => ?_) (fun q65 => ?_)
    · refine go_iload dX9_layMatch_164 rfl ?_
      refine go_if_ne (tgt := 173) dX9_layMatch_166 (by decide) (fun q166 => ?_) (fun q166 => ?_)
      · refine go_iconst (v := 0) dX9_layMatch_173 (by decide) ?_
        refine go_istore (L' := [_, _, _, _, _, _, _, _, _]) dX9_layMatch_174 rfl rfl rfl ?_
        refine go_iinc (v := nI j - 1) (L' := [_, _, _, _, _, _, _, _, _]) dX9_layMatch_176 rfl (nI_dec j) rfl rfl rfl ?_
        refine go_goto (tgt := 41) dX9_layMatch_179 (by decide) ?_
        have hnj : n ≤ j := (by rw [Int32.le_iff_toInt_le, nI_toInt (by omega), nI_toInt (by omega)] at q65; omega); refine lm_out ?_; exact kN _ _ _ _ _ (by rw [he, lmI, if_neg (by omega), if_neg (fun z => q166 (by rw [z]; rfl))])
      · refine go_iconst (v := 1) dX9_layMatch_169 (by decide) ?_
        refine go_goto (tgt := 174) dX9_layMatch_170 (by decide) ?_
        refine go_istore (L' := [_, _, _, _, _, _, _, _, _]) dX9_layMatch_174 rfl rfl rfl ?_
        refine go_iinc (v := nI j - 1) (L' := [_, _, _, _, _, _, _, _, _]) dX9_layMatch_176 rfl (nI_dec j) rfl rfl rfl ?_
        refine go_goto (tgt := 41) dX9_layMatch_179 (by decide) ?_
        have hnj : n ≤ j := (by rw [Int32.le_iff_toInt_le, nI_toInt (by omega), nI_toInt (by omega)] at q65; omega); exact lm_in ht hn kS kN j (rest / 6) used sum _ (by omega) (by omega) hu (by rw [he, lmI, if_neg (by omega), if_pos ((nI_eq (b := 0) (by omega) (by decide)).mp q166)])
    · refine go_aload_n dX9_layMatch_68 rfl ?_
      refine go_get dX9_layMatch_69 fX9_52 rfl rfl ?_
      refine go_iload dX9_layMatch_72 rfl ?_
      refine go_cS (as := [_, _]) dX9_layMatch_74 mX9_has kX9_56 tX9_has rfl rfl (rX9_has) rfl rfl rfl ?_
      refine go_bif_eq (tgt := 94) dX9_layMatch_77 (by decide) (fun q77 => ?_) (fun q77 => ?_)
      · refine go_iconst (v := 0) dX9_layMatch_94 (by decide) ?_
        refine go_istore (L' := [_, _, _, _, _, _, _, _, _]) dX9_layMatch_95 rfl rfl rfl ?_
        have hnj : j < n := (by rw [Int32.le_iff_toInt_le, nI_toInt (by omega), nI_toInt (by omega)] at q65; omega); refine lm_add hr6 hu (by omega) ?_; refine lm_out ?_; exact kN _ _ _ _ _ (by rw [he, lmI, if_pos hnj, if_neg (by rw [(hb_tb th ht (rest % 6) hr6).symm.trans q77]; simp)])
      · refine go_iload dX9_layMatch_80 rfl ?_
        refine go_iload dX9_layMatch_82 rfl ?_
        refine go_cS (as := [_, _]) dX9_layMatch_84 mX9_has kX9_56 tX9_has rfl rfl (rX9_has) rfl rfl rfl ?_
        refine go_bif_ne (tgt := 94) dX9_layMatch_87 (by decide) (fun q87 => ?_) (fun q87 => ?_)
        · refine go_iconst (v := 0) dX9_layMatch_94 (by decide) ?_
          refine go_istore (L' := [_, _, _, _, _, _, _, _, _]) dX9_layMatch_95 rfl rfl rfl ?_
          have hnj : j < n := (by rw [Int32.le_iff_toInt_le, nI_toInt (by omega), nI_toInt (by omega)] at q65; omega); refine lm_add hr6 hu (by omega) ?_; refine lm_out ?_; exact kN _ _ _ _ _ (by rw [he, lmI, if_pos hnj, if_neg (by rw [(hb_tb used hu (rest % 6) hr6).symm.trans q87]; simp)])
        · refine go_iconst (v := 1) dX9_layMatch_90 (by decide) ?_
          refine go_goto (tgt := 95) dX9_layMatch_91 (by decide) ?_
          refine go_istore (L' := [_, _, _, _, _, _, _, _, _]) dX9_layMatch_95 rfl rfl rfl ?_
          have hnj : j < n := (by rw [Int32.le_iff_toInt_le, nI_toInt (by omega), nI_toInt (by omega)] at q65; omega); refine lm_add hr6 hu (by omega) ?_; exact lm_in ht hn kS kN j (rest / 6) _ _ _ (by omega) (by omega) (or_bit used hu (rest % 6) hr6).2 (by rw [he, lmI, if_pos hnj, if_pos (by rw [(hb_tb th ht (rest % 6) hr6).symm.trans q77, (hb_tb used hu (rest % 6) hr6).symm.trans q87]; rfl)])
set_option maxRecDepth 100000 in
set_option maxHeartbeats 4000000 in
theorem lm_w {E : gE} {d : Nat} {nw i0 i1 : WorldS} {pd : PadS} {lv : LivesS} {pl : PlanS} {mt : MatS} {nt : NetS} {zbk znw zta zwe zsg zpa zev zac zim zke : Nat → Int32} {zsi zsa zsd zfo zre zma zba : Int32} {zbe : Nat → Int64} {th n : Nat} {sl wy : Int32} {Q : Option Value → gH → Prop} {c : Nat} {s : Int32} {a3 a4 : Option Value} {X : Nat → Int32} (kk : ∀ (b7 b8 : Option Value), Go E yX9_layMatch cX9_layMatch 9 none (d + 1) 0 0 0 0 243 [some (.ref 52), some (.int (nI n)), some (.int (nI c)), a3, a4, some (.int s), some (.int 1), b7, b8] [] (hp nw i0 i1 pd lv pl mt nt (zbk, znw, (nI th), zta, zwe, zsi, zsg, zsa, zpa, zsd, zfo, zre, zma, zba, zbe, zev, zac, X, sl, wy, zim, zke)) Q) : ∀ (j left : Nat) (wr : Nat → Int32), j ≤ 6 → left < 46656 → X = wdR wr j left → Go E yX9_layMatch cX9_layMatch 9 none (d + 1) 0 0 0 0 213 [some (.ref 52), some (.int (nI n)), some (.int (nI c)), a3, a4, some (.int s), some (.int 1), some (.int (nI left)), some (.int (nI j - 1))] [] (hp nw i0 i1 pd lv pl mt nt (zbk, znw, (nI th), zta, zwe, zsi, zsg, zsa, zpa, zsd, zfo, zre, zma, zba, zbe, zev, zac, wr, sl, wy, zim, zke)) Q
  | 0, left, wr, hj, hl9, he => by
    have he2 : wr = X := he.symm
    subst he2
    refine go_iload dX9_layMatch_213 rfl ?_
    refine go_if_lt (tgt := 243) dX9_layMatch_215 (by decide) (fun q215 => ?_) (fun zq => absurd nIm1_neg zq)
    exact kk _ _
  | j + 1, left, wr, hj, hl9, he => by
    rw [show nI (j + 1) - 1 = nI j from nI_pred j]
    refine go_iload dX9_layMatch_213 rfl ?_
    refine go_if_lt (tgt := 243) dX9_layMatch_215 (by decide) (fun zq => absurd zq (Int32.not_lt.mpr (nI_nn (by omega)))) (fun q215 => ?_)
    refine go_aload_n dX9_layMatch_218 rfl ?_
    refine go_get dX9_layMatch_219 fX9_38 rfl rfl ?_
    refine go_iload dX9_layMatch_222 rfl ?_
    refine go_iload dX9_layMatch_224 rfl ?_
    refine go_bipush (v := 6) dX9_layMatch_226 (by decide) ?_
    refine go_irem dX9_layMatch_228 (by decide) ?_
    refine go_topi_eq (pk_rem (d := 6) (by omega) (by decide) (by decide)) ?_
    refine go_iastN (j) dX9_layMatch_229 rfl (by omega) rfl ?_
    refine go_heap (h2 := (hp nw i0 i1 pd lv pl mt nt (zbk, znw, (nI th), zta, zwe, zsi, zsg, zsa, zpa, zsd, zfo, zre, zma, zba, zbe, zev, zac, (upd wr j (nI (left % 6))), sl, wy, zim, zke))) hs_wr ?_
    refine go_iload dX9_layMatch_230 rfl ?_
    refine go_bipush (v := 6) dX9_layMatch_232 (by decide) ?_
    refine go_idiv dX9_layMatch_234 (by decide) ?_
    refine go_topi_eq (pk_div (d := 6) (by omega) (by decide) (by decide)) ?_
    refine go_istore (L' := [_, _, _, _, _, _, _, _, _]) dX9_layMatch_235 rfl rfl rfl ?_
    refine go_iinc (v := nI j - 1) (L' := [_, _, _, _, _, _, _, _, _]) dX9_layMatch_237 rfl (nI_dec j) rfl rfl rfl ?_
    refine go_goto (tgt := 213) dX9_layMatch_240 (by decide) ?_
    exact lm_w kk j (left / 6) _ (by omega) (by omega) (by rw [he, wdR_s])
set_option maxRecDepth 100000 in
set_option maxHeartbeats 4000000 in
theorem lm_en {E : gE} {d : Nat} {nw i0 i1 : WorldS} {pd : PadS} {lv : LivesS} {pl : PlanS} {mt : MatS} {nt : NetS} {zbk znw zta zwe zsg zpa zev zac zim zke : Nat → Int32} {zsi zsa zsd zfo zre zma zba : Int32} {zbe : Nat → Int64} {th n : Nat} {sl wy : Int32} {wr : Nat → Int32} {Q : Option Value → gH → Prop} {c : Nat} {s : Int32} {b3 b4 b7 b8 : Option Value} (kk : ∀ (b3 b4 b5 b6 b7 b8 : Option Value), Go E yX9_layMatch cX9_layMatch 9 none (d + 1) 0 0 0 0 21 [some (.ref 52), some (.int (nI n)), some (.int (nI (c + 1))), b3, b4, b5, b6, b7, b8] [] (hp nw i0 i1 pd lv pl mt nt (zbk, znw, (nI th), zta, zwe, zsi, zsg, zsa, zpa, zsd, zfo, zre, zma, zba, zbe, zev, zac, wr, sl, (wy + 0), zim, zke)) Q) : Go E yX9_layMatch cX9_layMatch 9 none (d + 1) 0 0 0 0 243 [some (.ref 52), some (.int (nI n)), some (.int (nI c)), b3, b4, some (.int s), some (.int 0), b7, b8] [] (hp nw i0 i1 pd lv pl mt nt (zbk, znw, (nI th), zta, zwe, zsi, zsg, zsa, zpa, zsd, zfo, zre, zma, zba, zbe, zev, zac, wr, sl, wy, zim, zke)) Q := by
  refine go_aload_n dX9_layMatch_243 rfl ?_
  refine go_dup dX9_layMatch_244 rfl ?_
  refine go_get dX9_layMatch_245 fX9_173 rfl rfl ?_
  refine go_iload dX9_layMatch_248 rfl ?_
  refine go_if_eq (tgt := 266) dX9_layMatch_250 (by decide) (fun q250 => ?_) (fun zq => absurd rfl zq)
  refine go_iconst (v := 0) dX9_layMatch_266 (by decide) ?_
  refine go_iadd dX9_layMatch_267 ?_
  refine go_put dX9_layMatch_268 fX9_173 (fun _ => rfl) (fun _ => rfl) rfl rfl ?_
  refine go_heap (h2 := (hp nw i0 i1 pd lv pl mt nt (zbk, znw, (nI th), zta, zwe, zsi, zsg, zsa, zpa, zsd, zfo, zre, zma, zba, zbe, zev, zac, wr, sl, (wy + 0), zim, zke))) (by simp only [hp, hs, List.set]) ?_
  refine go_iinc (v := nI (c + 1)) (L' := [_, _, _, _, _, _, _, _, _]) dX9_layMatch_271 rfl (nI_1 c) rfl rfl rfl ?_
  refine go_goto (tgt := 21) dX9_layMatch_274 (by decide) ?_
  exact kk _ _ _ _ _ _
set_option maxRecDepth 100000 in
set_option maxHeartbeats 4000000 in
theorem lm_e0 {E : gE} {d : Nat} {nw i0 i1 : WorldS} {pd : PadS} {lv : LivesS} {pl : PlanS} {mt : MatS} {nt : NetS} {zbk znw zta zwe zsg zpa zev zac zim zke : Nat → Int32} {zsi zsa zsd zfo zre zma zba : Int32} {zbe : Nat → Int64} {th n : Nat} {sl wy : Int32} {wr : Nat → Int32} {Q : Option Value → gH → Prop} {c : Nat} {s : Int32} {b3 b4 b7 b8 : Option Value} (hz : ¬ s = sl) (kk : ∀ (b3 b4 b5 b6 b7 b8 : Option Value), Go E yX9_layMatch cX9_layMatch 9 none (d + 1) 0 0 0 0 21 [some (.ref 52), some (.int (nI n)), some (.int (nI (c + 1))), b3, b4, b5, b6, b7, b8] [] (hp nw i0 i1 pd lv pl mt nt (zbk, znw, (nI th), zta, zwe, zsi, zsg, zsa, zpa, zsd, zfo, zre, zma, zba, zbe, zev, zac, wr, sl, (wy + 0), zim, zke)) Q) : Go E yX9_layMatch cX9_layMatch 9 none (d + 1) 0 0 0 0 243 [some (.ref 52), some (.int (nI n)), some (.int (nI c)), b3, b4, some (.int s), some (.int 1), b7, b8] [] (hp nw i0 i1 pd lv pl mt nt (zbk, znw, (nI th), zta, zwe, zsi, zsg, zsa, zpa, zsd, zfo, zre, zma, zba, zbe, zev, zac, wr, sl, wy, zim, zke)) Q := by
  refine go_aload_n dX9_layMatch_243 rfl ?_
  refine go_dup dX9_layMatch_244 rfl ?_
  refine go_get dX9_layMatch_245 fX9_173 rfl rfl ?_
  refine go_iload dX9_layMatch_248 rfl ?_
  refine go_if_eq (tgt := 266) dX9_layMatch_250 (by decide) (fun zq => absurd zq (by decide)) (fun q250 => ?_)
  refine go_iload dX9_layMatch_253 rfl ?_
  refine go_aload_n dX9_layMatch_255 rfl ?_
  refine go_get dX9_layMatch_256 fX9_170 rfl rfl ?_
  refine go_icmp_ne (tgt := 266) dX9_layMatch_259 (by decide) (fun q259 => ?_) (fun zq => absurd zq hz)
  refine go_iconst (v := 0) dX9_layMatch_266 (by decide) ?_
  refine go_iadd dX9_layMatch_267 ?_
  refine go_put dX9_layMatch_268 fX9_173 (fun _ => rfl) (fun _ => rfl) rfl rfl ?_
  refine go_heap (h2 := (hp nw i0 i1 pd lv pl mt nt (zbk, znw, (nI th), zta, zwe, zsi, zsg, zsa, zpa, zsd, zfo, zre, zma, zba, zbe, zev, zac, wr, sl, (wy + 0), zim, zke))) (by simp only [hp, hs, List.set]) ?_
  refine go_iinc (v := nI (c + 1)) (L' := [_, _, _, _, _, _, _, _, _]) dX9_layMatch_271 rfl (nI_1 c) rfl rfl rfl ?_
  refine go_goto (tgt := 21) dX9_layMatch_274 (by decide) ?_
  exact kk _ _ _ _ _ _
set_option maxRecDepth 100000 in
set_option maxHeartbeats 4000000 in
theorem lm_e1 {E : gE} {d : Nat} {nw i0 i1 : WorldS} {pd : PadS} {lv : LivesS} {pl : PlanS} {mt : MatS} {nt : NetS} {zbk znw zta zwe zsg zpa zev zac zim zke : Nat → Int32} {zsi zsa zsd zfo zre zma zba : Int32} {zbe : Nat → Int64} {th n : Nat} {sl wy : Int32} {wr : Nat → Int32} {Q : Option Value → gH → Prop} {c : Nat} {s : Int32} {b3 b4 b7 b8 : Option Value} (hz : s = sl) (kk : ∀ (b3 b4 b5 b6 b7 b8 : Option Value), Go E yX9_layMatch cX9_layMatch 9 none (d + 1) 0 0 0 0 21 [some (.ref 52), some (.int (nI n)), some (.int (nI (c + 1))), b3, b4, b5, b6, b7, b8] [] (hp nw i0 i1 pd lv pl mt nt (zbk, znw, (nI th), zta, zwe, zsi, zsg, zsa, zpa, zsd, zfo, zre, zma, zba, zbe, zev, zac, wr, sl, (wy + 1), zim, zke)) Q) : Go E yX9_layMatch cX9_layMatch 9 none (d + 1) 0 0 0 0 243 [some (.ref 52), some (.int (nI n)), some (.int (nI c)), b3, b4, some (.int s), some (.int 1), b7, b8] [] (hp nw i0 i1 pd lv pl mt nt (zbk, znw, (nI th), zta, zwe, zsi, zsg, zsa, zpa, zsd, zfo, zre, zma, zba, zbe, zev, zac, wr, sl, wy, zim, zke)) Q := by
  refine go_aload_n dX9_layMatch_243 rfl ?_
  refine go_dup dX9_layMatch_244 rfl ?_
  refine go_get dX9_layMatch_245 fX9_173 rfl rfl ?_
  refine go_iload dX9_layMatch_248 rfl ?_
  refine go_if_eq (tgt := 266) dX9_layMatch_250 (by decide) (fun zq => absurd zq (by decide)) (fun q250 => ?_)
  refine go_iload dX9_layMatch_253 rfl ?_
  refine go_aload_n dX9_layMatch_255 rfl ?_
  refine go_get dX9_layMatch_256 fX9_170 rfl rfl ?_
  refine go_icmp_ne (tgt := 266) dX9_layMatch_259 (by decide) (fun zq => absurd hz zq) (fun q259 => ?_)
  refine go_iconst (v := 1) dX9_layMatch_262 (by decide) ?_
  refine go_goto (tgt := 267) dX9_layMatch_263 (by decide) ?_
  refine go_iadd dX9_layMatch_267 ?_
  refine go_put dX9_layMatch_268 fX9_173 (fun _ => rfl) (fun _ => rfl) rfl rfl ?_
  refine go_heap (h2 := (hp nw i0 i1 pd lv pl mt nt (zbk, znw, (nI th), zta, zwe, zsi, zsg, zsa, zpa, zsd, zfo, zre, zma, zba, zbe, zev, zac, wr, sl, (wy + 1), zim, zke))) (by simp only [hp, hs, List.set]) ?_
  refine go_iinc (v := nI (c + 1)) (L' := [_, _, _, _, _, _, _, _, _]) dX9_layMatch_271 rfl (nI_1 c) rfl rfl rfl ?_
  refine go_goto (tgt := 21) dX9_layMatch_274 (by decide) ?_
  exact kk _ _ _ _ _ _
set_option maxRecDepth 100000 in
set_option maxHeartbeats 4000000 in
theorem lm_ts {E : gE} {d : Nat} {nw i0 i1 : WorldS} {pd : PadS} {lv : LivesS} {pl : PlanS} {mt : MatS} {nt : NetS} {zbk znw zta zwe zsg zpa zev zac zim zke : Nat → Int32} {zsi zsa zsd zfo zre zma zba : Int32} {zbe : Nat → Int64} {th n : Nat} {sl wy : Int32} {wr : Nat → Int32} {Q : Option Value → gH → Prop} {c : Nat} {s : Int32} {b3 b4 b7 b8 : Option Value} (hc : c < 46656) (kk : ∀ (b3 b4 b5 b6 b7 b8 : Option Value), Go E yX9_layMatch cX9_layMatch 9 none (d + 1) 0 0 0 0 21 [some (.ref 52), some (.int (nI n)), some (.int (nI (c + 1))), b3, b4, b5, b6, b7, b8] [] (hp nw i0 i1 pd lv pl mt nt (zbk, znw, (nI th), zta, zwe, zsi, zsg, zsa, zpa, zsd, zfo, zre, zma, zba, zbe, zev, zac, (lmS (some s) c (sl, wy, wr)).2.2, (lmS (some s) c (sl, wy, wr)).1, (lmS (some s) c (sl, wy, wr)).2.1, zim, zke)) Q) : Go E yX9_layMatch cX9_layMatch 9 none (d + 1) 0 0 0 0 182 [some (.ref 52), some (.int (nI n)), some (.int (nI c)), b3, b4, some (.int s), some (.int 1), b7, b8] [] (hp nw i0 i1 pd lv pl mt nt (zbk, znw, (nI th), zta, zwe, zsi, zsg, zsa, zpa, zsd, zfo, zre, zma, zba, zbe, zev, zac, wr, sl, wy, zim, zke)) Q := by
  refine go_iload dX9_layMatch_182 rfl ?_
  refine go_if_eq (tgt := 243) dX9_layMatch_184 (by decide) (fun zq => absurd zq (by decide)) (fun q184 => ?_)
  refine go_iload dX9_layMatch_187 rfl ?_
  refine go_aload_n dX9_layMatch_189 rfl ?_
  refine go_get dX9_layMatch_190 fX9_170 rfl rfl ?_
  refine go_icmp_ge (tgt := 243) dX9_layMatch_193 (by decide) (fun q193 => ?_) (fun q193 => ?_)
  · by_cases hz : s = sl
    · refine lm_e1 hz ?_; rw [lmS, if_pos q193, if_pos hz] at kk; exact kk
    · refine lm_e0 hz ?_; rw [lmS, if_pos q193, if_neg hz] at kk; exact kk
  · refine go_aload_n dX9_layMatch_196 rfl ?_
    refine go_iload dX9_layMatch_197 rfl ?_
    refine go_put dX9_layMatch_199 fX9_170 (fun _ => rfl) (fun _ => rfl) rfl rfl ?_
    refine go_heap (h2 := (hp nw i0 i1 pd lv pl mt nt (zbk, znw, (nI th), zta, zwe, zsi, zsg, zsa, zpa, zsd, zfo, zre, zma, zba, zbe, zev, zac, wr, s, wy, zim, zke))) (by simp only [hp, hs, List.set]) ?_
    refine go_aload_n dX9_layMatch_202 rfl ?_
    refine go_iconst (v := 0) dX9_layMatch_203 (by decide) ?_
    refine go_put dX9_layMatch_204 fX9_173 (fun _ => rfl) (fun _ => rfl) rfl rfl ?_
    refine go_heap (h2 := (hp nw i0 i1 pd lv pl mt nt (zbk, znw, (nI th), zta, zwe, zsi, zsg, zsa, zpa, zsd, zfo, zre, zma, zba, zbe, zev, zac, wr, s, 0, zim, zke))) (by simp only [hp, hs, List.set]) ?_
    refine go_iload_n dX9_layMatch_207 rfl ?_
    refine go_istore (L' := [_, _, _, _, _, _, _, _, _]) dX9_layMatch_208 rfl rfl rfl ?_
    refine go_iconst (v := 5) dX9_layMatch_210 (by decide) ?_
    refine go_istore (L' := [_, _, _, _, _, _, _, _, _]) dX9_layMatch_211 rfl rfl rfl ?_
    refine lm_w (X := wdR wr 6 c) (fun b7 b8 => ?_) 6 c wr (Nat.le_refl 6) hc rfl; refine lm_e1 rfl ?_; rw [lmS, if_neg q193] at kk; exact kk
set_option maxRecDepth 100000 in
set_option maxHeartbeats 4000000 in
theorem lm_tn {E : gE} {d : Nat} {nw i0 i1 : WorldS} {pd : PadS} {lv : LivesS} {pl : PlanS} {mt : MatS} {nt : NetS} {zbk znw zta zwe zsg zpa zev zac zim zke : Nat → Int32} {zsi zsa zsd zfo zre zma zba : Int32} {zbe : Nat → Int64} {th n : Nat} {sl wy : Int32} {wr : Nat → Int32} {Q : Option Value → gH → Prop} {c : Nat} {s : Int32} {b3 b4 b7 b8 : Option Value} (kk : ∀ (b3 b4 b5 b6 b7 b8 : Option Value), Go E yX9_layMatch cX9_layMatch 9 none (d + 1) 0 0 0 0 21 [some (.ref 52), some (.int (nI n)), some (.int (nI (c + 1))), b3, b4, b5, b6, b7, b8] [] (hp nw i0 i1 pd lv pl mt nt (zbk, znw, (nI th), zta, zwe, zsi, zsg, zsa, zpa, zsd, zfo, zre, zma, zba, zbe, zev, zac, wr, sl, (wy + 0), zim, zke)) Q) : Go E yX9_layMatch cX9_layMatch 9 none (d + 1) 0 0 0 0 182 [some (.ref 52), some (.int (nI n)), some (.int (nI c)), b3, b4, some (.int s), some (.int 0), b7, b8] [] (hp nw i0 i1 pd lv pl mt nt (zbk, znw, (nI th), zta, zwe, zsi, zsg, zsa, zpa, zsd, zfo, zre, zma, zba, zbe, zev, zac, wr, sl, wy, zim, zke)) Q := by
  refine go_iload dX9_layMatch_182 rfl ?_
  refine go_if_eq (tgt := 243) dX9_layMatch_184 (by decide) (fun q184 => ?_) (fun zq => absurd rfl zq)
  exact lm_en kk
set_option maxRecDepth 100000 in
set_option maxHeartbeats 4000000 in
theorem lm_o {E : gE} {d : Nat} {nw i0 i1 : WorldS} {pd : PadS} {lv : LivesS} {pl : PlanS} {mt : MatS} {nt : NetS} {zbk znw zta zwe zsg zpa zev zac zwr zim zke : Nat → Int32} {zsi zsa zsd zfo zre zma zba : Int32} {zbe : Nat → Int64} {th n : Nat} {Q : Option Value → gH → Prop} {X : Int32 × Int32 × (Nat → Int32)} (ht : th < 64) (hn : n ≤ 6) (hX : (lmR th n zac zta zwr 46656) = X) (kk : Q none (hp nw i0 i1 pd lv pl mt nt (zbk, znw, (nI th), zta, zwe, zsi, zsg, zsa, zpa, zsd, zfo, zre, zma, zba, zbe, zev, zac, X.2.2, X.1, X.2.1, zim, zke))) : ∀ (k c : Nat), c + k = 46656 → ∀ (a3 a4 a5 a6 a7 a8 : Option Value), Go E yX9_layMatch cX9_layMatch 9 none (d + 1) 0 0 0 0 21 [some (.ref 52), some (.int (nI n)), some (.int (nI c)), a3, a4, a5, a6, a7, a8] [] (hp nw i0 i1 pd lv pl mt nt (zbk, znw, (nI th), zta, zwe, zsi, zsg, zsa, zpa, zsd, zfo, zre, zma, zba, zbe, zev, zac, (lmR th n zac zta zwr c).2.2, (lmR th n zac zta zwr c).1, (lmR th n zac zta zwr c).2.1, zim, zke)) Q
  | 0, c, hk, a3, a4, a5, a6, a7, a8 => by
    obtain rfl : c = 46656 := by omega
    rw [hX]
    refine go_iload_n dX9_layMatch_21 rfl ?_
    refine go_ldc dX9_layMatch_22 nX9_176 ?_
    refine go_icmp_ge (tgt := 277) dX9_layMatch_24 (by decide) (fun q24 => ?_) (fun zq => absurd (nI_le (a := 46656) (b := 46656) (by omega) (by omega)) zq)
    refine go_vret dX9_layMatch_277 rfl rfl ?_
    exact kk
  | k + 1, c, hk, a3, a4, a5, a6, a7, a8 => by
    have ih := lm_o (E := E) (d := d) ht hn hX kk k (c + 1) (by omega)
    rw [lmR_s] at ih
    refine go_iload_n dX9_layMatch_21 rfl ?_
    refine go_ldc dX9_layMatch_22 nX9_176 ?_
    refine go_icmp_ge (tgt := 277) dX9_layMatch_24 (by decide) (fun zq => absurd zq (nI_ge (a := c) (b := 46656) (by omega) (by omega))) (fun q24 => ?_)
    refine go_iload_n dX9_layMatch_27 rfl ?_
    refine go_istore_n (L' := [_, _, _, _, _, _, _, _, _]) dX9_layMatch_28 rfl rfl rfl ?_
    refine go_iconst (v := 0) dX9_layMatch_29 (by decide) ?_
    refine go_istore (L' := [_, _, _, _, _, _, _, _, _]) dX9_layMatch_30 rfl rfl rfl ?_
    refine go_iconst (v := 0) dX9_layMatch_32 (by decide) ?_
    refine go_istore (L' := [_, _, _, _, _, _, _, _, _]) dX9_layMatch_33 rfl rfl rfl ?_
    refine go_iconst (v := 1) dX9_layMatch_35 (by decide) ?_
    refine go_istore (L' := [_, _, _, _, _, _, _, _, _]) dX9_layMatch_36 rfl rfl rfl ?_
    refine go_iconst (v := 5) dX9_layMatch_38 (by decide) ?_
    refine go_istore (L' := [_, _, _, _, _, _, _, _, _]) dX9_layMatch_39 rfl rfl rfl ?_
    refine lm_in (j := 6) (rest := c) (used := 0) (sum := 0) ht hn (fun s b3 b4 b7 b8 e9 => ?_) (fun x b3 b4 b7 b8 e9 => ?_) _ (Nat.le_refl 6) (by omega) (by decide) rfl
    · rw [e9] at ih
      exact lm_ts (by omega) ih
    · rw [e9] at ih
      exact lm_tn ih
set_option maxRecDepth 100000 in
set_option maxHeartbeats 4000000 in
theorem rX9_layMatch {E : gE} {d : Nat} {nw i0 i1 : WorldS} {pd : PadS} {lv : LivesS} {pl : PlanS} {mt : MatS} {nt : NetS} {zbk znw zta zwe zsg zpa zev zac zwr zim zke : Nat → Int32} {zsi zsa zsd zfo zre zma zba zsl zwy : Int32} {zbe : Nat → Int64} {th : Nat} (ht : th < 64) : Ret E yX9_layMatch cX9_layMatch 9 none (d + 1) 0 0 [.ref 52] (hp nw i0 i1 pd lv pl mt nt (zbk, znw, (nI th), zta, zwe, zsi, zsg, zsa, zpa, zsd, zfo, zre, zma, zba, zbe, zev, zac, zwr, zsl, zwy, zim, zke)) (dt none (hp nw i0 i1 pd lv pl mt nt (zbk, znw, (nI th), zta, zwe, zsi, zsg, zsa, zpa, zsd, zfo, zre, zma, zba, zbe, zev, zac, (lmR th (pcN th) zac zta zwr 46656).2.2, (lmR th (pcN th) zac zta zwr 46656).1, (lmR th (pcN th) zac zta zwr 46656).2.1, zim, zke))) := by
  refine ret_of_go (L := [_, _, _, _, _, _, _, _, _]) (by decide) (Nat.le_of_ble_eq_true rfl) rfl ?_
  refine go_aload_n dX9_layMatch_0 rfl ?_
  refine go_get dX9_layMatch_1 fX9_52 rfl rfl ?_
  refine go_cS (as := [_]) dX9_layMatch_4 mX9_bits kX9_60 tX9_bits rfl rfl (rX9_bits (by omega)) rfl rfl rfl ?_
  refine go_istore_n (L' := [_, _, _, _, _, _, _, _, _]) dX9_layMatch_7 rfl rfl rfl ?_
  refine go_aload_n dX9_layMatch_8 rfl ?_
  refine go_ldc dX9_layMatch_9 nX9_169 ?_
  refine go_put dX9_layMatch_11 fX9_170 (fun _ => rfl) (fun _ => rfl) rfl rfl ?_
  refine go_heap (h2 := (hp nw i0 i1 pd lv pl mt nt (zbk, znw, (nI th), zta, zwe, zsi, zsg, zsa, zpa, zsd, zfo, zre, zma, zba, zbe, zev, zac, zwr, 1000000, zwy, zim, zke))) (by simp only [hp, hs, List.set]) ?_
  refine go_aload_n dX9_layMatch_14 rfl ?_
  refine go_iconst (v := 0) dX9_layMatch_15 (by decide) ?_
  refine go_put dX9_layMatch_16 fX9_173 (fun _ => rfl) (fun _ => rfl) rfl rfl ?_
  refine go_heap (h2 := (hp nw i0 i1 pd lv pl mt nt (zbk, znw, (nI th), zta, zwe, zsi, zsg, zsa, zpa, zsd, zfo, zre, zma, zba, zbe, zev, zac, (lmR th (pcN th) zac zta zwr 0).2.2, (lmR th (pcN th) zac zta zwr 0).1, (lmR th (pcN th) zac zta zwr 0).2.1, zim, zke))) (by rw [lmR_0]; simp only [hp, hs, List.set]) ?_
  refine go_iconst (v := 0) dX9_layMatch_19 (by decide) ?_
  refine go_istore_n (L' := [_, _, _, _, _, _, _, _, _]) dX9_layMatch_20 rfl rfl rfl ?_
  exact lm_o ht (pc_le th ht) rfl ⟨rfl, rfl⟩ 46656 0 (by omega) _ _ _ _ _ _
