set_option maxRecDepth 100000 in
set_option maxHeartbeats 4000000 in
theorem rX9_book_1 {E : gE} {d : Nat} {nw i0 i1 : WorldS} {pd : PadS} {lv : LivesS} {pl : PlanS} {mt : MatS} {nt : NetS} {zbk znw zta zwe zsg zpa zev zac zwr zim zke : Nat → Int32} {zth zsi zsa zsd zfo zre zma zba zsl zwy : Int32} {zbe : Nat → Int64} {x y w : Int32} (g0 : isInB x 0 9999 = false) : Ret E yX9_book cX9_book 8 (some .int) (d + 1) 0 0 [.ref 52, .int x, .int y, .int w] (hp nw i0 i1 pd lv pl mt nt (zbk, znw, zth, zta, zwe, zsi, zsg, zsa, zpa, zsd, zfo, zre, zma, zba, zbe, zev, zac, zwr, zsl, zwy, zim, zke)) (dt (some (.int (-2))) (hp nw i0 i1 pd lv pl mt nt (zbk, znw, zth, zta, zwe, zsi, zsg, zsa, zpa, zsd, zfo, zre, zma, zba, zbe, zev, zac, zwr, zsl, zwy, zim, zke))) := by
  refine ret_of_go (L := [_, _, _, _, _, _, _, _]) (by decide) (Nat.le_of_ble_eq_true rfl) rfl ?_
  refine go_iload_n dX9_book_0 rfl ?_
  refine go_iconst (v := 0) dX9_book_1 (by decide) ?_
  refine go_sipush (v := 9999) dX9_book_2 (by decide) ?_
  refine go_cS (as := [_, _, _]) dX9_book_5 mX9_in kX9_48 tX9_in rfl rfl (rX9_in) rfl rfl rfl ?_
  refine go_be_f (tgt := 30) dX9_book_8 (by decide) g0 ?_
  refine go_bipush (v := (-2)) dX9_book_30 (by decide) ?_
  refine go_iret dX9_book_32 rfl rfl ?_
  exact ⟨rfl, rfl⟩
set_option maxRecDepth 100000 in
set_option maxHeartbeats 4000000 in
theorem rX9_book_2 {E : gE} {d : Nat} {nw i0 i1 : WorldS} {pd : PadS} {lv : LivesS} {pl : PlanS} {mt : MatS} {nt : NetS} {zbk znw zta zwe zsg zpa zev zac zwr zim zke : Nat → Int32} {zth zsi zsa zsd zfo zre zma zba zsl zwy : Int32} {zbe : Nat → Int64} {x y w : Int32} (g0 : isInB x 0 9999 = true) (g1 : isInB y 1 99 = false) : Ret E yX9_book cX9_book 8 (some .int) (d + 1) 0 0 [.ref 52, .int x, .int y, .int w] (hp nw i0 i1 pd lv pl mt nt (zbk, znw, zth, zta, zwe, zsi, zsg, zsa, zpa, zsd, zfo, zre, zma, zba, zbe, zev, zac, zwr, zsl, zwy, zim, zke)) (dt (some (.int (-2))) (hp nw i0 i1 pd lv pl mt nt (zbk, znw, zth, zta, zwe, zsi, zsg, zsa, zpa, zsd, zfo, zre, zma, zba, zbe, zev, zac, zwr, zsl, zwy, zim, zke))) := by
  refine ret_of_go (L := [_, _, _, _, _, _, _, _]) (by decide) (Nat.le_of_ble_eq_true rfl) rfl ?_
  refine go_iload_n dX9_book_0 rfl ?_
  refine go_iconst (v := 0) dX9_book_1 (by decide) ?_
  refine go_sipush (v := 9999) dX9_book_2 (by decide) ?_
  refine go_cS (as := [_, _, _]) dX9_book_5 mX9_in kX9_48 tX9_in rfl rfl (rX9_in) rfl rfl rfl ?_
  refine go_be_t dX9_book_8 g0 ?_
  refine go_iload_n dX9_book_11 rfl ?_
  refine go_iconst (v := 1) dX9_book_12 (by decide) ?_
  refine go_bipush (v := 99) dX9_book_13 (by decide) ?_
  refine go_cS (as := [_, _, _]) dX9_book_15 mX9_in kX9_48 tX9_in rfl rfl (rX9_in) rfl rfl rfl ?_
  refine go_be_f (tgt := 30) dX9_book_18 (by decide) g1 ?_
  refine go_bipush (v := (-2)) dX9_book_30 (by decide) ?_
  refine go_iret dX9_book_32 rfl rfl ?_
  exact ⟨rfl, rfl⟩
set_option maxRecDepth 100000 in
set_option maxHeartbeats 4000000 in
theorem rX9_book_3 {E : gE} {d : Nat} {nw i0 i1 : WorldS} {pd : PadS} {lv : LivesS} {pl : PlanS} {mt : MatS} {nt : NetS} {zbk znw zta zwe zsg zpa zev zac zwr zim zke : Nat → Int32} {zth zsi zsa zsd zfo zre zma zba zsl zwy : Int32} {zbe : Nat → Int64} {x y w : Int32} (g0 : isInB x 0 9999 = true) (g1 : isInB y 1 99 = true) (g2 : isInB w 0 2 = false) : Ret E yX9_book cX9_book 8 (some .int) (d + 1) 0 0 [.ref 52, .int x, .int y, .int w] (hp nw i0 i1 pd lv pl mt nt (zbk, znw, zth, zta, zwe, zsi, zsg, zsa, zpa, zsd, zfo, zre, zma, zba, zbe, zev, zac, zwr, zsl, zwy, zim, zke)) (dt (some (.int (-2))) (hp nw i0 i1 pd lv pl mt nt (zbk, znw, zth, zta, zwe, zsi, zsg, zsa, zpa, zsd, zfo, zre, zma, zba, zbe, zev, zac, zwr, zsl, zwy, zim, zke))) := by
  refine ret_of_go (L := [_, _, _, _, _, _, _, _]) (by decide) (Nat.le_of_ble_eq_true rfl) rfl ?_
  refine go_iload_n dX9_book_0 rfl ?_
  refine go_iconst (v := 0) dX9_book_1 (by decide) ?_
  refine go_sipush (v := 9999) dX9_book_2 (by decide) ?_
  refine go_cS (as := [_, _, _]) dX9_book_5 mX9_in kX9_48 tX9_in rfl rfl (rX9_in) rfl rfl rfl ?_
  refine go_be_t dX9_book_8 g0 ?_
  refine go_iload_n dX9_book_11 rfl ?_
  refine go_iconst (v := 1) dX9_book_12 (by decide) ?_
  refine go_bipush (v := 99) dX9_book_13 (by decide) ?_
  refine go_cS (as := [_, _, _]) dX9_book_15 mX9_in kX9_48 tX9_in rfl rfl (rX9_in) rfl rfl rfl ?_
  refine go_be_t dX9_book_18 g1 ?_
  refine go_iload_n dX9_book_21 rfl ?_
  refine go_iconst (v := 0) dX9_book_22 (by decide) ?_
  refine go_iconst (v := 2) dX9_book_23 (by decide) ?_
  refine go_cS (as := [_, _, _]) dX9_book_24 mX9_in kX9_48 tX9_in rfl rfl (rX9_in) rfl rfl rfl ?_
  refine go_bn_f dX9_book_27 g2 ?_
  refine go_bipush (v := (-2)) dX9_book_30 (by decide) ?_
  refine go_iret dX9_book_32 rfl rfl ?_
  exact ⟨rfl, rfl⟩
def wtS (th : Nat) (nr : Nat → Int32) : Nat → Int32
  | 0 => 0
  | p + 1 => wtS th nr p + (if tb th p then nr (6 + p) else 0)
def bsS (th : Nat) (nr : Nat → Int32) : Nat → Int32
  | 0 => 0
  | p + 1 => bsS th nr p + (if tb th p && decide (nr p = 0) then 1 else 0)
def bkA (th : Nat) (nr : Nat → Int32) (fo w : Int32) : Int32 := if w = 0 then wtS th nr 6 else if w = 1 then fo else bsS th nr 6
set_option maxRecDepth 100000 in
set_option maxHeartbeats 4000000 in
theorem bk_e {E : gE} {d : Nat} {nw i0 i1 : WorldS} {pd : PadS} {lv : LivesS} {pl : PlanS} {mt : MatS} {nt : NetS} {zbk znw zta zwe zsg zpa zev zac zwr zim zke : Nat → Int32} {zsi zsa zsd zfo zre zma zba zsl zwy : Int32} {zbe : Nat → Int64} {th : Nat} {x0 ym w : Int32} {Q : Option Value → gH → Prop} {xk : Int32} (ht : th < 64) (kk : Q (some (.int (bkA th znw zfo w))) (hp nw i0 i1 pd lv pl mt nt (zbk, znw, (nI th), zta, zwe, zsi, zsg, zsa, zpa, zsd, zfo, zre, zma, zba, zbe, zev, zac, zwr, zsl, zwy, zim, zke))) : ∀ (n k : Nat) (s1 s2 : Int32), k + n = 6 → s1 = wtS th znw k → s2 = bsS th znw k → Go E yX9_book cX9_book 8 (some .int) (d + 3) 0 0 0 0 121 [some (.ref 52), some (.int x0), some (.int ym), some (.int w), some (.int xk), some (.int s1), some (.int s2), some (.int (nI k))] [] (hp nw i0 i1 pd lv pl mt nt (zbk, znw, (nI th), zta, zwe, zsi, zsg, zsa, zpa, zsd, zfo, zre, zma, zba, zbe, zev, zac, zwr, zsl, zwy, zim, zke)) Q
  | 0, k, s1, s2, hk, h1, h2 => by
    obtain rfl : k = 6 := by omega
    subst h1
    subst h2
    refine go_iload dX9_book_121 rfl ?_
    refine go_bipush (v := 6) dX9_book_123 (by decide) ?_
    refine go_icmp_ge (tgt := 197) dX9_book_125 (by decide) (fun q125 => ?_) (fun zq => absurd (nI_le (a := 6) (b := 6) (by decide) (by decide)) zq)
    refine go_iload_n dX9_book_197 rfl ?_
    refine go_if_ne (tgt := 206) dX9_book_198 (by decide) (fun q198 => ?_) (fun q198 => ?_)
    · refine go_iload_n dX9_book_206 rfl ?_
      refine go_iconst (v := 1) dX9_book_207 (by decide) ?_
      refine go_icmp_ne (tgt := 218) dX9_book_208 (by decide) (fun q208 => ?_) (fun q208 => ?_)
      · refine go_iload dX9_book_218 rfl ?_
        refine go_iret dX9_book_220 rfl rfl ?_
        rw [bkA, if_neg q198, if_neg q208] at kk; exact kk
      · refine go_aload_n dX9_book_211 rfl ?_
        refine go_get dX9_book_212 fX9_87 rfl rfl ?_
        refine go_goto (tgt := 220) dX9_book_215 (by decide) ?_
        refine go_iret dX9_book_220 rfl rfl ?_
        rw [bkA, if_neg q198, if_pos q208] at kk; exact kk
    · refine go_iload dX9_book_201 rfl ?_
      refine go_goto (tgt := 220) dX9_book_203 (by decide) ?_
      refine go_iret dX9_book_220 rfl rfl ?_
      rw [bkA, if_pos q198] at kk; exact kk
  | n + 1, k, s1, s2, hk, h1, h2 => by
    refine go_iload dX9_book_121 rfl ?_
    refine go_bipush (v := 6) dX9_book_123 (by decide) ?_
    refine go_icmp_ge (tgt := 197) dX9_book_125 (by decide) (fun zq => absurd zq (nI_ge (a := k) (b := 6) (by omega) (by decide))) (fun q125 => ?_)
    refine go_iload dX9_book_128 rfl ?_
    refine go_aload_n dX9_book_130 rfl ?_
    refine go_get dX9_book_131 fX9_52 rfl rfl ?_
    refine go_iload dX9_book_134 rfl ?_
    refine go_cS (as := [_, _]) dX9_book_136 mX9_has kX9_56 tX9_has rfl rfl (rX9_has) rfl rfl rfl ?_
    refine go_bif_eq (tgt := 155) dX9_book_139 (by decide) (fun q139 => ?_) (fun q139 => ?_)
    · refine go_iconst (v := 0) dX9_book_155 (by decide) ?_
      refine go_iadd dX9_book_156 ?_
      refine go_istore (L' := [_, _, _, _, _, _, _, _]) dX9_book_157 rfl rfl rfl ?_
      refine go_iload dX9_book_159 rfl ?_
      refine go_aload_n dX9_book_161 rfl ?_
      refine go_get dX9_book_162 fX9_52 rfl rfl ?_
      refine go_iload dX9_book_165 rfl ?_
      refine go_cS (as := [_, _]) dX9_book_167 mX9_has kX9_56 tX9_has rfl rfl (rX9_has) rfl rfl rfl ?_
      refine go_bif_eq (tgt := 187) dX9_book_170 (by decide) (fun q170 => ?_) (fun q170 => ?_)
      · refine go_iconst (v := 0) dX9_book_187 (by decide) ?_
        refine go_iadd dX9_book_188 ?_
        refine go_istore (L' := [_, _, _, _, _, _, _, _]) dX9_book_189 rfl rfl rfl ?_
        refine go_iinc (v := nI (k + 1)) (L' := [_, _, _, _, _, _, _, _]) dX9_book_191 rfl (nI_1 k) rfl rfl rfl ?_
        refine go_goto (tgt := 121) dX9_book_194 (by decide) ?_
        have t9 : tb th k = false := (hb_tb th ht k (by omega)).symm.trans q139; exact bk_e ht kk n (k + 1) _ _ (by omega) (by rw [h1]; simp [wtS, t9]) (by rw [h2]; simp [bsS, t9])
      · refine go_aload_n dX9_book_173 rfl ?_
        refine go_get dX9_book_174 fX9_13 rfl rfl ?_
        refine go_iload dX9_book_177 rfl ?_
        refine go_ialdN (k) dX9_book_179 rfl (by omega) rfl ?_
        refine go_if_ne (tgt := 187) dX9_book_180 (by decide) (fun q180 => ?_) (fun q180 => ?_)
        · refine go_iconst (v := 0) dX9_book_187 (by decide) ?_
          refine go_iadd dX9_book_188 ?_
          refine go_istore (L' := [_, _, _, _, _, _, _, _]) dX9_book_189 rfl rfl rfl ?_
          refine go_iinc (v := nI (k + 1)) (L' := [_, _, _, _, _, _, _, _]) dX9_book_191 rfl (nI_1 k) rfl rfl rfl ?_
          refine go_goto (tgt := 121) dX9_book_194 (by decide) ?_
          exact absurd (q139.symm.trans q170) (by decide)
        · refine go_iconst (v := 1) dX9_book_183 (by decide) ?_
          refine go_goto (tgt := 188) dX9_book_184 (by decide) ?_
          refine go_iadd dX9_book_188 ?_
          refine go_istore (L' := [_, _, _, _, _, _, _, _]) dX9_book_189 rfl rfl rfl ?_
          refine go_iinc (v := nI (k + 1)) (L' := [_, _, _, _, _, _, _, _]) dX9_book_191 rfl (nI_1 k) rfl rfl rfl ?_
          refine go_goto (tgt := 121) dX9_book_194 (by decide) ?_
          exact absurd (q139.symm.trans q170) (by decide)
    · refine go_aload_n dX9_book_142 rfl ?_
      refine go_get dX9_book_143 fX9_13 rfl rfl ?_
      refine go_bipush (v := 6) dX9_book_146 (by decide) ?_
      refine go_iload dX9_book_148 rfl ?_
      refine go_iadd dX9_book_150 ?_
      refine go_topi_eq (nIp 6 k) ?_
      refine go_ialdN (6 + k) dX9_book_151 rfl (by omega) rfl ?_
      refine go_goto (tgt := 156) dX9_book_152 (by decide) ?_
      refine go_iadd dX9_book_156 ?_
      refine go_istore (L' := [_, _, _, _, _, _, _, _]) dX9_book_157 rfl rfl rfl ?_
      refine go_iload dX9_book_159 rfl ?_
      refine go_aload_n dX9_book_161 rfl ?_
      refine go_get dX9_book_162 fX9_52 rfl rfl ?_
      refine go_iload dX9_book_165 rfl ?_
      refine go_cS (as := [_, _]) dX9_book_167 mX9_has kX9_56 tX9_has rfl rfl (rX9_has) rfl rfl rfl ?_
      refine go_bif_eq (tgt := 187) dX9_book_170 (by decide) (fun q170 => ?_) (fun q170 => ?_)
      · refine go_iconst (v := 0) dX9_book_187 (by decide) ?_
        refine go_iadd dX9_book_188 ?_
        refine go_istore (L' := [_, _, _, _, _, _, _, _]) dX9_book_189 rfl rfl rfl ?_
        refine go_iinc (v := nI (k + 1)) (L' := [_, _, _, _, _, _, _, _]) dX9_book_191 rfl (nI_1 k) rfl rfl rfl ?_
        refine go_goto (tgt := 121) dX9_book_194 (by decide) ?_
        exact absurd (q139.symm.trans q170) (by decide)
      · refine go_aload_n dX9_book_173 rfl ?_
        refine go_get dX9_book_174 fX9_13 rfl rfl ?_
        refine go_iload dX9_book_177 rfl ?_
        refine go_ialdN (k) dX9_book_179 rfl (by omega) rfl ?_
        refine go_if_ne (tgt := 187) dX9_book_180 (by decide) (fun q180 => ?_) (fun q180 => ?_)
        · refine go_iconst (v := 0) dX9_book_187 (by decide) ?_
          refine go_iadd dX9_book_188 ?_
          refine go_istore (L' := [_, _, _, _, _, _, _, _]) dX9_book_189 rfl rfl rfl ?_
          refine go_iinc (v := nI (k + 1)) (L' := [_, _, _, _, _, _, _, _]) dX9_book_191 rfl (nI_1 k) rfl rfl rfl ?_
          refine go_goto (tgt := 121) dX9_book_194 (by decide) ?_
          have t9 : tb th k = true := (hb_tb th ht k (by omega)).symm.trans q139; have q9 : ¬ znw k = 0 := q180; exact bk_e ht kk n (k + 1) _ _ (by omega) (by rw [h1]; simp [wtS, t9]) (by rw [h2]; simp [bsS, t9, q9])
        · refine go_iconst (v := 1) dX9_book_183 (by decide) ?_
          refine go_goto (tgt := 188) dX9_book_184 (by decide) ?_
          refine go_iadd dX9_book_188 ?_
          refine go_istore (L' := [_, _, _, _, _, _, _, _]) dX9_book_189 rfl rfl rfl ?_
          refine go_iinc (v := nI (k + 1)) (L' := [_, _, _, _, _, _, _, _]) dX9_book_191 rfl (nI_1 k) rfl rfl rfl ?_
          refine go_goto (tgt := 121) dX9_book_194 (by decide) ?_
          have t9 : tb th k = true := (hb_tb th ht k (by omega)).symm.trans q139; have q9 : znw k = 0 := q180; exact bk_e ht kk n (k + 1) _ _ (by omega) (by rw [h1]; simp [wtS, t9]) (by rw [h2]; simp [bsS, t9, q9])
