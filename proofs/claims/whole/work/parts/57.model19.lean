def eyF (nr : Nat → Int32) : Nat → Int32 := if nr 60 = 99 then nr else upd nr 60 (nr 60 + 1)
theorem FR.ey {th : Nat} {F : FolkS} {y : Int32} {nr : Nat → Int32} (h : FR th (fYr F y) nr) : ∃ y2 : Int32, FR th (fYr F y2) (eyF nr) := by
  unfold eyF
  split
  · exact ⟨y, h⟩
  · exact ⟨nr 60 + 1, FR.yr (F := fYr F y) h⟩
def xN (X : Nat) : Nat := (75 * X + 74) % 65537
theorem xN_le (X : Nat) : xN X ≤ 65536 := by unfold xN; omega
theorem x_next {X : Nat} (h : X ≤ 65536) : rmI (75 * nI X + 74) 65537 = nI (xN X) := by
  rw [show (75 : Int32) * nI X + 74 = nI (75 * X + 74) from by rw [show (75 : Int32) = nI 75 from rfl, pk_mul, show (74 : Int32) = nI 74 from rfl, nI_add], rmI, show (65537 : Int32) = nI 65537 from rfl, pk_rem (by omega) (by decide) (by decide)]
  rfl
theorem x_pers {X : Nat} (h : X ≤ 65536) : rmI (nI X) 6 = nI (X % 6) := by
  rw [rmI, show (6 : Int32) = nI 6 from rfl, pk_rem (by omega) (by decide) (by decide)]
theorem x_gain {X : Nat} (h : X ≤ 65536) : 1 + rmI (nI X / 6) 9 = nI (1 + X / 6 % 9) := by
  rw [rmI, show (6 : Int32) = nI 6 from rfl, pk_div (by omega) (by decide) (by decide), show (9 : Int32) = nI 9 from rfl, pk_rem (by omega) (by decide) (by decide), show (1 : Int32) = nI 1 from rfl, nI_add]
theorem nI_cl {k : Nat} (h : k < 6) : (nI k).toNatClampNeg = k := nI_clamp (by omega)
theorem dw_s {F : FolkS} {x : Int32} {n th X : Nat} (ht : th < 64) (hX : X ≤ 65536) (hx : (dwR F x n).2.2 = nI X) (hF : (dwR F x n).1.1 = nI th) :
    dwR F x (n + 1) = if tb th (xN X % 6) then (if fs_ (dwR F x n).1 (xN X % 6) ≤ 0 then (forgeF (dwR F x n).1 (xN X % 6) (nI (1 + xN X / 6 % 9)), (dwR F x n).2.1 + 1, nI (xN X)) else (signF (dwR F x n).1 (xN X % 6) (nI (1 + xN X / 6 % 9)), (dwR F x n).2.1, nI (xN X))) else ((dwR F x n).1, (dwR F x n).2.1, nI (xN X)) := by
  have h6 : xN X % 6 < 6 := Nat.mod_lt _ (by decide)
  rw [dwR]
  simp only [hx, hF, x_next hX, x_pers (xN_le X), x_gain (xN_le X), has_tb th ht _ h6, nI_cl h6]
/-- a year-book's state beside the class's -/
def bkI (th : Nat) (F0 : FolkS) (x : Int32) (k : Nat) (nr : Nat → Int32) (fo xk : Int32) : Prop :=
  (∃ y : Int32, FR th (fYr (dwR F0 x k).1 y) nr) ∧ FI th (dwR F0 x k).1 ∧ fo = (dwR F0 x k).2.1 ∧ xk = (dwR F0 x k).2.2 ∧ ∃ X : Nat, X ≤ 65536 ∧ xk = nI X
theorem g_in (X : Nat) : 0 ≤ (nI (1 + X / 6 % 9)).toInt ∧ (nI (1 + X / 6 % 9)).toInt ≤ 9 := by
  rw [nI_toInt (by omega)]
  omega
theorem bkI_no {th X k : Nat} {F0 : FolkS} {x : Int32} {nr : Nat → Int32} {fo : Int32} (ht : th < 64) (hX : X ≤ 65536) (h : bkI th F0 x k nr fo (nI X)) (hpp : tb th (xN X % 6) = false) : bkI th F0 x (k + 1) (eyF nr) fo (nI (xN X)) := by
  obtain ⟨⟨y, hF⟩, hI, h1, h2, -⟩ := h
  have e := dw_s (n := k) ht hX h2.symm hF.1
  rw [hpp, if_neg (by decide)] at e
  unfold bkI
  rw [e]
  exact ⟨hF.ey, hI, h1, rfl, xN X, xN_le X, rfl⟩
theorem le0 {x : Int32} (h : 0 ≤ x.toInt) : x ≤ 0 ↔ x = 0 := by
  rw [Int32.le_iff_toInt_le, ← Int32.toInt_inj]
  have : (0 : Int32).toInt = 0 := rfl
  omega
theorem bkI_forge {th X k : Nat} {F0 : FolkS} {x : Int32} {nr : Nat → Int32} {fo : Int32} (ht : th < 64) (hX : X ≤ 65536) (h : bkI th F0 x k nr fo (nI X)) (hpp : tb th (xN X % 6) = true) (h0 : nr (xN X % 6) = 0) : bkI th F0 x (k + 1) (eyF (upd (mgain nr (xN X % 6) (nI (1 + xN X / 6 % 9))) (12 + xN X % 6) (mgain nr (xN X % 6) (nI (1 + xN X / 6 % 9)) (12 + xN X % 6) + 1))) (fo + 1) (nI (xN X)) := by
  obtain ⟨⟨y, hF⟩, hI, h1, h2, -⟩ := h
  have h6 : xN X % 6 < 6 := Nat.mod_lt _ (by decide)
  have e := dw_s (n := k) ht hX h2.symm hF.1
  have hs0 : fs_ (dwR F0 x k).1 (xN X % 6) = 0 := (hF.sheets h6 hpp).symm.trans h0
  rw [hpp, if_pos rfl, if_pos (by rw [hs0]; decide)] at e
  unfold bkI
  rw [e]
  exact ⟨(FR.forge (F := fYr (dwR F0 x k).1 y) hF h6 hpp).ey, hI.forge h6 hpp (g_in _), by rw [h1], rfl, xN X, xN_le X, rfl⟩
theorem bkI_sign {th X k : Nat} {F0 : FolkS} {x : Int32} {nr : Nat → Int32} {fo : Int32} (ht : th < 64) (hX : X ≤ 65536) (h : bkI th F0 x k nr fo (nI X)) (hpp : tb th (xN X % 6) = true) (h0 : ¬ nr (xN X % 6) = 0) : bkI th F0 x (k + 1) (eyF (mgain (upd nr (xN X % 6) (nr (xN X % 6) - 1)) (xN X % 6) (nI (1 + xN X / 6 % 9)))) fo (nI (xN X)) := by
  obtain ⟨⟨y, hF⟩, hI, h1, h2, -⟩ := h
  have h6 : xN X % 6 < 6 := Nat.mod_lt _ (by decide)
  have e := dw_s (n := k) ht hX h2.symm hF.1
  have hs1 : nr (xN X % 6) = fs_ (dwR F0 x k).1 (xN X % 6) := hF.sheets h6 hpp
  have hr := hI.1 _ h6 hpp
  have hs0 : ¬ fs_ (dwR F0 x k).1 (xN X % 6) ≤ 0 := fun z => h0 (hs1.trans ((le0 hr.1).mp z))
  rw [hpp, if_pos rfl, if_neg hs0] at e
  unfold bkI
  rw [e]
  refine ⟨(FR.sign (F := fYr (dwR F0 x k).1 y) hF h6 hpp).ey, hI.sign h6 hpp (g_in _) ?_, h1, rfl, xN X, xN_le X, rfl⟩
  rw [Int32.le_iff_toInt_le] at hs0
  have : (0 : Int32).toInt = 0 := rfl
  omega
set_option maxRecDepth 100000 in
set_option maxHeartbeats 4000000 in
theorem bk_y {E : gE} {d : Nat} {nw i0 i1 : WorldS} {pd : PadS} {lv : LivesS} {pl : PlanS} {mt : MatS} {nt : NetS} {zbk zta zwe zsg zpa zev zac zwr zim zke : Nat → Int32} {zsi zsa zre zma zba zsl zwy : Int32} {zbe : Nat → Int64} {th my : Nat} {x w : Int32} {Q : Option Value → gH → Prop} {k : Nat} {nr : Nat → Int32} {sg fo : Int32} {xk : Int32} {a6 a7 : Option Value} (kk : Go E yX9_book cX9_book 8 (some .int) (d + 3) 0 0 0 0 43 [some (.ref 52), some (.int x), some (.int (nI my)), some (.int w), some (.int xk), some (.int (nI (k + 1))), a6, a7] [] (hp nw i0 i1 pd lv pl mt nt (zbk, (eyF nr), (nI th), zta, zwe, zsi, zsg, zsa, zpa, sg, fo, zre, zma, zba, zbe, zev, zac, zwr, zsl, zwy, zim, zke)) Q) : Go E yX9_book cX9_book 8 (some .int) (d + 3) 0 0 0 0 101 [some (.ref 52), some (.int x), some (.int (nI my)), some (.int w), some (.int xk), some (.int (nI k)), a6, a7] [] (hp nw i0 i1 pd lv pl mt nt (zbk, nr, (nI th), zta, zwe, zsi, zsg, zsa, zpa, sg, fo, zre, zma, zba, zbe, zev, zac, zwr, zsl, zwy, zim, zke)) Q := by
  by_cases hy : nr 60 = 99
  · refine go_aload_n dX9_book_101 rfl ?_
    refine go_cV (as := []) dX9_book_102 mX9_endYear kX9_109 iX9_endYear sX9_endYear rfl rfl rfl rfl (rX9_endYear_4 hy) rfl rfl rfl ?_
    refine go_heap (h2 := (hp nw i0 i1 pd lv pl mt nt (zbk, nr, (nI th), zta, zwe, zsi, zsg, zsa, zpa, sg, fo, zre, zma, zba, zbe, zev, zac, zwr, zsl, zwy, zim, zke))) (rfl) ?_
    refine go_pop dX9_book_105 rfl ?_
    refine go_iinc (v := nI (k + 1)) (L' := [_, _, _, _, _, _, _, _]) dX9_book_106 rfl (nI_1 k) rfl rfl rfl ?_
    refine go_goto (tgt := 43) dX9_book_109 (by decide) ?_
    rw [eyF, if_pos hy] at kk; exact kk
  · refine go_aload_n dX9_book_101 rfl ?_
    refine go_cV (as := []) dX9_book_102 mX9_endYear kX9_109 iX9_endYear sX9_endYear rfl rfl rfl rfl (rX9_endYear_0 hy) rfl rfl rfl ?_
    refine go_heap (h2 := (hp nw i0 i1 pd lv pl mt nt (zbk, (upd nr 60 (nr 60 + 1)), (nI th), zta, zwe, zsi, zsg, zsa, zpa, sg, fo, zre, zma, zba, zbe, zev, zac, zwr, zsl, zwy, zim, zke))) (by simp only [s_now, m_now]) ?_
    refine go_pop dX9_book_105 rfl ?_
    refine go_iinc (v := nI (k + 1)) (L' := [_, _, _, _, _, _, _, _]) dX9_book_106 rfl (nI_1 k) rfl rfl rfl ?_
    refine go_goto (tgt := 43) dX9_book_109 (by decide) ?_
    rw [eyF, if_neg hy] at kk; exact kk
set_option maxRecDepth 100000 in
set_option maxHeartbeats 4000000 in
theorem bk_n {E : gE} {d : Nat} {nw i0 i1 : WorldS} {pd : PadS} {lv : LivesS} {pl : PlanS} {mt : MatS} {nt : NetS} {zbk zta zwe zsg zpa zev zac zwr zim zke : Nat → Int32} {zsi zsa zre zma zba zsl zwy : Int32} {zbe : Nat → Int64} {th my : Nat} {x w : Int32} {Q : Option Value → gH → Prop} {k : Nat} {nr : Nat → Int32} {sg fo : Int32} {X : Nat} {a6 a7 : Option Value} (ht : th < 64) (hX : X ≤ 65536) (hk : k < my) (hmy : my ≤ 99) (hpp : tb th (xN X % 6) = false) (kk : ∀ a6 a7 : Option Value, Go E yX9_book cX9_book 8 (some .int) (d + 3) 0 0 0 0 43 [some (.ref 52), some (.int x), some (.int (nI my)), some (.int w), some (.int (nI (xN X))), some (.int (nI (k + 1))), a6, a7] [] (hp nw i0 i1 pd lv pl mt nt (zbk, (eyF nr), (nI th), zta, zwe, zsi, zsg, zsa, zpa, sg, fo, zre, zma, zba, zbe, zev, zac, zwr, zsl, zwy, zim, zke)) Q) : Go E yX9_book cX9_book 8 (some .int) (d + 3) 0 0 0 0 43 [some (.ref 52), some (.int x), some (.int (nI my)), some (.int w), some (.int (nI X)), some (.int (nI k)), a6, a7] [] (hp nw i0 i1 pd lv pl mt nt (zbk, nr, (nI th), zta, zwe, zsi, zsg, zsa, zpa, sg, fo, zre, zma, zba, zbe, zev, zac, zwr, zsl, zwy, zim, zke)) Q := by
  refine go_iload dX9_book_43 rfl ?_
  refine go_iload_n dX9_book_45 rfl ?_
  refine go_icmp_ge (tgt := 112) dX9_book_46 (by decide) (fun zq => absurd zq (nI_ge (a := k) (b := my) hk (by omega))) (fun q46 => ?_)
  refine go_bipush (v := 75) dX9_book_49 (by decide) ?_
  refine go_iload dX9_book_51 rfl ?_
  refine go_imul dX9_book_53 ?_
  refine go_bipush (v := 74) dX9_book_54 (by decide) ?_
  refine go_iadd dX9_book_56 ?_
  refine go_ldc dX9_book_57 nX9_193 ?_
  refine go_irem dX9_book_59 (by decide) ?_
  refine go_topi_eq (x_next hX) ?_
  refine go_istore (L' := [_, _, _, _, _, _, _, _]) dX9_book_60 rfl rfl rfl ?_
  refine go_iload dX9_book_62 rfl ?_
  refine go_bipush (v := 6) dX9_book_64 (by decide) ?_
  refine go_irem dX9_book_66 (by decide) ?_
  refine go_topi_eq (x_pers (xN_le X)) ?_
  refine go_istore (L' := [_, _, _, _, _, _, _, _]) dX9_book_67 rfl rfl rfl ?_
  refine go_iconst (v := 1) dX9_book_69 (by decide) ?_
  refine go_iload dX9_book_70 rfl ?_
  refine go_bipush (v := 6) dX9_book_72 (by decide) ?_
  refine go_idiv dX9_book_74 (by decide) ?_
  refine go_bipush (v := 9) dX9_book_75 (by decide) ?_
  refine go_irem dX9_book_77 (by decide) ?_
  refine go_iadd dX9_book_78 ?_
  refine go_topi_eq (x_gain (xN_le X)) ?_
  refine go_istore (L' := [_, _, _, _, _, _, _, _]) dX9_book_79 rfl rfl rfl ?_
  refine go_aload_n dX9_book_81 rfl ?_
  refine go_iload dX9_book_82 rfl ?_
  refine go_iload dX9_book_84 rfl ?_
  refine go_cV (as := [_, _]) dX9_book_86 mX9_signAct kX9_115 iX9_signAct sX9_signAct rfl rfl rfl rfl (rX9_signAct_1 ((has_tb th ht (xN X % 6) (Nat.mod_lt _ (by decide))).trans hpp)) rfl rfl rfl ?_
  refine go_if_eq (tgt := 101) dX9_book_89 (by decide) (fun zq => absurd zq (by decide)) (fun q89 => ?_)
  refine go_aload_n dX9_book_92 rfl ?_
  refine go_iload dX9_book_93 rfl ?_
  refine go_iload dX9_book_95 rfl ?_
  refine go_cV (as := [_, _]) dX9_book_97 mX9_forge kX9_119 iX9_forge sX9_forge rfl rfl rfl rfl (rX9_forge_1 ((has_tb th ht (xN X % 6) (Nat.mod_lt _ (by decide))).trans hpp)) rfl rfl rfl ?_
  refine go_pop dX9_book_100 rfl ?_
  exact bk_y (kk _ _)
set_option maxRecDepth 100000 in
set_option maxHeartbeats 4000000 in
theorem bk_f {E : gE} {d : Nat} {nw i0 i1 : WorldS} {pd : PadS} {lv : LivesS} {pl : PlanS} {mt : MatS} {nt : NetS} {zbk zta zwe zsg zpa zev zac zwr zim zke : Nat → Int32} {zsi zsa zre zma zba zsl zwy : Int32} {zbe : Nat → Int64} {th my : Nat} {x w : Int32} {Q : Option Value → gH → Prop} {k : Nat} {nr : Nat → Int32} {sg fo : Int32} {X : Nat} {a6 a7 : Option Value} (ht : th < 64) (hX : X ≤ 65536) (hk : k < my) (hmy : my ≤ 99) (hpp : tb th (xN X % 6) = true) (h0 : nr (xN X % 6) = 0) (kk : ∀ a6 a7 : Option Value, Go E yX9_book cX9_book 8 (some .int) (d + 3) 0 0 0 0 43 [some (.ref 52), some (.int x), some (.int (nI my)), some (.int w), some (.int (nI (xN X))), some (.int (nI (k + 1))), a6, a7] [] (hp nw i0 i1 pd lv pl mt nt (zbk, (eyF (upd (mgain nr (xN X % 6) (nI (1 + xN X / 6 % 9))) (12 + xN X % 6) ((mgain nr (xN X % 6) (nI (1 + xN X / 6 % 9))) (12 + xN X % 6) + 1))), (nI th), zta, zwe, zsi, zsg, zsa, zpa, sg, (fo + 1), zre, zma, zba, zbe, zev, zac, zwr, zsl, zwy, zim, zke)) Q) : Go E yX9_book cX9_book 8 (some .int) (d + 3) 0 0 0 0 43 [some (.ref 52), some (.int x), some (.int (nI my)), some (.int w), some (.int (nI X)), some (.int (nI k)), a6, a7] [] (hp nw i0 i1 pd lv pl mt nt (zbk, nr, (nI th), zta, zwe, zsi, zsg, zsa, zpa, sg, fo, zre, zma, zba, zbe, zev, zac, zwr, zsl, zwy, zim, zke)) Q := by
  refine go_iload dX9_book_43 rfl ?_
  refine go_iload_n dX9_book_45 rfl ?_
  refine go_icmp_ge (tgt := 112) dX9_book_46 (by decide) (fun zq => absurd zq (nI_ge (a := k) (b := my) hk (by omega))) (fun q46 => ?_)
  refine go_bipush (v := 75) dX9_book_49 (by decide) ?_
  refine go_iload dX9_book_51 rfl ?_
  refine go_imul dX9_book_53 ?_
  refine go_bipush (v := 74) dX9_book_54 (by decide) ?_
  refine go_iadd dX9_book_56 ?_
  refine go_ldc dX9_book_57 nX9_193 ?_
  refine go_irem dX9_book_59 (by decide) ?_
  refine go_topi_eq (x_next hX) ?_
  refine go_istore (L' := [_, _, _, _, _, _, _, _]) dX9_book_60 rfl rfl rfl ?_
  refine go_iload dX9_book_62 rfl ?_
  refine go_bipush (v := 6) dX9_book_64 (by decide) ?_
  refine go_irem dX9_book_66 (by decide) ?_
  refine go_topi_eq (x_pers (xN_le X)) ?_
  refine go_istore (L' := [_, _, _, _, _, _, _, _]) dX9_book_67 rfl rfl rfl ?_
  refine go_iconst (v := 1) dX9_book_69 (by decide) ?_
  refine go_iload dX9_book_70 rfl ?_
  refine go_bipush (v := 6) dX9_book_72 (by decide) ?_
  refine go_idiv dX9_book_74 (by decide) ?_
  refine go_bipush (v := 9) dX9_book_75 (by decide) ?_
  refine go_irem dX9_book_77 (by decide) ?_
  refine go_iadd dX9_book_78 ?_
  refine go_topi_eq (x_gain (xN_le X)) ?_
  refine go_istore (L' := [_, _, _, _, _, _, _, _]) dX9_book_79 rfl rfl rfl ?_
  refine go_aload_n dX9_book_81 rfl ?_
  refine go_iload dX9_book_82 rfl ?_
  refine go_iload dX9_book_84 rfl ?_
  refine go_cV (as := [_, _]) dX9_book_86 mX9_signAct kX9_115 iX9_signAct sX9_signAct rfl rfl rfl rfl (rX9_signAct_3 (k := xN X % 6) (Nat.mod_lt _ (by decide)) ((has_tb th ht (xN X % 6) (Nat.mod_lt _ (by decide))).trans hpp) h0) rfl rfl rfl ?_
  refine go_if_eq (tgt := 101) dX9_book_89 (by decide) (fun zq => absurd zq (by decide)) (fun q89 => ?_)
  refine go_aload_n dX9_book_92 rfl ?_
  refine go_iload dX9_book_93 rfl ?_
  refine go_iload dX9_book_95 rfl ?_
  refine go_cV (as := [_, _]) dX9_book_97 mX9_forge kX9_119 iX9_forge sX9_forge rfl rfl rfl rfl (rX9_forge_0 (k := xN X % 6) (Nat.mod_lt _ (by decide)) ((has_tb th ht (xN X % 6) (Nat.mod_lt _ (by decide))).trans hpp)) rfl rfl rfl ?_
  refine go_heap (h2 := (hp nw i0 i1 pd lv pl mt nt (zbk, (upd (mgain nr (xN X % 6) (nI (1 + xN X / 6 % 9))) (12 + xN X % 6) ((mgain nr (xN X % 6) (nI (1 + xN X / 6 % 9))) (12 + xN X % 6) + 1)), (nI th), zta, zwe, zsi, zsg, zsa, zpa, sg, (fo + 1), zre, zma, zba, zbe, zev, zac, zwr, zsl, zwy, zim, zke))) (by simp only [s_signed, s_now, s_forgeries, m_now, m_signed, m_forgeries]) ?_
  refine go_pop dX9_book_100 rfl ?_
  exact bk_y (kk _ _)
set_option maxRecDepth 100000 in
set_option maxHeartbeats 4000000 in
theorem bk_g {E : gE} {d : Nat} {nw i0 i1 : WorldS} {pd : PadS} {lv : LivesS} {pl : PlanS} {mt : MatS} {nt : NetS} {zbk zta zwe zsg zpa zev zac zwr zim zke : Nat → Int32} {zsi zsa zre zma zba zsl zwy : Int32} {zbe : Nat → Int64} {th my : Nat} {x w : Int32} {Q : Option Value → gH → Prop} {k : Nat} {nr : Nat → Int32} {sg fo : Int32} {X : Nat} {a6 a7 : Option Value} (ht : th < 64) (hX : X ≤ 65536) (hk : k < my) (hmy : my ≤ 99) (hpp : tb th (xN X % 6) = true) (h0 : ¬ nr (xN X % 6) = 0) (kk : ∀ a6 a7 : Option Value, Go E yX9_book cX9_book 8 (some .int) (d + 3) 0 0 0 0 43 [some (.ref 52), some (.int x), some (.int (nI my)), some (.int w), some (.int (nI (xN X))), some (.int (nI (k + 1))), a6, a7] [] (hp nw i0 i1 pd lv pl mt nt (zbk, (eyF (mgain (upd nr (xN X % 6) (nr (xN X % 6) - 1)) (xN X % 6) (nI (1 + xN X / 6 % 9)))), (nI th), zta, zwe, zsi, zsg, zsa, zpa, (sg + 1), fo, zre, zma, zba, zbe, zev, zac, zwr, zsl, zwy, zim, zke)) Q) : Go E yX9_book cX9_book 8 (some .int) (d + 3) 0 0 0 0 43 [some (.ref 52), some (.int x), some (.int (nI my)), some (.int w), some (.int (nI X)), some (.int (nI k)), a6, a7] [] (hp nw i0 i1 pd lv pl mt nt (zbk, nr, (nI th), zta, zwe, zsi, zsg, zsa, zpa, sg, fo, zre, zma, zba, zbe, zev, zac, zwr, zsl, zwy, zim, zke)) Q := by
  refine go_iload dX9_book_43 rfl ?_
  refine go_iload_n dX9_book_45 rfl ?_
  refine go_icmp_ge (tgt := 112) dX9_book_46 (by decide) (fun zq => absurd zq (nI_ge (a := k) (b := my) hk (by omega))) (fun q46 => ?_)
  refine go_bipush (v := 75) dX9_book_49 (by decide) ?_
  refine go_iload dX9_book_51 rfl ?_
  refine go_imul dX9_book_53 ?_
  refine go_bipush (v := 74) dX9_book_54 (by decide) ?_
  refine go_iadd dX9_book_56 ?_
  refine go_ldc dX9_book_57 nX9_193 ?_
  refine go_irem dX9_book_59 (by decide) ?_
  refine go_topi_eq (x_next hX) ?_
  refine go_istore (L' := [_, _, _, _, _, _, _, _]) dX9_book_60 rfl rfl rfl ?_
  refine go_iload dX9_book_62 rfl ?_
  refine go_bipush (v := 6) dX9_book_64 (by decide) ?_
  refine go_irem dX9_book_66 (by decide) ?_
  refine go_topi_eq (x_pers (xN_le X)) ?_
  refine go_istore (L' := [_, _, _, _, _, _, _, _]) dX9_book_67 rfl rfl rfl ?_
  refine go_iconst (v := 1) dX9_book_69 (by decide) ?_
  refine go_iload dX9_book_70 rfl ?_
  refine go_bipush (v := 6) dX9_book_72 (by decide) ?_
  refine go_idiv dX9_book_74 (by decide) ?_
  refine go_bipush (v := 9) dX9_book_75 (by decide) ?_
  refine go_irem dX9_book_77 (by decide) ?_
  refine go_iadd dX9_book_78 ?_
  refine go_topi_eq (x_gain (xN_le X)) ?_
  refine go_istore (L' := [_, _, _, _, _, _, _, _]) dX9_book_79 rfl rfl rfl ?_
  refine go_aload_n dX9_book_81 rfl ?_
  refine go_iload dX9_book_82 rfl ?_
  refine go_iload dX9_book_84 rfl ?_
  refine go_cV (as := [_, _]) dX9_book_86 mX9_signAct kX9_115 iX9_signAct sX9_signAct rfl rfl rfl rfl (rX9_signAct_0 (k := xN X % 6) (Nat.mod_lt _ (by decide)) ((has_tb th ht (xN X % 6) (Nat.mod_lt _ (by decide))).trans hpp) h0) rfl rfl rfl ?_
  refine go_heap (h2 := (hp nw i0 i1 pd lv pl mt nt (zbk, (mgain (upd nr (xN X % 6) (nr (xN X % 6) - 1)) (xN X % 6) (nI (1 + xN X / 6 % 9))), (nI th), zta, zwe, zsi, zsg, zsa, zpa, (sg + 1), fo, zre, zma, zba, zbe, zev, zac, zwr, zsl, zwy, zim, zke))) (by simp only [s_signed, s_now, s_forgeries, m_now, m_signed, m_forgeries]) ?_
  refine go_if_eq (tgt := 101) dX9_book_89 (by decide) (fun q89 => ?_) (fun zq => absurd rfl zq)
  exact bk_y (kk _ _)
set_option maxRecDepth 100000 in
set_option maxHeartbeats 4000000 in
theorem bk_o {E : gE} {d : Nat} {nw i0 i1 : WorldS} {pd : PadS} {lv : LivesS} {pl : PlanS} {mt : MatS} {nt : NetS} {zbk zta zwe zsg zpa zev zac zwr zim zke : Nat → Int32} {zsi zsa zre zma zba zsl zwy : Int32} {zbe : Nat → Int64} {th my : Nat} {x w : Int32} {Q : Option Value → gH → Prop} {F0 : FolkS} (ht : th < 64) (hmy : my ≤ 99) (kk : ∀ (nr : Nat → Int32) (sg fo xk : Int32), bkI th F0 x my nr fo xk → Q (some (.int (bkA th nr fo w))) (hp nw i0 i1 pd lv pl mt nt (zbk, nr, (nI th), zta, zwe, zsi, zsg, zsa, zpa, sg, fo, zre, zma, zba, zbe, zev, zac, zwr, zsl, zwy, zim, zke))) : ∀ (n k : Nat) (nr : Nat → Int32) (sg fo xk : Int32) (a6 a7 : Option Value), k + n = my → bkI th F0 x k nr fo xk → Go E yX9_book cX9_book 8 (some .int) (d + 3) 0 0 0 0 43 [some (.ref 52), some (.int x), some (.int (nI my)), some (.int w), some (.int xk), some (.int (nI k)), a6, a7] [] (hp nw i0 i1 pd lv pl mt nt (zbk, nr, (nI th), zta, zwe, zsi, zsg, zsa, zpa, sg, fo, zre, zma, zba, zbe, zev, zac, zwr, zsl, zwy, zim, zke)) Q
  | 0, k, nr, sg, fo, xk, a6, a7, hk, hI => by
    obtain rfl : k = my := by omega
    refine go_iload dX9_book_43 rfl ?_
    refine go_iload_n dX9_book_45 rfl ?_
    refine go_icmp_ge (tgt := 112) dX9_book_46 (by decide) (fun q46 => ?_) (fun zq => absurd (nI_le (a := k) (b := k) (by omega) (by omega)) zq)
    refine go_iconst (v := 0) dX9_book_112 (by decide) ?_
    refine go_istore (L' := [_, _, _, _, _, _, _, _]) dX9_book_113 rfl rfl rfl ?_
    refine go_iconst (v := 0) dX9_book_115 (by decide) ?_
    refine go_istore (L' := [_, _, _, _, _, _, _, _]) dX9_book_116 rfl rfl rfl ?_
    refine go_iconst (v := 0) dX9_book_118 (by decide) ?_
    refine go_istore (L' := [_, _, _, _, _, _, _, _]) dX9_book_119 rfl rfl rfl ?_
    exact bk_e ht (kk nr sg fo xk hI) 6 0 0 0 rfl rfl rfl
  | n + 1, k, nr, sg, fo, xk, a6, a7, hk, hI => by
    obtain ⟨X, hX, rfl⟩ := hI.2.2.2.2
    by_cases hpp : tb th (xN X % 6) = true
    · by_cases h0 : nr (xN X % 6) = 0
      · exact bk_f ht hX (by omega) hmy hpp h0 (fun b6 b7 => bk_o ht hmy kk n (k + 1) _ _ _ _ _ _ (by omega) (bkI_forge ht hX hI hpp h0))
      · exact bk_g ht hX (by omega) hmy hpp h0 (fun b6 b7 => bk_o ht hmy kk n (k + 1) _ _ _ _ _ _ (by omega) (bkI_sign ht hX hI hpp h0))
    · have hp2 : tb th (xN X % 6) = false := by simpa using hpp
      exact bk_n ht hX (by omega) hmy hp2 (fun b6 b7 => bk_o ht hmy kk n (k + 1) _ _ _ _ _ _ (by omega) (bkI_no ht hX hI hp2))
/-- behind a year-book: its answer, by a state beside the class's -/
def bkQ (th my : Nat) (F0 : FolkS) (x w : Int32) (hh : (Nat → Int32) → Int32 → Int32 → gH) : Option Value → gH → Prop := fun r h => ∃ (nr : Nat → Int32) (sg fo xk : Int32), bkI th F0 x my nr fo xk ∧ r = some (.int (bkA th nr fo w)) ∧ h = hh nr sg fo
set_option maxRecDepth 100000 in
set_option maxHeartbeats 4000000 in
theorem rX9_book_4 {E : gE} {d : Nat} {nw i0 i1 : WorldS} {pd : PadS} {lv : LivesS} {pl : PlanS} {mt : MatS} {nt : NetS} {zbk znw zta zwe zsg zpa zev zac zwr zim zke : Nat → Int32} {zsi zsa zsd zfo zre zma zba zsl zwy : Int32} {zbe : Nat → Int64} {th my X0 : Nat} {w : Int32} {F0 : FolkS} (ht : th < 64) (hFR : FR th F0 zbk) (hFI : FI th F0) (hX0 : X0 ≤ 9999) (hm1 : 1 ≤ my) (hmy : my ≤ 99) (h2 : isInB w 0 2 = true) : Ret E yX9_book cX9_book 8 (some .int) (d + 3) 0 0 [.ref 52, .int (nI X0), .int (nI my), .int w] (hp nw i0 i1 pd lv pl mt nt (zbk, znw, (nI th), zta, zwe, zsi, zsg, zsa, zpa, zsd, zfo, zre, zma, zba, zbe, zev, zac, zwr, zsl, zwy, zim, zke)) (bkQ th my F0 (nI X0) w (fun nr sg fo => (hp nw i0 i1 pd lv pl mt nt (zbk, nr, (nI th), zta, zwe, zsi, zsg, zsa, zpa, sg, fo, zre, zma, zba, zbe, zev, zac, zwr, zsl, zwy, zim, zke)))) := by
  refine ret_of_go (L := [_, _, _, _, _, _, _, _]) (by decide) (Nat.le_of_ble_eq_true rfl) rfl ?_
  refine go_iload_n dX9_book_0 rfl ?_
  refine go_iconst (v := 0) dX9_book_1 (by decide) ?_
  refine go_sipush (v := 9999) dX9_book_2 (by decide) ?_
  refine go_cS (as := [_, _, _]) dX9_book_5 mX9_in kX9_48 tX9_in rfl rfl (rX9_in) rfl rfl rfl ?_
  refine go_be_t dX9_book_8 (inB_of (k := X0) (a := 0) (b := 9999) (by omega) (by omega) (by decide)) ?_
  refine go_iload_n dX9_book_11 rfl ?_
  refine go_iconst (v := 1) dX9_book_12 (by decide) ?_
  refine go_bipush (v := 99) dX9_book_13 (by decide) ?_
  refine go_cS (as := [_, _, _]) dX9_book_15 mX9_in kX9_48 tX9_in rfl rfl (rX9_in) rfl rfl rfl ?_
  refine go_be_t dX9_book_18 (inB_of (k := my) (a := 1) (b := 99) (by omega) (by omega) (by decide)) ?_
  refine go_iload_n dX9_book_21 rfl ?_
  refine go_iconst (v := 0) dX9_book_22 (by decide) ?_
  refine go_iconst (v := 2) dX9_book_23 (by decide) ?_
  refine go_cS (as := [_, _, _]) dX9_book_24 mX9_in kX9_48 tX9_in rfl rfl (rX9_in) rfl rfl rfl ?_
  refine go_bn_t (tgt := 33) dX9_book_27 (by decide) h2 ?_
  refine go_aload_n dX9_book_33 rfl ?_
  refine go_cVv (as := []) dX9_book_34 mX9_asNow kX9_97 iX9_asNow sX9_asNow rfl rfl rfl rfl (rX9_asNow) rfl rfl rfl ?_
  refine go_heap (h2 := (hp nw i0 i1 pd lv pl mt nt (zbk, zbk, (nI th), zta, zwe, zsi, zsg, zsa, zpa, 0, 0, zre, zma, zba, zbe, zev, zac, zwr, zsl, zwy, zim, zke))) (by simp only [s_signed, s_now, s_forgeries, m_book]) ?_
  refine go_iload_n dX9_book_37 rfl ?_
  refine go_istore (L' := [_, _, _, _, _, _, _, _]) dX9_book_38 rfl rfl rfl ?_
  refine go_iconst (v := 0) dX9_book_40 (by decide) ?_
  refine go_istore (L' := [_, _, _, _, _, _, _, _]) dX9_book_41 rfl rfl rfl ?_
  exact bk_o ht hmy (fun nr sg fo xk hI => ⟨nr, sg, fo, xk, hI, rfl, rfl⟩) my 0 _ _ _ _ _ _ (by omega) ⟨⟨F0.2.1, hFR⟩, hFI, rfl, rfl, X0, by omega, rfl⟩
