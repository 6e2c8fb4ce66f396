set_option maxRecDepth 100000 in
set_option maxHeartbeats 4000000 in
theorem gl_dot {E : gE} {d : Nat} {nw i0 i1 : WorldS} {pd : PadS} {lv : LivesS} {pl : PlanS} {mt : MatS} {nt : NetS} {m : ModS} {c j : Nat} {nr : Nat → Int32} {sg fo rs mn br v : Int32} {M1 : ModS} {a2 a3 a4 : Option Value} {Q : Option Value → gH → Prop} (hc : c ≤ 60) (hj : j < c) (hS : m_pad m j = 46) (hR : Ret E yX9_endYear cX9_endYear 1 (some .int) (d + 2) 0 0 [.ref 52] (hp nw i0 i1 pd lv pl mt nt (mG (s_said m (nI c)) nr sg fo rs mn br)) (dt (some (.int v)) (hp nw i0 i1 pd lv pl mt nt M1))) (kk : ∀ b3 b4 : Option Value, Go E yX9_goLives cX9_goLives 5 (some .int) (d + 3) 0 0 0 0 194 [some (.ref 52), some (.int (nI (j + 1))), some (.int (orB (someB (m_there m) nr) 6)), b3, b4] [] (hp nw i0 i1 pd lv pl mt nt (s_reason M1 v)) Q) : Go E yX9_goLives cX9_goLives 5 (some .int) (d + 3) 0 0 0 0 17 [some (.ref 52), some (.int (nI j)), a2, a3, a4] [] (hp nw i0 i1 pd lv pl mt nt (mG (s_said m (nI c)) nr sg fo rs mn br)) Q := by
  refine go_iload_n dX9_goLives_17 rfl ?_
  refine go_aload_n dX9_goLives_18 rfl ?_
  refine go_get dX9_goLives_19 fX9_68 rfl rfl ?_
  refine go_icmp_ge (tgt := 252) dX9_goLives_22 (by decide) (fun zq => absurd zq (nI_ge (a := j) (b := c) (by omega) (by omega))) (fun q22 => ?_)
  refine go_aload_n dX9_goLives_25 rfl ?_
  refine go_cV (as := []) dX9_goLives_26 mX9_some kX9_106 iX9_some sX9_some rfl rfl rfl rfl (rX9_some) rfl rfl rfl ?_
  refine go_istore_n (L' := [_, _, _, _, _]) dX9_goLives_29 rfl rfl rfl ?_
  refine go_aload_n dX9_goLives_30 rfl ?_
  refine go_get dX9_goLives_31 fX9_25 rfl rfl ?_
  refine go_iload_n dX9_goLives_34 rfl ?_
  refine go_ialdN (j) dX9_goLives_35 rfl (by omega) rfl ?_
  refine go_bipush (v := 46) dX9_goLives_36 (by decide) ?_
  refine go_icmp_ne (tgt := 55) dX9_goLives_38 (by decide) (fun zq => absurd hS zq) (fun q38 => ?_)
  refine go_aload_n dX9_goLives_41 rfl ?_
  refine go_aload_n dX9_goLives_42 rfl ?_
  refine go_cV (as := []) dX9_goLives_43 mX9_endYear kX9_109 iX9_endYear sX9_endYear rfl rfl rfl rfl (hR) rfl rfl rfl ?_
  refine go_put dX9_goLives_46 fX9_112 (fun _ => rfl) (fun _ => rfl) rfl rfl ?_
  refine go_iinc (v := nI (j + 1)) (L' := [_, _, _, _, _]) dX9_goLives_49 rfl (nI_1 j) rfl rfl rfl ?_
  refine go_goto (tgt := 194) dX9_goLives_52 (by decide) ?_
  exact kk _ _
set_option maxRecDepth 100000 in
set_option maxHeartbeats 4000000 in
theorem gl_sign {E : gE} {d : Nat} {nw i0 i1 : WorldS} {pd : PadS} {lv : LivesS} {pl : PlanS} {mt : MatS} {nt : NetS} {m : ModS} {c j : Nat} {nr : Nat → Int32} {sg fo rs mn br v : Int32} {M1 : ModS} {a2 a3 a4 : Option Value} {Q : Option Value → gH → Prop} (hc : c ≤ 60) (hj : j + 1 < c) {p g : Nat} (hl : letB (m_pad m j) = true) (hd : digB (m_pad m (j + 1)) = true) (ep : m_pad m j - 65 = nI p) (eg : m_pad m (j + 1) - 48 = nI g) (hR : Ret E yX9_signAct cX9_signAct 3 (some .int) (d + 2) 0 0 [.ref 52, .int (nI p), .int (nI g)] (hp nw i0 i1 pd lv pl mt nt (mG (s_said m (nI c)) nr sg fo rs mn br)) (dt (some (.int v)) (hp nw i0 i1 pd lv pl mt nt M1))) (kk : ∀ b3 b4 : Option Value, Go E yX9_goLives cX9_goLives 5 (some .int) (d + 3) 0 0 0 0 194 [some (.ref 52), some (.int (nI (j + 2))), some (.int (orB (someB (m_there m) nr) 6)), b3, b4] [] (hp nw i0 i1 pd lv pl mt nt (s_reason M1 v)) Q) : Go E yX9_goLives cX9_goLives 5 (some .int) (d + 3) 0 0 0 0 17 [some (.ref 52), some (.int (nI j)), a2, a3, a4] [] (hp nw i0 i1 pd lv pl mt nt (mG (s_said m (nI c)) nr sg fo rs mn br)) Q := by
  refine go_iload_n dX9_goLives_17 rfl ?_
  refine go_aload_n dX9_goLives_18 rfl ?_
  refine go_get dX9_goLives_19 fX9_68 rfl rfl ?_
  refine go_icmp_ge (tgt := 252) dX9_goLives_22 (by decide) (fun zq => absurd zq (nI_ge (a := j) (b := c) (by omega) (by omega))) (fun q22 => ?_)
  refine go_aload_n dX9_goLives_25 rfl ?_
  refine go_cV (as := []) dX9_goLives_26 mX9_some kX9_106 iX9_some sX9_some rfl rfl rfl rfl (rX9_some) rfl rfl rfl ?_
  refine go_istore_n (L' := [_, _, _, _, _]) dX9_goLives_29 rfl rfl rfl ?_
  refine go_aload_n dX9_goLives_30 rfl ?_
  refine go_get dX9_goLives_31 fX9_25 rfl rfl ?_
  refine go_iload_n dX9_goLives_34 rfl ?_
  refine go_ialdN (j) dX9_goLives_35 rfl (by omega) rfl ?_
  refine go_bipush (v := 46) dX9_goLives_36 (by decide) ?_
  refine go_icmp_ne (tgt := 55) dX9_goLives_38 (by decide) (fun q38 => ?_) (fun zq => absurd zq (let_ne hl))
  refine go_aload_n dX9_goLives_55 rfl ?_
  refine go_get dX9_goLives_56 fX9_25 rfl rfl ?_
  refine go_iload_n dX9_goLives_59 rfl ?_
  refine go_ialdN (j) dX9_goLives_60 rfl (by omega) rfl ?_
  refine go_bipush (v := 65) dX9_goLives_61 (by decide) ?_
  refine go_isub dX9_goLives_63 ?_
  refine go_topi_eq (x := nI p) ep ?_
  refine go_istore_n (L' := [_, _, _, _, _]) dX9_goLives_64 rfl rfl rfl ?_
  refine go_aload_n dX9_goLives_65 rfl ?_
  refine go_get dX9_goLives_66 fX9_25 rfl rfl ?_
  refine go_iload_n dX9_goLives_69 rfl ?_
  refine go_iconst (v := 1) dX9_goLives_70 (by decide) ?_
  refine go_iadd dX9_goLives_71 ?_
  refine go_topi_eq (x := nI (j + 1)) (nI_1 j) ?_
  refine go_ialdN (j + 1) dX9_goLives_72 rfl (by omega) rfl ?_
  refine go_istore (L' := [_, _, _, _, _]) dX9_goLives_73 rfl rfl rfl ?_
  refine go_iload dX9_goLives_75 rfl ?_
  refine go_cS (as := [_]) dX9_goLives_77 mX9_isDigit kX9_74 tX9_isDigit rfl rfl (rX9_isDigit) rfl rfl rfl ?_
  refine go_be_t dX9_goLives_80 hd ?_
  refine go_aload_n dX9_goLives_83 rfl ?_
  refine go_aload_n dX9_goLives_84 rfl ?_
  refine go_iload_n dX9_goLives_85 rfl ?_
  refine go_iload dX9_goLives_86 rfl ?_
  refine go_bipush (v := 48) dX9_goLives_88 (by decide) ?_
  refine go_isub dX9_goLives_90 ?_
  refine go_topi_eq (x := nI g) eg ?_
  refine go_cV (as := [_, _]) dX9_goLives_91 mX9_signAct kX9_115 iX9_signAct sX9_signAct rfl rfl rfl rfl (hR) rfl rfl rfl ?_
  refine go_put dX9_goLives_94 fX9_112 (fun _ => rfl) (fun _ => rfl) rfl rfl ?_
  refine go_iinc (v := nI (j + 2)) (L' := [_, _, _, _, _]) dX9_goLives_97 rfl (nI_add j 2) rfl rfl rfl ?_
  refine go_goto (tgt := 194) dX9_goLives_100 (by decide) ?_
  exact kk _ _
set_option maxRecDepth 100000 in
set_option maxHeartbeats 4000000 in
theorem gl_forge {E : gE} {d : Nat} {nw i0 i1 : WorldS} {pd : PadS} {lv : LivesS} {pl : PlanS} {mt : MatS} {nt : NetS} {m : ModS} {c j : Nat} {nr : Nat → Int32} {sg fo rs mn br v : Int32} {M1 : ModS} {a2 a3 a4 : Option Value} {Q : Option Value → gH → Prop} (hc : c ≤ 60) (hj : j + 2 < c) {p g : Nat} (hl : letB (m_pad m j) = true) (hS : m_pad m (j + 1) = 33) (ep : m_pad m j - 65 = nI p) (eg : m_pad m (j + 2) - 48 = nI g) (hR : Ret E yX9_forge cX9_forge 3 (some .int) (d + 2) 0 0 [.ref 52, .int (nI p), .int (nI g)] (hp nw i0 i1 pd lv pl mt nt (mG (s_said m (nI c)) nr sg fo rs mn br)) (dt (some (.int v)) (hp nw i0 i1 pd lv pl mt nt M1))) (kk : ∀ b3 b4 : Option Value, Go E yX9_goLives cX9_goLives 5 (some .int) (d + 3) 0 0 0 0 194 [some (.ref 52), some (.int (nI (j + 3))), some (.int (orB (someB (m_there m) nr) 6)), b3, b4] [] (hp nw i0 i1 pd lv pl mt nt (s_reason M1 v)) Q) : Go E yX9_goLives cX9_goLives 5 (some .int) (d + 3) 0 0 0 0 17 [some (.ref 52), some (.int (nI j)), a2, a3, a4] [] (hp nw i0 i1 pd lv pl mt nt (mG (s_said m (nI c)) nr sg fo rs mn br)) Q := by
  refine go_iload_n dX9_goLives_17 rfl ?_
  refine go_aload_n dX9_goLives_18 rfl ?_
  refine go_get dX9_goLives_19 fX9_68 rfl rfl ?_
  refine go_icmp_ge (tgt := 252) dX9_goLives_22 (by decide) (fun zq => absurd zq (nI_ge (a := j) (b := c) (by omega) (by omega))) (fun q22 => ?_)
  refine go_aload_n dX9_goLives_25 rfl ?_
  refine go_cV (as := []) dX9_goLives_26 mX9_some kX9_106 iX9_some sX9_some rfl rfl rfl rfl (rX9_some) rfl rfl rfl ?_
  refine go_istore_n (L' := [_, _, _, _, _]) dX9_goLives_29 rfl rfl rfl ?_
  refine go_aload_n dX9_goLives_30 rfl ?_
  refine go_get dX9_goLives_31 fX9_25 rfl rfl ?_
  refine go_iload_n dX9_goLives_34 rfl ?_
  refine go_ialdN (j) dX9_goLives_35 rfl (by omega) rfl ?_
  refine go_bipush (v := 46) dX9_goLives_36 (by decide) ?_
  refine go_icmp_ne (tgt := 55) dX9_goLives_38 (by decide) (fun q38 => ?_) (fun zq => absurd zq (let_ne hl))
  refine go_aload_n dX9_goLives_55 rfl ?_
  refine go_get dX9_goLives_56 fX9_25 rfl rfl ?_
  refine go_iload_n dX9_goLives_59 rfl ?_
  refine go_ialdN (j) dX9_goLives_60 rfl (by omega) rfl ?_
  refine go_bipush (v := 65) dX9_goLives_61 (by decide) ?_
  refine go_isub dX9_goLives_63 ?_
  refine go_topi_eq (x := nI p) ep ?_
  refine go_istore_n (L' := [_, _, _, _, _]) dX9_goLives_64 rfl rfl rfl ?_
  refine go_aload_n dX9_goLives_65 rfl ?_
  refine go_get dX9_goLives_66 fX9_25 rfl rfl ?_
  refine go_iload_n dX9_goLives_69 rfl ?_
  refine go_iconst (v := 1) dX9_goLives_70 (by decide) ?_
  refine go_iadd dX9_goLives_71 ?_
  refine go_topi_eq (x := nI (j + 1)) (nI_1 j) ?_
  refine go_ialdN (j + 1) dX9_goLives_72 rfl (by omega) rfl ?_
  refine go_topi_eq (x := 33) hS ?_
  refine go_istore (L' := [_, _, _, _, _]) dX9_goLives_73 rfl rfl rfl ?_
  refine go_iload dX9_goLives_75 rfl ?_
  refine go_cS (as := [_]) dX9_goLives_77 mX9_isDigit kX9_74 tX9_isDigit rfl rfl (rX9_isDigit) rfl rfl rfl ?_
  refine go_be_f (tgt := 103) dX9_goLives_80 (by decide) rfl ?_
  refine go_iload dX9_goLives_103 rfl ?_
  refine go_bipush (v := 33) dX9_goLives_105 (by decide) ?_
  refine go_icmp_ne (tgt := 136) dX9_goLives_107 (by decide) (fun zq => absurd rfl zq) (fun q107 => ?_)
  refine go_aload_n dX9_goLives_110 rfl ?_
  refine go_aload_n dX9_goLives_111 rfl ?_
  refine go_iload_n dX9_goLives_112 rfl ?_
  refine go_aload_n dX9_goLives_113 rfl ?_
  refine go_get dX9_goLives_114 fX9_25 rfl rfl ?_
  refine go_iload_n dX9_goLives_117 rfl ?_
  refine go_iconst (v := 2) dX9_goLives_118 (by decide) ?_
  refine go_iadd dX9_goLives_119 ?_
  refine go_topi_eq (x := nI (j + 2)) (nI_add j 2) ?_
  refine go_ialdN (j + 2) dX9_goLives_120 rfl (by omega) rfl ?_
  refine go_bipush (v := 48) dX9_goLives_121 (by decide) ?_
  refine go_isub dX9_goLives_123 ?_
  refine go_topi_eq (x := nI g) eg ?_
  refine go_cV (as := [_, _]) dX9_goLives_124 mX9_forge kX9_119 iX9_forge sX9_forge rfl rfl rfl rfl (hR) rfl rfl rfl ?_
  refine go_put dX9_goLives_127 fX9_112 (fun _ => rfl) (fun _ => rfl) rfl rfl ?_
  refine go_iinc (v := nI (j + 3)) (L' := [_, _, _, _, _]) dX9_goLives_130 rfl (nI_add j 3) rfl rfl rfl ?_
  refine go_goto (tgt := 194) dX9_goLives_133 (by decide) ?_
  exact kk _ _
set_option maxRecDepth 100000 in
set_option maxHeartbeats 4000000 in
theorem gl_blot {E : gE} {d : Nat} {nw i0 i1 : WorldS} {pd : PadS} {lv : LivesS} {pl : PlanS} {mt : MatS} {nt : NetS} {m : ModS} {c j : Nat} {nr : Nat → Int32} {sg fo rs mn br v : Int32} {M1 : ModS} {a2 a3 a4 : Option Value} {Q : Option Value → gH → Prop} (hc : c ≤ 60) (hj : j + 1 < c) {p : Nat} (hl : letB (m_pad m j) = true) (hS : m_pad m (j + 1) = 42) (ep : m_pad m j - 65 = nI p) (hR : Ret E yX9_blot cX9_blot 2 (some .int) (d + 2) 0 0 [.ref 52, .int (nI p)] (hp nw i0 i1 pd lv pl mt nt (mG (s_said m (nI c)) nr sg fo rs mn br)) (dt (some (.int v)) (hp nw i0 i1 pd lv pl mt nt M1))) (kk : ∀ b3 b4 : Option Value, Go E yX9_goLives cX9_goLives 5 (some .int) (d + 3) 0 0 0 0 194 [some (.ref 52), some (.int (nI (j + 2))), some (.int (orB (someB (m_there m) nr) 6)), b3, b4] [] (hp nw i0 i1 pd lv pl mt nt (s_reason M1 v)) Q) : Go E yX9_goLives cX9_goLives 5 (some .int) (d + 3) 0 0 0 0 17 [some (.ref 52), some (.int (nI j)), a2, a3, a4] [] (hp nw i0 i1 pd lv pl mt nt (mG (s_said m (nI c)) nr sg fo rs mn br)) Q := by
  refine go_iload_n dX9_goLives_17 rfl ?_
  refine go_aload_n dX9_goLives_18 rfl ?_
  refine go_get dX9_goLives_19 fX9_68 rfl rfl ?_
  refine go_icmp_ge (tgt := 252) dX9_goLives_22 (by decide) (fun zq => absurd zq (nI_ge (a := j) (b := c) (by omega) (by omega))) (fun q22 => ?_)
  refine go_aload_n dX9_goLives_25 rfl ?_
  refine go_cV (as := []) dX9_goLives_26 mX9_some kX9_106 iX9_some sX9_some rfl rfl rfl rfl (rX9_some) rfl rfl rfl ?_
  refine go_istore_n (L' := [_, _, _, _, _]) dX9_goLives_29 rfl rfl rfl ?_
  refine go_aload_n dX9_goLives_30 rfl ?_
  refine go_get dX9_goLives_31 fX9_25 rfl rfl ?_
  refine go_iload_n dX9_goLives_34 rfl ?_
  refine go_ialdN (j) dX9_goLives_35 rfl (by omega) rfl ?_
  refine go_bipush (v := 46) dX9_goLives_36 (by decide) ?_
  refine go_icmp_ne (tgt := 55) dX9_goLives_38 (by decide) (fun q38 => ?_) (fun zq => absurd zq (let_ne hl))
  refine go_aload_n dX9_goLives_55 rfl ?_
  refine go_get dX9_goLives_56 fX9_25 rfl rfl ?_
  refine go_iload_n dX9_goLives_59 rfl ?_
  refine go_ialdN (j) dX9_goLives_60 rfl (by omega) rfl ?_
  refine go_bipush (v := 65) dX9_goLives_61 (by decide) ?_
  refine go_isub dX9_goLives_63 ?_
  refine go_topi_eq (x := nI p) ep ?_
  refine go_istore_n (L' := [_, _, _, _, _]) dX9_goLives_64 rfl rfl rfl ?_
  refine go_aload_n dX9_goLives_65 rfl ?_
  refine go_get dX9_goLives_66 fX9_25 rfl rfl ?_
  refine go_iload_n dX9_goLives_69 rfl ?_
  refine go_iconst (v := 1) dX9_goLives_70 (by decide) ?_
  refine go_iadd dX9_goLives_71 ?_
  refine go_topi_eq (x := nI (j + 1)) (nI_1 j) ?_
  refine go_ialdN (j + 1) dX9_goLives_72 rfl (by omega) rfl ?_
  refine go_topi_eq (x := 42) hS ?_
  refine go_istore (L' := [_, _, _, _, _]) dX9_goLives_73 rfl rfl rfl ?_
  refine go_iload dX9_goLives_75 rfl ?_
  refine go_cS (as := [_]) dX9_goLives_77 mX9_isDigit kX9_74 tX9_isDigit rfl rfl (rX9_isDigit) rfl rfl rfl ?_
  refine go_be_f (tgt := 103) dX9_goLives_80 (by decide) rfl ?_
  refine go_iload dX9_goLives_103 rfl ?_
  refine go_bipush (v := 33) dX9_goLives_105 (by decide) ?_
  refine go_icmp_ne (tgt := 136) dX9_goLives_107 (by decide) (fun q107 => ?_) (fun zq => absurd zq (by decide))
  refine go_iload dX9_goLives_136 rfl ?_
  refine go_bipush (v := 42) dX9_goLives_138 (by decide) ?_
  refine go_icmp_ne (tgt := 158) dX9_goLives_140 (by decide) (fun zq => absurd rfl zq) (fun q140 => ?_)
  refine go_aload_n dX9_goLives_143 rfl ?_
  refine go_aload_n dX9_goLives_144 rfl ?_
  refine go_iload_n dX9_goLives_145 rfl ?_
  refine go_cV (as := [_]) dX9_goLives_146 mX9_blot kX9_122 iX9_blot sX9_blot rfl rfl rfl rfl (hR) rfl rfl rfl ?_
  refine go_put dX9_goLives_149 fX9_112 (fun _ => rfl) (fun _ => rfl) rfl rfl ?_
  refine go_iinc (v := nI (j + 2)) (L' := [_, _, _, _, _]) dX9_goLives_152 rfl (nI_add j 2) rfl rfl rfl ?_
  refine go_goto (tgt := 194) dX9_goLives_155 (by decide) ?_
  exact kk _ _
set_option maxRecDepth 100000 in
set_option maxHeartbeats 4000000 in
theorem gl_hand {E : gE} {d : Nat} {nw i0 i1 : WorldS} {pd : PadS} {lv : LivesS} {pl : PlanS} {mt : MatS} {nt : NetS} {m : ModS} {c j : Nat} {nr : Nat → Int32} {sg fo rs mn br v : Int32} {M1 : ModS} {a2 a3 a4 : Option Value} {Q : Option Value → gH → Prop} (hc : c ≤ 60) (hj : j + 3 < c) {p g b : Nat} {k : Int32} (k1 : digB k = false) (k2 : ¬ k = 33) (k3 : ¬ k = 42) (hl : letB (m_pad m j) = true) (hS : m_pad m (j + 1) = k) (ep : m_pad m j - 65 = nI p) (eg : m_pad m (j + 2) - 48 = nI g) (eb : m_pad m (j + 3) - 65 = nI b) (hR : Ret E yX9_hand cX9_hand 8 (some .int) (d + 2) 0 0 [.ref 52, .int (nI p), .int k, .int (nI g), .int (nI b)] (hp nw i0 i1 pd lv pl mt nt (mG (s_said m (nI c)) nr sg fo rs mn br)) (dt (some (.int v)) (hp nw i0 i1 pd lv pl mt nt M1))) (kk : ∀ b3 b4 : Option Value, Go E yX9_goLives cX9_goLives 5 (some .int) (d + 3) 0 0 0 0 194 [some (.ref 52), some (.int (nI (j + 4))), some (.int (orB (someB (m_there m) nr) 6)), b3, b4] [] (hp nw i0 i1 pd lv pl mt nt (s_reason M1 v)) Q) : Go E yX9_goLives cX9_goLives 5 (some .int) (d + 3) 0 0 0 0 17 [some (.ref 52), some (.int (nI j)), a2, a3, a4] [] (hp nw i0 i1 pd lv pl mt nt (mG (s_said m (nI c)) nr sg fo rs mn br)) Q := by
  refine go_iload_n dX9_goLives_17 rfl ?_
  refine go_aload_n dX9_goLives_18 rfl ?_
  refine go_get dX9_goLives_19 fX9_68 rfl rfl ?_
  refine go_icmp_ge (tgt := 252) dX9_goLives_22 (by decide) (fun zq => absurd zq (nI_ge (a := j) (b := c) (by omega) (by omega))) (fun q22 => ?_)
  refine go_aload_n dX9_goLives_25 rfl ?_
  refine go_cV (as := []) dX9_goLives_26 mX9_some kX9_106 iX9_some sX9_some rfl rfl rfl rfl (rX9_some) rfl rfl rfl ?_
  refine go_istore_n (L' := [_, _, _, _, _]) dX9_goLives_29 rfl rfl rfl ?_
  refine go_aload_n dX9_goLives_30 rfl ?_
  refine go_get dX9_goLives_31 fX9_25 rfl rfl ?_
  refine go_iload_n dX9_goLives_34 rfl ?_
  refine go_ialdN (j) dX9_goLives_35 rfl (by omega) rfl ?_
  refine go_bipush (v := 46) dX9_goLives_36 (by decide) ?_
  refine go_icmp_ne (tgt := 55) dX9_goLives_38 (by decide) (fun q38 => ?_) (fun zq => absurd zq (let_ne hl))
  refine go_aload_n dX9_goLives_55 rfl ?_
  refine go_get dX9_goLives_56 fX9_25 rfl rfl ?_
  refine go_iload_n dX9_goLives_59 rfl ?_
  refine go_ialdN (j) dX9_goLives_60 rfl (by omega) rfl ?_
  refine go_bipush (v := 65) dX9_goLives_61 (by decide) ?_
  refine go_isub dX9_goLives_63 ?_
  refine go_topi_eq (x := nI p) ep ?_
  refine go_istore_n (L' := [_, _, _, _, _]) dX9_goLives_64 rfl rfl rfl ?_
  refine go_aload_n dX9_goLives_65 rfl ?_
  refine go_get dX9_goLives_66 fX9_25 rfl rfl ?_
  refine go_iload_n dX9_goLives_69 rfl ?_
  refine go_iconst (v := 1) dX9_goLives_70 (by decide) ?_
  refine go_iadd dX9_goLives_71 ?_
  refine go_topi_eq (x := nI (j + 1)) (nI_1 j) ?_
  refine go_ialdN (j + 1) dX9_goLives_72 rfl (by omega) rfl ?_
  refine go_topi_eq (x := k) hS ?_
  refine go_istore (L' := [_, _, _, _, _]) dX9_goLives_73 rfl rfl rfl ?_
  refine go_iload dX9_goLives_75 rfl ?_
  refine go_cS (as := [_]) dX9_goLives_77 mX9_isDigit kX9_74 tX9_isDigit rfl rfl (rX9_isDigit) rfl rfl rfl ?_
  refine go_be_f (tgt := 103) dX9_goLives_80 (by decide) k1 ?_
  refine go_iload dX9_goLives_103 rfl ?_
  refine go_bipush (v := 33) dX9_goLives_105 (by decide) ?_
  refine go_icmp_ne (tgt := 136) dX9_goLives_107 (by decide) (fun q107 => ?_) (fun zq => absurd zq k2)
  refine go_iload dX9_goLives_136 rfl ?_
  refine go_bipush (v := 42) dX9_goLives_138 (by decide) ?_
  refine go_icmp_ne (tgt := 158) dX9_goLives_140 (by decide) (fun q140 => ?_) (fun zq => absurd zq k3)
  refine go_aload_n dX9_goLives_158 rfl ?_
  refine go_aload_n dX9_goLives_159 rfl ?_
  refine go_iload_n dX9_goLives_160 rfl ?_
  refine go_iload dX9_goLives_161 rfl ?_
  refine go_aload_n dX9_goLives_163 rfl ?_
  refine go_get dX9_goLives_164 fX9_25 rfl rfl ?_
  refine go_iload_n dX9_goLives_167 rfl ?_
  refine go_iconst (v := 2) dX9_goLives_168 (by decide) ?_
  refine go_iadd dX9_goLives_169 ?_
  refine go_topi_eq (x := nI (j + 2)) (nI_add j 2) ?_
  refine go_ialdN (j + 2) dX9_goLives_170 rfl (by omega) rfl ?_
  refine go_bipush (v := 48) dX9_goLives_171 (by decide) ?_
  refine go_isub dX9_goLives_173 ?_
  refine go_topi_eq (x := nI g) eg ?_
  refine go_aload_n dX9_goLives_174 rfl ?_
  refine go_get dX9_goLives_175 fX9_25 rfl rfl ?_
  refine go_iload_n dX9_goLives_178 rfl ?_
  refine go_iconst (v := 3) dX9_goLives_179 (by decide) ?_
  refine go_iadd dX9_goLives_180 ?_
  refine go_topi_eq (x := nI (j + 3)) (nI_add j 3) ?_
  refine go_ialdN (j + 3) dX9_goLives_181 rfl (by omega) rfl ?_
  refine go_bipush (v := 65) dX9_goLives_182 (by decide) ?_
  refine go_isub dX9_goLives_184 ?_
  refine go_topi_eq (x := nI b) eb ?_
  refine go_cV (as := [_, _, _, _]) dX9_goLives_185 mX9_hand kX9_125 iX9_hand sX9_hand rfl rfl rfl rfl (hR) rfl rfl rfl ?_
  refine go_put dX9_goLives_188 fX9_112 (fun _ => rfl) (fun _ => rfl) rfl rfl ?_
  refine go_iinc (v := nI (j + 4)) (L' := [_, _, _, _, _]) dX9_goLives_191 rfl (nI_add j 4) rfl rfl rfl ?_
  exact kk _ _
set_option maxRecDepth 100000 in
set_option maxHeartbeats 4000000 in
theorem gl_stop {E : gE} {d : Nat} {nw i0 i1 : WorldS} {pd : PadS} {lv : LivesS} {pl : PlanS} {mt : MatS} {nt : NetS} {m : ModS} {v x i : Int32} {M1 : ModS} {a3 a4 : Option Value} {Q : Option Value → gH → Prop} (h : ¬ v ≤ 0) (kk : Q (some (.int (m_many M1))) (hp nw i0 i1 pd lv pl mt nt (s_reason M1 v))) : Go E yX9_goLives cX9_goLives 5 (some .int) (d + 3) 0 0 0 0 194 [some (.ref 52), some (.int i), some (.int x), a3, a4] [] (hp nw i0 i1 pd lv pl mt nt (s_reason M1 v)) Q := by
  refine go_aload_n dX9_goLives_194 rfl ?_
  refine go_get dX9_goLives_195 fX9_112 rfl rfl ?_
  refine go_if_le (tgt := 206) dX9_goLives_198 (by decide) (fun zq => absurd zq h) (fun q198 => ?_)
  refine go_aload_n dX9_goLives_201 rfl ?_
  refine go_get dX9_goLives_202 fX9_100 rfl rfl ?_
  refine go_iret dX9_goLives_205 rfl rfl ?_
  exact kk
def glB (M1 : ModS) (x : Int32) : Int32 := if 0 ≤ m_bare M1 then m_bare M1 else if x &&& (orB (someB (m_there M1) (m_now M1)) 6 ^^^ (-1)) = 0 then m_bare M1 else m_many M1
set_option maxRecDepth 100000 in
set_option maxHeartbeats 4000000 in
theorem gl_on {E : gE} {d : Nat} {nw i0 i1 : WorldS} {pd : PadS} {lv : LivesS} {pl : PlanS} {mt : MatS} {nt : NetS} {m : ModS} {v x i : Int32} {M1 : ModS} {a3 a4 : Option Value} {Q : Option Value → gH → Prop} (h : v ≤ 0) (kk : Go E yX9_goLives cX9_goLives 5 (some .int) (d + 3) 0 0 0 0 17 [some (.ref 52), some (.int i), some (.int x), a3, a4] [] (hp nw i0 i1 pd lv pl mt nt (s_many (s_bare (s_reason M1 v) (glB M1 x)) (m_many M1 + 1))) Q) : Go E yX9_goLives cX9_goLives 5 (some .int) (d + 3) 0 0 0 0 194 [some (.ref 52), some (.int i), some (.int x), a3, a4] [] (hp nw i0 i1 pd lv pl mt nt (s_reason M1 v)) Q := by
  refine go_aload_n dX9_goLives_194 rfl ?_
  refine go_get dX9_goLives_195 fX9_112 rfl rfl ?_
  refine go_if_le (tgt := 206) dX9_goLives_198 (by decide) (fun q198 => ?_) (fun zq => absurd h zq)
  refine go_aload_n dX9_goLives_206 rfl ?_
  refine go_aload_n dX9_goLives_207 rfl ?_
  refine go_get dX9_goLives_208 fX9_103 rfl rfl ?_
  refine go_if_ge (tgt := 232) dX9_goLives_211 (by decide) (fun q211 => ?_) (fun q211 => ?_)
  · refine go_aload_n dX9_goLives_232 rfl ?_
    refine go_get dX9_goLives_233 fX9_103 rfl rfl ?_
    refine go_put dX9_goLives_236 fX9_103 (fun _ => rfl) (fun _ => rfl) rfl rfl ?_
    refine go_aload_n dX9_goLives_239 rfl ?_
    refine go_dup dX9_goLives_240 rfl ?_
    refine go_get dX9_goLives_241 fX9_100 rfl rfl ?_
    refine go_iconst (v := 1) dX9_goLives_244 (by decide) ?_
    refine go_iadd dX9_goLives_245 ?_
    refine go_put dX9_goLives_246 fX9_100 (fun _ => rfl) (fun _ => rfl) rfl rfl ?_
    refine go_goto (tgt := 17) dX9_goLives_249 (by decide) ?_
    (rw [glB, if_pos q211] at kk; exact kk)
  · refine go_iload_n dX9_goLives_214 rfl ?_
    refine go_aload_n dX9_goLives_215 rfl ?_
    refine go_cV (as := []) dX9_goLives_216 mX9_some kX9_106 iX9_some sX9_some rfl rfl rfl rfl (rX9_some) rfl rfl rfl ?_
    refine go_iconst (v := (-1)) dX9_goLives_219 (by decide) ?_
    refine go_ixor dX9_goLives_220 ?_
    refine go_iand dX9_goLives_221 ?_
    refine go_if_eq (tgt := 232) dX9_goLives_222 (by decide) (fun q222 => ?_) (fun q222 => ?_)
    · refine go_aload_n dX9_goLives_232 rfl ?_
      refine go_get dX9_goLives_233 fX9_103 rfl rfl ?_
      refine go_put dX9_goLives_236 fX9_103 (fun _ => rfl) (fun _ => rfl) rfl rfl ?_
      refine go_aload_n dX9_goLives_239 rfl ?_
      refine go_dup dX9_goLives_240 rfl ?_
      refine go_get dX9_goLives_241 fX9_100 rfl rfl ?_
      refine go_iconst (v := 1) dX9_goLives_244 (by decide) ?_
      refine go_iadd dX9_goLives_245 ?_
      refine go_put dX9_goLives_246 fX9_100 (fun _ => rfl) (fun _ => rfl) rfl rfl ?_
      refine go_goto (tgt := 17) dX9_goLives_249 (by decide) ?_
      (rw [glB, if_neg q211, if_pos q222] at kk; exact kk)
    · refine go_aload_n dX9_goLives_225 rfl ?_
      refine go_get dX9_goLives_226 fX9_100 rfl rfl ?_
      refine go_goto (tgt := 236) dX9_goLives_229 (by decide) ?_
      refine go_put dX9_goLives_236 fX9_103 (fun _ => rfl) (fun _ => rfl) rfl rfl ?_
      refine go_aload_n dX9_goLives_239 rfl ?_
      refine go_dup dX9_goLives_240 rfl ?_
      refine go_get dX9_goLives_241 fX9_100 rfl rfl ?_
      refine go_iconst (v := 1) dX9_goLives_244 (by decide) ?_
      refine go_iadd dX9_goLives_245 ?_
      refine go_put dX9_goLives_246 fX9_100 (fun _ => rfl) (fun _ => rfl) rfl rfl ?_
      refine go_goto (tgt := 17) dX9_goLives_249 (by decide) ?_
      (rw [glB, if_neg q211, if_neg q222] at kk; exact kk)
set_option maxRecDepth 100000 in
set_option maxHeartbeats 4000000 in
theorem gl_end {E : gE} {d : Nat} {nw i0 i1 : WorldS} {pd : PadS} {lv : LivesS} {pl : PlanS} {mt : MatS} {nt : NetS} {m : ModS} {c j : Nat} {nr : Nat → Int32} {sg fo rs mn br : Int32} {a2 a3 a4 : Option Value} {Q : Option Value → gH → Prop} (hc : c ≤ 60) (hj : c ≤ j) (hj2 : j ≤ 70) (kk : Q (some (.int (-6))) (hp nw i0 i1 pd lv pl mt nt (mG (s_said m (nI c)) nr sg fo rs mn br))) : Go E yX9_goLives cX9_goLives 5 (some .int) (d + 3) 0 0 0 0 17 [some (.ref 52), some (.int (nI j)), a2, a3, a4] [] (hp nw i0 i1 pd lv pl mt nt (mG (s_said m (nI c)) nr sg fo rs mn br)) Q := by
  refine go_iload_n dX9_goLives_17 rfl ?_
  refine go_aload_n dX9_goLives_18 rfl ?_
  refine go_get dX9_goLives_19 fX9_68 rfl rfl ?_
  refine go_icmp_ge (tgt := 252) dX9_goLives_22 (by decide) (fun q22 => ?_) (fun zq => absurd (nI_le (a := c) (b := j) (by omega) (by omega)) zq)
  refine go_bipush (v := (-6)) dX9_goLives_252 (by decide) ?_
  refine go_iret dX9_goLives_254 rfl rfl ?_
  exact kk
