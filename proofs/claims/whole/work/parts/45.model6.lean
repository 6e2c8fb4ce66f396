def mk2 (a b : Int64) : Int64 := if lg_cmp a b ≤ 0 then b else a
def bvA (V : Nat → Int64) (all : Int64) (i w : Nat) : Nat → Int64
  | 0 => -1
  | p + 1 => (nI w).toInt64 * pwL all i + V (11 * p + i)
def bvF (W : Nat → Int32) (V : Nat → Int64) (all : Int64) (i n : Nat) (k : Nat) : Int64 := (W (k + 1)).toInt64 * mk2 (bvA V all i (k + 1) n) (V (11 * n + i))
def lbN (W : Nat → Int32) (all : Int64) (i : Nat) (V : Nat → Int64) : Nat → (Nat → Int64)
  | 0 => V
  | n + 1 => vp_updL (lbN W all i V n) (11 * n + (i + 1)) (sumL (bvF W (lbN W all i V n) all i n) 9)
def lb0 (V : Nat → Int64) : Nat → (Nat → Int64)
  | 0 => V
  | n + 1 => vp_updL (lb0 V n) (11 * n) 0
def lbM (W : Nat → Int32) (all : Int64) (V : Nat → Int64) : Nat → (Nat → Int64)
  | 0 => lb0 V 10
  | i + 1 => lbN W all i (lbM W all V i) 10
theorem mk2_le {a b : Int64} (h : lg_cmp a b ≤ 0) : mk2 a b = b := if_pos h
theorem mk2_gt {a b : Int64} (h : ¬ lg_cmp a b ≤ 0) : mk2 a b = a := if_neg h
theorem nb1 (p i : Nat) : (11 : Int32) * (nI (p + 1) - 1) + nI (i + 1) - 1 = nI (11 * p + i) := by
  rw [show nI (p + 1) - 1 = nI p from nI_pred p, show (11 : Int32) = nI 11 from rfl, pk_mul, nI_add, ← Nat.add_assoc]
  exact nI_pred _
theorem nb2 (n i : Nat) : (11 : Int32) * nI n + nI (i + 1) - 1 = nI (11 * n + i) := by
  rw [show (11 : Int32) = nI 11 from rfl, pk_mul, nI_add, ← Nat.add_assoc]
  exact nI_pred _
theorem nb3 (n i : Nat) : (11 : Int32) * nI n + nI i = nI (11 * n + i) := by
  rw [show (11 : Int32) = nI 11 from rfl, pk_mul, nI_add]
theorem nI_nz9 {p : Nat} (h : p < 1000) : ¬ nI (p + 1) = 0 := by
  intro z
  have e := congrArg Int32.toInt z
  rw [nI_toInt (by omega)] at e
  have e0 : (0 : Int32).toInt = 0 := rfl
  rw [e0] at e
  omega
theorem nb4 (n : Nat) : (11 : Int32) * nI n = nI (11 * n) := by
  rw [show (11 : Int32) = nI 11 from rfl, pk_mul]
set_option maxRecDepth 100000 in
set_option maxHeartbeats 4000000 in
theorem lb_w0 {E : gE} {d : Nat} {nw i0 i1 : WorldS} {pd : PadS} {lv : LivesS} {pl : PlanS} {mt : MatS} {nt : NetS} {m : ModS} {V : Nat → Int64} {all : Int64} {Q : Option Value → gH → Prop} {i : Nat} (hi : i < 8) (kk : ∀ (a8 a9 a10 a11 : Option Value), Go E yX9_layBest cX9_layBest 12 none (d + 1) 0 0 0 0 153 [some (.ref 52), some (.long all), none, some (.int (nI (i + 1))), some (.int (nI 0)), some (.long (sumL (bvF (m_weight m) V all i 0) 9)), none, some (.int (nI 10)), a8, a9, a10, a11] [] (hp nw i0 i1 pd lv pl mt nt (s_best m V)) Q) : ∀ (n k : Nat) (acc : Int64), k + n = 9 → acc = sumL (bvF (m_weight m) V all i 0) k → ∀ (a8 a9 a10 a11 : Option Value), Go E yX9_layBest cX9_layBest 12 none (d + 1) 0 0 0 0 54 [some (.ref 52), some (.long all), none, some (.int (nI (i + 1))), some (.int (nI 0)), some (.long acc), none, some (.int (nI (k + 1))), a8, a9, a10, a11] [] (hp nw i0 i1 pd lv pl mt nt (s_best m V)) Q
  | 0, k, acc, hk, ha, a8, a9, a10, a11 => by
    obtain rfl : k = 9 := by omega
    subst ha
    refine go_iload dX9_layBest_54 rfl ?_
    refine go_bipush (v := 10) dX9_layBest_56 (by decide) ?_
    refine go_icmp_ge (tgt := 153) dX9_layBest_58 (by decide) (fun q58 => ?_) (fun zq => absurd (nI_le (a := 10) (b := 10) (by decide) (by decide)) zq)
    exact kk _ _ _ _
  | n + 1, k, acc, hk, ha, a8, a9, a10, a11 => by
    refine go_iload dX9_layBest_54 rfl ?_
    refine go_bipush (v := 10) dX9_layBest_56 (by decide) ?_
    refine go_icmp_ge (tgt := 153) dX9_layBest_58 (by decide) (fun zq => absurd zq (nI_ge (a := k + 1) (b := 10) (by omega) (by decide))) (fun q58 => ?_)
    refine go_iload dX9_layBest_61 rfl ?_
    refine go_if_ne (tgt := 72) dX9_layBest_63 (by decide) (fun zq => absurd rfl zq) (fun q63 => ?_)
    refine go_ldc2_w dX9_layBest_66 nX9_138 ?_
    refine go_goto (tgt := 100) dX9_layBest_69 (by decide) ?_
    refine go_lstore (L' := [_, _, _, _, _, _, _, _, _, _, _, _]) dX9_layBest_100 rfl rfl rfl ?_
    refine go_aload_n dX9_layBest_102 rfl ?_
    refine go_get dX9_layBest_103 fX9_28 rfl rfl ?_
    refine go_bipush (v := 11) dX9_layBest_106 (by decide) ?_
    refine go_iload dX9_layBest_108 rfl ?_
    refine go_imul dX9_layBest_110 ?_
    refine go_iload_n dX9_layBest_111 rfl ?_
    refine go_iadd dX9_layBest_112 ?_
    refine go_iconst (v := 1) dX9_layBest_113 (by decide) ?_
    refine go_isub dX9_layBest_114 ?_
    refine go_topi_eq (nb2 0 i) ?_
    refine go_laldN (11 * 0 + i) dX9_layBest_115 rfl (by omega) rfl ?_
    refine go_lstore (L' := [_, _, _, _, _, _, _, _, _, _, _, _]) dX9_layBest_116 rfl rfl rfl ?_
    refine go_lload dX9_layBest_118 rfl ?_
    refine go_aload_n dX9_layBest_120 rfl ?_
    refine go_get dX9_layBest_121 fX9_19 rfl rfl ?_
    refine go_iload dX9_layBest_124 rfl ?_
    refine go_ialdN (k + 1) dX9_layBest_126 rfl (by omega) rfl ?_
    refine go_i2l dX9_layBest_127 ?_
    refine go_lload dX9_layBest_128 rfl ?_
    refine go_lload dX9_layBest_130 rfl ?_
    refine go_lcmp dX9_layBest_132 ?_
    refine go_if_le (tgt := 141) dX9_layBest_133 (by decide) (fun q133 => ?_) (fun q133 => ?_)
    · refine go_lload dX9_layBest_141 rfl ?_
      refine go_lmul dX9_layBest_143 ?_
      refine go_ladd dX9_layBest_144 ?_
      refine go_lstore (L' := [_, _, _, _, _, _, _, _, _, _, _, _]) dX9_layBest_145 rfl rfl rfl ?_
      refine go_iinc (v := nI (k + 1 + 1)) (L' := [_, _, _, _, _, _, _, _, _, _, _, _]) dX9_layBest_147 rfl (nI_1 (k + 1)) rfl rfl rfl ?_
      refine go_goto (tgt := 54) dX9_layBest_150 (by decide) ?_
      exact lb_w0 hi kk n (k + 1) _ (by omega) (by rw [ha]; exact congrArg (fun z => sumL (bvF (m_weight m) V all i 0) k + (m_weight m (k + 1)).toInt64 * z) (mk2_le q133).symm) _ _ _ _
    · refine go_lload dX9_layBest_136 rfl ?_
      refine go_goto (tgt := 143) dX9_layBest_138 (by decide) ?_
      refine go_lmul dX9_layBest_143 ?_
      refine go_ladd dX9_layBest_144 ?_
      refine go_lstore (L' := [_, _, _, _, _, _, _, _, _, _, _, _]) dX9_layBest_145 rfl rfl rfl ?_
      refine go_iinc (v := nI (k + 1 + 1)) (L' := [_, _, _, _, _, _, _, _, _, _, _, _]) dX9_layBest_147 rfl (nI_1 (k + 1)) rfl rfl rfl ?_
      refine go_goto (tgt := 54) dX9_layBest_150 (by decide) ?_
      exact lb_w0 hi kk n (k + 1) _ (by omega) (by rw [ha]; exact congrArg (fun z => sumL (bvF (m_weight m) V all i 0) k + (m_weight m (k + 1)).toInt64 * z) (mk2_gt q133).symm) _ _ _ _
set_option maxRecDepth 100000 in
set_option maxHeartbeats 4000000 in
theorem lb_w1 {E : gE} {d : Nat} {nw i0 i1 : WorldS} {pd : PadS} {lv : LivesS} {pl : PlanS} {mt : MatS} {nt : NetS} {m : ModS} {V : Nat → Int64} {all : Int64} {Q : Option Value → gH → Prop} {i : Nat} {p : Nat} (hp9 : p < 9) (hi : i < 8) (kk : ∀ (a8 a9 a10 a11 : Option Value), Go E yX9_layBest cX9_layBest 12 none (d + 1) 0 0 0 0 153 [some (.ref 52), some (.long all), none, some (.int (nI (i + 1))), some (.int (nI (p + 1))), some (.long (sumL (bvF (m_weight m) V all i (p + 1)) 9)), none, some (.int (nI 10)), a8, a9, a10, a11] [] (hp nw i0 i1 pd lv pl mt nt (s_best m V)) Q) : ∀ (n k : Nat) (acc : Int64), k + n = 9 → acc = sumL (bvF (m_weight m) V all i (p + 1)) k → ∀ (a8 a9 a10 a11 : Option Value), Go E yX9_layBest cX9_layBest 12 none (d + 1) 0 0 0 0 54 [some (.ref 52), some (.long all), none, some (.int (nI (i + 1))), some (.int (nI (p + 1))), some (.long acc), none, some (.int (nI (k + 1))), a8, a9, a10, a11] [] (hp nw i0 i1 pd lv pl mt nt (s_best m V)) Q
  | 0, k, acc, hk, ha, a8, a9, a10, a11 => by
    obtain rfl : k = 9 := by omega
    subst ha
    refine go_iload dX9_layBest_54 rfl ?_
    refine go_bipush (v := 10) dX9_layBest_56 (by decide) ?_
    refine go_icmp_ge (tgt := 153) dX9_layBest_58 (by decide) (fun q58 => ?_) (fun zq => absurd (nI_le (a := 10) (b := 10) (by decide) (by decide)) zq)
    exact kk _ _ _ _
  | n + 1, k, acc, hk, ha, a8, a9, a10, a11 => by
    refine go_iload dX9_layBest_54 rfl ?_
    refine go_bipush (v := 10) dX9_layBest_56 (by decide) ?_
    refine go_icmp_ge (tgt := 153) dX9_layBest_58 (by decide) (fun zq => absurd zq (nI_ge (a := k + 1) (b := 10) (by omega) (by decide))) (fun q58 => ?_)
    refine go_iload dX9_layBest_61 rfl ?_
    refine go_if_ne (tgt := 72) dX9_layBest_63 (by decide) (fun q63 => ?_) (fun zq => absurd zq (nI_nz9 (by omega)))
    refine go_iload dX9_layBest_72 rfl ?_
    refine go_i2l dX9_layBest_74 ?_
    refine go_lload_n dX9_layBest_75 rfl ?_
    refine go_iload_n dX9_layBest_76 rfl ?_
    refine go_iconst (v := 1) dX9_layBest_77 (by decide) ?_
    refine go_isub dX9_layBest_78 ?_
    refine go_topi_eq (x := nI i) (nI_pred i) ?_
    refine go_cS (as := [_, _]) dX9_layBest_79 mX9_power kX9_140 tX9_power rfl rfl (rX9_power (n := i) (by omega)) rfl rfl rfl ?_
    refine go_lmul dX9_layBest_82 ?_
    refine go_aload_n dX9_layBest_83 rfl ?_
    refine go_get dX9_layBest_84 fX9_28 rfl rfl ?_
    refine go_bipush (v := 11) dX9_layBest_87 (by decide) ?_
    refine go_iload dX9_layBest_89 rfl ?_
    refine go_iconst (v := 1) dX9_layBest_91 (by decide) ?_
    refine go_isub dX9_layBest_92 ?_
    refine go_imul dX9_layBest_93 ?_
    refine go_iload_n dX9_layBest_94 rfl ?_
    refine go_iadd dX9_layBest_95 ?_
    refine go_iconst (v := 1) dX9_layBest_96 (by decide) ?_
    refine go_isub dX9_layBest_97 ?_
    refine go_topi_eq (nb1 p i) ?_
    refine go_laldN (11 * p + i) dX9_layBest_98 rfl (by omega) rfl ?_
    refine go_ladd dX9_layBest_99 ?_
    refine go_lstore (L' := [_, _, _, _, _, _, _, _, _, _, _, _]) dX9_layBest_100 rfl rfl rfl ?_
    refine go_aload_n dX9_layBest_102 rfl ?_
    refine go_get dX9_layBest_103 fX9_28 rfl rfl ?_
    refine go_bipush (v := 11) dX9_layBest_106 (by decide) ?_
    refine go_iload dX9_layBest_108 rfl ?_
    refine go_imul dX9_layBest_110 ?_
    refine go_iload_n dX9_layBest_111 rfl ?_
    refine go_iadd dX9_layBest_112 ?_
    refine go_iconst (v := 1) dX9_layBest_113 (by decide) ?_
    refine go_isub dX9_layBest_114 ?_
    refine go_topi_eq (nb2 (p + 1) i) ?_
    refine go_laldN (11 * (p + 1) + i) dX9_layBest_115 rfl (by omega) rfl ?_
    refine go_lstore (L' := [_, _, _, _, _, _, _, _, _, _, _, _]) dX9_layBest_116 rfl rfl rfl ?_
    refine go_lload dX9_layBest_118 rfl ?_
    refine go_aload_n dX9_layBest_120 rfl ?_
    refine go_get dX9_layBest_121 fX9_19 rfl rfl ?_
    refine go_iload dX9_layBest_124 rfl ?_
    refine go_ialdN (k + 1) dX9_layBest_126 rfl (by omega) rfl ?_
    refine go_i2l dX9_layBest_127 ?_
    refine go_lload dX9_layBest_128 rfl ?_
    refine go_lload dX9_layBest_130 rfl ?_
    refine go_lcmp dX9_layBest_132 ?_
    refine go_if_le (tgt := 141) dX9_layBest_133 (by decide) (fun q133 => ?_) (fun q133 => ?_)
    · refine go_lload dX9_layBest_141 rfl ?_
      refine go_lmul dX9_layBest_143 ?_
      refine go_ladd dX9_layBest_144 ?_
      refine go_lstore (L' := [_, _, _, _, _, _, _, _, _, _, _, _]) dX9_layBest_145 rfl rfl rfl ?_
      refine go_iinc (v := nI (k + 1 + 1)) (L' := [_, _, _, _, _, _, _, _, _, _, _, _]) dX9_layBest_147 rfl (nI_1 (k + 1)) rfl rfl rfl ?_
      refine go_goto (tgt := 54) dX9_layBest_150 (by decide) ?_
      exact lb_w1 hp9 hi kk n (k + 1) _ (by omega) (by rw [ha]; exact congrArg (fun z => sumL (bvF (m_weight m) V all i (p + 1)) k + (m_weight m (k + 1)).toInt64 * z) (mk2_le q133).symm) _ _ _ _
    · refine go_lload dX9_layBest_136 rfl ?_
      refine go_goto (tgt := 143) dX9_layBest_138 (by decide) ?_
      refine go_lmul dX9_layBest_143 ?_
      refine go_ladd dX9_layBest_144 ?_
      refine go_lstore (L' := [_, _, _, _, _, _, _, _, _, _, _, _]) dX9_layBest_145 rfl rfl rfl ?_
      refine go_iinc (v := nI (k + 1 + 1)) (L' := [_, _, _, _, _, _, _, _, _, _, _, _]) dX9_layBest_147 rfl (nI_1 (k + 1)) rfl rfl rfl ?_
      refine go_goto (tgt := 54) dX9_layBest_150 (by decide) ?_
      exact lb_w1 hp9 hi kk n (k + 1) _ (by omega) (by rw [ha]; exact congrArg (fun z => sumL (bvF (m_weight m) V all i (p + 1)) k + (m_weight m (k + 1)).toInt64 * z) (mk2_gt q133).symm) _ _ _ _
theorem lbN_s (W : Nat → Int32) (all : Int64) (i : Nat) (V : Nat → Int64) (n : Nat) : lbN W all i V (n + 1) = vp_updL (lbN W all i V n) (11 * n + (i + 1)) (sumL (bvF W (lbN W all i V n) all i n) 9) := by rw [lbN]
theorem lbM_s (W : Nat → Int32) (all : Int64) (V : Nat → Int64) (i : Nat) : lbM W all V (i + 1) = lbN W all i (lbM W all V i) 10 := by rw [lbM]
theorem lbM_0 (W : Nat → Int32) (all : Int64) (V : Nat → Int64) : lbM W all V 0 = lb0 V 10 := by rw [lbM]
theorem lb0_0 (V : Nat → Int64) : lb0 V 0 = V := by rw [lb0]
theorem lb0_s (V : Nat → Int64) (n : Nat) : lb0 V (n + 1) = vp_updL (lb0 V n) (11 * n) 0 := by rw [lb0]
theorem hs_best0 {nw i0 i1 : WorldS} {pd : PadS} {lv : LivesS} {pl : PlanS} {mt : MatS} {nt : NetS} {x0 : Nat → Int32} {x1 : Nat → Int32} {x2 : Int32} {x3 : Nat → Int32} {x4 : Nat → Int32} {x5 : Int32} {x6 : Nat → Int32} {x7 : Int32} {x8 : Nat → Int32} {x9 : Int32} {x10 : Int32} {x11 : Int32} {x12 : Int32} {x13 : Int32} {x15 : Nat → Int32} {x16 : Nat → Int32} {x17 : Nat → Int32} {x18 : Int32} {x19 : Int32} {x20 : Nat → Int32} {x21 : Nat → Int32} {V V2 : Nat → Int64} : hs (hp nw i0 i1 pd lv pl mt nt (x0, x1, x2, x3, x4, x5, x6, x7, x8, x9, x10, x11, x12, x13, V, x15, x16, x17, x18, x19, x20, x21)) 59 (.inl (1, 110, .inr (.inl V2))) = (hp nw i0 i1 pd lv pl mt nt (x0, x1, x2, x3, x4, x5, x6, x7, x8, x9, x10, x11, x12, x13, V2, x15, x16, x17, x18, x19, x20, x21)) := rfl
theorem hs_best {nw i0 i1 : WorldS} {pd : PadS} {lv : LivesS} {pl : PlanS} {mt : MatS} {nt : NetS} {m : ModS} {V V2 : Nat → Int64} : hs (hp nw i0 i1 pd lv pl mt nt (s_best m V)) 59 (.inl (1, 110, .inr (.inl V2))) = (hp nw i0 i1 pd lv pl mt nt (s_best m V2)) := by
  obtain ⟨x0, x1, x2, x3, x4, x5, x6, x7, x8, x9, x10, x11, x12, x13, x14, x15, x16, x17, x18, x19, x20, x21⟩ := m
  exact hs_best0
set_option maxRecDepth 100000 in
set_option maxHeartbeats 4000000 in
theorem lb_s {E : gE} {d : Nat} {nw i0 i1 : WorldS} {pd : PadS} {lv : LivesS} {pl : PlanS} {mt : MatS} {nt : NetS} {m : ModS} {V : Nat → Int64} {all : Int64} {Q : Option Value → gH → Prop} {i n : Nat} {s : Int64} {a8 a9 a10 a11 : Option Value} (hi : i < 8) (hn : n < 10) (kk : Go E yX9_layBest cX9_layBest 12 none (d + 1) 0 0 0 0 41 [some (.ref 52), some (.long all), none, some (.int (nI (i + 1))), some (.int (nI (n + 1))), some (.long s), none, some (.int (nI 10)), a8, a9, a10, a11] [] (hp nw i0 i1 pd lv pl mt nt (s_best m (vp_updL V (11 * n + (i + 1)) s))) Q) : Go E yX9_layBest cX9_layBest 12 none (d + 1) 0 0 0 0 153 [some (.ref 52), some (.long all), none, some (.int (nI (i + 1))), some (.int (nI n)), some (.long s), none, some (.int (nI 10)), a8, a9, a10, a11] [] (hp nw i0 i1 pd lv pl mt nt (s_best m V)) Q := by
  refine go_aload_n dX9_layBest_153 rfl ?_
  refine go_get dX9_layBest_154 fX9_28 rfl rfl ?_
  refine go_bipush (v := 11) dX9_layBest_157 (by decide) ?_
  refine go_iload dX9_layBest_159 rfl ?_
  refine go_imul dX9_layBest_161 ?_
  refine go_iload_n dX9_layBest_162 rfl ?_
  refine go_iadd dX9_layBest_163 ?_
  refine go_topi_eq (nb3 n (i + 1)) ?_
  refine go_lload dX9_layBest_164 rfl ?_
  refine go_lastN (11 * n + (i + 1)) dX9_layBest_166 rfl (by omega) rfl ?_
  refine go_heap (h2 := (hp nw i0 i1 pd lv pl mt nt (s_best m (vp_updL V (11 * n + (i + 1)) s)))) hs_best ?_
  refine go_iinc (v := nI (n + 1)) (L' := [_, _, _, _, _, _, _, _, _, _, _, _]) dX9_layBest_167 rfl (nI_1 n) rfl rfl rfl ?_
  refine go_goto (tgt := 41) dX9_layBest_170 (by decide) ?_
  exact kk
set_option maxRecDepth 100000 in
set_option maxHeartbeats 4000000 in
theorem lb_n {E : gE} {d : Nat} {nw i0 i1 : WorldS} {pd : PadS} {lv : LivesS} {pl : PlanS} {mt : MatS} {nt : NetS} {m : ModS} {V : Nat → Int64} {all : Int64} {Q : Option Value → gH → Prop} {i : Nat} {X : Nat → Int64} (hi : i < 8) (hX : lbN (m_weight m) all i V 10 = X) (kk : ∀ (a4 a5 a6 a7 a8 a9 a10 a11 : Option Value), Go E yX9_layBest cX9_layBest 12 none (d + 1) 0 0 0 0 173 [some (.ref 52), some (.long all), none, some (.int (nI (i + 1))), a4, a5, a6, a7, a8, a9, a10, a11] [] (hp nw i0 i1 pd lv pl mt nt (s_best m X)) Q) : ∀ (n k : Nat), k + n = 10 → ∀ (a5 a6 a7 a8 a9 a10 a11 : Option Value), Go E yX9_layBest cX9_layBest 12 none (d + 1) 0 0 0 0 41 [some (.ref 52), some (.long all), none, some (.int (nI (i + 1))), some (.int (nI k)), a5, a6, a7, a8, a9, a10, a11] [] (hp nw i0 i1 pd lv pl mt nt (s_best m (lbN (m_weight m) all i V k))) Q
  | 0, k, hk, a5, a6, a7, a8, a9, a10, a11 => by
    obtain rfl : k = 10 := by omega
    rw [hX]
    refine go_iload dX9_layBest_41 rfl ?_
    refine go_bipush (v := 10) dX9_layBest_43 (by decide) ?_
    refine go_icmp_ge (tgt := 173) dX9_layBest_45 (by decide) (fun q45 => ?_) (fun zq => absurd (nI_le (a := 10) (b := 10) (by decide) (by decide)) zq)
    exact kk _ _ _ _ _ _ _ _
  | n + 1, k, hk, a5, a6, a7, a8, a9, a10, a11 => by
    rcases k with _ | p
    · refine go_iload dX9_layBest_41 rfl ?_
      refine go_bipush (v := 10) dX9_layBest_43 (by decide) ?_
      refine go_icmp_ge (tgt := 173) dX9_layBest_45 (by decide) (fun zq => absurd zq (nI_ge (a := 0) (b := 10) (by omega) (by decide))) (fun q45 => ?_)
      refine go_lconst (v := 0) dX9_layBest_48 (by decide) ?_
      refine go_lstore (L' := [_, _, _, _, _, _, _, _, _, _, _, _]) dX9_layBest_49 rfl rfl rfl ?_
      refine go_iconst (v := 1) dX9_layBest_51 (by decide) ?_
      refine go_istore (L' := [_, _, _, _, _, _, _, _, _, _, _, _]) dX9_layBest_52 rfl rfl rfl ?_
      refine lb_w0  hi (fun b8 b9 b10 b11 => ?_) 9 0 0 rfl rfl _ _ _ _
      refine lb_s hi (by omega) ?_
      rw [← lbN_s]
      exact lb_n hi hX kk n (0 + 1) (by omega) _ _ _ _ _ _ _
    · refine go_iload dX9_layBest_41 rfl ?_
      refine go_bipush (v := 10) dX9_layBest_43 (by decide) ?_
      refine go_icmp_ge (tgt := 173) dX9_layBest_45 (by decide) (fun zq => absurd zq (nI_ge (a := (p + 1)) (b := 10) (by omega) (by decide))) (fun q45 => ?_)
      refine go_lconst (v := 0) dX9_layBest_48 (by decide) ?_
      refine go_lstore (L' := [_, _, _, _, _, _, _, _, _, _, _, _]) dX9_layBest_49 rfl rfl rfl ?_
      refine go_iconst (v := 1) dX9_layBest_51 (by decide) ?_
      refine go_istore (L' := [_, _, _, _, _, _, _, _, _, _, _, _]) dX9_layBest_52 rfl rfl rfl ?_
      refine lb_w1 (by omega) hi (fun b8 b9 b10 b11 => ?_) 9 0 0 rfl rfl _ _ _ _
      refine lb_s hi (by omega) ?_
      rw [← lbN_s]
      exact lb_n hi hX kk n ((p + 1) + 1) (by omega) _ _ _ _ _ _ _
set_option maxRecDepth 100000 in
set_option maxHeartbeats 4000000 in
theorem lb_m {E : gE} {d : Nat} {nw i0 i1 : WorldS} {pd : PadS} {lv : LivesS} {pl : PlanS} {mt : MatS} {nt : NetS} {m : ModS} {V : Nat → Int64} {all : Int64} {Q : Option Value → gH → Prop} {X : Nat → Int64} (hX : lbM (m_weight m) all V 8 = X) (kk : Q none (hp nw i0 i1 pd lv pl mt nt (s_best m X))) : ∀ (n i : Nat), i + n = 8 → ∀ (a4 a5 a6 a7 a8 a9 a10 a11 : Option Value), Go E yX9_layBest cX9_layBest 12 none (d + 1) 0 0 0 0 32 [some (.ref 52), some (.long all), none, some (.int (nI (i + 1))), a4, a5, a6, a7, a8, a9, a10, a11] [] (hp nw i0 i1 pd lv pl mt nt (s_best m (lbM (m_weight m) all V i))) Q
  | 0, i, hi, a4, a5, a6, a7, a8, a9, a10, a11 => by
    obtain rfl : i = 8 := by omega
    rw [hX]
    refine go_iload_n dX9_layBest_32 rfl ?_
    refine go_bipush (v := 9) dX9_layBest_33 (by decide) ?_
    refine go_icmp_ge (tgt := 179) dX9_layBest_35 (by decide) (fun q35 => ?_) (fun zq => absurd (nI_le (a := 9) (b := 9) (by decide) (by decide)) zq)
    refine go_vret dX9_layBest_179 rfl rfl ?_
    exact kk
  | n + 1, i, hi, a4, a5, a6, a7, a8, a9, a10, a11 => by
    refine go_iload_n dX9_layBest_32 rfl ?_
    refine go_bipush (v := 9) dX9_layBest_33 (by decide) ?_
    refine go_icmp_ge (tgt := 179) dX9_layBest_35 (by decide) (fun zq => absurd zq (nI_ge (a := i + 1) (b := 9) (by omega) (by decide))) (fun q35 => ?_)
    refine go_iconst (v := 0) dX9_layBest_38 (by decide) ?_
    refine go_istore (L' := [_, _, _, _, _, _, _, _, _, _, _, _]) dX9_layBest_39 rfl rfl rfl ?_
    refine lb_n (V := (lbM (m_weight m) all V i)) (by omega) (lbM_s _ _ _ _).symm (fun b4 b5 b6 b7 b8 b9 b10 b11 => ?_) 10 0 rfl _ _ _ _ _ _ _
    refine go_iinc (v := nI (i + 1 + 1)) (L' := [_, _, _, _, _, _, _, _, _, _, _, _]) dX9_layBest_173 rfl (nI_1 (i + 1)) rfl rfl rfl ?_
    refine go_goto (tgt := 32) dX9_layBest_176 (by decide) ?_
    exact lb_m hX kk n (i + 1) (by omega) _ _ _ _ _ _ _ _
set_option maxRecDepth 100000 in
set_option maxHeartbeats 4000000 in
theorem lb_z1 {E : gE} {d : Nat} {nw i0 i1 : WorldS} {pd : PadS} {lv : LivesS} {pl : PlanS} {mt : MatS} {nt : NetS} {m : ModS} {V : Nat → Int64} {all : Int64} {Q : Option Value → gH → Prop} {k : Nat} {a4 a5 a6 a7 a8 a9 a10 a11 : Option Value} (hk : k < 10) (kk : Go E yX9_layBest cX9_layBest 12 none (d + 1) 0 0 0 0 8 [some (.ref 52), some (.long all), none, some (.int (nI (k + 1))), a4, a5, a6, a7, a8, a9, a10, a11] [] (hp nw i0 i1 pd lv pl mt nt (s_best m (vp_updL V (11 * k) 0))) Q) : Go E yX9_layBest cX9_layBest 12 none (d + 1) 0 0 0 0 8 [some (.ref 52), some (.long all), none, some (.int (nI k)), a4, a5, a6, a7, a8, a9, a10, a11] [] (hp nw i0 i1 pd lv pl mt nt (s_best m V)) Q := by
  refine go_iload_n dX9_layBest_8 rfl ?_
  refine go_bipush (v := 10) dX9_layBest_9 (by decide) ?_
  refine go_icmp_ge (tgt := 30) dX9_layBest_11 (by decide) (fun zq => absurd zq (nI_ge (a := k) (b := 10) (by omega) (by decide))) (fun q11 => ?_)
  refine go_aload_n dX9_layBest_14 rfl ?_
  refine go_get dX9_layBest_15 fX9_28 rfl rfl ?_
  refine go_bipush (v := 11) dX9_layBest_18 (by decide) ?_
  refine go_iload_n dX9_layBest_20 rfl ?_
  refine go_imul dX9_layBest_21 ?_
  refine go_topi_eq (nb4 k) ?_
  refine go_lconst (v := 0) dX9_layBest_22 (by decide) ?_
  refine go_lastN (11 * k) dX9_layBest_23 rfl (by omega) rfl ?_
  refine go_heap (h2 := (hp nw i0 i1 pd lv pl mt nt (s_best m (vp_updL V (11 * k) 0)))) hs_best ?_
  refine go_iinc (v := nI (k + 1)) (L' := [_, _, _, _, _, _, _, _, _, _, _, _]) dX9_layBest_24 rfl (nI_1 k) rfl rfl rfl ?_
  refine go_goto (tgt := 8) dX9_layBest_27 (by decide) ?_
  exact kk
set_option maxRecDepth 100000 in
set_option maxHeartbeats 4000000 in
theorem lb_z {E : gE} {d : Nat} {nw i0 i1 : WorldS} {pd : PadS} {lv : LivesS} {pl : PlanS} {mt : MatS} {nt : NetS} {m : ModS} {V : Nat → Int64} {all : Int64} {Q : Option Value → gH → Prop} {X : Nat → Int64} (hX : lbM (m_weight m) all V 8 = X) (kk : Q none (hp nw i0 i1 pd lv pl mt nt (s_best m X))) : ∀ (n k : Nat), k + n = 10 → ∀ (a4 a5 a6 a7 a8 a9 a10 a11 : Option Value), Go E yX9_layBest cX9_layBest 12 none (d + 1) 0 0 0 0 8 [some (.ref 52), some (.long all), none, some (.int (nI k)), a4, a5, a6, a7, a8, a9, a10, a11] [] (hp nw i0 i1 pd lv pl mt nt (s_best m (lb0 V k))) Q
  | 0, k, hk, a4, a5, a6, a7, a8, a9, a10, a11 => by
    obtain rfl : k = 10 := by omega
    rw [← lbM_0 (m_weight m) all]
    refine go_iload_n dX9_layBest_8 rfl ?_
    refine go_bipush (v := 10) dX9_layBest_9 (by decide) ?_
    refine go_icmp_ge (tgt := 30) dX9_layBest_11 (by decide) (fun q11 => ?_) (fun zq => absurd (nI_le (a := 10) (b := 10) (by decide) (by decide)) zq)
    refine go_iconst (v := 1) dX9_layBest_30 (by decide) ?_
    refine go_istore_n (L' := [_, _, _, _, _, _, _, _, _, _, _, _]) dX9_layBest_31 rfl rfl rfl ?_
    exact lb_m hX kk 8 0 rfl _ _ _ _ _ _ _ _
  | n + 1, k, hk, a4, a5, a6, a7, a8, a9, a10, a11 => by
    refine lb_z1 (by omega) ?_
    rw [← lb0_s]
    exact lb_z hX kk n (k + 1) (by omega) _ _ _ _ _ _ _ _
set_option maxRecDepth 100000 in
set_option maxHeartbeats 4000000 in
theorem rX9_layBest {E : gE} {d : Nat} {nw i0 i1 : WorldS} {pd : PadS} {lv : LivesS} {pl : PlanS} {mt : MatS} {nt : NetS} {m : ModS} : Ret E yX9_layBest cX9_layBest 12 none (d + 1) 0 0 [.ref 52] (hp nw i0 i1 pd lv pl mt nt m) (dt none (hp nw i0 i1 pd lv pl mt nt (s_best m (lbM (m_weight m) (wsumF (m_weight m)).toInt64 (m_best m) 8)))) := by
  refine ret_of_go (L := [_, _, _, _, _, _, _, _, _, _, _, _]) (by decide) (Nat.le_of_ble_eq_true rfl) rfl ?_
  refine go_aload_n dX9_layBest_0 rfl ?_
  refine go_cV (as := []) dX9_layBest_1 mX9_weights kX9_135 iX9_weights sX9_weights rfl rfl rfl rfl (rX9_weights) rfl rfl rfl ?_
  refine go_i2l dX9_layBest_4 ?_
  refine go_lstore_n (L' := [_, _, _, _, _, _, _, _, _, _, _, _]) dX9_layBest_5 rfl rfl rfl ?_
  refine go_iconst (v := 0) dX9_layBest_6 (by decide) ?_
  refine go_istore_n (L' := [_, _, _, _, _, _, _, _, _, _, _, _]) dX9_layBest_7 rfl rfl rfl ?_
  refine go_heap (h2 := (hp nw i0 i1 pd lv pl mt nt (s_best m (lb0 (m_best m) 0)))) (by rw [lb0_0]) ?_
  exact lb_z (V := m_best m) rfl ⟨rfl, rfl⟩ 10 0 rfl _ _ _ _ _ _ _ _
