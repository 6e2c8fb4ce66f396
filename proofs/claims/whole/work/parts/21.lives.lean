theorem rX1_debt_ag {E : gE} {d : Nat} {nw i0 i1 : WorldS} {pd : PadS} {lv : LivesS} {pl : PlanS} {mt : MatS} {nt : NetS} {m : ModS} {x z : Int32} (hx : vp_in x 6) (hz : vp_in z 6) : Ret E yX1_debt cX1_debt 3 (some .int) d 0 0 [.ref 35, .int x, .int z] (hp nw i0 i1 pd lv pl mt nt m) (dt (some (.int (fd lv.1 (x.toNatClampNeg * 6 + z.toNatClampNeg)))) (hp nw i0 i1 pd lv pl mt nt m)) := by
  obtain ⟨i, hi, rfl⟩ := vp_in_of hx (by decide)
  obtain ⟨j, hj, rfl⟩ := vp_in_of hz (by decide)
  rw [nI_clamp (by omega), nI_clamp (by omega)]
  exact rX1_debt_a hi hj
theorem rX1_signAct_ag {E : gE} {d : Nat} {nw i0 i1 : WorldS} {pd : PadS} {lv : LivesS} {pl : PlanS} {mt : MatS} {nt : NetS} {m : ModS} {x g : Int32} (hx : vp_in x 6) : Ret E yX1_signAct cX1_signAct 3 none (d + 2) 0 0 [.ref 35, .int x, .int g] (hp nw i0 i1 pd lv pl mt nt m) (dt none (hp nw i0 i1 pd (signF lv.1 x.toNatClampNeg g, lv.2) pl mt nt m)) := by
  obtain ⟨i, hi, rfl⟩ := vp_in_of hx (by decide)
  rw [nI_clamp (by omega)]
  exact rX1_signAct_a hi
theorem rX1_forgeAct_ag {E : gE} {d : Nat} {nw i0 i1 : WorldS} {pd : PadS} {lv : LivesS} {pl : PlanS} {mt : MatS} {nt : NetS} {m : ModS} {x g : Int32} (hx : vp_in x 6) : Ret E yX1_forgeAct cX1_forgeAct 3 none (d + 2) 0 0 [.ref 35, .int x, .int g] (hp nw i0 i1 pd lv pl mt nt m) (dt none (hp nw i0 i1 pd (forgeF lv.1 x.toNatClampNeg g, lv.2) pl mt nt m)) := by
  obtain ⟨i, hi, rfl⟩ := vp_in_of hx (by decide)
  rw [nI_clamp (by omega)]
  exact rX1_forgeAct_a hi
theorem rX1_move_ag {E : gE} {d : Nat} {nw i0 i1 : WorldS} {pd : PadS} {lv : LivesS} {pl : PlanS} {mt : MatS} {nt : NetS} {m : ModS} {x z n : Int32} (hx : vp_in x 6) (hz : vp_in z 6) : Ret E yX1_move cX1_move 4 none (d + 1) 0 0 [.ref 35, .int x, .int z, .int n] (hp nw i0 i1 pd lv pl mt nt m) (dt none (hp nw i0 i1 pd (moveF lv.1 x.toNatClampNeg z.toNatClampNeg n, lv.2) pl mt nt m)) := by
  obtain ⟨i, hi, rfl⟩ := vp_in_of hx (by decide)
  obtain ⟨j, hj, rfl⟩ := vp_in_of hz (by decide)
  rw [nI_clamp (by omega), nI_clamp (by omega)]
  exact rX1_move_a hi hj
theorem rX1_owe_ag {E : gE} {d : Nat} {nw i0 i1 : WorldS} {pd : PadS} {lv : LivesS} {pl : PlanS} {mt : MatS} {nt : NetS} {m : ModS} {x z n : Int32} (hx : vp_in x 6) (hz : vp_in z 6) : Ret E yX1_owe cX1_owe 4 none d 0 0 [.ref 35, .int x, .int z, .int n] (hp nw i0 i1 pd lv pl mt nt m) (dt none (hp nw i0 i1 pd (oweF lv.1 x.toNatClampNeg z.toNatClampNeg n, lv.2) pl mt nt m)) := by
  obtain ⟨i, hi, rfl⟩ := vp_in_of hx (by decide)
  obtain ⟨j, hj, rfl⟩ := vp_in_of hz (by decide)
  rw [nI_clamp (by omega), nI_clamp (by omega)]
  exact rX1_owe_a hi hj
theorem has_in {t x : Int32} (h : hasB t x = true) : vp_in x 6 := by
  obtain ⟨k, hk, rfl⟩ := has_nI h
  exact vp_in_nI hk (by decide)
set_option maxRecDepth 100000 in
set_option maxHeartbeats 4000000 in
theorem rX0_obstacle {E : gE} {d : Nat} {nw i0 i1 : WorldS} {pd : PadS} {lv : LivesS} {pl : PlanS} {mt : MatS} {nt : NetS} {m : ModS} : Ret E yX0_obstacle cX0_obstacle 2 (some .int) (d + 3) 0 0 [.ref 41, .ref 35] (hp nw i0 i1 pd lv pl mt nt m) (dt (some (.int (obsF lv.2.1 lv.1))) (hp nw i0 i1 pd lv pl mt nt m)) := by
  refine ret_of_go (L := [_, _]) (by decide) (Nat.le_of_ble_eq_true rfl) rfl ?_
  refine go_aload_n dX0_obstacle_0 rfl ?_
  refine go_get dX0_obstacle_1 fX0_27 rfl rfl ?_
  refine go_bipush (v := 46) dX0_obstacle_4 (by decide) ?_
  refine go_icmp_ne (tgt := 24) dX0_obstacle_6 (by decide) (fun q6 => ?_) (fun q6 => ?_)
  · refine go_aload_n dX0_obstacle_24 rfl ?_
    refine go_aload_n dX0_obstacle_25 rfl ?_
    refine go_get dX0_obstacle_26 fX0_15 rfl rfl ?_
    refine go_cV (as := [_]) dX0_obstacle_29 mX1_has kX0_42 iX1_has sX1_has rfl rfl rfl rfl (rX1_has_a) rfl rfl rfl ?_
    refine go_bif_eq (tgt := 46) dX0_obstacle_32 (by decide) (fun q32 => ?_) (fun q32 => ?_)
    · refine go_iconst (v := 1) dX0_obstacle_46 (by decide) ?_
      refine go_iret dX0_obstacle_47 rfl rfl ?_
      exact ⟨by unfold obsF; (try dsimp only at *); (repeat' split) <;> first | rfl | (exfalso; simp_all; done), rfl⟩
    · refine go_aload_n dX0_obstacle_35 rfl ?_
      refine go_aload_n dX0_obstacle_36 rfl ?_
      refine go_get dX0_obstacle_37 fX0_21 rfl rfl ?_
      refine go_cV (as := [_]) dX0_obstacle_40 mX1_has kX0_42 iX1_has sX1_has rfl rfl rfl rfl (rX1_has_a) rfl rfl rfl ?_
      refine go_bif_ne (tgt := 48) dX0_obstacle_43 (by decide) (fun q43 => ?_) (fun q43 => ?_)
      · refine go_aload_n dX0_obstacle_48 rfl ?_
        refine go_cV (as := []) dX0_obstacle_49 mX0_isOfTwo kX0_45 iX0_isOfTwo sX0_isOfTwo rfl rfl rfl rfl (rX0_isOfTwo) rfl rfl rfl ?_
        refine go_bif_eq (tgt := 68) dX0_obstacle_52 (by decide) (fun q52 => ?_) (fun q52 => ?_)
        · refine go_aload_n dX0_obstacle_68 rfl ?_
          refine go_get dX0_obstacle_69 fX0_49 rfl rfl ?_
          refine go_aload_n dX0_obstacle_72 rfl ?_
          refine go_get dX0_obstacle_73 fX0_27 rfl rfl ?_
          refine go_bipush (v := 60) dX0_obstacle_76 (by decide) ?_
          refine go_icmp_ne (tgt := 88) dX0_obstacle_78 (by decide) (fun q78 => ?_) (fun q78 => ?_)
          · refine go_aload_n dX0_obstacle_88 rfl ?_
            refine go_get dX0_obstacle_89 fX0_15 rfl rfl ?_
            refine go_iald dX0_obstacle_92 rfl (by first | exact has_in q32 | exact has_in q43) ?_
            refine go_aload_n dX0_obstacle_93 rfl ?_
            refine go_cV (as := []) dX0_obstacle_94 mX0_sheetsNeeded kX0_53 iX0_sheetsNeeded sX0_sheetsNeeded rfl rfl rfl rfl (rX0_sheetsNeeded) rfl rfl rfl ?_
            refine go_icmp_ge (tgt := 102) dX0_obstacle_97 (by decide) (fun q97 => ?_) (fun q97 => ?_)
            · refine go_aload_n dX0_obstacle_102 rfl ?_
              refine go_get dX0_obstacle_103 fX0_27 rfl rfl ?_
              refine go_bipush (v := 61) dX0_obstacle_106 (by decide) ?_
              refine go_icmp_ne (tgt := 137) dX0_obstacle_108 (by decide) (fun q108 => ?_) (fun q108 => ?_)
              · refine go_iconst (v := 0) dX0_obstacle_137 (by decide) ?_
                refine go_iret dX0_obstacle_138 rfl rfl ?_
                exact ⟨by unfold obsF; (try dsimp only at *); (repeat' split) <;> first | rfl | (exfalso; simp_all; done), rfl⟩
              · refine go_aload_n dX0_obstacle_111 rfl ?_
                refine go_aload_n dX0_obstacle_112 rfl ?_
                refine go_get dX0_obstacle_113 fX0_21 rfl rfl ?_
                refine go_aload_n dX0_obstacle_116 rfl ?_
                refine go_get dX0_obstacle_117 fX0_15 rfl rfl ?_
                refine go_cV (as := [_, _]) dX0_obstacle_120 mX1_debt kX0_57 iX1_debt sX1_debt rfl rfl rfl rfl (rX1_debt_ag (has_in q43) (has_in q32)) rfl rfl rfl ?_
                refine go_aload_n dX0_obstacle_123 rfl ?_
                refine go_get dX0_obstacle_124 fX0_24 rfl rfl ?_
                refine go_iadd dX0_obstacle_127 ?_
                refine go_bipush (v := 99) dX0_obstacle_128 (by decide) ?_
                refine go_icmp_le (tgt := 137) dX0_obstacle_130 (by decide) (fun q130 => ?_) (fun q130 => ?_)
                · refine go_iconst (v := 0) dX0_obstacle_137 (by decide) ?_
                  refine go_iret dX0_obstacle_138 rfl rfl ?_
                  exact ⟨by unfold obsF; (try dsimp only at *); (repeat' split) <;> first | rfl | (exfalso; simp_all; done), rfl⟩
                · refine go_iconst (v := 5) dX0_obstacle_133 (by decide) ?_
                  refine go_goto (tgt := 138) dX0_obstacle_134 (by decide) ?_
                  refine go_iret dX0_obstacle_138 rfl rfl ?_
                  exact ⟨by unfold obsF; (try dsimp only at *); (repeat' split) <;> first | rfl | (exfalso; simp_all; done), rfl⟩
            · refine go_iconst (v := 3) dX0_obstacle_100 (by decide) ?_
              refine go_iret dX0_obstacle_101 rfl rfl ?_
              exact ⟨by unfold obsF; (try dsimp only at *); (repeat' split) <;> first | rfl | (exfalso; simp_all; done), rfl⟩
          · refine go_aload_n dX0_obstacle_81 rfl ?_
            refine go_get dX0_obstacle_82 fX0_21 rfl rfl ?_
            refine go_goto (tgt := 92) dX0_obstacle_85 (by decide) ?_
            refine go_iald dX0_obstacle_92 rfl (by first | exact has_in q32 | exact has_in q43) ?_
            refine go_aload_n dX0_obstacle_93 rfl ?_
            refine go_cV (as := []) dX0_obstacle_94 mX0_sheetsNeeded kX0_53 iX0_sheetsNeeded sX0_sheetsNeeded rfl rfl rfl rfl (rX0_sheetsNeeded) rfl rfl rfl ?_
            refine go_icmp_ge (tgt := 102) dX0_obstacle_97 (by decide) (fun q97 => ?_) (fun q97 => ?_)
            · refine go_aload_n dX0_obstacle_102 rfl ?_
              refine go_get dX0_obstacle_103 fX0_27 rfl rfl ?_
              refine go_bipush (v := 61) dX0_obstacle_106 (by decide) ?_
              refine go_icmp_ne (tgt := 137) dX0_obstacle_108 (by decide) (fun q108 => ?_) (fun q108 => ?_)
              · refine go_iconst (v := 0) dX0_obstacle_137 (by decide) ?_
                refine go_iret dX0_obstacle_138 rfl rfl ?_
                exact ⟨by unfold obsF; (try dsimp only at *); (repeat' split) <;> first | rfl | (exfalso; simp_all; done), rfl⟩
              · refine go_aload_n dX0_obstacle_111 rfl ?_
                refine go_aload_n dX0_obstacle_112 rfl ?_
                refine go_get dX0_obstacle_113 fX0_21 rfl rfl ?_
                refine go_aload_n dX0_obstacle_116 rfl ?_
                refine go_get dX0_obstacle_117 fX0_15 rfl rfl ?_
                refine go_cV (as := [_, _]) dX0_obstacle_120 mX1_debt kX0_57 iX1_debt sX1_debt rfl rfl rfl rfl (rX1_debt_ag (has_in q43) (has_in q32)) rfl rfl rfl ?_
                refine go_aload_n dX0_obstacle_123 rfl ?_
                refine go_get dX0_obstacle_124 fX0_24 rfl rfl ?_
                refine go_iadd dX0_obstacle_127 ?_
                refine go_bipush (v := 99) dX0_obstacle_128 (by decide) ?_
                refine go_icmp_le (tgt := 137) dX0_obstacle_130 (by decide) (fun q130 => ?_) (fun q130 => ?_)
                · refine go_iconst (v := 0) dX0_obstacle_137 (by decide) ?_
                  refine go_iret dX0_obstacle_138 rfl rfl ?_
                  exact ⟨by unfold obsF; (try dsimp only at *); (repeat' split) <;> first | rfl | (exfalso; simp_all; done), rfl⟩
                · refine go_iconst (v := 5) dX0_obstacle_133 (by decide) ?_
                  refine go_goto (tgt := 138) dX0_obstacle_134 (by decide) ?_
                  refine go_iret dX0_obstacle_138 rfl rfl ?_
                  exact ⟨by unfold obsF; (try dsimp only at *); (repeat' split) <;> first | rfl | (exfalso; simp_all; done), rfl⟩
            · refine go_iconst (v := 3) dX0_obstacle_100 (by decide) ?_
              refine go_iret dX0_obstacle_101 rfl rfl ?_
              exact ⟨by unfold obsF; (try dsimp only at *); (repeat' split) <;> first | rfl | (exfalso; simp_all; done), rfl⟩
        · refine go_aload_n dX0_obstacle_55 rfl ?_
          refine go_get dX0_obstacle_56 fX0_15 rfl rfl ?_
          refine go_aload_n dX0_obstacle_59 rfl ?_
          refine go_get dX0_obstacle_60 fX0_21 rfl rfl ?_
          refine go_icmp_ne (tgt := 68) dX0_obstacle_63 (by decide) (fun q63 => ?_) (fun q63 => ?_)
          · refine go_aload_n dX0_obstacle_68 rfl ?_
            refine go_get dX0_obstacle_69 fX0_49 rfl rfl ?_
            refine go_aload_n dX0_obstacle_72 rfl ?_
            refine go_get dX0_obstacle_73 fX0_27 rfl rfl ?_
            refine go_bipush (v := 60) dX0_obstacle_76 (by decide) ?_
            refine go_icmp_ne (tgt := 88) dX0_obstacle_78 (by decide) (fun q78 => ?_) (fun q78 => ?_)
            · refine go_aload_n dX0_obstacle_88 rfl ?_
              refine go_get dX0_obstacle_89 fX0_15 rfl rfl ?_
              refine go_iald dX0_obstacle_92 rfl (by first | exact has_in q32 | exact has_in q43) ?_
              refine go_aload_n dX0_obstacle_93 rfl ?_
              refine go_cV (as := []) dX0_obstacle_94 mX0_sheetsNeeded kX0_53 iX0_sheetsNeeded sX0_sheetsNeeded rfl rfl rfl rfl (rX0_sheetsNeeded) rfl rfl rfl ?_
              refine go_icmp_ge (tgt := 102) dX0_obstacle_97 (by decide) (fun q97 => ?_) (fun q97 => ?_)
              · refine go_aload_n dX0_obstacle_102 rfl ?_
                refine go_get dX0_obstacle_103 fX0_27 rfl rfl ?_
                refine go_bipush (v := 61) dX0_obstacle_106 (by decide) ?_
                refine go_icmp_ne (tgt := 137) dX0_obstacle_108 (by decide) (fun q108 => ?_) (fun q108 => ?_)
                · refine go_iconst (v := 0) dX0_obstacle_137 (by decide) ?_
                  refine go_iret dX0_obstacle_138 rfl rfl ?_
                  exact ⟨by unfold obsF; (try dsimp only at *); (repeat' split) <;> first | rfl | (exfalso; simp_all; done), rfl⟩
                · refine go_aload_n dX0_obstacle_111 rfl ?_
                  refine go_aload_n dX0_obstacle_112 rfl ?_
                  refine go_get dX0_obstacle_113 fX0_21 rfl rfl ?_
                  refine go_aload_n dX0_obstacle_116 rfl ?_
                  refine go_get dX0_obstacle_117 fX0_15 rfl rfl ?_
                  refine go_cV (as := [_, _]) dX0_obstacle_120 mX1_debt kX0_57 iX1_debt sX1_debt rfl rfl rfl rfl (rX1_debt_ag (has_in q43) (has_in q32)) rfl rfl rfl ?_
                  refine go_aload_n dX0_obstacle_123 rfl ?_
                  refine go_get dX0_obstacle_124 fX0_24 rfl rfl ?_
                  refine go_iadd dX0_obstacle_127 ?_
                  refine go_bipush (v := 99) dX0_obstacle_128 (by decide) ?_
                  refine go_icmp_le (tgt := 137) dX0_obstacle_130 (by decide) (fun q130 => ?_) (fun q130 => ?_)
                  · refine go_iconst (v := 0) dX0_obstacle_137 (by decide) ?_
                    refine go_iret dX0_obstacle_138 rfl rfl ?_
                    exact ⟨by unfold obsF; (try dsimp only at *); (repeat' split) <;> first | rfl | (exfalso; simp_all; done), rfl⟩
                  · refine go_iconst (v := 5) dX0_obstacle_133 (by decide) ?_
                    refine go_goto (tgt := 138) dX0_obstacle_134 (by decide) ?_
                    refine go_iret dX0_obstacle_138 rfl rfl ?_
                    exact ⟨by unfold obsF; (try dsimp only at *); (repeat' split) <;> first | rfl | (exfalso; simp_all; done), rfl⟩
              · refine go_iconst (v := 3) dX0_obstacle_100 (by decide) ?_
                refine go_iret dX0_obstacle_101 rfl rfl ?_
                exact ⟨by unfold obsF; (try dsimp only at *); (repeat' split) <;> first | rfl | (exfalso; simp_all; done), rfl⟩
            · refine go_aload_n dX0_obstacle_81 rfl ?_
              refine go_get dX0_obstacle_82 fX0_21 rfl rfl ?_
              refine go_goto (tgt := 92) dX0_obstacle_85 (by decide) ?_
              refine go_iald dX0_obstacle_92 rfl (by first | exact has_in q32 | exact has_in q43) ?_
              refine go_aload_n dX0_obstacle_93 rfl ?_
              refine go_cV (as := []) dX0_obstacle_94 mX0_sheetsNeeded kX0_53 iX0_sheetsNeeded sX0_sheetsNeeded rfl rfl rfl rfl (rX0_sheetsNeeded) rfl rfl rfl ?_
              refine go_icmp_ge (tgt := 102) dX0_obstacle_97 (by decide) (fun q97 => ?_) (fun q97 => ?_)
              · refine go_aload_n dX0_obstacle_102 rfl ?_
                refine go_get dX0_obstacle_103 fX0_27 rfl rfl ?_
                refine go_bipush (v := 61) dX0_obstacle_106 (by decide) ?_
                refine go_icmp_ne (tgt := 137) dX0_obstacle_108 (by decide) (fun q108 => ?_) (fun q108 => ?_)
                · refine go_iconst (v := 0) dX0_obstacle_137 (by decide) ?_
                  refine go_iret dX0_obstacle_138 rfl rfl ?_
                  exact ⟨by unfold obsF; (try dsimp only at *); (repeat' split) <;> first | rfl | (exfalso; simp_all; done), rfl⟩
                · refine go_aload_n dX0_obstacle_111 rfl ?_
                  refine go_aload_n dX0_obstacle_112 rfl ?_
                  refine go_get dX0_obstacle_113 fX0_21 rfl rfl ?_
                  refine go_aload_n dX0_obstacle_116 rfl ?_
                  refine go_get dX0_obstacle_117 fX0_15 rfl rfl ?_
                  refine go_cV (as := [_, _]) dX0_obstacle_120 mX1_debt kX0_57 iX1_debt sX1_debt rfl rfl rfl rfl (rX1_debt_ag (has_in q43) (has_in q32)) rfl rfl rfl ?_
                  refine go_aload_n dX0_obstacle_123 rfl ?_
                  refine go_get dX0_obstacle_124 fX0_24 rfl rfl ?_
                  refine go_iadd dX0_obstacle_127 ?_
                  refine go_bipush (v := 99) dX0_obstacle_128 (by decide) ?_
                  refine go_icmp_le (tgt := 137) dX0_obstacle_130 (by decide) (fun q130 => ?_) (fun q130 => ?_)
                  · refine go_iconst (v := 0) dX0_obstacle_137 (by decide) ?_
                    refine go_iret dX0_obstacle_138 rfl rfl ?_
                    exact ⟨by unfold obsF; (try dsimp only at *); (repeat' split) <;> first | rfl | (exfalso; simp_all; done), rfl⟩
                  · refine go_iconst (v := 5) dX0_obstacle_133 (by decide) ?_
                    refine go_goto (tgt := 138) dX0_obstacle_134 (by decide) ?_
                    refine go_iret dX0_obstacle_138 rfl rfl ?_
                    exact ⟨by unfold obsF; (try dsimp only at *); (repeat' split) <;> first | rfl | (exfalso; simp_all; done), rfl⟩
              · refine go_iconst (v := 3) dX0_obstacle_100 (by decide) ?_
                refine go_iret dX0_obstacle_101 rfl rfl ?_
                exact ⟨by unfold obsF; (try dsimp only at *); (repeat' split) <;> first | rfl | (exfalso; simp_all; done), rfl⟩
          · refine go_iconst (v := 2) dX0_obstacle_66 (by decide) ?_
            refine go_iret dX0_obstacle_67 rfl rfl ?_
            exact ⟨by unfold obsF; (try dsimp only at *); (repeat' split) <;> first | rfl | (exfalso; simp_all; done), rfl⟩
      · refine go_iconst (v := 1) dX0_obstacle_46 (by decide) ?_
        refine go_iret dX0_obstacle_47 rfl rfl ?_
        exact ⟨by unfold obsF; (try dsimp only at *); (repeat' split) <;> first | rfl | (exfalso; simp_all; done), rfl⟩
  · refine go_aload_n dX0_obstacle_9 rfl ?_
    refine go_get dX0_obstacle_10 fX0_37 rfl rfl ?_
    refine go_bipush (v := 99) dX0_obstacle_13 (by decide) ?_
    refine go_icmp_lt (tgt := 22) dX0_obstacle_15 (by decide) (fun q15 => ?_) (fun q15 => ?_)
    · refine go_iconst (v := 0) dX0_obstacle_22 (by decide) ?_
      refine go_iret dX0_obstacle_23 rfl rfl ?_
      exact ⟨by unfold obsF; (try dsimp only at *); (repeat' split) <;> first | rfl | (exfalso; simp_all; done), rfl⟩
    · refine go_iconst (v := 4) dX0_obstacle_18 (by decide) ?_
      refine go_goto (tgt := 23) dX0_obstacle_19 (by decide) ?_
      refine go_iret dX0_obstacle_23 rfl rfl ?_
      exact ⟨by unfold obsF; (try dsimp only at *); (repeat' split) <;> first | rfl | (exfalso; simp_all; done), rfl⟩
set_option maxRecDepth 100000 in
set_option maxHeartbeats 4000000 in
theorem rX0_apply {E : gE} {d : Nat} {nw i0 i1 : WorldS} {pd : PadS} {lv : LivesS} {pl : PlanS} {mt : MatS} {nt : NetS} {m : ModS} (ho : obsF lv.2.1 lv.1 = 0) : Ret E yX0_apply cX0_apply 2 none (d + 3) 0 0 [.ref 41, .ref 35] (hp nw i0 i1 pd lv pl mt nt m) (dt none (hp nw i0 i1 pd (appF lv.2.1 lv.1, lv.2) pl mt nt m)) := by
  refine ret_of_go (L := [_, _]) (by decide) (Nat.le_of_ble_eq_true rfl) rfl ?_
  refine go_aload_n dX0_apply_0 rfl ?_
  refine go_get dX0_apply_1 fX0_27 rfl rfl ?_
  by_cases h33 : lv.2.1.1 = 33
  · have hb : vp_in lv.2.1.2.1 6 ∧ vp_in lv.2.1.2.2.2.1 6 := by
      rcases obs_has ho with h9 | ⟨h9, h8⟩
      · rw [h9] at h33
        exact absurd h33 (by decide)
      · exact ⟨has_in h9, has_in h8⟩
    refine go_lookup (off := 75) (tgt := 79) dX0_apply_4 (by decide) (by rw [h33]; decide) (by decide) ?_
    refine go_aload_n dX0_apply_79 rfl ?_
    refine go_aload_n dX0_apply_80 rfl ?_
    refine go_get dX0_apply_81 fX0_15 rfl rfl ?_
    refine go_aload_n dX0_apply_84 rfl ?_
    refine go_get dX0_apply_85 fX0_24 rfl rfl ?_
    refine go_cVv (as := [_, _]) dX0_apply_88 mX1_forgeAct kX0_65 iX1_forgeAct sX1_forgeAct rfl rfl rfl rfl (rX1_forgeAct_ag hb.1) rfl rfl rfl ?_
    refine go_goto (tgt := 193) dX0_apply_91 (by decide) ?_
    refine go_vret dX0_apply_193 rfl rfl ?_
    exact ⟨rfl, by unfold appF; (try dsimp only at *); (repeat' split) <;> first | rfl | (exfalso; simp_all; done)⟩
  · skip
    by_cases h42 : lv.2.1.1 = 42
    · have hb : vp_in lv.2.1.2.1 6 ∧ vp_in lv.2.1.2.2.2.1 6 := by
        rcases obs_has ho with h9 | ⟨h9, h8⟩
        · rw [h9] at h42
          exact absurd h42 (by decide)
        · exact ⟨has_in h9, has_in h8⟩
      refine go_lookup (off := 90) (tgt := 94) dX0_apply_4 (by decide) (by rw [h42]; decide) (by decide) ?_
      refine go_aload_n dX0_apply_94 rfl ?_
      refine go_get dX0_apply_95 fX0_49 rfl rfl ?_
      refine go_aload_n dX0_apply_98 rfl ?_
      refine go_get dX0_apply_99 fX0_15 rfl rfl ?_
      refine go_dup2 dX0_apply_102 rfl rfl ?_
      refine go_iald dX0_apply_103 rfl hb.1 ?_
      refine go_iconst (v := 1) dX0_apply_104 (by decide) ?_
      refine go_isub dX0_apply_105 ?_
      refine go_iast dX0_apply_106 rfl hb.1 ?_
      refine go_goto (tgt := 193) dX0_apply_107 (by decide) ?_
      refine go_vret dX0_apply_193 rfl rfl ?_
      exact ⟨rfl, by unfold appF; (try dsimp only at *); (repeat' split) <;> first | rfl | (exfalso; simp_all; done)⟩
    · skip
      by_cases h49 : lv.2.1.1 = 49
      · have hb : vp_in lv.2.1.2.1 6 ∧ vp_in lv.2.1.2.2.2.1 6 := by
          rcases obs_has ho with h9 | ⟨h9, h8⟩
          · rw [h9] at h49
            exact absurd h49 (by decide)
          · exact ⟨has_in h9, has_in h8⟩
        refine go_lookup (off := 60) (tgt := 64) dX0_apply_4 (by decide) (by rw [h49]; decide) (by decide) ?_
        refine go_aload_n dX0_apply_64 rfl ?_
        refine go_aload_n dX0_apply_65 rfl ?_
        refine go_get dX0_apply_66 fX0_15 rfl rfl ?_
        refine go_aload_n dX0_apply_69 rfl ?_
        refine go_get dX0_apply_70 fX0_24 rfl rfl ?_
        refine go_cVv (as := [_, _]) dX0_apply_73 mX1_signAct kX0_61 iX1_signAct sX1_signAct rfl rfl rfl rfl (rX1_signAct_ag hb.1) rfl rfl rfl ?_
        refine go_goto (tgt := 193) dX0_apply_76 (by decide) ?_
        refine go_vret dX0_apply_193 rfl rfl ?_
        exact ⟨rfl, by unfold appF; (try dsimp only at *); (repeat' split) <;> first | rfl | (exfalso; simp_all; done)⟩
      · skip
        by_cases h60 : lv.2.1.1 = 60
        · have hb : vp_in lv.2.1.2.1 6 ∧ vp_in lv.2.1.2.2.2.1 6 := by
            rcases obs_has ho with h9 | ⟨h9, h8⟩
            · rw [h9] at h60
              exact absurd h60 (by decide)
            · exact ⟨has_in h9, has_in h8⟩
          refine go_lookup (off := 160) (tgt := 164) dX0_apply_4 (by decide) (by rw [h60]; decide) (by decide) ?_
          refine go_aload_n dX0_apply_164 rfl ?_
          refine go_aload_n dX0_apply_165 rfl ?_
          refine go_get dX0_apply_166 fX0_21 rfl rfl ?_
          refine go_aload_n dX0_apply_169 rfl ?_
          refine go_get dX0_apply_170 fX0_15 rfl rfl ?_
          refine go_aload_n dX0_apply_173 rfl ?_
          refine go_get dX0_apply_174 fX0_24 rfl rfl ?_
          refine go_cVv (as := [_, _, _]) dX0_apply_177 mX1_move kX0_68 iX1_move sX1_move rfl rfl rfl rfl (rX1_move_ag hb.2 hb.1) rfl rfl rfl ?_
          refine go_goto (tgt := 193) dX0_apply_180 (by decide) ?_
          refine go_vret dX0_apply_193 rfl rfl ?_
          exact ⟨rfl, by unfold appF; (try dsimp only at *); (repeat' split) <;> first | rfl | (exfalso; simp_all; done)⟩
        · skip
          by_cases h61 : lv.2.1.1 = 61
          · have hb : vp_in lv.2.1.2.1 6 ∧ vp_in lv.2.1.2.2.2.1 6 := by
              rcases obs_has ho with h9 | ⟨h9, h8⟩
              · rw [h9] at h61
                exact absurd h61 (by decide)
              · exact ⟨has_in h9, has_in h8⟩
            refine go_lookup (off := 125) (tgt := 129) dX0_apply_4 (by decide) (by rw [h61]; decide) (by decide) ?_
            refine go_aload_n dX0_apply_129 rfl ?_
            refine go_aload_n dX0_apply_130 rfl ?_
            refine go_get dX0_apply_131 fX0_15 rfl rfl ?_
            refine go_aload_n dX0_apply_134 rfl ?_
            refine go_get dX0_apply_135 fX0_21 rfl rfl ?_
            refine go_aload_n dX0_apply_138 rfl ?_
            refine go_get dX0_apply_139 fX0_24 rfl rfl ?_
            refine go_cVv (as := [_, _, _]) dX0_apply_142 mX1_move kX0_68 iX1_move sX1_move rfl rfl rfl rfl (rX1_move_ag hb.1 hb.2) rfl rfl rfl ?_
            refine go_aload_n dX0_apply_145 rfl ?_
            refine go_aload_n dX0_apply_146 rfl ?_
            refine go_get dX0_apply_147 fX0_21 rfl rfl ?_
            refine go_aload_n dX0_apply_150 rfl ?_
            refine go_get dX0_apply_151 fX0_15 rfl rfl ?_
            refine go_aload_n dX0_apply_154 rfl ?_
            refine go_get dX0_apply_155 fX0_24 rfl rfl ?_
            refine go_cVv (as := [_, _, _]) dX0_apply_158 mX1_owe kX0_72 iX1_owe sX1_owe rfl rfl rfl rfl (rX1_owe_ag hb.2 hb.1) rfl rfl rfl ?_
            refine go_goto (tgt := 193) dX0_apply_161 (by decide) ?_
            refine go_vret dX0_apply_193 rfl rfl ?_
            exact ⟨rfl, by unfold appF; (try dsimp only at *); (repeat' split) <;> first | rfl | (exfalso; simp_all; done)⟩
          · skip
            by_cases h62 : lv.2.1.1 = 62
            · have hb : vp_in lv.2.1.2.1 6 ∧ vp_in lv.2.1.2.2.2.1 6 := by
                rcases obs_has ho with h9 | ⟨h9, h8⟩
                · rw [h9] at h62
                  exact absurd h62 (by decide)
                · exact ⟨has_in h9, has_in h8⟩
              refine go_lookup (off := 106) (tgt := 110) dX0_apply_4 (by decide) (by rw [h62]; decide) (by decide) ?_
              refine go_aload_n dX0_apply_110 rfl ?_
              refine go_aload_n dX0_apply_111 rfl ?_
              refine go_get dX0_apply_112 fX0_15 rfl rfl ?_
              refine go_aload_n dX0_apply_115 rfl ?_
              refine go_get dX0_apply_116 fX0_21 rfl rfl ?_
              refine go_aload_n dX0_apply_119 rfl ?_
              refine go_get dX0_apply_120 fX0_24 rfl rfl ?_
              refine go_cVv (as := [_, _, _]) dX0_apply_123 mX1_move kX0_68 iX1_move sX1_move rfl rfl rfl rfl (rX1_move_ag hb.1 hb.2) rfl rfl rfl ?_
              refine go_goto (tgt := 193) dX0_apply_126 (by decide) ?_
              refine go_vret dX0_apply_193 rfl rfl ?_
              exact ⟨rfl, by unfold appF; (try dsimp only at *); (repeat' split) <;> first | rfl | (exfalso; simp_all; done)⟩
            · skip
              refine go_lookup (off := 179) (tgt := 183) dX0_apply_4 (by decide) (by show Op.lookupswitch.offset [(33, 75), (42, 90), (49, 60), (60, 160), (61, 125), (62, 106)] 179 _ = _; rw [lv_osw (a := 33) h33 (by decide), lv_osw (a := 42) h42 (by decide), lv_osw (a := 49) h49 (by decide), lv_osw (a := 60) h60 (by decide), lv_osw (a := 61) h61 (by decide), lv_osw (a := 62) h62 (by decide)]; rfl) (by decide) ?_
              refine go_aload_n dX0_apply_183 rfl ?_
              refine go_dup dX0_apply_184 rfl ?_
              refine go_get dX0_apply_185 fX0_37 rfl rfl ?_
              refine go_iconst (v := 1) dX0_apply_188 (by decide) ?_
              refine go_iadd dX0_apply_189 ?_
              refine go_put dX0_apply_190 fX0_37 (fun _ => rfl) (fun _ => rfl) rfl rfl ?_
              refine go_vret dX0_apply_193 rfl rfl ?_
              exact ⟨rfl, by unfold appF; (try dsimp only at *); (repeat' split) <;> first | rfl | (exfalso; simp_all; done)⟩
def taF (l : LivesS) : LivesS :=
  if obsF l.2.1 l.1 = 0 then (appF l.2.1 l.1, l.2.1, l.2.2.1 + 1, l.2.2.2.1, l.2.2.2.2.1, (if l.2.1.1 = 49 then l.2.2.2.2.2.1 + 1 else l.2.2.2.2.2.1),
    (if l.2.2.2.2.2.2 = -6 then (if orB (bareB (appF l.2.1 l.1)) 6 &&& (orB (bareB l.1) 6 ^^^ (-1)) = 0 then l.2.2.2.2.2.2 else l.2.2.1) else l.2.2.2.2.2.2))
  else (l.1, l.2.1, l.2.2.1, l.2.2.1, obsF l.2.1 l.1, l.2.2.2.2.2)
set_option maxRecDepth 100000 in
set_option maxHeartbeats 4000000 in
theorem rX2_tellAct {E : gE} {d : Nat} {nw i0 i1 : WorldS} {pd : PadS} {lv : LivesS} {pl : PlanS} {mt : MatS} {nt : NetS} {m : ModS} : Ret E yX2_tellAct cX2_tellAct 3 none (d + 4) 0 0 [.ref 34] (hp nw i0 i1 pd lv pl mt nt m) (dt none (hp nw i0 i1 pd (taF lv) pl mt nt m)) := by
  refine ret_of_go (L := [_, _, _]) (by decide) (Nat.le_of_ble_eq_true rfl) rfl ?_
  refine go_aload_n dX2_tellAct_0 rfl ?_
  refine go_get dX2_tellAct_1 fX2_21 rfl rfl ?_
  refine go_aload_n dX2_tellAct_4 rfl ?_
  refine go_get dX2_tellAct_5 fX2_12 rfl rfl ?_
  refine go_cV (as := [_]) dX2_tellAct_8 mX0_obstacle kX2_60 iX0_obstacle sX0_obstacle rfl rfl rfl rfl (rX0_obstacle) rfl rfl rfl ?_
  refine go_istore_n (L' := [_, _, _]) dX2_tellAct_11 rfl rfl rfl ?_
  refine go_iload_n dX2_tellAct_12 rfl ?_
  refine go_if_eq (tgt := 30) dX2_tellAct_13 (by decide) (fun q13 => ?_) (fun q13 => ?_)
  · refine go_aload_n dX2_tellAct_30 rfl ?_
    refine go_get dX2_tellAct_31 fX2_12 rfl rfl ?_
    refine go_cV (as := []) dX2_tellAct_34 mX1_bare kX2_64 iX1_bare sX1_bare rfl rfl rfl rfl (rX1_bare_a) rfl rfl rfl ?_
    refine go_istore_n (L' := [_, _, _]) dX2_tellAct_37 rfl rfl rfl ?_
    refine go_aload_n dX2_tellAct_38 rfl ?_
    refine go_get dX2_tellAct_39 fX2_21 rfl rfl ?_
    refine go_aload_n dX2_tellAct_42 rfl ?_
    refine go_get dX2_tellAct_43 fX2_12 rfl rfl ?_
    refine go_cVv (as := [_]) dX2_tellAct_46 mX0_apply kX2_68 iX0_apply sX0_apply rfl rfl rfl rfl (rX0_apply q13) rfl rfl rfl ?_
    refine go_aload_n dX2_tellAct_49 rfl ?_
    refine go_get dX2_tellAct_50 fX2_42 rfl rfl ?_
    refine go_bipush (v := (-6)) dX2_tellAct_53 (by decide) ?_
    refine go_icmp_ne (tgt := 80) dX2_tellAct_55 (by decide) (fun q55 => ?_) (fun q55 => ?_)
    · refine go_aload_n dX2_tellAct_80 rfl ?_
      refine go_get dX2_tellAct_81 fX2_21 rfl rfl ?_
      refine go_get dX2_tellAct_84 fX2_71 rfl rfl ?_
      refine go_bipush (v := 49) dX2_tellAct_87 (by decide) ?_
      refine go_icmp_ne (tgt := 102) dX2_tellAct_89 (by decide) (fun q89 => ?_) (fun q89 => ?_)
      · refine go_aload_n dX2_tellAct_102 rfl ?_
        refine go_dup dX2_tellAct_103 rfl ?_
        refine go_get dX2_tellAct_104 fX2_29 rfl rfl ?_
        refine go_iconst (v := 1) dX2_tellAct_107 (by decide) ?_
        refine go_iadd dX2_tellAct_108 ?_
        refine go_put dX2_tellAct_109 fX2_29 (fun _ => rfl) (fun _ => rfl) rfl rfl ?_
        refine go_vret dX2_tellAct_112 rfl rfl ?_
        exact ⟨rfl, by unfold taF; (try dsimp only at *); (repeat' split) <;> first | rfl | (exfalso; simp_all; done)⟩
      · refine go_aload_n dX2_tellAct_92 rfl ?_
        refine go_dup dX2_tellAct_93 rfl ?_
        refine go_get dX2_tellAct_94 fX2_39 rfl rfl ?_
        refine go_iconst (v := 1) dX2_tellAct_97 (by decide) ?_
        refine go_iadd dX2_tellAct_98 ?_
        refine go_put dX2_tellAct_99 fX2_39 (fun _ => rfl) (fun _ => rfl) rfl rfl ?_
        refine go_aload_n dX2_tellAct_102 rfl ?_
        refine go_dup dX2_tellAct_103 rfl ?_
        refine go_get dX2_tellAct_104 fX2_29 rfl rfl ?_
        refine go_iconst (v := 1) dX2_tellAct_107 (by decide) ?_
        refine go_iadd dX2_tellAct_108 ?_
        refine go_put dX2_tellAct_109 fX2_29 (fun _ => rfl) (fun _ => rfl) rfl rfl ?_
        refine go_vret dX2_tellAct_112 rfl rfl ?_
        exact ⟨rfl, by unfold taF; (try dsimp only at *); (repeat' split) <;> first | rfl | (exfalso; simp_all; done)⟩
    · refine go_aload_n dX2_tellAct_58 rfl ?_
      refine go_get dX2_tellAct_59 fX2_12 rfl rfl ?_
      refine go_cV (as := []) dX2_tellAct_62 mX1_bare kX2_64 iX1_bare sX1_bare rfl rfl rfl rfl (rX1_bare_a) rfl rfl rfl ?_
      refine go_iload_n dX2_tellAct_65 rfl ?_
      refine go_iconst (v := (-1)) dX2_tellAct_66 (by decide) ?_
      refine go_ixor dX2_tellAct_67 ?_
      refine go_iand dX2_tellAct_68 ?_
      refine go_if_eq (tgt := 80) dX2_tellAct_69 (by decide) (fun q69 => ?_) (fun q69 => ?_)
      · refine go_aload_n dX2_tellAct_80 rfl ?_
        refine go_get dX2_tellAct_81 fX2_21 rfl rfl ?_
        refine go_get dX2_tellAct_84 fX2_71 rfl rfl ?_
        refine go_bipush (v := 49) dX2_tellAct_87 (by decide) ?_
        refine go_icmp_ne (tgt := 102) dX2_tellAct_89 (by decide) (fun q89 => ?_) (fun q89 => ?_)
        · refine go_aload_n dX2_tellAct_102 rfl ?_
          refine go_dup dX2_tellAct_103 rfl ?_
          refine go_get dX2_tellAct_104 fX2_29 rfl rfl ?_
          refine go_iconst (v := 1) dX2_tellAct_107 (by decide) ?_
          refine go_iadd dX2_tellAct_108 ?_
          refine go_put dX2_tellAct_109 fX2_29 (fun _ => rfl) (fun _ => rfl) rfl rfl ?_
          refine go_vret dX2_tellAct_112 rfl rfl ?_
          exact ⟨rfl, by unfold taF; (try dsimp only at *); (repeat' split) <;> first | rfl | (exfalso; simp_all; done)⟩
        · refine go_aload_n dX2_tellAct_92 rfl ?_
          refine go_dup dX2_tellAct_93 rfl ?_
          refine go_get dX2_tellAct_94 fX2_39 rfl rfl ?_
          refine go_iconst (v := 1) dX2_tellAct_97 (by decide) ?_
          refine go_iadd dX2_tellAct_98 ?_
          refine go_put dX2_tellAct_99 fX2_39 (fun _ => rfl) (fun _ => rfl) rfl rfl ?_
          refine go_aload_n dX2_tellAct_102 rfl ?_
          refine go_dup dX2_tellAct_103 rfl ?_
          refine go_get dX2_tellAct_104 fX2_29 rfl rfl ?_
          refine go_iconst (v := 1) dX2_tellAct_107 (by decide) ?_
          refine go_iadd dX2_tellAct_108 ?_
          refine go_put dX2_tellAct_109 fX2_29 (fun _ => rfl) (fun _ => rfl) rfl rfl ?_
          refine go_vret dX2_tellAct_112 rfl rfl ?_
          exact ⟨rfl, by unfold taF; (try dsimp only at *); (repeat' split) <;> first | rfl | (exfalso; simp_all; done)⟩
      · refine go_aload_n dX2_tellAct_72 rfl ?_
        refine go_aload_n dX2_tellAct_73 rfl ?_
        refine go_get dX2_tellAct_74 fX2_29 rfl rfl ?_
        refine go_put dX2_tellAct_77 fX2_42 (fun _ => rfl) (fun _ => rfl) rfl rfl ?_
        refine go_aload_n dX2_tellAct_80 rfl ?_
        refine go_get dX2_tellAct_81 fX2_21 rfl rfl ?_
        refine go_get dX2_tellAct_84 fX2_71 rfl rfl ?_
        refine go_bipush (v := 49) dX2_tellAct_87 (by decide) ?_
        refine go_icmp_ne (tgt := 102) dX2_tellAct_89 (by decide) (fun q89 => ?_) (fun q89 => ?_)
        · refine go_aload_n dX2_tellAct_102 rfl ?_
          refine go_dup dX2_tellAct_103 rfl ?_
          refine go_get dX2_tellAct_104 fX2_29 rfl rfl ?_
          refine go_iconst (v := 1) dX2_tellAct_107 (by decide) ?_
          refine go_iadd dX2_tellAct_108 ?_
          refine go_put dX2_tellAct_109 fX2_29 (fun _ => rfl) (fun _ => rfl) rfl rfl ?_
          refine go_vret dX2_tellAct_112 rfl rfl ?_
          exact ⟨rfl, by unfold taF; (try dsimp only at *); (repeat' split) <;> first | rfl | (exfalso; simp_all; done)⟩
        · refine go_aload_n dX2_tellAct_92 rfl ?_
          refine go_dup dX2_tellAct_93 rfl ?_
          refine go_get dX2_tellAct_94 fX2_39 rfl rfl ?_
          refine go_iconst (v := 1) dX2_tellAct_97 (by decide) ?_
          refine go_iadd dX2_tellAct_98 ?_
          refine go_put dX2_tellAct_99 fX2_39 (fun _ => rfl) (fun _ => rfl) rfl rfl ?_
          refine go_aload_n dX2_tellAct_102 rfl ?_
          refine go_dup dX2_tellAct_103 rfl ?_
          refine go_get dX2_tellAct_104 fX2_29 rfl rfl ?_
          refine go_iconst (v := 1) dX2_tellAct_107 (by decide) ?_
          refine go_iadd dX2_tellAct_108 ?_
          refine go_put dX2_tellAct_109 fX2_29 (fun _ => rfl) (fun _ => rfl) rfl rfl ?_
          refine go_vret dX2_tellAct_112 rfl rfl ?_
          exact ⟨rfl, by unfold taF; (try dsimp only at *); (repeat' split) <;> first | rfl | (exfalso; simp_all; done)⟩
  · refine go_aload_n dX2_tellAct_16 rfl ?_
    refine go_aload_n dX2_tellAct_17 rfl ?_
    refine go_get dX2_tellAct_18 fX2_29 rfl rfl ?_
    refine go_put dX2_tellAct_21 fX2_33 (fun _ => rfl) (fun _ => rfl) rfl rfl ?_
    refine go_aload_n dX2_tellAct_24 rfl ?_
    refine go_iload_n dX2_tellAct_25 rfl ?_
    refine go_put dX2_tellAct_26 fX2_36 (fun _ => rfl) (fun _ => rfl) rfl rfl ?_
    refine go_vret dX2_tellAct_29 rfl rfl ?_
    exact ⟨rfl, by unfold taF; (try dsimp only at *); (repeat' split) <;> first | rfl | (exfalso; simp_all; done)⟩
def tlR (S : Nat → Int32) (c : Nat) : Nat → Nat → LivesS → LivesS
  | 0, _, l => l
  | n + 1, j, l => if j < c then (if l.2.2.2.1 = -6 then tlR S c n (j + lenR S c j) (taF (l.1, actR S c j, l.2.2)) else l) else l
def tellF (F : FolkS) (A : ActS) (S : Nat → Int32) (c : Nat) : LivesS := tlR S c 60 0 (F, A, 0, -6, -6, 0, -6)
set_option maxRecDepth 100000 in
set_option maxHeartbeats 4000000 in
theorem rX2_tell {E : gE} {d : Nat} {nw i0 i1 : WorldS} {lv : LivesS} {pl : PlanS} {mt : MatS} {nt : NetS} {m : ModS} {S : Nat → Int32} {c : Nat} (hc : c ≤ 60) : Ret E yX2_tell cX2_tell 5 none (d + 5) 0 0 [.ref 34, .ref 2, .ref 32] (hp nw i0 i1 (S, nI c) lv pl mt nt m) (dt none (hp nw i0 i1 (S, nI c) (tellF nw.1 lv.2.1 S c) pl mt nt m)) := by
  refine ret_of_go (L := [_, _, _, _, _]) (by decide) (Nat.le_of_ble_eq_true rfl) rfl ?_
  have key : ∀ (n k j : Nat) (l : LivesS), k + n = 60 → j ≤ 63 → tlR S c n j l = tellF nw.1 lv.2.1 S c → Go E yX2_tell cX2_tell 5 none (d + 5) 0 0 0 0 41 [some (.ref 34), some (.ref 2), some (.ref 32), some (.int (nI j)), some (.int (nI k))] [] (hp nw i0 i1 (S, nI c) l pl mt nt m) (dt none (hp nw i0 i1 (S, nI c) (tellF nw.1 lv.2.1 S c) pl mt nt m)) := by
    intro n
    induction n with
    | zero =>
      intro k j l hk hj hf
      obtain rfl : k = 60 := by omega
      rw [tlR] at hf
      rw [← hf]
      refine go_iload dX2_tell_41 rfl ?_
      refine go_bipush (v := 60) dX2_tell_43 (by decide) ?_
      refine go_icmp_ge (tgt := 94) dX2_tell_45 (by decide) (fun q45 => ?_) (fun q => absurd (nI_le (a := 60) (b := 60) (by decide) (by decide)) q)
      refine go_vret dX2_tell_94 rfl rfl ?_
      exact ⟨rfl, rfl⟩
    | succ n ih =>
      intro k j l hk hj hf
      rw [tlR] at hf
      by_cases h1 : j < c
      · rw [if_pos h1] at hf
        by_cases h2 : l.2.2.2.1 = -6
        · rw [if_pos h2] at hf
          have hle := lenR_in S c j
          have hrd : ∀ l : LivesS, (l.1, l.2) = l := fun _ => rfl
          refine go_iload dX2_tell_41 rfl ?_
          refine go_bipush (v := 60) dX2_tell_43 (by decide) ?_
          refine go_icmp_ge (tgt := 94) dX2_tell_45 (by decide) (fun q => absurd q (nI_ge (a := k) (b := 60) (by omega) (by decide))) (fun q45 => ?_)
          refine go_iload_n dX2_tell_48 rfl ?_
          refine go_aload_n dX2_tell_49 rfl ?_
          refine go_get dX2_tell_50 fX2_45 rfl rfl ?_
          refine go_icmp_ge (tgt := 94) dX2_tell_53 (by decide) (fun q => absurd q (nI_ge (a := j) (b := c) (by omega) (by omega))) (fun q53 => ?_)
          refine go_aload_n dX2_tell_56 rfl ?_
          refine go_get dX2_tell_57 fX2_33 rfl rfl ?_
          refine go_bipush (v := (-6)) dX2_tell_60 (by decide) ?_
          refine go_icmp_ne (tgt := 94) dX2_tell_62 (by decide) (fun q => absurd h2 q) (fun q62 => ?_)
          refine go_aload_n dX2_tell_65 rfl ?_
          refine go_get dX2_tell_66 fX2_21 rfl rfl ?_
          refine go_aload_n dX2_tell_69 rfl ?_
          refine go_iload_n dX2_tell_70 rfl ?_
          refine go_cVv (as := [_, _]) dX2_tell_71 mX0_read kX2_50 iX0_read sX0_read rfl rfl rfl rfl (rX0_read (j := j) hc (by omega)) rfl rfl rfl ?_
          refine go_iload_n dX2_tell_74 rfl ?_
          refine go_aload_n dX2_tell_75 rfl ?_
          refine go_get dX2_tell_76 fX2_21 rfl rfl ?_
          refine go_get dX2_tell_79 fX2_54 rfl rfl ?_
          refine go_iadd dX2_tell_82 ?_
          refine go_topi_eq (x := nI (j + lenR S c j)) (by show nI j + (actR S c j).2.2.2.2 = _; rw [actR_len, nI_add]) ?_
          refine go_istore_n (L' := [_, _, _, _, _]) dX2_tell_83 rfl rfl rfl ?_
          refine go_aload_n dX2_tell_84 rfl ?_
          refine go_cVv (as := []) dX2_tell_85 mX2_tellAct kX2_57 iX2_tellAct sX2_tellAct rfl rfl rfl rfl (rX2_tellAct) rfl rfl rfl ?_
          refine go_iinc (v := nI (k + 1)) (L' := [_, _, _, _, _]) dX2_tell_88 rfl (nI_1 k) rfl rfl rfl ?_
          refine go_goto (tgt := 41) dX2_tell_91 (by decide) ?_
          exact ih (k + 1) (j + lenR S c j) _ (by omega) (by omega) hf
        · rw [if_neg h2] at hf
          rw [← hf]
          refine go_iload dX2_tell_41 rfl ?_
          refine go_bipush (v := 60) dX2_tell_43 (by decide) ?_
          refine go_icmp_ge (tgt := 94) dX2_tell_45 (by decide) (fun q => absurd q (nI_ge (a := k) (b := 60) (by omega) (by decide))) (fun q45 => ?_)
          refine go_iload_n dX2_tell_48 rfl ?_
          refine go_aload_n dX2_tell_49 rfl ?_
          refine go_get dX2_tell_50 fX2_45 rfl rfl ?_
          refine go_icmp_ge (tgt := 94) dX2_tell_53 (by decide) (fun q => absurd q (nI_ge (a := j) (b := c) (by omega) (by omega))) (fun q53 => ?_)
          refine go_aload_n dX2_tell_56 rfl ?_
          refine go_get dX2_tell_57 fX2_33 rfl rfl ?_
          refine go_bipush (v := (-6)) dX2_tell_60 (by decide) ?_
          refine go_icmp_ne (tgt := 94) dX2_tell_62 (by decide) (fun q62 => ?_) (fun q => absurd q h2)
          refine go_vret dX2_tell_94 rfl rfl ?_
          exact ⟨rfl, rfl⟩
      · rw [if_neg h1] at hf
        rw [← hf]
        refine go_iload dX2_tell_41 rfl ?_
        refine go_bipush (v := 60) dX2_tell_43 (by decide) ?_
        refine go_icmp_ge (tgt := 94) dX2_tell_45 (by decide) (fun q => absurd q (nI_ge (a := k) (b := 60) (by omega) (by decide))) (fun q45 => ?_)
        refine go_iload_n dX2_tell_48 rfl ?_
        refine go_aload_n dX2_tell_49 rfl ?_
        refine go_get dX2_tell_50 fX2_45 rfl rfl ?_
        refine go_icmp_ge (tgt := 94) dX2_tell_53 (by decide) (fun q53 => ?_) (fun q => absurd (nI_le (a := c) (b := j) (by omega) (by omega)) q)
        refine go_vret dX2_tell_94 rfl rfl ?_
        exact ⟨rfl, rfl⟩
  refine go_aload_n dX2_tell_0 rfl ?_
  refine go_get dX2_tell_1 fX2_12 rfl rfl ?_
  refine go_aload_n dX2_tell_4 rfl ?_
  refine go_cVv (as := [_]) dX2_tell_5 mX1_copyFrom kX2_25 iX1_copyFrom sX1_copyFrom rfl rfl rfl rfl (rX1_copyFrom_an) rfl rfl rfl ?_
  refine go_aload_n dX2_tell_8 rfl ?_
  refine go_iconst (v := 0) dX2_tell_9 (by decide) ?_
  refine go_put dX2_tell_10 fX2_29 (fun _ => rfl) (fun _ => rfl) rfl rfl ?_
  refine go_aload_n dX2_tell_13 rfl ?_
  refine go_bipush (v := (-6)) dX2_tell_14 (by decide) ?_
  refine go_put dX2_tell_16 fX2_33 (fun _ => rfl) (fun _ => rfl) rfl rfl ?_
  refine go_aload_n dX2_tell_19 rfl ?_
  refine go_bipush (v := (-6)) dX2_tell_20 (by decide) ?_
  refine go_put dX2_tell_22 fX2_36 (fun _ => rfl) (fun _ => rfl) rfl rfl ?_
  refine go_aload_n dX2_tell_25 rfl ?_
  refine go_iconst (v := 0) dX2_tell_26 (by decide) ?_
  refine go_put dX2_tell_27 fX2_39 (fun _ => rfl) (fun _ => rfl) rfl rfl ?_
  refine go_aload_n dX2_tell_30 rfl ?_
  refine go_bipush (v := (-6)) dX2_tell_31 (by decide) ?_
  refine go_put dX2_tell_33 fX2_42 (fun _ => rfl) (fun _ => rfl) rfl rfl ?_
  refine go_iconst (v := 0) dX2_tell_36 (by decide) ?_
  refine go_istore_n (L' := [_, _, _, _, _]) dX2_tell_37 rfl rfl rfl ?_
  refine go_iconst (v := 0) dX2_tell_38 (by decide) ?_
  refine go_istore (L' := [_, _, _, _, _]) dX2_tell_39 rfl rfl rfl ?_
  exact key 60 0 0 (nw.1, lv.2.1, 0, -6, -6, 0, -6) rfl (by omega) rfl
def rmI (a b : Int32) : Int32 := a - a / b * b
/-- folk, forged, x behind n years -/
def dwR (F : FolkS) (x : Int32) : Nat → FolkS × Int32 × Int32
  | 0 => (F, 0, x)
  | n + 1 =>
    let q := dwR F x n
    let x2 := rmI (75 * q.2.2 + 74) 65537
    let p := rmI x2 6
    let g := 1 + rmI (x2 / 6) 9
    if hasB q.1.1 p then (if fs_ q.1 p.toNatClampNeg ≤ 0 then (forgeF q.1 p.toNatClampNeg g, q.2.1 + 1, x2) else (signF q.1 p.toNatClampNeg g, q.2.1, x2)) else (q.1, q.2.1, x2)
set_option maxRecDepth 100000 in
set_option maxHeartbeats 4000000 in
theorem rX2_draw {E : gE} {d : Nat} {nw i0 i1 : WorldS} {pd : PadS} {lv : LivesS} {pl : PlanS} {mt : MatS} {nt : NetS} {m : ModS} {x : Int32} {my : Nat} (hm : my ≤ 100) : Ret E yX2_draw cX2_draw 9 (some .int) (d + 5) 0 0 [.ref 34, .ref 2, .int x, .int (nI my)] (hp nw i0 i1 pd lv pl mt nt m) (dt (some (.int (dwR nw.1 x my).2.1)) (hp nw i0 i1 pd ((dwR nw.1 x my).1, lv.2) pl mt nt m)) := by
  refine ret_of_go (L := [_, _, _, _, _, _, _, _, _]) (by decide) (Nat.le_of_ble_eq_true rfl) rfl ?_
  have key : ∀ (n k : Nat) (F : FolkS) (fo z : Int32) (a7 a8 : Option Value), k + n = my → (F, fo, z) = dwR nw.1 x k → Go E yX2_draw cX2_draw 9 (some .int) (d + 5) 0 0 0 0 17 [some (.ref 34), some (.ref 2), some (.int x), some (.int (nI my)), some (.int fo), some (.int z), some (.int (nI k)), a7, a8] [] (hp nw i0 i1 pd (F, lv.2) pl mt nt m) (dt (some (.int (dwR nw.1 x my).2.1)) (hp nw i0 i1 pd ((dwR nw.1 x my).1, lv.2) pl mt nt m)) := by
    intro n
    induction n with
    | zero =>
      intro k F fo z a7 a8 hk hf
      obtain rfl : k = my := by omega
      rw [← hf]
      refine go_iload dX2_draw_17 rfl ?_
      refine go_iload_n dX2_draw_19 rfl ?_
      refine go_icmp_ge (tgt := 126) dX2_draw_20 (by decide) (fun q20 => ?_) (fun q => absurd (nI_le (Nat.le_refl _) (by omega)) q)
      refine go_iload dX2_draw_126 rfl ?_
      refine go_iret dX2_draw_128 rfl rfl ?_
      exact ⟨rfl, rfl⟩
    | succ n ih =>
      intro k F fo z a7 a8 hk hf
      have hs : dwR nw.1 x (k + 1) = (let x2 := rmI (75 * z + 74) 65537; let p := rmI x2 6; let g := 1 + rmI (x2 / 6) 9; if hasB F.1 p then (if fs_ F p.toNatClampNeg ≤ 0 then (forgeF F p.toNatClampNeg g, fo + 1, x2) else (signF F p.toNatClampNeg g, fo, x2)) else (F, fo, x2)) := by rw [dwR, ← hf]
      dsimp only at hs
      refine go_iload dX2_draw_17 rfl ?_
      refine go_iload_n dX2_draw_19 rfl ?_
      refine go_icmp_ge (tgt := 126) dX2_draw_20 (by decide) (fun q => absurd q (nI_ge (a := k) (b := my) (by omega) (by omega))) (fun q20 => ?_)
      refine go_bipush (v := 75) dX2_draw_23 (by decide) ?_
      refine go_iload dX2_draw_25 rfl ?_
      refine go_imul dX2_draw_27 ?_
      refine go_bipush (v := 74) dX2_draw_28 (by decide) ?_
      refine go_iadd dX2_draw_30 ?_
      refine go_ldc dX2_draw_31 nX2_74 ?_
      refine go_irem dX2_draw_33 (by decide) ?_
      refine go_istore (L' := [_, _, _, _, _, _, _, _, _]) dX2_draw_34 rfl rfl rfl ?_
      refine go_iload dX2_draw_36 rfl ?_
      refine go_bipush (v := 6) dX2_draw_38 (by decide) ?_
      refine go_irem dX2_draw_40 (by decide) ?_
      refine go_istore (L' := [_, _, _, _, _, _, _, _, _]) dX2_draw_41 rfl rfl rfl ?_
      refine go_iconst (v := 1) dX2_draw_43 (by decide) ?_
      refine go_iload dX2_draw_44 rfl ?_
      refine go_bipush (v := 6) dX2_draw_46 (by decide) ?_
      refine go_idiv dX2_draw_48 (by decide) ?_
      refine go_bipush (v := 9) dX2_draw_49 (by decide) ?_
      refine go_irem dX2_draw_51 (by decide) ?_
      refine go_iadd dX2_draw_52 ?_
      refine go_istore (L' := [_, _, _, _, _, _, _, _, _]) dX2_draw_53 rfl rfl rfl ?_
      refine go_aload_n dX2_draw_55 rfl ?_
      refine go_get dX2_draw_56 fX2_12 rfl rfl ?_
      refine go_iload dX2_draw_59 rfl ?_
      refine go_cV (as := [_]) dX2_draw_61 mX1_has kX2_75 iX1_has sX1_has rfl rfl rfl rfl (rX1_has_a) rfl rfl rfl ?_
      refine go_bif_eq (tgt := 94) dX2_draw_64 (by decide) (fun q64 => ?_) (fun q64 => ?_)
      · refine go_aload_n dX2_draw_94 rfl ?_
        refine go_get dX2_draw_95 fX2_12 rfl rfl ?_
        refine go_iload dX2_draw_98 rfl ?_
        refine go_cV (as := [_]) dX2_draw_100 mX1_has kX2_75 iX1_has sX1_has rfl rfl rfl rfl (rX1_has_a) rfl rfl rfl ?_
        refine go_bif_eq (tgt := 120) dX2_draw_103 (by decide) (fun q103 => ?_) (fun q103 => ?_)
        · refine go_iinc (v := nI (k + 1)) (L' := [_, _, _, _, _, _, _, _, _]) dX2_draw_120 rfl (nI_1 k) rfl rfl rfl ?_
          refine go_goto (tgt := 17) dX2_draw_123 (by decide) ?_
          exact ih (k + 1) _ _ _ _ _ (by omega) (by rw [hs]; first | (rw [if_pos (show hasB F.1 (rmI (rmI (75 * z + 74) 65537) 6) = true from q64), if_neg (show ¬ fs_ F (rmI (rmI (75 * z + 74) 65537) 6).toNatClampNeg ≤ 0 from q77)]; rfl) | (rw [if_pos (show hasB F.1 (rmI (rmI (75 * z + 74) 65537) 6) = true from q64), if_pos (show fs_ F (rmI (rmI (75 * z + 74) 65537) 6).toNatClampNeg ≤ 0 from q77)]; rfl) | (rw [if_neg (show ¬ hasB F.1 (rmI (rmI (75 * z + 74) 65537) 6) = true from fun z9 => absurd (q64.symm.trans z9) (by decide))]; rfl) | exact absurd (q64.symm.trans q103) (by decide) | exact absurd (q103.symm.trans q64) (by decide))
        · refine go_aload_n dX2_draw_106 rfl ?_
          refine go_get dX2_draw_107 fX2_12 rfl rfl ?_
          refine go_iload dX2_draw_110 rfl ?_
          refine go_iload dX2_draw_112 rfl ?_
          refine go_cVv (as := [_, _]) dX2_draw_114 mX1_forgeAct kX2_87 iX1_forgeAct sX1_forgeAct rfl rfl rfl rfl (rX1_forgeAct_ag (has_in q103)) rfl rfl rfl ?_
          refine go_iinc (L' := [_, _, _, _, _, _, _, _, _]) dX2_draw_117 rfl rfl rfl rfl rfl ?_
          refine go_iinc (v := nI (k + 1)) (L' := [_, _, _, _, _, _, _, _, _]) dX2_draw_120 rfl (nI_1 k) rfl rfl rfl ?_
          refine go_goto (tgt := 17) dX2_draw_123 (by decide) ?_
          exact ih (k + 1) _ _ _ _ _ (by omega) (by rw [hs]; first | (rw [if_pos (show hasB F.1 (rmI (rmI (75 * z + 74) 65537) 6) = true from q64), if_neg (show ¬ fs_ F (rmI (rmI (75 * z + 74) 65537) 6).toNatClampNeg ≤ 0 from q77)]; rfl) | (rw [if_pos (show hasB F.1 (rmI (rmI (75 * z + 74) 65537) 6) = true from q64), if_pos (show fs_ F (rmI (rmI (75 * z + 74) 65537) 6).toNatClampNeg ≤ 0 from q77)]; rfl) | (rw [if_neg (show ¬ hasB F.1 (rmI (rmI (75 * z + 74) 65537) 6) = true from fun z9 => absurd (q64.symm.trans z9) (by decide))]; rfl) | exact absurd (q64.symm.trans q103) (by decide) | exact absurd (q103.symm.trans q64) (by decide))
      · refine go_aload_n dX2_draw_67 rfl ?_
        refine go_get dX2_draw_68 fX2_12 rfl rfl ?_
        refine go_get dX2_draw_71 fX2_79 rfl rfl ?_
        refine go_iload dX2_draw_74 rfl ?_
        refine go_iald dX2_draw_76 rfl (has_in q64) ?_
        refine go_if_le (tgt := 94) dX2_draw_77 (by decide) (fun q77 => ?_) (fun q77 => ?_)
        · refine go_aload_n dX2_draw_94 rfl ?_
          refine go_get dX2_draw_95 fX2_12 rfl rfl ?_
          refine go_iload dX2_draw_98 rfl ?_
          refine go_cV (as := [_]) dX2_draw_100 mX1_has kX2_75 iX1_has sX1_has rfl rfl rfl rfl (rX1_has_a) rfl rfl rfl ?_
          refine go_bif_eq (tgt := 120) dX2_draw_103 (by decide) (fun q103 => ?_) (fun q103 => ?_)
          · refine go_iinc (v := nI (k + 1)) (L' := [_, _, _, _, _, _, _, _, _]) dX2_draw_120 rfl (nI_1 k) rfl rfl rfl ?_
            refine go_goto (tgt := 17) dX2_draw_123 (by decide) ?_
            exact ih (k + 1) _ _ _ _ _ (by omega) (by rw [hs]; first | (rw [if_pos (show hasB F.1 (rmI (rmI (75 * z + 74) 65537) 6) = true from q64), if_neg (show ¬ fs_ F (rmI (rmI (75 * z + 74) 65537) 6).toNatClampNeg ≤ 0 from q77)]; rfl) | (rw [if_pos (show hasB F.1 (rmI (rmI (75 * z + 74) 65537) 6) = true from q64), if_pos (show fs_ F (rmI (rmI (75 * z + 74) 65537) 6).toNatClampNeg ≤ 0 from q77)]; rfl) | (rw [if_neg (show ¬ hasB F.1 (rmI (rmI (75 * z + 74) 65537) 6) = true from fun z9 => absurd (q64.symm.trans z9) (by decide))]; rfl) | exact absurd (q64.symm.trans q103) (by decide) | exact absurd (q103.symm.trans q64) (by decide))
          · refine go_aload_n dX2_draw_106 rfl ?_
            refine go_get dX2_draw_107 fX2_12 rfl rfl ?_
            refine go_iload dX2_draw_110 rfl ?_
            refine go_iload dX2_draw_112 rfl ?_
            refine go_cVv (as := [_, _]) dX2_draw_114 mX1_forgeAct kX2_87 iX1_forgeAct sX1_forgeAct rfl rfl rfl rfl (rX1_forgeAct_ag (has_in q103)) rfl rfl rfl ?_
            refine go_iinc (L' := [_, _, _, _, _, _, _, _, _]) dX2_draw_117 rfl rfl rfl rfl rfl ?_
            refine go_iinc (v := nI (k + 1)) (L' := [_, _, _, _, _, _, _, _, _]) dX2_draw_120 rfl (nI_1 k) rfl rfl rfl ?_
            refine go_goto (tgt := 17) dX2_draw_123 (by decide) ?_
            exact ih (k + 1) _ _ _ _ _ (by omega) (by rw [hs]; first | (rw [if_pos (show hasB F.1 (rmI (rmI (75 * z + 74) 65537) 6) = true from q64), if_neg (show ¬ fs_ F (rmI (rmI (75 * z + 74) 65537) 6).toNatClampNeg ≤ 0 from q77)]; rfl) | (rw [if_pos (show hasB F.1 (rmI (rmI (75 * z + 74) 65537) 6) = true from q64), if_pos (show fs_ F (rmI (rmI (75 * z + 74) 65537) 6).toNatClampNeg ≤ 0 from q77)]; rfl) | (rw [if_neg (show ¬ hasB F.1 (rmI (rmI (75 * z + 74) 65537) 6) = true from fun z9 => absurd (q64.symm.trans z9) (by decide))]; rfl) | exact absurd (q64.symm.trans q103) (by decide) | exact absurd (q103.symm.trans q64) (by decide))
        · refine go_aload_n dX2_draw_80 rfl ?_
          refine go_get dX2_draw_81 fX2_12 rfl rfl ?_
          refine go_iload dX2_draw_84 rfl ?_
          refine go_iload dX2_draw_86 rfl ?_
          refine go_cVv (as := [_, _]) dX2_draw_88 mX1_signAct kX2_83 iX1_signAct sX1_signAct rfl rfl rfl rfl (rX1_signAct_ag (has_in q64)) rfl rfl rfl ?_
          refine go_goto (tgt := 120) dX2_draw_91 (by decide) ?_
          refine go_iinc (v := nI (k + 1)) (L' := [_, _, _, _, _, _, _, _, _]) dX2_draw_120 rfl (nI_1 k) rfl rfl rfl ?_
          refine go_goto (tgt := 17) dX2_draw_123 (by decide) ?_
          exact ih (k + 1) _ _ _ _ _ (by omega) (by rw [hs]; first | (rw [if_pos (show hasB F.1 (rmI (rmI (75 * z + 74) 65537) 6) = true from q64), if_neg (show ¬ fs_ F (rmI (rmI (75 * z + 74) 65537) 6).toNatClampNeg ≤ 0 from q77)]; rfl) | (rw [if_pos (show hasB F.1 (rmI (rmI (75 * z + 74) 65537) 6) = true from q64), if_pos (show fs_ F (rmI (rmI (75 * z + 74) 65537) 6).toNatClampNeg ≤ 0 from q77)]; rfl) | (rw [if_neg (show ¬ hasB F.1 (rmI (rmI (75 * z + 74) 65537) 6) = true from fun z9 => absurd (q64.symm.trans z9) (by decide))]; rfl) | exact absurd (q64.symm.trans q103) (by decide) | exact absurd (q103.symm.trans q64) (by decide))
  refine go_aload_n dX2_draw_0 rfl ?_
  refine go_get dX2_draw_1 fX2_12 rfl rfl ?_
  refine go_aload_n dX2_draw_4 rfl ?_
  refine go_cVv (as := [_]) dX2_draw_5 mX1_copyFrom kX2_25 iX1_copyFrom sX1_copyFrom rfl rfl rfl rfl (rX1_copyFrom_an) rfl rfl rfl ?_
  refine go_iconst (v := 0) dX2_draw_8 (by decide) ?_
  refine go_istore (L' := [_, _, _, _, _, _, _, _, _]) dX2_draw_9 rfl rfl rfl ?_
  refine go_iload_n dX2_draw_11 rfl ?_
  refine go_istore (L' := [_, _, _, _, _, _, _, _, _]) dX2_draw_12 rfl rfl rfl ?_
  refine go_iconst (v := 0) dX2_draw_14 (by decide) ?_
  refine go_istore (L' := [_, _, _, _, _, _, _, _, _]) dX2_draw_15 rfl rfl rfl ?_
  exact key my 0 nw.1 0 x _ _ (by omega) rfl
