theorem im_eq : va_up (va_up (fun _ => none) 0 (some 12)) 1 (some 22) = imq := by
  funext j
  unfold va_up imq
  by_cases h0 : j = 0
  · subst h0; rfl
  · rw [if_neg h0, if_neg h0]
abbrev arQ (f : Nat → Option Nat) : gC := .inl (3, 2, .inr (.inr (.inr (.inr f))))
set_option maxRecDepth 100000 in
set_option maxHeartbeats 4000000 in
theorem rX8_init {E : gE} {d : Nat}  : Ret E yX8_init cX8_init 2 none (d + 3) 51 809 [.ref 0] [.inr (8, [.null, .null, .null, .null, .null, .null, .null])] (dt none [.inr (8, [.ref 1, .ref 11, .ref 32, .ref 34, .ref 42, .ref 45, .ref 49]), .inr (7, [.ref 2, .ref 8, .ref 9, .ref 10, .int 0, .int 0]), .inr (1, [.int 0, .int 0, .ref 3, .ref 4, .ref 5, .ref 6, .ref 7]), .inl (0, 6, .inl zI), .inl (0, 6, .inl zI), .inl (0, 6, .inl zI), .inl (0, 6, .inl zI), .inl (0, 36, .inl zI), .inl (0, 10, .inl (wfR 9)), .inl (0, 8, .inl zI), .inl (2, 8, .inl zI), arQ imq, .inr (7, [.ref 13, .ref 19, .ref 20, .ref 21, .int 0, .int 0]), .inr (1, [.int 0, .int 0, .ref 14, .ref 15, .ref 16, .ref 17, .ref 18]), .inl (0, 6, .inl zI), .inl (0, 6, .inl zI), .inl (0, 6, .inl zI), .inl (0, 6, .inl zI), .inl (0, 36, .inl zI), .inl (0, 10, .inl (wfR 9)), .inl (0, 8, .inl zI), .inl (2, 8, .inl zI), .inr (7, [.ref 23, .ref 29, .ref 30, .ref 31, .int 0, .int 0]), .inr (1, [.int 0, .int 0, .ref 24, .ref 25, .ref 26, .ref 27, .ref 28]), .inl (0, 6, .inl zI), .inl (0, 6, .inl zI), .inl (0, 6, .inl zI), .inl (0, 6, .inl zI), .inl (0, 36, .inl zI), .inl (0, 10, .inl (wfR 9)), .inl (0, 8, .inl zI), .inl (2, 8, .inl zI), .inr (5, [.ref 33, .int 0]), .inl (0, 60, .inl zI), .inr (2, [.ref 35, .ref 41, .int 0, .int 0, .int 0, .int 0, .int 0]), .inr (1, [.int 0, .int 0, .ref 36, .ref 37, .ref 38, .ref 39, .ref 40]), .inl (0, 6, .inl zI), .inl (0, 6, .inl zI), .inl (0, 6, .inl zI), .inl (0, 6, .inl zI), .inl (0, 36, .inl zI), .inr (0, [.int 0, .int 0, .int 0, .int 0, .int 0]), .inr (6, [.ref 43, .ref 44, .int 0]), .inl (1, 90, .inr (.inl zL)), .inl (1, 9, .inr (.inl zL)), .inr (3, [.ref 46, .ref 47, .ref 48]), .inl (0, 64, .inl zI), .inl (0, 64, .inl zI), .inl (0, 6, .inl zI), .inr (4, [.ref 50, .ref 51]), .inl (0, 64, .inl zI), .inl (0, 64, .inl zI)]) := by
  refine ret_of_go (L := [_, _]) (by decide) (Nat.le_of_ble_eq_true rfl) rfl ?_
  refine go_aload_n dX8_init_0 rfl ?_
  refine go_objInit dX8_init_1 kX8_1 iobj cobj rfl ?_
  refine go_aload_n dX8_init_4 rfl ?_
  refine go_new (st' := []) (fs := [.null, .null, .null, .null, .int 0, .int 0]) dX8_init_5 gclX7 wX8_7 aX7 zX7 dfX7 rfl rfl ?_
  refine go_dup dX8_init_8 rfl ?_
  refine go_callI (as := []) dX8_init_9 mX7_init kX8_9 iX7_init rfl rfl rfl (rX7_init_1) rfl rfl rfl ?_
  intro r g q
  obtain ⟨rfl, rfl⟩ := q
  refine go_putF dX8_init_12 fX8_10 rfl ⟨_, _, rfl⟩ (fun _ => rfl) (fun _ => rfl) rfl rfl ?_
  refine go_heap (h2 := [.inr (8, [.ref 1, .null, .null, .null, .null, .null, .null]), .inr (7, [.ref 2, .ref 8, .ref 9, .ref 10, .int 0, .int 0]), .inr (1, [.int 0, .int 0, .ref 3, .ref 4, .ref 5, .ref 6, .ref 7]), .inl (0, 6, .inl zI), .inl (0, 6, .inl zI), .inl (0, 6, .inl zI), .inl (0, 6, .inl zI), .inl (0, 36, .inl zI), .inl (0, 10, .inl (wfR 9)), .inl (0, 8, .inl zI), .inl (2, 8, .inl zI)]) rfl ?_
  refine go_aload_n dX8_init_15 rfl ?_
  refine go_iconst (v := 2) dX8_init_16 (by decide) ?_
  refine go_newq (n := 2) (N := 2) dX8_init_17 (by decide) rfl rfl wX8_7 rfl rfl ?_
  refine go_putF dX8_init_20 fX8_16 rfl ⟨_, _, rfl⟩ (fun _ => rfl) (fun _ => rfl) rfl rfl ?_
  refine go_heap (h2 := [.inr (8, [.ref 1, .ref 11, .null, .null, .null, .null, .null]), .inr (7, [.ref 2, .ref 8, .ref 9, .ref 10, .int 0, .int 0]), .inr (1, [.int 0, .int 0, .ref 3, .ref 4, .ref 5, .ref 6, .ref 7]), .inl (0, 6, .inl zI), .inl (0, 6, .inl zI), .inl (0, 6, .inl zI), .inl (0, 6, .inl zI), .inl (0, 36, .inl zI), .inl (0, 10, .inl (wfR 9)), .inl (0, 8, .inl zI), .inl (2, 8, .inl zI), arQ (fun _ => none)]) rfl ?_
  refine go_iconst (v := 0) dX8_init_23 (by decide) ?_
  refine go_istore_n (L' := [_, _]) dX8_init_24 rfl rfl rfl ?_
  refine go_iload_n dX8_init_25 rfl ?_
  refine go_iconst (v := 2) dX8_init_26 (by decide) ?_
  refine go_icmp_ge (tgt := 49) dX8_init_27 (by decide) (fun zq => absurd zq (by decide)) (fun q27 => ?_)
  refine go_aload_n dX8_init_30 rfl ?_
  refine go_get dX8_init_31 fX8_16 rfl rfl ?_
  refine go_iload_n dX8_init_34 rfl ?_
  refine go_new (st' := []) (fs := [.null, .null, .null, .null, .int 0, .int 0]) dX8_init_35 gclX7 wX8_7 aX7 zX7 dfX7 rfl rfl ?_
  refine go_dup dX8_init_38 rfl ?_
  refine go_callI (as := []) dX8_init_39 mX7_init kX8_9 iX7_init rfl rfl rfl (rX7_init_12) rfl rfl rfl ?_
  intro r g q
  obtain ⟨rfl, rfl⟩ := q
  refine go_aast (ci := 7) dX8_init_42 rfl rfl rfl (vp_in_nI (by decide : 0 < 2) (by decide)) ?_
  refine go_heap (h2 := [.inr (8, [.ref 1, .ref 11, .null, .null, .null, .null, .null]), .inr (7, [.ref 2, .ref 8, .ref 9, .ref 10, .int 0, .int 0]), .inr (1, [.int 0, .int 0, .ref 3, .ref 4, .ref 5, .ref 6, .ref 7]), .inl (0, 6, .inl zI), .inl (0, 6, .inl zI), .inl (0, 6, .inl zI), .inl (0, 6, .inl zI), .inl (0, 36, .inl zI), .inl (0, 10, .inl (wfR 9)), .inl (0, 8, .inl zI), .inl (2, 8, .inl zI), arQ (va_up (fun _ => none) 0 (some 12)), .inr (7, [.ref 13, .ref 19, .ref 20, .ref 21, .int 0, .int 0]), .inr (1, [.int 0, .int 0, .ref 14, .ref 15, .ref 16, .ref 17, .ref 18]), .inl (0, 6, .inl zI), .inl (0, 6, .inl zI), .inl (0, 6, .inl zI), .inl (0, 6, .inl zI), .inl (0, 36, .inl zI), .inl (0, 10, .inl (wfR 9)), .inl (0, 8, .inl zI), .inl (2, 8, .inl zI)]) rfl ?_
  refine go_iinc (v := 1) (L' := [_, _]) dX8_init_43 rfl (by decide) rfl rfl rfl ?_
  refine go_goto (tgt := 25) dX8_init_46 (by decide) ?_
  refine go_iload_n dX8_init_25 rfl ?_
  refine go_iconst (v := 2) dX8_init_26 (by decide) ?_
  refine go_icmp_ge (tgt := 49) dX8_init_27 (by decide) (fun zq => absurd zq (by decide)) (fun q27 => ?_)
  refine go_aload_n dX8_init_30 rfl ?_
  refine go_get dX8_init_31 fX8_16 rfl rfl ?_
  refine go_iload_n dX8_init_34 rfl ?_
  refine go_new (st' := []) (fs := [.null, .null, .null, .null, .int 0, .int 0]) dX8_init_35 gclX7 wX8_7 aX7 zX7 dfX7 rfl rfl ?_
  refine go_dup dX8_init_38 rfl ?_
  refine go_callI (as := []) dX8_init_39 mX7_init kX8_9 iX7_init rfl rfl rfl (rX7_init_22) rfl rfl rfl ?_
  intro r g q
  obtain ⟨rfl, rfl⟩ := q
  refine go_aast (ci := 7) dX8_init_42 rfl rfl rfl (vp_in_nI (by decide : 1 < 2) (by decide)) ?_
  refine go_heap (h2 := [.inr (8, [.ref 1, .ref 11, .null, .null, .null, .null, .null]), .inr (7, [.ref 2, .ref 8, .ref 9, .ref 10, .int 0, .int 0]), .inr (1, [.int 0, .int 0, .ref 3, .ref 4, .ref 5, .ref 6, .ref 7]), .inl (0, 6, .inl zI), .inl (0, 6, .inl zI), .inl (0, 6, .inl zI), .inl (0, 6, .inl zI), .inl (0, 36, .inl zI), .inl (0, 10, .inl (wfR 9)), .inl (0, 8, .inl zI), .inl (2, 8, .inl zI), arQ imq, .inr (7, [.ref 13, .ref 19, .ref 20, .ref 21, .int 0, .int 0]), .inr (1, [.int 0, .int 0, .ref 14, .ref 15, .ref 16, .ref 17, .ref 18]), .inl (0, 6, .inl zI), .inl (0, 6, .inl zI), .inl (0, 6, .inl zI), .inl (0, 6, .inl zI), .inl (0, 36, .inl zI), .inl (0, 10, .inl (wfR 9)), .inl (0, 8, .inl zI), .inl (2, 8, .inl zI), .inr (7, [.ref 23, .ref 29, .ref 30, .ref 31, .int 0, .int 0]), .inr (1, [.int 0, .int 0, .ref 24, .ref 25, .ref 26, .ref 27, .ref 28]), .inl (0, 6, .inl zI), .inl (0, 6, .inl zI), .inl (0, 6, .inl zI), .inl (0, 6, .inl zI), .inl (0, 36, .inl zI), .inl (0, 10, .inl (wfR 9)), .inl (0, 8, .inl zI), .inl (2, 8, .inl zI)]) (by rw [← im_eq]; rfl) ?_
  refine go_iinc (v := 2) (L' := [_, _]) dX8_init_43 rfl (by decide) rfl rfl rfl ?_
  refine go_goto (tgt := 25) dX8_init_46 (by decide) ?_
  refine go_iload_n dX8_init_25 rfl ?_
  refine go_iconst (v := 2) dX8_init_26 (by decide) ?_
  refine go_icmp_ge (tgt := 49) dX8_init_27 (by decide) (fun q27 => ?_) (fun zq => absurd (by decide) zq)
  refine go_aload_n dX8_init_49 rfl ?_
  refine go_new (st' := []) (fs := [.null, .int 0]) dX8_init_50 gclX5 wX8_20 aX5 zX5 dfX5 rfl rfl ?_
  refine go_dup dX8_init_53 rfl ?_
  refine go_callI (as := []) dX8_init_54 mX5_init kX8_22 iX5_init rfl rfl rfl (rX5_init) rfl rfl rfl ?_
  intro r g q
  obtain ⟨rfl, rfl⟩ := q
  refine go_putF dX8_init_57 fX8_23 rfl ⟨_, _, rfl⟩ (fun _ => rfl) (fun _ => rfl) rfl rfl ?_
  refine go_heap (h2 := [.inr (8, [.ref 1, .ref 11, .ref 32, .null, .null, .null, .null]), .inr (7, [.ref 2, .ref 8, .ref 9, .ref 10, .int 0, .int 0]), .inr (1, [.int 0, .int 0, .ref 3, .ref 4, .ref 5, .ref 6, .ref 7]), .inl (0, 6, .inl zI), .inl (0, 6, .inl zI), .inl (0, 6, .inl zI), .inl (0, 6, .inl zI), .inl (0, 36, .inl zI), .inl (0, 10, .inl (wfR 9)), .inl (0, 8, .inl zI), .inl (2, 8, .inl zI), arQ imq, .inr (7, [.ref 13, .ref 19, .ref 20, .ref 21, .int 0, .int 0]), .inr (1, [.int 0, .int 0, .ref 14, .ref 15, .ref 16, .ref 17, .ref 18]), .inl (0, 6, .inl zI), .inl (0, 6, .inl zI), .inl (0, 6, .inl zI), .inl (0, 6, .inl zI), .inl (0, 36, .inl zI), .inl (0, 10, .inl (wfR 9)), .inl (0, 8, .inl zI), .inl (2, 8, .inl zI), .inr (7, [.ref 23, .ref 29, .ref 30, .ref 31, .int 0, .int 0]), .inr (1, [.int 0, .int 0, .ref 24, .ref 25, .ref 26, .ref 27, .ref 28]), .inl (0, 6, .inl zI), .inl (0, 6, .inl zI), .inl (0, 6, .inl zI), .inl (0, 6, .inl zI), .inl (0, 36, .inl zI), .inl (0, 10, .inl (wfR 9)), .inl (0, 8, .inl zI), .inl (2, 8, .inl zI), .inr (5, [.ref 33, .int 0]), .inl (0, 60, .inl zI)]) rfl ?_
  refine go_aload_n dX8_init_60 rfl ?_
  refine go_new (st' := []) (fs := [.null, .null, .int 0, .int 0, .int 0, .int 0, .int 0]) dX8_init_61 gclX2 wX8_27 aX2 zX2 dfX2 rfl rfl ?_
  refine go_dup dX8_init_64 rfl ?_
  refine go_callI (as := []) dX8_init_65 mX2_init kX8_29 iX2_init rfl rfl rfl (rX2_init) rfl rfl rfl ?_
  intro r g q
  obtain ⟨rfl, rfl⟩ := q
  refine go_putF dX8_init_68 fX8_30 rfl ⟨_, _, rfl⟩ (fun _ => rfl) (fun _ => rfl) rfl rfl ?_
  refine go_heap (h2 := [.inr (8, [.ref 1, .ref 11, .ref 32, .ref 34, .null, .null, .null]), .inr (7, [.ref 2, .ref 8, .ref 9, .ref 10, .int 0, .int 0]), .inr (1, [.int 0, .int 0, .ref 3, .ref 4, .ref 5, .ref 6, .ref 7]), .inl (0, 6, .inl zI), .inl (0, 6, .inl zI), .inl (0, 6, .inl zI), .inl (0, 6, .inl zI), .inl (0, 36, .inl zI), .inl (0, 10, .inl (wfR 9)), .inl (0, 8, .inl zI), .inl (2, 8, .inl zI), arQ imq, .inr (7, [.ref 13, .ref 19, .ref 20, .ref 21, .int 0, .int 0]), .inr (1, [.int 0, .int 0, .ref 14, .ref 15, .ref 16, .ref 17, .ref 18]), .inl (0, 6, .inl zI), .inl (0, 6, .inl zI), .inl (0, 6, .inl zI), .inl (0, 6, .inl zI), .inl (0, 36, .inl zI), .inl (0, 10, .inl (wfR 9)), .inl (0, 8, .inl zI), .inl (2, 8, .inl zI), .inr (7, [.ref 23, .ref 29, .ref 30, .ref 31, .int 0, .int 0]), .inr (1, [.int 0, .int 0, .ref 24, .ref 25, .ref 26, .ref 27, .ref 28]), .inl (0, 6, .inl zI), .inl (0, 6, .inl zI), .inl (0, 6, .inl zI), .inl (0, 6, .inl zI), .inl (0, 36, .inl zI), .inl (0, 10, .inl (wfR 9)), .inl (0, 8, .inl zI), .inl (2, 8, .inl zI), .inr (5, [.ref 33, .int 0]), .inl (0, 60, .inl zI), .inr (2, [.ref 35, .ref 41, .int 0, .int 0, .int 0, .int 0, .int 0]), .inr (1, [.int 0, .int 0, .ref 36, .ref 37, .ref 38, .ref 39, .ref 40]), .inl (0, 6, .inl zI), .inl (0, 6, .inl zI), .inl (0, 6, .inl zI), .inl (0, 6, .inl zI), .inl (0, 36, .inl zI), .inr (0, [.int 0, .int 0, .int 0, .int 0, .int 0])]) rfl ?_
  refine go_aload_n dX8_init_71 rfl ?_
  refine go_new (st' := []) (fs := [.null, .null, .int 0]) dX8_init_72 gclX6 wX8_34 aX6 zX6 dfX6 rfl rfl ?_
  refine go_dup dX8_init_75 rfl ?_
  refine go_callI (as := []) dX8_init_76 mX6_init kX8_36 iX6_init rfl rfl rfl (rX6_init) rfl rfl rfl ?_
  intro r g q
  obtain ⟨rfl, rfl⟩ := q
  refine go_putF dX8_init_79 fX8_37 rfl ⟨_, _, rfl⟩ (fun _ => rfl) (fun _ => rfl) rfl rfl ?_
  refine go_heap (h2 := [.inr (8, [.ref 1, .ref 11, .ref 32, .ref 34, .ref 42, .null, .null]), .inr (7, [.ref 2, .ref 8, .ref 9, .ref 10, .int 0, .int 0]), .inr (1, [.int 0, .int 0, .ref 3, .ref 4, .ref 5, .ref 6, .ref 7]), .inl (0, 6, .inl zI), .inl (0, 6, .inl zI), .inl (0, 6, .inl zI), .inl (0, 6, .inl zI), .inl (0, 36, .inl zI), .inl (0, 10, .inl (wfR 9)), .inl (0, 8, .inl zI), .inl (2, 8, .inl zI), arQ imq, .inr (7, [.ref 13, .ref 19, .ref 20, .ref 21, .int 0, .int 0]), .inr (1, [.int 0, .int 0, .ref 14, .ref 15, .ref 16, .ref 17, .ref 18]), .inl (0, 6, .inl zI), .inl (0, 6, .inl zI), .inl (0, 6, .inl zI), .inl (0, 6, .inl zI), .inl (0, 36, .inl zI), .inl (0, 10, .inl (wfR 9)), .inl (0, 8, .inl zI), .inl (2, 8, .inl zI), .inr (7, [.ref 23, .ref 29, .ref 30, .ref 31, .int 0, .int 0]), .inr (1, [.int 0, .int 0, .ref 24, .ref 25, .ref 26, .ref 27, .ref 28]), .inl (0, 6, .inl zI), .inl (0, 6, .inl zI), .inl (0, 6, .inl zI), .inl (0, 6, .inl zI), .inl (0, 36, .inl zI), .inl (0, 10, .inl (wfR 9)), .inl (0, 8, .inl zI), .inl (2, 8, .inl zI), .inr (5, [.ref 33, .int 0]), .inl (0, 60, .inl zI), .inr (2, [.ref 35, .ref 41, .int 0, .int 0, .int 0, .int 0, .int 0]), .inr (1, [.int 0, .int 0, .ref 36, .ref 37, .ref 38, .ref 39, .ref 40]), .inl (0, 6, .inl zI), .inl (0, 6, .inl zI), .inl (0, 6, .inl zI), .inl (0, 6, .inl zI), .inl (0, 36, .inl zI), .inr (0, [.int 0, .int 0, .int 0, .int 0, .int 0]), .inr (6, [.ref 43, .ref 44, .int 0]), .inl (1, 90, .inr (.inl zL)), .inl (1, 9, .inr (.inl zL))]) rfl ?_
  refine go_aload_n dX8_init_82 rfl ?_
  refine go_new (st' := []) (fs := [.null, .null, .null]) dX8_init_83 gclX3 wX8_41 aX3 zX3 dfX3 rfl rfl ?_
  refine go_dup dX8_init_86 rfl ?_
  refine go_callI (as := []) dX8_init_87 mX3_init kX8_43 iX3_init rfl rfl rfl (rX3_init) rfl rfl rfl ?_
  intro r g q
  obtain ⟨rfl, rfl⟩ := q
  refine go_putF dX8_init_90 fX8_44 rfl ⟨_, _, rfl⟩ (fun _ => rfl) (fun _ => rfl) rfl rfl ?_
  refine go_heap (h2 := [.inr (8, [.ref 1, .ref 11, .ref 32, .ref 34, .ref 42, .ref 45, .null]), .inr (7, [.ref 2, .ref 8, .ref 9, .ref 10, .int 0, .int 0]), .inr (1, [.int 0, .int 0, .ref 3, .ref 4, .ref 5, .ref 6, .ref 7]), .inl (0, 6, .inl zI), .inl (0, 6, .inl zI), .inl (0, 6, .inl zI), .inl (0, 6, .inl zI), .inl (0, 36, .inl zI), .inl (0, 10, .inl (wfR 9)), .inl (0, 8, .inl zI), .inl (2, 8, .inl zI), arQ imq, .inr (7, [.ref 13, .ref 19, .ref 20, .ref 21, .int 0, .int 0]), .inr (1, [.int 0, .int 0, .ref 14, .ref 15, .ref 16, .ref 17, .ref 18]), .inl (0, 6, .inl zI), .inl (0, 6, .inl zI), .inl (0, 6, .inl zI), .inl (0, 6, .inl zI), .inl (0, 36, .inl zI), .inl (0, 10, .inl (wfR 9)), .inl (0, 8, .inl zI), .inl (2, 8, .inl zI), .inr (7, [.ref 23, .ref 29, .ref 30, .ref 31, .int 0, .int 0]), .inr (1, [.int 0, .int 0, .ref 24, .ref 25, .ref 26, .ref 27, .ref 28]), .inl (0, 6, .inl zI), .inl (0, 6, .inl zI), .inl (0, 6, .inl zI), .inl (0, 6, .inl zI), .inl (0, 36, .inl zI), .inl (0, 10, .inl (wfR 9)), .inl (0, 8, .inl zI), .inl (2, 8, .inl zI), .inr (5, [.ref 33, .int 0]), .inl (0, 60, .inl zI), .inr (2, [.ref 35, .ref 41, .int 0, .int 0, .int 0, .int 0, .int 0]), .inr (1, [.int 0, .int 0, .ref 36, .ref 37, .ref 38, .ref 39, .ref 40]), .inl (0, 6, .inl zI), .inl (0, 6, .inl zI), .inl (0, 6, .inl zI), .inl (0, 6, .inl zI), .inl (0, 36, .inl zI), .inr (0, [.int 0, .int 0, .int 0, .int 0, .int 0]), .inr (6, [.ref 43, .ref 44, .int 0]), .inl (1, 90, .inr (.inl zL)), .inl (1, 9, .inr (.inl zL)), .inr (3, [.ref 46, .ref 47, .ref 48]), .inl (0, 64, .inl zI), .inl (0, 64, .inl zI), .inl (0, 6, .inl zI)]) rfl ?_
  refine go_aload_n dX8_init_93 rfl ?_
  refine go_new (st' := []) (fs := [.null, .null]) dX8_init_94 gclX4 wX8_48 aX4 zX4 dfX4 rfl rfl ?_
  refine go_dup dX8_init_97 rfl ?_
  refine go_callI (as := []) dX8_init_98 mX4_init kX8_50 iX4_init rfl rfl rfl (rX4_init) rfl rfl rfl ?_
  intro r g q
  obtain ⟨rfl, rfl⟩ := q
  refine go_putF dX8_init_101 fX8_51 rfl ⟨_, _, rfl⟩ (fun _ => rfl) (fun _ => rfl) rfl rfl ?_
  refine go_heap (h2 := [.inr (8, [.ref 1, .ref 11, .ref 32, .ref 34, .ref 42, .ref 45, .ref 49]), .inr (7, [.ref 2, .ref 8, .ref 9, .ref 10, .int 0, .int 0]), .inr (1, [.int 0, .int 0, .ref 3, .ref 4, .ref 5, .ref 6, .ref 7]), .inl (0, 6, .inl zI), .inl (0, 6, .inl zI), .inl (0, 6, .inl zI), .inl (0, 6, .inl zI), .inl (0, 36, .inl zI), .inl (0, 10, .inl (wfR 9)), .inl (0, 8, .inl zI), .inl (2, 8, .inl zI), arQ imq, .inr (7, [.ref 13, .ref 19, .ref 20, .ref 21, .int 0, .int 0]), .inr (1, [.int 0, .int 0, .ref 14, .ref 15, .ref 16, .ref 17, .ref 18]), .inl (0, 6, .inl zI), .inl (0, 6, .inl zI), .inl (0, 6, .inl zI), .inl (0, 6, .inl zI), .inl (0, 36, .inl zI), .inl (0, 10, .inl (wfR 9)), .inl (0, 8, .inl zI), .inl (2, 8, .inl zI), .inr (7, [.ref 23, .ref 29, .ref 30, .ref 31, .int 0, .int 0]), .inr (1, [.int 0, .int 0, .ref 24, .ref 25, .ref 26, .ref 27, .ref 28]), .inl (0, 6, .inl zI), .inl (0, 6, .inl zI), .inl (0, 6, .inl zI), .inl (0, 6, .inl zI), .inl (0, 36, .inl zI), .inl (0, 10, .inl (wfR 9)), .inl (0, 8, .inl zI), .inl (2, 8, .inl zI), .inr (5, [.ref 33, .int 0]), .inl (0, 60, .inl zI), .inr (2, [.ref 35, .ref 41, .int 0, .int 0, .int 0, .int 0, .int 0]), .inr (1, [.int 0, .int 0, .ref 36, .ref 37, .ref 38, .ref 39, .ref 40]), .inl (0, 6, .inl zI), .inl (0, 6, .inl zI), .inl (0, 6, .inl zI), .inl (0, 6, .inl zI), .inl (0, 36, .inl zI), .inr (0, [.int 0, .int 0, .int 0, .int 0, .int 0]), .inr (6, [.ref 43, .ref 44, .int 0]), .inl (1, 90, .inr (.inl zL)), .inl (1, 9, .inr (.inl zL)), .inr (3, [.ref 46, .ref 47, .ref 48]), .inl (0, 64, .inl zI), .inl (0, 64, .inl zI), .inl (0, 6, .inl zI), .inr (4, [.ref 50, .ref 51]), .inl (0, 64, .inl zI), .inl (0, 64, .inl zI)]) rfl ?_
  refine go_vret dX8_init_104 rfl rfl ?_
  exact ⟨rfl, rfl⟩
set_option maxRecDepth 100000 in
set_option maxHeartbeats 4000000 in
theorem rX9_init {E : gE} {d : Nat} {c0 c1 c2 c3 c4 c5 c6 c7 c8 c9 c10 c11 c12 c13 c14 c15 c16 c17 c18 c19 c20 c21 c22 c23 c24 c25 c26 c27 c28 c29 c30 c31 c32 c33 c34 c35 c36 c37 c38 c39 c40 c41 c42 c43 c44 c45 c46 c47 c48 c49 c50 c51 : gC} : Ret E yX9_init cX9_init 2 none (d + 1) 12 678 [.ref 52] [c0, c1, c2, c3, c4, c5, c6, c7, c8, c9, c10, c11, c12, c13, c14, c15, c16, c17, c18, c19, c20, c21, c22, c23, c24, c25, c26, c27, c28, c29, c30, c31, c32, c33, c34, c35, c36, c37, c38, c39, c40, c41, c42, c43, c44, c45, c46, c47, c48, c49, c50, c51, .inr (9, [.null, .null, .int 0, .null, .null, .int 0, .null, .int 0, .null, .int 0, .int 0, .int 0, .int 0, .int 0, .null, .null, .null, .null, .int 0, .int 0, .null, .null])] (dt none [c0, c1, c2, c3, c4, c5, c6, c7, c8, c9, c10, c11, c12, c13, c14, c15, c16, c17, c18, c19, c20, c21, c22, c23, c24, c25, c26, c27, c28, c29, c30, c31, c32, c33, c34, c35, c36, c37, c38, c39, c40, c41, c42, c43, c44, c45, c46, c47, c48, c49, c50, c51, .inr (9, [.ref 53, .ref 54, .int 0, .ref 55, .ref 56, .int 0, .ref 57, .int 0, .ref 58, .int 0, .int 0, .int 0, .int 0, .int 0, .ref 59, .ref 60, .ref 61, .ref 62, .int 0, .int 0, .ref 63, .ref 64]), .inl (0, 61, .inl zI), .inl (0, 61, .inl zI), .inl (0, 6, .inl zI), .inl (0, 10, .inl (wfR 9)), .inl (0, 32, .inl zI), .inl (0, 60, .inl zI), .inl (1, 110, .inr (.inl zL)), .inl (0, 64, .inl zI), .inl (0, 6, .inl zI), .inl (0, 6, .inl zI), .inl (0, 260, .inl zI), .inl (2, 2, .inl zI)]) := by
  refine ret_of_go (L := [_, _]) (by decide) (Nat.le_of_ble_eq_true rfl) rfl ?_
  have key : ∀ (m k : Nat), k + m = 9 → Go E yX9_init cX9_init 2 none (d + 1) 12 678 12 678 102 [some (.ref 52), some (.int (nI (k + 1)))] [] [c0, c1, c2, c3, c4, c5, c6, c7, c8, c9, c10, c11, c12, c13, c14, c15, c16, c17, c18, c19, c20, c21, c22, c23, c24, c25, c26, c27, c28, c29, c30, c31, c32, c33, c34, c35, c36, c37, c38, c39, c40, c41, c42, c43, c44, c45, c46, c47, c48, c49, c50, c51, .inr (9, [.ref 53, .ref 54, .int 0, .ref 55, .ref 56, .int 0, .ref 57, .int 0, .ref 58, .int 0, .int 0, .int 0, .int 0, .int 0, .ref 59, .ref 60, .ref 61, .ref 62, .int 0, .int 0, .ref 63, .ref 64]), .inl (0, 61, .inl zI), .inl (0, 61, .inl zI), .inl (0, 6, .inl zI), .inl (0, 10, .inl (wfR k)), .inl (0, 32, .inl zI), .inl (0, 60, .inl zI), .inl (1, 110, .inr (.inl zL)), .inl (0, 64, .inl zI), .inl (0, 6, .inl zI), .inl (0, 6, .inl zI), .inl (0, 260, .inl zI), .inl (2, 2, .inl zI)] (dt none [c0, c1, c2, c3, c4, c5, c6, c7, c8, c9, c10, c11, c12, c13, c14, c15, c16, c17, c18, c19, c20, c21, c22, c23, c24, c25, c26, c27, c28, c29, c30, c31, c32, c33, c34, c35, c36, c37, c38, c39, c40, c41, c42, c43, c44, c45, c46, c47, c48, c49, c50, c51, .inr (9, [.ref 53, .ref 54, .int 0, .ref 55, .ref 56, .int 0, .ref 57, .int 0, .ref 58, .int 0, .int 0, .int 0, .int 0, .int 0, .ref 59, .ref 60, .ref 61, .ref 62, .int 0, .int 0, .ref 63, .ref 64]), .inl (0, 61, .inl zI), .inl (0, 61, .inl zI), .inl (0, 6, .inl zI), .inl (0, 10, .inl (wfR 9)), .inl (0, 32, .inl zI), .inl (0, 60, .inl zI), .inl (1, 110, .inr (.inl zL)), .inl (0, 64, .inl zI), .inl (0, 6, .inl zI), .inl (0, 6, .inl zI), .inl (0, 260, .inl zI), .inl (2, 2, .inl zI)]) := by
    intro m
    induction m with
    | zero =>
      intro k hk
      obtain rfl : k = 9 := by omega
      refine go_iload_n dX9_init_102 rfl ?_
      refine go_bipush (v := 10) dX9_init_103 (by decide) ?_
      refine go_icmp_ge (tgt := 121) dX9_init_105 (by decide) (fun q105 => ?_) (fun zq => absurd (nI_le (a := 10) (b := 10) (by decide) (by decide)) zq)
      refine go_vret dX9_init_121 rfl rfl ?_
      exact ⟨rfl, rfl⟩
    | succ m ih =>
      intro k hk
      refine go_iload_n dX9_init_102 rfl ?_
      refine go_bipush (v := 10) dX9_init_103 (by decide) ?_
      refine go_icmp_ge (tgt := 121) dX9_init_105 (by decide) (fun zq => absurd zq (nI_ge (a := k + 1) (b := 10) (by omega) (by decide))) (fun q105 => ?_)
      refine go_aload_n dX9_init_108 rfl ?_
      refine go_get dX9_init_109 fX9_19 rfl rfl ?_
      refine go_iload_n dX9_init_112 rfl ?_
      refine go_iconst (v := 1) dX9_init_113 (by decide) ?_
      refine go_iastN (k + 1) dX9_init_114 rfl (by omega) rfl ?_
      refine go_heap (h2 := [c0, c1, c2, c3, c4, c5, c6, c7, c8, c9, c10, c11, c12, c13, c14, c15, c16, c17, c18, c19, c20, c21, c22, c23, c24, c25, c26, c27, c28, c29, c30, c31, c32, c33, c34, c35, c36, c37, c38, c39, c40, c41, c42, c43, c44, c45, c46, c47, c48, c49, c50, c51, .inr (9, [.ref 53, .ref 54, .int 0, .ref 55, .ref 56, .int 0, .ref 57, .int 0, .ref 58, .int 0, .int 0, .int 0, .int 0, .int 0, .ref 59, .ref 60, .ref 61, .ref 62, .int 0, .int 0, .ref 63, .ref 64]), .inl (0, 61, .inl zI), .inl (0, 61, .inl zI), .inl (0, 6, .inl zI), .inl (0, 10, .inl (wfR (k + 1))), .inl (0, 32, .inl zI), .inl (0, 60, .inl zI), .inl (1, 110, .inr (.inl zL)), .inl (0, 64, .inl zI), .inl (0, 6, .inl zI), .inl (0, 6, .inl zI), .inl (0, 260, .inl zI), .inl (2, 2, .inl zI)]) rfl ?_
      refine go_iinc (v := nI (k + 1 + 1)) (L' := [_, _]) dX9_init_115 rfl (nI_1 (k + 1)) rfl rfl rfl ?_
      refine go_goto (tgt := 102) dX9_init_118 (by decide) ?_
      exact ih (k + 1) (by omega)
  refine go_aload_n dX9_init_0 rfl ?_
  refine go_objInit dX9_init_1 kX9_1 iobj cobj rfl ?_
  refine go_aload_n dX9_init_4 rfl ?_
  refine go_bipush (v := 61) dX9_init_5 (by decide) ?_
  refine go_newi (n := 61) (N := 61) dX9_init_7 (by decide) rfl rfl ac_int rfl rfl ?_
  refine go_putF dX9_init_9 fX9_7 rfl ⟨_, _, rfl⟩ (fun _ => rfl) (fun _ => rfl) rfl rfl ?_
  refine go_heap (h2 := [c0, c1, c2, c3, c4, c5, c6, c7, c8, c9, c10, c11, c12, c13, c14, c15, c16, c17, c18, c19, c20, c21, c22, c23, c24, c25, c26, c27, c28, c29, c30, c31, c32, c33, c34, c35, c36, c37, c38, c39, c40, c41, c42, c43, c44, c45, c46, c47, c48, c49, c50, c51, .inr (9, [.ref 53, .null, .int 0, .null, .null, .int 0, .null, .int 0, .null, .int 0, .int 0, .int 0, .int 0, .int 0, .null, .null, .null, .null, .int 0, .int 0, .null, .null]), .inl (0, 61, .inl zI)]) rfl ?_
  refine go_aload_n dX9_init_12 rfl ?_
  refine go_bipush (v := 61) dX9_init_13 (by decide) ?_
  refine go_newi (n := 61) (N := 61) dX9_init_15 (by decide) rfl rfl ac_int rfl rfl ?_
  refine go_putF dX9_init_17 fX9_13 rfl ⟨_, _, rfl⟩ (fun _ => rfl) (fun _ => rfl) rfl rfl ?_
  refine go_heap (h2 := [c0, c1, c2, c3, c4, c5, c6, c7, c8, c9, c10, c11, c12, c13, c14, c15, c16, c17, c18, c19, c20, c21, c22, c23, c24, c25, c26, c27, c28, c29, c30, c31, c32, c33, c34, c35, c36, c37, c38, c39, c40, c41, c42, c43, c44, c45, c46, c47, c48, c49, c50, c51, .inr (9, [.ref 53, .ref 54, .int 0, .null, .null, .int 0, .null, .int 0, .null, .int 0, .int 0, .int 0, .int 0, .int 0, .null, .null, .null, .null, .int 0, .int 0, .null, .null]), .inl (0, 61, .inl zI), .inl (0, 61, .inl zI)]) rfl ?_
  refine go_aload_n dX9_init_20 rfl ?_
  refine go_bipush (v := 6) dX9_init_21 (by decide) ?_
  refine go_newi (n := 6) (N := 6) dX9_init_23 (by decide) rfl rfl ac_int rfl rfl ?_
  refine go_putF dX9_init_25 fX9_16 rfl ⟨_, _, rfl⟩ (fun _ => rfl) (fun _ => rfl) rfl rfl ?_
  refine go_heap (h2 := [c0, c1, c2, c3, c4, c5, c6, c7, c8, c9, c10, c11, c12, c13, c14, c15, c16, c17, c18, c19, c20, c21, c22, c23, c24, c25, c26, c27, c28, c29, c30, c31, c32, c33, c34, c35, c36, c37, c38, c39, c40, c41, c42, c43, c44, c45, c46, c47, c48, c49, c50, c51, .inr (9, [.ref 53, .ref 54, .int 0, .ref 55, .null, .int 0, .null, .int 0, .null, .int 0, .int 0, .int 0, .int 0, .int 0, .null, .null, .null, .null, .int 0, .int 0, .null, .null]), .inl (0, 61, .inl zI), .inl (0, 61, .inl zI), .inl (0, 6, .inl zI)]) rfl ?_
  refine go_aload_n dX9_init_28 rfl ?_
  refine go_bipush (v := 10) dX9_init_29 (by decide) ?_
  refine go_newi (n := 10) (N := 10) dX9_init_31 (by decide) rfl rfl ac_int rfl rfl ?_
  refine go_putF dX9_init_33 fX9_19 rfl ⟨_, _, rfl⟩ (fun _ => rfl) (fun _ => rfl) rfl rfl ?_
  refine go_heap (h2 := [c0, c1, c2, c3, c4, c5, c6, c7, c8, c9, c10, c11, c12, c13, c14, c15, c16, c17, c18, c19, c20, c21, c22, c23, c24, c25, c26, c27, c28, c29, c30, c31, c32, c33, c34, c35, c36, c37, c38, c39, c40, c41, c42, c43, c44, c45, c46, c47, c48, c49, c50, c51, .inr (9, [.ref 53, .ref 54, .int 0, .ref 55, .ref 56, .int 0, .null, .int 0, .null, .int 0, .int 0, .int 0, .int 0, .int 0, .null, .null, .null, .null, .int 0, .int 0, .null, .null]), .inl (0, 61, .inl zI), .inl (0, 61, .inl zI), .inl (0, 6, .inl zI), .inl (0, 10, .inl zI)]) rfl ?_
  refine go_aload_n dX9_init_36 rfl ?_
  refine go_bipush (v := 32) dX9_init_37 (by decide) ?_
  refine go_newi (n := 32) (N := 32) dX9_init_39 (by decide) rfl rfl ac_int rfl rfl ?_
  refine go_putF dX9_init_41 fX9_22 rfl ⟨_, _, rfl⟩ (fun _ => rfl) (fun _ => rfl) rfl rfl ?_
  refine go_heap (h2 := [c0, c1, c2, c3, c4, c5, c6, c7, c8, c9, c10, c11, c12, c13, c14, c15, c16, c17, c18, c19, c20, c21, c22, c23, c24, c25, c26, c27, c28, c29, c30, c31, c32, c33, c34, c35, c36, c37, c38, c39, c40, c41, c42, c43, c44, c45, c46, c47, c48, c49, c50, c51, .inr (9, [.ref 53, .ref 54, .int 0, .ref 55, .ref 56, .int 0, .ref 57, .int 0, .null, .int 0, .int 0, .int 0, .int 0, .int 0, .null, .null, .null, .null, .int 0, .int 0, .null, .null]), .inl (0, 61, .inl zI), .inl (0, 61, .inl zI), .inl (0, 6, .inl zI), .inl (0, 10, .inl zI), .inl (0, 32, .inl zI)]) rfl ?_
  refine go_aload_n dX9_init_44 rfl ?_
  refine go_bipush (v := 60) dX9_init_45 (by decide) ?_
  refine go_newi (n := 60) (N := 60) dX9_init_47 (by decide) rfl rfl ac_int rfl rfl ?_
  refine go_putF dX9_init_49 fX9_25 rfl ⟨_, _, rfl⟩ (fun _ => rfl) (fun _ => rfl) rfl rfl ?_
  refine go_heap (h2 := [c0, c1, c2, c3, c4, c5, c6, c7, c8, c9, c10, c11, c12, c13, c14, c15, c16, c17, c18, c19, c20, c21, c22, c23, c24, c25, c26, c27, c28, c29, c30, c31, c32, c33, c34, c35, c36, c37, c38, c39, c40, c41, c42, c43, c44, c45, c46, c47, c48, c49, c50, c51, .inr (9, [.ref 53, .ref 54, .int 0, .ref 55, .ref 56, .int 0, .ref 57, .int 0, .ref 58, .int 0, .int 0, .int 0, .int 0, .int 0, .null, .null, .null, .null, .int 0, .int 0, .null, .null]), .inl (0, 61, .inl zI), .inl (0, 61, .inl zI), .inl (0, 6, .inl zI), .inl (0, 10, .inl zI), .inl (0, 32, .inl zI), .inl (0, 60, .inl zI)]) rfl ?_
  refine go_aload_n dX9_init_52 rfl ?_
  refine go_bipush (v := 110) dX9_init_53 (by decide) ?_
  refine go_newl (n := 110) (N := 110) dX9_init_55 (by decide) rfl rfl ac_long rfl rfl ?_
  refine go_putF dX9_init_57 fX9_28 rfl ⟨_, _, rfl⟩ (fun _ => rfl) (fun _ => rfl) rfl rfl ?_
  refine go_heap (h2 := [c0, c1, c2, c3, c4, c5, c6, c7, c8, c9, c10, c11, c12, c13, c14, c15, c16, c17, c18, c19, c20, c21, c22, c23, c24, c25, c26, c27, c28, c29, c30, c31, c32, c33, c34, c35, c36, c37, c38, c39, c40, c41, c42, c43, c44, c45, c46, c47, c48, c49, c50, c51, .inr (9, [.ref 53, .ref 54, .int 0, .ref 55, .ref 56, .int 0, .ref 57, .int 0, .ref 58, .int 0, .int 0, .int 0, .int 0, .int 0, .ref 59, .null, .null, .null, .int 0, .int 0, .null, .null]), .inl (0, 61, .inl zI), .inl (0, 61, .inl zI), .inl (0, 6, .inl zI), .inl (0, 10, .inl zI), .inl (0, 32, .inl zI), .inl (0, 60, .inl zI), .inl (1, 110, .inr (.inl zL))]) rfl ?_
  refine go_aload_n dX9_init_60 rfl ?_
  refine go_bipush (v := 64) dX9_init_61 (by decide) ?_
  refine go_newi (n := 64) (N := 64) dX9_init_63 (by decide) rfl rfl ac_int rfl rfl ?_
  refine go_putF dX9_init_65 fX9_32 rfl ⟨_, _, rfl⟩ (fun _ => rfl) (fun _ => rfl) rfl rfl ?_
  refine go_heap (h2 := [c0, c1, c2, c3, c4, c5, c6, c7, c8, c9, c10, c11, c12, c13, c14, c15, c16, c17, c18, c19, c20, c21, c22, c23, c24, c25, c26, c27, c28, c29, c30, c31, c32, c33, c34, c35, c36, c37, c38, c39, c40, c41, c42, c43, c44, c45, c46, c47, c48, c49, c50, c51, .inr (9, [.ref 53, .ref 54, .int 0, .ref 55, .ref 56, .int 0, .ref 57, .int 0, .ref 58, .int 0, .int 0, .int 0, .int 0, .int 0, .ref 59, .ref 60, .null, .null, .int 0, .int 0, .null, .null]), .inl (0, 61, .inl zI), .inl (0, 61, .inl zI), .inl (0, 6, .inl zI), .inl (0, 10, .inl zI), .inl (0, 32, .inl zI), .inl (0, 60, .inl zI), .inl (1, 110, .inr (.inl zL)), .inl (0, 64, .inl zI)]) rfl ?_
  refine go_aload_n dX9_init_68 rfl ?_
  refine go_bipush (v := 6) dX9_init_69 (by decide) ?_
  refine go_newi (n := 6) (N := 6) dX9_init_71 (by decide) rfl rfl ac_int rfl rfl ?_
  refine go_putF dX9_init_73 fX9_35 rfl ⟨_, _, rfl⟩ (fun _ => rfl) (fun _ => rfl) rfl rfl ?_
  refine go_heap (h2 := [c0, c1, c2, c3, c4, c5, c6, c7, c8, c9, c10, c11, c12, c13, c14, c15, c16, c17, c18, c19, c20, c21, c22, c23, c24, c25, c26, c27, c28, c29, c30, c31, c32, c33, c34, c35, c36, c37, c38, c39, c40, c41, c42, c43, c44, c45, c46, c47, c48, c49, c50, c51, .inr (9, [.ref 53, .ref 54, .int 0, .ref 55, .ref 56, .int 0, .ref 57, .int 0, .ref 58, .int 0, .int 0, .int 0, .int 0, .int 0, .ref 59, .ref 60, .ref 61, .null, .int 0, .int 0, .null, .null]), .inl (0, 61, .inl zI), .inl (0, 61, .inl zI), .inl (0, 6, .inl zI), .inl (0, 10, .inl zI), .inl (0, 32, .inl zI), .inl (0, 60, .inl zI), .inl (1, 110, .inr (.inl zL)), .inl (0, 64, .inl zI), .inl (0, 6, .inl zI)]) rfl ?_
  refine go_aload_n dX9_init_76 rfl ?_
  refine go_bipush (v := 6) dX9_init_77 (by decide) ?_
  refine go_newi (n := 6) (N := 6) dX9_init_79 (by decide) rfl rfl ac_int rfl rfl ?_
  refine go_putF dX9_init_81 fX9_38 rfl ⟨_, _, rfl⟩ (fun _ => rfl) (fun _ => rfl) rfl rfl ?_
  refine go_heap (h2 := [c0, c1, c2, c3, c4, c5, c6, c7, c8, c9, c10, c11, c12, c13, c14, c15, c16, c17, c18, c19, c20, c21, c22, c23, c24, c25, c26, c27, c28, c29, c30, c31, c32, c33, c34, c35, c36, c37, c38, c39, c40, c41, c42, c43, c44, c45, c46, c47, c48, c49, c50, c51, .inr (9, [.ref 53, .ref 54, .int 0, .ref 55, .ref 56, .int 0, .ref 57, .int 0, .ref 58, .int 0, .int 0, .int 0, .int 0, .int 0, .ref 59, .ref 60, .ref 61, .ref 62, .int 0, .int 0, .null, .null]), .inl (0, 61, .inl zI), .inl (0, 61, .inl zI), .inl (0, 6, .inl zI), .inl (0, 10, .inl zI), .inl (0, 32, .inl zI), .inl (0, 60, .inl zI), .inl (1, 110, .inr (.inl zL)), .inl (0, 64, .inl zI), .inl (0, 6, .inl zI), .inl (0, 6, .inl zI)]) rfl ?_
  refine go_aload_n dX9_init_84 rfl ?_
  refine go_sipush (v := 260) dX9_init_85 (by decide) ?_
  refine go_newi (n := 260) (N := 260) dX9_init_88 (by decide) rfl rfl ac_int rfl rfl ?_
  refine go_putF dX9_init_90 fX9_41 rfl ⟨_, _, rfl⟩ (fun _ => rfl) (fun _ => rfl) rfl rfl ?_
  refine go_heap (h2 := [c0, c1, c2, c3, c4, c5, c6, c7, c8, c9, c10, c11, c12, c13, c14, c15, c16, c17, c18, c19, c20, c21, c22, c23, c24, c25, c26, c27, c28, c29, c30, c31, c32, c33, c34, c35, c36, c37, c38, c39, c40, c41, c42, c43, c44, c45, c46, c47, c48, c49, c50, c51, .inr (9, [.ref 53, .ref 54, .int 0, .ref 55, .ref 56, .int 0, .ref 57, .int 0, .ref 58, .int 0, .int 0, .int 0, .int 0, .int 0, .ref 59, .ref 60, .ref 61, .ref 62, .int 0, .int 0, .ref 63, .null]), .inl (0, 61, .inl zI), .inl (0, 61, .inl zI), .inl (0, 6, .inl zI), .inl (0, 10, .inl zI), .inl (0, 32, .inl zI), .inl (0, 60, .inl zI), .inl (1, 110, .inr (.inl zL)), .inl (0, 64, .inl zI), .inl (0, 6, .inl zI), .inl (0, 6, .inl zI), .inl (0, 260, .inl zI)]) rfl ?_
  refine go_aload_n dX9_init_93 rfl ?_
  refine go_iconst (v := 2) dX9_init_94 (by decide) ?_
  refine go_newz (n := 2) (N := 2) dX9_init_95 (by decide) rfl rfl ac_boolean rfl rfl ?_
  refine go_putF dX9_init_97 fX9_44 rfl ⟨_, _, rfl⟩ (fun _ => rfl) (fun _ => rfl) rfl rfl ?_
  refine go_heap (h2 := [c0, c1, c2, c3, c4, c5, c6, c7, c8, c9, c10, c11, c12, c13, c14, c15, c16, c17, c18, c19, c20, c21, c22, c23, c24, c25, c26, c27, c28, c29, c30, c31, c32, c33, c34, c35, c36, c37, c38, c39, c40, c41, c42, c43, c44, c45, c46, c47, c48, c49, c50, c51, .inr (9, [.ref 53, .ref 54, .int 0, .ref 55, .ref 56, .int 0, .ref 57, .int 0, .ref 58, .int 0, .int 0, .int 0, .int 0, .int 0, .ref 59, .ref 60, .ref 61, .ref 62, .int 0, .int 0, .ref 63, .ref 64]), .inl (0, 61, .inl zI), .inl (0, 61, .inl zI), .inl (0, 6, .inl zI), .inl (0, 10, .inl (wfR 0)), .inl (0, 32, .inl zI), .inl (0, 60, .inl zI), .inl (1, 110, .inr (.inl zL)), .inl (0, 64, .inl zI), .inl (0, 6, .inl zI), .inl (0, 6, .inl zI), .inl (0, 260, .inl zI), .inl (2, 2, .inl zI)]) rfl ?_
  refine go_iconst (v := 1) dX9_init_100 (by decide) ?_
  refine go_istore_n (L' := [_, _]) dX9_init_101 rfl rfl rfl ?_
  exact key 9 0 rfl
abbrev zF : FolkS := (0, 0, zI, zI, zI, zI, zI)
abbrev zW : WorldS := (zF, wfR 9, zI, zI, 0, 0)
abbrev zM : ModS := (zI, zI, 0, zI, wfR 9, 0, zI, 0, zI, 0, 0, 0, 0, 0, zL, zI, zI, zI, 0, 0, zI, zI)
abbrev zH : gH := hp zW zW zW (zI, 0) (zF, (0, 0, 0, 0, 0), 0, 0, 0, 0, 0) (zL, zL, 0) (zI, zI, zI) (zI, zI) zM
theorem z_world : [.inr (8, [.ref 1, .ref 11, .ref 32, .ref 34, .ref 42, .ref 45, .ref 49]), .inr (7, [.ref 2, .ref 8, .ref 9, .ref 10, .int 0, .int 0]), .inr (1, [.int 0, .int 0, .ref 3, .ref 4, .ref 5, .ref 6, .ref 7]), .inl (0, 6, .inl zI), .inl (0, 6, .inl zI), .inl (0, 6, .inl zI), .inl (0, 6, .inl zI), .inl (0, 36, .inl zI), .inl (0, 10, .inl (wfR 9)), .inl (0, 8, .inl zI), .inl (2, 8, .inl zI), arQ imq, .inr (7, [.ref 13, .ref 19, .ref 20, .ref 21, .int 0, .int 0]), .inr (1, [.int 0, .int 0, .ref 14, .ref 15, .ref 16, .ref 17, .ref 18]), .inl (0, 6, .inl zI), .inl (0, 6, .inl zI), .inl (0, 6, .inl zI), .inl (0, 6, .inl zI), .inl (0, 36, .inl zI), .inl (0, 10, .inl (wfR 9)), .inl (0, 8, .inl zI), .inl (2, 8, .inl zI), .inr (7, [.ref 23, .ref 29, .ref 30, .ref 31, .int 0, .int 0]), .inr (1, [.int 0, .int 0, .ref 24, .ref 25, .ref 26, .ref 27, .ref 28]), .inl (0, 6, .inl zI), .inl (0, 6, .inl zI), .inl (0, 6, .inl zI), .inl (0, 6, .inl zI), .inl (0, 36, .inl zI), .inl (0, 10, .inl (wfR 9)), .inl (0, 8, .inl zI), .inl (2, 8, .inl zI), .inr (5, [.ref 33, .int 0]), .inl (0, 60, .inl zI), .inr (2, [.ref 35, .ref 41, .int 0, .int 0, .int 0, .int 0, .int 0]), .inr (1, [.int 0, .int 0, .ref 36, .ref 37, .ref 38, .ref 39, .ref 40]), .inl (0, 6, .inl zI), .inl (0, 6, .inl zI), .inl (0, 6, .inl zI), .inl (0, 6, .inl zI), .inl (0, 36, .inl zI), .inr (0, [.int 0, .int 0, .int 0, .int 0, .int 0]), .inr (6, [.ref 43, .ref 44, .int 0]), .inl (1, 90, .inr (.inl zL)), .inl (1, 9, .inr (.inl zL)), .inr (3, [.ref 46, .ref 47, .ref 48]), .inl (0, 64, .inl zI), .inl (0, 64, .inl zI), .inl (0, 6, .inl zI), .inr (4, [.ref 50, .ref 51]), .inl (0, 64, .inl zI), .inl (0, 64, .inl zI), .inr (9, [.ref 53, .ref 54, .int 0, .ref 55, .ref 56, .int 0, .ref 57, .int 0, .ref 58, .int 0, .int 0, .int 0, .int 0, .int 0, .ref 59, .ref 60, .ref 61, .ref 62, .int 0, .int 0, .ref 63, .ref 64]), .inl (0, 61, .inl zI), .inl (0, 61, .inl zI), .inl (0, 6, .inl zI), .inl (0, 10, .inl (wfR 9)), .inl (0, 32, .inl zI), .inl (0, 60, .inl zI), .inl (1, 110, .inr (.inl zL)), .inl (0, 64, .inl zI), .inl (0, 6, .inl zI), .inl (0, 6, .inl zI), .inl (0, 260, .inl zI), .inl (2, 2, .inl zI)] = zH := rfl
theorem wf_at : ∀ k, k < 9 → wfR 9 (k + 1) = 1 := by decide +kernel
theorem wf_all : allN (wN (wfR 9)) = 9 := by decide +kernel
theorem z_tb : ∀ p, p < 6 → tb 0 p = false := by decide +kernel
theorem z_rel : RelH zH := by
  refine relH_mk (th := 0) (s := 0) (c := 0) (O := fun _ => 0) (F2 := (0, zI, zI, zI, zI, zI)) (we := wfR 9) (ss := zI) ⟨⟨by decide, by decide, ?_, ?_, ?_, ?_, ?_, ?_, ?_⟩, by decide, ?_, rfl, rfl, ?_, ?_⟩
  · exact ⟨rfl, fun p hp6 hp1 => absurd hp1 (by rw [z_tb p hp6]; decide), fun a _ b _ => rfl, rfl⟩
  · exact ⟨fun p hp6 hp1 => absurd hp1 (by rw [z_tb p hp6]; decide), fun p _ => ⟨(by decide : (0 : Int) ≤ (0 : Int32).toInt), (by decide : (0 : Int32).toInt ≤ 9999)⟩, by decide, fun p _ _ => ⟨rfl, rfl⟩, fun p hp6 hp1 => absurd hp1 (by rw [z_tb p hp6]; decide)⟩
  · exact fun p hp6 hp1 => absurd hp1 (by rw [z_tb p hp6]; decide)
  · exact fun j _ => rfl
  · exact ⟨fun k hk => by rw [wf_at k hk]; decide, by rw [wf_all]; decide⟩
  · exact fun i hi => by omega
  · exact fun k _ => Or.inl rfl
  · exact ⟨fun n _ => rfl, fun m _ => rfl, fun z => absurd rfl z⟩
  · exact ⟨rfl, Or.inl rfl⟩
  · exact ⟨rfl, Or.inl rfl⟩
