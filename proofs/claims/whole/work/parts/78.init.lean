theorem dfX8 : ∀ (b j : Nat), j < 7 → defaultValue (tyX8 j) = vp_V (([.null, .null, .null, .null, .null, .null, .null] : List Value).map (gv b)) j := by
  intro b j hj
  rcases (show j = 0 ∨ j = 1 ∨ j = 2 ∨ j = 3 ∨ j = 4 ∨ j = 5 ∨ j = 6 by omega) with rfl | rfl | rfl | rfl | rfl | rfl | rfl <;> rfl
theorem dfX7 : ∀ (b j : Nat), j < 6 → defaultValue (tyX7 j) = vp_V (([.null, .null, .null, .null, .int 0, .int 0] : List Value).map (gv b)) j := by
  intro b j hj
  rcases (show j = 0 ∨ j = 1 ∨ j = 2 ∨ j = 3 ∨ j = 4 ∨ j = 5 by omega) with rfl | rfl | rfl | rfl | rfl | rfl <;> rfl
theorem dfX1 : ∀ (b j : Nat), j < 7 → defaultValue (tyX1 j) = vp_V (([.int 0, .int 0, .null, .null, .null, .null, .null] : List Value).map (gv b)) j := by
  intro b j hj
  rcases (show j = 0 ∨ j = 1 ∨ j = 2 ∨ j = 3 ∨ j = 4 ∨ j = 5 ∨ j = 6 by omega) with rfl | rfl | rfl | rfl | rfl | rfl | rfl <;> rfl
theorem dfX5 : ∀ (b j : Nat), j < 2 → defaultValue (tyX5 j) = vp_V (([.null, .int 0] : List Value).map (gv b)) j := by
  intro b j hj
  rcases (show j = 0 ∨ j = 1 by omega) with rfl | rfl <;> rfl
theorem dfX2 : ∀ (b j : Nat), j < 7 → defaultValue (tyX2 j) = vp_V (([.null, .null, .int 0, .int 0, .int 0, .int 0, .int 0] : List Value).map (gv b)) j := by
  intro b j hj
  rcases (show j = 0 ∨ j = 1 ∨ j = 2 ∨ j = 3 ∨ j = 4 ∨ j = 5 ∨ j = 6 by omega) with rfl | rfl | rfl | rfl | rfl | rfl | rfl <;> rfl
theorem dfX0 : ∀ (b j : Nat), j < 5 → defaultValue (tyX0 j) = vp_V (([.int 0, .int 0, .int 0, .int 0, .int 0] : List Value).map (gv b)) j := by
  intro b j hj
  rcases (show j = 0 ∨ j = 1 ∨ j = 2 ∨ j = 3 ∨ j = 4 by omega) with rfl | rfl | rfl | rfl | rfl <;> rfl
theorem dfX6 : ∀ (b j : Nat), j < 3 → defaultValue (tyX6 j) = vp_V (([.null, .null, .int 0] : List Value).map (gv b)) j := by
  intro b j hj
  rcases (show j = 0 ∨ j = 1 ∨ j = 2 by omega) with rfl | rfl | rfl <;> rfl
theorem dfX3 : ∀ (b j : Nat), j < 3 → defaultValue (tyX3 j) = vp_V (([.null, .null, .null] : List Value).map (gv b)) j := by
  intro b j hj
  rcases (show j = 0 ∨ j = 1 ∨ j = 2 by omega) with rfl | rfl | rfl <;> rfl
theorem dfX4 : ∀ (b j : Nat), j < 2 → defaultValue (tyX4 j) = vp_V (([.null, .null] : List Value).map (gv b)) j := by
  intro b j hj
  rcases (show j = 0 ∨ j = 1 by omega) with rfl | rfl <;> rfl
theorem dfX9 : ∀ (b j : Nat), j < 22 → defaultValue (tyX9 j) = vp_V (([.null, .null, .int 0, .null, .null, .int 0, .null, .int 0, .null, .int 0, .int 0, .int 0, .int 0, .int 0, .null, .null, .null, .null, .int 0, .int 0, .null, .null] : List Value).map (gv b)) j := by
  intro b j hj
  rcases (show j = 0 ∨ j = 1 ∨ j = 2 ∨ j = 3 ∨ j = 4 ∨ j = 5 ∨ j = 6 ∨ j = 7 ∨ j = 8 ∨ j = 9 ∨ j = 10 ∨ j = 11 ∨ j = 12 ∨ j = 13 ∨ j = 14 ∨ j = 15 ∨ j = 16 ∨ j = 17 ∨ j = 18 ∨ j = 19 ∨ j = 20 ∨ j = 21 by omega) with rfl | rfl | rfl | rfl | rfl | rfl | rfl | rfl | rfl | rfl | rfl | rfl | rfl | rfl | rfl | rfl | rfl | rfl | rfl | rfl | rfl | rfl <;> rfl
def wfR : Nat → (Nat → Int32)
  | 0 => fun _ => 0
  | k + 1 => upd (wfR k) (k + 1) 1
theorem wfR_s (k : Nat) : wfR (k + 1) = upd (wfR k) (k + 1) 1 := rfl
abbrev zI : Nat → Int32 := fun _ => 0
abbrev zL : Nat → Int64 := fun _ => 0
set_option maxRecDepth 100000 in
set_option maxHeartbeats 4000000 in
theorem rX1_init_2 {E : gE} {d : Nat} {c0 c1 : gC} : Ret E yX1_init cX1_init 1 none (d + 1) 5 60 [.ref 2] [c0, c1, .inr (1, [.int 0, .int 0, .null, .null, .null, .null, .null])] (dt none [c0, c1, .inr (1, [.int 0, .int 0, .ref 3, .ref 4, .ref 5, .ref 6, .ref 7]), .inl (0, 6, .inl zI), .inl (0, 6, .inl zI), .inl (0, 6, .inl zI), .inl (0, 6, .inl zI), .inl (0, 36, .inl zI)]) := by
  refine ret_of_go (L := [_]) (by decide) (Nat.le_of_ble_eq_true rfl) rfl ?_
  refine go_aload_n dX1_init_0 rfl ?_
  refine go_objInit dX1_init_1 kX1_3 iobj cobj rfl ?_
  refine go_aload_n dX1_init_4 rfl ?_
  refine go_bipush (v := 6) dX1_init_5 (by decide) ?_
  refine go_newi (n := 6) (N := 6) dX1_init_7 (by decide) rfl rfl ac_int rfl rfl ?_
  refine go_putF dX1_init_9 fX1_9 rfl ⟨_, _, rfl⟩ (fun _ => rfl) (fun _ => rfl) rfl rfl ?_
  refine go_aload_n dX1_init_12 rfl ?_
  refine go_bipush (v := 6) dX1_init_13 (by decide) ?_
  refine go_newi (n := 6) (N := 6) dX1_init_15 (by decide) rfl rfl ac_int rfl rfl ?_
  refine go_putF dX1_init_17 fX1_15 rfl ⟨_, _, rfl⟩ (fun _ => rfl) (fun _ => rfl) rfl rfl ?_
  refine go_aload_n dX1_init_20 rfl ?_
  refine go_bipush (v := 6) dX1_init_21 (by decide) ?_
  refine go_newi (n := 6) (N := 6) dX1_init_23 (by decide) rfl rfl ac_int rfl rfl ?_
  refine go_putF dX1_init_25 fX1_18 rfl ⟨_, _, rfl⟩ (fun _ => rfl) (fun _ => rfl) rfl rfl ?_
  refine go_aload_n dX1_init_28 rfl ?_
  refine go_bipush (v := 6) dX1_init_29 (by decide) ?_
  refine go_newi (n := 6) (N := 6) dX1_init_31 (by decide) rfl rfl ac_int rfl rfl ?_
  refine go_putF dX1_init_33 fX1_21 rfl ⟨_, _, rfl⟩ (fun _ => rfl) (fun _ => rfl) rfl rfl ?_
  refine go_aload_n dX1_init_36 rfl ?_
  refine go_bipush (v := 36) dX1_init_37 (by decide) ?_
  refine go_newi (n := 36) (N := 36) dX1_init_39 (by decide) rfl rfl ac_int rfl rfl ?_
  refine go_putF dX1_init_41 fX1_24 rfl ⟨_, _, rfl⟩ (fun _ => rfl) (fun _ => rfl) rfl rfl ?_
  refine go_vret dX1_init_44 rfl rfl ?_
  exact ⟨rfl, rfl⟩
set_option maxRecDepth 100000 in
set_option maxHeartbeats 4000000 in
theorem rX1_init_13 {E : gE} {d : Nat} {c0 c1 c2 c3 c4 c5 c6 c7 c8 c9 c10 c11 c12 : gC} : Ret E yX1_init cX1_init 1 none (d + 1) 5 60 [.ref 13] [c0, c1, c2, c3, c4, c5, c6, c7, c8, c9, c10, c11, c12, .inr (1, [.int 0, .int 0, .null, .null, .null, .null, .null])] (dt none [c0, c1, c2, c3, c4, c5, c6, c7, c8, c9, c10, c11, c12, .inr (1, [.int 0, .int 0, .ref 14, .ref 15, .ref 16, .ref 17, .ref 18]), .inl (0, 6, .inl zI), .inl (0, 6, .inl zI), .inl (0, 6, .inl zI), .inl (0, 6, .inl zI), .inl (0, 36, .inl zI)]) := by
  refine ret_of_go (L := [_]) (by decide) (Nat.le_of_ble_eq_true rfl) rfl ?_
  refine go_aload_n dX1_init_0 rfl ?_
  refine go_objInit dX1_init_1 kX1_3 iobj cobj rfl ?_
  refine go_aload_n dX1_init_4 rfl ?_
  refine go_bipush (v := 6) dX1_init_5 (by decide) ?_
  refine go_newi (n := 6) (N := 6) dX1_init_7 (by decide) rfl rfl ac_int rfl rfl ?_
  refine go_putF dX1_init_9 fX1_9 rfl ⟨_, _, rfl⟩ (fun _ => rfl) (fun _ => rfl) rfl rfl ?_
  refine go_aload_n dX1_init_12 rfl ?_
  refine go_bipush (v := 6) dX1_init_13 (by decide) ?_
  refine go_newi (n := 6) (N := 6) dX1_init_15 (by decide) rfl rfl ac_int rfl rfl ?_
  refine go_putF dX1_init_17 fX1_15 rfl ⟨_, _, rfl⟩ (fun _ => rfl) (fun _ => rfl) rfl rfl ?_
  refine go_aload_n dX1_init_20 rfl ?_
  refine go_bipush (v := 6) dX1_init_21 (by decide) ?_
  refine go_newi (n := 6) (N := 6) dX1_init_23 (by decide) rfl rfl ac_int rfl rfl ?_
  refine go_putF dX1_init_25 fX1_18 rfl ⟨_, _, rfl⟩ (fun _ => rfl) (fun _ => rfl) rfl rfl ?_
  refine go_aload_n dX1_init_28 rfl ?_
  refine go_bipush (v := 6) dX1_init_29 (by decide) ?_
  refine go_newi (n := 6) (N := 6) dX1_init_31 (by decide) rfl rfl ac_int rfl rfl ?_
  refine go_putF dX1_init_33 fX1_21 rfl ⟨_, _, rfl⟩ (fun _ => rfl) (fun _ => rfl) rfl rfl ?_
  refine go_aload_n dX1_init_36 rfl ?_
  refine go_bipush (v := 36) dX1_init_37 (by decide) ?_
  refine go_newi (n := 36) (N := 36) dX1_init_39 (by decide) rfl rfl ac_int rfl rfl ?_
  refine go_putF dX1_init_41 fX1_24 rfl ⟨_, _, rfl⟩ (fun _ => rfl) (fun _ => rfl) rfl rfl ?_
  refine go_vret dX1_init_44 rfl rfl ?_
  exact ⟨rfl, rfl⟩
set_option maxRecDepth 100000 in
set_option maxHeartbeats 4000000 in
theorem rX1_init_23 {E : gE} {d : Nat} {c0 c1 c2 c3 c4 c5 c6 c7 c8 c9 c10 c11 c12 c13 c14 c15 c16 c17 c18 c19 c20 c21 c22 : gC} : Ret E yX1_init cX1_init 1 none (d + 1) 5 60 [.ref 23] [c0, c1, c2, c3, c4, c5, c6, c7, c8, c9, c10, c11, c12, c13, c14, c15, c16, c17, c18, c19, c20, c21, c22, .inr (1, [.int 0, .int 0, .null, .null, .null, .null, .null])] (dt none [c0, c1, c2, c3, c4, c5, c6, c7, c8, c9, c10, c11, c12, c13, c14, c15, c16, c17, c18, c19, c20, c21, c22, .inr (1, [.int 0, .int 0, .ref 24, .ref 25, .ref 26, .ref 27, .ref 28]), .inl (0, 6, .inl zI), .inl (0, 6, .inl zI), .inl (0, 6, .inl zI), .inl (0, 6, .inl zI), .inl (0, 36, .inl zI)]) := by
  refine ret_of_go (L := [_]) (by decide) (Nat.le_of_ble_eq_true rfl) rfl ?_
  refine go_aload_n dX1_init_0 rfl ?_
  refine go_objInit dX1_init_1 kX1_3 iobj cobj rfl ?_
  refine go_aload_n dX1_init_4 rfl ?_
  refine go_bipush (v := 6) dX1_init_5 (by decide) ?_
  refine go_newi (n := 6) (N := 6) dX1_init_7 (by decide) rfl rfl ac_int rfl rfl ?_
  refine go_putF dX1_init_9 fX1_9 rfl ⟨_, _, rfl⟩ (fun _ => rfl) (fun _ => rfl) rfl rfl ?_
  refine go_aload_n dX1_init_12 rfl ?_
  refine go_bipush (v := 6) dX1_init_13 (by decide) ?_
  refine go_newi (n := 6) (N := 6) dX1_init_15 (by decide) rfl rfl ac_int rfl rfl ?_
  refine go_putF dX1_init_17 fX1_15 rfl ⟨_, _, rfl⟩ (fun _ => rfl) (fun _ => rfl) rfl rfl ?_
  refine go_aload_n dX1_init_20 rfl ?_
  refine go_bipush (v := 6) dX1_init_21 (by decide) ?_
  refine go_newi (n := 6) (N := 6) dX1_init_23 (by decide) rfl rfl ac_int rfl rfl ?_
  refine go_putF dX1_init_25 fX1_18 rfl ⟨_, _, rfl⟩ (fun _ => rfl) (fun _ => rfl) rfl rfl ?_
  refine go_aload_n dX1_init_28 rfl ?_
  refine go_bipush (v := 6) dX1_init_29 (by decide) ?_
  refine go_newi (n := 6) (N := 6) dX1_init_31 (by decide) rfl rfl ac_int rfl rfl ?_
  refine go_putF dX1_init_33 fX1_21 rfl ⟨_, _, rfl⟩ (fun _ => rfl) (fun _ => rfl) rfl rfl ?_
  refine go_aload_n dX1_init_36 rfl ?_
  refine go_bipush (v := 36) dX1_init_37 (by decide) ?_
  refine go_newi (n := 36) (N := 36) dX1_init_39 (by decide) rfl rfl ac_int rfl rfl ?_
  refine go_putF dX1_init_41 fX1_24 rfl ⟨_, _, rfl⟩ (fun _ => rfl) (fun _ => rfl) rfl rfl ?_
  refine go_vret dX1_init_44 rfl rfl ?_
  exact ⟨rfl, rfl⟩
set_option maxRecDepth 100000 in
set_option maxHeartbeats 4000000 in
theorem rX1_init_35 {E : gE} {d : Nat} {c0 c1 c2 c3 c4 c5 c6 c7 c8 c9 c10 c11 c12 c13 c14 c15 c16 c17 c18 c19 c20 c21 c22 c23 c24 c25 c26 c27 c28 c29 c30 c31 c32 c33 c34 : gC} : Ret E yX1_init cX1_init 1 none (d + 1) 5 60 [.ref 35] [c0, c1, c2, c3, c4, c5, c6, c7, c8, c9, c10, c11, c12, c13, c14, c15, c16, c17, c18, c19, c20, c21, c22, c23, c24, c25, c26, c27, c28, c29, c30, c31, c32, c33, c34, .inr (1, [.int 0, .int 0, .null, .null, .null, .null, .null])] (dt none [c0, c1, c2, c3, c4, c5, c6, c7, c8, c9, c10, c11, c12, c13, c14, c15, c16, c17, c18, c19, c20, c21, c22, c23, c24, c25, c26, c27, c28, c29, c30, c31, c32, c33, c34, .inr (1, [.int 0, .int 0, .ref 36, .ref 37, .ref 38, .ref 39, .ref 40]), .inl (0, 6, .inl zI), .inl (0, 6, .inl zI), .inl (0, 6, .inl zI), .inl (0, 6, .inl zI), .inl (0, 36, .inl zI)]) := by
  refine ret_of_go (L := [_]) (by decide) (Nat.le_of_ble_eq_true rfl) rfl ?_
  refine go_aload_n dX1_init_0 rfl ?_
  refine go_objInit dX1_init_1 kX1_3 iobj cobj rfl ?_
  refine go_aload_n dX1_init_4 rfl ?_
  refine go_bipush (v := 6) dX1_init_5 (by decide) ?_
  refine go_newi (n := 6) (N := 6) dX1_init_7 (by decide) rfl rfl ac_int rfl rfl ?_
  refine go_putF dX1_init_9 fX1_9 rfl ⟨_, _, rfl⟩ (fun _ => rfl) (fun _ => rfl) rfl rfl ?_
  refine go_aload_n dX1_init_12 rfl ?_
  refine go_bipush (v := 6) dX1_init_13 (by decide) ?_
  refine go_newi (n := 6) (N := 6) dX1_init_15 (by decide) rfl rfl ac_int rfl rfl ?_
  refine go_putF dX1_init_17 fX1_15 rfl ⟨_, _, rfl⟩ (fun _ => rfl) (fun _ => rfl) rfl rfl ?_
  refine go_aload_n dX1_init_20 rfl ?_
  refine go_bipush (v := 6) dX1_init_21 (by decide) ?_
  refine go_newi (n := 6) (N := 6) dX1_init_23 (by decide) rfl rfl ac_int rfl rfl ?_
  refine go_putF dX1_init_25 fX1_18 rfl ⟨_, _, rfl⟩ (fun _ => rfl) (fun _ => rfl) rfl rfl ?_
  refine go_aload_n dX1_init_28 rfl ?_
  refine go_bipush (v := 6) dX1_init_29 (by decide) ?_
  refine go_newi (n := 6) (N := 6) dX1_init_31 (by decide) rfl rfl ac_int rfl rfl ?_
  refine go_putF dX1_init_33 fX1_21 rfl ⟨_, _, rfl⟩ (fun _ => rfl) (fun _ => rfl) rfl rfl ?_
  refine go_aload_n dX1_init_36 rfl ?_
  refine go_bipush (v := 36) dX1_init_37 (by decide) ?_
  refine go_newi (n := 36) (N := 36) dX1_init_39 (by decide) rfl rfl ac_int rfl rfl ?_
  refine go_putF dX1_init_41 fX1_24 rfl ⟨_, _, rfl⟩ (fun _ => rfl) (fun _ => rfl) rfl rfl ?_
  refine go_vret dX1_init_44 rfl rfl ?_
  exact ⟨rfl, rfl⟩
set_option maxRecDepth 100000 in
set_option maxHeartbeats 4000000 in
theorem rX7_init_1 {E : gE} {d : Nat} {c0 : gC} : Ret E yX7_init cX7_init 2 none (d + 2) 9 93 [.ref 1] [c0, .inr (7, [.null, .null, .null, .null, .int 0, .int 0])] (dt none [c0, .inr (7, [.ref 2, .ref 8, .ref 9, .ref 10, .int 0, .int 0]), .inr (1, [.int 0, .int 0, .ref 3, .ref 4, .ref 5, .ref 6, .ref 7]), .inl (0, 6, .inl zI), .inl (0, 6, .inl zI), .inl (0, 6, .inl zI), .inl (0, 6, .inl zI), .inl (0, 36, .inl zI), .inl (0, 10, .inl (wfR 9)), .inl (0, 8, .inl zI), .inl (2, 8, .inl zI)]) := by
  refine ret_of_go (L := [_, _]) (by decide) (Nat.le_of_ble_eq_true rfl) rfl ?_
  have key : ∀ (m k : Nat), k + m = 9 → Go E yX7_init cX7_init 2 none (d + 2) 9 93 9 93 41 [some (.ref 1), some (.int (nI (k + 1)))] [] [c0, .inr (7, [.ref 2, .ref 8, .ref 9, .ref 10, .int 0, .int 0]), .inr (1, [.int 0, .int 0, .ref 3, .ref 4, .ref 5, .ref 6, .ref 7]), .inl (0, 6, .inl zI), .inl (0, 6, .inl zI), .inl (0, 6, .inl zI), .inl (0, 6, .inl zI), .inl (0, 36, .inl zI), .inl (0, 10, .inl (wfR k)), .inl (0, 8, .inl zI), .inl (2, 8, .inl zI)] (dt none [c0, .inr (7, [.ref 2, .ref 8, .ref 9, .ref 10, .int 0, .int 0]), .inr (1, [.int 0, .int 0, .ref 3, .ref 4, .ref 5, .ref 6, .ref 7]), .inl (0, 6, .inl zI), .inl (0, 6, .inl zI), .inl (0, 6, .inl zI), .inl (0, 6, .inl zI), .inl (0, 36, .inl zI), .inl (0, 10, .inl (wfR 9)), .inl (0, 8, .inl zI), .inl (2, 8, .inl zI)]) := by
    intro m
    induction m with
    | zero =>
      intro k hk
      obtain rfl : k = 9 := by omega
      refine go_iload_n dX7_init_41 rfl ?_
      refine go_bipush (v := 9) dX7_init_42 (by decide) ?_
      refine go_icmp_gt (tgt := 60) dX7_init_44 (by decide) (fun q44 => ?_) (fun zq => absurd (nI_lt (a := 9) (b := 10) (by decide) (by decide)) zq)
      refine go_vret dX7_init_60 rfl rfl ?_
      exact ⟨rfl, rfl⟩
    | succ m ih =>
      intro k hk
      refine go_iload_n dX7_init_41 rfl ?_
      refine go_bipush (v := 9) dX7_init_42 (by decide) ?_
      refine go_icmp_gt (tgt := 60) dX7_init_44 (by decide) (fun zq => absurd zq (nI_nlt (a := 9) (b := k + 1) (by omega) (by decide))) (fun q44 => ?_)
      refine go_aload_n dX7_init_47 rfl ?_
      refine go_get dX7_init_48 fX7_18 rfl rfl ?_
      refine go_iload_n dX7_init_51 rfl ?_
      refine go_iconst (v := 1) dX7_init_52 (by decide) ?_
      refine go_iastN (k + 1) dX7_init_53 rfl (by omega) rfl ?_
      refine go_heap (h2 := [c0, .inr (7, [.ref 2, .ref 8, .ref 9, .ref 10, .int 0, .int 0]), .inr (1, [.int 0, .int 0, .ref 3, .ref 4, .ref 5, .ref 6, .ref 7]), .inl (0, 6, .inl zI), .inl (0, 6, .inl zI), .inl (0, 6, .inl zI), .inl (0, 6, .inl zI), .inl (0, 36, .inl zI), .inl (0, 10, .inl (wfR (k + 1))), .inl (0, 8, .inl zI), .inl (2, 8, .inl zI)]) rfl ?_
      refine go_iinc (v := nI (k + 1 + 1)) (L' := [_, _]) dX7_init_54 rfl (nI_1 (k + 1)) rfl rfl rfl ?_
      refine go_goto (tgt := 41) dX7_init_57 (by decide) ?_
      exact ih (k + 1) (by omega)
  refine go_aload_n dX7_init_0 rfl ?_
  refine go_objInit dX7_init_1 kX7_3 iobj cobj rfl ?_
  refine go_aload_n dX7_init_4 rfl ?_
  refine go_new (st' := []) (fs := [.int 0, .int 0, .null, .null, .null, .null, .null]) dX7_init_5 gclX1 wX7_9 aX1 zX1 dfX1 rfl rfl ?_
  refine go_dup dX7_init_8 rfl ?_
  refine go_callI (as := []) dX7_init_9 mX1_init kX7_11 iX1_init rfl rfl rfl (rX1_init_2) rfl rfl rfl ?_
  intro r g q
  obtain ⟨rfl, rfl⟩ := q
  refine go_putF dX7_init_12 fX7_12 rfl ⟨_, _, rfl⟩ (fun _ => rfl) (fun _ => rfl) rfl rfl ?_
  refine go_aload_n dX7_init_15 rfl ?_
  refine go_bipush (v := 10) dX7_init_16 (by decide) ?_
  refine go_newi (n := 10) (N := 10) dX7_init_18 (by decide) rfl rfl ac_int rfl rfl ?_
  refine go_putF dX7_init_20 fX7_18 rfl ⟨_, _, rfl⟩ (fun _ => rfl) (fun _ => rfl) rfl rfl ?_
  refine go_aload_n dX7_init_23 rfl ?_
  refine go_bipush (v := 8) dX7_init_24 (by decide) ?_
  refine go_newi (n := 8) (N := 8) dX7_init_26 (by decide) rfl rfl ac_int rfl rfl ?_
  refine go_putF dX7_init_28 fX7_22 rfl ⟨_, _, rfl⟩ (fun _ => rfl) (fun _ => rfl) rfl rfl ?_
  refine go_aload_n dX7_init_31 rfl ?_
  refine go_bipush (v := 8) dX7_init_32 (by decide) ?_
  refine go_newz (n := 8) (N := 8) dX7_init_34 (by decide) rfl rfl ac_boolean rfl rfl ?_
  refine go_putF dX7_init_36 fX7_25 rfl ⟨_, _, rfl⟩ (fun _ => rfl) (fun _ => rfl) rfl rfl ?_
  refine go_heap (h2 := [c0, .inr (7, [.ref 2, .ref 8, .ref 9, .ref 10, .int 0, .int 0]), .inr (1, [.int 0, .int 0, .ref 3, .ref 4, .ref 5, .ref 6, .ref 7]), .inl (0, 6, .inl zI), .inl (0, 6, .inl zI), .inl (0, 6, .inl zI), .inl (0, 6, .inl zI), .inl (0, 36, .inl zI), .inl (0, 10, .inl (wfR 0)), .inl (0, 8, .inl zI), .inl (2, 8, .inl zI)]) rfl ?_
  refine go_iconst (v := 1) dX7_init_39 (by decide) ?_
  refine go_istore_n (L' := [_, _]) dX7_init_40 rfl rfl rfl ?_
  exact key 9 0 rfl
set_option maxRecDepth 100000 in
set_option maxHeartbeats 4000000 in
theorem rX7_init_12 {E : gE} {d : Nat} {c0 c1 c2 c3 c4 c5 c6 c7 c8 c9 c10 c11 : gC} : Ret E yX7_init cX7_init 2 none (d + 2) 9 93 [.ref 12] [c0, c1, c2, c3, c4, c5, c6, c7, c8, c9, c10, c11, .inr (7, [.null, .null, .null, .null, .int 0, .int 0])] (dt none [c0, c1, c2, c3, c4, c5, c6, c7, c8, c9, c10, c11, .inr (7, [.ref 13, .ref 19, .ref 20, .ref 21, .int 0, .int 0]), .inr (1, [.int 0, .int 0, .ref 14, .ref 15, .ref 16, .ref 17, .ref 18]), .inl (0, 6, .inl zI), .inl (0, 6, .inl zI), .inl (0, 6, .inl zI), .inl (0, 6, .inl zI), .inl (0, 36, .inl zI), .inl (0, 10, .inl (wfR 9)), .inl (0, 8, .inl zI), .inl (2, 8, .inl zI)]) := by
  refine ret_of_go (L := [_, _]) (by decide) (Nat.le_of_ble_eq_true rfl) rfl ?_
  have key : ∀ (m k : Nat), k + m = 9 → Go E yX7_init cX7_init 2 none (d + 2) 9 93 9 93 41 [some (.ref 12), some (.int (nI (k + 1)))] [] [c0, c1, c2, c3, c4, c5, c6, c7, c8, c9, c10, c11, .inr (7, [.ref 13, .ref 19, .ref 20, .ref 21, .int 0, .int 0]), .inr (1, [.int 0, .int 0, .ref 14, .ref 15, .ref 16, .ref 17, .ref 18]), .inl (0, 6, .inl zI), .inl (0, 6, .inl zI), .inl (0, 6, .inl zI), .inl (0, 6, .inl zI), .inl (0, 36, .inl zI), .inl (0, 10, .inl (wfR k)), .inl (0, 8, .inl zI), .inl (2, 8, .inl zI)] (dt none [c0, c1, c2, c3, c4, c5, c6, c7, c8, c9, c10, c11, .inr (7, [.ref 13, .ref 19, .ref 20, .ref 21, .int 0, .int 0]), .inr (1, [.int 0, .int 0, .ref 14, .ref 15, .ref 16, .ref 17, .ref 18]), .inl (0, 6, .inl zI), .inl (0, 6, .inl zI), .inl (0, 6, .inl zI), .inl (0, 6, .inl zI), .inl (0, 36, .inl zI), .inl (0, 10, .inl (wfR 9)), .inl (0, 8, .inl zI), .inl (2, 8, .inl zI)]) := by
    intro m
    induction m with
    | zero =>
      intro k hk
      obtain rfl : k = 9 := by omega
      refine go_iload_n dX7_init_41 rfl ?_
      refine go_bipush (v := 9) dX7_init_42 (by decide) ?_
      refine go_icmp_gt (tgt := 60) dX7_init_44 (by decide) (fun q44 => ?_) (fun zq => absurd (nI_lt (a := 9) (b := 10) (by decide) (by decide)) zq)
      refine go_vret dX7_init_60 rfl rfl ?_
      exact ⟨rfl, rfl⟩
    | succ m ih =>
      intro k hk
      refine go_iload_n dX7_init_41 rfl ?_
      refine go_bipush (v := 9) dX7_init_42 (by decide) ?_
      refine go_icmp_gt (tgt := 60) dX7_init_44 (by decide) (fun zq => absurd zq (nI_nlt (a := 9) (b := k + 1) (by omega) (by decide))) (fun q44 => ?_)
      refine go_aload_n dX7_init_47 rfl ?_
      refine go_get dX7_init_48 fX7_18 rfl rfl ?_
      refine go_iload_n dX7_init_51 rfl ?_
      refine go_iconst (v := 1) dX7_init_52 (by decide) ?_
      refine go_iastN (k + 1) dX7_init_53 rfl (by omega) rfl ?_
      refine go_heap (h2 := [c0, c1, c2, c3, c4, c5, c6, c7, c8, c9, c10, c11, .inr (7, [.ref 13, .ref 19, .ref 20, .ref 21, .int 0, .int 0]), .inr (1, [.int 0, .int 0, .ref 14, .ref 15, .ref 16, .ref 17, .ref 18]), .inl (0, 6, .inl zI), .inl (0, 6, .inl zI), .inl (0, 6, .inl zI), .inl (0, 6, .inl zI), .inl (0, 36, .inl zI), .inl (0, 10, .inl (wfR (k + 1))), .inl (0, 8, .inl zI), .inl (2, 8, .inl zI)]) rfl ?_
      refine go_iinc (v := nI (k + 1 + 1)) (L' := [_, _]) dX7_init_54 rfl (nI_1 (k + 1)) rfl rfl rfl ?_
      refine go_goto (tgt := 41) dX7_init_57 (by decide) ?_
      exact ih (k + 1) (by omega)
  refine go_aload_n dX7_init_0 rfl ?_
  refine go_objInit dX7_init_1 kX7_3 iobj cobj rfl ?_
  refine go_aload_n dX7_init_4 rfl ?_
  refine go_new (st' := []) (fs := [.int 0, .int 0, .null, .null, .null, .null, .null]) dX7_init_5 gclX1 wX7_9 aX1 zX1 dfX1 rfl rfl ?_
  refine go_dup dX7_init_8 rfl ?_
  refine go_callI (as := []) dX7_init_9 mX1_init kX7_11 iX1_init rfl rfl rfl (rX1_init_13) rfl rfl rfl ?_
  intro r g q
  obtain ⟨rfl, rfl⟩ := q
  refine go_putF dX7_init_12 fX7_12 rfl ⟨_, _, rfl⟩ (fun _ => rfl) (fun _ => rfl) rfl rfl ?_
  refine go_aload_n dX7_init_15 rfl ?_
  refine go_bipush (v := 10) dX7_init_16 (by decide) ?_
  refine go_newi (n := 10) (N := 10) dX7_init_18 (by decide) rfl rfl ac_int rfl rfl ?_
  refine go_putF dX7_init_20 fX7_18 rfl ⟨_, _, rfl⟩ (fun _ => rfl) (fun _ => rfl) rfl rfl ?_
  refine go_aload_n dX7_init_23 rfl ?_
  refine go_bipush (v := 8) dX7_init_24 (by decide) ?_
  refine go_newi (n := 8) (N := 8) dX7_init_26 (by decide) rfl rfl ac_int rfl rfl ?_
  refine go_putF dX7_init_28 fX7_22 rfl ⟨_, _, rfl⟩ (fun _ => rfl) (fun _ => rfl) rfl rfl ?_
  refine go_aload_n dX7_init_31 rfl ?_
  refine go_bipush (v := 8) dX7_init_32 (by decide) ?_
  refine go_newz (n := 8) (N := 8) dX7_init_34 (by decide) rfl rfl ac_boolean rfl rfl ?_
  refine go_putF dX7_init_36 fX7_25 rfl ⟨_, _, rfl⟩ (fun _ => rfl) (fun _ => rfl) rfl rfl ?_
  refine go_heap (h2 := [c0, c1, c2, c3, c4, c5, c6, c7, c8, c9, c10, c11, .inr (7, [.ref 13, .ref 19, .ref 20, .ref 21, .int 0, .int 0]), .inr (1, [.int 0, .int 0, .ref 14, .ref 15, .ref 16, .ref 17, .ref 18]), .inl (0, 6, .inl zI), .inl (0, 6, .inl zI), .inl (0, 6, .inl zI), .inl (0, 6, .inl zI), .inl (0, 36, .inl zI), .inl (0, 10, .inl (wfR 0)), .inl (0, 8, .inl zI), .inl (2, 8, .inl zI)]) rfl ?_
  refine go_iconst (v := 1) dX7_init_39 (by decide) ?_
  refine go_istore_n (L' := [_, _]) dX7_init_40 rfl rfl rfl ?_
  exact key 9 0 rfl
set_option maxRecDepth 100000 in
set_option maxHeartbeats 4000000 in
theorem rX7_init_22 {E : gE} {d : Nat} {c0 c1 c2 c3 c4 c5 c6 c7 c8 c9 c10 c11 c12 c13 c14 c15 c16 c17 c18 c19 c20 c21 : gC} : Ret E yX7_init cX7_init 2 none (d + 2) 9 93 [.ref 22] [c0, c1, c2, c3, c4, c5, c6, c7, c8, c9, c10, c11, c12, c13, c14, c15, c16, c17, c18, c19, c20, c21, .inr (7, [.null, .null, .null, .null, .int 0, .int 0])] (dt none [c0, c1, c2, c3, c4, c5, c6, c7, c8, c9, c10, c11, c12, c13, c14, c15, c16, c17, c18, c19, c20, c21, .inr (7, [.ref 23, .ref 29, .ref 30, .ref 31, .int 0, .int 0]), .inr (1, [.int 0, .int 0, .ref 24, .ref 25, .ref 26, .ref 27, .ref 28]), .inl (0, 6, .inl zI), .inl (0, 6, .inl zI), .inl (0, 6, .inl zI), .inl (0, 6, .inl zI), .inl (0, 36, .inl zI), .inl (0, 10, .inl (wfR 9)), .inl (0, 8, .inl zI), .inl (2, 8, .inl zI)]) := by
  refine ret_of_go (L := [_, _]) (by decide) (Nat.le_of_ble_eq_true rfl) rfl ?_
  have key : ∀ (m k : Nat), k + m = 9 → Go E yX7_init cX7_init 2 none (d + 2) 9 93 9 93 41 [some (.ref 22), some (.int (nI (k + 1)))] [] [c0, c1, c2, c3, c4, c5, c6, c7, c8, c9, c10, c11, c12, c13, c14, c15, c16, c17, c18, c19, c20, c21, .inr (7, [.ref 23, .ref 29, .ref 30, .ref 31, .int 0, .int 0]), .inr (1, [.int 0, .int 0, .ref 24, .ref 25, .ref 26, .ref 27, .ref 28]), .inl (0, 6, .inl zI), .inl (0, 6, .inl zI), .inl (0, 6, .inl zI), .inl (0, 6, .inl zI), .inl (0, 36, .inl zI), .inl (0, 10, .inl (wfR k)), .inl (0, 8, .inl zI), .inl (2, 8, .inl zI)] (dt none [c0, c1, c2, c3, c4, c5, c6, c7, c8, c9, c10, c11, c12, c13, c14, c15, c16, c17, c18, c19, c20, c21, .inr (7, [.ref 23, .ref 29, .ref 30, .ref 31, .int 0, .int 0]), .inr (1, [.int 0, .int 0, .ref 24, .ref 25, .ref 26, .ref 27, .ref 28]), .inl (0, 6, .inl zI), .inl (0, 6, .inl zI), .inl (0, 6, .inl zI), .inl (0, 6, .inl zI), .inl (0, 36, .inl zI), .inl (0, 10, .inl (wfR 9)), .inl (0, 8, .inl zI), .inl (2, 8, .inl zI)]) := by
    intro m
    induction m with
    | zero =>
      intro k hk
      obtain rfl : k = 9 := by omega
      refine go_iload_n dX7_init_41 rfl ?_
      refine go_bipush (v := 9) dX7_init_42 (by decide) ?_
      refine go_icmp_gt (tgt := 60) dX7_init_44 (by decide) (fun q44 => ?_) (fun zq => absurd (nI_lt (a := 9) (b := 10) (by decide) (by decide)) zq)
      refine go_vret dX7_init_60 rfl rfl ?_
      exact ⟨rfl, rfl⟩
    | succ m ih =>
      intro k hk
      refine go_iload_n dX7_init_41 rfl ?_
      refine go_bipush (v := 9) dX7_init_42 (by decide) ?_
      refine go_icmp_gt (tgt := 60) dX7_init_44 (by decide) (fun zq => absurd zq (nI_nlt (a := 9) (b := k + 1) (by omega) (by decide))) (fun q44 => ?_)
      refine go_aload_n dX7_init_47 rfl ?_
      refine go_get dX7_init_48 fX7_18 rfl rfl ?_
      refine go_iload_n dX7_init_51 rfl ?_
      refine go_iconst (v := 1) dX7_init_52 (by decide) ?_
      refine go_iastN (k + 1) dX7_init_53 rfl (by omega) rfl ?_
      refine go_heap (h2 := [c0, c1, c2, c3, c4, c5, c6, c7, c8, c9, c10, c11, c12, c13, c14, c15, c16, c17, c18, c19, c20, c21, .inr (7, [.ref 23, .ref 29, .ref 30, .ref 31, .int 0, .int 0]), .inr (1, [.int 0, .int 0, .ref 24, .ref 25, .ref 26, .ref 27, .ref 28]), .inl (0, 6, .inl zI), .inl (0, 6, .inl zI), .inl (0, 6, .inl zI), .inl (0, 6, .inl zI), .inl (0, 36, .inl zI), .inl (0, 10, .inl (wfR (k + 1))), .inl (0, 8, .inl zI), .inl (2, 8, .inl zI)]) rfl ?_
      refine go_iinc (v := nI (k + 1 + 1)) (L' := [_, _]) dX7_init_54 rfl (nI_1 (k + 1)) rfl rfl rfl ?_
      refine go_goto (tgt := 41) dX7_init_57 (by decide) ?_
      exact ih (k + 1) (by omega)
  refine go_aload_n dX7_init_0 rfl ?_
  refine go_objInit dX7_init_1 kX7_3 iobj cobj rfl ?_
  refine go_aload_n dX7_init_4 rfl ?_
  refine go_new (st' := []) (fs := [.int 0, .int 0, .null, .null, .null, .null, .null]) dX7_init_5 gclX1 wX7_9 aX1 zX1 dfX1 rfl rfl ?_
  refine go_dup dX7_init_8 rfl ?_
  refine go_callI (as := []) dX7_init_9 mX1_init kX7_11 iX1_init rfl rfl rfl (rX1_init_23) rfl rfl rfl ?_
  intro r g q
  obtain ⟨rfl, rfl⟩ := q
  refine go_putF dX7_init_12 fX7_12 rfl ⟨_, _, rfl⟩ (fun _ => rfl) (fun _ => rfl) rfl rfl ?_
  refine go_aload_n dX7_init_15 rfl ?_
  refine go_bipush (v := 10) dX7_init_16 (by decide) ?_
  refine go_newi (n := 10) (N := 10) dX7_init_18 (by decide) rfl rfl ac_int rfl rfl ?_
  refine go_putF dX7_init_20 fX7_18 rfl ⟨_, _, rfl⟩ (fun _ => rfl) (fun _ => rfl) rfl rfl ?_
  refine go_aload_n dX7_init_23 rfl ?_
  refine go_bipush (v := 8) dX7_init_24 (by decide) ?_
  refine go_newi (n := 8) (N := 8) dX7_init_26 (by decide) rfl rfl ac_int rfl rfl ?_
  refine go_putF dX7_init_28 fX7_22 rfl ⟨_, _, rfl⟩ (fun _ => rfl) (fun _ => rfl) rfl rfl ?_
  refine go_aload_n dX7_init_31 rfl ?_
  refine go_bipush (v := 8) dX7_init_32 (by decide) ?_
  refine go_newz (n := 8) (N := 8) dX7_init_34 (by decide) rfl rfl ac_boolean rfl rfl ?_
  refine go_putF dX7_init_36 fX7_25 rfl ⟨_, _, rfl⟩ (fun _ => rfl) (fun _ => rfl) rfl rfl ?_
  refine go_heap (h2 := [c0, c1, c2, c3, c4, c5, c6, c7, c8, c9, c10, c11, c12, c13, c14, c15, c16, c17, c18, c19, c20, c21, .inr (7, [.ref 23, .ref 29, .ref 30, .ref 31, .int 0, .int 0]), .inr (1, [.int 0, .int 0, .ref 24, .ref 25, .ref 26, .ref 27, .ref 28]), .inl (0, 6, .inl zI), .inl (0, 6, .inl zI), .inl (0, 6, .inl zI), .inl (0, 6, .inl zI), .inl (0, 36, .inl zI), .inl (0, 10, .inl (wfR 0)), .inl (0, 8, .inl zI), .inl (2, 8, .inl zI)]) rfl ?_
  refine go_iconst (v := 1) dX7_init_39 (by decide) ?_
  refine go_istore_n (L' := [_, _]) dX7_init_40 rfl rfl rfl ?_
  exact key 9 0 rfl
set_option maxRecDepth 100000 in
set_option maxHeartbeats 4000000 in
theorem rX5_init {E : gE} {d : Nat} {c0 c1 c2 c3 c4 c5 c6 c7 c8 c9 c10 c11 c12 c13 c14 c15 c16 c17 c18 c19 c20 c21 c22 c23 c24 c25 c26 c27 c28 c29 c30 c31 : gC} : Ret E yX5_init cX5_init 1 none (d + 1) 1 60 [.ref 32] [c0, c1, c2, c3, c4, c5, c6, c7, c8, c9, c10, c11, c12, c13, c14, c15, c16, c17, c18, c19, c20, c21, c22, c23, c24, c25, c26, c27, c28, c29, c30, c31, .inr (5, [.null, .int 0])] (dt none [c0, c1, c2, c3, c4, c5, c6, c7, c8, c9, c10, c11, c12, c13, c14, c15, c16, c17, c18, c19, c20, c21, c22, c23, c24, c25, c26, c27, c28, c29, c30, c31, .inr (5, [.ref 33, .int 0]), .inl (0, 60, .inl zI)]) := by
  refine ret_of_go (L := [_]) (by decide) (Nat.le_of_ble_eq_true rfl) rfl ?_
  refine go_aload_n dX5_init_0 rfl ?_
  refine go_objInit dX5_init_1 kX5_3 iobj cobj rfl ?_
  refine go_aload_n dX5_init_4 rfl ?_
  refine go_bipush (v := 60) dX5_init_5 (by decide) ?_
  refine go_newi (n := 60) (N := 60) dX5_init_7 (by decide) rfl rfl ac_int rfl rfl ?_
  refine go_putF dX5_init_9 fX5_9 rfl ⟨_, _, rfl⟩ (fun _ => rfl) (fun _ => rfl) rfl rfl ?_
  refine go_vret dX5_init_12 rfl rfl ?_
  exact ⟨rfl, rfl⟩
set_option maxRecDepth 100000 in
set_option maxHeartbeats 4000000 in
theorem rX0_init {E : gE} {d : Nat} {c0 c1 c2 c3 c4 c5 c6 c7 c8 c9 c10 c11 c12 c13 c14 c15 c16 c17 c18 c19 c20 c21 c22 c23 c24 c25 c26 c27 c28 c29 c30 c31 c32 c33 c34 c35 c36 c37 c38 c39 c40 : gC} : Ret E yX0_init cX0_init 1 none (d + 1) 0 0 [.ref 41] [c0, c1, c2, c3, c4, c5, c6, c7, c8, c9, c10, c11, c12, c13, c14, c15, c16, c17, c18, c19, c20, c21, c22, c23, c24, c25, c26, c27, c28, c29, c30, c31, c32, c33, c34, c35, c36, c37, c38, c39, c40, .inr (0, [.int 0, .int 0, .int 0, .int 0, .int 0])] (dt none [c0, c1, c2, c3, c4, c5, c6, c7, c8, c9, c10, c11, c12, c13, c14, c15, c16, c17, c18, c19, c20, c21, c22, c23, c24, c25, c26, c27, c28, c29, c30, c31, c32, c33, c34, c35, c36, c37, c38, c39, c40, .inr (0, [.int 0, .int 0, .int 0, .int 0, .int 0])]) := by
  refine ret_of_go (L := [_]) (by decide) (Nat.le_of_ble_eq_true rfl) rfl ?_
  refine go_aload_n dX0_init_0 rfl ?_
  refine go_objInit dX0_init_1 kX0_3 iobj cobj rfl ?_
  refine go_vret dX0_init_4 rfl rfl ?_
  exact ⟨rfl, rfl⟩
set_option maxRecDepth 100000 in
set_option maxHeartbeats 4000000 in
theorem rX2_init {E : gE} {d : Nat} {c0 c1 c2 c3 c4 c5 c6 c7 c8 c9 c10 c11 c12 c13 c14 c15 c16 c17 c18 c19 c20 c21 c22 c23 c24 c25 c26 c27 c28 c29 c30 c31 c32 c33 : gC} : Ret E yX2_init cX2_init 1 none (d + 2) 7 72 [.ref 34] [c0, c1, c2, c3, c4, c5, c6, c7, c8, c9, c10, c11, c12, c13, c14, c15, c16, c17, c18, c19, c20, c21, c22, c23, c24, c25, c26, c27, c28, c29, c30, c31, c32, c33, .inr (2, [.null, .null, .int 0, .int 0, .int 0, .int 0, .int 0])] (dt none [c0, c1, c2, c3, c4, c5, c6, c7, c8, c9, c10, c11, c12, c13, c14, c15, c16, c17, c18, c19, c20, c21, c22, c23, c24, c25, c26, c27, c28, c29, c30, c31, c32, c33, .inr (2, [.ref 35, .ref 41, .int 0, .int 0, .int 0, .int 0, .int 0]), .inr (1, [.int 0, .int 0, .ref 36, .ref 37, .ref 38, .ref 39, .ref 40]), .inl (0, 6, .inl zI), .inl (0, 6, .inl zI), .inl (0, 6, .inl zI), .inl (0, 6, .inl zI), .inl (0, 36, .inl zI), .inr (0, [.int 0, .int 0, .int 0, .int 0, .int 0])]) := by
  refine ret_of_go (L := [_]) (by decide) (Nat.le_of_ble_eq_true rfl) rfl ?_
  refine go_aload_n dX2_init_0 rfl ?_
  refine go_objInit dX2_init_1 kX2_3 iobj cobj rfl ?_
  refine go_aload_n dX2_init_4 rfl ?_
  refine go_new (st' := []) (fs := [.int 0, .int 0, .null, .null, .null, .null, .null]) dX2_init_5 gclX1 wX2_9 aX1 zX1 dfX1 rfl rfl ?_
  refine go_dup dX2_init_8 rfl ?_
  refine go_callI (as := []) dX2_init_9 mX1_init kX2_11 iX1_init rfl rfl rfl (rX1_init_35) rfl rfl rfl ?_
  intro r g q
  obtain ⟨rfl, rfl⟩ := q
  refine go_putF dX2_init_12 fX2_12 rfl ⟨_, _, rfl⟩ (fun _ => rfl) (fun _ => rfl) rfl rfl ?_
  refine go_aload_n dX2_init_15 rfl ?_
  refine go_new (st' := []) (fs := [.int 0, .int 0, .int 0, .int 0, .int 0]) dX2_init_16 gclX0 wX2_18 aX0 zX0 dfX0 rfl rfl ?_
  refine go_dup dX2_init_19 rfl ?_
  refine go_callI (as := []) dX2_init_20 mX0_init kX2_20 iX0_init rfl rfl rfl (rX0_init) rfl rfl rfl ?_
  intro r g q
  obtain ⟨rfl, rfl⟩ := q
  refine go_putF dX2_init_23 fX2_21 rfl ⟨_, _, rfl⟩ (fun _ => rfl) (fun _ => rfl) rfl rfl ?_
  refine go_vret dX2_init_26 rfl rfl ?_
  exact ⟨rfl, rfl⟩
set_option maxRecDepth 100000 in
set_option maxHeartbeats 4000000 in
theorem rX6_init {E : gE} {d : Nat} {c0 c1 c2 c3 c4 c5 c6 c7 c8 c9 c10 c11 c12 c13 c14 c15 c16 c17 c18 c19 c20 c21 c22 c23 c24 c25 c26 c27 c28 c29 c30 c31 c32 c33 c34 c35 c36 c37 c38 c39 c40 c41 : gC} : Ret E yX6_init cX6_init 1 none (d + 1) 2 99 [.ref 42] [c0, c1, c2, c3, c4, c5, c6, c7, c8, c9, c10, c11, c12, c13, c14, c15, c16, c17, c18, c19, c20, c21, c22, c23, c24, c25, c26, c27, c28, c29, c30, c31, c32, c33, c34, c35, c36, c37, c38, c39, c40, c41, .inr (6, [.null, .null, .int 0])] (dt none [c0, c1, c2, c3, c4, c5, c6, c7, c8, c9, c10, c11, c12, c13, c14, c15, c16, c17, c18, c19, c20, c21, c22, c23, c24, c25, c26, c27, c28, c29, c30, c31, c32, c33, c34, c35, c36, c37, c38, c39, c40, c41, .inr (6, [.ref 43, .ref 44, .int 0]), .inl (1, 90, .inr (.inl zL)), .inl (1, 9, .inr (.inl zL))]) := by
  refine ret_of_go (L := [_]) (by decide) (Nat.le_of_ble_eq_true rfl) rfl ?_
  refine go_aload_n dX6_init_0 rfl ?_
  refine go_objInit dX6_init_1 kX6_3 iobj cobj rfl ?_
  refine go_aload_n dX6_init_4 rfl ?_
  refine go_bipush (v := 90) dX6_init_5 (by decide) ?_
  refine go_newl (n := 90) (N := 90) dX6_init_7 (by decide) rfl rfl ac_long rfl rfl ?_
  refine go_putF dX6_init_9 fX6_11 rfl ⟨_, _, rfl⟩ (fun _ => rfl) (fun _ => rfl) rfl rfl ?_
  refine go_aload_n dX6_init_12 rfl ?_
  refine go_bipush (v := 9) dX6_init_13 (by decide) ?_
  refine go_newl (n := 9) (N := 9) dX6_init_15 (by decide) rfl rfl ac_long rfl rfl ?_
  refine go_putF dX6_init_17 fX6_15 rfl ⟨_, _, rfl⟩ (fun _ => rfl) (fun _ => rfl) rfl rfl ?_
  refine go_vret dX6_init_20 rfl rfl ?_
  exact ⟨rfl, rfl⟩
set_option maxRecDepth 100000 in
set_option maxHeartbeats 4000000 in
theorem rX3_init {E : gE} {d : Nat} {c0 c1 c2 c3 c4 c5 c6 c7 c8 c9 c10 c11 c12 c13 c14 c15 c16 c17 c18 c19 c20 c21 c22 c23 c24 c25 c26 c27 c28 c29 c30 c31 c32 c33 c34 c35 c36 c37 c38 c39 c40 c41 c42 c43 c44 : gC} : Ret E yX3_init cX3_init 1 none (d + 1) 3 134 [.ref 45] [c0, c1, c2, c3, c4, c5, c6, c7, c8, c9, c10, c11, c12, c13, c14, c15, c16, c17, c18, c19, c20, c21, c22, c23, c24, c25, c26, c27, c28, c29, c30, c31, c32, c33, c34, c35, c36, c37, c38, c39, c40, c41, c42, c43, c44, .inr (3, [.null, .null, .null])] (dt none [c0, c1, c2, c3, c4, c5, c6, c7, c8, c9, c10, c11, c12, c13, c14, c15, c16, c17, c18, c19, c20, c21, c22, c23, c24, c25, c26, c27, c28, c29, c30, c31, c32, c33, c34, c35, c36, c37, c38, c39, c40, c41, c42, c43, c44, .inr (3, [.ref 46, .ref 47, .ref 48]), .inl (0, 64, .inl zI), .inl (0, 64, .inl zI), .inl (0, 6, .inl zI)]) := by
  refine ret_of_go (L := [_]) (by decide) (Nat.le_of_ble_eq_true rfl) rfl ?_
  refine go_aload_n dX3_init_0 rfl ?_
  refine go_objInit dX3_init_1 kX3_3 iobj cobj rfl ?_
  refine go_aload_n dX3_init_4 rfl ?_
  refine go_bipush (v := 64) dX3_init_5 (by decide) ?_
  refine go_newi (n := 64) (N := 64) dX3_init_7 (by decide) rfl rfl ac_int rfl rfl ?_
  refine go_putF dX3_init_9 fX3_9 rfl ⟨_, _, rfl⟩ (fun _ => rfl) (fun _ => rfl) rfl rfl ?_
  refine go_aload_n dX3_init_12 rfl ?_
  refine go_bipush (v := 64) dX3_init_13 (by decide) ?_
  refine go_newi (n := 64) (N := 64) dX3_init_15 (by decide) rfl rfl ac_int rfl rfl ?_
  refine go_putF dX3_init_17 fX3_15 rfl ⟨_, _, rfl⟩ (fun _ => rfl) (fun _ => rfl) rfl rfl ?_
  refine go_aload_n dX3_init_20 rfl ?_
  refine go_bipush (v := 6) dX3_init_21 (by decide) ?_
  refine go_newi (n := 6) (N := 6) dX3_init_23 (by decide) rfl rfl ac_int rfl rfl ?_
  refine go_putF dX3_init_25 fX3_18 rfl ⟨_, _, rfl⟩ (fun _ => rfl) (fun _ => rfl) rfl rfl ?_
  refine go_vret dX3_init_28 rfl rfl ?_
  exact ⟨rfl, rfl⟩
set_option maxRecDepth 100000 in
set_option maxHeartbeats 4000000 in
theorem rX4_init {E : gE} {d : Nat} {c0 c1 c2 c3 c4 c5 c6 c7 c8 c9 c10 c11 c12 c13 c14 c15 c16 c17 c18 c19 c20 c21 c22 c23 c24 c25 c26 c27 c28 c29 c30 c31 c32 c33 c34 c35 c36 c37 c38 c39 c40 c41 c42 c43 c44 c45 c46 c47 c48 : gC} : Ret E yX4_init cX4_init 1 none (d + 1) 2 128 [.ref 49] [c0, c1, c2, c3, c4, c5, c6, c7, c8, c9, c10, c11, c12, c13, c14, c15, c16, c17, c18, c19, c20, c21, c22, c23, c24, c25, c26, c27, c28, c29, c30, c31, c32, c33, c34, c35, c36, c37, c38, c39, c40, c41, c42, c43, c44, c45, c46, c47, c48, .inr (4, [.null, .null])] (dt none [c0, c1, c2, c3, c4, c5, c6, c7, c8, c9, c10, c11, c12, c13, c14, c15, c16, c17, c18, c19, c20, c21, c22, c23, c24, c25, c26, c27, c28, c29, c30, c31, c32, c33, c34, c35, c36, c37, c38, c39, c40, c41, c42, c43, c44, c45, c46, c47, c48, .inr (4, [.ref 50, .ref 51]), .inl (0, 64, .inl zI), .inl (0, 64, .inl zI)]) := by
  refine ret_of_go (L := [_]) (by decide) (Nat.le_of_ble_eq_true rfl) rfl ?_
  refine go_aload_n dX4_init_0 rfl ?_
  refine go_objInit dX4_init_1 kX4_3 iobj cobj rfl ?_
  refine go_aload_n dX4_init_4 rfl ?_
  refine go_bipush (v := 64) dX4_init_5 (by decide) ?_
  refine go_newi (n := 64) (N := 64) dX4_init_7 (by decide) rfl rfl ac_int rfl rfl ?_
  refine go_putF dX4_init_9 fX4_9 rfl ⟨_, _, rfl⟩ (fun _ => rfl) (fun _ => rfl) rfl rfl ?_
  refine go_aload_n dX4_init_12 rfl ?_
  refine go_bipush (v := 64) dX4_init_13 (by decide) ?_
  refine go_newi (n := 64) (N := 64) dX4_init_15 (by decide) rfl rfl ac_int rfl rfl ?_
  refine go_putF dX4_init_17 fX4_15 rfl ⟨_, _, rfl⟩ (fun _ => rfl) (fun _ => rfl) rfl rfl ?_
  refine go_vret dX4_init_20 rfl rfl ?_
  exact ⟨rfl, rfl⟩
