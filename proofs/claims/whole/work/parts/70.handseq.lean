theorem ev_eq {bk : Nat → Int32} {o s : Nat} {Ev : Nat → Int32} (h : s &&& (63 ^^^ o) = 0) : evV bk o Ev s = if ssM bk s 6 = 0 then mtM Ev s 6 + 1 else mtM Ev s 6 := by rw [evV, if_pos h]
section Hd
variable {bk : Nat → Int32} {o : Nat} {C Ev : Nat → Int32}
/-- circles of a set: its evens, and one for each who is quit -/
theorem hands_set (ho : o < 64) (hN : ∀ p, p < 6 → tb o p = false → netM bk p = 0) (hC0 : C 0 = 0) (hC : ∀ s, 0 < s → s < 64 → C s = mcF C s 6 + (if ssG (netM bk) s 6 = 0 then 1 else 0)) (hE0 : Ev 0 = 0) (hE : ∀ s, 0 < s → s < 64 → Ev s = evV bk o Ev s) :
    ∀ n s : Nat, s < n → s < 64 → ∃ a, a ≤ pcN (s &&& o) ∧ Ev (s &&& o) = nI a ∧ C s = nI (a + pcN (s &&& (63 ^^^ o)))
  | 0, s, h, _ => by omega
  | n + 1, s, h, hs => by
    have ih := hands_set ho hN hC0 hC hE0 hE n
    by_cases h0 : s = 0
    · subst h0
      refine ⟨0, Nat.zero_le _, ?_, ?_⟩
      · rw [Nat.zero_and, hE0]; rfl
      · rw [hC0, Nat.zero_and]; rfl
    have s7 := st_7 s hs o ho
    have hu : s &&& o < 64 := by omega
    have husum : ssG (netM bk) s 6 = ssG (netM bk) (s &&& o) 6 := ss_and (fun p hp6 => st_4 s hs o ho p hp6) hN 6 (Nat.le_refl _)
    -- the numbers of the sets with one less
    have sub : ∀ t, t < s → ∃ a, a ≤ pcN (t &&& o) ∧ Ev (t &&& o) = nI a ∧ C t = nI (a + pcN (t &&& (63 ^^^ o))) := fun t ht => ih t (by omega) (by omega)
    have hval : ∀ t, t < 64 → (∃ a, a ≤ pcN (t &&& o) ∧ Ev (t &&& o) = nI a ∧ C t = nI (a + pcN (t &&& (63 ^^^ o)))) → (Ev (t &&& o) = nI (Ev (t &&& o)).toInt.toNat ∧ (Ev (t &&& o)).toInt.toNat ≤ pcN (t &&& o) ∧ C t = nI ((Ev (t &&& o)).toInt.toNat + pcN (t &&& (63 ^^^ o)))) := by
      intro t ht ⟨a, h1, h2, h3⟩
      have p6 := st_7 t ht o ho
      have e : (Ev (t &&& o)).toInt.toNat = a := by rw [h2, nI_toInt (by omega), Int.toNat_natCast]
      rw [e]
      exact ⟨h2, h1, h3⟩
    by_cases hv : pcN (s &&& (63 ^^^ o)) = 0
    · -- all are open
      obtain ⟨hso, hs0⟩ := st_6 s hs o ho hv
      have hx : ∀ p, p < 6 → tb s p = true → Ev (s ^^^ 2 ^ p) = nI (Ev (s ^^^ 2 ^ p)).toInt.toNat ∧ (Ev (s ^^^ 2 ^ p)).toInt.toNat + 1 ≤ pcN s ∧ C (s ^^^ 2 ^ p) = nI (Ev (s ^^^ 2 ^ p)).toInt.toNat := by
        intro p hp6 hp1
        have hlt := xor_lt s hs p hp6 hp1
        have hto : tb o p = true := by
          have := st_4 s hs o ho p hp6
          rw [hso, hp1, Bool.true_and] at this
          exact this.symm
        obtain ⟨q1, q2⟩ := st_2 s hs o ho p hp6 hp1 hto
        have g := hval (s ^^^ 2 ^ p) (by omega) (sub _ hlt)
        rw [q1, hso, q2, hv, Nat.add_zero] at g
        have p8 := st_8 s hs p hp6 hp1
        exact ⟨g.1, by omega, g.2.2⟩
      have p6 : pcN s ≤ 6 := by have := s7.2.2.2.1; rw [hso] at this; exact this
      have m1 := mc_mxN (C := C) (s := s) (x := fun p => (Ev (s ^^^ 2 ^ p)).toInt.toNat) (fun p hp6 hp1 => ⟨(hx p hp6 hp1).2.2, by have := (hx p hp6 hp1).2.1; show (Ev (s ^^^ 2 ^ p)).toInt.toNat ≤ 1000; omega⟩) 6 (Nat.le_refl _)
      have m2 := mt_mxN (C := Ev) (s := s) (x := fun p => (Ev (s ^^^ 2 ^ p)).toInt.toNat) (fun p hp6 hp1 => ⟨by rw [xor_and s hs p hp6 hp1]; exact (hx p hp6 hp1).1, by have := (hx p hp6 hp1).2.1; show (Ev (s ^^^ 2 ^ p)).toInt.toNat ≤ 1000; omega⟩) 6 (Nat.le_refl _)
      obtain ⟨p1, hp1, hp2⟩ := st_9 s hs (by omega)
      have hM : mxN (fun p => (Ev (s ^^^ 2 ^ p)).toInt.toNat) s 6 + 1 ≤ pcN s := by
        have hpos : 1 ≤ pcN s := by have := st_8 s hs p1 hp1 hp2; omega
        have := mxN_le (x := fun p => (Ev (s ^^^ 2 ^ p)).toInt.toNat) (s := s) (b := pcN s - 1) 6 (fun p hp6 hpp => by have := (hx p hp6 hpp).2.1; show (Ev (s ^^^ 2 ^ p)).toInt.toNat ≤ _; omega)
        omega
      generalize mxN (fun p => (Ev (s ^^^ 2 ^ p)).toInt.toNat) s 6 = M at m1 m2 hM
      rw [hso, hv, hE s (by omega) hs, hC s (by omega) hs, ev_eq hs0, ss_M, m1, m2]
      by_cases hz : ssG (netM bk) s 6 = 0
      · rw [if_pos hz, if_pos hz, nI_1]
        exact ⟨M + 1, hM, rfl, rfl⟩
      · rw [if_neg hz, if_neg hz, Int32.add_zero]
        exact ⟨M, by omega, rfl, rfl⟩
    · -- some are quit
      obtain ⟨p0, hp0, hp0s, hp0o⟩ := st_5 s hs o ho (by omega)
      -- the evens of the open ones
      obtain ⟨q1, q2⟩ := st_1 s hs o ho p0 hp0 hp0s hp0o
      have gu := hval (s ^^^ 2 ^ p0) (by have := xor_lt s hs p0 hp0 hp0s; omega) (sub _ (xor_lt s hs p0 hp0 hp0s))
      rw [q1] at gu
      have u7 := st_7 (s &&& o) hu o ho
      rw [s7.2.2.1] at u7
      generalize ha : (Ev (s &&& o)).toInt.toNat = a at gu
      have p6u : pcN (s &&& o) ≤ 6 := s7.2.2.2.1
      have v6 : pcN (s &&& (63 ^^^ o)) ≤ 6 := s7.2.2.2.2
      -- each with one less
      have hx : ∀ p, p < 6 → tb s p = true → ∃ z, C (s ^^^ 2 ^ p) = nI z ∧ z ≤ 1000 ∧ (tb o p = false → z + 1 = a + pcN (s &&& (63 ^^^ o))) ∧ (tb o p = true → z = (Ev ((s &&& o) ^^^ 2 ^ p)).toInt.toNat + pcN (s &&& (63 ^^^ o)) ∧ Ev ((s &&& o) ^^^ 2 ^ p) = nI (Ev ((s &&& o) ^^^ 2 ^ p)).toInt.toNat ∧ (Ev ((s &&& o) ^^^ 2 ^ p)).toInt.toNat ≤ 6) := by
        intro p hp6 hps
        have hlt := xor_lt s hs p hp6 hps
        have g := hval (s ^^^ 2 ^ p) (by omega) (sub _ hlt)
        cases hpo : tb o p with
        | false =>
          obtain ⟨r1, r2⟩ := st_1 s hs o ho p hp6 hps hpo
          rw [r1, ha] at g
          refine ⟨a + pcN ((s ^^^ 2 ^ p) &&& (63 ^^^ o)), g.2.2, by omega, fun _ => by omega, fun z => by cases z⟩
        | true =>
          obtain ⟨r1, r2⟩ := st_2 s hs o ho p hp6 hps hpo
          have t7 := st_7 (s ^^^ 2 ^ p) (by omega) o ho
          rw [r1, r2] at g
          rw [r1] at t7
          refine ⟨_, g.2.2, by omega, (fun z => by cases z), fun _ => ⟨rfl, g.1, by omega⟩⟩
      have hzx : ∃ x : Nat → Nat, ∀ p, p < 6 → tb s p = true → C (s ^^^ 2 ^ p) = nI (x p) ∧ x p ≤ 1000 ∧ (tb o p = false → x p + 1 = a + pcN (s &&& (63 ^^^ o))) ∧ (tb o p = true → x p = (Ev ((s &&& o) ^^^ 2 ^ p)).toInt.toNat + pcN (s &&& (63 ^^^ o)) ∧ Ev ((s &&& o) ^^^ 2 ^ p) = nI (Ev ((s &&& o) ^^^ 2 ^ p)).toInt.toNat ∧ (Ev ((s &&& o) ^^^ 2 ^ p)).toInt.toNat ≤ 6) := by
        refine ⟨fun p => (C (s ^^^ 2 ^ p)).toInt.toNat, fun p hp6 hps => ?_⟩
        obtain ⟨z, z1, z2, z3, z4⟩ := hx p hp6 hps
        have e : (C (s ^^^ 2 ^ p)).toInt.toNat = z := by rw [z1, nI_toInt (by omega), Int.toNat_natCast]
        simp only [e]
        exact ⟨z1, z2, z3, z4⟩
      obtain ⟨x, hx2⟩ := hzx
      have m1 := mc_mxN (C := C) (s := s) (x := x) (fun p hp6 hps => ⟨(hx2 p hp6 hps).1, (hx2 p hp6 hps).2.1⟩) 6 (Nat.le_refl _)
      have hge : a + pcN (s &&& (63 ^^^ o)) ≤ mxN x s 6 + 1 := by
        have := mxN_ge (x := x) (s := s) 6 p0 hp0 hp0s
        have := (hx2 p0 hp0 hp0s).2.2.1 hp0o
        omega
      refine ⟨a, gu.2.1, gu.1, ?_⟩
      rw [hC s (by omega) hs, m1, husum]
      by_cases hu0 : s &&& o = 0
      · -- all are quit
        have hnot : ∀ p, p < 6 → tb s p = true → tb o p = false := by
          intro p hp6 hps
          have := st_4 s hs o ho p hp6
          rw [hu0, hps, Bool.true_and] at this
          rw [← this]
          simp [tb]
        have hle : mxN x s 6 ≤ a + pcN (s &&& (63 ^^^ o)) - 1 := mxN_le 6 (fun p hp6 hps => by have := (hx2 p hp6 hps).2.2.1 (hnot p hp6 hps); omega)
        have hz : ssG (netM bk) (s &&& o) 6 = 0 := by rw [hu0]; simp [ssG, tb]
        rw [if_pos hz, nI_1]
        congr 1
        omega
      · -- the open ones
        have hEu := hE (s &&& o) (by omega) hu
        rw [ev_eq s7.1, ss_M] at hEu
        have hy : ∀ p, p < 6 → tb (s &&& o) p = true → Ev ((s &&& o) &&& (63 ^^^ 2 ^ p)) = nI (Ev ((s &&& o) ^^^ 2 ^ p)).toInt.toNat ∧ (Ev ((s &&& o) ^^^ 2 ^ p)).toInt.toNat ≤ 1000 ∧ tb s p = true ∧ tb o p = true := by
          intro p hp6 hpu
          have h4 := st_4 s hs o ho p hp6
          rw [hpu] at h4
          have h5 : tb s p = true ∧ tb o p = true := by simpa using h4.symm
          have := (hx2 p hp6 h5.1).2.2.2 h5.2
          rw [xor_and (s &&& o) hu p hp6 hpu]
          exact ⟨this.2.1, by omega, h5.1, h5.2⟩
        have m2 := mt_mxN (C := Ev) (s := s &&& o) (x := fun p => (Ev ((s &&& o) ^^^ 2 ^ p)).toInt.toNat) (fun p hp6 hpu => ⟨(hy p hp6 hpu).1, (hy p hp6 hpu).2.1⟩) 6 (Nat.le_refl _)
        have hA6 : mxN (fun p => (Ev ((s &&& o) ^^^ 2 ^ p)).toInt.toNat) (s &&& o) 6 ≤ 6 := mxN_le 6 (fun p hp6 hpu => by
          have h5 := hy p hp6 hpu
          exact ((hx2 p hp6 h5.2.2.1).2.2.2 h5.2.2.2).2.2)
        -- the greatest with one less of all is the greatest of the open ones, and the quit
        have hle : ∀ b, a ≤ b + 1 → mxN (fun p => (Ev ((s &&& o) ^^^ 2 ^ p)).toInt.toNat) (s &&& o) 6 ≤ b → mxN x s 6 ≤ b + pcN (s &&& (63 ^^^ o)) := by
          intro b hb1 hb2
          refine mxN_le 6 (fun p hp6 hps => ?_)
          cases hpo : tb o p with
          | false =>
            have := (hx2 p hp6 hps).2.2.1 hpo
            omega
          | true =>
            have := ((hx2 p hp6 hps).2.2.2 hpo).1
            have h9 := mxN_ge (x := fun p => (Ev ((s &&& o) ^^^ 2 ^ p)).toInt.toNat) (s := s &&& o) 6 p hp6 (by rw [st_4 s hs o ho p hp6, hps, hpo]; rfl)
            have h10 : (Ev ((s &&& o) ^^^ 2 ^ p)).toInt.toNat ≤ b := Nat.le_trans h9 hb2
            omega
        have hge2 : mxN (fun p => (Ev ((s &&& o) ^^^ 2 ^ p)).toInt.toNat) (s &&& o) 6 + pcN (s &&& (63 ^^^ o)) ≤ mxN x s 6 := by
          have hh : ∀ p, p < 6 → tb (s &&& o) p = true → (Ev ((s &&& o) ^^^ 2 ^ p)).toInt.toNat ≤ mxN x s 6 - pcN (s &&& (63 ^^^ o)) := by
            intro p hp6 hpu
            have h5 := hy p hp6 hpu
            have h6 := ((hx2 p hp6 h5.2.2.1).2.2.2 h5.2.2.2).1
            have h7 := mxN_ge (x := x) (s := s) 6 p hp6 h5.2.2.1
            omega
          obtain ⟨pu, hpu1, hpu2⟩ := st_9 (s &&& o) hu (by omega)
          have h5 := hy pu hpu1 hpu2
          have h6 := ((hx2 pu hpu1 h5.2.2.1).2.2.2 h5.2.2.2).1
          have h7 := mxN_ge (x := x) (s := s) 6 pu hpu1 h5.2.2.1
          have := mxN_le (x := fun p => (Ev ((s &&& o) ^^^ 2 ^ p)).toInt.toNat) (s := s &&& o) 6 hh
          omega
        rw [m2, gu.1] at hEu
        generalize mxN (fun p => (Ev ((s &&& o) ^^^ 2 ^ p)).toInt.toNat) (s &&& o) 6 = A at hEu hA6 hle hge2
        by_cases hz : ssG (netM bk) (s &&& o) 6 = 0
        · rw [if_pos hz, nI_1] at hEu
          have ea : a = A + 1 := (nI_eq (by omega) (by omega)).mp hEu
          have h8 := hle A (by omega) (Nat.le_refl _)
          rw [if_pos hz, nI_1]
          congr 1
          omega
        · rw [if_neg hz] at hEu
          have ea : a = A := (nI_eq (by omega) (by omega)).mp hEu
          have h8 := hle A (by omega) (Nat.le_refl _)
          rw [if_neg hz, Int32.add_zero]
          congr 1
          omega
end Hd
theorem op_set : ∀ o, o < 64 → 63 &&& o = o ∧ pcN (63 &&& (63 ^^^ o)) + pcN o = 6 := by decide +kernel
theorem net_eq {th : Nat} {F : FolkS} {bk : Nat → Int32} (h : FR th F bk) {p : Nat} (hp6 : p < 6) : netF F p = netM bk p := by
  unfold netF netM
  have : ∀ k, k ≤ 6 → sumI (fun q => fd F (q * 6 + p) - fd F (p * 6 + q)) k = sumI (fun q => bk (20 + 6 * q + p) - bk (20 + 6 * p + q)) k := by
    intro k
    induction k with
    | zero => intro _; rfl
    | succ k ih =>
      intro hk
      rw [sumI, sumI, ih (by omega), h.2.2.1 k (by omega) p hp6, h.2.2.1 p hp6 k (by omega)]
  exact this 6 (Nat.le_refl _)
theorem ss_cong {N M : Nat → Int32} {s : Nat} (h : ∀ p, p < 6 → N p = M p) : ∀ k : Nat, k ≤ 6 → ssG N s k = ssG M s k
  | 0, _ => rfl
  | k + 1, hk => by rw [ssG, ssG, ss_cong h k (by omega), h k (by omega)]
theorem tb_orB : ∀ o, o < 64 → ∀ p, p < 6 → hbB (nI o) (nI p) = tb o p := hb_tb
theorem orB_6_12 (c : Nat → Bool) : ∀ p, p < 6 → hbB (orB c 6) (nI p) = c p := by
  intro p hp6
  rw [hb_bt p (by omega), bt_orB c 6 (by omega) p (by omega), decide_eq_true hp6, Bool.true_and]
theorem hands_eq {th o : Nat} {F : FolkS} {bk Ev : Nat → Int32} {nt : NetS} (hF : FR th F bk) (ho : o < 64) (he : orB (opB bk) 6 = nI o) (h1 : nt.1 0 = 0) (h2 : nt.2 0 = 0) :
    6 - (nhR F nt 63).2 63 = nI (pcN o) - hmR bk o Ev 63 o := by
  obtain ⟨-, c0, c1⟩ := nh_ok (F := F) h1 h2 63 (Nat.le_refl _)
  obtain ⟨e0, e1⟩ := hm_ok (bk := bk) (o := o) (Ev := Ev) 63 (Nat.le_refl _)
  have hN : ∀ p, p < 6 → tb o p = false → netM bk p = 0 := by
    intro p hp6 ht
    have := orB_6_12 (opB bk) p hp6
    rw [he, tb_orB o ho p hp6, ht] at this
    have h3 : opB bk p = false := this.symm
    unfold opB at h3
    simpa using h3
  obtain ⟨a, a1, a2, a3⟩ := hands_set (bk := bk) (C := (nhR F nt 63).2) (Ev := hmR bk o Ev 63) ho hN c0 (fun s hs0 hs => by
    rw [c1 s hs0 (by omega), ss_cong (fun p hp6 => net_eq hF hp6) 6 (Nat.le_refl _)]) e0 (fun s hs0 hs => e1 s hs0 (by omega)) 64 63 (by decide) (by decide)
  obtain ⟨s1, s2⟩ := op_set o ho
  rw [s1] at a1 a2
  have p6 := pc_le o ho
  rw [a3, a2, show (6 : Int32) = nI 6 from rfl, pk_sub (by omega), pk_sub (by omega)]
  congr 1
  omega
