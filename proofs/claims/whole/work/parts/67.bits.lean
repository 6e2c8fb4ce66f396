/-! bits of an int -/
def btI (x : Int32) (i : Nat) : Bool := x.toBitVec.getLsbD i
theorem bt_ext {x y : Int32} (h : ∀ i, i < 32 → btI x i = btI y i) : x = y := Int32.toBitVec_inj.mp (BitVec.eq_of_getLsbD_eq (fun i hi => h i hi))
theorem bt_or (x y : Int32) (i : Nat) : btI (x ||| y) i = (btI x i || btI y i) := by unfold btI; rw [Int32.toBitVec_or, BitVec.getLsbD_or]
theorem bt_and (x y : Int32) (i : Nat) : btI (x &&& y) i = (btI x i && btI y i) := by unfold btI; rw [Int32.toBitVec_and, BitVec.getLsbD_and]
theorem bt_xor (x y : Int32) (i : Nat) : btI (x ^^^ y) i = (btI x i ^^ btI y i) := by unfold btI; rw [Int32.toBitVec_xor, BitVec.getLsbD_xor]
theorem bt_m1 : ∀ i, i < 32 → btI (-1) i = true := by decide +kernel
theorem bt_0 : ∀ i, i < 32 → btI 0 i = false := by decide +kernel
theorem bt_sh : ∀ n, n < 12 → ∀ i, i < 32 → btI ((1 : Int32) <<< (nI n &&& 31)) i = decide (i = n) := by decide +kernel
theorem bt_orB (c : Nat → Bool) : ∀ n : Nat, n ≤ 12 → ∀ i, i < 32 → btI (orB c n) i = (decide (i < n) && c i)
  | 0, _, i, hi => by rw [orB, bt_0 i hi]; simp
  | n + 1, hn, i, hi => by
    have ih := bt_orB c n (by omega) i hi
    rw [orB]
    by_cases hc : c n = true
    · rw [if_pos hc, bt_or, ih, bt_sh n (by omega) i hi]
      by_cases e : i = n
      · subst e
        simp [hc]
      · have : decide (i < n + 1) = decide (i < n) := by rw [decide_eq_decide]; omega
        rw [this, decide_eq_false e, Bool.or_false]
    · rw [if_neg hc, ih]
      by_cases e : i = n
      · subst e
        have : c i = false := by simpa using hc
        simp [this]
      · have : decide (i < n + 1) = decide (i < n) := by rw [decide_eq_decide]; omega
        rw [this]
theorem orB_cong12 {c e : Nat → Bool} (h : ∀ p, p < 12 → c p = e p) : orB c 12 = orB e 12 := by
  refine bt_ext (fun i hi => ?_)
  rw [bt_orB c 12 (Nat.le_refl _) i hi, bt_orB e 12 (Nat.le_refl _) i hi]
  by_cases hl : i < 12
  · rw [h i hl]
  · rw [decide_eq_false hl]; rfl
theorem orB_and (c e : Nat → Bool) : orB c 12 &&& orB e 12 = orB (fun h => c h && e h) 12 := by
  refine bt_ext (fun i hi => ?_)
  rw [bt_and, bt_orB c 12 (Nat.le_refl _) i hi, bt_orB e 12 (Nat.le_refl _) i hi, bt_orB _ 12 (Nat.le_refl _) i hi]
  cases decide (i < 12) <;> rfl
theorem orB_andnot (c e : Nat → Bool) : orB c 12 &&& (orB e 12 ^^^ (-1)) = orB (fun h => c h && !(e h)) 12 := by
  refine bt_ext (fun i hi => ?_)
  rw [bt_and, bt_xor, bt_m1 i hi, bt_orB c 12 (Nat.le_refl _) i hi, bt_orB e 12 (Nat.le_refl _) i hi, bt_orB _ 12 (Nat.le_refl _) i hi]
  cases decide (i < 12) <;> simp
/-! the set as a number, and how many are in it -/
def bnN (c : Nat → Bool) : Nat → Nat
  | 0 => 0
  | n + 1 => bnN c n + (if c n then 2 ^ n else 0)
def ctN (c : Nat → Bool) : Nat → Nat
  | 0 => 0
  | n + 1 => ctN c n + (if c n then 1 else 0)
theorem bn_lt (c : Nat → Bool) : ∀ n : Nat, bnN c n < 2 ^ n
  | 0 => by rw [bnN]; decide
  | n + 1 => by
    have := bn_lt c n
    rw [bnN, Nat.pow_succ]
    split <;> omega
theorem or_top : ∀ n, n < 12 → ∀ s, s < 2 ^ n → nI s ||| ((1 : Int32) <<< (nI n &&& 31)) = nI (s + 2 ^ n) ∧ pcN (s + 2 ^ n) = pcN s + 1 := by decide +kernel
theorem orB_bn (c : Nat → Bool) : ∀ n : Nat, n ≤ 12 → orB c n = nI (bnN c n) ∧ pcN (bnN c n) = ctN c n
  | 0, _ => ⟨rfl, by rw [bnN, ctN]; decide⟩
  | n + 1, hn => by
    obtain ⟨i1, i2⟩ := orB_bn c n (by omega)
    have hl := bn_lt c n
    have ho := or_top n (by omega) (bnN c n) hl
    rw [orB, bnN, ctN]
    by_cases hc : c n = true
    · rw [if_pos hc, if_pos hc, if_pos hc, i1, ho.1, ho.2, i2]
      exact ⟨rfl, rfl⟩
    · rw [if_neg hc, if_neg hc, if_neg hc, i1, Nat.add_zero, Nat.add_zero]
      exact ⟨rfl, i2⟩
theorem bn_4096 (c : Nat → Bool) : bnN c 12 < 4096 := bn_lt c 12
theorem bc_orB (c : Nat → Bool) : bcF (orB c 12) = nI (ctN c 12) := by
  rw [(orB_bn c 12 (Nat.le_refl _)).1, bc_pc _ (bn_4096 c), (orB_bn c 12 (Nat.le_refl _)).2]
theorem ct_le (c : Nat → Bool) : ∀ n : Nat, ctN c n ≤ n
  | 0 => Nat.le_refl _
  | n + 1 => by have := ct_le c n; rw [ctN]; split <;> omega
theorem ct_split (c e : Nat → Bool) : ∀ n : Nat, ctN c n = ctN (fun h => c h && e h) n + ctN (fun h => c h && !(e h)) n
  | 0 => rfl
  | n + 1 => by
    rw [ctN, ctN, ctN, ct_split c e n]
    cases c n <;> cases e n <;> simp <;> omega
theorem smod_l : ∀ n, n < 12 → ((nI n &&& 31).toBitVec.smod 32).toNat = n := by decide +kernel
theorem hb_bt {x : Int32} : ∀ n, n < 12 → hbB x (nI n) = btI x n := by
  intro n hn
  have e : ∀ y : Int32, decide (y &&& 1 = 1) = btI y 0 := by
    intro y
    have h1 : ∀ i, i < 32 → btI 1 i = decide (i = 0) := by decide +kernel
    by_cases hy : btI y 0 = true
    · rw [hy]
      refine decide_eq_true (bt_ext (fun i hi => ?_))
      rw [bt_and, h1 i hi]
      by_cases hi0 : i = 0
      · subst hi0; rw [hy]; rfl
      · rw [decide_eq_false hi0, Bool.and_false]
    · have hy2 : btI y 0 = false := by simpa using hy
      rw [hy2]
      refine decide_eq_false (fun z => ?_)
      have z2 := congrArg (fun q => btI q 0) z
      simp only [bt_and, hy2, Bool.false_and] at z2
      exact absurd z2 (by decide)
  rw [hbB, e]
  unfold btI
  rw [Int32.toBitVec_shiftRight, BitVec.sshiftRight_eq', smod_l n hn, BitVec.getLsbD_sshiftRight]
  simp
  omega
theorem hb_orB (c : Nat → Bool) {h : Nat} (hh : h < 12) : hbB (orB c 12) (nI h) = c h := by
  rw [hb_bt h hh, bt_orB c 12 (Nat.le_refl _) h (by omega), decide_eq_true hh, Bool.true_and]
