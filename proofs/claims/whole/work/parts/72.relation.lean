theorem ret_conseq {E : gE} {y : MethodName} {cc : ByteArray} {nL : Nat} {ret : Option FieldType} {d mc ms : Nat} {as : List Value} {h : gH} {Q Q2 : Option Value → gH → Prop} (hR : Ret E y cc nL ret d mc ms as h Q) (hq : ∀ r g, Q r g → Q2 r g) : Ret E y cc nL ret d mc ms as h Q2 := by
  intro p e ha hc hk s m args below hf happ hP ht
  obtain ⟨t, o, h1, h2, h3, ⟨r, g, e1, e2, e3⟩, L⟩ := hR p e ha hc hk s m args below hf happ hP ht
  exact ⟨t, o, h1, h2, h3, ⟨r, g, e1, hq r g e2, e3⟩, L⟩
/-! WEIGHTS change -/
def othN (w : Nat → Nat) (j : Nat) : Nat → Nat
  | 0 => 0
  | q + 1 => othN w j q + (if q = j then 0 else w q)
theorem oth_F {W : Nat → Int32} (hW : wOK W) (j : Nat) : ∀ n : Nat, n ≤ 9 → othF W (j + 1) n = nI (othN (wN W) j n)
  | 0, _ => rfl
  | n + 1, h => by
    rw [othF, othN, oth_F hW j n (by omega)]
    by_cases e : n = j
    · rw [if_pos (by omega), if_pos e, Int32.add_zero, Nat.add_zero]
    · rw [if_neg (by omega), if_neg e, (hW.eq (by omega)).1, nI_add]
theorem oth_sum (w : Nat → Nat) (j : Nat) : ∀ n : Nat, sumNN w n = othN w j n + (if j < n then w j else 0)
  | 0 => by rw [sumNN, othN, if_neg (by omega)]
  | n + 1 => by
    rw [sumNN, othN, oth_sum w j n]
    by_cases e : n = j
    · subst e
      rw [if_pos rfl, if_neg (by omega), if_pos (by omega)]
    · rw [if_neg e]
      by_cases h : j < n
      · rw [if_pos h, if_pos (by omega)]; omega
      · rw [if_neg h, if_neg (by omega)]; omega
theorem oth_cong {w v : Nat → Nat} {j : Nat} (h : ∀ k, k ≠ j → w k = v k) : ∀ n : Nat, othN w j n = othN v j n
  | 0 => rfl
  | n + 1 => by
    rw [othN, othN, oth_cong h n]
    by_cases e : n = j
    · rw [if_pos e, if_pos e]
    · rw [if_neg e, if_neg e, h n e]
theorem weight_ok {W : Nat → Int32} {j V : Nat} (hW : wOK W) (hj : j < 9) (hV : V ≤ 9) : (othF W (j + 1) 9 + nI V = 0 ↔ (nI V = 0 ∧ wsumF W = W (j + 1))) ∧ (¬ (nI V = 0 ∧ wsumF W = W (j + 1)) → wOK (upd W (j + 1) (nI V))) := by
  have hs := oth_sum (wN W) j 9
  rw [if_pos hj] at hs
  have ha : allN (wN W) = othN (wN W) j 9 + wN W j := hs
  have hal := hW.all_le
  have e1 : nI V = 0 ↔ V = 0 := nI_eq (b := 0) (by omega) (by decide)
  have e2 : wsumF W = W (j + 1) ↔ othN (wN W) j 9 = 0 := by
    rw [hW.sum, (hW.eq hj).1, nI_eq (by omega) (by omega), ha]
    omega
  refine ⟨?_, fun hn => ?_⟩
  · rw [oth_F hW j 9 (Nat.le_refl _), nI_add, e1, e2]
    have : nI (othN (wN W) j 9 + V) = 0 ↔ othN (wN W) j 9 + V = 0 := nI_eq (b := 0) (by omega) (by decide)
    rw [this]
    omega
  · rw [e1, e2] at hn
    have hw : ∀ k, wN (upd W (j + 1) (nI V)) k = if k = j then V else wN W k := by
      intro k
      unfold wN
      by_cases e : k = j
      · subst e; rw [upd_s, if_pos rfl, nI_toInt (by omega), Int.toNat_natCast]
      · rw [upd_n _ _ (by omega), if_neg e]
    refine ⟨fun k hk => ?_, ?_⟩
    · by_cases e : k = j
      · subst e; rw [upd_s, nI_toInt (by omega)]; omega
      · rw [upd_n _ _ (by omega)]; exact hW.1 k hk
    · have h2 := oth_sum (wN (upd W (j + 1) (nI V))) j 9
      rw [if_pos hj, oth_cong (v := wN W) (fun k hk => by rw [hw k, if_neg hk]) 9, hw j, if_pos rfl] at h2
      show 1 ≤ sumNN _ 9
      omega
/-! tables of BEST depend on nine WEIGHTS alone -/
theorem sumNN_cong {f g : Nat → Nat} : ∀ n : Nat, (∀ k, k < n → f k = g k) → sumNN f n = sumNN g n
  | 0, _ => rfl
  | n + 1, h => by rw [sumNN, sumNN, sumNN_cong n (fun k hk => h k (by omega)), h n (by omega)]
theorem BV_cong {w v : Nat → Nat} (h : ∀ k, k < 9 → w k = v k) : ∀ m n : Nat, BV w m n = BV v m n
  | 0, n => by rw [BV, BV]
  | m + 1, 0 => by rw [BV, BV]
  | m + 1, n + 1 => by
    have ha : allN w = allN v := sumNN_cong 9 h
    rw [BV, BV]
    refine sumNN_cong 9 (fun k hk => ?_)
    rw [h k hk, ha, BV_cong h m (n + 1), BV_cong h m n]
theorem wOK.cong {W V : Nat → Int32} (hW : wOK W) (h : ∀ j, j < 10 → V j = W j) : wOK V ∧ ∀ k, k < 9 → wN V k = wN W k := by
  have e : ∀ k, k < 9 → wN V k = wN W k := fun k hk => by unfold wN; rw [h (k + 1) (by omega)]
  refine ⟨⟨fun k hk => by rw [h (k + 1) (by omega)]; exact hW.1 k hk, ?_⟩, e⟩
  have : allN (wN V) = allN (wN W) := sumNN_cong 9 e
  rw [this]
  exact hW.2
theorem tabM_of {W V : Nat → Int32} {U : Nat → Int64} (hW : wOK W) (h : ∀ j, j < 10 → V j = W j) : tabM (wN W) (lbM V (wsumF V).toInt64 U 8) ∧ (wsumF V).toInt64 = lN (allN (wN W)) := by
  obtain ⟨hV, e⟩ := hW.cong h
  have ha : allN (wN V) = allN (wN W) := sumNN_cong 9 e
  rw [hV.sumL]
  refine ⟨fun n m hn hm => ?_, by rw [ha]⟩
  rw [lbM_ok hV 8 n m (Nat.le_refl _) (by omega) hm, BV_cong e]
/-! THE RELATION of class and model -/
abbrev Fo2 : Type := Int32 × (Nat → Int32) × (Nat → Int32) × (Nat → Int32) × (Nat → Int32) × (Nat → Int32)
def WP (th s : Nat) (O : Nat → Nat) (F2 : Fo2) (we ss bk ta wm sg : Nat → Int32) : Prop :=
  th < 64 ∧ s ≤ 8 ∧ FR th (nI th, F2) bk ∧ FI th (nI th, F2) ∧ (∀ p, p < 6 → tb th p = true → ta p = ft (nI th, F2) p) ∧ (∀ j, j < 10 → wm j = we j) ∧ wOK we ∧ (∀ i, i < s → sgOK O sg i ∧ sg (4 * i + 3) = ss i) ∧ ∀ k, k < 8 → ss k = 0 ∨ ss k = 1
def wld (th s : Nat) (O : Nat → Nat) (F2 : Fo2) (we ss : Nat → Int32) (ke : Int32) : WorldS := ((nI th, F2), we, (fun i => nI (O i)), ss, nI s, ke)
def ImR (W : WorldS) (zim : Nat → Int32) (kn : Int32) (n : Nat) : Prop :=
  kn = W.2.2.2.2.2 ∧ (kn = 0 ∨ (kn = 1 ∧ ∃ (th s : Nat) (O : Nat → Nat) (F2 : Fo2) (we ss : Nat → Int32) (ke : Int32), W = wld th s O F2 we ss ke ∧ zim (130 * n + 120) = nI th ∧ zim (130 * n + 121) = nI s ∧
    WP th s O F2 we ss (fun j => zim (130 * n + j)) (fun j => zim (130 * n + 61 + j)) (fun j => zim (130 * n + 70 + j)) (fun j => zim (130 * n + 80 + j))))
def RP (th s c : Nat) (O : Nat → Nat) (F2 : Fo2) (we ss : Nat → Int32) (i0 i1 : WorldS) (pl : PlanS) (nt : NetS) (zbk zta zwe zsg zim zke : Nat → Int32) : Prop :=
  WP th s O F2 we ss zbk zta zwe zsg ∧ c ≤ 60 ∧ plOK we pl ∧ nt.1 0 = 0 ∧ nt.2 0 = 0 ∧ ImR i0 zim (zke 0) 0 ∧ ImR i1 zim (zke 1) 1
def RelH (h : gH) : Prop := ∃ (th s c : Nat) (O : Nat → Nat) (F2 : Fo2) (we ss : Nat → Int32) (ke : Int32) (i0 i1 : WorldS) (S : Nat → Int32) (lv : LivesS) (pl : PlanS) (mt : MatS) (nt : NetS) (zbk znw zta zwe zsg : Nat → Int32) (zsd zfo zre zma zba : Int32) (zbe : Nat → Int64) (zev zac zwr : Nat → Int32) (zsl zwy : Int32) (zim zke : Nat → Int32), h = (hp ((nI th, F2), we, (fun i => nI (O i)), ss, nI s, ke) i0 i1 (S, nI c) lv pl mt nt (zbk, znw, (nI th), zta, zwe, (nI s), zsg, (nI c), S, zsd, zfo, zre, zma, zba, zbe, zev, zac, zwr, zsl, zwy, zim, zke)) ∧ RP th s c O F2 we ss i0 i1 pl nt zbk zta zwe zsg zim zke
theorem relH_mk {th s c : Nat} {O : Nat → Nat} {F2 : Fo2} {we ss : Nat → Int32} {ke : Int32} {i0 i1 : WorldS} {S : Nat → Int32} {lv : LivesS} {pl : PlanS} {mt : MatS} {nt : NetS} {zbk znw zta zwe zsg : Nat → Int32} {zsd zfo zre zma zba : Int32} {zbe : Nat → Int64} {zev zac zwr : Nat → Int32} {zsl zwy : Int32} {zim zke : Nat → Int32} (R : RP th s c O F2 we ss i0 i1 pl nt zbk zta zwe zsg zim zke) : RelH (hp ((nI th, F2), we, (fun i => nI (O i)), ss, nI s, ke) i0 i1 (S, nI c) lv pl mt nt (zbk, znw, (nI th), zta, zwe, (nI s), zsg, (nI c), S, zsd, zfo, zre, zma, zba, zbe, zev, zac, zwr, zsl, zwy, zim, zke)) := ⟨_, _, _, _, _, _, _, _, _, _, _, _, _, _, _, _, _, _, _, _, _, _, _, _, _, _, _, _, _, _, _, _, _, rfl, R⟩
/-- both answer alike, and stay related -/
def OpI (y8 : MethodName) (c8 : ByteArray) (n8 : Nat) (y9 : MethodName) (c9 : ByteArray) (n9 : Nat) (vs : List Value) : Prop := ∀ (E : gE) (h : gH), RelH h → ∃ (r : Int32) (h1 : gH), Ret E y8 c8 n8 (some .int) 9 0 0 (.ref 0 :: vs) h (dt (some (.int r)) h1) ∧ (∃ (nw i0 i1 : WorldS) (pd : PadS) (lv : LivesS) (pl : PlanS) (mt : MatS) (nt : NetS) (m : ModS), h1 = hp nw i0 i1 pd lv pl mt nt m) ∧ Ret E y9 c9 n9 (some .int) 9 0 0 (.ref 52 :: vs) h1 (fun r2 h2 => r2 = some (.int r) ∧ RelH h2)
def OpL (y8 : MethodName) (c8 : ByteArray) (n8 : Nat) (y9 : MethodName) (c9 : ByteArray) (n9 : Nat) (vs : List Value) : Prop := ∀ (E : gE) (h : gH), RelH h → ∃ (r : Int64) (h1 : gH), Ret E y8 c8 n8 (some .long) 9 0 0 (.ref 0 :: vs) h (dt (some (.long r)) h1) ∧ (∃ (nw i0 i1 : WorldS) (pd : PadS) (lv : LivesS) (pl : PlanS) (mt : MatS) (nt : NetS) (m : ModS), h1 = hp nw i0 i1 pd lv pl mt nt m) ∧ Ret E y9 c9 n9 (some .long) 9 0 0 (.ref 52 :: vs) h1 (fun r2 h2 => r2 = some (.long r) ∧ RelH h2)
abbrev isHp (h1 : gH) : Prop := ∃ (nw i0 i1 : WorldS) (pd : PadS) (lv : LivesS) (pl : PlanS) (mt : MatS) (nt : NetS) (m : ModS), h1 = hp nw i0 i1 pd lv pl mt nt m
theorem is_hp {nw i0 i1 : WorldS} {pd : PadS} {lv : LivesS} {pl : PlanS} {mt : MatS} {nt : NetS} {m : ModS} : isHp (hp nw i0 i1 pd lv pl mt nt m) := ⟨nw, i0, i1, pd, lv, pl, mt, nt, m, rfl⟩
