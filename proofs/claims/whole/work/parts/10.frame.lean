/-! THE ABSTRACT MACHINE: names for cells (k stands at the address b + k), values by names, one world for all methods -/
/-- launch, class numbers and slots, array classes (0 int, 1 long, 2 boolean, 3 World), the first address -/
abbrev gE : Type := Launch × va_G × (Nat → ClassId) × Nat
/-- a cell: an array (kind, length, contents) or an object (number of its class, its fields) -/
abbrev gC : Type := (Nat × vp_A) ⊕ (Nat × List Value)
abbrev gH : Type := List gC
/-- a name is a place from b on; .retAddr k stands for the address k itself (the law's script, which lies below b) -/
def gv (b : Nat) (v : Value) : Value := match v with
  | .ref k => .ref (b + k)
  | .retAddr k => .ref k
  | w => w
def gr (b : Nat) (r : Option Nat) : Option Nat := match r with
  | none => none
  | some k => some (b + k)
def gar (b : Nat) (a : (Nat → Int32) ⊕ (Nat → Int64) ⊕ (Nat → UInt32) ⊕ (Nat → UInt64) ⊕ (Nat → Option Nat)) : (Nat → Int32) ⊕ (Nat → Int64) ⊕ (Nat → UInt32) ⊕ (Nat → UInt64) ⊕ (Nat → Option Nat) := match a with
  | .inr (.inr (.inr (.inr f))) => .inr (.inr (.inr (.inr fun j => gr b (f j))))
  | x => x
def gx (E : gE) (c : gC) : va_E := match c with
  | .inl a => .inl (E.2.2.1 a.1, a.2.1, gar E.2.2.2 a.2.2)
  | .inr o => .inr (o.1, o.2.map (gv E.2.2.2))
def hg : gH → Nat → Option gC
  | [], _ => none
  | c :: _, 0 => some c
  | _ :: t, n + 1 => hg t n
def hs : gH → Nat → gC → gH
  | [], _, _ => []
  | _ :: t, 0, c => c :: t
  | x :: t, n + 1, c => x :: hs t n c
def lgt : List (Option Value) → Nat → Option Value
  | [], _ => none
  | x :: _, 0 => x
  | _ :: t, n + 1 => lgt t n
def lset : List (Option Value) → Nat → Option Value → List (Option Value)
  | [], _, _ => []
  | _ :: t, 0, v => v :: t
  | x :: t, n + 1, v => x :: lset t n v
def is2 (v : Option Value) : Bool := match v with
  | some (.long _) => true
  | some (.double _) => true
  | _ => false
/-- the slot ahead of i holds no long -/
def lno2 : List (Option Value) → Nat → Bool
  | x :: _, 1 => !(is2 x)
  | _ :: t, n + 2 => lno2 t (n + 1)
  | _, _ => true
theorem hg_lt : ∀ (h : gH) (k : Nat) (c : gC), hg h k = some c → k < h.length
  | [], k, c, e => by simp [hg] at e
  | x :: t, 0, c, e => by simp
  | x :: t, n + 1, c, e => by
    have := hg_lt t n c e
    simp
    omega
theorem hs_len : ∀ (h : gH) (k : Nat) (c : gC), (hs h k c).length = h.length
  | [], k, c => rfl
  | x :: t, 0, c => rfl
  | x :: t, n + 1, c => by simp [hs, hs_len t n c]
theorem hg_hs : ∀ (h : gH) (k : Nat) (c : gC) (j : Nat) (z : gC), hg (hs h k c) j = some z → (j = k ∧ z = c) ∨ (j ≠ k ∧ hg h j = some z)
  | [], k, c, j, z, e => by simp [hs, hg] at e
  | x :: t, 0, c, 0, z, e => by
    left
    simp [hs, hg] at e
    exact ⟨rfl, e.symm⟩
  | x :: t, 0, c, j + 1, z, e => by
    right
    exact ⟨by omega, e⟩
  | x :: t, n + 1, c, 0, z, e => by
    right
    exact ⟨by omega, e⟩
  | x :: t, n + 1, c, j + 1, z, e => by
    rcases hg_hs t n c j z e with ⟨h1, h2⟩ | ⟨h1, h2⟩
    · left
      exact ⟨by omega, h2⟩
    · right
      exact ⟨by omega, h2⟩
theorem hg_app : ∀ (h : gH) (c : gC) (j : Nat) (z : gC), hg (h ++ [c]) j = some z → (j = h.length ∧ z = c) ∨ (j < h.length ∧ hg h j = some z)
  | [], c, 0, z, e => by
    left
    simp [hg] at e
    exact ⟨rfl, e.symm⟩
  | [], c, j + 1, z, e => by simp [hg] at e
  | x :: t, c, 0, z, e => by
    right
    exact ⟨by simp, e⟩
  | x :: t, c, j + 1, z, e => by
    rcases hg_app t c j z e with ⟨h1, h2⟩ | ⟨h1, h2⟩
    · left
      exact ⟨by simp; exact h1, h2⟩
    · right
      exact ⟨by simp; exact h1, h2⟩
theorem lgt_lset : ∀ (L : List (Option Value)) (i : Nat) (v : Option Value) (j : Nat) (w : Value), lgt (lset L i v) j = some w → (j = i ∧ v = some w) ∨ (j ≠ i ∧ lgt L j = some w)
  | [], i, v, j, w, e => by simp [lset, lgt] at e
  | x :: t, 0, v, 0, w, e => Or.inl ⟨rfl, e⟩
  | x :: t, 0, v, j + 1, w, e => Or.inr ⟨by omega, e⟩
  | x :: t, n + 1, v, 0, w, e => Or.inr ⟨by omega, e⟩
  | x :: t, n + 1, v, j + 1, w, e => by
    rcases lgt_lset t n v j w e with ⟨h1, h2⟩ | ⟨h1, h2⟩
    · exact Or.inl ⟨by omega, h2⟩
    · exact Or.inr ⟨by omega, h2⟩
theorem lgt_lt : ∀ (L : List (Option Value)) (j : Nat) (w : Value), lgt L j = some w → j < L.length
  | [], j, w, e => by simp [lgt] at e
  | x :: t, 0, w, e => by simp
  | x :: t, n + 1, w, e => by
    have := lgt_lt t n w e
    simp
    omega
theorem lno2_at : ∀ (L : List (Option Value)) (i : Nat) (w : Value), lno2 L (i + 1) = true → lgt L i = some w → ¬ w.category = 2
  | [], i, w, h, e => by simp [lgt] at e
  | x :: t, 0, w, h, e => by
    simp only [lgt] at e
    subst e
    cases w <;> simp [lno2, is2, Value.category] at h ⊢
  | x :: t, n + 1, w, h, e => lno2_at t n w h e
theorem gv_cat (b : Nat) (v : Value) : (gv b v).category = v.category := by cases v <;> rfl
def gL (b nL : Nat) (ls : Array Slot) (L : List (Option Value)) : Prop := ls.size = nL ∧ lv_wf ls ∧ ∀ (i : Nat) (v : Value), lgt L i = some v → ls[i]? = some (.val (gv b v))
def lprs (b : Nat) (L : List (Option Value)) : List (Nat × Value) := (List.range L.length).filterMap (fun i => (lgt L i).map (fun v => (i, gv b v)))
theorem lprs_mem {b : Nat} {L : List (Option Value)} {q : Nat × Value} : q ∈ lprs b L ↔ ∃ v, lgt L q.1 = some v ∧ q.2 = gv b v := by
  unfold lprs
  rw [List.mem_filterMap]
  constructor
  · rintro ⟨i, -, h⟩
    cases hv : lgt L i with
    | none => rw [hv] at h; cases h
    | some v =>
      rw [hv] at h
      simp only [Option.map_some, Option.some.injEq] at h
      subst h
      exact ⟨v, hv, rfl⟩
  · rintro ⟨v, h1, h2⟩
    refine ⟨q.1, List.mem_range.mpr (lgt_lt _ _ _ h1), ?_⟩
    rw [h1]
    simp only [Option.map_some, Option.some.injEq]
    rw [← h2]
theorem gL.has {b nL : Nat} {ls : Array Slot} {L : List (Option Value)} (h : gL b nL ls L) : lv_has ls nL (lprs b L) := by
  refine ⟨h.1, h.2.1, fun q hq => ?_⟩
  obtain ⟨v, h1, h2⟩ := lprs_mem.mp hq
  rw [h2]
  exact h.2.2 q.1 v h1
theorem gL.set1 {b nL i : Nat} {ls' : Array Slot} {L : List (Option Value)} {v : Value} (hn : lno2 L i = true) (h : lv_has ls' nL ((i, gv b v) :: (lprs b L).filter (fun q => !(q.1 == i) && !(q.1 + 1 == i && q.2.category == 2)))) : gL b nL ls' (lset L i (some v)) := by
  refine ⟨h.1, h.2.1, fun j w hj => ?_⟩
  rcases lgt_lset L i _ j w hj with ⟨rfl, e⟩ | ⟨e, hk⟩
  · cases e
    exact h.2.2 _ List.mem_cons_self
  · refine h.2.2 (j, gv b w) (List.mem_cons_of_mem _ (List.mem_filter.mpr ⟨lprs_mem.mpr ⟨w, hk, rfl⟩, ?_⟩))
    have h2 : ¬ (j + 1 = i ∧ w.category = 2) := by
      rintro ⟨h4, h3⟩
      subst h4
      exact lno2_at L j w hn hk h3
    simp only [Bool.and_eq_true, Bool.not_eq_true', beq_eq_false_iff_ne, ne_eq, Bool.and_eq_false_iff, gv_cat]
    refine ⟨e, ?_⟩
    by_cases h3 : j + 1 = i
    · exact Or.inr fun h4 => h2 ⟨h3, h4⟩
    · exact Or.inl h3
theorem gL.set2 {b nL i : Nat} {ls' : Array Slot} {L : List (Option Value)} {v : Value} (hn : lno2 L i = true) (h : lv_has ls' nL ((i, gv b v) :: (lprs b L).filter (fun q => !(q.1 == i) && (!(q.1 == i + 1) && !(q.1 + 1 == i && q.2.category == 2))))) : gL b nL ls' (lset (lset L i (some v)) (i + 1) none) := by
  refine ⟨h.1, h.2.1, fun j w hj => ?_⟩
  rcases lgt_lset _ (i + 1) _ j w hj with ⟨rfl, e⟩ | ⟨e1, hj⟩
  · cases e
  rcases lgt_lset L i _ j w hj with ⟨rfl, e⟩ | ⟨e, hk⟩
  · cases e
    exact h.2.2 _ List.mem_cons_self
  · refine h.2.2 (j, gv b w) (List.mem_cons_of_mem _ (List.mem_filter.mpr ⟨lprs_mem.mpr ⟨w, hk, rfl⟩, ?_⟩))
    have h2 : ¬ (j + 1 = i ∧ w.category = 2) := by
      rintro ⟨h4, h3⟩
      subst h4
      exact lno2_at L j w hn hk h3
    simp only [Bool.and_eq_true, Bool.not_eq_true', beq_eq_false_iff_ne, ne_eq, Bool.and_eq_false_iff, gv_cat]
    refine ⟨e, e1, ?_⟩
    by_cases h3 : j + 1 = i
    · exact Or.inr fun h4 => h2 ⟨h3, h4⟩
    · exact Or.inl h3
/-! what stands of the tables -/
def gW (s : State) : Prop := (∀ w ∈ lw_tbl, goodWord w = true → ∀ a : Array Value, w.before a s = true) ∧ (∀ (a : String) (i : Nat) (x : MethodName) (h : String), Cond.methodLinkNest a i x h ∈ lw_tbl → va_Nw (.methodLinkNest a i x h) s) ∧ va_AO "SignedSheets$World" s
def gtys (E : gE) : List (ClassId × FieldType) := [(E.2.2.1 0, .int), (E.2.2.1 1, .long), (E.2.2.1 2, .boolean), (E.2.2.1 3, .object "SignedSheets$World")]
def gK (E : gE) (s : State) : Prop := gW s ∧ va_K E.2.1 vwCl (gtys E) s
theorem wh_rfl (s : State) : s.WarmedH s.vm := ⟨rfl, rfl, fun d k h => ⟨k, h, rfl, rfl, fun _ => Or.inl rfl, Or.inl ⟨rfl, rfl⟩⟩⟩
theorem gW.moved {s U : State} (hW : s.WarmedH U.vm) (h : gW s) : gW U :=
  ⟨fun w hw hg a => word_at hW (good_of_word hg) (h.1 w hw hg #[]), fun a i x hh hm => va_Nw.warmM hW (h.2.1 a i x hh hm), va_AO.moved hW.alike h.2.2⟩
theorem gK.moved {E : gE} {s U : State} (hW : s.WarmedH U.vm) (h : gK E s) : gK E U := ⟨gW.moved hW h.1, va_K.moved hW.alike h.2⟩
def gP (E : gE) (h : gH) (H0 H : Heap) : Prop := H.size = E.2.2.2 + h.length ∧ (∀ (k : Nat) (c : gC), hg h k = some c → va_at E.2.1 vwCl (E.2.2.2 + k, gx E c) H) ∧ ∀ q : Nat, q < E.2.2.2 → H[q]? = H0[q]?
def gR (d mc ms : Nat) : Room := { frames := d, cells := mc, slots := ms, locals := 35 * d }
def gQ (E : gE) (Q : Option Value → gH → Prop) : Array Value → State → Outcome → State → Prop := fun _ s o t => ∃ (r : Option Value) (h : gH), o = .returned (r.map (gv E.2.2.2)) ∧ Q r h ∧ gP E h s.heap t.heap
def gX (E : gE) (y : MethodName) (cc : ByteArray) (nL : Nat) (ret : Option FieldType) (p : Program) (s : State) (m : MethodId) (meth : Method) (c : Code) : Prop :=
  p.tables.exec = Jvm.exec ∧ c.code = cc ∧ c.maxLocals = nL ∧ meth.sig.returnType = ret ∧ meth.locks = false ∧ s.vm.findClass y.cls = some m.cls ∧ meth.name = y.name ∧ gK E s ∧ E.2.2.2 ≤ s.heap.size
/-- FROM pc, locals L, stack st, world h: the method returns r with the world h', and Q r h' -/
def Go (E : gE) (y : MethodName) (cc : ByteArray) (nL : Nat) (ret : Option FieldType) (d kc ks mc ms pc : Nat) (L : List (Option Value)) (st : List Value) (h : gH) (Q : Option Value → gH → Prop) : Prop :=
  ∀ (p : Program) (e : Env) (s : State) (m : MethodId) (args : Array Value) (below : List Frame) (meth : Method) (c : Code) (H : Heap) (locs : List Loc) (ls : Array Slot),
    gX E y cc nL ret p s m meth c → gP E h s.heap H → (∀ q ∈ locs, E.2.2.2 ≤ q.base) → gL E.2.2.2 nL ls L →
    W p E.1 e (gR d mc ms) s m args below meth c H locs kc ks (MQ below (gQ E Q) args s mc ms (fun q => E.2.2.2 ≤ q)) (F0 m pc ls (st.map (gv E.2.2.2)))
/-- CALLED with the arguments as on the world h: it returns r with the world h', and Q r h' -/
def Ret (E : gE) (y : MethodName) (cc : ByteArray) (nL : Nat) (ret : Option FieldType) (d mc ms : Nat) (as : List Value) (h : gH) (Q : Option Value → gH → Prop) : Prop :=
  Met E.1 y [Cond.code y cc nL ret] (gR d mc ms) (va_Pc (as.map (gv E.2.2.2)) (fun U => gK E U ∧ E.2.2.2 ≤ U.heap.size ∧ gP E h U.heap U.heap)) (gQ E Q) mc ms (fun q => E.2.2.2 ≤ q)
/-- the locals at a method's entry -/
def largs : Nat → List Value → List (Option Value)
  | n, [] => List.replicate n none
  | n, .long x :: vs => some (.long x) :: none :: largs (n - 2) vs
  | n, .double x :: vs => some (.double x) :: none :: largs (n - 2) vs
  | n, v :: vs => some v :: largs (n - 1) vs
theorem lgt_rep (n j : Nat) (w : Value) : lgt (List.replicate n none) j ≠ some w := by
  induction n generalizing j with
  | zero => simp [lgt]
  | succ n ih =>
    cases j with
    | zero => simp [List.replicate_succ, lgt]
    | succ j => rw [List.replicate_succ]; exact ih j
theorem lv_args_shift (i : Nat) (vs : List Value) : ∀ (j : Nat) (w : Value), (j, w) ∈ lv_args i vs → (j + 1, w) ∈ lv_args (i + 1) vs := by
  induction vs generalizing i with
  | nil => intro j w h; cases h
  | cons v vs ih =>
    intro j w h
    simp only [lv_args] at h ⊢
    rcases List.mem_cons.mp h with e | h
    · cases e
      exact List.mem_cons_self
    · refine List.mem_cons_of_mem _ ?_
      by_cases hc : v.category = 2
      · rw [if_pos hc] at h ⊢
        exact ih (i + 2) j w h
      · rw [if_neg hc] at h ⊢
        exact ih (i + 1) j w h
theorem largs_in (vs : List Value) : ∀ (n j : Nat) (w : Value), lgt (largs n vs) j = some w → (j, w) ∈ lv_args 0 vs := by
  induction vs with
  | nil => intro n j w h; exact absurd h (lgt_rep n j w)
  | cons v vs ih =>
    intro n j w h
    have one : ∀ (t : List (Option Value)) (j : Nat), lgt (some v :: t) j = some w → (∀ k, lgt t k = some w → (k, w) ∈ lv_args 0 vs) → v.category = 1 → (j, w) ∈ lv_args 0 (v :: vs) := by
      intro t j hj ht hc
      cases j with
      | zero =>
        simp only [lgt, Option.some.injEq] at hj
        subst hj
        exact List.mem_cons_self
      | succ j =>
        simp only [lv_args]
        rw [if_neg (by omega)]
        exact List.mem_cons_of_mem _ (lv_args_shift 0 vs j w (ht j hj))
    have two : ∀ (t : List (Option Value)) (j : Nat), lgt (some v :: none :: t) j = some w → (∀ k, lgt t k = some w → (k, w) ∈ lv_args 0 vs) → v.category = 2 → (j, w) ∈ lv_args 0 (v :: vs) := by
      intro t j hj ht hc
      match j, hj with
      | 0, hj =>
        simp only [lgt, Option.some.injEq] at hj
        subst hj
        exact List.mem_cons_self
      | 1, hj => simp [lgt] at hj
      | j + 2, hj =>
        simp only [lv_args]
        rw [if_pos hc]
        exact List.mem_cons_of_mem _ (lv_args_shift 1 vs (j + 1) w (lv_args_shift 0 vs j w (ht j hj)))
    cases v with
    | long x => exact two _ j h (fun k hk => ih _ k w hk) rfl
    | double x => exact two _ j h (fun k hk => ih _ k w hk) rfl
    | int x => exact one _ j h (fun k hk => ih _ k w hk) rfl
    | float x => exact one _ j h (fun k hk => ih _ k w hk) rfl
    | null => exact one _ j h (fun k hk => ih _ k w hk) rfl
    | ref x => exact one _ j h (fun k hk => ih _ k w hk) rfl
    | retAddr x => exact one _ j h (fun k hk => ih _ k w hk) rfl
theorem lv_args_map (b : Nat) (vs : List Value) : ∀ (i j : Nat) (w : Value), (j, w) ∈ lv_args i vs → (j, gv b w) ∈ lv_args i (vs.map (gv b)) := by
  induction vs with
  | nil => intro i j w h; cases h
  | cons v vs ih =>
    intro i j w h
    simp only [lv_args, List.map_cons] at h ⊢
    rcases List.mem_cons.mp h with e | h
    · cases e
      exact List.mem_cons_self
    · rw [gv_cat]
      exact List.mem_cons_of_mem _ (ih _ j w h)
theorem lg_sl_map (b : Nat) (vs : List Value) : (lg_sl (vs.map (gv b))).length = (lg_sl vs).length := by
  induction vs with
  | nil => rfl
  | cons v vs ih =>
    simp only [lg_sl, List.map_cons, List.flatMap_cons, List.length_append, gv_cat] at ih ⊢
    rw [ih]
    by_cases h : v.category = 2
    · rw [if_pos h, if_pos h]
      rfl
    · rw [if_neg h, if_neg h]
      rfl
theorem ret_of_go {E : gE} {y : MethodName} {cc : ByteArray} {nL : Nat} {ret : Option FieldType} {d mc ms : Nat} {as : List Value} {h : gH} {Q : Option Value → gH → Prop} {L : List (Option Value)} (hy : plainName y.cls = true) (hn : (lg_sl as).length ≤ nL) (hL : largs nL as = L)
    (k : Go E y cc nL ret d 0 0 mc ms 0 L [] h Q) : Ret E y cc nL ret d mc ms as h Q := by
  refine Met.ofW (cc := cc) (maxL := nL) (ret := ret) hy rfl ?_
  intro p e s m args below meth c s₁ B hml hv
  obtain ⟨rfl, hK, hb, hP⟩ := hv
  have hl := lv_entry (as.map (gv E.2.2.2)) (n := nL) (by rw [lg_sl_map]; exact hn)
  rw [lg_entry_eq]
  generalize (lg_sl (as.map (gv E.2.2.2)) ++ List.replicate (nL - (lg_sl (as.map (gv E.2.2.2))).length) Slot.unset).toArray = ls at hl ⊢
  refine k p e s m _ below meth c s.heap [] ls ⟨B.exec, B.bytes, hml, B.returns, B.notSynchronized, findClass_of_methodNamed B.named, (name_of_methodNamed B.named B.method).1, hK, hb⟩ hP (fun q hq => by cases hq) ⟨hl.1, hl.2.1, fun i v hi => ?_⟩
  subst hL
  exact hl.2.2 (i, gv E.2.2.2 v) (lv_args_map _ _ _ _ _ (largs_in as nL i v hi))
