theorem retI {E : gE} {y : MethodName} {cc : ByteArray} {nL : Nat} {ret : Option FieldType} {d mc ms : Nat} {as : List Value} {h h1 h2 : gH} {r r2 : Int32} (hR : Ret E y cc nL ret d mc ms as h (dt (some (.int r)) h1)) (e1 : r = r2) (e2 : h1 = h2) : Ret E y cc nL ret d mc ms as h (dt (some (.int r2)) h2) := by
  subst e1
  subst e2
  exact hR
theorem retL {E : gE} {y : MethodName} {cc : ByteArray} {nL : Nat} {ret : Option FieldType} {d mc ms : Nat} {as : List Value} {h h1 h2 : gH} {r r2 : Int64} (hR : Ret E y cc nL ret d mc ms as h (dt (some (.long r)) h1)) (e1 : r = r2) (e2 : h1 = h2) : Ret E y cc nL ret d mc ms as h (dt (some (.long r2)) h2) := by
  subst e1
  subst e2
  exact hR
theorem b_cases (b : Bool) : b = true ∨ b = false := by cases b <;> simp
set_option maxRecDepth 100000 in
set_option maxHeartbeats 4000000 in
theorem op_person {p q t : Int32} : OpI yX8_person cX8_person 4 yX9_person cX9_person 4 [.int p, .int q, .int t] := by
  intro E h ⟨th, s, c, O, F2, we, ss, ke, i0, i1, S, lv, pl, mt, nt, zbk, znw, zta, zwe, zsg, zsd, zfo, zre, zma, zba, zbe, zev, zac, zwr, zsl, zwy, zim, zke, e, hR⟩
  subst e
  obtain ⟨⟨ht, hs8, hFR, hFI, hta, hwm, hwo, hsg, hss⟩, hc, hpl, hn1, hn2, hI0, hI1⟩ := id hR
  rcases b_cases (isInB p 0 5) with h1 | h1
  · rcases b_cases (isInB q 0 400) with h2 | h2
    · rcases b_cases (isInB t 0 9) with h3 | h3
      · obtain ⟨k, -, hk, rfl⟩ := inB_nat (a := 0) (b := 5) (by decide) h1 (by decide)
        obtain ⟨x, -, hx, rfl⟩ := inB_nat (a := 0) (b := 400) (by decide) h2 (by decide)
        obtain ⟨y, -, hy, rfl⟩ := inB_nat (a := 0) (b := 9) (by decide) h3 (by decide)
        have hk6 : k < 6 := by omega
        have ob := or_bit th ht k hk6
        have eF : enterF (nI th, F2) k (nI x) (nI y) = (nI (th ||| 2 ^ k), (F2.1, upd F2.2.1 k (nI x), upd F2.2.2.1 k (nI y), F2.2.2.2)) := by
          show (nI th ||| _, _) = _
          rw [ob.1]
        have hI2 := hFI.enter ht hk6 (s := nI x) (t := nI y) (by rw [nI_toInt (by omega)]; omega) (by rw [nI_toInt (by omega)]; omega)
        have htl : ∀ p, p < 6 → tb (th ||| 2 ^ k) p = true → upd zta k (nI y) p = upd F2.2.2.1 k (nI y) p := by
          intro p hp6 hpt
          by_cases e : p = k
          · subst e; rw [upd_s, upd_s]
          · rw [or_tb th ht k hk6 p hp6, decide_eq_false e, Bool.or_false] at hpt
            rw [upd_n _ _ e, upd_n _ _ e]
            exact hta p hp6 hpt
        rw [eF] at hI2
        rcases b_cases (tb th k) with h4 | h4
        · have hF2 := hFR.enter ht hk6 h4 (s := nI x) (t := nI y)
          rw [eF] at hF2
          exact ⟨nI (pcN (th ||| 2 ^ k)), _, retI (rX8_person_4 hk6 h2 h3) (by show bcF (nI th ||| _) = _; rw [ob.1, bc_pc _ (by omega)]) (by rw [eF]), is_hp, ret_conseq (rX9_person_4 (m := (zbk, znw, (nI th), zta, zwe, (nI s), zsg, (nI c), S, zsd, zfo, zre, zma, zba, zbe, zev, zac, zwr, zsl, zwy, zim, zke)) ht hk6 h2 h3 h4) (fun r g z => ⟨z.1, by rw [z.2]; exact relH_mk (zbk := upd zbk k (nI x)) (zta := upd zta k (nI y)) ⟨⟨ob.2, hs8, hF2, hI2, htl, hwm, hwo, hsg, hss⟩, hc, hpl, hn1, hn2, hI0, hI1⟩⟩)⟩
        · have hF2 := hFR.enter2 ht hk6 hFI h4 (s := nI x) (t := nI y)
          rw [eF] at hF2
          exact ⟨nI (pcN (th ||| 2 ^ k)), _, retI (rX8_person_4 hk6 h2 h3) (by show bcF (nI th ||| _) = _; rw [ob.1, bc_pc _ (by omega)]) (by rw [eF]), is_hp, ret_conseq (rX9_person_5 (m := (zbk, znw, (nI th), zta, zwe, (nI s), zsg, (nI c), S, zsd, zfo, zre, zma, zba, zbe, zev, zac, zwr, zsl, zwy, zim, zke)) ht hk6 h2 h3 h4) (fun r g z => ⟨z.1, by rw [z.2]; exact relH_mk (zbk := upd (upd (upd zbk (6 + k) 0) (12 + k) 0) k (nI x)) (zta := upd zta k (nI y)) ⟨⟨ob.2, hs8, hF2, hI2, htl, hwm, hwo, hsg, hss⟩, hc, hpl, hn1, hn2, hI0, hI1⟩⟩)⟩
      · exact ⟨_, _, rX8_person_3 h1 h2 h3, is_hp, ret_conseq (rX9_person_3 h1 h2 h3) (fun r g q => ⟨q.1, by rw [q.2]; exact relH_mk hR⟩)⟩
    · exact ⟨_, _, rX8_person_2 h1 h2, is_hp, ret_conseq (rX9_person_2 h1 h2) (fun r g q => ⟨q.1, by rw [q.2]; exact relH_mk hR⟩)⟩
  · exact ⟨_, _, rX8_person_1 h1, is_hp, ret_conseq (rX9_person_1 h1) (fun r g q => ⟨q.1, by rw [q.2]; exact relH_mk hR⟩)⟩
set_option maxRecDepth 100000 in
set_option maxHeartbeats 4000000 in
theorem op_die {p : Int32} : OpI yX8_die cX8_die 2 yX9_die cX9_die 3 [.int p] := by
  intro E h ⟨th, s, c, O, F2, we, ss, ke, i0, i1, S, lv, pl, mt, nt, zbk, znw, zta, zwe, zsg, zsd, zfo, zre, zma, zba, zbe, zev, zac, zwr, zsl, zwy, zim, zke, e, hR⟩
  subst e
  obtain ⟨⟨ht, hs8, hFR, hFI, hta, hwm, hwo, hsg, hss⟩, hc, hpl, hn1, hn2, hI0, hI1⟩ := id hR
  rcases b_cases (hasB (nI th) p) with h1 | h1
  · obtain ⟨k, hk6, rfl⟩ := has_nI h1
    have ob := and_bit th ht k hk6
    have eF : leaveF (nI th, F2) k = (nI (th &&& (63 ^^^ 2 ^ k)), (F2.1, upd F2.2.1 k 0, upd F2.2.2.1 k 0, upd F2.2.2.2.1 k 0, upd F2.2.2.2.2.1 k 0, leaveD F2.2.2.2.2.2 k 6)) := by
      show (nI th &&& _, _) = _
      rw [ob.1]
    have hI2 := hFI.leave ht hk6
    have hF2 := hFR.leave ht hk6
    rw [eF] at hI2 hF2
    have htl : ∀ p, p < 6 → tb (th &&& (63 ^^^ 2 ^ k)) p = true → zta p = upd F2.2.2.1 k 0 p := by
      intro p hp6 hpt
      rw [and_tb th ht k hk6 p hp6] at hpt
      have e : ¬ p = k := by intro e; rw [decide_eq_true e] at hpt; simp at hpt
      rw [decide_eq_false e] at hpt
      rw [upd_n _ _ e]
      exact hta p hp6 (by simpa using hpt)
    exact ⟨nI (pcN (th &&& (63 ^^^ 2 ^ k))), _, retI (rX8_die_2 hk6 h1) (by show bcF (nI th &&& _) = _; rw [ob.1, bc_pc _ (by omega)]) (by rw [eF]), is_hp, ret_conseq (rX9_die_2 (m := (zbk, znw, (nI th), zta, zwe, (nI s), zsg, (nI c), S, zsd, zfo, zre, zma, zba, zbe, zev, zac, zwr, zsl, zwy, zim, zke)) ht hk6 h1) (fun r g z => ⟨z.1, by rw [z.2]; exact relH_mk (zbk := dieB zbk k 6) ⟨⟨ob.2, hs8, hF2, hI2, htl, hwm, hwo, hsg, hss⟩, hc, hpl, hn1, hn2, hI0, hI1⟩⟩)⟩
  · exact ⟨_, _, rX8_die_1 h1, is_hp, ret_conseq (rX9_die_1 h1) (fun r g q => ⟨q.1, by rw [q.2]; exact relH_mk hR⟩)⟩
set_option maxRecDepth 100000 in
set_option maxHeartbeats 4000000 in
theorem op_weight {p v : Int32} : OpI yX8_weight cX8_weight 4 yX9_weight cX9_weight 5 [.int p, .int v] := by
  intro E h ⟨th, s, c, O, F2, we, ss, ke, i0, i1, S, lv, pl, mt, nt, zbk, znw, zta, zwe, zsg, zsd, zfo, zre, zma, zba, zbe, zev, zac, zwr, zsl, zwy, zim, zke, e, hR⟩
  subst e
  obtain ⟨⟨ht, hs8, hFR, hFI, hta, hwm, hwo, hsg, hss⟩, hc, hpl, hn1, hn2, hI0, hI1⟩ := id hR
  rcases b_cases (isInB p 1 9) with h1 | h1
  · rcases b_cases (isInB v 0 9) with h2 | h2
    · obtain ⟨k, hk1, hk9, rfl⟩ := inB_nat (a := 1) (b := 9) (by decide) h1 (by decide)
      obtain ⟨V, -, hV, rfl⟩ := inB_nat (a := 0) (b := 9) (by decide) h2 (by decide)
      obtain ⟨j, rfl⟩ : ∃ j, k = j + 1 := ⟨k - 1, by omega⟩
      obtain ⟨hwo2, hwn⟩ := hwo.cong hwm
      have w1 := weight_ok (j := j) (V := V) hwo (by omega) hV
      have w2 := weight_ok (j := j) (V := V) hwo2 (by omega) hV
      have es : wsumF zwe = wsumF we := by rw [hwo2.sum, hwo.sum]; exact congrArg nI (sumNN_cong 9 hwn)
      rw [es, hwm (j + 1) (by omega)] at w2
      by_cases hst : nI V = 0 ∧ wsumF we = we (j + 1)
      · exact ⟨_, _, rX8_weight_3 hk1 hk9 h2 hst.1 hst.2, is_hp, ret_conseq (rX9_weight_3 hk1 hk9 h2 (w2.1.mpr hst)) (fun r g q => ⟨q.1, by rw [q.2]; exact relH_mk hR⟩)⟩
      · have hR2 : RP th s c O F2 (upd we (j + 1) (nI V)) ss i0 i1 (pl.1, pl.2.1, 0) nt zbk zta (upd zwe (j + 1) (nI V)) zsg zim zke := by
          refine ⟨⟨ht, hs8, hFR, hFI, hta, fun i hi => ?_, w1.2 hst, hsg, hss⟩, hc, hpl.forget, hn1, hn2, hI0, hI1⟩
          by_cases e : i = j + 1
          · subst e; rw [upd_s, upd_s]
          · rw [upd_n _ _ e, upd_n _ _ e, hwm i hi]
        have h9 : Ret E yX9_weight cX9_weight 5 (some .int) 9 0 0 [.ref 52, .int (nI (j + 1)), .int (nI V)] (hp ((nI th, F2), upd we (j + 1) (nI V), (fun i => nI (O i)), ss, nI s, ke) i0 i1 (S, nI c) lv (pl.1, pl.2.1, 0) mt nt (zbk, znw, (nI th), zta, zwe, (nI s), zsg, (nI c), S, zsd, zfo, zre, zma, zba, zbe, zev, zac, zwr, zsl, zwy, zim, zke)) (fun r2 h2 => r2 = some (.int (we (j + 1))) ∧ RelH h2) :=
          ret_conseq (rX9_weight_4 hk1 hk9 h2 (fun z => hst (w2.1.mp z))) (fun r g z => ⟨by rw [z.1]; exact congrArg (fun q => some (Value.int q)) (hwm (j + 1) (by omega)), by rw [z.2]; exact relH_mk hR2⟩)
        by_cases hv0 : nI V = 0
        · exact ⟨_, _, rX8_weight_4 hk1 hk9 h2 hv0 (fun z => hst ⟨hv0, z⟩), is_hp, h9⟩
        · exact ⟨_, _, rX8_weight_5 hk1 hk9 h2 hv0, is_hp, h9⟩
    · exact ⟨_, _, rX8_weight_2 h1 h2, is_hp, ret_conseq (rX9_weight_2 h1 h2) (fun r g q => ⟨q.1, by rw [q.2]; exact relH_mk hR⟩)⟩
  · exact ⟨_, _, rX8_weight_1 h1, is_hp, ret_conseq (rX9_weight_1 h1) (fun r g q => ⟨q.1, by rw [q.2]; exact relH_mk hR⟩)⟩
set_option maxRecDepth 100000 in
set_option maxHeartbeats 4000000 in
theorem op_say {x : Int32} : OpI yX8_say cX8_say 2 yX9_say cX9_say 2 [.int x] := by
  intro E h ⟨th, s, c, O, F2, we, ss, ke, i0, i1, S, lv, pl, mt, nt, zbk, znw, zta, zwe, zsg, zsd, zfo, zre, zma, zba, zbe, zev, zac, zwr, zsl, zwy, zim, zke, e, hR⟩
  subst e
  obtain ⟨⟨ht, hs8, hFR, hFI, hta, hwm, hwo, hsg, hss⟩, hc, hpl, hn1, hn2, hI0, hI1⟩ := id hR
  rcases b_cases (isInB x 33 126) with h1 | h1
  · by_cases h60 : c = 60
    · exact ⟨_, _, rX8_say_2 h1 h60, is_hp, ret_conseq (rX9_say_2 (m := (zbk, znw, (nI th), zta, zwe, (nI s), zsg, (nI c), S, zsd, zfo, zre, zma, zba, zbe, zev, zac, zwr, zsl, zwy, zim, zke)) h1 h60) (fun r g q => ⟨q.1, by rw [q.2]; exact relH_mk hR⟩)⟩
    · have hlt : c < 60 := by omega
      exact ⟨_, _, rX8_say_3 h1 hlt, is_hp, ret_conseq (rX9_say_3 (m := (zbk, znw, (nI th), zta, zwe, (nI s), zsg, (nI c), S, zsd, zfo, zre, zma, zba, zbe, zev, zac, zwr, zsl, zwy, zim, zke)) h1 hlt) (fun r g z => ⟨z.1, by rw [z.2]; exact relH_mk (c := c + 1) (S := upd S c x) ⟨⟨ht, hs8, hFR, hFI, hta, hwm, hwo, hsg, hss⟩, by omega, hpl, hn1, hn2, hI0, hI1⟩⟩)⟩
  · exact ⟨_, _, rX8_say_1 h1, is_hp, ret_conseq (rX9_say_1 h1) (fun r g q => ⟨q.1, by rw [q.2]; exact relH_mk hR⟩)⟩
set_option maxRecDepth 100000 in
set_option maxHeartbeats 4000000 in
theorem op_wipe  : OpI yX8_wipe cX8_wipe 2 yX9_wipe cX9_wipe 2 [] := by
  intro E h ⟨th, s, c, O, F2, we, ss, ke, i0, i1, S, lv, pl, mt, nt, zbk, znw, zta, zwe, zsg, zsd, zfo, zre, zma, zba, zbe, zev, zac, zwr, zsl, zwy, zim, zke, e, hR⟩
  subst e
  obtain ⟨⟨ht, hs8, hFR, hFI, hta, hwm, hwo, hsg, hss⟩, hc, hpl, hn1, hn2, hI0, hI1⟩ := id hR
  exact ⟨_, _, rX8_wipe_1, is_hp, ret_conseq (rX9_wipe_1 (m := (zbk, znw, (nI th), zta, zwe, (nI s), zsg, (nI c), S, zsd, zfo, zre, zma, zba, zbe, zev, zac, zwr, zsl, zwy, zim, zke))) (fun r g z => ⟨z.1, by rw [z.2]; exact relH_mk (c := 0) ⟨⟨ht, hs8, hFR, hFI, hta, hwm, hwo, hsg, hss⟩, by omega, hpl, hn1, hn2, hI0, hI1⟩⟩)⟩
set_option maxRecDepth 100000 in
set_option maxHeartbeats 4000000 in
theorem op_fault  : OpI yX8_fault cX8_fault 1 yX9_fault cX9_fault 1 [] := by
  intro E h ⟨th, s, c, O, F2, we, ss, ke, i0, i1, S, lv, pl, mt, nt, zbk, znw, zta, zwe, zsg, zsd, zfo, zre, zma, zba, zbe, zev, zac, zwr, zsl, zwy, zim, zke, e, hR⟩
  subst e
  obtain ⟨⟨ht, hs8, hFR, hFI, hta, hwm, hwo, hsg, hss⟩, hc, hpl, hn1, hn2, hI0, hI1⟩ := id hR
  exact ⟨_, _, rX8_fault_1 hc, is_hp, ret_conseq (rX9_fault_1 (m := (zbk, znw, (nI th), zta, zwe, (nI s), zsg, (nI c), S, zsd, zfo, zre, zma, zba, zbe, zev, zac, zwr, zsl, zwy, zim, zke)) hc) (fun r g q => ⟨q.1, by rw [q.2]; exact relH_mk hR⟩)⟩
