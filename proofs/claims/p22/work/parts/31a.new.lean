/-! Both objects new: one state, which is well; what the Statement gives of the statics -/
theorem xWF_new : xWF xv0 := ⟨Or.inl (by decide +kernel), Or.inl (by decide +kernel), Or.inl (by decide +kernel), fun j _ => Or.inl (by show u0.1 2 = 0; decide +kernel), 0, by omega, by decide +kernel⟩
theorem NU_new : NU fFirst := fun j hj => by
  rcases (show j = 0 ∨ j = 1 ∨ j = 2 ∨ j = 3 ∨ j = 4 by omega) with rfl | rfl | rfl | rfl | rfl
  · exact ⟨5, by decide, by decide, rfl⟩
  · exact ⟨3, by decide, by decide, rfl⟩
  · exact ⟨0, by decide, by decide, rfl⟩
  · exact ⟨10, by decide, by decide, rfl⟩
  · exact ⟨60, by decide, by decide, rfl⟩
theorem Well_new : Well 0 u0 := ⟨fun _ => 0, fun _ => 0, 0, 5000, 0, ⟨fun j _ => ⟨Nat.zero_le _, rfl⟩, rfl, rfl, rfl, by omega⟩, fun j _ => ⟨rfl, Nat.zero_le _, Or.inl rfl⟩, NU_new, ⟨rfl, by omega⟩, ⟨rfl, by omega⟩, Or.inl rfl, Or.inl ⟨rfl, rfl, rfl, rfl⟩⟩
theorem Inv_new : Inv 0 xv0 xv0 := ⟨xWF_new, xWF_new, rfl, Well_new⟩
theorem nK_tab {w : Cond} (hk : nK w = true) : w.onTables = true := by
  cases w <;> first
    | rfl
    | (exact absurd hk (by decide))
    | (simp [nK] at hk)
/-- a length that the Statement gives is the row's very size -/
theorem len_exact {args : Array Value} {s : State} {t : Term} {N : Nat} (hN : N < 2 ^ 31) (h : (Term.length t).eval args s none [] s = some (.int (Int32.ofNat N))) : ∃ (a : Nat) (cell : Cell), t.eval args s none [] s = some (.ref a) ∧ s.arrayAt? a = some cell ∧ cell.slots.size = N := by
  simp only [Term.eval, Option.bind_eq_bind] at h
  cases ht : t.eval args s none [] s with
  | none => simp [ht] at h
  | some x =>
    cases x <;> simp [ht] at h
    case ref a =>
      obtain ⟨cell, hcell, h⟩ := Option.bind_eq_some_iff.mp h
      by_cases hn : cell.slots.size < 2147483648
      · rw [if_pos hn] at h
        have e : Int32.ofNat cell.slots.size = Int32.ofNat N := by
          have h2 := Option.some.inj h
          exact Value.int.inj h2
        have e2 := congrArg Int32.toNatClampNeg e
        rw [Int32.toNatClampNeg_ofNat_of_lt hn, Int32.toNatClampNeg_ofNat_of_lt hN] at e2
        exact ⟨a, cell, rfl, hcell, e2⟩
      · rw [if_neg hn] at h; cases h
section EN
variable {args : Array Value} {s : State}
abbrev st1 (n : String) : Term := .static RX4 n "[I"
theorem tab_new (hts : ∀ w ∈ lw_tbl, w.before args s = true) {n : String} {N : Nat} {f : Nat → Value} (hN : N < 2 ^ 31) (hl : Cond.laysStatic RX4 n "[I" ∈ lw_tbl) (harr : (Cond.arrayOf (st1 n) .int).before args s = true) (hlen : (Term.length (st1 n)).eval args s none [] s = some (.int (Int32.ofNat N))) (hel : ∀ j : Nat, j < N → (Term.elem (st1 n) (.int (Int32.ofNat j))).eval args s none [] s = some (f j)) : sTab n N f s.heap.size s := by
  have hA : ∀ a : Nat, a < s.heap.size → ¬ (fun q : Nat => s.heap.size ≤ q) a := fun a h => Nat.not_le.mpr h
  obtain ⟨t, ht, h2⟩ := va_Tof (tm := st1 n) (A := fun q : Nat => s.heap.size ≤ q) hN harr hlen hel hA
  exact ⟨t, va_Zof (hts _ hl) (hts _ ini4_in) ht hA, h2⟩
set_option maxHeartbeats 4000000 in
set_option maxRecDepth 100000 in
theorem low_new (hts : ∀ w ∈ lw_tbl, w.before args s = true) (hgv : (Jvm.Cond.and given_1 narrow_1).before args s = true) : sTab "LOWEST" 7 fLow s.heap.size s := by
  have hs := flat_of_before _ hgv
  refine tab_new hts (by omega) st_LOWEST_in (hs _ (by decide +kernel)) (va_eqt (z := 7) (hs _ (by decide +kernel))) (fun j hj => ?_)
  rcases (show j = 0 ∨ j = 1 ∨ j = 2 ∨ j = 3 ∨ j = 4 ∨ j = 5 ∨ j = 6 by omega) with rfl | rfl | rfl | rfl | rfl | rfl | rfl
  · exact va_eqt (z := 1) (hs _ (by decide +kernel))
  · exact va_eqt (z := 0) (hs _ (by decide +kernel))
  · exact va_eqt (z := 0) (hs _ (by decide +kernel))
  · exact va_eqt (z := 5) (hs _ (by decide +kernel))
  · exact va_eqt (z := 10) (hs _ (by decide +kernel))
  · exact va_eqt (z := 1) (hs _ (by decide +kernel))
  · exact va_eqt (z := 1) (hs _ (by decide +kernel))
set_option maxHeartbeats 4000000 in
set_option maxRecDepth 100000 in
theorem high_new (hts : ∀ w ∈ lw_tbl, w.before args s = true) (hgv : (Jvm.Cond.and given_1 narrow_1).before args s = true) : sTab "HIGHEST" 7 fHigh s.heap.size s := by
  have hs := flat_of_before _ hgv
  refine tab_new hts (by omega) st_HIGHEST_in (hs _ (by decide +kernel)) (va_eqt (z := 7) (hs _ (by decide +kernel))) (fun j hj => ?_)
  rcases (show j = 0 ∨ j = 1 ∨ j = 2 ∨ j = 3 ∨ j = 4 ∨ j = 5 ∨ j = 6 by omega) with rfl | rfl | rfl | rfl | rfl | rfl | rfl
  · exact va_eqt (z := 11) (hs _ (by decide +kernel))
  · exact va_eqt (z := 9) (hs _ (by decide +kernel))
  · exact va_eqt (z := 5) (hs _ (by decide +kernel))
  · exact va_eqt (z := 50) (hs _ (by decide +kernel))
  · exact va_eqt (z := 99) (hs _ (by decide +kernel))
  · exact va_eqt (z := 500) (hs _ (by decide +kernel))
  · exact va_eqt (z := 9999) (hs _ (by decide +kernel))
set_option maxHeartbeats 4000000 in
set_option maxRecDepth 100000 in
theorem first_new (hts : ∀ w ∈ lw_tbl, w.before args s = true) (hgv : (Jvm.Cond.and given_1 narrow_1).before args s = true) {T : TT} (hcI : s.vm.findClass "[I" = some T.2.1) : sFirst T s.heap.size s := by
  have hs := flat_of_before _ hgv
  have hA : ∀ a : Nat, a < s.heap.size → ¬ (fun q : Nat => s.heap.size ≤ q) a := fun a h => Nat.not_le.mpr h
  have hlen : (Term.length (st1 "FIRST_NUMBERS")).eval args s none [] s = some (.int (Int32.ofNat 5)) := va_eqt (z := 5) (hs _ (by decide +kernel))
  have hel : ∀ j : Nat, j < 5 → (Term.elem (st1 "FIRST_NUMBERS") (.int (Int32.ofNat j))).eval args s none [] s = some (.int (fFirst j)) := by
    intro j hj
    rcases (show j = 0 ∨ j = 1 ∨ j = 2 ∨ j = 3 ∨ j = 4 by omega) with rfl | rfl | rfl | rfl | rfl
    · exact va_eqt (z := 5) (hs _ (by decide +kernel))
    · exact va_eqt (z := 3) (hs _ (by decide +kernel))
    · exact va_eqt (z := 0) (hs _ (by decide +kernel))
    · exact va_eqt (z := 10) (hs _ (by decide +kernel))
    · exact va_eqt (z := 60) (hs _ (by decide +kernel))
  obtain ⟨t, ht, cell, c1, c2, c3, c4, c5, c6, c7⟩ := va_Tof (tm := st1 "FIRST_NUMBERS") (ty := .int) (A := fun q : Nat => s.heap.size ≤ q) (by omega) (hs _ (by decide +kernel)) hlen hel hA
  obtain ⟨t', cell', e1, e2, e3⟩ := len_exact (by omega) hlen
  cases ht.symm.trans e1
  cases c1.symm.trans (State.arrayAt?_spec e2).1
  obtain ⟨t2, cE, cellE, kE, q1, q2, q3, q4, q5, q6, -⟩ := Cond.exactly_spec (args := args) (first := s) (o := none) (s := s) (idx := []) (t := st1 "FIRST_NUMBERS") (cls := "[I") (hs _ (by decide +kernel))
  cases ht.symm.trans q1
  cases c1.symm.trans q3
  refine ⟨t, va_Zof (hts _ st_FIRST_NUMBERS_in) (hts _ ini4_in) ht hA, ⟨cell, c1, ?_, ?_, c2.1, c3⟩, (Array.getElem?_eq_some_iff.mp c1).1, va_Nw.of rfl (hts _ cast_in), va_AO.of (hts _ over_in)⟩
  · rw [q6]
    exact Option.some.inj (q2.symm.trans hcI)
  · apply Array.ext_getElem?
    intro i
    by_cases hi : i < 5
    · rw [c6 i hi, arrV_read _ _ hi]
    · rw [Array.getElem?_eq_none (by omega), Array.getElem?_eq_none (by rw [arrV_size]; omega)]
set_option maxHeartbeats 4000000 in
set_option maxRecDepth 100000 in
theorem env_new (hts : ∀ w ∈ lw_tbl, w.before args s = true) (hgv : (Jvm.Cond.and given_1 narrow_1).before args s = true) : ∃ T : TT, va_K T.1 vwCl (tys T) s ∧ EnvOk T s.heap.size s := by
  obtain ⟨c0, i0, k0⟩ := u_known (C := RX0) (T := TX0) (N := 7) (n := 7) hts inX0 (hts _ inst0_in)
  obtain ⟨c1, i1, k1⟩ := u_known (C := RX1) (T := TX1) (N := 3) (n := 3) hts inX1 (hts _ inst1_in)
  obtain ⟨c2, i2, k2⟩ := u_known (C := RX2) (T := TX2) (N := 11) (n := 11) hts inX2 (hts _ inst2_in)
  obtain ⟨c3, i3, k3⟩ := u_known (C := RX3) (T := TX3) (N := 4) (n := 4) hts inX3 (hts _ inst3_in)
  obtain ⟨c4, i4, k4⟩ := u_known (C := RX4) (T := TX4) (N := 8) (n := 8) hts inX4 (hts _ inst4_in)
  obtain ⟨cI, kI, mI, a1, a2, a3⟩ := Cond.arrayClass_spec (hts _ aInt_in)
  obtain ⟨cC, kC, mC, b1, b2, b3⟩ := Cond.arrayClass_spec (hts _ aChar_in)
  obtain ⟨mS, cS, kS, s1, s2, s3, s4, s5⟩ := Cond.arrayOver_spec (hts _ over_in)
  have a1' : s.vm.findClass "[I" = some cI := (show ("[" ++ (FieldType.int).toString) = "[I" by decide +kernel) ▸ a1
  refine ⟨((fun k => if k = 0 then c0 else if k = 1 then c1 else if k = 2 then c2 else if k = 3 then c3 else c4, fun k => if k = 0 then i0 else if k = 1 then i1 else if k = 2 then i2 else if k = 3 then i3 else i4), cI, cC, cS), ⟨?_, ?_⟩, fun w hw => va_Nw.of (nK_tab (List.all_eq_true.mp nws_all w hw)) (hts w (nws_in w hw)), low_new hts hgv, high_new hts hgv, first_new hts hgv a1'⟩
  · intro k q hq
    match k, hq with
    | 0, hq => cases hq; exact k0
    | 1, hq => cases hq; exact k1
    | 2, hq => cases hq; exact k2
    | 3, hq => cases hq; exact k3
    | 4, hq => cases hq; exact k4
    | k + 5, hq => simp [vwCl] at hq
  · intro k q hq
    match k, hq with
    | 0, hq => cases hq; exact ⟨fun n z => ⟨fun _ h => (by cases h), kI, a2, mI, a3⟩, a1⟩
    | 1, hq => cases hq; exact ⟨fun n z => ⟨fun _ h => (by cases h), kC, b2, mC, b3⟩, b1⟩
    | 2, hq => cases hq; exact ⟨fun n z => ⟨fun _ h => (by cases h), kS, s3, mS, s4⟩, kS, mS, s3, s4, s1, s5⟩
    | k + 3, hq => simp [tys] at hq
end EN
