/-! What a state of each class is: cells at addresses, and a value of functions on places -/
abbrev WV : Type := (Nat → Int32) × (Nat → Int32)
abbrev SV : Type := (Nat → Int32) × WV × (Nat → Int32) × (Nat → Int32)
abbrev TV : Type := (Nat → Int32) × (Nat → Int32) × (Nat → Int32) × (Nat → Int32)
abbrev QV2 : Type := (Nat → Int32) × (Nat → Int32)
abbrev MV : Type := (Nat → Int32) × (Nat → Int32) × (Nat → Int32) × (Nat → Int32) × (Nat → Int32) × (Nat → Int32) × (Nat → Int32)
abbrev wAr (T : TT) (a : Nat) (N : Nat) (f : Nat → Int32) : va_W := [(a, .inl (T.2.1, N, .inl f))]
abbrev wWr (T : TT) (w h : Nat) (v : WV) : va_W := [(w, .inr (3, [.ref h, .int (v.1 0), .int (v.1 1), .int (v.1 2)])), (h, .inl (T.2.1, 12, .inl v.2))]
abbrev wSt (T : TT) (a w h k n : Nat) (u : SV) : va_W := [(a, .inr (2, [.ref w, .ref k, .ref n, .int (u.1 0), .int (u.1 1), .int (u.1 2), .int (u.1 3), .int (u.1 4), .int (u.1 5), .int (u.1 6), .int (u.1 7)])), (w, .inr (3, [.ref h, .int (u.2.1.1 0), .int (u.2.1.1 1), .int (u.2.1.1 2)])), (h, .inl (T.2.1, 12, .inl u.2.1.2)), (k, .inl (T.2.1, 12, .inl u.2.2.1)), (n, .inl (T.2.1, 5, .inl u.2.2.2))]
abbrev wTx (T : TT) (t c k v : Nat) (u : TV) : va_W := [(t, .inr (0, [.ref c, .ref k, .ref v, .int (u.1 0), .int (u.1 1), .int (u.1 2), .int (u.1 3)])), (c, .inl (T.2.2.1, 60, .inl u.2.1)), (k, .inl (T.2.1, 60, .inl u.2.2.1)), (v, .inl (T.2.1, 60, .inl u.2.2.2))]
abbrev wMa (T : TT) (x al : Nat) (rs : List Value) (a : Nat → Int32) : va_W := [(x, .inr (5, .ref al :: rs)), (al, .inl (T.2.1, 37, .inl a))]
abbrev wMt (T : TT) (x te : Nat) (o0 o1 o2 o3 o4 o5 o6 o11 : Value) (q : QV2) : va_W := [(x, .inr (5, [o0, o1, o2, o3, o4, o5, o6, .ref te, .int (q.1 0), .int (q.1 1), .int (q.1 2), o11])), (te, .inl (T.2.1, 60, .inl q.2))]
abbrev wMo (T : TT) (x al ke tr hi sn te : Nat) (u : MV) : va_W := [(x, .inr (5, [.ref al, .ref ke, .ref tr, .ref hi, .int (u.1 0), .ref sn, .int (u.1 1), .ref te, .int (u.1 2), .int (u.1 3), .int (u.1 4), .int (u.1 5)])), (al, .inl (T.2.1, 37, .inl u.2.1)), (ke, .inl (T.2.1, 37, .inl u.2.2.1)), (tr, .inl (T.2.1, 37, .inl u.2.2.2.1)), (hi, .inl (T.2.1, 148, .inl u.2.2.2.2.1)), (sn, .inl (T.2.1, 37, .inl u.2.2.2.2.2.1)), (te, .inl (T.2.1, 60, .inl u.2.2.2.2.2.2))]
theorem vin_of {i N : Int32} {n : Nat} (h1 : ¬ i < 0) (h2 : ¬ N ≤ i) (hN : N.toInt = (n : Int)) : vp_in i n := by
  rw [vp_in_iff]
  rw [Int32.lt_iff_toInt_lt] at h1
  rw [Int32.le_iff_toInt_le, hN] at h2
  have h0 : (0 : Int32).toInt = 0 := by decide
  rw [h0] at h1
  omega
theorem vin_c {i : Int32} {n : Nat} (h : decide (¬ (i < 0 ∨ n ≤ i.toNatClampNeg)) = true) : vp_in i n := (show ¬ (i < 0 ∨ n ≤ i.toNatClampNeg) from of_decide_eq_true h)
theorem fit_low_tab {T : TT} {X : CX} {own : String} {nL : Nat} {Ts : List Cond} {cc : ByteArray} {ret : Option FieldType} {R : Room} (hX : Fit T X own nL Ts cc ret R) : sTab "LOWEST" 7 fLow (xB X) (xS X) := hX.2.2.2.2.2.2.2.2.1.2.1
theorem fit_high_tab {T : TT} {X : CX} {own : String} {nL : Nat} {Ts : List Cond} {cc : ByteArray} {ret : Option FieldType} {R : Room} (hX : Fit T X own nL Ts cc ret R) : sTab "HIGHEST" 7 fHigh (xB X) (xS X) := hX.2.2.2.2.2.2.2.2.1.2.2.1
theorem nlt_of {j c : Nat} {C : Int32} (h : ¬ C ≤ nI j) (hC : C.toInt = (c : Int)) (hj : j < 2 ^ 31) : j < c := by
  rw [Int32.le_iff_toInt_le, hC, nI_toInt hj] at h
  omega
theorem ixc (c j : Nat) (h : c + j < 2 ^ 31) : (nI c + nI j).toNatClampNeg = c + j := by rw [nI_add]; exact nI_clamp h
theorem vinc (c j n : Nat) (h : c + j < n) (hn : n < 2 ^ 31) : vp_in (nI c + nI j) n := by rw [nI_add]; exact vp_in_nI h hn
theorem lt_of_n {j c : Nat} {C : Int32} (h : nI j < C) (hC : C.toInt = (c : Int)) (hj : j < 2 ^ 31) : j < c := by
  rw [Int32.lt_iff_toInt_lt, hC, nI_toInt hj] at h
  omega
theorem le_of_n {j c : Nat} {C : Int32} (h : nI j ≤ C) (hC : C.toInt = (c : Int)) (hj : j < 2 ^ 31) : j ≤ c := by
  rw [Int32.le_iff_toInt_le, hC, nI_toInt hj] at h
  omega
theorem nle_of {j c : Nat} {C : Int32} (h : ¬ C < nI j) (hC : C.toInt = (c : Int)) (hj : j < 2 ^ 31) : j ≤ c := by
  rw [Int32.lt_iff_toInt_lt, hC, nI_toInt hj] at h
  omega
theorem nlt_p {j c : Nat} {p : Int32} (h : ¬ p ≤ nI j) (hp : p.toInt ≤ (c : Int)) (hj : j < 2 ^ 31) : j < c := by
  rw [Int32.le_iff_toInt_le, nI_toInt hj] at h
  omega
theorem nle_p {j c : Nat} {p : Int32} (h : ¬ p < nI j) (hp : p.toInt ≤ (c : Int)) (hj : j < 2 ^ 31) : j ≤ c := by
  rw [Int32.lt_iff_toInt_lt, nI_toInt hj] at h
  omega
theorem narrow_b {x : Int32} (h : x = 0 ∨ x = 1) : narrow .boolean (.int x) = .int x := by
  rcases h with h | h <;> rw [h] <;> rfl
theorem vin_lt {i N : Int32} {n : Nat} (h1 : ¬ i < 0) (h2 : i < N) (hN : N.toInt = (n : Int)) : vp_in i n := by
  rw [vp_in_iff]
  rw [Int32.lt_iff_toInt_lt] at h1 h2
  have h0 : (0 : Int32).toInt = 0 := by decide
  rw [h0] at h1
  rw [hN] at h2
  omega
section GF
variable {T : TT} {X : CX} {own : String} {nL : Nat} {Ts : List Cond} {cc : ByteArray} {ret : Option FieldType} {R : Room} {Q : State → Prop} {cells slots : Nat} {ws : va_W} {lv : List (Nat × Value)} {pc : Nat} {st : List Value}
def fHas (T : TT) (X : CX) (t : Nat) : Prop := fCell T t (xS X).heap ∧ t < xB X
theorem fHas_T (hX : Fit T X own nL Ts cc ret R) {t : Nat} (hF : fHas T X t) : va_T .int t 5 (fun j => .int (fFirst j)) (xA X) (xS X) (xS X).heap := by
  obtain ⟨⟨cell, c1, c2, c3, c4, c5⟩, h2⟩ := hF
  have hn : ¬ xA X t := fun z => by
    have := hX.2.2.2.2.2.2.2.2.2.1 t z
    omega
  have h3 := ((hX.2.2.2.2.2.1.2 0 (T.2.1, .int) rfl).1 0 (fun _ => .null)).2
  refine ⟨cell, c1, ⟨c4, ?_⟩, c5, ?_, ?_, fun j hj => ?_, hn⟩
  · rw [c2]
    exact h3
  · rw [c3, arrV_size]
    exact Nat.le_refl _
  · rw [c3, arrV_size]
  · rw [c3, arrV_read _ _ hj]
theorem g_first (hX : Fit T X own nL Ts cc ret R) {index : Nat} (nk : Nat) {host : String} (hlink : nws[nk]? = some (Cond.fieldLinkNest own index RX4 "FIRST_NUMBERS" "[I" host)) (hdg : decode cc pc = .ok (.getstatic index, 3)) (k : ∀ t : Nat, fHas T X t → G T X Q cells slots ws lv (pc + 3) (.ref t :: st)) : G T X Q cells slots ws lv pc st := by
  obtain ⟨t, h1, h2, h3⟩ := hX.2.2.2.2.2.2.2.2.1.2.2.2
  intro H locs ls hP hD hS hl
  exact va_getsN hX.1 hX.2.1 (h1.narrow hX.2.2.2.2.2.2.2.2.2.1) hS hX.2.2.2.1 (va_Nw.use rfl (hX.2.2.2.2.2.2.2.2.1.1 _ (List.mem_of_getElem? hlink))) (fun _ h9 => h9) hdg (k t ⟨h2, h3.1⟩ H locs ls hP hD hS hl)
theorem g_flen (hX : Fit T X own nL Ts cc ret R) {t : Nat} (hF : fHas T X t) (hdg : decode cc pc = .ok (.arraylength, 1)) (k : G T X Q cells slots ws lv (pc + 1) (.int 5 :: st)) : G T X Q cells slots ws lv pc (.ref t :: st) := g_tlen hX (fHas_T hX hF) (v := 5) rfl hdg k
end GF
theorem fits_b {x : Int32} (h : x = 0 ∨ x = 1) : fits .boolean (.int x) = true := by
  rcases h with h | h <;> rw [h] <;> rfl
theorem ix0 (j : Nat) (h : j < 2 ^ 31) : ((0 : Int32) + nI j).toNatClampNeg = j := by
  rw [Int32.zero_add]
  exact nI_clamp h
