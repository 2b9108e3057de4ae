/-! Winding, knots, cones, numbers, and taking off, side by side -/
theorem in_val {p : Int32} {lo hi : Int64} {a b : Int} (h1 : lo.toInt = a) (h2 : hi.toInt = b) : F_X5_in (Int32.toInt64 p) lo hi = if a ≤ p.toInt ∧ p.toInt ≤ b then 1 else 0 := by
  have c1 : (lg_cmp (Int32.toInt64 p) lo < 0) ↔ p.toInt < a := by rw [lg_cmp_lt, Int64.lt_iff_toInt_lt, Int32.toInt_toInt64, h1]
  have c2 : (0 < lg_cmp (Int32.toInt64 p) hi) ↔ b < p.toInt := by rw [lg_cmp_gt, Int64.lt_iff_toInt_lt, Int32.toInt_toInt64, h2]
  unfold F_X5_in
  by_cases d1 : p.toInt < a
  · rw [if_pos (c1.mpr d1), if_neg (fun z => by omega)]
  · rw [if_neg (fun z => d1 (c1.mp z))]
    by_cases d2 : b < p.toInt
    · rw [if_pos (c2.mpr d2), if_neg (fun z => by omega)]
    · rw [if_neg (fun z => d2 (c2.mp z)), if_pos ⟨by omega, by omega⟩]
theorem c7 {j : Nat} (hj : j < 2 ^ 31) : ((7 : Int32) ≤ nI j) ↔ 7 ≤ j := nI_leI (a := 7) (by omega) hj
theorem low_k {k : Nat} (hk : k < 7) : F_X4_lowest (nI k) = fLowI k := by
  unfold F_X4_lowest
  rw [if_neg (nI_pos (by omega)), if_neg (fun z => absurd ((c7 (by omega)).mp z) (by omega)), nI_clamp (by omega)]
theorem high_k {k : Nat} (hk : k < 7) : F_X4_highest (nI k) = fHighI k := by
  unfold F_X4_highest
  rw [if_neg (nI_pos (by omega)), if_neg (fun z => absurd ((c7 (by omega)).mp z) (by omega)), nI_clamp (by omega)]
theorem rng_val {k : Nat} {p : Int32} {a b : Int} (hk : k < 7) (h1 : (fLowI k).toInt = a) (h2 : (fHighI k).toInt = b) : F_X4_inRange (nI k) p = if a ≤ p.toInt ∧ p.toInt ≤ b then 1 else 0 := by
  unfold F_X4_inRange
  rw [low_k hk, high_k hk]
  have c1 : (p < fLowI k) ↔ p.toInt < a := by rw [Int32.lt_iff_toInt_lt, h1]
  have c2 : (fHighI k < p) ↔ b < p.toInt := by rw [Int32.lt_iff_toInt_lt, h2]
  by_cases d1 : p.toInt < a
  · rw [if_pos (c1.mpr d1), if_neg (fun z => by omega)]
  · rw [if_neg (fun z => d1 (c1.mp z))]
    by_cases d2 : b < p.toInt
    · rw [if_pos (c2.mpr d2), if_neg (fun z => by omega)]
    · rw [if_neg (fun z => d2 (c2.mp z)), if_pos ⟨by omega, by omega⟩]
theorem rng0 (p : Int32) : F_X4_inRange 0 p = F_X5_in (Int32.toInt64 p) 1 11 := (rng_val (k := 0) (a := 1) (b := 11) (by omega) (by decide) (by decide)).trans (in_val (by decide) (by decide)).symm
theorem rng5 (p : Int32) : F_X4_inRange 5 p = F_X5_in (Int32.toInt64 p) 1 500 := (rng_val (k := 5) (a := 1) (b := 500) (by omega) (by decide) (by decide)).trans (in_val (by decide) (by decide)).symm
theorem rng6 (p : Int32) : F_X4_inRange 6 p = F_X5_in (Int32.toInt64 p) 1 9999 := (rng_val (k := 6) (a := 1) (b := 9999) (by omega) (by decide) (by decide)).trans (in_val (by decide) (by decide)).symm
theorem rngN {k : Nat} (hk : k < 5) (p : Int32) : F_X4_inRange (nI k) p = F_X5_isNumber (nI k) p := by
  rcases (show k = 0 ∨ k = 1 ∨ k = 2 ∨ k = 3 ∨ k = 4 by omega) with rfl | rfl | rfl | rfl | rfl
  · exact (rng_val (k := 0) (a := 1) (b := 11) (by omega) (by decide) (by decide)).trans (in_val (by decide) (by decide)).symm
  · exact (rng_val (k := 1) (a := 0) (b := 9) (by omega) (by decide) (by decide)).trans (in_val (by decide) (by decide)).symm
  · exact (rng_val (k := 2) (a := 0) (b := 5) (by omega) (by decide) (by decide)).trans (in_val (by decide) (by decide)).symm
  · exact (rng_val (k := 3) (a := 5) (b := 50) (by omega) (by decide) (by decide)).trans (in_val (by decide) (by decide)).symm
  · exact (rng_val (k := 4) (a := 10) (b := 99) (by omega) (by decide) (by decide)).trans (in_val (by decide) (by decide)).symm
theorem nat_of {p : Int32} {a b : Nat} (h : (a : Int) ≤ p.toInt ∧ p.toInt ≤ (b : Int)) (hb : b < 2 ^ 31) : ∃ x : Nat, a ≤ x ∧ x ≤ b ∧ p = nI x := by
  obtain ⟨x, hx, e⟩ := nI_of (x := p) (by rw [Int32.lt_iff_toInt_lt, show (0 : Int32).toInt = 0 from by decide]; omega)
  rw [e, nI_toInt hx] at h
  exact ⟨x, by omega, by omega, e⟩
theorem one_of {c : Prop} [Decidable c] (h : ¬ (if c then (1 : Int32) else 0) = 0) : c := by
  by_cases hc : c
  · exact hc
  · rw [if_neg hc] at h
    exact absurd rfl h
theorem number_ok {k : Nat} (hk : k < 5) {p : Int32} (h : ¬ F_X5_isNumber (nI k) p = 0) : ∃ x : Nat, x ≤ 99 ∧ p = nI x ∧ (k = 0 → 1 ≤ x ∧ x < 12) ∧ (k = 2 → x < 6) := by
  rw [← rngN hk] at h
  rcases (show k = 0 ∨ k = 1 ∨ k = 2 ∨ k = 3 ∨ k = 4 by omega) with rfl | rfl | rfl | rfl | rfl
  · rw [rng_val (k := 0) (a := 1) (b := 11) (by omega) (by decide) (by decide)] at h
    obtain ⟨x, h1, h2, e⟩ := nat_of (a := 1) (b := 11) (one_of h) (by omega)
    exact ⟨x, by omega, e, fun _ => by omega, fun z => by omega⟩
  · rw [rng_val (k := 1) (a := 0) (b := 9) (by omega) (by decide) (by decide)] at h
    obtain ⟨x, h1, h2, e⟩ := nat_of (a := 0) (b := 9) (one_of h) (by omega)
    exact ⟨x, by omega, e, fun z => by omega, fun z => by omega⟩
  · rw [rng_val (k := 2) (a := 0) (b := 5) (by omega) (by decide) (by decide)] at h
    obtain ⟨x, h1, h2, e⟩ := nat_of (a := 0) (b := 5) (one_of h) (by omega)
    exact ⟨x, by omega, e, fun z => by omega, fun z => by omega⟩
  · rw [rng_val (k := 3) (a := 5) (b := 50) (by omega) (by decide) (by decide)] at h
    obtain ⟨x, h1, h2, e⟩ := nat_of (a := 5) (b := 50) (one_of h) (by omega)
    exact ⟨x, by omega, e, fun z => by omega, fun z => by omega⟩
  · rw [rng_val (k := 4) (a := 10) (b := 99) (by omega) (by decide) (by decide)] at h
    obtain ⟨x, h1, h2, e⟩ := nat_of (a := 10) (b := 99) (one_of h) (by omega)
    exact ⟨x, by omega, e, fun z => by omega, fun z => by omega⟩
/-- one break more only with a thread that is broken -/
def RT (u : SV) (a : Nat → Int32) (B O : Nat) : Prop := ∃ B' : Nat, (B' = B ∨ (B' = B + 1 ∧ ¬ u.1 2 = 0)) ∧ RS u a B' O
theorem RT_S {u : SV} {a : Nat → Int32} {B O : Nat} (H : RT u a B O) : RS u a (B + 1) O := by
  obtain ⟨B', h, H⟩ := H
  exact RS_mono (by omega) (Nat.le_refl _) H
theorem windK {p1 e : Int32} (hp : p1.toInt ≤ 500) {B O : Nat} : ∀ (n : Nat) (u : SV) (a : Nat → Int32) (j m : Nat), j + n = 501 → j ≤ 500 → m ≤ j → RT u a B O → u.2.1.1 0 = e + nI m → ∃ m' : Nat, m' ≤ 500 ∧ (K_X2_turnOften_31 n u p1 j e).1 = nI m' ∧ (K_X5_doWind_14 n a p1 j (nI m)).1 = nI m' ∧ RT (K_X2_turnOften_31 n u p1 j e).2 (K_X5_doWind_14 n a p1 j (nI m)).2 B O := by
  intro n
  induction n with
  | zero => intro u a j m h1 h2; omega
  | succ n ih =>
    intro u a j m h1 h2 hm hT hl
    have el : u.2.1.1 0 - e = nI m := by rw [hl, Int32.add_comm, Int32.add_sub_cancel]
    unfold K_X2_turnOften_31 K_X5_doWind_14
    dsimp only
    by_cases c : p1 ≤ nI j
    · rw [if_pos c, if_pos c]
      exact ⟨m, by omega, el, rfl, hT⟩
    · have hj : j < 500 := nlt_p (c := 500) c hp (by omega)
      rw [if_neg c, if_neg c]
      obtain ⟨B', hB, hS⟩ := hT
      rw [idle_eq hS]
      by_cases ci : F_X5_isIdle a = 0
      · rw [if_pos ci, if_pos ci]
        obtain ⟨n1, n2, n3⟩ := idle_no hS ci
        have hBB : B' = B := hB.resolve_right (fun z => z.2 (hS.2.2.2.2.2.2.2.2.1.trans n1))
        subst hBB
        obtain ⟨r, hr, e1, e2, hT2⟩ := turn_sim hS ci
        rw [e1]
        rw [hl, Int32.add_assoc, nI_add] at e2
        rcases (show r = 0 ∨ r = 1 by omega) with rfl | rfl
        · rw [if_pos nI_0, Int32.add_zero]
          exact ih _ _ (j + 1) m (by omega) (by omega) (by omega) hT2 e2
        · rw [if_neg (show ¬ nI 1 = 0 from by decide), nI_1]
          exact ih _ _ (j + 1) (m + 1) (by omega) (by omega) (by omega) hT2 e2
      · rw [if_neg ci, if_neg ci]
        exact ⟨m, by omega, el, rfl, B', hB, hS⟩
theorem wind_sim {u : SV} {a : Nat → Int32} {B O : Nat} {p1 : Int32} (H : RS u a B O) (hr : ¬ F_X5_in (Int32.toInt64 p1) 1 500 = 0) : (F_X2_turnOften u p1).1 = (F_X5_doWind a p1).1 ∧ (((F_X5_doWind a p1).1 = -5 ∧ RS u (F_X5_doWind a p1).2 B O) ∨ ∃ m : Nat, m < 2 ^ 31 ∧ (F_X5_doWind a p1).1 = nI m) ∧ RS (F_X2_turnOften u p1).2 (F_X5_doWind a p1).2 (B + 1) O := by
  unfold F_X2_turnOften F_X5_doWind
  rw [rng5, if_neg hr, idle_eq H]
  by_cases ci : F_X5_isIdle a = 0
  · rw [if_pos ci, if_pos ci]
    obtain ⟨m, hm, e1, e2, hT⟩ := windK (e := u.2.1.1 0) (in500 hr) 501 u a 0 0 (by omega) (by omega) (by omega) ⟨B, Or.inl rfl, H⟩ (by rw [nI_0, Int32.add_zero])
    rw [nI_0] at e2 hT
    exact ⟨e1.trans e2.symm, Or.inr ⟨m, by omega, e2⟩, RT_S hT⟩
  · rw [if_neg ci, if_neg ci]
    exact ⟨rfl, Or.inl ⟨rfl, H⟩, RS_mono (by omega) (Nat.le_refl _) H⟩
theorem ix24 {k : Nat} (hk : k < 5) : Int32.toNatClampNeg (24 + nI k) = 24 + k := ixc 24 k (by omega)
theorem vin5 {k : Nat} (hk : k < 5) : vp_in (nI k) 5 := vp_in_nI hk (by omega)
theorem c5l {j : Nat} (hj : j < 2 ^ 31) : (nI j < (5 : Int32)) ↔ j < 5 := nI_ltI (b := 5) hj (by omega)
theorem c12l {j : Nat} (hj : j < 2 ^ 31) : (nI j < (12 : Int32)) ↔ j < 12 := nI_ltI (b := 12) hj (by omega)
theorem set_X {u : SV} {k : Nat} {p : Int32} (hk : k < 5) (hr : ¬ F_X5_isNumber (nI k) p = 0) : F_X2_changeNumber u (nI k) p = if u.2.2.2 k = p then (-5, u) else (u.2.2.2 k, (u.1, u.2.1, u.2.2.1, upd u.2.2.2 k p)) := by
  unfold F_X2_changeNumber
  rw [if_neg (nI_pos (by omega)), if_pos ((c5l (by omega)).mpr hk), rngN hk, if_neg hr, nI_clamp (by omega)]
theorem set_sim {u : SV} {a : Nat → Int32} {B O k : Nat} {p : Int32} (H : RS u a B O) (hk : k < 5) (hr : ¬ F_X5_isNumber (nI k) p = 0) : (F_X2_changeNumber u (nI k) p).1 = (F_X5_doSet a (nI k) p).1 ∧ (((F_X5_doSet a (nI k) p).1 = -5 ∧ RS u (F_X5_doSet a (nI k) p).2 B O) ∨ ∃ m : Nat, m < 2 ^ 31 ∧ (F_X5_doSet a (nI k) p).1 = nI m) ∧ RS (F_X2_changeNumber u (nI k) p).2 (F_X5_doSet a (nI k) p).2 B O := by
  obtain ⟨x, hx, ep, x0, x2⟩ := number_ok hk hr
  have hw := mWF_doSet (y := p) H.1 (vin5 hk) (fun z => by
    have hk0 : k = 0 := (nI_eq (b := 0) (by omega) (by omega)).mp z
    exact ⟨x, (x0 hk0).1, (x0 hk0).2, ep⟩) (fun z => by
    have hk0 : k = 2 := (nI_eq (b := 2) (by omega) (by omega)).mp z
    exact ⟨x, x2 hk0, ep⟩)
  obtain ⟨e, y, hy, ey⟩ := H.2.2.2.2.1 k hk
  rw [set_X hk hr]
  unfold F_X5_doSet at hw ⊢
  rw [ix24 hk] at hw ⊢
  rw [e]
  by_cases c : a (24 + k) = p
  · rw [if_pos c] at hw ⊢
    rw [if_pos c]
    have hc : RS u (upd a (24 + k) p) B O := RS_congr H (fun j hj => by
      by_cases cj : j = 24 + k
      · rw [cj, upd_eq, c]
      · rw [upd_ne cj])
    exact ⟨rfl, Or.inl ⟨rfl, hc⟩, hc⟩
  · rw [if_neg c] at hw ⊢
    rw [if_neg c]
    obtain ⟨h1, h2, h3, h4, h5, q1, q2, q3, q4, q5, q6, q7, q8⟩ := H
    dsimp only at hw ⊢
    refine ⟨rfl, Or.inr ⟨y, by omega, ey⟩, hw, RG_congr h2 (fun j hj => upd_ne (by omega)) (upd_ne (by omega)), ?_, fun j hj => ?_, fun j hj => ?_, ?_⟩
    · unfold RLa
      rw [upd_ne (by omega)]
      exact h3
    · rw [upd_ne (by omega)]
      exact h4 j hj
    · dsimp only
      by_cases cj : j = k
      · rw [cj, upd_eq, upd_eq]
        exact ⟨rfl, x, hx, ep⟩
      · rw [upd_ne cj, upd_ne (by omega)]
        exact h5 j hj
    · unfold RQ
      rw [upd_ne (by omega), upd_ne (by omega), upd_ne (by omega), upd_ne (by omega), upd_ne (by omega), upd_ne (by omega)]
      exact ⟨q1, q2, q3, q4, q5, q6, q7, q8⟩
theorem knot_sim {u : SV} {a : Nat → Int32} {B O : Nat} (hBB : B < 2 ^ 20) (H : RS u a B O) : (F_X2_tieKnot u).1 = (F_X5_doKnot a).1 ∧ (((F_X5_doKnot a).1 = -4 ∧ RS u (F_X5_doKnot a).2 B O) ∨ ((F_X5_doKnot a).1 = -5 ∧ RS u (F_X5_doKnot a).2 B O) ∨ ∃ m : Nat, m < 2 ^ 31 ∧ (F_X5_doKnot a).1 = nI m) ∧ RS (F_X2_tieKnot u).2 (F_X5_doKnot a).2 (B + 1) O := by
  have H0 := H
  have hw := mWF_doKnot H.1
  obtain ⟨h1, h2, h3, h4, h5, q1, ⟨c, hc, ec⟩, q3, q4, q5, q6, q7, b, o, hb, ho, q8, q9, q10⟩ := H
  unfold F_X2_tieKnot
  unfold F_X5_doKnot at hw ⊢
  obtain ⟨e27, x, hx, ex⟩ := h5 3 (by omega)
  have e27' : u.2.2.2 3 = a 27 := e27
  have ex' : a 27 = nI x := ex
  rw [num_3, e27', q1, q4]
  by_cases c1 : a 27 ≤ a 30
  · rw [if_pos c1] at hw ⊢
    rw [if_pos c1]
    have cx : x ≤ c := by
      rw [ex', ec] at c1
      exact (nI_leI (by omega) (by omega)).mp c1
    by_cases c2 : a 33 = 0
    · rw [if_pos c2, if_pos c2]
      exact ⟨rfl, Or.inr (Or.inl ⟨rfl, H0⟩), RS_mono (by omega) (Nat.le_refl _) H0⟩
    · rw [if_neg c2] at hw ⊢
      rw [if_neg c2]
      have n34 := h1.2.2.2.2 c2
      obtain ⟨q, hq, eq⟩ := h1.2.1.resolve_left n34
      have e3 : u.1 3 = nI q := (h3.2 n34).1.trans eq
      have i34 : ∀ y : Int32, upd (upd (upd a 30 (a 30 - a 27)) 33 0) (12 + q) y 34 = nI q := fun y => by
        rw [upd_ne (by omega), upd_ne (by omega), upd_ne (by omega), eq]
      have iq : upd (upd a 30 (a 30 - a 27)) 33 0 (12 + q) = a (12 + q) := by
        rw [upd_ne (by omega), upd_ne (by omega)]
      have i12 : Int32.toNatClampNeg (12 + nI q) = 12 + q := ixc 12 q (by omega)
      obtain ⟨ek, k, hk, ekk⟩ := h4 q hq
      rw [eq, i12, iq, i34, i12, upd_eq] at hw
      rw [eq, i12, iq, i34, i12, upd_eq]
      rw [e3, if_neg (nI_pos (by omega)), if_pos ((c12l (by omega)).mpr hq), nI_clamp (by omega), upd_eq, ek]
      dsimp only at hw ⊢
      refine ⟨rfl, Or.inr (Or.inr ⟨k + 1, by omega, by rw [ekk, nI_1]⟩), hw, RG_congr h2 (fun j hj => by rw [upd_ne (by omega), upd_ne (by omega), upd_ne (by omega)]) (by rw [upd_ne (by omega), upd_ne (by omega), upd_ne (by omega)]), ⟨fun z => ?_, fun z => ⟨?_, ?_⟩⟩, fun j hj => ?_, fun j hj => ?_, ?_⟩
      · rw [i34] at z
        exact absurd z (m5_ne (by omega))
      · dsimp only
        rw [i34, upd_ne (by omega), upd_ne (by omega), e3]
      · exact (h3.2 n34).2
      · dsimp only
        by_cases cj : j = q
        · rw [cj, upd_eq, upd_eq]
          exact ⟨rfl, k + 1, by omega, by rw [ekk, nI_1]⟩
        · rw [upd_ne cj, upd_ne (by omega), upd_ne (by omega), upd_ne (by omega)]
          obtain ⟨e, k2, hk2, ek2⟩ := h4 j hj
          exact ⟨e, k2, by omega, ek2⟩
      · dsimp only
        rw [upd_ne (by omega), upd_ne (by omega), upd_ne (by omega)]
        exact h5 j hj
      · have ii : ∀ j, 24 ≤ j → j ≠ 30 → j ≠ 33 → upd (upd (upd a 30 (a 30 - a 27)) 33 0) (12 + q) (a (12 + q) + 1) j = a j := fun j g1 g2 g3 => by
          rw [upd_ne (by omega), upd_ne g3, upd_ne g2]
        have i30 : upd (upd (upd a 30 (a 30 - a 27)) 33 0) (12 + q) (a (12 + q) + 1) 30 = a 30 - a 27 := by
          rw [upd_ne (by omega), upd_ne (by omega), upd_eq]
        have i33 : upd (upd (upd a 30 (a 30 - a 27)) 33 0) (12 + q) (a (12 + q) + 1) 33 = 0 := by
          rw [upd_ne (by omega), upd_eq]
        unfold RQ
        dsimp only
        rw [i30, i33, ii 31 (by omega) (by omega) (by omega), ii 32 (by omega) (by omega) (by omega), ii 35 (by omega) (by omega) (by omega), ii 36 (by omega) (by omega) (by omega)]
        refine ⟨?_, ⟨c - x, by omega, ?_⟩, ?_, ?_, Or.inl rfl, ?_, ?_, b, o, by omega, ho, ?_, ?_, q10⟩
        · rw [upd_ne (by omega), upd_eq]
        · rw [ec, ex', nI_sub cx]
        · rw [upd_ne (by omega), upd_ne (by omega), q3]
        · rw [upd_eq]
        · rw [upd_ne (by omega), upd_ne (by omega), q6]
        · rw [upd_ne (by omega), upd_ne (by omega), q7]
        · rw [upd_ne (by omega), upd_ne (by omega), q8]
        · rw [upd_ne (by omega), upd_ne (by omega), q9]
  · rw [if_neg c1, if_neg c1]
    exact ⟨rfl, Or.inl ⟨rfl, H0⟩, RS_mono (by omega) (Nat.le_refl _) H0⟩
theorem laid_le {v : WV} {a : Nat → Int32} (H : RG v a) : v.1 0 ≤ 0 ↔ v.1 0 = 0 := by
  obtain ⟨_, _, h, h3, h4, _⟩ := H
  have hs := h3.sum (n := 12) (by omega)
  rw [h4]
  constructor
  · intro z
    have := (nI_leI (b := 0) (by omega) (by omega)).mp z
    rw [show sumN h 12 = 0 from by omega]
    rfl
  · intro z
    rw [z]
    decide
theorem cone_sim {u : SV} {a : Nat → Int32} {B O : Nat} {p : Int32} (H : RS u a B O) (hr : ¬ F_X5_in (Int32.toInt64 p) 1 9999 = 0) : (F_X2_changeCone u p).1 = (F_X5_doCone a p).1 ∧ (∃ m : Nat, m < 2 ^ 31 ∧ (F_X5_doCone a p).1 = nI m) ∧ RS (F_X2_changeCone u p).2 (F_X5_doCone a p).2 B O := by
  have hw := mWF_doCone H.1 p
  obtain ⟨h1, h2, h3, h4, h5, q1, ⟨c, hc, ec⟩, q3, q4, q5, q6, q7, q8⟩ := H
  obtain ⟨x, hx1, hx2, ep⟩ := nat_of (a := 1) (b := 9999) (in32 (a := 1) (b := 9999) hr (by decide) (by decide)) (by omega)
  unfold F_X2_changeCone
  unfold F_X5_doCone at hw ⊢
  rw [rng6, if_neg hr, q1]
  have fin : ∀ y : Int32, (y = 0 ∨ y = 1) → mWF (upd (upd a 30 p) 33 y) → RS (upd (upd u.1 0 p) 2 y, u.2.1, u.2.2.1, u.2.2.2) (upd (upd a 30 p) 33 y) B O := fun y hy hw => by
    have ii : ∀ j, j ≠ 30 → j ≠ 33 → upd (upd a 30 p) 33 y j = a j := fun j g1 g2 => by rw [upd_ne g2, upd_ne g1]
    refine ⟨hw, RG_congr h2 (fun j hj => ii j (by omega) (by omega)) (ii 29 (by omega) (by omega)), ?_, fun j hj => ?_, fun j hj => ?_, ?_⟩
    · unfold RLa
      dsimp only
      rw [ii 34 (by omega) (by omega), upd_ne (by omega), upd_ne (by omega)]
      exact h3
    · rw [ii _ (by omega) (by omega)]
      exact h4 j hj
    · rw [ii _ (by omega) (by omega)]
      exact h5 j hj
    · unfold RQ
      dsimp only
      rw [ii 31 (by omega) (by omega), ii 32 (by omega) (by omega), ii 35 (by omega) (by omega), ii 36 (by omega) (by omega)]
      refine ⟨?_, ⟨x, hx2, ?_⟩, ?_, ?_, ?_, ?_, ?_, ?_⟩
      · rw [upd_ne (by omega), upd_eq, upd_ne (by omega), upd_eq]
      · rw [upd_ne (by omega), upd_eq, ep]
      · rw [upd_ne (by omega), upd_ne (by omega), q3]
      · rw [upd_eq, upd_eq]
      · rw [upd_eq]
        exact hy
      · rw [upd_ne (by omega), upd_ne (by omega), q6]
      · rw [upd_ne (by omega), upd_ne (by omega), q7]
      · rw [upd_ne (by omega), upd_ne (by omega), upd_ne (by omega), upd_ne (by omega)]
        exact q8
  by_cases cl : a 34 = -5
  · have z0 := (h3.1 cl).2
    have z33 : a 33 = 0 := q5.resolve_right (fun z => h1.2.2.2.2 (by rw [z]; decide) cl)
    rw [if_pos cl] at hw ⊢
    rw [if_pos ((laid_le h2).mpr z0)]
    rw [z33] at hw ⊢
    exact ⟨rfl, ⟨c, by omega, ec⟩, fin 0 (Or.inl rfl) hw⟩
  · rw [if_neg cl] at hw ⊢
    rw [if_neg (fun z => (h3.2 cl).2 ((laid_le h2).mp z))]
    exact ⟨rfl, ⟨c, by omega, ec⟩, fin 1 (Or.inr rfl) hw⟩
