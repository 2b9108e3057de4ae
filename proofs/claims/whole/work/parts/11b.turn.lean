/-! The winder's state beside the model's row of numbers: a turn -/
def RG (v : WV) (a : Nat → Int32) : Prop := (∀ j, j < 12 → v.2 j = a j) ∧ v.1 2 = a 29 ∧ ∃ h : Nat → Nat, HR h a ∧ v.1 0 = nI (sumN h 12) ∧ v.1 1 = nI (maxN h 12)
def RLa (u : SV) (a : Nat → Int32) : Prop := (a 34 = -5 → u.1 3 = -1 ∧ u.2.1.1 0 = 0) ∧ (¬ a 34 = -5 → u.1 3 = a 34 ∧ ¬ u.2.1.1 0 = 0)
def RK (u : SV) (a : Nat → Int32) (B : Nat) : Prop := ∀ j, j < 12 → u.2.2.1 j = a (12 + j) ∧ ∃ k : Nat, k ≤ B ∧ a (12 + j) = nI k
def RN (u : SV) (a : Nat → Int32) : Prop := ∀ j, j < 5 → u.2.2.2 j = a (24 + j) ∧ ∃ x : Nat, x ≤ 99 ∧ a (24 + j) = nI x
def RQ (u : SV) (a : Nat → Int32) (B O : Nat) : Prop := u.1 0 = a 30 ∧ (∃ c : Nat, c ≤ 9999 ∧ a 30 = nI c) ∧ u.1 1 = a 31 ∧ u.1 2 = a 33 ∧ (a 33 = 0 ∨ a 33 = 1) ∧ u.1 4 = a 32 ∧ u.1 5 = a 35 ∧ ∃ b o : Nat, b ≤ B ∧ o ≤ O ∧ u.1 6 = nI b ∧ u.1 7 = nI o ∧ a 36 = nI (b + 1048576 * o)
def RS (u : SV) (a : Nat → Int32) (B O : Nat) : Prop := mWF a ∧ RG u.2.1 a ∧ RLa u a ∧ RK u a B ∧ RN u a ∧ RQ u a B O
theorem RS_mono {u : SV} {a : Nat → Int32} {B O B' O' : Nat} (hB : B ≤ B') (hO : O ≤ O') (H : RS u a B O) : RS u a B' O' := by
  obtain ⟨h1, h2, h3, h4, h5, q1, q2, q3, q4, q5, q6, q7, b, o, q8, q9, q10⟩ := H
  refine ⟨h1, h2, h3, fun j hj => ?_, h5, q1, q2, q3, q4, q5, q6, q7, b, o, Nat.le_trans q8 hB, Nat.le_trans q9 hO, q10⟩
  obtain ⟨e, k, hk, e2⟩ := h4 j hj
  exact ⟨e, k, Nat.le_trans hk hB, e2⟩
theorem RG_congr {v : WV} {a a' : Nat → Int32} (H : RG v a) (h : ∀ j, j < 12 → a' j = a j) (h29 : a' 29 = a 29) : RG v a' := by
  obtain ⟨h1, h2, x, h3, h4⟩ := H
  exact ⟨fun j hj => (h1 j hj).trans (h j hj).symm, h2.trans h29.symm, x, fun j hj => ⟨(h3 j hj).1, (h j hj).trans (h3 j hj).2⟩, h4⟩
theorem RS_congr {u : SV} {a a' : Nat → Int32} {B O : Nat} (H : RS u a B O) (h : ∀ k, k < 37 → a' k = a k) : RS u a' B O := by
  obtain ⟨h1, h2, h3, h4, h5, h6⟩ := H
  refine ⟨mWF_congr (h 24 (by omega)) (h 26 (by omega)) (h 29 (by omega)) (h 33 (by omega)) (h 34 (by omega)) h1, RG_congr h2 (fun j hj => h j (by omega)) (h 29 (by omega)), ?_, fun j hj => ?_, fun j hj => ?_, ?_⟩
  · unfold RLa
    rw [h 34 (by omega)]
    exact h3
  · rw [h (12 + j) (by omega)]
    exact h4 j hj
  · rw [h (24 + j) (by omega)]
    exact h5 j hj
  · unfold RQ
    rw [h 30 (by omega), h 31 (by omega), h 32 (by omega), h 33 (by omega), h 35 (by omega), h 36 (by omega)]
    exact h6
theorem full_eq {v : WV} {a : Nat → Int32} (H : RG v a) : F_X3_isFull v = F_X5_isFull a := by
  obtain ⟨h1, h2, h, h3, h4, h5⟩ := H
  unfold F_X3_isFull F_X5_isFull
  rw [greatest_eq h3, h5]
  have hm := h3.max (n := 12) (by omega)
  have c1 : (nI (maxN h 12) < 200) ↔ maxN h 12 < 200 := nI_ltI (b := 200) (by omega) (by omega)
  have c2 : (nI (maxN h 12) = 200) ↔ maxN h 12 = 200 := nI_eq (b := 200) (by omega) (by omega)
  by_cases hc : maxN h 12 < 200
  · rw [if_pos (c1.mpr hc), if_neg (fun z => by have := c2.mp z; omega)]
  · rw [if_neg (fun z => hc (c1.mp z)), if_pos (c2.mpr (by omega))]
theorem notfull {a : Nat → Int32} {h : Nat → Nat} (H : HR h a) (hf : F_X5_isFull a = 0) {j : Nat} (hj : j < 12) : h j < 200 := by
  unfold F_X5_isFull at hf
  rw [greatest_eq H] at hf
  have hm := H.max (n := 12) (by omega)
  have c2 : (nI (maxN h 12) = 200) ↔ maxN h 12 = 200 := nI_eq (b := 200) (by omega) (by omega)
  have hl := le_maxN (h := h) hj
  by_cases hc : maxN h 12 = 200
  · rw [if_pos (c2.mpr hc)] at hf
    exact absurd hf (show ¬ (1 : Int32) = 0 from by decide)
  · omega
theorem empty_eq (u : SV) : F_X2_isConeEmpty u = if u.1 0 = 0 then 1 else 0 := rfl
theorem idle_eq {u : SV} {a : Nat → Int32} {B O : Nat} (H : RS u a B O) : F_X2_isIdle u = F_X5_isIdle a := by
  obtain ⟨h1, h2, h3, h4, h5, q1, q2, q3, q4, q5, q6⟩ := H
  unfold F_X2_isIdle F_X5_isIdle
  rw [full_eq h2, empty_eq, q1, q4]
  rcases q5 with e | e
  · rw [e, if_pos rfl, if_neg (show ¬ (0 : Int32) = 1 from by decide)]
    by_cases c : a 30 = 0
    · rw [if_pos c, if_pos c, if_neg (show ¬ (1 : Int32) = 0 from by decide)]
    · rw [if_neg c, if_neg c, if_pos rfl]
  · rw [e, if_neg (show ¬ (1 : Int32) = 0 from by decide), if_pos rfl]
theorem idle_no {u : SV} {a : Nat → Int32} {B O : Nat} (H : RS u a B O) (hi : F_X5_isIdle a = 0) : a 33 = 0 ∧ ¬ a 30 = 0 ∧ F_X5_isFull a = 0 := by
  unfold F_X5_isIdle at hi
  have h10 : ¬ (1 : Int32) = 0 := by decide
  by_cases c1 : a 33 = 1
  · rw [if_pos c1] at hi
    exact absurd hi h10
  · rw [if_neg c1] at hi
    by_cases c2 : a 30 = 0
    · rw [if_pos c2] at hi
      exact absurd hi h10
    · rw [if_neg c2] at hi
      refine ⟨H.2.2.2.2.2.2.2.2.2.1.resolve_right c1, c2, ?_⟩
      by_cases c3 : F_X5_isFull a = 0
      · exact c3
      · rw [if_neg c3] at hi
        exact absurd hi h10
theorem place_eq {v : WV} {a : Nat → Int32} (h : v.1 2 = a 29) : F_X3_guidePlace v = F_X5_place a := by
  unfold F_X3_guidePlace F_X5_place F_X5_placeOn
  rw [h]
theorem lay_val {v : WV} {q : Nat} (hq : q < 12) (h : F_X3_guidePlace v = nI q) : F_X3_layWrap v = (upd (upd v.1 0 (v.1 0 + 1)) 1 (if v.1 1 < v.2 q + 1 then v.2 q + 1 else v.1 1), upd v.2 q (v.2 q + 1)) := by
  unfold F_X3_layWrap
  rw [h, if_neg (nI_pos (by omega)), if_neg (fun z => absurd ((c12 (by omega)).mp z) (by omega)), nI_clamp (by omega), upd_eq]
theorem lay_0 {v : WV} {q : Nat} (hq : q < 12) (h : F_X3_guidePlace v = nI q) : (F_X3_layWrap v).1 0 = v.1 0 + 1 := by
  rw [lay_val hq h]
  dsimp only
  rw [upd_ne (by omega), upd_eq]
theorem lay_1 {v : WV} {q : Nat} (hq : q < 12) (h : F_X3_guidePlace v = nI q) : (F_X3_layWrap v).1 1 = if v.1 1 < v.2 q + 1 then v.2 q + 1 else v.1 1 := by
  rw [lay_val hq h]
  dsimp only
  rw [upd_eq]
theorem lay_2 {v : WV} {q : Nat} (hq : q < 12) (h : F_X3_guidePlace v = nI q) : (F_X3_layWrap v).1 2 = v.1 2 := by
  rw [lay_val hq h]
  dsimp only
  rw [upd_ne (by omega), upd_ne (by omega)]
theorem lay_h {v : WV} {q : Nat} (hq : q < 12) (h : F_X3_guidePlace v = nI q) : (F_X3_layWrap v).2 = upd v.2 q (v.2 q + 1) := by
  rw [lay_val hq h]
theorem lay_sim {v : WV} {a a' : Nat → Int32} (H : RG v a) (hf : F_X5_isFull a = 0) {q : Nat} (hq : q < 12) (h : F_X3_guidePlace v = nI q) (ha : a' q = a q + 1) (hn : ∀ j, j < 12 → j ≠ q → a' j = a j) (h29 : a' 29 = a 29) : RG (F_X3_layWrap v) a' ∧ ¬ (F_X3_layWrap v).1 0 = 0 := by
  obtain ⟨h1, h2, x, h3, h4, h5⟩ := H
  have hx := notfull h3 hf hq
  have hsum := h3.sum (n := 12) (by omega)
  have hmax := h3.max (n := 12) (by omega)
  have hs := (sumN_up (h := x) (i := q) (v := x q + 1) (n := 12)).1 hq
  have hm := (maxN_up (h := x) (i := q) (v := x q + 1) (by omega) (n := 12)).1 hq
  have e0 : (F_X3_layWrap v).1 0 = nI (sumN x 12 + 1) := by
    rw [lay_0 hq h, h4, nI_1]
  refine ⟨⟨fun j hj => ?_, ?_, updN x q (x q + 1), fun j hj => ?_, ?_, ?_⟩, ?_⟩
  · rw [lay_h hq h]
    by_cases c : j = q
    · rw [c, upd_eq, ha, h1 q hq]
    · rw [upd_ne c, hn j hj c, h1 j hj]
  · rw [lay_2 hq h, h2, h29]
  · unfold updN
    by_cases c : j = q
    · rw [if_pos c, c, ha, (h3 q hq).2, nI_1]
      exact ⟨by omega, rfl⟩
    · rw [if_neg c, hn j hj c]
      exact h3 j hj
  · rw [e0]
    exact congrArg nI (by omega)
  · rw [lay_1 hq h, h5, h1 q hq, (h3 q hq).2, nI_1, hm]
    have c1 : (nI (maxN x 12) < nI (x q + 1)) ↔ maxN x 12 < x q + 1 := nI_ltI (by omega) (by omega)
    by_cases c : maxN x 12 < x q + 1
    · rw [if_pos (c1.mpr c)]
      exact congrArg nI (by omega)
    · rw [if_neg (fun z => c (c1.mp z))]
      exact congrArg nI (by omega)
  · rw [e0]
    exact nI_ne0 (by omega) (by omega)
theorem wob_pos {a : Nat → Int32} (h : mWF a) : ¬ (8 : Int32) - a 26 ≤ 0 := by
  obtain ⟨w, hw, e⟩ := h.2.2.1
  rw [e]
  exact (show ∀ w : Fin 6, ¬ (8 : Int32) - nI w.val ≤ 0 from by decide +kernel) ⟨w, hw⟩
theorem go_val {v : WV} {a : Nat → Int32} {p : Int32} (h : mWF a) (h2 : v.1 2 = a 29) (hp : p = a 26) : ∃ x : Int32, F_X3_moveGuide v (a 24) p (a 35) = (upd v.1 2 x, v.2) ∧ F_X5_guideGoes a = upd a 29 x := by
  subst hp
  unfold F_X3_moveGuide F_X5_guideGoes K_X5_guideGoes_37
  rw [h2]
  have e0 : F_X4_oneIf 0 = 0 := rfl
  have e1 : F_X4_oneIf 1 = 1 := rfl
  rw [e0, e1]
  by_cases c1 : a 26 ≤ 0
  · rw [if_pos c1, if_pos c1]
    exact ⟨_, rfl, rfl⟩
  · rw [if_neg c1, if_neg c1, if_neg (wob_pos h)]
    by_cases c2 : a 35 - a 35 / (8 - a 26) * (8 - a 26) = 0
    · rw [if_pos c2, if_pos c2]
      exact ⟨_, rfl, rfl⟩
    · rw [if_neg c2, if_neg c2]
      exact ⟨_, rfl, rfl⟩
theorem RG_go {v : WV} {a : Nat → Int32} (H : RG v a) (x : Int32) : RG (upd v.1 2 x, v.2) (upd a 29 x) := by
  obtain ⟨h1, h2, y, h3, h4, h5⟩ := H
  refine ⟨fun j hj => ?_, ?_, y, fun j hj => ?_, ?_, ?_⟩
  · rw [upd_ne (by omega)]
    exact h1 j hj
  · show upd v.1 2 x 2 = upd a 29 x 29
    rw [upd_eq, upd_eq]
  · rw [upd_ne (by omega)]
    exact h3 j hj
  · show upd v.1 2 x 0 = _
    rw [upd_ne (by omega)]
    exact h4
  · show upd v.1 2 x 1 = _
    rw [upd_ne (by omega)]
    exact h5
theorem warm_eq (W : Int32) : (if 0 < (if W < 300 then W else 300) then (if W < 300 then W else 300) else 0) = (if 0 ≤ W then (if 300 ≤ W then 300 else W) else 0) := by
  have z0 : (0 : Int32).toInt = 0 := by decide
  have z3 : (300 : Int32).toInt = 300 := by decide
  have a1 : (W < 300) ↔ W.toInt < 300 := by rw [Int32.lt_iff_toInt_lt, z3]
  have a2 : (0 < W) ↔ 0 < W.toInt := by rw [Int32.lt_iff_toInt_lt, z0]
  have a3 : (0 ≤ W) ↔ 0 ≤ W.toInt := by rw [Int32.le_iff_toInt_le, z0]
  have a4 : (300 ≤ W) ↔ 300 ≤ W.toInt := by rw [Int32.le_iff_toInt_le, z3]
  by_cases c1 : W.toInt < 300
  · rw [if_pos (a1.mpr c1)]
    by_cases c2 : 0 < W.toInt
    · rw [if_pos (a2.mpr c2), if_pos (a3.mpr (by omega)), if_neg (fun z => by have := a4.mp z; omega)]
    · rw [if_neg (fun z => c2 (a2.mp z))]
      by_cases c3 : 0 ≤ W.toInt
      · rw [if_pos (a3.mpr c3), if_neg (fun z => by have := a4.mp z; omega)]
        exact Int32.toInt_inj.mp (by rw [z0]; omega)
      · rw [if_neg (fun z => c3 (a3.mp z))]
  · rw [if_neg (fun z => c1 (a1.mp z)), if_pos (show (0 : Int32) < 300 from by decide), if_pos (a3.mpr (by omega)), if_pos (a4.mpr (by omega))]
theorem c5 {j : Nat} (hj : j < 2 ^ 31) : ((5 : Int32) ≤ nI j) ↔ 5 ≤ j := nI_leI (a := 5) (by omega) hj
theorem num_j (u : SV) {j : Nat} (hj : j < 5) : F_X2_number u (nI j) = u.2.2.2 j := by
  unfold F_X2_number
  rw [if_neg (nI_pos (by omega)), if_neg (fun z => absurd ((c5 (by omega)).mp z) (by omega)), nI_clamp (by omega)]
theorem num_0 (u : SV) : F_X2_number u 0 = u.2.2.2 0 := num_j u (j := 0) (by omega)
theorem num_1 (u : SV) : F_X2_number u 1 = u.2.2.2 1 := num_j u (j := 1) (by omega)
theorem num_2 (u : SV) : F_X2_number u 2 = u.2.2.2 2 := num_j u (j := 2) (by omega)
theorem num_3 (u : SV) : F_X2_number u 3 = u.2.2.2 3 := num_j u (j := 3) (by omega)
theorem num_4 (u : SV) : F_X2_number u 4 = u.2.2.2 4 := num_j u (j := 4) (by omega)
/-- the tension, on the model's side -/
def tens (a : Nat → Int32) (q : Nat) : Int32 := if a 34 = -5 then 4 * a 25 + a 31 / 10 else 4 * a 25 + a 31 / 10 + 2 * (if 0 ≤ a q - a (a 34).toNatClampNeg then a q - a (a 34).toNatClampNeg else 0 - (a q - a (a 34).toNatClampNeg))
def warmth (a : Nat → Int32) : Int32 := if 0 ≤ a 31 + a 25 - 1 then (if 300 ≤ a 31 + a 25 - 1 then 300 else a 31 + a 25 - 1) else 0
def pulled (a : Nat → Int32) (q : Nat) : Nat → Int32 := upd (upd (upd a 32 (tens a q)) 34 (nI q)) 31 (warmth a)
theorem p139 (a : Nat → Int32) (X x1 y : Int32) : K_X5_pulls_139 (upd (upd a 32 X) 34 x1) y = if X ≤ a 28 then upd (upd (upd a 32 X) 34 x1) 31 y else upd (upd (upd (upd (upd a 32 X) 34 x1) 31 y) 33 1) 36 (a 36 + 1) := by
  unfold K_X5_pulls_139
  rw [show upd (upd a 32 X) 34 x1 32 = X from by simp [upd], show upd (upd a 32 X) 34 x1 28 = a 28 from by simp [upd], show upd (upd a 32 X) 34 x1 36 = a 36 from by simp [upd]]
theorem p82 (a : Nat → Int32) (x1 y s1 : Int32) : K_X5_pulls_82 a x1 y s1 = if s1 + 2 * y ≤ a 28 then upd (upd (upd a 32 (s1 + 2 * y)) 34 x1) 31 (warmth a) else upd (upd (upd (upd (upd a 32 (s1 + 2 * y)) 34 x1) 31 (warmth a)) 33 1) 36 (a 36 + 1) := by
  unfold K_X5_pulls_82 warmth
  rw [p139, p139, p139]
  by_cases c1 : 0 ≤ a 31 + a 25 - 1
  · rw [if_pos c1, if_pos c1]
    by_cases c2 : 300 ≤ a 31 + a 25 - 1
    · rw [if_pos c2, if_pos c2]
    · rw [if_neg c2, if_neg c2]
  · rw [if_neg c1, if_neg c1]
theorem pulls_val {a : Nat → Int32} {q : Nat} (hq : q < 12) (hp : F_X5_place a = nI q) : F_X5_pulls a = if tens a q ≤ a 28 then pulled a q else upd (upd (pulled a q) 33 1) 36 (a 36 + 1) := by
  unfold F_X5_pulls K_X5_pulls_45 pulled
  rw [hp, ix0 q (by omega), Int32.zero_add]
  by_cases c1 : a 34 = -5
  · have e : tens a q = 4 * a 25 + a 31 / 10 + 2 * 0 := by
      unfold tens
      rw [if_pos c1, Int32.mul_zero, Int32.add_zero]
    rw [if_pos c1, if_pos (show (0 : Int32) ≤ 0 from by decide), p82, e]
  · rw [if_neg c1]
    unfold tens
    rw [if_neg c1]
    by_cases c2 : 0 ≤ a q - a (a 34).toNatClampNeg
    · rw [if_pos c2, if_pos c2, p82]
    · rw [if_neg c2, if_neg c2, p82]
/-- the row behind the length, the turn and the wrap -/
def laidA (a : Nat → Int32) (q : Nat) : Nat → Int32 := upd (upd (upd a 35 (a 35 + 1)) 30 (a 30 - (10 + a q))) q (a q + 1)
theorem turns_val {a : Nat → Int32} {q : Nat} (hq : q < 12) (hp : F_X5_place a = nI q) : F_X5_turns a = if 10 + a q ≤ a 30 then (1, F_X5_guideGoes (F_X5_pulls (laidA a q))) else (0, upd (upd a 35 (a 35 + 1)) 30 0) := by
  have hp2 : F_X5_place (upd (upd a 35 (a 35 + 1)) 30 (a 30 - (10 + a q))) = nI q := by
    rw [← hp]
    unfold F_X5_place
    rw [upd_ne (by omega), upd_ne (by omega)]
  unfold F_X5_turns laidA
  rw [hp, ix0 q (by omega), hp2, ix0 q (by omega)]
  rw [show upd (upd a 35 (a 35 + 1)) 30 (a 30 - (10 + a q)) q = a q from by rw [upd_ne (by omega), upd_ne (by omega)]]
theorem laidA_q {a : Nat → Int32} {q : Nat} : laidA a q q = a q + 1 := upd_eq
theorem laidA_n {a : Nat → Int32} {q j : Nat} (hj : j < 30) (h : j ≠ q) : laidA a q j = a j := by
  unfold laidA
  rw [upd_ne h, upd_ne (by omega), upd_ne (by omega)]
theorem laidA_h {a : Nat → Int32} {q j : Nat} (hq : q < 12) (hj : 12 ≤ j) (h30 : j ≠ 30) (h35 : j ≠ 35) : laidA a q j = a j := by
  unfold laidA
  rw [upd_ne (by omega), upd_ne h30, upd_ne h35]
theorem laidA_30 {a : Nat → Int32} {q : Nat} (hq : q < 12) : laidA a q 30 = a 30 - (10 + a q) := by
  unfold laidA
  rw [upd_ne (by omega), upd_eq]
theorem laidA_35 {a : Nat → Int32} {q : Nat} (hq : q < 12) : laidA a q 35 = a 35 + 1 := by
  unfold laidA
  rw [upd_ne (by omega), upd_ne (by omega), upd_eq]
theorem turn_X {u : SV} (hi : F_X2_isIdle u = 0) {q : Nat} (hq : q < 12) (hp : F_X3_guidePlace u.2.1 = nI q) : F_X2_turnOnce u = if 10 + u.2.1.2 q ≤ u.1 0 then
    (if F_X2_tensionAt (upd (upd u.1 5 (u.1 5 + 1)) 0 (u.1 0 - (10 + u.2.1.2 q)), F_X3_layWrap u.2.1, u.2.2.1, u.2.2.2) (nI q) ≤ u.2.2.2 4 then
      (upd (upd (upd (upd (upd u.1 5 (u.1 5 + 1)) 0 (u.1 0 - (10 + u.2.1.2 q))) 4 (F_X2_tensionAt (upd (upd u.1 5 (u.1 5 + 1)) 0 (u.1 0 - (10 + u.2.1.2 q)), F_X3_layWrap u.2.1, u.2.2.1, u.2.2.2) (nI q))) 3 (nI q)) 1 (if 0 ≤ u.1 1 + u.2.2.2 1 - 1 then (if 300 ≤ u.1 1 + u.2.2.2 1 - 1 then 300 else u.1 1 + u.2.2.2 1 - 1) else 0), F_X3_moveGuide (F_X3_layWrap u.2.1) (u.2.2.2 0) (u.2.2.2 2) (u.1 5 + 1), u.2.2.1, u.2.2.2)
    else (upd (upd (upd (upd (upd (upd (upd u.1 5 (u.1 5 + 1)) 0 (u.1 0 - (10 + u.2.1.2 q))) 4 (F_X2_tensionAt (upd (upd u.1 5 (u.1 5 + 1)) 0 (u.1 0 - (10 + u.2.1.2 q)), F_X3_layWrap u.2.1, u.2.2.1, u.2.2.2) (nI q))) 3 (nI q)) 1 (if 0 ≤ u.1 1 + u.2.2.2 1 - 1 then (if 300 ≤ u.1 1 + u.2.2.2 1 - 1 then 300 else u.1 1 + u.2.2.2 1 - 1) else 0)) 2 1) 6 (u.1 6 + 1), F_X3_moveGuide (F_X3_layWrap u.2.1) (u.2.2.2 0) (u.2.2.2 2) (u.1 5 + 1), u.2.2.1, u.2.2.2))
    else (upd (upd u.1 5 (u.1 5 + 1)) 0 0, u.2.1, u.2.2.1, u.2.2.2) := by
  unfold F_X2_turnOnce F_X2_warmDiscs
  rw [if_pos hi, hp, heightAt_nI _ hq]
  simp only [num_0, num_1, num_2, num_4, warm_eq]
  by_cases c1 : 10 + u.2.1.2 q ≤ u.1 0
  · simp only [if_pos c1]
    simp only [upd, if_true, if_false, Nat.reduceEqDiff, reduceIte]
  · simp only [if_neg c1]
theorem tens_X {sc kn nu : Nat → Int32} {v : WV} {a : Nat → Int32} (hw : mWF a) (hl : a 34 = -5 → sc 3 = -1) (hl2 : ¬ a 34 = -5 → sc 3 = a 34) (hn : nu 1 = a 25) (hv : ∀ j, j < 12 → v.2 j = a j) (h1 : sc 1 = a 31) {q : Nat} (hq : q < 12) : F_X2_tensionAt (sc, v, kn, nu) (nI q) = tens a q := by
  unfold F_X2_tensionAt tens
  rw [num_1]
  dsimp only
  rw [hn, h1]
  by_cases c : a 34 = -5
  · rw [if_pos c, if_pos (hl c)]
  · obtain ⟨p, hp, e⟩ := hw.2.1.resolve_left c
    have e3 : sc 3 = nI p := (hl2 c).trans e
    have ne : ¬ nI p = -1 := fun z => absurd (show nI p < 0 from by rw [z]; decide) (nI_pos (by omega))
    have ne2 : ¬ sc 3 = -1 := by rw [e3]; exact ne
    rw [if_neg c, if_neg ne2]
    simp only [e3, heightAt_nI v hq, heightAt_nI v hp, e, nI_clamp (show p < 2 ^ 31 by omega), hv q hq, hv p hp]
theorem nI_sub {a b : Nat} (h : b ≤ a) : nI a - nI b = nI (a - b) := by
  rw [show nI a = nI (a - b) + nI b from by rw [nI_add, Nat.sub_add_cancel h], Int32.add_sub_cancel]
theorem m5_ne {q : Nat} (hq : q < 2 ^ 31) : ¬ nI q = -5 := fun z => absurd (show nI q < 0 from by rw [z]; decide) (nI_pos hq)
theorem RS_turned {u : SV} {a P sc : Nat → Int32} {V : WV} {x : Int32} {q B B' O : Nat} (hB : B ≤ B') (hw : mWF (upd P 29 x)) (hg : RG V P) (hV : ¬ V.1 0 = 0) (hq : q < 12) (s3 : sc 3 = nI q) (p34 : P 34 = nI q) (hk : RK u a B) (hn : RN u a) (pk : ∀ j, j < 12 → P (12 + j) = a (12 + j)) (pn : ∀ j, j < 5 → P (24 + j) = a (24 + j)) (q0 : sc 0 = P 30) (qc : ∃ c : Nat, c ≤ 9999 ∧ P 30 = nI c) (q1 : sc 1 = P 31) (q2 : sc 2 = P 33) (qb : P 33 = 0 ∨ P 33 = 1) (q4 : sc 4 = P 32) (q5 : sc 5 = P 35) (q6 : ∃ b o : Nat, b ≤ B' ∧ o ≤ O ∧ sc 6 = nI b ∧ sc 7 = nI o ∧ P 36 = nI (b + 1048576 * o)) : RS (sc, (upd V.1 2 x, V.2), u.2.2.1, u.2.2.2) (upd P 29 x) B' O := by
  refine ⟨hw, RG_go hg x, ⟨fun z => ?_, fun _ => ⟨?_, ?_⟩⟩, fun j hj => ?_, fun j hj => ?_, ?_, ?_, ?_, ?_, ?_, ?_, ?_, ?_⟩
  · rw [upd_ne (by omega), p34] at z
    exact absurd z (m5_ne (by omega))
  · rw [upd_ne (by omega), p34]
    exact s3
  · dsimp only
    rw [upd_ne (by omega)]
    exact hV
  · obtain ⟨e, k, hk1, hk2⟩ := hk j hj
    rw [upd_ne (by omega), pk j hj]
    exact ⟨e, k, Nat.le_trans hk1 hB, hk2⟩
  · rw [upd_ne (by omega), pn j hj]
    exact hn j hj
  · rw [upd_ne (by omega)]
    exact q0
  · rw [upd_ne (by omega)]
    exact qc
  · rw [upd_ne (by omega)]
    exact q1
  · rw [upd_ne (by omega)]
    exact q2
  · rw [upd_ne (by omega)]
    exact qb
  · rw [upd_ne (by omega)]
    exact q4
  · rw [upd_ne (by omega)]
    exact q5
  · rw [upd_ne (by omega)]
    exact q6
set_option maxHeartbeats 8000000 in
theorem turn_sim {u : SV} {a : Nat → Int32} {B O : Nat} (H : RS u a B O) (hi : F_X5_isIdle a = 0) : ∃ r : Nat, r ≤ 1 ∧ (F_X5_turns a).1 = nI r ∧ (F_X2_turnOnce u).2.1.1 0 = u.2.1.1 0 + nI r ∧ ∃ B' : Nat, (B' = B ∨ (B' = B + 1 ∧ ¬ (F_X2_turnOnce u).1 2 = 0)) ∧ RS (F_X2_turnOnce u) (F_X5_turns a).2 B' O := by
  have hi2 : F_X2_isIdle u = 0 := (idle_eq H).trans hi
  obtain ⟨n1, n2, n3⟩ := idle_no H hi
  have hw' := mWF_turns H.1
  obtain ⟨hw, hg, hl, hk, hn, q1, ⟨c, hc, ec⟩, q3, q4, q5, q6, q7, b, o, hb, ho, q8, q9, q10⟩ := H
  obtain ⟨q, hq, hp⟩ := place_ex hw
  have hpX : F_X3_guidePlace u.2.1 = nI q := (place_eq hg.2.1).trans hp
  obtain ⟨y, hy⟩ := hg.2.2
  have hyq := hy.1 q hq
  have eL : (10 : Int32) + a q = nI (10 + y q) := by rw [hyq.2]; exact nI_add 10 (y q)
  have cL : (nI (10 + y q) ≤ nI c) ↔ 10 + y q ≤ c := nI_leI (by omega) (by omega)
  have u0 : u.2.2.2 0 = a 24 := (hn 0 (by omega)).1
  have u1 : u.2.2.2 1 = a 25 := (hn 1 (by omega)).1
  have u2 : u.2.2.2 2 = a 26 := (hn 2 (by omega)).1
  have u4 : u.2.2.2 4 = a 28 := (hn 4 (by omega)).1
  rw [turns_val hq hp] at hw' ⊢
  rw [turn_X hi2 hq hpX, hg.1 q hq, q1, eL, ec]
  rw [eL, ec] at hw'
  by_cases cc : 10 + y q ≤ c
  · have A34 : laidA a q 34 = a 34 := laidA_h hq (by omega) (by omega) (by omega)
    have A33 : laidA a q 33 = a 33 := laidA_h hq (by omega) (by omega) (by omega)
    have A29 : laidA a q 29 = a 29 := laidA_h hq (by omega) (by omega) (by omega)
    have A26 : laidA a q 26 = a 26 := laidA_h hq (by omega) (by omega) (by omega)
    have A25 : laidA a q 25 = a 25 := laidA_h hq (by omega) (by omega) (by omega)
    have A24 : laidA a q 24 = a 24 := laidA_h hq (by omega) (by omega) (by omega)
    have A28 : laidA a q 28 = a 28 := laidA_h hq (by omega) (by omega) (by omega)
    have A31 : laidA a q 31 = a 31 := laidA_h hq (by omega) (by omega) (by omega)
    have A36 : laidA a q 36 = a 36 := laidA_h hq (by omega) (by omega) (by omega)
    have A30 : laidA a q 30 = nI c - nI (10 + y q) := by rw [laidA_30 hq, eL, ec]
    have A35 : laidA a q 35 = a 35 + 1 := laidA_35 hq
    have wA : mWF (laidA a q) := mWF_congr A24 A26 A29 A33 A34 hw
    have pA : F_X5_place (laidA a q) = nI q := by
      rw [← hp]
      unfold F_X5_place
      rw [A29]
    obtain ⟨gA, vA⟩ := lay_sim (a' := laidA a q) hg n3 hq hpX laidA_q (fun j hj hne => laidA_n (by omega) hne) A29
    have l0 := lay_0 hq hpX
    have eT : F_X2_tensionAt (upd (upd u.1 5 (u.1 5 + 1)) 0 (nI c - nI (10 + y q)), F_X3_layWrap u.2.1, u.2.2.1, u.2.2.2) (nI q) = tens (laidA a q) q := by
      refine tens_X wA (fun z => ?_) (fun z => ?_) (u1.trans A25.symm) gA.1 ?_ hq
      · rw [A34] at z
        rw [upd_ne (by omega), upd_ne (by omega)]
        exact (hl.1 z).1
      · rw [A34] at z
        rw [A34, upd_ne (by omega), upd_ne (by omega)]
        exact (hl.2 z).1
      · rw [A31, upd_ne (by omega), upd_ne (by omega)]
        exact q3
    have eW : (if 0 ≤ u.1 1 + u.2.2.2 1 - 1 then (if 300 ≤ u.1 1 + u.2.2.2 1 - 1 then 300 else u.1 1 + u.2.2.2 1 - 1) else 0) = warmth (laidA a q) := by
      unfold warmth
      rw [A31, A25, q3, u1]
    rw [if_pos (cL.mpr cc), pulls_val hq pA, A28] at hw'
    rw [if_pos (cL.mpr cc), if_pos (cL.mpr cc), eT, eW, u0, u2, u4, q7, pulls_val hq pA, A28]
    have pn : ∀ k, k ≠ 31 → k ≠ 32 → k ≠ 34 → pulled (laidA a q) q k = laidA a q k := fun k h1 h2 h3 => by
      unfold pulled
      rw [upd_ne h1, upd_ne h3, upd_ne h2]
    have p31 : pulled (laidA a q) q 31 = warmth (laidA a q) := upd_eq
    have p32 : pulled (laidA a q) q 32 = tens (laidA a q) q := by
      unfold pulled
      rw [upd_ne (by omega), upd_ne (by omega), upd_eq]
    have p34 : pulled (laidA a q) q 34 = nI q := by
      unfold pulled
      rw [upd_ne (by omega), upd_eq]
    have cn : nI c - nI (10 + y q) = nI (c - (10 + y q)) := nI_sub cc
    have lk : ∀ j, j < 12 → pulled (laidA a q) q (12 + j) = a (12 + j) := fun j hj => by
      rw [pn _ (by omega) (by omega) (by omega), laidA_h hq (by omega) (by omega) (by omega)]
    have ln : ∀ j, j < 5 → pulled (laidA a q) q (24 + j) = a (24 + j) := fun j hj => by
      rw [pn _ (by omega) (by omega) (by omega), laidA_h hq (by omega) (by omega) (by omega)]
    by_cases ct : tens (laidA a q) q ≤ a 28
    · rw [if_pos ct] at hw'
      rw [if_pos ct, if_pos ct]
      have gP : RG (F_X3_layWrap u.2.1) (pulled (laidA a q) q) := RG_congr gA (fun j hj => pn j (by omega) (by omega) (by omega)) (pn 29 (by omega) (by omega) (by omega))
      have wP : mWF (pulled (laidA a q) q) := by
        have h := mWF_pulls wA
        rw [pulls_val hq pA, A28, if_pos ct] at h
        exact h
      obtain ⟨x, e1, e2⟩ := go_val (p := a 26) wP gP.2.1 (by rw [pn 26 (by omega) (by omega) (by omega), A26])
      rw [pn 24 (by omega) (by omega) (by omega), pn 35 (by omega) (by omega) (by omega), A24, A35] at e1
      rw [e2] at hw'
      rw [e1, e2]
      refine ⟨1, by omega, rfl, ?_, B, Or.inl rfl, RS_turned (Nat.le_refl _) hw' gP vA hq ?_ p34 hk hn lk ln ?_ ⟨c - (10 + y q), by omega, ?_⟩ ?_ ?_ ?_ ?_ ?_ ⟨b, o, hb, ho, ?_, ?_, ?_⟩⟩
      · show upd (F_X3_layWrap u.2.1).1 2 x 0 = _
        rw [upd_ne (by omega), l0]
        rfl
      · rw [upd_ne (by omega), upd_eq]
      · rw [pn 30 (by omega) (by omega) (by omega), A30, upd_ne (by omega), upd_ne (by omega), upd_ne (by omega), upd_eq]
      · rw [pn 30 (by omega) (by omega) (by omega), A30, cn]
      · rw [upd_eq, p31]
      · rw [pn 33 (by omega) (by omega) (by omega), A33, upd_ne (by omega), upd_ne (by omega), upd_ne (by omega), upd_ne (by omega), upd_ne (by omega), q4]
      · rw [pn 33 (by omega) (by omega) (by omega), A33]
        exact q5
      · rw [p32, upd_ne (by omega), upd_ne (by omega), upd_eq]
      · rw [pn 35 (by omega) (by omega) (by omega), A35, upd_ne (by omega), upd_ne (by omega), upd_ne (by omega), upd_ne (by omega), upd_eq]
      · rw [upd_ne (by omega), upd_ne (by omega), upd_ne (by omega), upd_ne (by omega), upd_ne (by omega), q8]
      · rw [upd_ne (by omega), upd_ne (by omega), upd_ne (by omega), upd_ne (by omega), upd_ne (by omega), q9]
      · rw [pn 36 (by omega) (by omega) (by omega), A36, q10]
    · rw [if_neg ct] at hw'
      rw [if_neg ct, if_neg ct]
      have wP : mWF (upd (upd (pulled (laidA a q) q) 33 1) 36 (laidA a q 36 + 1)) := by
        have h := mWF_pulls wA
        rw [pulls_val hq pA, A28, if_neg ct] at h
        exact h
      have pp : ∀ k, k ≠ 33 → k ≠ 36 → upd (upd (pulled (laidA a q) q) 33 1) 36 (laidA a q 36 + 1) k = pulled (laidA a q) q k := fun k h1 h2 => by
        rw [upd_ne h2, upd_ne h1]
      have p33 : upd (upd (pulled (laidA a q) q) 33 1) 36 (laidA a q 36 + 1) 33 = 1 := by
        rw [upd_ne (by omega), upd_eq]
      have p36 : upd (upd (pulled (laidA a q) q) 33 1) 36 (laidA a q 36 + 1) 36 = laidA a q 36 + 1 := upd_eq
      have gP : RG (F_X3_layWrap u.2.1) (upd (upd (pulled (laidA a q) q) 33 1) 36 (laidA a q 36 + 1)) := RG_congr gA (fun j hj => by rw [pp j (by omega) (by omega), pn j (by omega) (by omega) (by omega)]) (by rw [pp 29 (by omega) (by omega), pn 29 (by omega) (by omega) (by omega)])
      obtain ⟨x, e1, e2⟩ := go_val (p := a 26) wP gP.2.1 (by rw [pp 26 (by omega) (by omega), pn 26 (by omega) (by omega) (by omega), A26])
      rw [pp 24 (by omega) (by omega), pp 35 (by omega) (by omega), pn 24 (by omega) (by omega) (by omega), pn 35 (by omega) (by omega) (by omega), A24, A35] at e1
      rw [e2] at hw'
      rw [e1, e2]
      refine ⟨1, by omega, rfl, ?_, B + 1, Or.inr ⟨rfl, ?_⟩, RS_turned (Nat.le_succ _) hw' gP vA hq ?_ ((pp 34 (by omega) (by omega)).trans p34) hk hn (fun j hj => (pp _ (by omega) (by omega)).trans (lk j hj)) (fun j hj => (pp _ (by omega) (by omega)).trans (ln j hj)) ?_ ⟨c - (10 + y q), by omega, ?_⟩ ?_ ?_ (Or.inr p33) ?_ ?_ ⟨b + 1, o, by omega, ho, ?_, ?_, ?_⟩⟩
      · show upd (F_X3_layWrap u.2.1).1 2 x 0 = _
        rw [upd_ne (by omega), l0]
        rfl
      · dsimp only
        rw [upd_ne (by omega), upd_eq]
        decide
      · rw [upd_ne (by omega), upd_ne (by omega), upd_ne (by omega), upd_eq]
      · rw [pp 30 (by omega) (by omega), pn 30 (by omega) (by omega) (by omega), A30, upd_ne (by omega), upd_ne (by omega), upd_ne (by omega), upd_ne (by omega), upd_ne (by omega), upd_eq]
      · rw [pp 30 (by omega) (by omega), pn 30 (by omega) (by omega) (by omega), A30, cn]
      · rw [pp 31 (by omega) (by omega), p31, upd_ne (by omega), upd_ne (by omega), upd_eq]
      · rw [p33, upd_ne (by omega), upd_eq]
      · rw [pp 32 (by omega) (by omega), p32, upd_ne (by omega), upd_ne (by omega), upd_ne (by omega), upd_ne (by omega), upd_eq]
      · rw [pp 35 (by omega) (by omega), pn 35 (by omega) (by omega) (by omega), A35, upd_ne (by omega), upd_ne (by omega), upd_ne (by omega), upd_ne (by omega), upd_ne (by omega), upd_ne (by omega), upd_eq]
      · rw [upd_eq, q8, nI_1]
      · rw [upd_ne (by omega), upd_ne (by omega), upd_ne (by omega), upd_ne (by omega), upd_ne (by omega), upd_ne (by omega), upd_ne (by omega), q9]
      · rw [p36, A36, q10, nI_1]
        exact congrArg nI (by omega)
  · have d5 : ∀ k, k ≠ 30 → k ≠ 35 → upd (upd a 35 (a 35 + 1)) 30 0 k = a k := fun k h1 h2 => by rw [upd_ne h1, upd_ne h2]
    rw [if_neg (fun z => cc (cL.mp z))] at hw' ⊢
    rw [if_neg (fun z => cc (cL.mp z))]
    dsimp only at hw' ⊢
    refine ⟨0, by omega, nI_0.symm, by rw [nI_0, Int32.add_zero], B, Or.inl rfl, hw', RG_congr hg (fun j hj => d5 j (by omega) (by omega)) (d5 29 (by omega) (by omega)), ?_, fun j hj => ?_, fun j hj => ?_, ?_⟩
    · unfold RLa
      rw [d5 34 (by omega) (by omega)]
      dsimp only
      rw [upd_ne (by omega), upd_ne (by omega)]
      exact hl
    · rw [d5 _ (by omega) (by omega)]
      exact hk j hj
    · rw [d5 _ (by omega) (by omega)]
      exact hn j hj
    · unfold RQ
      dsimp only
      rw [d5 31 (by omega) (by omega), d5 32 (by omega) (by omega), d5 33 (by omega) (by omega), d5 36 (by omega) (by omega)]
      refine ⟨?_, ⟨0, by omega, ?_⟩, ?_, ?_, q5, ?_, ?_, b, o, hb, ho, ?_, ?_, q10⟩
      · rw [upd_eq, upd_eq]
      · rw [upd_eq, nI_0]
      · rw [upd_ne (by omega), upd_ne (by omega), q3]
      · rw [upd_ne (by omega), upd_ne (by omega), q4]
      · rw [upd_ne (by omega), upd_ne (by omega), q6]
      · rw [upd_ne (by omega), upd_eq, upd_ne (by omega), upd_eq, q7]
      · rw [upd_ne (by omega), upd_ne (by omega), q8]
      · rw [upd_ne (by omega), upd_ne (by omega), q9]
