/-! A round of the guide, and the step -/
def PK : Nat → Int32 → Nat → Int32
  | 0, p1, j => 0
  | n + 1, p1, j => (if 22 ≤ (nI j) then (nI j) else (if (((nI j) * p1) - ((nI j) * p1) / 22 * 22) = 0 then (nI j) else PK n p1 (j + 1)))
theorem PK_eq (xv : XV) (p1 : Int32) : ∀ n j : Nat, K_X4_period_13 n xv p1 j = PK n p1 j := by
  intro n
  induction n with
  | zero => intro j; rfl
  | succ n ih =>
    intro j
    unfold K_X4_period_13 PK
    rw [ih]
theorem fin_PK : ∀ t : Fin 12, 0 < t.val → PK 22 (nI t.val) 1 = nI (perN t.val) := by decide +kernel
theorem per_w (xv : XV) {t : Nat} (h1 : 1 ≤ t) (ht : t ≤ 11) : F_X4_period xv (nI t) = nI (perN t) := by
  unfold F_X4_period
  rw [rng0 h1 ht, if_neg (show ¬ (1 : Int32) = 0 from by decide), PK_eq]
  exact fin_PK ⟨t, by omega⟩ h1
theorem fin_per : ∀ t : Fin 12, 0 < t.val → (if (22 - 22 / (nI (perN t.val)) * (nI (perN t.val))) = 0 then (if (((nI (perN t.val)) * nI t.val) - ((nI (perN t.val)) * nI t.val) / 22 * 22) = 0 then (if (nI (perN t.val)) = 1 then (1 : Int32) else (if ((nI t.val * ((nI (perN t.val)) - 1)) - (nI t.val * ((nI (perN t.val)) - 1)) / 22 * 22) = 0 then 0 else 1)) else 0) else 0) = 1 := by decide +kernel
theorem per_le (t : Nat) : 1 ≤ perN t ∧ perN t ≤ 22 := by
  unfold perN
  split <;> omega
theorem per_3 (t : Nat) : perN t = 11 ∨ perN t = 2 ∨ perN t = 22 := by
  unfold perN
  split <;> simp
theorem per_lt {t : Nat} (h : ¬ perN t = 22) : perN t ≤ 11 := by
  have := per_3 t
  omega
theorem bare_pos (h : Nat → Nat) : ¬ nI (bareS h) < 0 := nI_pos (by have := bareS_le h; omega)
theorem round_120 {wob t : Nat} (hw : wob ≤ 5) (h1 : 1 ≤ t) (ht : t ≤ 11) {xv : XV} (hb : F_X2_number xv.2.1 2 = nI wob) : ∃ v : WV, K_L_isRound_120 xv (nI t) 1 = (1, wIm xv v) := by
  unfold K_L_isRound_120
  dsimp only
  obtain ⟨b, v1, b1, b2, e1, hm⟩ := best_w hw hb
  rw [e1, if_neg (show ¬ (1 : Int32) = 0 from by decide)]
  obtain ⟨v2, e2⟩ := if_0 (t := b) (N := 22) (xv := wIm xv v1) b1 b2 hw (by omega) (by omega) hb
  have e2 : F_X4_ifTraverse (wIm xv v1) (nI b) 22 0 = (nI (evS (simH b wob 22)), wIm (wIm xv v1) v2) := e2
  dsimp only
  rw [e2]
  dsimp only
  obtain ⟨v3, e3⟩ := if_0 (t := t) (N := 22) (xv := wIm (wIm xv v1) v2) h1 ht hw (by omega) (by omega) hb
  have e3 : F_X4_ifTraverse (wIm (wIm xv v1) v2) (nI t) 22 0 = (nI (evS (simH t wob 22)), wIm (wIm (wIm xv v1) v2) v3) := e3
  rw [e3]
  dsimp only
  have l1 := evS_le t wob 22
  rw [if_neg (nI_nlt (hm t h1 ht) (by omega))]
  obtain ⟨v4, e4⟩ := if_2 (t := t) (N := 12) (xv := wIm (wIm (wIm xv v1) v2) v3) h1 ht hw (by omega) (by omega) hb
  have e4 : F_X4_ifTraverse (wIm (wIm (wIm xv v1) v2) v3) (nI t) 12 2 = (nI (bareS (simH t wob 12)), wIm (wIm (wIm (wIm xv v1) v2) v3) v4) := e4
  rw [e4]
  dsimp only
  have l2 := bareS_le (simH t wob 12)
  have c9 : (0 < nI (bareS (simH t wob 12))) ↔ 0 < bareS (simH t wob 12) := nI_ltI (a := 0) (by omega) (by omega)
  by_cases q : 0 < bareS (simH t wob 12)
  · rw [if_pos (c9.mpr q)]
    exact ⟨v4, rfl⟩
  · rw [if_neg (fun z => q (c9.mp z))]
    obtain ⟨v5, e5⟩ := if_0 (t := t) (N := 12) (xv := wIm (wIm (wIm (wIm xv v1) v2) v3) v4) h1 ht hw (by omega) (by omega) hb
    have e5 : F_X4_ifTraverse (wIm (wIm (wIm (wIm xv v1) v2) v3) v4) (nI t) 12 0 = (nI (evS (simH t wob 12)), wIm (wIm (wIm (wIm (wIm xv v1) v2) v3) v4) v5) := e5
    rw [e5]
    dsimp only
    have z := (fin_12 ⟨t, by omega⟩ ⟨wob, by omega⟩).resolve_left q
    have z : evS (simH t wob 12) = 0 := z
    rw [z, if_pos nI_0]
    exact ⟨v5, rfl⟩
theorem round_w {wob t : Nat} (hw : wob ≤ 5) (h1 : 1 ≤ t) (ht : t ≤ 11) {xv : XV} (hb : xv.2.1.2.2.2 2 = nI wob) : ∃ v : WV, F_L_isRound xv (nI t) = (1, wIm xv v) := by
  have hb2 : F_X2_number xv.2.1 2 = nI wob := (num_2 _).trans hb
  unfold F_L_isRound
  dsimp only
  rw [per_w xv h1 ht, cnt_22, hb, fin_per ⟨t, by omega⟩ h1]
  have hp := per_le t
  have c0 : (nI wob = 0) ↔ wob = 0 := nI_eq (b := 0) (by omega) (by omega)
  by_cases q : wob = 0
  · subst q
    rw [if_pos (c0.mpr rfl), if_neg (show ¬ (1 : Int32) = 0 from by decide)]
    have c2 : ((22 : Int32) ≤ nI (perN t)) ↔ 22 ≤ perN t := nI_leI (a := 22) (by omega) (by omega)
    by_cases q2 : perN t = 22
    · rw [if_pos (c2.mpr (by omega))]
      obtain ⟨f1, f2, f3⟩ := fin_22 ⟨t, by omega⟩ h1 q2
      have f1 : evS (simH t 0 22) = 1 := f1
      have f2 : evS (simH t 0 44) = 2 := f2
      have f3 : bareS (simH t 0 22) = 0 := f3
      obtain ⟨v1, e1⟩ := if_0 (t := t) (N := 22) (xv := xv) h1 ht hw (by omega) (by omega) hb2
      have e1 : F_X4_ifTraverse xv (nI t) 22 0 = (nI (evS (simH t 0 22)), wIm xv v1) := e1
      rw [e1, f1]
      dsimp only
      rw [if_pos (show nI 1 = 1 from rfl)]
      obtain ⟨v2, e2⟩ := if_0 (t := t) (N := 44) (xv := wIm xv v1) h1 ht hw (by omega) (by omega) hb2
      have e2 : F_X4_ifTraverse (wIm xv v1) (nI t) 44 0 = (nI (evS (simH t 0 44)), wIm (wIm xv v1) v2) := e2
      rw [e2, f2]
      dsimp only
      rw [if_pos (show nI 2 = 2 from rfl)]
      obtain ⟨v3, e3⟩ := if_2 (t := t) (N := 22) (xv := wIm (wIm xv v1) v2) h1 ht hw (by omega) (by omega) hb2
      have e3 : F_X4_ifTraverse (wIm (wIm xv v1) v2) (nI t) 22 2 = (nI (bareS (simH t 0 22)), wIm (wIm (wIm xv v1) v2) v3) := e3
      rw [e3, f3]
      dsimp only
      rw [if_pos nI_0]
      obtain ⟨v4, e4⟩ := round_120 (wob := 0) (t := t) hw h1 ht (xv := wIm (wIm (wIm xv v1) v2) v3) hb2
      exact ⟨v4, e4⟩
    · rw [if_neg (fun z => q2 (by have := c2.mp z; omega))]
      have hp2 := per_lt q2
      obtain ⟨v1, e1⟩ := if_2 (t := t) (N := 11 * perN t) (xv := xv) h1 ht hw (by omega) (by omega) hb2
      have e0 : (11 : Int32) * nI (perN t) = nI (11 * perN t) := (Int32.ofNat_mul 11 (perN t)).symm
      rw [e0, e1]
      dsimp only
      rw [if_neg (bare_pos _)]
      obtain ⟨v4, e4⟩ := round_120 (wob := 0) (t := t) hw h1 ht (xv := wIm xv v1) hb2
      exact ⟨v4, e4⟩
  · rw [if_neg (fun z => q (c0.mp z))]
    exact round_120 hw h1 ht hb2
set_option maxHeartbeats 4000000 in
theorem step_ahead {B : Nat} {xv yv : XV} (H : Inv B xv yv) (p1 y wr co tu br : Int32) : Fine (B + 1) (K_L_isStep_891 xv yv p1 y wr co tu br) := by
  have H0 := H
  obtain ⟨hx, hy, he, hw⟩ := H
  unfold K_L_isStep_891
  dsimp only
  obtain ⟨a, ha, ea⟩ := up_nat y (n := 11) (by omega) (by omega)
  obtain ⟨b, hb, eb⟩ := up_nat (y >>> ((4 : Int32) &&& 31)) (n := 40) (by omega) (by omega)
  have ea : 1 + F_L_up y 11 = nI (1 + a) := (congrArg (fun z => (1 : Int32) + z) ea).trans (nI_add 1 a)
  have eb : 1 + F_L_up (y >>> ((4 : Int32) &&& 31)) 40 = nI (1 + b) := (congrArg (fun z => (1 : Int32) + z) eb).trans (nI_add 1 b)
  rw [ea, eb]
  obtain ⟨h, k, w, c, m, hU⟩ := id hw
  obtain ⟨wob, -, hwb, ew⟩ := hU.2.2.1 2 (by omega)
  have hwb : wob ≤ 5 := hwb
  have ex : F_X2_number xv.2.1 2 = nI wob := (num_2 _).trans ew
  have ey : F_X2_number yv.2.1 2 = nI wob := by
    rw [← he]
    exact ex
  obtain ⟨v1, e1⟩ := if_0 (t := 1 + a) (N := 1 + b) (xv := xv) (by omega) (by omega) hwb (by omega) (by omega) ex
  obtain ⟨v2, e2⟩ := if_0 (t := 1 + a) (N := 1 + b) (xv := yv) (by omega) (by omega) hwb (by omega) (by omega) ey
  rw [e1, e2]
  dsimp only
  rw [if_pos rfl]
  obtain ⟨v3, e3⟩ := round_w (wob := wob) (t := 1 + a) hwb (by omega) (by omega) (xv := wIm xv v1) ew
  rw [e3]
  dsimp only
  rw [if_neg (show ¬ (1 : Int32) = 0 from by decide)]
  exact ⟨rfl, hx, hy, he, Well_mono (by omega) hw⟩
set_option maxHeartbeats 4000000 in
theorem step_w {B : Nat} {xv yv : XV} (H : Inv B xv yv) (hB : B < 2 ^ 20) (p1 : Int32) : Fine (B + 1) (F_L_isStep xv yv p1) := by
  unfold F_L_isStep
  have a := step_wind H p1 (p1 >>> ((4 : Int32) &&& 31))
  have b := step_set H p1 (p1 >>> ((4 : Int32) &&& 31))
  have c := step_knot H hB p1 (p1 >>> ((4 : Int32) &&& 31))
  have d := step_cone H p1 (p1 >>> ((4 : Int32) &&& 31))
  have e := step_doff H p1 (p1 >>> ((4 : Int32) &&& 31))
  have f := step_ahead H p1 (p1 >>> ((4 : Int32) &&& 31)) (F_X4_count xv 0) (F_X4_count xv 1) (F_X4_count xv 12) (F_X4_count xv 13)
  by_cases c0 : F_L_up p1 14 = 0
  · rw [if_pos c0]
    exact a
  rw [if_neg c0]
  by_cases c1 : F_L_up p1 14 = 1
  · rw [if_pos c1]
    exact a
  rw [if_neg c1]
  by_cases c2 : F_L_up p1 14 = 2
  · rw [if_pos c2]
    exact a
  rw [if_neg c2]
  by_cases c3 : F_L_up p1 14 = 3
  · rw [if_pos c3]
    exact a
  rw [if_neg c3]
  by_cases c4 : F_L_up p1 14 = 4
  · rw [if_pos c4]
    exact a
  rw [if_neg c4]
  by_cases c5 : F_L_up p1 14 = 5
  · rw [if_pos c5]
    exact b
  rw [if_neg c5]
  by_cases c6 : F_L_up p1 14 = 6
  · rw [if_pos c6]
    exact b
  rw [if_neg c6]
  by_cases c7 : F_L_up p1 14 = 7
  · rw [if_pos c7]
    exact b
  rw [if_neg c7]
  by_cases c8 : F_L_up p1 14 = 8
  · rw [if_pos c8]
    exact c
  rw [if_neg c8]
  by_cases c9 : F_L_up p1 14 = 9
  · rw [if_pos c9]
    exact c
  rw [if_neg c9]
  by_cases c10 : F_L_up p1 14 = 10
  · rw [if_pos c10]
    exact c
  rw [if_neg c10]
  by_cases c11 : F_L_up p1 14 = 11
  · rw [if_pos c11]
    exact d
  rw [if_neg c11]
  by_cases c12 : F_L_up p1 14 = 12
  · rw [if_pos c12]
    exact e
  rw [if_neg c12]
  exact f
