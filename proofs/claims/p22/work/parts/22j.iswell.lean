/-! isWell answers true on a well state -/
/-- with another trial state -/
def wTr (xv : XV) (v : SV) : XV := (xv.1, xv.2.1, v, xv.2.2.2.1, xv.2.2.2.2.1, xv.2.2.2.2.2.1, xv.2.2.2.2.2.2)
theorem brk_K : ∀ (n j : Nat) (xv : XV), j + n = 1002 → 1 ≤ j → j ≤ 1001 → sB xv.2.2.1 → ∃ (a : Int32) (v : SV), K_X4_breaksIn_36 n xv j = (a, wTr xv v) ∧ sB v ∧ (a = -5 ∨ ∃ t : Nat, 1 ≤ t ∧ t ≤ 1000 ∧ a = nI t) := by
  intro n
  induction n with
  | zero => intro j xv h1 h2 h3; omega
  | succ n ih =>
    intro j xv h1 h2 h3 hs
    unfold K_X4_breaksIn_36
    dsimp only
    have c9 : ((1000 : Int32) < nI j) ↔ 1000 < j := nI_ltI (a := 1000) (by omega) (by omega)
    by_cases c : 1000 < j
    · rw [if_pos (c9.mpr c)]
      exact ⟨-5, xv.2.2.1, rfl, hs, Or.inl rfl⟩
    · rw [if_neg (fun z => c (c9.mp z))]
      by_cases hi : F_X2_isIdle xv.2.2.1 = 0
      · rw [if_pos hi]
        have h2s := sB_turnOnce hs
        by_cases hb : (F_X2_turnOnce xv.2.2.1).1 2 = 0
        · rw [if_pos hb]
          obtain ⟨a, v, e, e2, e3⟩ := ih (j + 1) (wTr xv (F_X2_turnOnce xv.2.2.1)) (by omega) (by omega) (by omega) h2s
          exact ⟨a, v, e, e2, e3⟩
        · rw [if_neg hb]
          exact ⟨nI j, F_X2_turnOnce xv.2.2.1, rfl, h2s, Or.inr ⟨j, h2, by omega, rfl⟩⟩
      · rw [if_neg hi]
        exact ⟨-5, xv.2.2.1, rfl, hs, Or.inl rfl⟩
theorem brk_same : ∀ (n j : Nat) (xv yv : XV), xv.2.2.1 = yv.2.2.1 → (K_X4_breaksIn_36 n xv j).1 = (K_X4_breaksIn_36 n yv j).1 := by
  intro n
  induction n with
  | zero => intro j xv yv h; rfl
  | succ n ih =>
    intro j xv yv h
    unfold K_X4_breaksIn_36
    dsimp only
    rw [h]
    split
    · rfl
    · split
      · split
        · exact ih (j + 1) _ _ rfl
        · rfl
      · rfl
theorem breaks_same {xv yv : XV} (h : xv.2.1 = yv.2.1) : (F_X4_breaksIn xv).1 = (F_X4_breaksIn yv).1 := by
  unfold F_X4_breaksIn
  rw [h]
  split
  · split
    · exact brk_same 1001 1 _ _ rfl
    · rfl
  · rfl
theorem breaks_w {xv : XV} (hx : xWF xv) : ∃ (a : Int32) (v : SV), F_X4_breaksIn xv = (a, wTr xv v) ∧ xWF (wTr xv v) ∧ ((xv.2.1.1 2 = 0 ∧ F_X2_isConeEmpty xv.2.1 = 0 ∧ (a = -5 ∨ ∃ t : Nat, 1 ≤ t ∧ t ≤ 1000 ∧ a = nI t)) ∨ ((¬ xv.2.1.1 2 = 0 ∨ ¬ F_X2_isConeEmpty xv.2.1 = 0) ∧ a = -4)) := by
  unfold F_X4_breaksIn
  by_cases h1 : xv.2.1.1 2 = 0
  · rw [if_pos h1]
    by_cases h2 : F_X2_isConeEmpty xv.2.1 = 0
    · rw [if_pos h2]
      obtain ⟨a, v, e, e2, e3⟩ := brk_K 1001 1 (wTr xv xv.2.1) (by omega) (by omega) (by omega) hx.1
      exact ⟨a, v, e, ⟨hx.1, e2, hx.2.2⟩, Or.inl ⟨h1, h2, e3⟩⟩
    · rw [if_neg h2]
      exact ⟨-4, xv.2.2.1, rfl, hx, Or.inr ⟨Or.inr h2, rfl⟩⟩
  · rw [if_neg h1]
    exact ⟨-4, xv.2.2.1, rfl, hx, Or.inr ⟨Or.inl h1, rfl⟩⟩
theorem back_w {v : WV} {h : Nat → Nat} {w : Nat} (H : WW v h w) : F_X3_guideGoesBack v = if w < 11 then 0 else 1 := by
  have c : (nI w < 11) ↔ w < 11 := nI_ltI (b := 11) (by have := H.2.2.2.2; omega) (by omega)
  unfold F_X3_guideGoesBack
  rw [H.2.2.2.1]
  by_cases q : w < 11
  · rw [if_pos (c.mpr q), if_pos q]
  · rw [if_neg (fun z => q (c.mp z)), if_neg q]
theorem ite10 {p : Prop} [Decidable p] : ((if p then (1 : Int32) else 0) = 0) ↔ ¬ p := by
  split
  · rename_i h
    exact ⟨fun z => absurd z (by decide), fun z => absurd h z⟩
  · rename_i h
    exact ⟨fun _ => h, fun _ => rfl⟩
set_option maxHeartbeats 8000000 in
theorem well_292 {B : Nat} {xv : XV} {h k : Nat → Nat} {w c m : Nat} (hx : xWF xv) (hU : WU xv.2.1 h k w c m B) (hB : B < 2 ^ 20) : ∃ v : SV, K_L_isWell_292 xv (nI (sumN h 12)) (nI (sumN k 12)) (nI (sumN (ribN h) 12)) (nI (maxN h 12)) (nI (minN 200 h 12)) (nI (baN k 12)) 1 = (1, wTr xv v) ∧ xWF (wTr xv v) := by
  obtain ⟨hW, hK, hN, ⟨hc, hc9⟩, ⟨hm, hm3⟩, hb, hl⟩ := hU
  have hsum := hW.1.sum (n := 12) (by omega)
  have hmx := hW.1.max (n := 12) (by omega)
  have hmin : minN 200 h 12 = minN (maxN h 12) h 12 := minN_same (m := 200) (k := maxN h 12) (h := h) (hW.1 0 (by omega)).1 (le_maxN (by omega)) 11
  have hev := ev_w hW
  have hml : nI (maxN h 12) - nI (minN 200 h 12) = nI (evS h) := by
    rw [hmin, nI_sub (minN_le 12)]
    rfl
  have hpl := plN_lt hW.2.2.2.2
  have hp := place_w hW.2.2.2.1 hW.2.2.2.2
  have hbk := back_w hW
  have hful := full_w hW
  have hemp : F_X2_isConeEmpty xv.2.1 = if c = 0 then 1 else 0 := by
    have c9 : (nI c = 0) ↔ c = 0 := nI_eq (b := 0) (by omega) (by omega)
    unfold F_X2_isConeEmpty
    rw [hc]
    by_cases q : c = 0
    · rw [if_pos (c9.mpr q), if_pos q]
    · rw [if_neg (fun z => q (c9.mp z)), if_neg q]
  obtain ⟨a, v, e, hxw, ha⟩ := breaks_w hx
  unfold K_L_isWell_292
  dsimp only
  rw [e]
  dsimp only
  have n10 : ¬ (1 : Int32) = 0 := by decide
  have g0 : F_X4_count (wTr xv v) 0 = nI (sumN h 12) := (cnt_0 _).trans hW.2.1
  have g11 : F_X4_count (wTr xv v) 11 = nI (sumN k 12) := (cnt_11 _).trans (knots_w hK)
  have g10 : F_X4_count (wTr xv v) 10 = nI (sumN (ribN h) 12) := (cnt_10 _).trans (ribs_w hW)
  have g9 : F_X4_count (wTr xv v) 9 = nI (evS h) := (cnt_9 _).trans hev
  have g8 : F_X4_count (wTr xv v) 8 = F_X4_oneIf (F_X3_isFull xv.2.1.2.1) := cnt_8 _
  have g1 : F_X4_count (wTr xv v) 1 = nI c := (cnt_1 _).trans hc
  have g7 : F_X4_count (wTr xv v) 7 = F_X4_oneIf (F_X2_isConeEmpty xv.2.1) := cnt_7 _
  have g6 : F_X4_count (wTr xv v) 6 = F_X4_oneIf (xv.2.1.1 2) := cnt_6 _
  have g4 : F_X4_count (wTr xv v) 4 = nI m := (cnt_4 _).trans hm
  have g2 : F_X4_count (wTr xv v) 2 = nI (plN w) := (cnt_2 _).trans hp
  have g3 : F_X4_count (wTr xv v) 3 = F_X4_oneIf (F_X3_guideGoesBack xv.2.1.2.1) := cnt_3 _
  have g5 : F_X4_count (wTr xv v) 5 = xv.2.1.1 4 := cnt_5 _
  have cB : (if F_X4_count (wTr xv v) 6 = 1 then (1 : Int32) else 0) = 0 ↔ xv.2.1.1 2 = 0 := by
    rw [ite10, g6, one_eq]
    exact Decidable.not_not
  have cE : (if F_X4_count (wTr xv v) 7 = 1 then (1 : Int32) else 0) = 0 ↔ F_X2_isConeEmpty xv.2.1 = 0 := by
    rw [ite10, g7, one_eq]
    exact Decidable.not_not
  have e506 := tree_506 (e := 1) (wr := nI (sumN h 12)) (kn := nI (sumN k 12)) (ri := nI (sumN (ribN h) 12)) (ml := nI (maxN h 12) - nI (minN 200 h 12)) (mo := nI (maxN h 12)) (b := if F_X4_count (wTr xv v) 7 = 1 then 1 else 0) n10 g0.symm g11.symm g10.symm (hml.trans g9.symm)
    (c8 := F_X4_count (wTr xv v) 8) (by
      rw [g8, hful]
      have c9 : (nI (maxN h 12) = 200) ↔ maxN h 12 = 200 := nI_eq (b := 200) (by omega) (by omega)
      by_cases q : maxN h 12 < 200
      · refine Or.inr ⟨fun z => (one_eq.mp z) (if_pos q), fun z => ?_⟩
        have := c9.mp z
        omega
      · refine Or.inl ⟨one_eq.mpr (fun z => ?_), c9.mpr (by omega)⟩
        rw [if_neg q] at z
        exact absurd z (by decide))
    (c1 := F_X4_count (wTr xv v) 1) (by
      rw [g1, g7, hemp]
      have c9 : (nI c = 0) ↔ c = 0 := nI_eq (b := 0) (by omega) (by omega)
      by_cases q : c = 0
      · refine Or.inl ⟨c9.mpr q, ?_⟩
        rw [if_pos q, if_pos (one_eq.mpr (by decide))]
      · refine Or.inr ⟨fun z => q (c9.mp z), ?_⟩
        rw [if_neg q, if_neg (fun z => (one_eq.mp z) rfl)])
    (c4 := F_X4_count (wTr xv v) 4) (by rw [g4]; exact nI_pos (by omega)) (by rw [g4]; exact nI_nlt (a := 300) hm3 (by omega))
    (c2 := F_X4_count (wTr xv v) 2) (by rw [g2]; exact nI_pos (by omega)) (by rw [g2]; exact nI_nlt (a := 11) (by omega) (by omega))
    (c3 := F_X4_count (wTr xv v) 3) (by
      have c9 : ((0 : Int32) < nI (plN w)) ↔ 0 < plN w := nI_ltI (a := 0) (by omega) (by omega)
      rw [g2, g3, hbk]
      by_cases q : 0 < plN w
      · exact Or.inl (c9.mpr q)
      · refine Or.inr ⟨fun z => q (c9.mp z), one_0.mpr ?_⟩
        rw [if_pos]
        have := hW.2.2.2.2
        unfold plN at q
        split at q <;> omega) (by
      have c9 : (nI (plN w) < (11 : Int32)) ↔ plN w < 11 := nI_ltI (b := 11) (by omega) (by omega)
      rw [g2, g3, hbk]
      by_cases q : plN w < 11
      · exact Or.inl (c9.mpr q)
      · refine Or.inr ⟨fun z => q (c9.mp z), one_eq.mpr ?_⟩
        rw [if_neg]
        · decide
        · have := hW.2.2.2.2
          unfold plN at q
          split at q <;> omega)
  rw [e506]
  have e571 := tree_571 (e := 1) (a := if F_X4_count (wTr xv v) 6 = 1 then 1 else 0) (b := if F_X4_count (wTr xv v) 7 = 1 then 1 else 0) (z := a) (wr := nI (sumN h 12)) (c5 := F_X4_count (wTr xv v) 5) n10 (by
      rcases ha with ⟨h1, h2, h3⟩ | ⟨h1, h3⟩
      · refine Or.inl ⟨cB.mpr h1, cE.mpr h2, ?_⟩
        rcases h3 with h3 | ⟨t, t1, t2, t3⟩
        · exact Or.inl h3
        · refine Or.inr ⟨fun z => ?_, ?_, ?_⟩
          · rw [t3] at z
            exact m5_ne (by omega) z
          · rw [t3]
            exact nI_nlt (a := t) (b := 1) t1 (by omega)
          · rw [t3]
            exact nI_nlt (a := 1000) t2 (by omega)
      · exact Or.inr ⟨h1.imp (fun q z => q (cB.mp z)) (fun q z => q (cE.mp z)), h3⟩) (by
      have c9 : ((0 : Int32) < nI (sumN h 12)) ↔ 0 < sumN h 12 := nI_ltI (a := 0) (by omega) (by omega)
      by_cases q : 0 < sumN h 12
      · exact Or.inl (c9.mpr q)
      · refine Or.inr ⟨fun z => q (c9.mp z), ?_⟩
        rw [g5]
        rcases hl with ⟨_, _, z, _⟩ | ⟨p, hp, _, hpos⟩
        · exact z
        · exfalso
          have h1 := le_maxN (h := h) hp
          have h2 : h p ≤ sumN h 12 := by
            have hs := (sumN_up (h := h) (i := p) (v := 0) (n := 12)).1 hp
            omega
          omega)
  rw [e571]
  unfold K_L_isWell_573
  rw [if_neg n10, hml]
  have hw : F_X4_wrong (wTr xv v) = if xv.2.1.1 2 = 0 then (if F_X2_isConeEmpty xv.2.1 = 0 then (if F_X2_hasBadPlace xv.2.1 = 0 then (if F_X3_ribbons xv.2.1.2.1 ≤ 0 then (if F_X3_evenness xv.2.1.2.1 < 10 then 0 else 5) else 4) else 3) else 2) else 1 := rfl
  rw [bads_w hK hB, ribs_w hW, hev] at hw
  have hevl : evS h ≤ 200 := by
    unfold evS
    omega
  refine ⟨v, ?_, hxw⟩
  by_cases q1 : xv.2.1.1 2 = 0
  · rw [if_pos q1] at hw
    rw [if_pos (cB.mpr q1)]
    by_cases q2 : F_X2_isConeEmpty xv.2.1 = 0
    · rw [if_pos q2] at hw
      rw [if_pos (cE.mpr q2)]
      by_cases q3 : nI (baN k 12) = 0
      · rw [if_pos q3] at hw
        rw [if_pos q3]
        by_cases q4 : nI (sumN (ribN h) 12) ≤ 0
        · rw [if_pos q4] at hw
          rw [if_pos q4]
          have c9 : (nI (evS h) < 10) ↔ evS h < 10 := nI_ltI (b := 10) (by omega) (by omega)
          have c8 : (nI (evS h) ≤ 9) ↔ evS h ≤ 9 := nI_leI (b := 9) (by omega) (by omega)
          by_cases q5 : evS h < 10
          · rw [if_pos (c9.mpr q5)] at hw
            rw [if_pos (c8.mpr (by omega)), if_pos hw]
          · rw [if_neg (fun z => q5 (c9.mp z))] at hw
            rw [if_neg (fun z => q5 (by have := c8.mp z; omega)), if_pos hw]
        · rw [if_neg q4] at hw
          rw [if_neg q4, if_pos hw]
      · rw [if_neg q3] at hw
        rw [if_neg q3, if_pos hw]
    · rw [if_neg q2] at hw
      rw [if_neg (fun z => q2 (cE.mp z)), if_pos hw]
  · rw [if_neg q1] at hw
    rw [if_neg (fun z => q1 (cB.mp z)), if_pos hw]
set_option maxHeartbeats 8000000 in
theorem well_K {B : Nat} {xv : XV} {h k : Nat → Nat} {w : Nat} (hW : WW xv.2.1.2.1 h w) (hK : KN xv.2.1.2.2.1 h k B) (hB : B < 2 ^ 20) : ∀ n j : Nat, j + n = 13 → j ≤ 12 → K_L_isWell_23 n xv j (nI (sumN h j)) (nI (sumN k j)) (nI (sumN (ribN h) j)) (nI (maxN h j)) (nI (minN 200 h j)) (nI (baN k j)) 1 = K_L_isWell_292 xv (nI (sumN h 12)) (nI (sumN k 12)) (nI (sumN (ribN h) 12)) (nI (maxN h 12)) (nI (minN 200 h 12)) (nI (baN k 12)) 1 := by
  intro n
  induction n with
  | zero => intro j h1 h2; omega
  | succ n ih =>
    intro j h1 h2
    unfold K_L_isWell_23
    dsimp only
    by_cases hj : 12 ≤ j
    · have : j = 12 := by omega
      subst this
      rw [if_pos ((c12 (by omega)).mpr (Nat.le_refl _))]
    · have hj : j < 12 := by omega
      have n10 : ¬ (1 : Int32) = 0 := by decide
      rw [if_neg (fun z => absurd ((c12 (by omega)).mp z) (by omega)), if_neg n10]
      have hh := hW.1 j hj
      have kk := hK j hj
      have hmx := hW.1.max (n := j) (by omega)
      have hmn := minN_le (m := 200) (h := h) j
      have p0 := pl_0 hW hj
      have p1 := pl_1 hK hj
      have p2 := pl_2 hW hj
      have p3 := pl_3 hK hB hj
      have e70 : (if nI j = 0 then (1 : Int32) else (if (F_X4_place xv (nI j) 0) - (F_X4_place xv ((nI j) - 1) 0) ≤ 5 then 0 else 1)) = nI (lfN h j) := by
        have c0 : (nI j = 0) ↔ j = 0 := nI_eq (b := 0) (by omega) (by omega)
        unfold lfN
        by_cases q : j = 0
        · rw [if_pos (c0.mpr q), if_pos (Or.inl q)]
          rfl
        · obtain ⟨i, rfl⟩ : ∃ i, j = i + 1 := ⟨j - 1, by omega⟩
          have hi := hW.1 i (by omega)
          have c := dif_le hh.1 hi.1
          rw [if_neg (fun z => q (c0.mp z)), nI_pred, p0, pl_0 hW (by omega), show i + 1 - 1 = i by omega]
          by_cases q2 : h i + 6 ≤ h (i + 1)
          · rw [if_neg (fun z => by have := c.mp z; omega), if_pos (Or.inr q2)]
            rfl
          · rw [if_pos (c.mpr (by omega)), if_neg (fun z => z.elim q q2)]
            rfl
      have e100 : (if nI j = 11 then (1 : Int32) else (if (F_X4_place xv (nI j) 0) - (F_X4_place xv (nI (j + 1)) 0) ≤ 5 then 0 else 1)) = nI (rtN h j) := by
        have c0 : (nI j = 11) ↔ j = 11 := nI_eq (b := 11) (by omega) (by omega)
        unfold rtN
        by_cases q : j = 11
        · rw [if_pos (c0.mpr q), if_pos (Or.inl q)]
          rfl
        · have hi := hW.1 (j + 1) (by omega)
          have c := dif_le hh.1 hi.1
          rw [if_neg (fun z => q (c0.mp z)), p0, pl_0 hW (by omega)]
          by_cases q2 : h (j + 1) + 6 ≤ h j
          · rw [if_neg (fun z => by have := c.mp z; omega), if_pos (Or.inr q2)]
            rfl
          · rw [if_pos (c.mpr (by omega)), if_neg (fun z => z.elim q q2)]
            rfl
      have e204 := tree_204 (p0 := F_X4_place xv (nI j) 0) (p1 := F_X4_place xv (nI j) 1) (p2 := F_X4_place xv (nI j) 2) (p3 := F_X4_place xv (nI j) 3) (l := nI (lfN h j)) (r := nI (rtN h j)) (by rw [p0]; exact nI_pos (by omega)) (by rw [p0]; exact nI_nlt (a := 200) hh.1 (by omega)) (by
          rw [p2]
          unfold ribN
          rcases lf_01 h j with q | q
          · rw [if_pos q, q]
            exact Or.inr ⟨by decide +kernel, Or.inl rfl⟩
          · rw [if_neg (by omega), q]
            rcases rt_01 h j with q2 | q2
            · rw [q2]
              exact Or.inr ⟨by decide +kernel, Or.inr rfl⟩
            · rw [q2]
              exact Or.inl ⟨rfl, by decide +kernel, by decide +kernel⟩) (by
          rw [p3, p1]
          have c : (nI (k j) ≤ 2) ↔ k j ≤ 2 := nI_leI (b := 2) (by omega) (by omega)
          unfold bdN
          by_cases q : k j ≤ 2
          · rw [if_pos q]
            exact Or.inr ⟨by decide +kernel, c.mpr q⟩
          · rw [if_neg q]
            exact Or.inl ⟨rfl, fun z => q (c.mp z)⟩) (by
          rw [p0, p1]
          rcases kk.2.2 with q | q
          · rw [q]
            exact Or.inl rfl
          · exact Or.inr (nI_nle q (by omega)))
      rw [e70, e100, e204, p0, p1, p2, p3, nI_add, nI_add, nI_add]
      have e252 : (if nI (baN k j) = 0 then (if nI (bdN k j) = 1 then (1 : Int32) else 0) else 1) = nI (baN k (j + 1)) := by
        rw [show baN k (j + 1) = if baN k j = 0 then bdN k j else 1 from rfl]
        rcases ba_01 k j with q | q
        · rw [q, if_pos nI_0, if_pos rfl]
          rcases bd_01 k j with y | y
          · rw [y]
            decide +kernel
          · rw [y]
            decide +kernel
        · rw [q, if_neg (nI_ne0 (by omega) (by omega)), if_neg (by omega)]
          rfl
      have e268 : (if nI (h j) ≤ nI (maxN h j) then nI (maxN h j) else nI (h j)) = nI (maxN h (j + 1)) := by
        have c : (nI (h j) ≤ nI (maxN h j)) ↔ h j ≤ maxN h j := nI_leI (by omega) (by omega)
        show _ = nI (max (maxN h j) (h j))
        by_cases q : h j ≤ maxN h j
        · rw [if_pos (c.mpr q), Nat.max_eq_left q]
        · rw [if_neg (fun z => q (c.mp z)), Nat.max_eq_right (by omega)]
      have e284 : (if nI (minN 200 h j) ≤ nI (h j) then nI (minN 200 h j) else nI (h j)) = nI (minN 200 h (j + 1)) := by
        have c : (nI (minN 200 h j) ≤ nI (h j)) ↔ minN 200 h j ≤ h j := nI_leI (by omega) (by omega)
        show _ = nI (min (minN 200 h j) (h j))
        by_cases q : minN 200 h j ≤ h j
        · rw [if_pos (c.mpr q), Nat.min_eq_left q]
        · rw [if_neg (fun z => q (c.mp z)), Nat.min_eq_right (by omega)]
      rw [e252, e268, e284]
      exact ih (j + 1) (by omega) (by omega)
theorem isWell_w {B : Nat} {xv : XV} (hx : xWF xv) (hw : Well B xv.2.1) (hB : B < 2 ^ 20) : ∃ v : SV, F_L_isWell xv = (1, wTr xv v) ∧ xWF (wTr xv v) := by
  obtain ⟨h, k, w, c, m, hU⟩ := hw
  obtain ⟨v, e, hv⟩ := well_292 hx hU hB
  unfold F_L_isWell
  have e2 := well_K hU.1 hU.2.1 hB 13 0 (by omega) (by omega)
  exact ⟨v, e2.trans e, hv⟩
/-! areAlike answers true on two winders in one state -/
theorem count_same {xv yv : XV} (h : xv.2.1 = yv.2.1) {p : Int32} (h15 : ¬ p = 15) (h16 : ¬ p = 16) : F_X4_count xv p = F_X4_count yv p := by
  unfold F_X4_count
  simp only [h, if_neg h15, if_neg h16]
theorem place_same {xv yv : XV} (h : xv.2.1 = yv.2.1) (p q : Int32) : F_X4_place xv p q = F_X4_place yv p q := by
  unfold F_X4_place
  rw [h]
theorem wrong_same {xv yv : XV} (h : xv.2.1 = yv.2.1) : F_X4_wrong xv = F_X4_wrong yv := by
  unfold F_X4_wrong
  rw [h]
theorem alike_79 {xv yv : XV} (h : xv.2.1 = yv.2.1) : ∀ n j : Nat, j + n = 14 → j ≤ 12 → K_L_areAlike_79 n xv yv j 1 = (1, xv, yv) := by
  intro n
  induction n with
  | zero => intro j h1 h2; omega
  | succ n ih =>
    intro j h1 h2
    unfold K_L_areAlike_79
    dsimp only
    by_cases hj : 12 ≤ j
    · rw [if_pos ((c12 (by omega)).mpr hj)]
    · have n10 : ¬ (1 : Int32) = 0 := by decide
      rw [if_neg (fun z => hj ((c12 (by omega)).mp z)), if_neg n10, if_pos (place_same h _ _), if_neg n10, if_pos (place_same h _ _), if_neg n10, if_pos (place_same h _ _), if_neg n10, if_pos (place_same h _ _)]
      exact ih (j + 1) (by omega) (by omega)
theorem alike_30 {xv yv : XV} (h : xv.2.1 = yv.2.1) : ∀ n j : Nat, j + n = 27 → j ≤ 25 → K_L_areAlike_30 n xv yv j 1 = (1, xv, yv) := by
  intro n
  induction n with
  | zero => intro j h1 h2; omega
  | succ n ih =>
    intro j h1 h2
    unfold K_L_areAlike_30
    dsimp only
    have c : ((25 : Int32) ≤ nI j) ↔ 25 ≤ j := nI_leI (a := 25) (by omega) (by omega)
    by_cases hj : 25 ≤ j
    · rw [if_pos (c.mpr hj)]
      exact alike_79 h 14 0 (by omega) (by omega)
    · have n10 : ¬ (1 : Int32) = 0 := by decide
      rw [if_neg (fun z => hj (c.mp z)), if_neg n10]
      have e : (if nI j = 15 then (1 : Int32) else (if nI j = 16 then 1 else (if (F_X4_count xv (nI j)) = (F_X4_count yv (nI j)) then 1 else 0))) = 1 := by
        by_cases q1 : nI j = 15
        · rw [if_pos q1]
        · rw [if_neg q1]
          by_cases q2 : nI j = 16
          · rw [if_pos q2]
          · rw [if_neg q2, if_pos (count_same h q1 q2)]
      rw [e]
      exact ih (j + 1) (by omega) (by omega)
theorem alike_w {xv yv : XV} (hx : xWF xv) (hy : xWF yv) (h : xv.2.1 = yv.2.1) : (F_L_areAlike xv yv).1 = 1 := by
  unfold F_L_areAlike
  dsimp only
  rw [if_pos (wrong_same h), if_pos (breaks_same h)]
  unfold K_L_areAlike_28
  obtain ⟨a, v, e, -, -⟩ := breaks_w hx
  obtain ⟨b, v2, e2, -, -⟩ := breaks_w hy
  rw [e, e2, alike_30 (xv := wTr xv v) (yv := wTr yv v2) h 27 0 (by omega) (by omega)]
