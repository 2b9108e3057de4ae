/-! A winder's state that is well, and a turn -/
def loN (j : Nat) : Nat := match j with | 0 => 1 | 1 => 0 | 2 => 0 | 3 => 5 | _ => 10
def hiN (j : Nat) : Nat := match j with | 0 => 11 | 1 => 9 | 2 => 5 | 3 => 50 | _ => 99
def NU (f : Nat → Int32) : Prop := ∀ j, j < 5 → ∃ x : Nat, loN j ≤ x ∧ x ≤ hiN j ∧ f j = nI x
def WW (v : WV) (h : Nat → Nat) (w : Nat) : Prop := HR h v.2 ∧ v.1 0 = nI (sumN h 12) ∧ v.1 1 = nI (maxN h 12) ∧ v.1 2 = nI w ∧ w < 22
def LPl (s : Nat → Int32) (h : Nat → Nat) : Prop := (s 3 = -1 ∧ sumN h 12 = 0 ∧ s 4 = 0 ∧ s 2 = 0) ∨ ∃ p : Nat, p < 12 ∧ s 3 = nI p ∧ 0 < h p
def KN (f : Nat → Int32) (h k : Nat → Nat) (B : Nat) : Prop := ∀ j, j < 12 → f j = nI (k j) ∧ k j ≤ B ∧ (k j = 0 ∨ 0 < h j)
def WU (u : SV) (h k : Nat → Nat) (w c m B : Nat) : Prop := WW u.2.1 h w ∧ KN u.2.2.1 h k B ∧ NU u.2.2.2 ∧ (u.1 0 = nI c ∧ c ≤ 9999) ∧ (u.1 1 = nI m ∧ m ≤ 300) ∧ (u.1 2 = 0 ∨ u.1 2 = 1) ∧ LPl u.1 h
def Well (B : Nat) (u : SV) : Prop := ∃ (h k : Nat → Nat) (w c m : Nat), WU u h k w c m B
theorem KN_mono {f : Nat → Int32} {h k : Nat → Nat} {B B' : Nat} (hB : B ≤ B') (H : KN f h k B) : KN f h k B' := fun j hj => ⟨(H j hj).1, Nat.le_trans (H j hj).2.1 hB, (H j hj).2.2⟩
theorem Well_mono {u : SV} {B B' : Nat} (hB : B ≤ B') (H : Well B u) : Well B' u := by
  obtain ⟨h, k, w, c, m, h1, h2, h3⟩ := H
  exact ⟨h, k, w, c, m, h1, KN_mono hB h2, h3⟩
def plN (w : Nat) : Nat := if w ≤ 11 then w else 22 - w
theorem plN_lt {w : Nat} (h : w < 22) : plN w < 12 := by
  unfold plN
  split <;> omega
theorem place_w {v : WV} {w : Nat} (h : v.1 2 = nI w) (hw : w < 22) : F_X3_guidePlace v = nI (plN w) := by
  unfold F_X3_guidePlace plN
  rw [h]
  by_cases c : w ≤ 11
  · have : ¬ (11 : Int32) < nI w := fun z => by
      have := (nI_ltI (a := 11) (by omega) (by omega)).mp z
      omega
    rw [if_neg this, if_pos c]
  · have : (11 : Int32) < nI w := (nI_ltI (a := 11) (by omega) (by omega)).mpr (by omega)
    rw [if_pos this, if_neg c]
    exact nI_sub (a := 22) (by omega)
theorem full_w {v : WV} {h : Nat → Nat} {w : Nat} (H : WW v h w) : F_X3_isFull v = if maxN h 12 < 200 then 0 else 1 := by
  have hm := H.1.max (n := 12) (by omega)
  unfold F_X3_isFull
  rw [H.2.2.1]
  have c9 : (nI (maxN h 12) < (200 : Int32)) ↔ maxN h 12 < 200 := nI_ltI (b := 200) (by omega) (by omega)
  by_cases c : maxN h 12 < 200
  · rw [if_pos c, if_pos (c9.mpr c)]
  · rw [if_neg c, if_neg (fun z => c (c9.mp z))]
/-- idle: broken, the cone empty, or the package full -/
def idl (u : SV) : Prop := ¬ F_X2_isIdle u = 0
theorem idle_not {u : SV} {h k : Nat → Nat} {w c m B : Nat} (H : WU u h k w c m B) (hi : F_X2_isIdle u = 0) : u.1 2 = 0 ∧ 0 < c ∧ maxN h 12 < 200 := by
  unfold F_X2_isIdle at hi
  have h10 : ¬ (1 : Int32) = 0 := by decide
  by_cases c1 : u.1 2 = 0
  · rw [if_pos c1] at hi
    by_cases c2 : F_X2_isConeEmpty u = 0
    · rw [if_pos c2, full_w H.1] at hi
      by_cases c3 : maxN h 12 < 200
      · refine ⟨c1, ?_, c3⟩
        unfold F_X2_isConeEmpty at c2
        by_cases c4 : u.1 0 = 0
        · rw [if_pos c4] at c2
          exact absurd c2 h10
        · rcases Nat.eq_zero_or_pos c with z | z
          · rw [H.2.2.2.1.1, z] at c4
            exact absurd nI_0 c4
          · exact z
      · rw [if_neg c3, if_neg h10] at hi
        exact absurd hi h10
    · rw [if_neg c2] at hi
      exact absurd hi h10
  · rw [if_neg c1] at hi
    exact absurd hi h10
theorem idle_br {u : SV} (h : ¬ u.1 2 = 0) : ¬ F_X2_isIdle u = 0 := by
  unfold F_X2_isIdle
  rw [if_neg h]
  decide
theorem idle_em {u : SV} (h : u.1 0 = 0) : ¬ F_X2_isIdle u = 0 := by
  unfold F_X2_isIdle F_X2_isConeEmpty
  rw [if_pos h, if_neg (show ¬ (1 : Int32) = 0 from by decide)]
  split <;> decide
theorem idle_01 (u : SV) : F_X2_isIdle u = 0 ∨ F_X2_isIdle u = 1 := by
  unfold F_X2_isIdle
  repeat' split
  all_goals first | exact Or.inl rfl | exact Or.inr rfl
theorem go_w : ∀ (w : Fin 22) (t : Fin 12) (e : Fin 2), (nI w.val + nI t.val + nI e.val) - (nI w.val + nI t.val + nI e.val) / 22 * 22 = nI ((w.val + t.val + e.val) % 22) := by decide +kernel
theorem guide_w {v : WV} {h : Nat → Nat} {w : Nat} (H : WW v h w) {p1 : Int32} {t : Nat} (ht : t ≤ 11) (ep : p1 = nI t) (p2 p3 : Int32) : ∃ w' : Nat, w' < 22 ∧ F_X3_moveGuide v p1 p2 p3 = (upd v.1 2 (nI w'), v.2) := by
  subst ep
  have e0 : F_X4_oneIf 0 = nI 0 := by decide +kernel
  have e1 : F_X4_oneIf 1 = nI 1 := by decide +kernel
  have key : ∀ e : Nat, e < 2 → ∃ w' : Nat, w' < 22 ∧ (upd v.1 2 (((v.1 2) + nI t + nI e) - ((v.1 2) + nI t + nI e) / 22 * 22), v.2) = (upd v.1 2 (nI w'), v.2) := fun e he => by
    rw [H.2.2.2.1]
    exact ⟨_, Nat.mod_lt _ (by omega), by rw [go_w ⟨w, H.2.2.2.2⟩ ⟨t, by omega⟩ ⟨e, he⟩]⟩
  unfold F_X3_moveGuide
  rw [e0, e1]
  repeat' split
  all_goals first | exact key 0 (by omega) | exact key 1 (by omega)
theorem lay_w {v : WV} {h : Nat → Nat} {w : Nat} (H : WW v h w) (hf : maxN h 12 < 200) : WW (F_X3_layWrap v) (updN h (plN w) (h (plN w) + 1)) w ∧ (F_X3_layWrap v).1 0 = v.1 0 + 1 ∧ sumN (updN h (plN w) (h (plN w) + 1)) 12 = sumN h 12 + 1 := by
  obtain ⟨h1, h2, h3, h4, h5⟩ := H
  have hq := plN_lt h5
  have hp := place_w h4 h5
  generalize plN w = q at hq hp ⊢
  have hx : h q < 200 := by
    have := le_maxN (h := h) hq
    omega
  have hsum := h1.sum (n := 12) (by omega)
  have hmax := h1.max (n := 12) (by omega)
  have hs := (sumN_up (h := h) (i := q) (v := h q + 1) (n := 12)).1 hq
  have hm := (maxN_up (h := h) (i := q) (v := h q + 1) (by omega) (n := 12)).1 hq
  refine ⟨⟨fun j hj => ?_, ?_, ?_, ?_, h5⟩, lay_0 hq hp, by omega⟩
  · rw [lay_h hq hp]
    unfold updN
    by_cases c : j = q
    · rw [if_pos c, c, upd_eq, (h1 q hq).2, nI_1]
      exact ⟨by omega, rfl⟩
    · rw [if_neg c, upd_ne c]
      exact h1 j hj
  · rw [lay_0 hq hp, h2, nI_1]
    exact congrArg nI (by omega)
  · rw [lay_1 hq hp, h3, (h1 q hq).2, nI_1, hm]
    have c1 : (nI (maxN h 12) < nI (h q + 1)) ↔ maxN h 12 < h q + 1 := nI_ltI (by omega) (by omega)
    by_cases c : maxN h 12 < h q + 1
    · rw [if_pos (c1.mpr c)]
      exact congrArg nI (by omega)
    · rw [if_neg (fun z => c (c1.mp z))]
      exact congrArg nI (by omega)
  · rw [lay_2 hq hp, h4]
theorem warm_w : ∀ (m : Fin 301) (d : Fin 10), ∃ x : Fin 301, (if 0 ≤ nI m.val + nI d.val - 1 then (if 300 ≤ nI m.val + nI d.val - 1 then (300 : Int32) else nI m.val + nI d.val - 1) else 0) = nI x.val := by
  intro m d
  have hm := m.isLt
  have hd := d.isLt
  have z0 : (0 : Int32) = nI 0 := rfl
  have z3 : (300 : Int32) = nI 300 := rfl
  rw [nI_add]
  by_cases c : m.val + d.val = 0
  · rw [c]
    exact ⟨⟨0, by omega⟩, show (if 0 ≤ nI 0 - 1 then (if 300 ≤ nI 0 - 1 then (300 : Int32) else nI 0 - 1) else 0) = nI 0 from by decide +kernel⟩
  · obtain ⟨y, hy⟩ : ∃ y, m.val + d.val = y + 1 := ⟨m.val + d.val - 1, by omega⟩
    rw [hy, nI_pred, if_pos (nI_pos' (by omega)), z3]
    by_cases c2 : 300 ≤ y
    · rw [if_pos ((nI_leI (by omega) (by omega)).mpr c2)]
      exact ⟨⟨300, by omega⟩, rfl⟩
    · rw [if_neg (fun z => c2 ((nI_leI (by omega) (by omega)).mp z))]
      exact ⟨⟨y, by omega⟩, rfl⟩
/-- what a turn does that is not idle -/
def Turned (u v : SV) (c : Nat) : Prop := v.1 5 = u.1 5 + 1 ∧ v.2.2.2 = u.2.2.2 ∧ ((v.2.1.1 0 = u.2.1.1 0 ∧ v.1 0 = 0) ∨ (v.2.1.1 0 = u.2.1.1 0 + 1 ∧ ∃ c' : Nat, v.1 0 = nI c' ∧ c' + 10 ≤ c))
set_option maxHeartbeats 4000000 in
theorem turn_w {u : SV} {h k : Nat → Nat} {w c m B : Nat} (H : WU u h k w c m B) (hi : F_X2_isIdle u = 0) : Well B (F_X2_turnOnce u) ∧ Turned u (F_X2_turnOnce u) c := by
  obtain ⟨n1, n2, n3⟩ := idle_not H hi
  obtain ⟨hW, hK, hN, ⟨hc, hc9⟩, ⟨hm, hm3⟩, hb, hl⟩ := H
  have hw22 := hW.2.2.2.2
  have hq := plN_lt hw22
  have hp := place_w hW.2.2.2.1 hw22
  have hlay := lay_w hW n3
  rw [turn_X hi hq hp]
  have hx : h (plN w) < 200 := by
    have := le_maxN (h := h) hq
    omega
  have eL : (10 : Int32) + u.2.1.2 (plN w) = nI (10 + h (plN w)) := by rw [(hW.1 _ hq).2]; exact nI_add 10 _
  have cL : (nI (10 + h (plN w)) ≤ nI c) ↔ 10 + h (plN w) ≤ c := nI_leI (by omega) (by omega)
  rw [eL, hc]
  by_cases cc : 10 + h (plN w) ≤ c
  · rw [if_pos (cL.mpr cc)]
    obtain ⟨t, ht1, ht2, et⟩ := hN 0 (by omega)
    obtain ⟨d, hd1, hd2, ed⟩ := hN 1 (by omega)
    have ht : t ≤ 11 := ht2
    have hd : d ≤ 9 := hd2
    obtain ⟨w', hw', eg⟩ := guide_w hlay.1 ht et (u.2.2.2 2) (u.1 5 + 1)
    obtain ⟨x, ex⟩ := warm_w ⟨m, by omega⟩ ⟨d, by omega⟩
    have eW : (if 0 ≤ u.1 1 + u.2.2.2 1 - 1 then (if 300 ≤ u.1 1 + u.2.2.2 1 - 1 then 300 else u.1 1 + u.2.2.2 1 - 1) else 0) = nI x.val := by
      rw [hm, ed]
      exact ex
    rw [eg, eW]
    have cn : nI c - nI (10 + h (plN w)) = nI (c - (10 + h (plN w))) := nI_sub cc
    have hW2 : WW (upd (F_X3_layWrap u.2.1).1 2 (nI w'), (F_X3_layWrap u.2.1).2) (updN h (plN w) (h (plN w) + 1)) w' := by
      obtain ⟨a1, a2, a3, a4, a5⟩ := hlay.1
      refine ⟨a1, ?_, ?_, ?_, hw'⟩
      · dsimp only
        rw [upd_ne (by omega)]
        exact a2
      · dsimp only
        rw [upd_ne (by omega)]
        exact a3
      · dsimp only
        rw [upd_eq]
    have hK2 : KN u.2.2.1 (updN h (plN w) (h (plN w) + 1)) k B := fun j hj => by
      obtain ⟨k1, k2, k3⟩ := hK j hj
      refine ⟨k1, k2, ?_⟩
      unfold updN
      split
      · exact Or.inr (by omega)
      · exact k3
    have hpos : 0 < updN h (plN w) (h (plN w) + 1) (plN w) := by
      unfold updN
      rw [if_pos rfl]
      omega
    have e0 : (upd (F_X3_layWrap u.2.1).1 2 (nI w')) 0 = u.2.1.1 0 + 1 := by
      rw [upd_ne (by omega)]
      exact hlay.2.1
    split
    · refine ⟨⟨_, k, w', c - (10 + h (plN w)), x.val, hW2, hK2, hN, ⟨?_, by omega⟩, ⟨?_, by omega⟩, ?_, Or.inr ⟨plN w, hq, ?_, hpos⟩⟩, ?_, rfl, Or.inr ⟨e0, c - (10 + h (plN w)), ?_, by omega⟩⟩
      · dsimp only
        rw [upd_ne (by omega), upd_ne (by omega), upd_ne (by omega), upd_eq, cn]
      · dsimp only
        rw [upd_eq]
      · dsimp only
        rw [upd_ne (by omega), upd_ne (by omega), upd_ne (by omega), upd_ne (by omega), upd_ne (by omega)]
        exact hb
      · dsimp only
        rw [upd_ne (by omega), upd_eq]
      · dsimp only
        rw [upd_ne (by omega), upd_ne (by omega), upd_ne (by omega), upd_ne (by omega), upd_eq]
      · dsimp only
        rw [upd_ne (by omega), upd_ne (by omega), upd_ne (by omega), upd_eq, cn]
    · refine ⟨⟨_, k, w', c - (10 + h (plN w)), x.val, hW2, hK2, hN, ⟨?_, by omega⟩, ⟨?_, by omega⟩, ?_, Or.inr ⟨plN w, hq, ?_, hpos⟩⟩, ?_, rfl, Or.inr ⟨e0, c - (10 + h (plN w)), ?_, by omega⟩⟩
      · dsimp only
        rw [upd_ne (by omega), upd_ne (by omega), upd_ne (by omega), upd_ne (by omega), upd_ne (by omega), upd_eq, cn]
      · dsimp only
        rw [upd_ne (by omega), upd_ne (by omega), upd_eq]
      · dsimp only
        rw [upd_ne (by omega), upd_eq]
        exact Or.inr rfl
      · dsimp only
        rw [upd_ne (by omega), upd_ne (by omega), upd_ne (by omega), upd_eq]
      · dsimp only
        rw [upd_ne (by omega), upd_ne (by omega), upd_ne (by omega), upd_ne (by omega), upd_ne (by omega), upd_ne (by omega), upd_eq]
      · dsimp only
        rw [upd_ne (by omega), upd_ne (by omega), upd_ne (by omega), upd_ne (by omega), upd_ne (by omega), upd_eq, cn]
  · rw [if_neg (fun z => cc (cL.mp z))]
    refine ⟨⟨h, k, w, 0, m, hW, hK, hN, ⟨?_, by omega⟩, ⟨?_, hm3⟩, ?_, ?_⟩, ?_, rfl, Or.inl ⟨rfl, ?_⟩⟩
    · dsimp only
      rw [upd_eq, nI_0]
    · dsimp only
      rw [upd_ne (by omega), upd_ne (by omega)]
      exact hm
    · dsimp only
      rw [upd_ne (by omega), upd_ne (by omega)]
      exact hb
    · unfold LPl
      dsimp only
      rw [upd_ne (by omega), upd_ne (by omega), upd_ne (by omega), upd_ne (by omega), upd_ne (by omega), upd_ne (by omega)]
      exact hl
    · dsimp only
      rw [upd_ne (by omega), upd_eq]
    · dsimp only
      rw [upd_eq]
