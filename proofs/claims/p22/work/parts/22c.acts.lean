/-! Many turns, and the other acts, on a well state -/
def TO : Nat → SV → SV
  | 0, u => u
  | n + 1, u => if F_X2_isIdle u = 0 then TO n (F_X2_turnOnce u) else u
theorem TO_idle {u : SV} (h : ¬ F_X2_isIdle u = 0) : ∀ n : Nat, TO n u = u
  | 0 => rfl
  | n + 1 => if_neg h
theorem TO_go {u : SV} (h : F_X2_isIdle u = 0) (n : Nat) : TO (n + 1) u = TO n (F_X2_turnOnce u) := if_pos h
theorem TO_succ : ∀ (n : Nat) (u : SV), TO (n + 1) u = if F_X2_isIdle (TO n u) = 0 then F_X2_turnOnce (TO n u) else TO n u := by
  intro n
  induction n with
  | zero => intro u; rfl
  | succ n ih =>
    intro u
    by_cases h : F_X2_isIdle u = 0
    · rw [TO_go h (n + 1), ih, TO_go h n]
    · rw [TO_idle h, TO_idle h, if_neg h]
theorem rng {p1 : Int32} {a b x : Nat} (ha : F_X4_lowest p1 = nI a) (hb : F_X4_highest p1 = nI b) (h1 : a ≤ x) (h2 : x ≤ b) (h3 : b < 2 ^ 31) : F_X4_inRange p1 (nI x) = 1 := by
  unfold F_X4_inRange
  rw [ha, hb, if_neg (nI_nlt h1 (by omega)), if_neg (nI_nlt h2 (by omega))]
theorem rng5 {x : Nat} (h1 : 1 ≤ x) (h2 : x ≤ 500) : F_X4_inRange 5 (nI x) = 1 := rng (a := 1) (b := 500) (by decide +kernel) (by decide +kernel) h1 h2 (by omega)
theorem rng0 {x : Nat} (h1 : 1 ≤ x) (h2 : x ≤ 11) : F_X4_inRange 0 (nI x) = 1 := rng (a := 1) (b := 11) (by decide +kernel) (by decide +kernel) h1 h2 (by omega)
theorem rng6 {x : Nat} (h1 : 1 ≤ x) (h2 : x ≤ 9999) : F_X4_inRange 6 (nI x) = 1 := rng (a := 1) (b := 9999) (by decide +kernel) (by decide +kernel) h1 h2 (by omega)
theorem rngN {i x : Nat} (hi : i < 5) (h1 : loN i ≤ x) (h2 : x ≤ hiN i) : F_X4_inRange (nI i) (nI x) = 1 := by
  rcases (show i = 0 ∨ i = 1 ∨ i = 2 ∨ i = 3 ∨ i = 4 by omega) with rfl | rfl | rfl | rfl | rfl
  · exact rng (a := 1) (b := 11) (by decide +kernel) (by decide +kernel) h1 h2 (by omega)
  · exact rng (a := 0) (b := 9) (by decide +kernel) (by decide +kernel) h1 h2 (by omega)
  · exact rng (a := 0) (b := 5) (by decide +kernel) (by decide +kernel) h1 h2 (by omega)
  · exact rng (a := 5) (b := 50) (by decide +kernel) (by decide +kernel) h1 h2 (by omega)
  · exact rng (a := 10) (b := 99) (by decide +kernel) (by decide +kernel) h1 h2 (by omega)
theorem often_K {m : Nat} (hm : m ≤ 500) (e : Int32) : ∀ (n j : Nat) (u : SV), j + n = 501 → j ≤ m → K_X2_turnOften_31 n u (nI m) j e = ((TO (m - j) u).2.1.1 0 - e, TO (m - j) u) := by
  intro n
  induction n with
  | zero => intro j u h1 h2; omega
  | succ n ih =>
    intro j u h1 h2
    unfold K_X2_turnOften_31
    have c9 : (nI m ≤ nI j) ↔ m ≤ j := nI_leI (by omega) (by omega)
    by_cases c : m ≤ j
    · rw [if_pos (c9.mpr c), show m - j = 0 by omega]
      rfl
    · rw [if_neg (fun z => c (c9.mp z)), show m - j = (m - (j + 1)) + 1 by omega]
      by_cases hi : F_X2_isIdle u = 0
      · rw [if_pos hi, TO_go hi]
        exact ih (j + 1) _ (by omega) (by omega)
      · rw [if_neg hi, TO_idle hi]
theorem often_w {m : Nat} (h1 : 1 ≤ m) (hm : m ≤ 500) (u : SV) : F_X2_turnOften u (nI m) = if F_X2_isIdle u = 0 then ((TO m u).2.1.1 0 - u.2.1.1 0, TO m u) else (-5, u) := by
  unfold F_X2_turnOften
  rw [rng5 h1 hm, if_neg (show ¬ (1 : Int32) = 0 from by decide)]
  by_cases hi : F_X2_isIdle u = 0
  · rw [if_pos hi, if_pos hi]
    exact often_K hm _ 501 0 u (by omega) (by omega)
  · rw [if_neg hi, if_neg hi]
def Many (u v : SV) (c n t l : Nat) : Prop := v.1 5 = u.1 5 + nI t ∧ v.2.2.2 = u.2.2.2 ∧ v.2.1.1 0 = u.2.1.1 0 + nI l ∧ (∃ c' : Nat, v.1 0 = nI c' ∧ c' + 10 * l ≤ c) ∧ l ≤ t ∧ t ≤ l + 1 ∧ t ≤ n ∧ (t = l + 1 → v.1 0 = 0)
theorem TO_many {B : Nat} {u : SV} {c : Nat} (H : Well B u) (hc : u.1 0 = nI c) (hc9 : c ≤ 9999) : ∀ n : Nat, Well B (TO n u) ∧ ∃ t l : Nat, Many u (TO n u) c n t l ∧ (F_X2_isIdle u = 0 → 0 < n → 1 ≤ t) := by
  intro n
  induction n with
  | zero =>
    refine ⟨H, 0, 0, ⟨?_, rfl, ?_, ⟨c, hc, by omega⟩, by omega, by omega, by omega, fun z => by omega⟩, fun _ z => absurd z (by omega)⟩
    · show u.1 5 = u.1 5 + nI 0
      rw [nI_0, Int32.add_zero]
    · show u.2.1.1 0 = u.2.1.1 0 + nI 0
      rw [nI_0, Int32.add_zero]
  | succ n ih =>
    obtain ⟨hw, t, l, ⟨a1, a2, a3, ⟨c1, a4, a5⟩, a6, a7, a8, a9⟩, a10⟩ := ih
    rw [TO_succ]
    by_cases hi : F_X2_isIdle (TO n u) = 0
    · rw [if_pos hi]
      obtain ⟨h, k, w, c2, m, hU⟩ := hw
      have ht := turn_w hU hi
      have e2 : c2 = c1 := by
        have e := hU.2.2.2.1.1.symm.trans a4
        exact (nI_eq (by have := hU.2.2.2.1.2; omega) (by omega)).mp e
      subst e2
      have htl : t = l := by
        rcases Nat.lt_or_ge l t with q | q
        · exact absurd hi (idle_em (a9 (by omega)))
        · omega
      subst htl
      obtain ⟨b1, b2, b3⟩ := ht.2
      refine ⟨ht.1, ?_⟩
      rcases b3 with ⟨b3, b4⟩ | ⟨b3, c', b4, b5⟩
      · refine ⟨t + 1, t, ⟨?_, b2.trans a2, b3.trans a3, ⟨0, by rw [b4, nI_0], by omega⟩, by omega, by omega, by omega, fun _ => b4⟩, fun _ _ => by omega⟩
        rw [b1, a1, Int32.add_assoc, nI_1]
      · refine ⟨t + 1, t + 1, ⟨?_, b2.trans a2, ?_, ⟨c', b4, by omega⟩, by omega, by omega, by omega, fun z => by omega⟩, fun _ _ => by omega⟩
        · rw [b1, a1, Int32.add_assoc, nI_1]
        · rw [b3, a3, Int32.add_assoc, nI_1]
    · rw [if_neg hi]
      refine ⟨hw, t, l, ⟨a1, a2, a3, ⟨c1, a4, a5⟩, a6, a7, by omega, a9⟩, fun h1 h2 => ?_⟩
      rcases Nat.eq_zero_or_pos n with z | z
      · rw [z] at hi
        exact absurd h1 hi
      · exact a10 h1 z
/-! A number is set -/
theorem set_w {u : SV} {i x : Nat} (hi : i < 5) (h1 : loN i ≤ x) (h2 : x ≤ hiN i) : F_X2_changeNumber u (nI i) (nI x) = if u.2.2.2 i = nI x then (-5, u) else (u.2.2.2 i, (u.1, u.2.1, u.2.2.1, upd u.2.2.2 i (nI x))) := by
  unfold F_X2_changeNumber
  rw [if_neg (nI_pos (by omega)), if_pos (show nI i < 5 from (nI_ltI (b := 5) (by omega) (by omega)).mpr hi), rngN hi h1 h2, if_neg (show ¬ (1 : Int32) = 0 from by decide), nI_clamp (by omega)]
theorem NU_upd {f : Nat → Int32} (h : NU f) {i x : Nat} (h1 : loN i ≤ x) (h2 : x ≤ hiN i) : NU (upd f i (nI x)) := fun j hj => by
  by_cases c : j = i
  · subst c
    exact ⟨x, h1, h2, upd_eq⟩
  · rw [upd_ne c]
    exact h j hj
theorem set_well {u : SV} {B i x : Nat} (H : Well B u) (h1 : loN i ≤ x) (h2 : x ≤ hiN i) : Well B (u.1, u.2.1, u.2.2.1, upd u.2.2.2 i (nI x)) := by
  obtain ⟨h, k, w, c, m, a1, a2, a3, a4⟩ := H
  exact ⟨h, k, w, c, m, a1, a2, NU_upd a3 h1 h2, a4⟩
theorem hiN_le (i : Nat) : hiN i ≤ 99 := by
  unfold hiN
  split <;> omega
/-! A knot -/
theorem knot_w {u : SV} {h k : Nat → Nat} {w c m B d : Nat} (H : WU u h k w c m B) (hd : u.2.2.2 3 = nI d) (hd9 : d ≤ 50) (hB : B < 2 ^ 20) : F_X2_tieKnot u = (if d ≤ c then (if u.1 2 = 0 then (-5, u) else F_X2_tieKnot u) else (-4, u)) := by
  unfold F_X2_tieKnot
  rw [num_3, hd, H.2.2.2.1.1]
  have c9 : (nI d ≤ nI c) ↔ d ≤ c := nI_leI (by omega) (by have := H.2.2.2.1.2; omega)
  by_cases q : d ≤ c
  · rw [if_pos (c9.mpr q), if_pos q]
    by_cases q2 : u.1 2 = 0
    · rw [if_pos q2, if_pos q2]
    · rw [if_neg q2, if_neg q2]
  · rw [if_neg (fun z => q (c9.mp z)), if_neg q]
/-- the knots' sum -/
theorem knots_K {u : SV} {k : Nat → Nat} (hv : ∀ j, j < 12 → u.2.2.1 j = nI (k j)) : ∀ n j : Nat, j + n = 13 → j ≤ 12 → K_X2_allKnots_13 n u j (nI (sumN k j)) = nI (sumN k 12) := by
  intro n
  induction n with
  | zero => intro j h1 h2; omega
  | succ n ih =>
    intro j h1 h2
    unfold K_X2_allKnots_13
    by_cases hj : 12 ≤ j
    · have : j = 12 := by omega
      subst this
      rw [if_pos ((c12 (by omega)).mpr (Nat.le_refl _))]
    · rw [if_neg (fun z => hj ((c12 (by omega)).mp z)), hv j (by omega), nI_add]
      exact ih (j + 1) (by omega) (by omega)
theorem knots_w {u : SV} {h k : Nat → Nat} {B : Nat} (H : KN u.2.2.1 h k B) : F_X2_allKnots u = nI (sumN k 12) := knots_K (fun j hj => (H j hj).1) 13 0 (by omega) (by omega)
theorem knot_go {u : SV} {h k : Nat → Nat} {w c m B d : Nat} (H : WU u h k w c m B) (hd : u.2.2.2 3 = nI d) (hd9 : d ≤ c) (hb : ¬ u.1 2 = 0) : ∃ (p : Nat) (v : SV), p < 12 ∧ F_X2_tieKnot u = (nI (k p + 1), v) ∧ Well (B + 1) v ∧ v.1 2 = 0 ∧ v.1 0 = nI (c - d) ∧ v.2.1 = u.2.1 ∧ F_X2_allKnots v = F_X2_allKnots u + 1 := by
  obtain ⟨hW, hK, hN, ⟨hc, hc9⟩, hm, hbb, hl⟩ := id H
  rcases hl with ⟨_, _, _, z⟩ | ⟨p, hp, e3, hpos⟩
  · exact absurd z hb
  have hcd : nI d ≤ nI c := (nI_leI (by omega) (by omega)).mpr hd9
  have kp := hK p hp
  refine ⟨p, (upd (upd u.1 0 (u.1 0 - nI d)) 2 0, u.2.1, upd u.2.2.1 p (u.2.2.1 p + 1), u.2.2.2), hp, ?_, ?_, ?_, ?_, rfl, ?_⟩
  · unfold F_X2_tieKnot
    rw [num_3, hd, hc, if_pos hcd, if_neg hb, e3, if_neg (nI_pos (by omega)), if_pos (show nI p < 12 from (nI_ltI (b := 12) (by omega) (by omega)).mpr hp), nI_clamp (by omega), upd_eq, kp.1, nI_1]
  · refine ⟨h, updN k p (k p + 1), w, c - d, m, hW, fun j hj => ?_, hN, ⟨?_, by omega⟩, ⟨?_, hm.2⟩, ?_, Or.inr ⟨p, hp, ?_, hpos⟩⟩
    · unfold updN
      dsimp only
      by_cases q : j = p
      · rw [q, upd_eq, if_pos rfl, kp.1, nI_1]
        exact ⟨rfl, by omega, Or.inr hpos⟩
      · rw [upd_ne q, if_neg q]
        have kj := hK j hj
        exact ⟨kj.1, by omega, kj.2.2⟩
    · dsimp only
      rw [upd_ne (by omega), upd_eq, hc]
      exact nI_sub hd9
    · dsimp only
      rw [upd_ne (by omega), upd_ne (by omega)]
      exact hm.1
    · dsimp only
      rw [upd_eq]
      exact Or.inl rfl
    · dsimp only
      rw [upd_ne (by omega), upd_ne (by omega)]
      exact e3
  · dsimp only
    rw [upd_eq]
  · dsimp only
    rw [upd_ne (by omega), upd_eq, hc]
    exact nI_sub hd9
  · have e1 := knots_w hK
    have hs := (sumN_up (h := k) (i := p) (v := k p + 1) (n := 12)).1 hp
    have e2 : F_X2_allKnots (upd (upd u.1 0 (u.1 0 - nI d)) 2 0, u.2.1, upd u.2.2.1 p (u.2.2.1 p + 1), u.2.2.2) = nI (sumN (updN k p (k p + 1)) 12) := by
      refine knots_K (fun j hj => ?_) 13 0 (by omega) (by omega)
      unfold updN
      dsimp only
      by_cases q : j = p
      · rw [q, upd_eq, if_pos rfl, kp.1, nI_1]
      · rw [upd_ne q, if_neg q]
        exact (hK j hj).1
    rw [e2, e1, nI_1]
    exact congrArg nI (by omega)
/-! A new cone -/
theorem cone_go {u : SV} {h k : Nat → Nat} {w c m B x : Nat} (H : WU u h k w c m B) (h1 : 1 ≤ x) (h2 : x ≤ 9999) : ∃ v : SV, F_X2_changeCone u (nI x) = (nI c, v) ∧ Well B v ∧ v.1 0 = nI x ∧ v.2.1 = u.2.1 ∧ (u.2.1.1 0 = 0 ∨ v.1 2 = 1) := by
  obtain ⟨hW, hK, hN, ⟨hc, hc9⟩, hm, hbb, hl⟩ := id H
  have hsum := hW.1.sum (n := 12) (by omega)
  unfold F_X2_changeCone
  rw [rng6 h1 h2, if_neg (show ¬ (1 : Int32) = 0 from by decide), hW.2.1, hc]
  have c9 : (nI (sumN h 12) ≤ 0) ↔ sumN h 12 ≤ 0 := nI_leI (b := 0) (by omega) (by omega)
  by_cases q : sumN h 12 ≤ 0
  · rw [if_pos (c9.mpr q)]
    refine ⟨_, rfl, ⟨h, k, w, x, m, hW, hK, hN, ⟨?_, h2⟩, ⟨?_, hm.2⟩, ?_, ?_⟩, ?_, rfl, Or.inl ?_⟩
    · dsimp only
      rw [upd_ne (by omega), upd_eq]
    · dsimp only
      rw [upd_ne (by omega), upd_ne (by omega)]
      exact hm.1
    · dsimp only
      rw [upd_eq]
      exact Or.inl rfl
    · unfold LPl
      dsimp only
      rw [upd_ne (by omega), upd_ne (by omega), upd_ne (by omega), upd_ne (by omega), upd_eq]
      rcases hl with ⟨z1, z2, z3, _⟩ | z
      · exact Or.inl ⟨z1, z2, z3, rfl⟩
      · exact Or.inr z
    · dsimp only
      rw [upd_ne (by omega), upd_eq]
    · rw [show sumN h 12 = 0 by omega, nI_0]
  · rw [if_neg (fun z => q (c9.mp z))]
    refine ⟨_, rfl, ⟨h, k, w, x, m, hW, hK, hN, ⟨?_, h2⟩, ⟨?_, hm.2⟩, ?_, ?_⟩, ?_, rfl, Or.inr ?_⟩
    · dsimp only
      rw [upd_ne (by omega), upd_eq]
    · dsimp only
      rw [upd_ne (by omega), upd_ne (by omega)]
      exact hm.1
    · dsimp only
      rw [upd_eq]
      exact Or.inr rfl
    · unfold LPl
      dsimp only
      rw [upd_ne (by omega), upd_ne (by omega)]
      rcases hl with ⟨z1, z2, z3, _⟩ | z
      · omega
      · exact Or.inr z
    · dsimp only
      rw [upd_ne (by omega), upd_eq]
    · dsimp only
      rw [upd_eq]
/-! The package is taken off -/
theorem even_w {v : WV} {h : Nat → Nat} {w : Nat} (H : WW v h w) : F_X3_evenness v = nI (maxN h 12) - nI (minN (maxN h 12) h 12) := by
  have hmx := H.1.max (n := 12) (by omega)
  unfold F_X3_evenness
  rw [H.2.2.1]
  exact even_KX H.1 (maxN h 12) hmx H.2.2.1 13 0 (by omega) (by omega)
theorem clear_w (v : WV) : WW (F_X3_clear v) (fun _ => 0) 0 := ⟨fun j _ => ⟨Nat.zero_le _, rfl⟩, rfl, rfl, rfl, by omega⟩
theorem clear_even (v : WV) : F_X3_evenness (F_X3_clear v) = 0 := (even_w (clear_w v)).trans (by decide +kernel)
theorem clear_place (v : WV) : F_X3_guidePlace (F_X3_clear v) = 0 := (place_w (clear_w v).2.2.2.1 (by omega)).trans (by decide +kernel)
theorem doff_go {u : SV} {h k : Nat → Nat} {w c m B : Nat} (H : WU u h k w c m B) (hz : ¬ u.2.1.1 0 = 0) : ∃ v : SV, F_X2_takePackageOff u = (u.2.1.1 0, v) ∧ Well B v ∧ v.2.1.1 0 = 0 ∧ v.1 7 = u.1 7 + 1 ∧ F_X3_evenness v.2.1 = 0 ∧ F_X3_guidePlace v.2.1 = 0 ∧ v.1 5 = u.1 5 ∧ v.1 6 = u.1 6 := by
  obtain ⟨hW, hK, hN, hc, hm, hbb, hl⟩ := id H
  unfold F_X2_takePackageOff
  rw [if_neg hz]
  refine ⟨_, rfl, ⟨fun _ => 0, fun _ => 0, 0, c, m, clear_w _, fun j _ => ⟨rfl, Nat.zero_le _, Or.inl rfl⟩, hN, ⟨?_, hc.2⟩, ⟨?_, hm.2⟩, ?_, Or.inl ⟨?_, rfl, ?_, ?_⟩⟩, rfl, ?_, ?_, ?_, ?_, ?_⟩
  · dsimp only
    rw [upd_ne (by omega), upd_ne (by omega), upd_ne (by omega), upd_ne (by omega)]
    exact hc.1
  · dsimp only
    rw [upd_ne (by omega), upd_ne (by omega), upd_ne (by omega), upd_ne (by omega)]
    exact hm.1
  · dsimp only
    rw [upd_ne (by omega), upd_ne (by omega), upd_ne (by omega), upd_eq]
    exact Or.inl rfl
  · dsimp only
    rw [upd_ne (by omega), upd_ne (by omega), upd_eq]
  · dsimp only
    rw [upd_ne (by omega), upd_eq]
  · dsimp only
    rw [upd_ne (by omega), upd_ne (by omega), upd_ne (by omega), upd_eq]
  · dsimp only
    rw [upd_eq]
  · exact clear_even _
  · exact clear_place _
  · dsimp only
    rw [upd_ne (by omega), upd_ne (by omega), upd_ne (by omega), upd_ne (by omega)]
  · dsimp only
    rw [upd_ne (by omega), upd_ne (by omega), upd_ne (by omega), upd_ne (by omega)]
