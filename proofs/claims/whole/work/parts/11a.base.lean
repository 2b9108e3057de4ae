/-! What both sides compute, side by side: rows of heights -/
def maxN (h : Nat → Nat) : Nat → Nat
  | 0 => 0
  | n + 1 => max (maxN h n) (h n)
def sumN (h : Nat → Nat) : Nat → Nat
  | 0 => 0
  | n + 1 => sumN h n + h n
def minN (m : Nat) (h : Nat → Nat) : Nat → Nat
  | 0 => m
  | n + 1 => min (minN m h n) (h n)
def updN (h : Nat → Nat) (i v : Nat) : Nat → Nat := fun j => if j = i then v else h j
def HR (h : Nat → Nat) (f : Nat → Int32) : Prop := ∀ j, j < 12 → h j ≤ 200 ∧ f j = nI (h j)
theorem maxN_le {h : Nat → Nat} {m : Nat} : ∀ {n : Nat}, (∀ j, j < n → h j ≤ m) → maxN h n ≤ m
  | 0, _ => Nat.zero_le _
  | n + 1, H => by
    show max (maxN h n) (h n) ≤ m
    exact Nat.max_le.mpr ⟨maxN_le (fun j hj => H j (by omega)), H n (by omega)⟩
theorem le_maxN {h : Nat → Nat} : ∀ {n j : Nat}, j < n → h j ≤ maxN h n
  | 0, j, hj => absurd hj (Nat.not_lt_zero j)
  | n + 1, j, hj => by
    show h j ≤ max (maxN h n) (h n)
    rcases Nat.lt_or_ge j n with q | q
    · exact Nat.le_trans (le_maxN q) (Nat.le_max_left _ _)
    · have : j = n := by omega
      subst this
      exact Nat.le_max_right _ _
theorem sumN_le {h : Nat → Nat} {m : Nat} : ∀ {n : Nat}, (∀ j, j < n → h j ≤ m) → sumN h n ≤ m * n
  | 0, _ => Nat.zero_le _
  | n + 1, H => by
    show sumN h n + h n ≤ m * (n + 1)
    have h1 := sumN_le (m := m) (n := n) (fun j hj => H j (by omega))
    have h2 := H n (by omega)
    rw [Nat.mul_succ]
    omega
theorem sumN_up {h : Nat → Nat} {i v : Nat} : ∀ {n : Nat}, (i < n → sumN (updN h i v) n + h i = sumN h n + v) ∧ (n ≤ i → sumN (updN h i v) n = sumN h n)
  | 0 => ⟨fun z => absurd z (Nat.not_lt_zero i), fun _ => rfl⟩
  | n + 1 => by
    obtain ⟨h1, h2⟩ := sumN_up (h := h) (i := i) (v := v) (n := n)
    constructor
    · intro hi
      show sumN (updN h i v) n + updN h i v n + h i = sumN h n + h n + v
      rcases Nat.lt_or_ge i n with q | q
      · have := h1 q
        have e : updN h i v n = h n := by unfold updN; rw [if_neg (by omega)]
        rw [e]
        omega
      · have hin : i = n := by omega
        have e : updN h i v n = v := by unfold updN; rw [if_pos hin.symm]
        rw [e, h2 q, hin]
        omega
    · intro hi
      show sumN (updN h i v) n + updN h i v n = sumN h n + h n
      have e : updN h i v n = h n := by unfold updN; rw [if_neg (by omega)]
      rw [e, h2 (by omega)]
theorem maxN_up {h : Nat → Nat} {i v : Nat} (hv : h i ≤ v) : ∀ {n : Nat}, (i < n → maxN (updN h i v) n = max (maxN h n) v) ∧ (n ≤ i → maxN (updN h i v) n = maxN h n)
  | 0 => ⟨fun z => absurd z (Nat.not_lt_zero i), fun _ => rfl⟩
  | n + 1 => by
    obtain ⟨h1, h2⟩ := maxN_up (h := h) (i := i) (v := v) hv (n := n)
    constructor
    · intro hi
      show max (maxN (updN h i v) n) (updN h i v n) = max (max (maxN h n) (h n)) v
      rcases Nat.lt_or_ge i n with q | q
      · have e : updN h i v n = h n := by unfold updN; rw [if_neg (by omega)]
        rw [e, h1 q]
        omega
      · have hin : i = n := by omega
        have e : updN h i v n = v := by unfold updN; rw [if_pos hin.symm]
        rw [e, h2 q]
        subst hin
        omega
    · intro hi
      show max (maxN (updN h i v) n) (updN h i v n) = max (maxN h n) (h n)
      have e : updN h i v n = h n := by unfold updN; rw [if_neg (by omega)]
      rw [e, h2 (by omega)]
theorem minN_same {m k : Nat} {h : Nat → Nat} (h1 : h 0 ≤ m) (h2 : h 0 ≤ k) : ∀ n : Nat, minN m h (n + 1) = minN k h (n + 1)
  | 0 => by
    show min m (h 0) = min k (h 0)
    omega
  | n + 1 => by
    show min (minN m h (n + 1)) (h (n + 1)) = min (minN k h (n + 1)) (h (n + 1))
    rw [minN_same h1 h2 n]
theorem minN_le {m : Nat} {h : Nat → Nat} : ∀ n : Nat, minN m h n ≤ m
  | 0 => Nat.le_refl _
  | n + 1 => Nat.le_trans (Nat.min_le_left _ _) (minN_le n)
theorem c12 {j : Nat} (hj : j < 2 ^ 31) : ((12 : Int32) ≤ nI j) ↔ 12 ≤ j := nI_leI (a := 12) (by omega) hj
theorem HR.lt {h : Nat → Nat} {f : Nat → Int32} (H : HR h f) {j : Nat} (hj : j < 12) : h j < 2 ^ 31 := by
  have := (H j hj).1
  omega
theorem HR.sum {h : Nat → Nat} {f : Nat → Int32} (H : HR h f) {n : Nat} (hn : n ≤ 12) : sumN h n ≤ 2400 := by
  have h1 : sumN h n ≤ 200 * n := sumN_le (fun j hj => (H j (by omega)).1)
  omega
theorem HR.max {h : Nat → Nat} {f : Nat → Int32} (H : HR h f) {n : Nat} (hn : n ≤ 12) : maxN h n ≤ 200 := maxN_le (fun j hj => (H j (by omega)).1)
theorem wraps_K {h : Nat → Nat} {a : Nat → Int32} (H : HR h a) : ∀ n j : Nat, j + n = 13 → j ≤ 12 → K_X5_wraps_4 n a j (nI (sumN h j)) = nI (sumN h 12) := by
  intro n
  induction n with
  | zero => intro j h1 h2; omega
  | succ n ih =>
    intro j h1 h2
    unfold K_X5_wraps_4
    by_cases hj : 12 ≤ j
    · have : j = 12 := by omega
      subst this
      rw [if_pos ((c12 (by omega)).mpr (Nat.le_refl _))]
    · rw [if_neg (fun z => hj ((c12 (by omega)).mp z)), (H j (by omega)).2, nI_add]
      exact ih (j + 1) (by omega) (by omega)
theorem wraps_eq {h : Nat → Nat} {a : Nat → Int32} (H : HR h a) : F_X5_wraps a = nI (sumN h 12) := wraps_K H 13 0 (by omega) (by omega)
theorem greatest_K {h : Nat → Nat} {a : Nat → Int32} (H : HR h a) : ∀ n j : Nat, j + n = 13 → j ≤ 12 → K_X5_greatest_4 n a j (nI (maxN h j)) = nI (maxN h 12) := by
  intro n
  induction n with
  | zero => intro j h1 h2; omega
  | succ n ih =>
    intro j h1 h2
    unfold K_X5_greatest_4
    by_cases hj : 12 ≤ j
    · have : j = 12 := by omega
      subst this
      rw [if_pos ((c12 (by omega)).mpr (Nat.le_refl _))]
    · have hm := H.max (n := j) (by omega)
      have hl := H.lt (j := j) (by omega)
      rw [if_neg (fun z => hj ((c12 (by omega)).mp z)), (H j (by omega)).2]
      have hi := nI_leI (a := h j) (b := maxN h j) hl (by omega)
      have e : maxN h (j + 1) = max (maxN h j) (h j) := rfl
      by_cases hc : h j ≤ maxN h j
      · rw [if_pos (hi.mpr hc)]
        have := ih (j + 1) (by omega) (by omega)
        rw [e, Nat.max_eq_left hc] at this
        exact this
      · rw [if_neg (fun z => hc (hi.mp z))]
        have := ih (j + 1) (by omega) (by omega)
        rw [e, Nat.max_eq_right (by omega)] at this
        exact this
theorem greatest_eq {h : Nat → Nat} {a : Nat → Int32} (H : HR h a) : F_X5_greatest a = nI (maxN h 12) := greatest_K H 13 0 (by omega) (by omega)
theorem even_K {h : Nat → Nat} {a : Nat → Int32} (H : HR h a) : ∀ n j : Nat, j + n = 13 → j ≤ 12 → K_X5_evenness_6 n a j (nI (minN 200 h j)) = nI (maxN h 12) - nI (minN 200 h 12) := by
  intro n
  induction n with
  | zero => intro j h1 h2; omega
  | succ n ih =>
    intro j h1 h2
    unfold K_X5_evenness_6
    by_cases hj : 12 ≤ j
    · have : j = 12 := by omega
      subst this
      rw [if_pos ((c12 (by omega)).mpr (Nat.le_refl _)), greatest_eq H]
    · have hm := minN_le (m := 200) (h := h) j
      have hl := H.lt (j := j) (by omega)
      rw [if_neg (fun z => hj ((c12 (by omega)).mp z)), (H j (by omega)).2]
      have hi := nI_leI (a := minN 200 h j) (b := h j) (by omega) hl
      have e : minN 200 h (j + 1) = min (minN 200 h j) (h j) := rfl
      by_cases hc : minN 200 h j ≤ h j
      · rw [if_pos (hi.mpr hc)]
        have := ih (j + 1) (by omega) (by omega)
        rw [e, Nat.min_eq_left hc] at this
        exact this
      · rw [if_neg (fun z => hc (hi.mp z))]
        have := ih (j + 1) (by omega) (by omega)
        rw [e, Nat.min_eq_right (by omega)] at this
        exact this
theorem even_KX {h : Nat → Nat} {v : WV} (H : HR h v.2) (m : Nat) (hm : m ≤ 200) (ht : v.1 1 = nI (maxN h 12)) : ∀ n j : Nat, j + n = 13 → j ≤ 12 → K_X3_evenness_16 n v j (nI (minN m h j)) = nI (maxN h 12) - nI (minN m h 12) := by
  intro n
  induction n with
  | zero => intro j h1 h2; omega
  | succ n ih =>
    intro j h1 h2
    unfold K_X3_evenness_16
    by_cases hj : 12 ≤ j
    · have : j = 12 := by omega
      subst this
      rw [if_pos ((c12 (by omega)).mpr (Nat.le_refl _)), ht]
    · have hm2 := minN_le (m := m) (h := h) j
      have hl := H.lt (j := j) (by omega)
      rw [if_neg (fun z => hj ((c12 (by omega)).mp z)), (H j (by omega)).2]
      have hi := nI_ltI (a := h j) (b := minN m h j) hl (by omega)
      have e : minN m h (j + 1) = min (minN m h j) (h j) := rfl
      by_cases hc : h j < minN m h j
      · rw [if_pos (hi.mpr hc)]
        have := ih (j + 1) (by omega) (by omega)
        rw [e, Nat.min_eq_right (by omega)] at this
        exact this
      · rw [if_neg (fun z => hc (hi.mp z))]
        have := ih (j + 1) (by omega) (by omega)
        rw [e, Nat.min_eq_left (by omega)] at this
        exact this
theorem even_eq {h : Nat → Nat} {v : WV} {a : Nat → Int32} (H : HR h a) (hv : ∀ j, j < 12 → v.2 j = a j) (ht : v.1 1 = nI (maxN h 12)) : F_X3_evenness v = F_X5_evenness a := by
  have H2 : HR h v.2 := fun j hj => ⟨(H j hj).1, (hv j hj).trans (H j hj).2⟩
  have h1 : F_X5_evenness a = nI (maxN h 12) - nI (minN 200 h 12) := even_K H 13 0 (by omega) (by omega)
  have hmx := H.max (n := 12) (by omega)
  have h2 : F_X3_evenness v = nI (maxN h 12) - nI (minN (maxN h 12) h 12) := by
    unfold F_X3_evenness
    rw [ht]
    exact even_KX H2 (maxN h 12) hmx ht 13 0 (by omega) (by omega)
  rw [h1, h2, minN_same (m := maxN h 12) (k := 200) (h := h) (le_maxN (by omega)) (H 0 (by omega)).1 11]
theorem heightAt_nI (v : WV) {j : Nat} (hj : j < 12) : F_X3_heightAt v (nI j) = v.2 j := by
  unfold F_X3_heightAt
  rw [if_neg (nI_pos (by omega)), if_neg (fun z => absurd ((c12 (by omega)).mp z) (by omega)), nI_clamp (by omega)]
theorem in_ok : ∀ k : Fin 12, F_X5_in (Int32.toInt64 (nI k.val)) 0 11 = 1 := by decide +kernel
theorem in_12 : F_X5_in (Int32.toInt64 (nI 12)) 0 11 = 0 := by decide +kernel
theorem in_m1 : F_X5_in (Int32.toInt64 (nI 0 - 1)) 0 11 = 0 := by decide +kernel
theorem above_ok (a : Nat → Int32) {j k : Nat} (hj : j < 12) (hk : k < 12) : F_X5_isAbove a (nI j) (nI k) = if a j - a k < 6 then 0 else 1 := by
  unfold F_X5_isAbove
  rw [if_neg (by rw [in_ok ⟨k, hk⟩]; decide), ix0 j (by omega), ix0 k (by omega)]
theorem over_ok (v : WV) {j k : Nat} (hj : j < 12) (hk : k < 12) : F_X3_isRibbonOver v (nI j) (nI k) = if v.2 j - v.2 k < 6 then 0 else 1 := by
  unfold F_X3_isRibbonOver
  rw [heightAt_nI v hj, heightAt_nI v hk]
theorem ribbon_eq {v : WV} {a : Nat → Int32} (hv : ∀ j, j < 12 → v.2 j = a j) {j : Nat} (hj : j < 12) : F_X3_isRibbon v (nI j) = F_X5_isRibbon a (nI j) := by
  have c0 : (nI j = 0) ↔ j = 0 := nI_eq (b := 0) (by omega) (by omega)
  have c11 : (nI j = 11) ↔ j = 11 := nI_eq (b := 11) (by omega) (by omega)
  have up : nI j + 1 = nI (j + 1) := nI_1 j
  unfold F_X3_isRibbon F_X5_isRibbon
  by_cases h0 : j = 0
  · subst h0
    have e1 : F_X5_isAbove a (nI 0) (nI 0 - 1) = 1 := by unfold F_X5_isAbove; rw [if_pos in_m1]
    rw [if_pos (c0.mpr rfl), if_neg (fun z => absurd (c11.mp z) (by omega)), e1, if_neg (show ¬ (1 : Int32) = 0 from by decide), nI_1, over_ok v (by omega) (by omega), above_ok a (by omega) (by omega), hv 0 (by omega), hv (0 + 1) (by omega)]
  · obtain ⟨k, rfl⟩ : ∃ k, j = k + 1 := ⟨j - 1, by omega⟩
    rw [if_neg (fun z => h0 (c0.mp z)), nI_pred, over_ok v hj (by omega), above_ok a hj (by omega), hv (k + 1) hj, hv k (by omega)]
    by_cases h11 : k + 1 = 11
    · have e2 : F_X5_isAbove a (nI (k + 1)) (nI (k + 1) + 1) = 1 := by
        unfold F_X5_isAbove
        rw [h11, nI_1, if_pos in_12]
      rw [e2]
      have p11 : nI (k + 1) = 11 := c11.mpr h11
      simp only [p11, if_true]
      by_cases c : a (k + 1) - a k < 6
      · simp [c]
      · simp [c]
    · rw [up, over_ok v hj (by omega), above_ok a hj (by omega), hv (k + 1) hj, hv (k + 1 + 1) (by omega)]
      have p11 : ¬ nI (k + 1) = 11 := fun z => h11 (c11.mp z)
      simp only [p11, if_false]
      by_cases c : a (k + 1) - a k < 6 <;> by_cases c2 : a (k + 1) - a (k + 1 + 1) < 6 <;> simp [c, c2]
theorem oneIf_eq (r e : Int32) : e + F_X4_oneIf r = if r = 0 then e + 0 else e + 1 := by
  unfold F_X4_oneIf
  split <;> rfl
theorem ribbons_K {v : WV} {a : Nat → Int32} (hv : ∀ j, j < 12 → v.2 j = a j) : ∀ (n j : Nat) (e : Int32), j + n = 13 → j ≤ 12 → K_X3_ribbons_4 n v j e = K_X5_ribbons_4 n a j e := by
  intro n
  induction n with
  | zero => intro j e h1 h2; rfl
  | succ n ih =>
    intro j e h1 h2
    unfold K_X3_ribbons_4 K_X5_ribbons_4
    by_cases hj : 12 ≤ j
    · have hc : (12 : Int32) ≤ nI j := (c12 (by omega)).mpr hj
      rw [if_pos hc, if_pos hc]
    · have hc : ¬ (12 : Int32) ≤ nI j := fun z => hj ((c12 (by omega)).mp z)
      rw [if_neg hc, if_neg hc, ribbon_eq hv (by omega), oneIf_eq]
      split
      · exact ih (j + 1) _ (by omega) (by omega)
      · exact ih (j + 1) _ (by omega) (by omega)
theorem ribbons_eq {v : WV} {a : Nat → Int32} (hv : ∀ j, j < 12 → v.2 j = a j) : F_X3_ribbons v = F_X5_ribbons a := ribbons_K hv 13 0 0 (by omega) (by omega)
theorem bare_K {v : WV} {a : Nat → Int32} (hv : ∀ j, j < 12 → v.2 j = a j) : ∀ (n j : Nat) (e : Int32), j + n = 13 → j ≤ 12 → K_X3_barePlaces_13 n v j e = K_X5_bare_4 n a j e := by
  intro n
  induction n with
  | zero => intro j e h1 h2; rfl
  | succ n ih =>
    intro j e h1 h2
    unfold K_X3_barePlaces_13 K_X5_bare_4
    by_cases hj : 12 ≤ j
    · have hc : (12 : Int32) ≤ nI j := (c12 (by omega)).mpr hj
      rw [if_pos hc, if_pos hc]
    · have hc : ¬ (12 : Int32) ≤ nI j := fun z => hj ((c12 (by omega)).mp z)
      rw [if_neg hc, if_neg hc, hv j (by omega)]
      split
      · exact ih (j + 1) _ (by omega) (by omega)
      · exact ih (j + 1) _ (by omega) (by omega)
theorem bare_eq {v : WV} {a : Nat → Int32} (hv : ∀ j, j < 12 → v.2 j = a j) : F_X3_barePlaces v = F_X5_bare a := bare_K hv 13 0 0 (by omega) (by omega)
theorem knots_K {u : SV} {a : Nat → Int32} (hv : ∀ j, j < 12 → u.2.2.1 j = a (12 + j)) : ∀ (n j : Nat) (e : Int32), j + n = 13 → j ≤ 12 → K_X2_allKnots_13 n u j e = K_X5_allKnots_4 n a j e := by
  intro n
  induction n with
  | zero => intro j e h1 h2; rfl
  | succ n ih =>
    intro j e h1 h2
    unfold K_X2_allKnots_13 K_X5_allKnots_4
    by_cases hj : 12 ≤ j
    · have hc : (12 : Int32) ≤ nI j := (c12 (by omega)).mpr hj
      rw [if_pos hc, if_pos hc]
    · have hc : ¬ (12 : Int32) ≤ nI j := fun z => hj ((c12 (by omega)).mp z)
      rw [if_neg hc, if_neg hc, hv j (by omega)]
      exact ih (j + 1) _ (by omega) (by omega)
theorem allKnots_eq {u : SV} {a : Nat → Int32} (hv : ∀ j, j < 12 → u.2.2.1 j = a (12 + j)) : F_X2_allKnots u = F_X5_allKnots a := knots_K hv 13 0 0 (by omega) (by omega)
theorem knotsAt_nI (u : SV) {j : Nat} (hj : j < 12) : F_X2_knotsAt u (nI j) = u.2.2.1 j := by
  unfold F_X2_knotsAt
  rw [if_neg (nI_pos (by omega)), if_neg (fun z => absurd ((c12 (by omega)).mp z) (by omega)), nI_clamp (by omega)]
theorem bad_eq {u : SV} {a : Nat → Int32} (hv : ∀ j, j < 12 → u.2.2.1 j = a (12 + j)) {j : Nat} (hj : j < 12) : F_X2_isBad u (nI j) = F_X5_isBad a (nI j) := by
  unfold F_X2_isBad F_X5_isBad
  rw [knotsAt_nI u hj, hv j hj, show Int32.toNatClampNeg (12 + nI j) = 12 + j from ixc 12 j (by omega)]
theorem bads_K {u : SV} {a : Nat → Int32} (hv : ∀ j, j < 12 → u.2.2.1 j = a (12 + j)) : ∀ (n j : Nat) (e : Int32), j + n = 13 → j ≤ 12 → K_X2_hasBadPlace_4 n u j e = K_X5_isAnyBad_4 n a j e := by
  intro n
  induction n with
  | zero => intro j e h1 h2; rfl
  | succ n ih =>
    intro j e h1 h2
    unfold K_X2_hasBadPlace_4 K_X5_isAnyBad_4
    by_cases hj : 12 ≤ j
    · have hc : (12 : Int32) ≤ nI j := (c12 (by omega)).mpr hj
      rw [if_pos hc, if_pos hc]
    · have hc : ¬ (12 : Int32) ≤ nI j := fun z => hj ((c12 (by omega)).mp z)
      rw [if_neg hc, if_neg hc, bad_eq hv (by omega), ih (j + 1) 0 (by omega) (by omega), ih (j + 1) 1 (by omega) (by omega)]
theorem bads_eq {u : SV} {a : Nat → Int32} (hv : ∀ j, j < 12 → u.2.2.1 j = a (12 + j)) : F_X2_hasBadPlace u = F_X5_isAnyBad a := bads_K hv 13 0 0 (by omega) (by omega)
