/-! The heights, knots and ribbons of the places come to what is counted -/
theorem tree_506 {e wr kn ri ml mo b c0 c11 c10 c9 c8 c1 c4 c2 c3 : Int32} (he : ¬ e = 0) (h0 : wr = c0) (h11 : kn = c11) (h10 : ri = c10) (h9 : ml = c9) (h8 : (c8 = 1 ∧ mo = 200) ∨ (¬ c8 = 1 ∧ ¬ mo = 200)) (h7 : (c1 = 0 ∧ b = 1) ∨ (¬ c1 = 0 ∧ b = 0)) (h4 : ¬ c4 < 0) (h4b : ¬ 300 < c4) (h2 : ¬ c2 < 0) (h2b : ¬ 11 < c2) (h5 : 0 < c2 ∨ (¬ 0 < c2 ∧ c3 = 0)) (h6 : c2 < 11 ∨ (¬ c2 < 11 ∧ c3 = 1)) : ((if e = 0 then 0 else (if wr = c0 then (if kn = c11 then (if ri = c10 then (if ml = c9 then (if c8 = 1 then (if mo = 200 then (if c1 = 0 then (if b = 1 then (if c4 < 0 then 0 else (if 300 < c4 then 0 else (if c2 < 0 then 0 else (if 11 < c2 then 0 else (if 0 < c2 then (if c2 < 11 then 1 else (if c3 = 1 then 1 else 0)) else (if c3 = 0 then (if c2 < 11 then 1 else (if c3 = 1 then 1 else 0)) else 0)))))) else 0) else (if b = 0 then (if c4 < 0 then 0 else (if 300 < c4 then 0 else (if c2 < 0 then 0 else (if 11 < c2 then 0 else (if 0 < c2 then (if c2 < 11 then 1 else (if c3 = 1 then 1 else 0)) else (if c3 = 0 then (if c2 < 11 then 1 else (if c3 = 1 then 1 else 0)) else 0)))))) else 0)) else 0) else (if mo = 200 then 0 else (if c1 = 0 then (if b = 1 then (if c4 < 0 then 0 else (if 300 < c4 then 0 else (if c2 < 0 then 0 else (if 11 < c2 then 0 else (if 0 < c2 then (if c2 < 11 then 1 else (if c3 = 1 then 1 else 0)) else (if c3 = 0 then (if c2 < 11 then 1 else (if c3 = 1 then 1 else 0)) else 0)))))) else 0) else (if b = 0 then (if c4 < 0 then 0 else (if 300 < c4 then 0 else (if c2 < 0 then 0 else (if 11 < c2 then 0 else (if 0 < c2 then (if c2 < 11 then 1 else (if c3 = 1 then 1 else 0)) else (if c3 = 0 then (if c2 < 11 then 1 else (if c3 = 1 then 1 else 0)) else 0)))))) else 0)))) else 0) else 0) else 0) else 0)) : Int32) = 1 := by
  rw [if_neg he, if_pos h0, if_pos h11, if_pos h10, if_pos h9]
  have fin : (if 0 < c2 then (if c2 < 11 then (1 : Int32) else (if c3 = 1 then 1 else 0)) else (if c3 = 0 then (if c2 < 11 then 1 else (if c3 = 1 then 1 else 0)) else 0)) = 1 := by
    have f2 : (if c2 < 11 then (1 : Int32) else (if c3 = 1 then 1 else 0)) = 1 := by
      rcases h6 with z | ⟨z, y⟩
      · rw [if_pos z]
      · rw [if_neg z, if_pos y]
    rcases h5 with z | ⟨z, y⟩
    · rw [if_pos z, f2]
    · rw [if_neg z, if_pos y, f2]
  rcases h8 with ⟨z, y⟩ | ⟨z, y⟩
  · rw [if_pos z, if_pos y]
    rcases h7 with ⟨z, y⟩ | ⟨z, y⟩
    · rw [if_pos z, if_pos y, if_neg h4, if_neg h4b, if_neg h2, if_neg h2b, fin]
    · rw [if_neg z, if_pos y, if_neg h4, if_neg h4b, if_neg h2, if_neg h2b, fin]
  · rw [if_neg z, if_neg y]
    rcases h7 with ⟨z, y⟩ | ⟨z, y⟩
    · rw [if_pos z, if_pos y, if_neg h4, if_neg h4b, if_neg h2, if_neg h2b, fin]
    · rw [if_neg z, if_pos y, if_neg h4, if_neg h4b, if_neg h2, if_neg h2b, fin]
theorem tree_571 {e a b z wr c5 : Int32} (he : ¬ e = 0) (hz : (a = 0 ∧ b = 0 ∧ (z = -5 ∨ (¬ z = -5 ∧ ¬ z < 1 ∧ ¬ 1000 < z))) ∨ ((¬ a = 0 ∨ ¬ b = 0) ∧ z = -4)) (h5 : 0 < wr ∨ (¬ 0 < wr ∧ c5 = 0)) : ((if e = 0 then 0 else (if a = 0 then (if b = 0 then (if z = (-5) then (if 0 < wr then 1 else (if c5 = 0 then 1 else 0)) else (if z < 1 then 0 else (if 1000 < z then 0 else (if 0 < wr then 1 else (if c5 = 0 then 1 else 0))))) else (if z = (-4) then (if 0 < wr then 1 else (if c5 = 0 then 1 else 0)) else 0)) else (if z = (-4) then (if 0 < wr then 1 else (if c5 = 0 then 1 else 0)) else 0))) : Int32) = 1 := by
  have fin : (if 0 < wr then (1 : Int32) else (if c5 = 0 then 1 else 0)) = 1 := by
    rcases h5 with z | ⟨z, y⟩
    · rw [if_pos z]
    · rw [if_neg z, if_pos y]
  rw [if_neg he]
  rcases hz with ⟨h1, h2, h3⟩ | ⟨h1, h3⟩
  · rw [if_pos h1, if_pos h2]
    rcases h3 with h3 | ⟨h3, h4, h5⟩
    · rw [if_pos h3, fin]
    · rw [if_neg h3, if_neg h4, if_neg h5, fin]
  · by_cases q : a = 0
    · rw [if_pos q, if_neg (h1.resolve_left (fun y => y q)), if_pos h3, fin]
    · rw [if_neg q, if_pos h3, fin]
theorem tree_204 {p0 p1 p2 p3 l r : Int32} (h0 : ¬ p0 < 0) (h0b : ¬ 200 < p0) (h2 : (p2 = 1 ∧ ¬ l = 0 ∧ ¬ r = 0) ∨ (¬ p2 = 1 ∧ (l = 0 ∨ r = 0))) (h3 : (p3 = 1 ∧ ¬ p1 ≤ 2) ∨ (¬ p3 = 1 ∧ p1 ≤ 2)) (h1 : p1 = 0 ∨ ¬ p0 ≤ 0) : ((if p0 < 0 then 0 else (if 200 < p0 then 0 else (if p2 = 1 then (if l = 0 then 0 else (if r = 0 then 0 else (if p3 = 1 then (if p1 ≤ 2 then 0 else (if p1 = 0 then 1 else (if p0 ≤ 0 then 0 else 1))) else (if p1 ≤ 2 then (if p1 = 0 then 1 else (if p0 ≤ 0 then 0 else 1)) else 0)))) else (if l = 0 then (if p3 = 1 then (if p1 ≤ 2 then 0 else (if p1 = 0 then 1 else (if p0 ≤ 0 then 0 else 1))) else (if p1 ≤ 2 then (if p1 = 0 then 1 else (if p0 ≤ 0 then 0 else 1)) else 0)) else (if r = 0 then (if p3 = 1 then (if p1 ≤ 2 then 0 else (if p1 = 0 then 1 else (if p0 ≤ 0 then 0 else 1))) else (if p1 ≤ 2 then (if p1 = 0 then 1 else (if p0 ≤ 0 then 0 else 1)) else 0)) else 0))))) : Int32) = 1 := by
  have fin : (if p3 = 1 then (if p1 ≤ 2 then (0 : Int32) else (if p1 = 0 then 1 else (if p0 ≤ 0 then 0 else 1))) else (if p1 ≤ 2 then (if p1 = 0 then 1 else (if p0 ≤ 0 then 0 else 1)) else 0)) = 1 := by
    have f2 : (if p1 = 0 then (1 : Int32) else (if p0 ≤ 0 then 0 else 1)) = 1 := by
      by_cases q : p1 = 0
      · rw [if_pos q]
      · rw [if_neg q, if_neg (h1.resolve_left q)]
    rcases h3 with ⟨z, y⟩ | ⟨z, y⟩
    · rw [if_pos z, if_neg y, f2]
    · rw [if_neg z, if_pos y, f2]
  rw [if_neg h0, if_neg h0b]
  rcases h2 with ⟨z, y, x⟩ | ⟨z, y⟩
  · rw [if_pos z, if_neg y, if_neg x, fin]
  · rw [if_neg z]
    by_cases q : l = 0
    · rw [if_pos q, fin]
    · rw [if_neg q, if_pos (y.resolve_left q), fin]
theorem dif_lt {a b : Nat} (ha : a ≤ 200) (hb : b ≤ 200) : (nI a - nI b < 6) ↔ a < b + 6 := by
  rw [Int32.lt_iff_toInt_lt, Int32.toInt_sub, nI_toInt (by omega), nI_toInt (by omega), Int.bmod_eq_of_le (by omega) (by omega), show (6 : Int32).toInt = 6 from by decide]
  omega
theorem dif_le {a b : Nat} (ha : a ≤ 200) (hb : b ≤ 200) : (nI a - nI b ≤ 5) ↔ a ≤ b + 5 := by
  rw [Int32.le_iff_toInt_le, Int32.toInt_sub, nI_toInt (by omega), nI_toInt (by omega), Int.bmod_eq_of_le (by omega) (by omega), show (5 : Int32).toInt = 5 from by decide]
  omega
def lfN (h : Nat → Nat) (j : Nat) : Nat := if j = 0 ∨ h (j - 1) + 6 ≤ h j then 1 else 0
def rtN (h : Nat → Nat) (j : Nat) : Nat := if j = 11 ∨ h (j + 1) + 6 ≤ h j then 1 else 0
def ribN (h : Nat → Nat) (j : Nat) : Nat := if lfN h j = 0 then 0 else rtN h j
theorem lf_01 (h : Nat → Nat) (j : Nat) : lfN h j = 0 ∨ lfN h j = 1 := by
  unfold lfN
  split
  · exact Or.inr rfl
  · exact Or.inl rfl
theorem rt_01 (h : Nat → Nat) (j : Nat) : rtN h j = 0 ∨ rtN h j = 1 := by
  unfold rtN
  split
  · exact Or.inr rfl
  · exact Or.inl rfl
theorem over_w {v : WV} {h : Nat → Nat} {w : Nat} (H : WW v h w) {j k : Nat} (hj : j < 12) (hk : k < 12) : F_X3_isRibbonOver v (nI j) (nI k) = if h k + 6 ≤ h j then 1 else 0 := by
  have a := H.1 j hj
  have b := H.1 k hk
  rw [over_ok v hj hk, a.2, b.2]
  have c := dif_lt a.1 b.1
  by_cases q : h k + 6 ≤ h j
  · rw [if_neg (fun z => by have := c.mp z; omega), if_pos q]
  · rw [if_pos (c.mpr (by omega)), if_neg q]
theorem rib_w {v : WV} {h : Nat → Nat} {w : Nat} (H : WW v h w) {j : Nat} (hj : j < 12) : F_X3_isRibbon v (nI j) = nI (ribN h j) := by
  have c0 : (nI j = 0) ↔ j = 0 := nI_eq (b := 0) (by omega) (by omega)
  have c11 : (nI j = 11) ↔ j = 11 := nI_eq (b := 11) (by omega) (by omega)
  have n0 : ¬ (1 : Int32) = 0 := by decide
  unfold F_X3_isRibbon ribN lfN rtN
  by_cases q0 : j = 0
  · subst q0
    rw [if_pos (c0.mpr rfl), if_neg (fun z => absurd (c11.mp z) (by omega)), nI_1, over_w H (by omega) (by omega)]
    by_cases q : h (0 + 1) + 6 ≤ h 0
    · rw [if_pos q, if_neg n0]
      simp [q]
      rfl
    · rw [if_neg q, if_pos rfl]
      simp [q]
      rfl
  · obtain ⟨k, rfl⟩ : ∃ k, j = k + 1 := ⟨j - 1, by omega⟩
    rw [if_neg (fun z => q0 (c0.mp z)), nI_pred, over_w H hj (by omega)]
    by_cases q11 : k + 1 = 11
    · rw [if_pos (c11.mpr q11), if_pos (c11.mpr q11)]
      by_cases q : h k + 6 ≤ h (k + 1)
      · rw [if_pos q, if_neg n0]
        have hk : k = 10 := by omega
        subst hk
        simp [q]
        rfl
      · rw [if_neg q, if_pos rfl]
        simp [q]
        rfl
    · rw [if_neg (fun z => q11 (c11.mp z)), if_neg (fun z => q11 (c11.mp z)), nI_1, over_w H hj (by omega)]
      have q10 : ¬ k = 10 := by omega
      by_cases q : h k + 6 ≤ h (k + 1) <;> by_cases q2 : h (k + 1 + 1) + 6 ≤ h (k + 1)
      · rw [if_pos q, if_pos q2, if_neg n0, if_neg n0]
        simp [q, q2]
        rfl
      · rw [if_pos q, if_neg q2, if_neg n0, if_pos rfl]
        simp [q, q2, q10]
        rfl
      · rw [if_neg q, if_pos q2, if_pos rfl, if_neg n0]
        simp [q, q2]
        rfl
      · rw [if_neg q, if_neg q2, if_pos rfl, if_pos rfl]
        simp [q, q2]
        rfl
theorem rib_01 (h : Nat → Nat) (j : Nat) : ribN h j = 0 ∨ ribN h j = 1 := by
  unfold ribN
  split
  · exact Or.inl rfl
  · exact rt_01 h j
theorem one_nI {a : Nat} (h : a = 0 ∨ a = 1) : F_X4_oneIf (nI a) = nI a := by
  rcases h with rfl | rfl <;> decide +kernel
theorem ribs_K {v : WV} {h : Nat → Nat} {w : Nat} (H : WW v h w) : ∀ n j : Nat, j + n = 13 → j ≤ 12 → K_X3_ribbons_4 n v j (nI (sumN (ribN h) j)) = nI (sumN (ribN h) 12) := by
  intro n
  induction n with
  | zero => intro j h1 h2; omega
  | succ n ih =>
    intro j h1 h2
    unfold K_X3_ribbons_4
    by_cases hj : 12 ≤ j
    · have : j = 12 := by omega
      subst this
      rw [if_pos ((c12 (by omega)).mpr (Nat.le_refl _))]
    · rw [if_neg (fun z => hj ((c12 (by omega)).mp z)), rib_w H (by omega), one_nI (rib_01 h j), nI_add]
      exact ih (j + 1) (by omega) (by omega)
theorem ribs_w {v : WV} {h : Nat → Nat} {w : Nat} (H : WW v h w) : F_X3_ribbons v = nI (sumN (ribN h) 12) := ribs_K H 13 0 (by omega) (by omega)
theorem ribs_le (h : Nat → Nat) : sumN (ribN h) 12 ≤ 12 := by
  have := sumN_le (h := ribN h) (m := 1) (n := 12) (fun i _ => by rcases rib_01 h i with z | z <;> omega)
  omega
def bdN (k : Nat → Nat) (j : Nat) : Nat := if k j ≤ 2 then 0 else 1
def baN (k : Nat → Nat) : Nat → Nat
  | 0 => 0
  | j + 1 => if baN k j = 0 then bdN k j else 1
theorem bd_01 (k : Nat → Nat) (j : Nat) : bdN k j = 0 ∨ bdN k j = 1 := by
  unfold bdN
  split
  · exact Or.inl rfl
  · exact Or.inr rfl
theorem ba_01 (k : Nat → Nat) (j : Nat) : baN k j = 0 ∨ baN k j = 1 := by
  cases j with
  | zero => exact Or.inl rfl
  | succ j =>
    unfold baN
    split
    · exact bd_01 k j
    · exact Or.inr rfl
theorem bad_w {u : SV} {h k : Nat → Nat} {B : Nat} (H : KN u.2.2.1 h k B) (hB : B < 2 ^ 20) {j : Nat} (hj : j < 12) : F_X2_isBad u (nI j) = nI (bdN k j) := by
  have a := H j hj
  have c : (nI (k j) ≤ 2) ↔ k j ≤ 2 := nI_leI (b := 2) (by omega) (by omega)
  unfold F_X2_isBad bdN
  rw [knotsAt_nI u hj, a.1]
  by_cases q : k j ≤ 2
  · rw [if_pos (c.mpr q), if_pos q, nI_0]
  · rw [if_neg (fun z => q (c.mp z)), if_neg q]
    rfl
theorem bads_K {u : SV} {h k : Nat → Nat} {B : Nat} (H : KN u.2.2.1 h k B) (hB : B < 2 ^ 20) : ∀ n j : Nat, j + n = 13 → j ≤ 12 → K_X2_hasBadPlace_4 n u j (nI (baN k j)) = nI (baN k 12) := by
  intro n
  induction n with
  | zero => intro j h1 h2; omega
  | succ n ih =>
    intro j h1 h2
    unfold K_X2_hasBadPlace_4
    by_cases hj : 12 ≤ j
    · have : j = 12 := by omega
      subst this
      rw [if_pos ((c12 (by omega)).mpr (Nat.le_refl _))]
    · rw [if_neg (fun z => hj ((c12 (by omega)).mp z)), bad_w H hB (by omega)]
      have := ih (j + 1) (by omega) (by omega)
      unfold baN at this
      rcases ba_01 k j with q | q
      · rw [q] at this ⊢
        rw [if_pos rfl] at this
        rw [if_pos nI_0]
        rcases bd_01 k j with y | y
        · rw [y] at this ⊢
          rw [if_pos nI_0]
          exact this
        · rw [y] at this ⊢
          rw [if_neg (nI_ne0 (by omega) (by omega))]
          exact this
      · rw [q] at this ⊢
        rw [if_neg (by omega)] at this
        rw [if_neg (nI_ne0 (by omega) (by omega))]
        exact this
theorem bads_w {u : SV} {h k : Nat → Nat} {B : Nat} (H : KN u.2.2.1 h k B) (hB : B < 2 ^ 20) : F_X2_hasBadPlace u = nI (baN k 12) := bads_K H hB 13 0 (by omega) (by omega)
theorem pl_in {j : Nat} (hj : j < 12) : ¬ nI j < 0 ∧ nI j < 12 := ⟨nI_pos (by omega), (nI_ltI (b := 12) (by omega) (by omega)).mpr hj⟩
theorem pl_0 {xv : XV} {h : Nat → Nat} {w : Nat} (H : WW xv.2.1.2.1 h w) {j : Nat} (hj : j < 12) : F_X4_place xv (nI j) 0 = nI (h j) := by
  unfold F_X4_place
  rw [if_neg (pl_in hj).1, if_pos (pl_in hj).2, if_pos rfl, heightAt_nI _ hj, (H.1 j hj).2]
theorem pl_1 {xv : XV} {h k : Nat → Nat} {B : Nat} (H : KN xv.2.1.2.2.1 h k B) {j : Nat} (hj : j < 12) : F_X4_place xv (nI j) 1 = nI (k j) := by
  unfold F_X4_place
  rw [if_neg (pl_in hj).1, if_pos (pl_in hj).2, if_neg (by decide), if_pos rfl, knotsAt_nI _ hj, (H j hj).1]
theorem pl_2 {xv : XV} {h : Nat → Nat} {w : Nat} (H : WW xv.2.1.2.1 h w) {j : Nat} (hj : j < 12) : F_X4_place xv (nI j) 2 = nI (ribN h j) := by
  unfold F_X4_place
  rw [if_neg (pl_in hj).1, if_pos (pl_in hj).2, if_neg (by decide), if_neg (by decide), if_pos rfl, rib_w H hj, one_nI (rib_01 h j)]
theorem pl_3 {xv : XV} {h k : Nat → Nat} {B : Nat} (H : KN xv.2.1.2.2.1 h k B) (hB : B < 2 ^ 20) {j : Nat} (hj : j < 12) : F_X4_place xv (nI j) 3 = nI (bdN k j) := by
  unfold F_X4_place
  rw [if_neg (pl_in hj).1, if_pos (pl_in hj).2, if_neg (by decide), if_neg (by decide), if_neg (by decide), if_pos rfl, bad_w H hB hj, one_nI (bd_01 k j)]
