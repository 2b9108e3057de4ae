/-! Rows of numbers, and the winder's own reckoning (out of the parts of whole) -/
theorem upd_ne {f : Nat → Int32} {i j : Nat} {x : Int32} (h : j ≠ i) : upd f i x j = f j := by simp [upd, h]
theorem upd_eq {f : Nat → Int32} {i : Nat} {x : Int32} : upd f i x i = x := by simp [upd]
def maxN (h : Nat → Nat) : Nat → Nat
  | 0 => 0
  | n + 1 => max (maxN h n) (h n)
def sumN (h : Nat → Nat) : Nat → Nat
  | 0 => 0
  | n + 1 => sumN h n + h n
def minN (m : Nat) (h : Nat → Nat) : Nat → Nat
  | 0 => m
  | n + 1 => min (minN m h n) (h n)
def updN (h : Nat → Nat) (i v : Nat) : Nat → Nat := fun j => if j = i then v else h j
def HR (h : Nat → Nat) (f : Nat → Int32) : Prop := ∀ j, j < 12 → h j ≤ 200 ∧ f j = nI (h j)
theorem maxN_le {h : Nat → Nat} {m : Nat} : ∀ {n : Nat}, (∀ j, j < n → h j ≤ m) → maxN h n ≤ m
  | 0, _ => Nat.zero_le _
  | n + 1, H => by
    show max (maxN h n) (h n) ≤ m
    exact Nat.max_le.mpr ⟨maxN_le (fun j hj => H j (by omega)), H n (by omega)⟩
theorem le_maxN {h : Nat → Nat} : ∀ {n j : Nat}, j < n → h j ≤ maxN h n
  | 0, j, hj => absurd hj (Nat.not_lt_zero j)
  | n + 1, j, hj => by
    show h j ≤ max (maxN h n) (h n)
    rcases Nat.lt_or_ge j n with q | q
    · exact Nat.le_trans (le_maxN q) (Nat.le_max_left _ _)
    · have : j = n := by omega
      subst this
      exact Nat.le_max_right _ _
theorem sumN_le {h : Nat → Nat} {m : Nat} : ∀ {n : Nat}, (∀ j, j < n → h j ≤ m) → sumN h n ≤ m * n
  | 0, _ => Nat.zero_le _
  | n + 1, H => by
    show sumN h n + h n ≤ m * (n + 1)
    have h1 := sumN_le (m := m) (n := n) (fun j hj => H j (by omega))
    have h2 := H n (by omega)
    rw [Nat.mul_succ]
    omega
theorem sumN_up {h : Nat → Nat} {i v : Nat} : ∀ {n : Nat}, (i < n → sumN (updN h i v) n + h i = sumN h n + v) ∧ (n ≤ i → sumN (updN h i v) n = sumN h n)
  | 0 => ⟨fun z => absurd z (Nat.not_lt_zero i), fun _ => rfl⟩
  | n + 1 => by
    obtain ⟨h1, h2⟩ := sumN_up (h := h) (i := i) (v := v) (n := n)
    constructor
    · intro hi
      show sumN (updN h i v) n + updN h i v n + h i = sumN h n + h n + v
      rcases Nat.lt_or_ge i n with q | q
      · have := h1 q
        have e : updN h i v n = h n := by unfold updN; rw [if_neg (by omega)]
        rw [e]
        omega
      · have hin : i = n := by omega
        have e : updN h i v n = v := by unfold updN; rw [if_pos hin.symm]
        rw [e, h2 q, hin]
        omega
    · intro hi
      show sumN (updN h i v) n + updN h i v n = sumN h n + h n
      have e : updN h i v n = h n := by unfold updN; rw [if_neg (by omega)]
      rw [e, h2 (by omega)]
theorem maxN_up {h : Nat → Nat} {i v : Nat} (hv : h i ≤ v) : ∀ {n : Nat}, (i < n → maxN (updN h i v) n = max (maxN h n) v) ∧ (n ≤ i → maxN (updN h i v) n = maxN h n)
  | 0 => ⟨fun z => absurd z (Nat.not_lt_zero i), fun _ => rfl⟩
  | n + 1 => by
    obtain ⟨h1, h2⟩ := maxN_up (h := h) (i := i) (v := v) hv (n := n)
    constructor
    · intro hi
      show max (maxN (updN h i v) n) (updN h i v n) = max (max (maxN h n) (h n)) v
      rcases Nat.lt_or_ge i n with q | q
      · have e : updN h i v n = h n := by unfold updN; rw [if_neg (by omega)]
        rw [e, h1 q]
        omega
      · have hin : i = n := by omega
        have e : updN h i v n = v := by unfold updN; rw [if_pos hin.symm]
        rw [e, h2 q]
        subst hin
        omega
    · intro hi
      show max (maxN (updN h i v) n) (updN h i v n) = max (maxN h n) (h n)
      have e : updN h i v n = h n := by unfold updN; rw [if_neg (by omega)]
      rw [e, h2 (by omega)]
theorem minN_same {m k : Nat} {h : Nat → Nat} (h1 : h 0 ≤ m) (h2 : h 0 ≤ k) : ∀ n : Nat, minN m h (n + 1) = minN k h (n + 1)
  | 0 => by
    show min m (h 0) = min k (h 0)
    omega
  | n + 1 => by
    show min (minN m h (n + 1)) (h (n + 1)) = min (minN k h (n + 1)) (h (n + 1))
    rw [minN_same h1 h2 n]
theorem minN_le {m : Nat} {h : Nat → Nat} : ∀ n : Nat, minN m h n ≤ m
  | 0 => Nat.le_refl _
  | n + 1 => Nat.le_trans (Nat.min_le_left _ _) (minN_le n)
theorem c12 {j : Nat} (hj : j < 2 ^ 31) : ((12 : Int32) ≤ nI j) ↔ 12 ≤ j := nI_leI (a := 12) (by omega) hj
theorem HR.lt {h : Nat → Nat} {f : Nat → Int32} (H : HR h f) {j : Nat} (hj : j < 12) : h j < 2 ^ 31 := by
  have := (H j hj).1
  omega
theorem HR.sum {h : Nat → Nat} {f : Nat → Int32} (H : HR h f) {n : Nat} (hn : n ≤ 12) : sumN h n ≤ 2400 := by
  have h1 : sumN h n ≤ 200 * n := sumN_le (fun j hj => (H j (by omega)).1)
  omega
theorem HR.max {h : Nat → Nat} {f : Nat → Int32} (H : HR h f) {n : Nat} (hn : n ≤ 12) : maxN h n ≤ 200 := maxN_le (fun j hj => (H j (by omega)).1)
theorem even_KX {h : Nat → Nat} {v : WV} (H : HR h v.2) (m : Nat) (hm : m ≤ 200) (ht : v.1 1 = nI (maxN h 12)) : ∀ n j : Nat, j + n = 13 → j ≤ 12 → K_X3_evenness_16 n v j (nI (minN m h j)) = nI (maxN h 12) - nI (minN m h 12) := by
  intro n
  induction n with
  | zero => intro j h1 h2; omega
  | succ n ih =>
    intro j h1 h2
    unfold K_X3_evenness_16
    by_cases hj : 12 ≤ j
    · have : j = 12 := by omega
      subst this
      rw [if_pos ((c12 (by omega)).mpr (Nat.le_refl _)), ht]
    · have hm2 := minN_le (m := m) (h := h) j
      have hl := H.lt (j := j) (by omega)
      rw [if_neg (fun z => hj ((c12 (by omega)).mp z)), (H j (by omega)).2]
      have hi := nI_ltI (a := h j) (b := minN m h j) hl (by omega)
      have e : minN m h (j + 1) = min (minN m h j) (h j) := rfl
      by_cases hc : h j < minN m h j
      · rw [if_pos (hi.mpr hc)]
        have := ih (j + 1) (by omega) (by omega)
        rw [e, Nat.min_eq_right (by omega)] at this
        exact this
      · rw [if_neg (fun z => hc (hi.mp z))]
        have := ih (j + 1) (by omega) (by omega)
        rw [e, Nat.min_eq_left (by omega)] at this
        exact this
theorem heightAt_nI (v : WV) {j : Nat} (hj : j < 12) : F_X3_heightAt v (nI j) = v.2 j := by
  unfold F_X3_heightAt
  rw [if_neg (nI_pos (by omega)), if_neg (fun z => absurd ((c12 (by omega)).mp z) (by omega)), nI_clamp (by omega)]
theorem over_ok (v : WV) {j k : Nat} (hj : j < 12) (hk : k < 12) : F_X3_isRibbonOver v (nI j) (nI k) = if v.2 j - v.2 k < 6 then 0 else 1 := by
  unfold F_X3_isRibbonOver
  rw [heightAt_nI v hj, heightAt_nI v hk]
theorem knotsAt_nI (u : SV) {j : Nat} (hj : j < 12) : F_X2_knotsAt u (nI j) = u.2.2.1 j := by
  unfold F_X2_knotsAt
  rw [if_neg (nI_pos (by omega)), if_neg (fun z => absurd ((c12 (by omega)).mp z) (by omega)), nI_clamp (by omega)]
theorem empty_eq (u : SV) : F_X2_isConeEmpty u = if u.1 0 = 0 then 1 else 0 := rfl
theorem lay_val {v : WV} {q : Nat} (hq : q < 12) (h : F_X3_guidePlace v = nI q) : F_X3_layWrap v = (upd (upd v.1 0 (v.1 0 + 1)) 1 (if v.1 1 < v.2 q + 1 then v.2 q + 1 else v.1 1), upd v.2 q (v.2 q + 1)) := by
  unfold F_X3_layWrap
  rw [h, if_neg (nI_pos (by omega)), if_neg (fun z => absurd ((c12 (by omega)).mp z) (by omega)), nI_clamp (by omega), upd_eq]
theorem lay_0 {v : WV} {q : Nat} (hq : q < 12) (h : F_X3_guidePlace v = nI q) : (F_X3_layWrap v).1 0 = v.1 0 + 1 := by
  rw [lay_val hq h]
  dsimp only
  rw [upd_ne (by omega), upd_eq]
theorem lay_1 {v : WV} {q : Nat} (hq : q < 12) (h : F_X3_guidePlace v = nI q) : (F_X3_layWrap v).1 1 = if v.1 1 < v.2 q + 1 then v.2 q + 1 else v.1 1 := by
  rw [lay_val hq h]
  dsimp only
  rw [upd_eq]
theorem lay_2 {v : WV} {q : Nat} (hq : q < 12) (h : F_X3_guidePlace v = nI q) : (F_X3_layWrap v).1 2 = v.1 2 := by
  rw [lay_val hq h]
  dsimp only
  rw [upd_ne (by omega), upd_ne (by omega)]
theorem lay_h {v : WV} {q : Nat} (hq : q < 12) (h : F_X3_guidePlace v = nI q) : (F_X3_layWrap v).2 = upd v.2 q (v.2 q + 1) := by
  rw [lay_val hq h]
theorem warm_eq (W : Int32) : (if 0 < (if W < 300 then W else 300) then (if W < 300 then W else 300) else 0) = (if 0 ≤ W then (if 300 ≤ W then 300 else W) else 0) := by
  have z0 : (0 : Int32).toInt = 0 := by decide
  have z3 : (300 : Int32).toInt = 300 := by decide
  have a1 : (W < 300) ↔ W.toInt < 300 := by rw [Int32.lt_iff_toInt_lt, z3]
  have a2 : (0 < W) ↔ 0 < W.toInt := by rw [Int32.lt_iff_toInt_lt, z0]
  have a3 : (0 ≤ W) ↔ 0 ≤ W.toInt := by rw [Int32.le_iff_toInt_le, z0]
  have a4 : (300 ≤ W) ↔ 300 ≤ W.toInt := by rw [Int32.le_iff_toInt_le, z3]
  by_cases c1 : W.toInt < 300
  · rw [if_pos (a1.mpr c1)]
    by_cases c2 : 0 < W.toInt
    · rw [if_pos (a2.mpr c2), if_pos (a3.mpr (by omega)), if_neg (fun z => by have := a4.mp z; omega)]
    · rw [if_neg (fun z => c2 (a2.mp z))]
      by_cases c3 : 0 ≤ W.toInt
      · rw [if_pos (a3.mpr c3), if_neg (fun z => by have := a4.mp z; omega)]
        exact Int32.toInt_inj.mp (by rw [z0]; omega)
      · rw [if_neg (fun z => c3 (a3.mp z))]
  · rw [if_neg (fun z => c1 (a1.mp z)), if_pos (show (0 : Int32) < 300 from by decide), if_pos (a3.mpr (by omega)), if_pos (a4.mpr (by omega))]
theorem c5 {j : Nat} (hj : j < 2 ^ 31) : ((5 : Int32) ≤ nI j) ↔ 5 ≤ j := nI_leI (a := 5) (by omega) hj
theorem num_j (u : SV) {j : Nat} (hj : j < 5) : F_X2_number u (nI j) = u.2.2.2 j := by
  unfold F_X2_number
  rw [if_neg (nI_pos (by omega)), if_neg (fun z => absurd ((c5 (by omega)).mp z) (by omega)), nI_clamp (by omega)]
theorem num_0 (u : SV) : F_X2_number u 0 = u.2.2.2 0 := num_j u (j := 0) (by omega)
theorem num_1 (u : SV) : F_X2_number u 1 = u.2.2.2 1 := num_j u (j := 1) (by omega)
theorem num_2 (u : SV) : F_X2_number u 2 = u.2.2.2 2 := num_j u (j := 2) (by omega)
theorem num_3 (u : SV) : F_X2_number u 3 = u.2.2.2 3 := num_j u (j := 3) (by omega)
theorem num_4 (u : SV) : F_X2_number u 4 = u.2.2.2 4 := num_j u (j := 4) (by omega)
theorem turn_X {u : SV} (hi : F_X2_isIdle u = 0) {q : Nat} (hq : q < 12) (hp : F_X3_guidePlace u.2.1 = nI q) : F_X2_turnOnce u = if 10 + u.2.1.2 q ≤ u.1 0 then
    (if F_X2_tensionAt (upd (upd u.1 5 (u.1 5 + 1)) 0 (u.1 0 - (10 + u.2.1.2 q)), F_X3_layWrap u.2.1, u.2.2.1, u.2.2.2) (nI q) ≤ u.2.2.2 4 then
      (upd (upd (upd (upd (upd u.1 5 (u.1 5 + 1)) 0 (u.1 0 - (10 + u.2.1.2 q))) 4 (F_X2_tensionAt (upd (upd u.1 5 (u.1 5 + 1)) 0 (u.1 0 - (10 + u.2.1.2 q)), F_X3_layWrap u.2.1, u.2.2.1, u.2.2.2) (nI q))) 3 (nI q)) 1 (if 0 ≤ u.1 1 + u.2.2.2 1 - 1 then (if 300 ≤ u.1 1 + u.2.2.2 1 - 1 then 300 else u.1 1 + u.2.2.2 1 - 1) else 0), F_X3_moveGuide (F_X3_layWrap u.2.1) (u.2.2.2 0) (u.2.2.2 2) (u.1 5 + 1), u.2.2.1, u.2.2.2)
    else (upd (upd (upd (upd (upd (upd (upd u.1 5 (u.1 5 + 1)) 0 (u.1 0 - (10 + u.2.1.2 q))) 4 (F_X2_tensionAt (upd (upd u.1 5 (u.1 5 + 1)) 0 (u.1 0 - (10 + u.2.1.2 q)), F_X3_layWrap u.2.1, u.2.2.1, u.2.2.2) (nI q))) 3 (nI q)) 1 (if 0 ≤ u.1 1 + u.2.2.2 1 - 1 then (if 300 ≤ u.1 1 + u.2.2.2 1 - 1 then 300 else u.1 1 + u.2.2.2 1 - 1) else 0)) 2 1) 6 (u.1 6 + 1), F_X3_moveGuide (F_X3_layWrap u.2.1) (u.2.2.2 0) (u.2.2.2 2) (u.1 5 + 1), u.2.2.1, u.2.2.2))
    else (upd (upd u.1 5 (u.1 5 + 1)) 0 0, u.2.1, u.2.2.1, u.2.2.2) := by
  unfold F_X2_turnOnce F_X2_warmDiscs
  rw [if_pos hi, hp, heightAt_nI _ hq]
  simp only [num_0, num_1, num_2, num_4, warm_eq]
  by_cases c1 : 10 + u.2.1.2 q ≤ u.1 0
  · simp only [if_pos c1]
    simp only [upd, if_true, if_false, Nat.reduceEqDiff, reduceIte]
  · simp only [if_neg c1]
theorem nI_sub {a b : Nat} (h : b ≤ a) : nI a - nI b = nI (a - b) := by
  rw [show nI a = nI (a - b) + nI b from by rw [nI_add, Nat.sub_add_cancel h], Int32.add_sub_cancel]
theorem m5_ne {q : Nat} (hq : q < 2 ^ 31) : ¬ nI q = -5 := fun z => absurd (show nI q < 0 from by rw [z]; decide) (nI_pos hq)
