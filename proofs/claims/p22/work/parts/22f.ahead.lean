/-! What a traverse would bring, reckoned in whole numbers -/
theorem nI_div {a b : Nat} (ha : a < 2 ^ 31) (hb : b < 2 ^ 31) : nI a / nI b = nI (a / b) := by
  apply Int32.toInt_inj.mp
  have hq : a / b ≤ a := Nat.div_le_self _ _
  rw [Int32.toInt_div_of_ne_right _ _ (by
    intro z
    have := congrArg Int32.toInt z
    rw [nI_toInt hb] at this
    have h1 : (-1 : Int32).toInt = -1 := by decide
    rw [h1] at this
    omega), nI_toInt ha, nI_toInt hb, nI_toInt (by omega)]
  rfl
theorem nI_mod {a b : Nat} (ha : a < 2 ^ 31) (hb : b < 2 ^ 31) : nI a - nI a / nI b * nI b = nI (a % b) := by
  rw [nI_div ha hb, show nI (a / b) * nI b = nI (a / b * b) from (Int32.ofNat_mul _ _).symm]
  have hm : a / b * b + a % b = a := by rw [Nat.mul_comm]; exact Nat.div_add_mod a b
  have h2 : nI a = nI (a % b) + nI (a / b * b) := by
    rw [nI_add]
    exact congrArg nI (by omega)
  rw [h2, Int32.add_sub_cancel]
def simW (t wob : Nat) : Nat → Nat
  | 0 => 0
  | n + 1 => (simW t wob n + t + (if 0 < wob ∧ (n + 1) % (8 - wob) = 0 then 1 else 0)) % 22
def simH (t wob n j : Nat) : Nat := sumN (fun i => if plN (simW t wob i) = j then 1 else 0) n
theorem simW_lt (t wob n : Nat) : simW t wob n < 22 := by
  cases n with
  | zero => show 0 < 22; omega
  | succ n => exact Nat.mod_lt _ (by omega)
theorem simH_le (t wob n j : Nat) : simH t wob n j ≤ n := by
  have h := sumN_le (h := fun i => if plN (simW t wob i) = j then 1 else 0) (m := 1) (n := n) (fun i _ => by split <;> omega)
  unfold simH
  omega
theorem simH_s (t wob n : Nat) : updN (simH t wob n) (plN (simW t wob n)) (simH t wob n (plN (simW t wob n)) + 1) = simH t wob (n + 1) := by
  funext j
  unfold updN
  show _ = simH t wob n j + (if plN (simW t wob n) = j then 1 else 0)
  by_cases q : j = plN (simW t wob n)
  · rw [if_pos q, if_pos q.symm, q]
  · rw [if_neg q, if_neg (fun z => q z.symm)]
    rfl
theorem simH_max (t wob n : Nat) : maxN (simH t wob n) 12 ≤ n := maxN_le (fun j _ => simH_le t wob n j)
theorem guide_e {v : WV} {h : Nat → Nat} {w : Nat} (H : WW v h w) {t wob turn : Nat} (ht : t ≤ 11) (hw : wob ≤ 5) (hn : turn < 2 ^ 31) : F_X3_moveGuide v (nI t) (nI wob) (nI turn) = (upd v.1 2 (nI ((w + t + (if 0 < wob ∧ turn % (8 - wob) = 0 then 1 else 0)) % 22)), v.2) := by
  have e0 : F_X4_oneIf 0 = nI 0 := by decide +kernel
  have e1 : F_X4_oneIf 1 = nI 1 := by decide +kernel
  have key : ∀ e : Nat, e < 2 → (upd v.1 2 (((v.1 2) + nI t + nI e) - ((v.1 2) + nI t + nI e) / 22 * 22), v.2) = (upd v.1 2 (nI ((w + t + e) % 22)), v.2) := fun e he => by
    rw [H.2.2.2.1, go_w ⟨w, H.2.2.2.2⟩ ⟨t, by omega⟩ ⟨e, he⟩]
  unfold F_X3_moveGuide
  rw [e0, e1]
  have c1 : (nI wob ≤ 0) ↔ wob ≤ 0 := nI_leI (b := 0) (by omega) (by omega)
  have e8 : (8 : Int32) - nI wob = nI (8 - wob) := nI_sub (a := 8) (by omega)
  have c2 : (nI (8 - wob) ≤ 0) ↔ 8 - wob ≤ 0 := nI_leI (b := 0) (by omega) (by omega)
  have c3 : (nI (turn % (8 - wob)) = 0) ↔ turn % (8 - wob) = 0 := nI_eq (b := 0) (by have := Nat.mod_le turn (8 - wob); omega) (by omega)
  by_cases q1 : wob = 0
  · rw [if_pos (c1.mpr (by omega)), if_neg (show ¬ (0 < wob ∧ turn % (8 - wob) = 0) from fun z => by omega)]
    exact key 0 (by omega)
  · rw [if_neg (fun z => q1 (by have := c1.mp z; omega)), e8, if_neg (fun z => by have := c2.mp z; omega), nI_mod hn (by omega)]
    by_cases q2 : turn % (8 - wob) = 0
    · rw [if_pos (c3.mpr q2), if_pos ⟨by omega, q2⟩]
      exact key 1 (by omega)
    · rw [if_neg (fun z => q2 (c3.mp z)), if_neg (fun z => q2 z.2)]
      exact key 0 (by omega)
/-- the imagined package after n turns -/
def SR (t wob n : Nat) (v : WV) : Prop := WW v (simH t wob n) (simW t wob n)
theorem SR_step {t wob n : Nat} {v : WV} (H : SR t wob n v) (ht : t ≤ 11) (hw : wob ≤ 5) (hn : n < 150) : SR t wob (n + 1) (F_X3_moveGuide (F_X3_layWrap v) (nI t) (nI wob) (nI (n + 1))) := by
  have hm := simH_max t wob n
  obtain ⟨h1, -, -⟩ := lay_w H (by omega)
  rw [simH_s] at h1
  rw [guide_e h1 ht hw (by omega)]
  obtain ⟨a1, a2, a3, a4, a5⟩ := h1
  refine ⟨a1, ?_, ?_, ?_, simW_lt t wob (n + 1)⟩
  · dsimp only
    rw [upd_ne (by omega)]
    exact a2
  · dsimp only
    rw [upd_ne (by omega)]
    exact a3
  · dsimp only
    rw [upd_eq]
    rfl
/-- with another imagined package -/
def wIm (xv : XV) (v : WV) : XV := (xv.1, xv.2.1, xv.2.2.1, xv.2.2.2.1, v, xv.2.2.2.2.2.1, xv.2.2.2.2.2.2)
theorem imag_K {t wob N : Nat} (ht : t ≤ 11) (hw : wob ≤ 5) (hN : N ≤ 150) : ∀ (n j : Nat) (xv : XV), j + n = 502 → 1 ≤ j → j ≤ N + 1 → F_X2_number xv.2.1 2 = nI wob → SR t wob (j - 1) xv.2.2.2.2.1 → ∃ v : WV, K_X4_imagine_9 n xv (nI t) (nI N) j = wIm xv v ∧ SR t wob N v := by
  intro n
  induction n with
  | zero => intro j xv h1 h2 h3; omega
  | succ n ih =>
    intro j xv h1 h2 h3 hb hs
    unfold K_X4_imagine_9
    dsimp only
    have c9 : (nI N < nI j) ↔ N < j := nI_ltI (by omega) (by omega)
    by_cases c : N < j
    · rw [if_pos (c9.mpr c)]
      have : j - 1 = N := by omega
      rw [this] at hs
      exact ⟨xv.2.2.2.2.1, rfl, hs⟩
    · rw [if_neg (fun z => c (c9.mp z))]
      have hf := full_w hs
      have hmx := simH_max t wob (j - 1)
      rw [if_pos (show maxN (simH t wob (j - 1)) 12 < 200 by omega)] at hf
      rw [if_pos hf, hb]
      have hs2 := SR_step hs ht hw (by omega)
      rw [show j - 1 + 1 = j by omega] at hs2
      obtain ⟨v, e, hv⟩ := ih (j + 1) (wIm xv (F_X3_moveGuide (F_X3_layWrap xv.2.2.2.2.1) (nI t) (nI wob) (nI j))) (by omega) (by omega) (by omega) hb (by rw [show j + 1 - 1 = j by omega]; exact hs2)
      exact ⟨v, e, hv⟩
theorem imag_w {t wob N : Nat} {xv : XV} (ht : t ≤ 11) (hw : wob ≤ 5) (hN : N ≤ 150) (hb : F_X2_number xv.2.1 2 = nI wob) : ∃ v : WV, F_X4_imagine xv (nI t) (nI N) = wIm xv v ∧ SR t wob N v := by
  unfold F_X4_imagine
  dsimp only
  obtain ⟨v, e, hv⟩ := imag_K (N := N) ht hw hN 501 1 (wIm xv (F_X3_clear xv.2.2.2.2.1)) (by omega) (by omega) (by omega) hb (clear_w _)
  exact ⟨v, e, hv⟩
def evS (h : Nat → Nat) : Nat := maxN h 12 - minN (maxN h 12) h 12
theorem ev_w {v : WV} {h : Nat → Nat} {w : Nat} (H : WW v h w) : F_X3_evenness v = nI (evS h) := by
  rw [even_w H, nI_sub (minN_le 12)]
  rfl
def bareS (h : Nat → Nat) : Nat := sumN (fun j => if h j = 0 then 1 else 0) 12
theorem bare_K {v : WV} {h : Nat → Nat} (H : HR h v.2) : ∀ n j : Nat, j + n = 13 → j ≤ 12 → K_X3_barePlaces_13 n v j (nI (sumN (fun j => if h j = 0 then 1 else 0) j)) = nI (bareS h) := by
  intro n
  induction n with
  | zero => intro j h1 h2; omega
  | succ n ih =>
    intro j h1 h2
    unfold K_X3_barePlaces_13
    by_cases hj : 12 ≤ j
    · have : j = 12 := by omega
      subst this
      rw [if_pos ((c12 (by omega)).mpr (Nat.le_refl _))]
      rfl
    · have hl := H.lt (j := j) (by omega)
      have e0 : F_X4_oneIf 0 = nI 0 := by decide +kernel
      have e1 : F_X4_oneIf 1 = nI 1 := by decide +kernel
      have c9 : (nI (h j) = 0) ↔ h j = 0 := nI_eq (b := 0) hl (by omega)
      rw [if_neg (fun z => hj ((c12 (by omega)).mp z)), (H j (by omega)).2, e0, e1, nI_add, nI_add]
      have hs : sumN (fun j => if h j = 0 then 1 else 0) (j + 1) = sumN (fun j => if h j = 0 then 1 else 0) j + (if h j = 0 then 1 else 0) := rfl
      have := ih (j + 1) (by omega) (by omega)
      rw [hs] at this
      by_cases q : h j = 0
      · rw [if_pos (c9.mpr q)]
        rw [if_pos q] at this
        exact this
      · rw [if_neg (fun z => q (c9.mp z))]
        rw [if_neg q] at this
        exact this
theorem bare_w {v : WV} {h : Nat → Nat} {w : Nat} (H : WW v h w) : F_X3_barePlaces v = nI (bareS h) := bare_K H.1 13 0 (by omega) (by omega)
theorem if_0 {t wob N : Nat} {xv : XV} (h1 : 1 ≤ t) (ht : t ≤ 11) (hw : wob ≤ 5) (h2 : 1 ≤ N) (hN : N ≤ 150) (hb : F_X2_number xv.2.1 2 = nI wob) : ∃ v : WV, F_X4_ifTraverse xv (nI t) (nI N) 0 = (nI (evS (simH t wob N)), wIm xv v) := by
  obtain ⟨v, e, hv⟩ := imag_w (xv := xv) ht hw hN hb
  unfold F_X4_ifTraverse
  rw [rng0 h1 ht, rng5 h2 (by omega), if_neg (show ¬ (1 : Int32) = 0 from by decide), if_neg (show ¬ (1 : Int32) = 0 from by decide)]
  dsimp only
  rw [e, if_pos rfl]
  exact ⟨v, by rw [show (wIm xv v).2.2.2.2.1 = v from rfl, ev_w hv]⟩
theorem if_2 {t wob N : Nat} {xv : XV} (h1 : 1 ≤ t) (ht : t ≤ 11) (hw : wob ≤ 5) (h2 : 1 ≤ N) (hN : N ≤ 150) (hb : F_X2_number xv.2.1 2 = nI wob) : ∃ v : WV, F_X4_ifTraverse xv (nI t) (nI N) 2 = (nI (bareS (simH t wob N)), wIm xv v) := by
  obtain ⟨v, e, hv⟩ := imag_w (xv := xv) ht hw hN hb
  unfold F_X4_ifTraverse
  rw [rng0 h1 ht, rng5 h2 (by omega), if_neg (show ¬ (1 : Int32) = 0 from by decide), if_neg (show ¬ (1 : Int32) = 0 from by decide)]
  dsimp only
  rw [e, if_neg (show ¬ (2 : Int32) = 0 from by decide), if_neg (show ¬ (2 : Int32) = 1 from by decide), if_pos rfl]
  exact ⟨v, by rw [show (wIm xv v).2.2.2.2.1 = v from rfl, bare_w hv]⟩
theorem bareS_le (h : Nat → Nat) : bareS h ≤ 12 := by
  have := sumN_le (h := fun j => if h j = 0 then 1 else 0) (m := 1) (n := 12) (fun i _ => by split <;> omega)
  unfold bareS
  omega
theorem evS_le (t wob n : Nat) : evS (simH t wob n) ≤ n := by
  have := simH_max t wob n
  unfold evS
  omega
theorem best_K {wob : Nat} (hw : wob ≤ 5) : ∀ (n j : Nat) (xv : XV) (e f : Int32), j + n = 13 → 1 ≤ j → j ≤ 12 → F_X2_number xv.2.1 2 = nI wob → (e = 0 ∧ j = 1 ∨ ∃ b : Nat, 1 ≤ b ∧ b < j ∧ e = nI b ∧ f = nI (evS (simH b wob 22)) ∧ ∀ i, 1 ≤ i → i < j → evS (simH b wob 22) ≤ evS (simH i wob 22)) → ∃ (b : Nat) (v : WV), 1 ≤ b ∧ b ≤ 11 ∧ K_X4_bestTraverse_21 n xv 22 j e f = (nI b, wIm xv v) ∧ ∀ i, 1 ≤ i → i ≤ 11 → evS (simH b wob 22) ≤ evS (simH i wob 22) := by
  intro n
  induction n with
  | zero => intro j xv e f h1 h2 h3; omega
  | succ n ih =>
    intro j xv e f h1 h2 h3 hb hs
    unfold K_X4_bestTraverse_21
    dsimp only
    have c9 : ((11 : Int32) < nI j) ↔ 11 < j := nI_ltI (a := 11) (by omega) (by omega)
    by_cases c : 11 < j
    · rw [if_pos (c9.mpr c)]
      rcases hs with ⟨-, z⟩ | ⟨b, b1, b2, b3, b4, b5⟩
      · omega
      · exact ⟨b, xv.2.2.2.2.1, b1, by omega, by rw [b3]; rfl, fun i i1 i2 => b5 i i1 (by omega)⟩
    · rw [if_neg (fun z => c (c9.mp z))]
      obtain ⟨v, ev, hv⟩ := imag_w (t := j) (N := 22) (xv := xv) (by omega) hw (by omega) hb
      have ev : F_X4_imagine xv (nI j) 22 = wIm xv v := ev
      have ee : F_X3_evenness v = nI (evS (simH j wob 22)) := ev_w hv
      rw [ev, show (wIm xv v).2.2.2.2.1 = v from rfl, ee]
      have l1 := evS_le j wob 22
      rcases hs with ⟨z1, z2⟩ | ⟨b, b1, b2, b3, b4, b5⟩
      · rw [if_pos z1]
        obtain ⟨b, v2, r1, r2, r3, r4⟩ := ih (j + 1) (wIm xv v) (nI j) (nI (evS (simH j wob 22))) (by omega) (by omega) (by omega) hb (Or.inr ⟨j, h2, by omega, rfl, rfl, fun i i1 i2 => by rw [show i = j by omega]; exact Nat.le_refl _⟩)
        exact ⟨b, v2, r1, r2, r3, r4⟩
      · have l2 := evS_le b wob 22
        rw [b3, if_neg (nI_ne0 (by omega) (by omega)), b4]
        have c8 : (nI (evS (simH b wob 22)) ≤ nI (evS (simH j wob 22))) ↔ evS (simH b wob 22) ≤ evS (simH j wob 22) := nI_leI (by omega) (by omega)
        by_cases q : evS (simH b wob 22) ≤ evS (simH j wob 22)
        · rw [if_pos (c8.mpr q)]
          obtain ⟨b', v2, r1, r2, r3, r4⟩ := ih (j + 1) (wIm xv v) (nI b) (nI (evS (simH b wob 22))) (by omega) (by omega) (by omega) hb (Or.inr ⟨b, b1, by omega, rfl, rfl, fun i i1 i2 => by
            rcases Nat.lt_or_ge i j with y | y
            · exact b5 i i1 y
            · rw [show i = j by omega]
              exact q⟩)
          exact ⟨b', v2, r1, r2, r3, r4⟩
        · rw [if_neg (fun z => q (c8.mp z))]
          obtain ⟨b', v2, r1, r2, r3, r4⟩ := ih (j + 1) (wIm xv v) (nI j) (nI (evS (simH j wob 22))) (by omega) (by omega) (by omega) hb (Or.inr ⟨j, h2, by omega, rfl, rfl, fun i i1 i2 => by
            rcases Nat.lt_or_ge i j with y | y
            · have := b5 i i1 y
              omega
            · rw [show i = j by omega]
              exact Nat.le_refl _⟩)
          exact ⟨b', v2, r1, r2, r3, r4⟩
theorem best_w {wob : Nat} {xv : XV} (hw : wob ≤ 5) (hb : F_X2_number xv.2.1 2 = nI wob) : ∃ (b : Nat) (v : WV), 1 ≤ b ∧ b ≤ 11 ∧ F_X4_bestTraverse xv 22 = (nI b, wIm xv v) ∧ ∀ i, 1 ≤ i → i ≤ 11 → evS (simH b wob 22) ≤ evS (simH i wob 22) := by
  unfold F_X4_bestTraverse
  rw [show F_X4_inRange 5 22 = 1 from rng5 (x := 22) (by omega) (by omega), if_neg (show ¬ (1 : Int32) = 0 from by decide)]
  exact best_K hw 12 1 xv 0 0 (by omega) (by omega) (by omega) hb (Or.inl ⟨rfl, rfl⟩)
