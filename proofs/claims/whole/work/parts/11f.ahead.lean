/-! Looking ahead, side by side -/
theorem RX_any {xv : XV} {mv : MV} {B O : Nat} (H : RX xv mv B O) {t : SV} (ht : sB t) (v : WV) (ke tr : Nat → Int32) : RX (xv.1, xv.2.1, t, xv.2.2.2.1, v, xv.2.2.2.2.2.1, xv.2.2.2.2.2.2) (mv.1, mv.2.1, ke, tr, mv.2.2.2.2.1, mv.2.2.2.2.2.1, mv.2.2.2.2.2.2) B O := by
  obtain ⟨⟨w1, w2, w3, w4, w5⟩, h2, h3, h4, h5, h6⟩ := H
  exact ⟨⟨w1, ht, w3, w4, w5⟩, h2, h3, h4, h5, h6⟩
theorem brk62 (u : MV) (j : Nat) : K_X5_breaksIn_62 u j = ((if u.2.1 33 = 1 then nI j else -5), (u.1, u.2.2.2.1, u.2.2.1, u.2.2.2.1, u.2.2.2.2.1, u.2.2.2.2.2.1, u.2.2.2.2.2.2)) := by
  unfold K_X5_breaksIn_62
  by_cases c : u.2.1 33 = 1
  · rw [if_pos c, if_pos c]
  · rw [if_neg c, if_neg c]
theorem brkK {O : Nat} : ∀ (n : Nat) (xv : XV) (u : MV) (j B : Nat), j + n = 1001 → j ≤ 1000 → RS xv.2.2.1 u.2.1 B O → u.2.1 33 = 0 → ∃ t : SV, sB t ∧ (K_X4_breaksIn_36 n xv (j + 1)).1 = (K_X5_breaksIn_37 n u j).1 ∧ (K_X4_breaksIn_36 n xv (j + 1)).2 = (xv.1, xv.2.1, t, xv.2.2.2.1, xv.2.2.2.2.1, xv.2.2.2.2.2.1, xv.2.2.2.2.2.2) ∧ (K_X5_breaksIn_37 n u j).2 = (u.1, u.2.2.2.1, u.2.2.1, u.2.2.2.1, u.2.2.2.2.1, u.2.2.2.2.2.1, u.2.2.2.2.2.2) := by
  intro n
  induction n with
  | zero => intro xv u j B h1 h2; omega
  | succ n ih =>
    intro xv u j B h1 h2 hS h0
    have n10 : ¬ (0 : Int32) = 1 := by decide
    have c1 : ((1000 : Int32) < nI (j + 1)) ↔ 1000 < j + 1 := nI_ltI (a := 1000) (by omega) (by omega)
    have c2 : ((1000 : Int32) ≤ nI j) ↔ 1000 ≤ j := nI_leI (a := 1000) (by omega) (by omega)
    unfold K_X4_breaksIn_36 K_X5_breaksIn_37
    dsimp only
    by_cases c : 1000 ≤ j
    · rw [if_pos (c1.mpr (by omega)), if_pos (c2.mpr c), brk62, h0, if_neg n10]
      exact ⟨xv.2.2.1, sB_of hS, rfl, rfl, rfl⟩
    · rw [if_neg (fun z => by have := c1.mp z; omega), if_neg (fun z => c (c2.mp z)), idle_eq hS]
      by_cases ci : F_X5_isIdle u.2.1 = 0
      · rw [if_pos ci, if_pos ci]
        obtain ⟨r, hr, e1, e2, B', hB', hS2⟩ := turn_sim hS ci
        have q4 := hS2.2.2.2.2.2.2.2.2.1
        by_cases cb : (F_X2_turnOnce xv.2.2.1).1 2 = 0
        · rw [if_pos cb]
          obtain ⟨t, i1, i2, i3, i4⟩ := ih (xv.1, xv.2.1, F_X2_turnOnce xv.2.2.1, xv.2.2.2.1, xv.2.2.2.2.1, xv.2.2.2.2.2.1, xv.2.2.2.2.2.2) (u.1, (F_X5_turns u.2.1).2, u.2.2.1, u.2.2.2.1, u.2.2.2.2.1, u.2.2.2.2.2.1, u.2.2.2.2.2.2) (j + 1) B' (by omega) (by omega) hS2 (q4.symm.trans cb)
          exact ⟨t, i1, i2, i3, i4⟩
        · rw [if_neg cb]
          have b1 : (F_X5_turns u.2.1).2 33 = 1 := hS2.2.2.2.2.2.2.2.2.2.1.resolve_left (fun z => cb (q4.trans z))
          have id1 : ¬ F_X5_isIdle (F_X5_turns u.2.1).2 = 0 := by
            unfold F_X5_isIdle
            rw [if_pos b1]
            decide
          obtain ⟨n', rfl⟩ : ∃ k, n = k + 1 := ⟨n - 1, by omega⟩
          have e3 : K_X5_breaksIn_37 (n' + 1) (u.1, (F_X5_turns u.2.1).2, u.2.2.1, u.2.2.2.1, u.2.2.2.2.1, u.2.2.2.2.2.1, u.2.2.2.2.2.2) (j + 1) = K_X5_breaksIn_62 (u.1, (F_X5_turns u.2.1).2, u.2.2.1, u.2.2.2.1, u.2.2.2.2.1, u.2.2.2.2.2.1, u.2.2.2.2.2.2) (j + 1) := by
            unfold K_X5_breaksIn_37
            by_cases d : (1000 : Int32) ≤ nI (j + 1)
            · rw [if_pos d]
            · rw [if_neg d, if_neg id1]
          rw [e3, brk62]
          dsimp only
          rw [if_pos b1]
          exact ⟨F_X2_turnOnce xv.2.2.1, sB_of hS2, rfl, rfl, rfl⟩
      · rw [if_neg ci, if_neg ci, brk62, h0, if_neg n10]
        exact ⟨xv.2.2.1, sB_of hS, rfl, rfl, rfl⟩
theorem s_breaksIn {xv : XV} {mv : MV} {B O : Nat} (H : RX xv mv B O) : (F_X4_breaksIn xv).1 = (F_X5_breaksIn mv).1 ∧ RX (F_X4_breaksIn xv).2 (F_X5_breaksIn mv).2 B O := by
  have hS := RX_S H
  have q1 := hS.2.2.2.2.2.1
  have q4 := hS.2.2.2.2.2.2.2.2.1
  have q5 := hS.2.2.2.2.2.2.2.2.2.1
  unfold F_X4_breaksIn F_X5_breaksIn
  rw [empty_eq, q1, q4]
  rcases q5 with e | e
  · rw [if_neg (show ¬ mv.2.1 33 = 1 from by rw [e]; decide), if_pos e]
    by_cases c : mv.2.1 30 = 0
    · rw [if_pos c, if_pos c, if_neg (show ¬ (1 : Int32) = 0 from by decide)]
      exact ⟨rfl, H⟩
    · rw [if_neg c, if_neg c, if_pos rfl]
      obtain ⟨t, i1, i2, i3, i4⟩ := brkK 1001 (xv.1, xv.2.1, xv.2.1, xv.2.2.2.1, xv.2.2.2.2.1, xv.2.2.2.2.2.1, xv.2.2.2.2.2.2) (mv.1, mv.2.1, mv.2.2.1, mv.2.1, mv.2.2.2.2.1, mv.2.2.2.2.2.1, mv.2.2.2.2.2.2) 0 B (by omega) (by omega) hS e
      rw [i3, i4]
      exact ⟨i2, RX_any H i1 _ _ _⟩
  · rw [if_pos e, if_neg (show ¬ mv.2.1 33 = 0 from by rw [e]; decide)]
    exact ⟨rfl, H⟩
theorem le_suc {p : Int32} {j : Nat} (hj : j < 1000) : (p < nI (j + 1)) ↔ p ≤ nI j := by
  rw [Int32.lt_iff_toInt_lt, Int32.le_iff_toInt_le, nI_toInt (by omega), nI_toInt (by omega)]
  omega
theorem imK {p1 p2 p3 : Int32} (hp : p2.toInt ≤ 500) : ∀ (n : Nat) (xv : XV) (u : MV) (j : Nat), j + n = 501 → j ≤ 500 → RG xv.2.2.2.2.1 u.2.1 → mWF u.2.1 → u.2.1 24 = p1 → F_X2_number xv.2.1 2 = u.2.1 26 → u.2.1 35 = nI j → ∃ (v : WV) (a2 : Nat → Int32), K_X4_imagine_9 n xv p1 p2 (j + 1) = (xv.1, xv.2.1, xv.2.2.1, xv.2.2.2.1, v, xv.2.2.2.2.2.1, xv.2.2.2.2.2.2) ∧ K_X5_windsWith_64 n u p1 p2 p3 j = K_X5_windsWith_113 (u.1, a2, u.2.2.1, u.2.2.2.1, u.2.2.2.2.1, u.2.2.2.2.2.1, u.2.2.2.2.2.2) p1 p2 p3 ∧ RG v a2 := by
  intro n
  induction n with
  | zero => intro xv u j h1 h2; omega
  | succ n ih =>
    intro xv u j h1 h2 hg hw h24 h26 h35
    unfold K_X4_imagine_9 K_X5_windsWith_64
    dsimp only
    by_cases c : p2 ≤ nI j
    · rw [if_pos ((le_suc (by omega)).mpr c), if_pos c]
      exact ⟨xv.2.2.2.2.1, u.2.1, rfl, rfl, hg⟩
    · have hj : j < 500 := nlt_p (c := 500) c hp (by omega)
      rw [if_neg (fun z => c ((le_suc (by omega)).mp z)), if_neg c, full_eq hg]
      by_cases cf : F_X5_isFull u.2.1 = 0
      · rw [if_pos cf, if_pos cf]
        obtain ⟨q, hq, hpl⟩ := place_ex hw
        have hpX : F_X3_guidePlace xv.2.2.2.2.1 = nI q := (place_eq hg.2.1).trans hpl
        have hw2 := mWF_lay2 hw ((upd u.2.1 (Int32.toNatClampNeg (0 + (F_X5_place u.2.1))) ((u.2.1 (Int32.toNatClampNeg (0 + (F_X5_place u.2.1)))) + 1)) 35 + 1) ((u.2.1 (Int32.toNatClampNeg (0 + (F_X5_place u.2.1)))) + 1)
        rw [hpl, ix0 q (by omega)] at hw2
        rw [hpl, ix0 q (by omega)]
        have e35 : upd u.2.1 q (u.2.1 q + 1) 35 = nI j := by rw [upd_ne (by omega), h35]
        rw [e35, nI_1] at hw2
        rw [e35, nI_1]
        have ii : ∀ k, k ≠ q → k ≠ 35 → upd (upd u.2.1 q (u.2.1 q + 1)) 35 (nI (j + 1)) k = u.2.1 k := fun k g1 g2 => by rw [upd_ne g2, upd_ne g1]
        obtain ⟨gA, vA⟩ := lay_sim (a' := upd (upd u.2.1 q (u.2.1 q + 1)) 35 (nI (j + 1))) hg cf hq hpX (by rw [upd_ne (by omega), upd_eq]) (fun k hk hne => ii k hne (by omega)) (ii 29 (by omega) (by omega))
        obtain ⟨x, g1, g2⟩ := go_val (p := F_X2_number xv.2.1 2) hw2 gA.2.1 (by rw [ii 26 (by omega) (by omega), h26])
        rw [ii 24 (by omega) (by omega), upd_eq, h24] at g1
        have hw3 := mWF_go hw2
        rw [g2] at hw3
        rw [g1, g2]
        obtain ⟨v, a2, i1, i2, i3⟩ := ih (xv.1, xv.2.1, xv.2.2.1, xv.2.2.2.1, (upd (F_X3_layWrap xv.2.2.2.2.1).1 2 x, (F_X3_layWrap xv.2.2.2.2.1).2), xv.2.2.2.2.2.1, xv.2.2.2.2.2.2) (u.1, upd (upd (upd u.2.1 q (u.2.1 q + 1)) 35 (nI (j + 1))) 29 x, u.2.2.1, u.2.2.2.1, u.2.2.2.2.1, u.2.2.2.2.2.1, u.2.2.2.2.2.2) (j + 1) (by omega) (by omega) (RG_go gA x) hw3 (by dsimp only; rw [upd_ne (by omega), ii 24 (by omega) (by omega), h24]) (by dsimp only; rw [upd_ne (by omega), ii 26 (by omega) (by omega), h26]) (by dsimp only; rw [upd_ne (by omega), upd_eq])
        exact ⟨v, a2, i1, i2, i3⟩
      · rw [if_neg cf, if_neg cf]
        exact ⟨xv.2.2.2.2.1, u.2.1, rfl, rfl, hg⟩
theorem wwZ (p1 p2 p3 : Int32) : ∀ (n : Nat) (u : MV) (j : Nat), j + n = 13 → j ≤ 12 → ∃ a2 : Nat → Int32, K_X5_windsWith_14 n u p1 p2 p3 j = K_X5_windsWith_64 501 (u.1, (upd (upd (upd a2 29 0) 35 0) 24 p1), u.2.2.1, u.2.2.2.1, u.2.2.2.2.1, u.2.2.2.2.2.1, u.2.2.2.2.2.2) p1 p2 p3 0 ∧ (∀ k, j ≤ k → k < 12 → a2 k = 0) ∧ (∀ k, k < j → a2 k = u.2.1 k) ∧ (∀ k, 12 ≤ k → a2 k = u.2.1 k) := by
  intro n
  induction n with
  | zero => intro u j h1 h2; omega
  | succ n ih =>
    intro u j h1 h2
    unfold K_X5_windsWith_14
    by_cases c : 12 ≤ j
    · rw [if_pos ((c12 (by omega)).mpr c)]
      exact ⟨u.2.1, rfl, fun k hk1 hk2 => by omega, fun k hk => rfl, fun k hk => rfl⟩
    · rw [if_neg (fun z => c ((c12 (by omega)).mp z))]
      obtain ⟨a2, e2, f1, f2, f3⟩ := ih (u.1, (upd u.2.1 j 0), u.2.2.1, u.2.2.2.1, u.2.2.2.2.1, u.2.2.2.2.2.1, u.2.2.2.2.2.2) (j + 1) (by omega) (by omega)
      refine ⟨a2, e2, fun k hk1 hk2 => ?_, fun k hk => ?_, fun k hk => ?_⟩
      · by_cases ck : k = j
        · subst ck
          rw [f2 k (by omega)]
          exact upd_eq
        · exact f1 k (by omega) hk2
      · rw [f2 k (by omega)]
        exact upd_ne (by omega)
      · rw [f3 k hk]
        exact upd_ne (by omega)
def told (v : WV) (p3 : Int32) : Int32 := if p3 = 0 then F_X3_evenness v else if p3 = 1 then F_X3_ribbons v else F_X3_barePlaces v
theorem ww_sim {xv : XV} {mv : MV} {B O : Nat} {p1 p2 : Int32} (p3 : Int32) (hS : RS xv.2.1 mv.2.1 B O) (hq : ∃ t : Nat, 1 ≤ t ∧ t < 12 ∧ p1 = nI t) (hp : p2.toInt ≤ 500) : ∃ v : WV, F_X4_imagine xv p1 p2 = (xv.1, xv.2.1, xv.2.2.1, xv.2.2.2.1, v, xv.2.2.2.2.2.1, xv.2.2.2.2.2.2) ∧ F_X5_windsWith mv p1 p2 p3 = (told v p3, (mv.1, mv.2.1, mv.2.2.1, mv.2.1, mv.2.2.2.2.1, mv.2.2.2.2.2.1, mv.2.2.2.2.2.2)) := by
  unfold F_X4_imagine F_X5_windsWith
  dsimp only
  obtain ⟨a2, e2, f1, f2, f3⟩ := wwZ p1 p2 p3 13 (mv.1, mv.2.1, mv.2.2.1, mv.2.1, mv.2.2.2.2.1, mv.2.2.2.2.2.1, mv.2.2.2.2.2.2) 0 (by omega) (by omega)
  rw [e2]
  have ii : ∀ k, k ≠ 29 → k ≠ 35 → k ≠ 24 → upd (upd (upd a2 29 0) 35 0) 24 p1 k = a2 k := fun k g1 g2 g3 => by rw [upd_ne g3, upd_ne g2, upd_ne g1]
  have i29 : upd (upd (upd a2 29 0) 35 0) 24 p1 29 = 0 := by rw [upd_ne (by omega), upd_ne (by omega), upd_eq]
  have i35 : upd (upd (upd a2 29 0) 35 0) 24 p1 35 = 0 := by rw [upd_ne (by omega), upd_eq]
  have hwA : mWF a2 := mWF_congr (f3 24 (by omega)) (f3 26 (by omega)) (f3 29 (by omega)) (f3 33 (by omega)) (f3 34 (by omega)) hS.1
  have hw0 := mWF_set hwA hq
  have hg0 : RG (F_X3_clear xv.2.2.2.2.1) (upd (upd (upd a2 29 0) 35 0) 24 p1) := by
    have ec : F_X3_clear xv.2.2.2.2.1 = (upd (upd (upd xv.2.2.2.2.1.1 0 0) 1 0) 2 0, fun _ => 0) := rfl
    rw [ec]
    refine ⟨fun j hj => ?_, ?_, fun _ => 0, fun j hj => ⟨Nat.zero_le _, ?_⟩, ?_, ?_⟩
    · rw [ii j (by omega) (by omega) (by omega), f1 j (by omega) hj]
    · rw [i29]
      dsimp only
      rw [upd_eq]
    · rw [ii j (by omega) (by omega) (by omega), f1 j (by omega) hj, nI_0]
    · dsimp only
      rw [upd_ne (by omega), upd_ne (by omega), upd_eq]
      decide
    · dsimp only
      rw [upd_ne (by omega), upd_eq]
      decide
  obtain ⟨v, a3, i1, i2, i3⟩ := imK (p1 := p1) (p2 := p2) (p3 := p3) hp 501 (xv.1, xv.2.1, xv.2.2.1, xv.2.2.2.1, F_X3_clear xv.2.2.2.2.1, xv.2.2.2.2.2.1, xv.2.2.2.2.2.2) (mv.1, (upd (upd (upd a2 29 0) 35 0) 24 p1), mv.2.2.1, mv.2.1, mv.2.2.2.2.1, mv.2.2.2.2.2.1, mv.2.2.2.2.2.2) 0 (by omega) (by omega) hg0 hw0 (by dsimp only; rw [upd_eq]) (by
    dsimp only
    rw [ii 26 (by omega) (by omega) (by omega), f3 26 (by omega), num_2]
    exact (hS.2.2.2.2.1 2 (by omega)).1) (by dsimp only; rw [i35, nI_0])
  refine ⟨v, i1, ?_⟩
  rw [i2]
  obtain ⟨h1, h2, h, h3, h4, h5⟩ := i3
  unfold K_X5_windsWith_113 told
  dsimp only
  rw [← even_eq h3 h1 h5, ← ribbons_eq h1, ← bare_eq h1]
  by_cases c0 : p3 = 0
  · rw [if_pos c0, if_pos c0]
  · rw [if_neg c0, if_neg c0]
    by_cases c1 : p3 = 1
    · rw [if_pos c1, if_pos c1]
    · rw [if_neg c1, if_neg c1]
theorem s_if {xv : XV} {mv : MV} {B O : Nat} (p1 p2 p3 : Int32) (H : RX xv mv B O) : (F_X4_ifTraverse xv p1 p2 p3).1 = (F_X5_ifTraverse mv p1 p2 p3).1 ∧ RX (F_X4_ifTraverse xv p1 p2 p3).2 (F_X5_ifTraverse mv p1 p2 p3).2 B O := by
  unfold F_X4_ifTraverse F_X5_ifTraverse
  rw [rng0, rng5]
  by_cases c1 : F_X5_in (Int32.toInt64 p1) 1 11 = 0
  · rw [if_pos c1, if_pos c1]
    exact ⟨rfl, H⟩
  · rw [if_neg c1, if_neg c1]
    by_cases c2 : F_X5_in (Int32.toInt64 p2) 1 500 = 0
    · rw [if_pos c2, if_pos c2]
      exact ⟨rfl, H⟩
    · rw [if_neg c2, if_neg c2]
      obtain ⟨v, e1, e2⟩ := ww_sim p3 (RX_S H) (in11 c1) (in500 c2)
      rw [e1, e2]
      dsimp only
      have ht := H.1.2.1
      by_cases c3 : F_X5_in (Int32.toInt64 p3) 0 2 = 0
      · rw [if_pos c3]
        have hc : ¬ (0 ≤ p3.toInt ∧ p3.toInt ≤ 2) := fun z => by
          rw [in_val (a := 0) (b := 2) (by decide) (by decide), if_pos z] at c3
          exact absurd c3 (by decide)
        have n0 : ¬ p3 = 0 := fun z => hc (by rw [z]; decide)
        have n1 : ¬ p3 = 1 := fun z => hc (by rw [z]; decide)
        have n2 : ¬ p3 = 2 := fun z => hc (by rw [z]; decide)
        rw [if_neg n0, if_neg n1, if_neg n2]
        exact ⟨rfl, RX_any H ht _ _ _⟩
      · rw [if_neg c3]
        obtain ⟨k, hk1, hk2, ek⟩ := nat_of (a := 0) (b := 2) (in32 (a := 0) (b := 2) c3 (by decide) (by decide)) (by omega)
        unfold told
        by_cases n0 : p3 = 0
        · rw [if_pos n0, if_pos n0]
          exact ⟨rfl, RX_any H ht _ _ _⟩
        · rw [if_neg n0, if_neg n0]
          by_cases n1 : p3 = 1
          · rw [if_pos n1, if_pos n1]
            exact ⟨rfl, RX_any H ht _ _ _⟩
          · have n2 : p3 = 2 := by
              rcases (show k = 0 ∨ k = 1 ∨ k = 2 by omega) with rfl | rfl | rfl
              · exact absurd ek n0
              · exact absurd ek n1
              · exact ek
            rw [if_neg n1, if_neg n1, if_pos n2]
            exact ⟨rfl, RX_any H ht _ _ _⟩
theorem bestK {xv0 : XV} {mv0 : MV} {B O : Nat} {p : Int32} (hS : RS xv0.2.1 mv0.2.1 B O) (hp : p.toInt ≤ 500) : ∀ (n : Nat) (xv : XV) (mv : MV) (j t : Nat) (f : Int32), xv.2.1 = xv0.2.1 → mv.2.1 = mv0.2.1 → j + n = 13 → 2 ≤ j → j ≤ 12 → 1 ≤ t → t < 12 → f = (F_X5_windsWith mv0 (nI t) p 0).1 → ∃ (v : WV) (tr : Nat → Int32), (K_X4_bestTraverse_21 n xv p j (nI t) f).1 = (K_X5_bestTraverse_19 n mv p j (nI t)).1 ∧ (K_X4_bestTraverse_21 n xv p j (nI t) f).2 = (xv.1, xv.2.1, xv.2.2.1, xv.2.2.2.1, v, xv.2.2.2.2.2.1, xv.2.2.2.2.2.2) ∧ (K_X5_bestTraverse_19 n mv p j (nI t)).2 = (mv.1, mv.2.1, mv.2.2.1, tr, mv.2.2.2.2.1, mv.2.2.2.2.2.1, mv.2.2.2.2.2.2) := by
  intro n
  induction n with
  | zero => intro xv mv j t f h1 h2 h3 h4 h5; omega
  | succ n ih =>
    intro xv mv j t f h1 h2 h3 h4 h5 h6 h7 hf
    unfold K_X4_bestTraverse_21 K_X5_bestTraverse_19
    dsimp only
    have c11 : ((11 : Int32) < nI j) ↔ 11 < j := nI_ltI (a := 11) (by omega) (by omega)
    by_cases c : 12 ≤ j
    · rw [if_pos (c11.mpr (by omega)), if_pos ((c12 (by omega)).mpr c)]
      exact ⟨xv.2.2.2.2.1, mv.2.2.2.1, rfl, rfl, rfl⟩
    · rw [if_neg (fun z => by have := c11.mp z; omega), if_neg (fun z => c ((c12 (by omega)).mp z)), if_neg (nI_ne0 (by omega) (by omega))]
      have hSx : RS xv.2.1 mv0.2.1 B O := by rw [h1]; exact hS
      have hS1 : RS xv.2.1 mv.2.1 B O := by rw [h1, h2]; exact hS
      have qj : ∃ t : Nat, 1 ≤ t ∧ t < 12 ∧ nI j = nI t := ⟨j, by omega, by omega, rfl⟩
      have qt : ∃ k : Nat, 1 ≤ k ∧ k < 12 ∧ nI t = nI k := ⟨t, h6, h7, rfl⟩
      obtain ⟨v, e1, e2⟩ := ww_sim (p1 := nI j) (p2 := p) 0 hS1 qj hp
      obtain ⟨v', e1', e2'⟩ := ww_sim (mv := mv0) (p1 := nI j) (p2 := p) 0 hSx qj hp
      have hv : v' = v := by
        rw [e1] at e1'
        have := congrArg (fun z : XV => z.2.2.2.2.1) e1'
        exact this.symm
      rw [hv] at e2'
      obtain ⟨y, g1, g2⟩ := ww_sim (mv := mv0) (p1 := nI t) (p2 := p) 0 hSx qt hp
      obtain ⟨y', g1', g2'⟩ := ww_sim (mv := (mv.1, mv.2.1, mv.2.2.1, mv.2.1, mv.2.2.2.2.1, mv.2.2.2.2.2.1, mv.2.2.2.2.2.2)) (p1 := nI t) (p2 := p) 0 hS1 qt hp
      have hy : y' = y := by
        rw [g1] at g1'
        have := congrArg (fun z : XV => z.2.2.2.2.1) g1'
        exact this.symm
      rw [hy] at g2'
      have hf2 : f = told y 0 := by rw [hf, g2]
      rw [e1, e2]
      dsimp only
      rw [g2']
      dsimp only
      rw [hf2]
      have ev : F_X3_evenness v = told v 0 := by
        unfold told
        rw [if_pos rfl]
      rw [ev]
      by_cases cc : told y 0 ≤ told v 0
      · rw [if_pos cc, if_pos cc]
        obtain ⟨w, tr, i1, i2, i3⟩ := ih (xv.1, xv.2.1, xv.2.2.1, xv.2.2.2.1, v, xv.2.2.2.2.2.1, xv.2.2.2.2.2.2) (mv.1, mv.2.1, mv.2.2.1, mv.2.1, mv.2.2.2.2.1, mv.2.2.2.2.2.1, mv.2.2.2.2.2.2) (j + 1) t (told y 0) h1 h2 (by omega) (by omega) (by omega) h6 h7 (by rw [g2])
        exact ⟨w, tr, i1, i2, i3⟩
      · rw [if_neg cc, if_neg cc]
        obtain ⟨w, tr, i1, i2, i3⟩ := ih (xv.1, xv.2.1, xv.2.2.1, xv.2.2.2.1, v, xv.2.2.2.2.2.1, xv.2.2.2.2.2.2) (mv.1, mv.2.1, mv.2.2.1, mv.2.1, mv.2.2.2.2.1, mv.2.2.2.2.2.1, mv.2.2.2.2.2.2) (j + 1) j (told v 0) h1 h2 (by omega) (by omega) (by omega) (by omega) (by omega) (by rw [e2'])
        exact ⟨w, tr, i1, i2, i3⟩
theorem s_best {xv : XV} {mv : MV} {B O : Nat} (p : Int32) (H : RX xv mv B O) : (F_X4_bestTraverse xv p).1 = (F_X5_bestTraverse mv p).1 ∧ RX (F_X4_bestTraverse xv p).2 (F_X5_bestTraverse mv p).2 B O := by
  have hS := RX_S H
  unfold F_X4_bestTraverse F_X5_bestTraverse
  rw [rng5]
  by_cases c1 : F_X5_in (Int32.toInt64 p) 1 500 = 0
  · rw [if_pos c1, if_pos c1]
    exact ⟨rfl, H⟩
  · rw [if_neg c1, if_neg c1]
    have hp := in500 c1
    have q1 : ∃ t : Nat, 1 ≤ t ∧ t < 12 ∧ nI 1 = nI t := ⟨1, by omega, by omega, rfl⟩
    obtain ⟨v, e1, e2⟩ := ww_sim (p1 := nI 1) (p2 := p) 0 hS q1 hp
    unfold K_X4_bestTraverse_21
    dsimp only
    rw [if_neg (show ¬ (11 : Int32) < nI 1 from by decide), if_pos rfl, e1]
    dsimp only
    have ev : F_X3_evenness v = told v 0 := by
      unfold told
      rw [if_pos rfl]
    rw [ev]
    obtain ⟨w, tr, i1, i2, i3⟩ := bestK hS hp 11 (xv.1, xv.2.1, xv.2.2.1, xv.2.2.2.1, v, xv.2.2.2.2.2.1, xv.2.2.2.2.2.2) mv 2 1 (told v 0) rfl rfl (by omega) (by omega) (by omega) (by omega) (by omega) (by rw [e2])
    have e19 : K_X5_bestTraverse_19 11 mv p 2 1 = K_X5_bestTraverse_19 11 mv p 2 (nI 1) := rfl
    rw [e19, i2, i3]
    exact ⟨i1, RX_any H H.1.2.1 _ _ _⟩
theorem per22 : ∀ t : Fin 12, nI 22 * nI t.val - nI 22 * nI t.val / 22 * 22 = 0 := by decide +kernel
theorem perK (xv : XV) (mv : MV) {t : Nat} (ht : t < 12) : ∀ n j : Nat, j + n = 23 → j ≤ 22 → K_X4_period_13 n xv (nI t) j = K_X5_period_17 n mv (nI t) j := by
  intro n
  induction n with
  | zero => intro j h1 h2; omega
  | succ n ih =>
    intro j h1 h2
    unfold K_X4_period_13 K_X5_period_17
    have c22 : ((22 : Int32) ≤ nI j) ↔ 22 ≤ j := nI_leI (a := 22) (by omega) (by omega)
    by_cases c : 22 ≤ j
    · have : j = 22 := by omega
      subst this
      rw [if_pos (c22.mpr c), if_pos (per22 ⟨t, ht⟩)]
    · rw [if_neg (fun z => c (c22.mp z))]
      by_cases d : nI j * nI t - nI j * nI t / 22 * 22 = 0
      · rw [if_pos d, if_pos d]
      · rw [if_neg d, if_neg d]
        exact ih (j + 1) (by omega) (by omega)
theorem s_period {xv : XV} {mv : MV} (p : Int32) : F_X4_period xv p = F_X5_period mv p := by
  unfold F_X4_period F_X5_period
  rw [rng0]
  by_cases c1 : F_X5_in (Int32.toInt64 p) 1 11 = 0
  · rw [if_pos c1, if_pos c1]
  · rw [if_neg c1, if_neg c1]
    obtain ⟨t, h1, h2, e⟩ := in11 c1
    subst e
    exact perK xv mv h2 22 1 (by omega) (by omega)
