/-! Taking off, undo, keep, restore, and what is told -/
theorem laid_eq {u : SV} {a : Nat → Int32} {B O : Nat} (H : RS u a B O) : u.2.1.1 0 = F_X5_wraps a := by
  obtain ⟨_, ⟨_, _, h, h3, h4, _⟩, _⟩ := H
  rw [h4, wraps_eq h3]
theorem laid_nI {u : SV} {a : Nat → Int32} {B O : Nat} (H : RS u a B O) : ∃ m : Nat, m ≤ 2400 ∧ F_X5_wraps a = nI m := by
  obtain ⟨_, ⟨_, _, h, h3, h4, _⟩, _⟩ := H
  exact ⟨sumN h 12, h3.sum (by omega), wraps_eq h3⟩
theorem doffK (e : Int32) : ∀ (n : Nat) (u : MV) (j : Nat), j + n = 13 → j ≤ 12 → ∃ a2 : Nat → Int32, K_X5_doff_18 n u j e = (let z := F_X5_acted (u.1, (upd (upd (upd (upd (upd a2 29 0) 32 0) 33 0) 34 (-5)) 36 ((a2 36) + 1048576)), u.2.2.1, u.2.2.2.1, u.2.2.2.2.1, u.2.2.2.2.2.1, u.2.2.2.2.2.2) e
  (z.1, z.2)) ∧ (∀ k, k < j → a2 k = u.2.1 k ∧ a2 (12 + k) = u.2.1 (12 + k)) ∧ (∀ k, j ≤ k → k < 12 → a2 k = 0 ∧ a2 (12 + k) = 0) ∧ (∀ k, 24 ≤ k → a2 k = u.2.1 k) := by
  intro n
  induction n with
  | zero => intro u j h1 h2; omega
  | succ n ih =>
    intro u j h1 h2
    unfold K_X5_doff_18
    by_cases c : 12 ≤ j
    · rw [if_pos ((c12 (by omega)).mpr c)]
      exact ⟨u.2.1, rfl, fun k hk => ⟨rfl, rfl⟩, fun k hk1 hk2 => by omega, fun k hk => rfl⟩
    · rw [if_neg (fun z => c ((c12 (by omega)).mp z))]
      obtain ⟨a2, e2, f1, f2, f3⟩ := ih (u.1, (upd (upd u.2.1 j 0) (12 + j) 0), u.2.2.1, u.2.2.2.1, u.2.2.2.2.1, u.2.2.2.2.2.1, u.2.2.2.2.2.2) (j + 1) (by omega) (by omega)
      refine ⟨a2, e2, fun k hk => ?_, fun k hk1 hk2 => ?_, fun k hk => ?_⟩
      · obtain ⟨g1, g2⟩ := f1 k (by omega)
        rw [g1, g2]
        dsimp only
        rw [upd_ne (by omega), upd_ne (by omega), upd_ne (by omega), upd_ne (by omega)]
        exact ⟨rfl, rfl⟩
      · by_cases ck : k = j
        · subst ck
          obtain ⟨g1, g2⟩ := f1 k (by omega)
          rw [g1, g2]
          dsimp only
          rw [upd_ne (by omega), upd_eq, upd_eq]
          exact ⟨rfl, rfl⟩
        · exact f2 k (by omega) hk2
      · rw [f3 k hk]
        dsimp only
        rw [upd_ne (by omega), upd_ne (by omega)]
theorem off_X {u : SV} (h : ¬ u.2.1.1 0 = 0) : F_X2_takePackageOff u = (u.2.1.1 0, (upd (upd (upd (upd u.1 2 0) 3 (-1)) 4 0) 7 (u.1 7 + 1), (upd (upd (upd u.2.1.1 0 0) 1 0) 2 0, fun _ => 0), (fun _ => 0), u.2.2.2)) := by
  unfold F_X2_takePackageOff
  rw [if_neg h]
  rfl
theorem off_RS {u : SV} {a a2 : Nat → Int32} {B O : Nat} (H : RS u a B O) (f2 : ∀ k, k < 12 → a2 k = 0 ∧ a2 (12 + k) = 0) (f3 : ∀ k, 24 ≤ k → a2 k = a k) : RS (upd (upd (upd (upd u.1 2 0) 3 (-1)) 4 0) 7 (u.1 7 + 1), (upd (upd (upd u.2.1.1 0 0) 1 0) 2 0, fun _ => 0), (fun _ => 0), u.2.2.2) (upd (upd (upd (upd (upd a2 29 0) 32 0) 33 0) 34 (-5)) 36 ((a2 36) + 1048576)) B (O + 1) := by
  obtain ⟨h1, h2, h3, h4, h5, q1, q2, q3, q4, q5, q6, q7, b, o, hb, ho, q8, q9, q10⟩ := H
  have ii : ∀ k, k ≠ 29 → k ≠ 32 → k ≠ 33 → k ≠ 34 → k ≠ 36 → upd (upd (upd (upd (upd a2 29 0) 32 0) 33 0) 34 (-5)) 36 ((a2 36) + 1048576) k = a2 k := fun k g1 g2 g3 g4 g5 => by
    rw [upd_ne g5, upd_ne g4, upd_ne g3, upd_ne g2, upd_ne g1]
  have i29 : upd (upd (upd (upd (upd a2 29 0) 32 0) 33 0) 34 (-5)) 36 ((a2 36) + 1048576) 29 = 0 := by
    rw [upd_ne (by omega), upd_ne (by omega), upd_ne (by omega), upd_ne (by omega), upd_eq]
  have i32 : upd (upd (upd (upd (upd a2 29 0) 32 0) 33 0) 34 (-5)) 36 ((a2 36) + 1048576) 32 = 0 := by
    rw [upd_ne (by omega), upd_ne (by omega), upd_ne (by omega), upd_eq]
  have i33 : upd (upd (upd (upd (upd a2 29 0) 32 0) 33 0) 34 (-5)) 36 ((a2 36) + 1048576) 33 = 0 := by
    rw [upd_ne (by omega), upd_ne (by omega), upd_eq]
  have i34 : upd (upd (upd (upd (upd a2 29 0) 32 0) 33 0) 34 (-5)) 36 ((a2 36) + 1048576) 34 = -5 := by
    rw [upd_ne (by omega), upd_eq]
  have i36 : upd (upd (upd (upd (upd a2 29 0) 32 0) 33 0) 34 (-5)) 36 ((a2 36) + 1048576) 36 = a 36 + 1048576 := by
    rw [upd_eq, f3 36 (by omega)]
  refine ⟨⟨⟨0, by omega, ?_⟩, Or.inl i34, ?_, ?_, ?_⟩, ⟨fun j hj => ?_, ?_, fun _ => 0, fun j hj => ⟨Nat.zero_le _, ?_⟩, ?_, ?_⟩, ⟨fun _ => ⟨?_, ?_⟩, fun z => absurd i34 z⟩, fun j hj => ⟨?_, 0, by omega, ?_⟩, fun j hj => ?_, ?_⟩
  · rw [i29, nI_0]
  · rw [ii 26 (by omega) (by omega) (by omega) (by omega) (by omega), f3 26 (by omega)]
    exact h1.2.2.1
  · rw [ii 24 (by omega) (by omega) (by omega) (by omega) (by omega), f3 24 (by omega)]
    exact h1.2.2.2.1
  · rw [i33]
    exact fun z => absurd rfl z
  · rw [ii j (by omega) (by omega) (by omega) (by omega) (by omega), (f2 j hj).1]
  · rw [i29]
    dsimp only
    rw [upd_eq]
  · rw [ii j (by omega) (by omega) (by omega) (by omega) (by omega), (f2 j hj).1, nI_0]
  · dsimp only
    rw [upd_ne (by omega), upd_ne (by omega), upd_eq]
    decide
  · dsimp only
    rw [upd_ne (by omega), upd_eq]
    decide
  · dsimp only
    rw [upd_ne (by omega), upd_ne (by omega), upd_eq]
  · dsimp only
    rw [upd_ne (by omega), upd_ne (by omega), upd_eq]
  · rw [ii (12 + j) (by omega) (by omega) (by omega) (by omega) (by omega), (f2 j hj).2]
  · rw [ii (12 + j) (by omega) (by omega) (by omega) (by omega) (by omega), (f2 j hj).2, nI_0]
  · rw [ii (24 + j) (by omega) (by omega) (by omega) (by omega) (by omega), f3 (24 + j) (by omega)]
    exact h5 j hj
  · unfold RQ
    dsimp only
    rw [i32, i33, i36, ii 30 (by omega) (by omega) (by omega) (by omega) (by omega), ii 31 (by omega) (by omega) (by omega) (by omega) (by omega), ii 35 (by omega) (by omega) (by omega) (by omega) (by omega), f3 30 (by omega), f3 31 (by omega), f3 35 (by omega)]
    refine ⟨?_, q2, ?_, ?_, Or.inl rfl, ?_, ?_, b, o + 1, hb, by omega, ?_, ?_, ?_⟩
    · rw [upd_ne (by omega), upd_ne (by omega), upd_ne (by omega), upd_ne (by omega), q1]
    · rw [upd_ne (by omega), upd_ne (by omega), upd_ne (by omega), upd_ne (by omega), q3]
    · rw [upd_ne (by omega), upd_ne (by omega), upd_ne (by omega), upd_eq]
    · rw [upd_ne (by omega), upd_eq]
    · rw [upd_ne (by omega), upd_ne (by omega), upd_ne (by omega), upd_ne (by omega), q7]
    · rw [upd_ne (by omega), upd_ne (by omega), upd_ne (by omega), upd_ne (by omega), q8]
    · rw [upd_eq, q9, nI_1]
    · rw [q10, show (1048576 : Int32) = nI 1048576 from rfl, nI_add]
      exact congrArg nI (by omega)
theorem s_doff {xv : XV} {mv : MV} {B O : Nat} (H : RX xv mv B O) : (F_X4_doff xv).1 = (F_X5_doff mv).1 ∧ RX (F_X4_doff xv).2 (F_X5_doff mv).2 B (O + 1) := by
  have hl := laid_eq (RX_S H)
  obtain ⟨m, hm, em⟩ := laid_nI (RX_S H)
  unfold F_X4_doff F_X5_doff
  dsimp only
  by_cases c : F_X5_wraps mv.2.1 = 0
  · have hn : F_X2_takePackageOff xv.2.1 = (-5, xv.2.1) := by
      unfold F_X2_takePackageOff
      rw [hl, if_pos c]
    rw [if_pos c, hn, fin_neg neg_5]
    exact ⟨rfl, X_tr (RX_mono (Nat.le_refl _) (by omega) H) (sB_of (RX_S H))⟩
  · rw [if_neg c, off_X (by rw [hl]; exact c)]
    obtain ⟨a2, e2, f1, f2, f3⟩ := doffK (F_X5_wraps mv.2.1) 13 (mv.1, mv.2.1, mv.2.1, mv.2.2.2.1, mv.2.2.2.2.1, mv.2.2.2.2.2.1, mv.2.2.2.2.2.2) 0 (by omega) (by omega)
    rw [e2]
    have hS := off_RS (RX_S H) (fun k hk => f2 k (by omega) hk) f3
    obtain ⟨g1, g2, g3⟩ := fin_sim H (Nat.le_refl B) (Nat.le_succ O) hS (r := F_X5_wraps mv.2.1) (by rw [em]; exact nI_pos (by omega))
    rw [hl]
    exact ⟨g1.trans g2.symm, g3⟩
theorem undoK {m : Nat} (hm : m ≤ 3) : ∀ (n : Nat) (u : MV) (j : Nat), j + n = 38 → j ≤ 37 → u.1 0 = nI m → ∃ a2 : Nat → Int32, K_X5_undo_22 n u j = (u.1 0, (u.1, a2, u.2.2.1, u.2.2.2.1, u.2.2.2.2.1, u.2.2.2.2.2.1, u.2.2.2.2.2.2)) ∧ (∀ k, k < j → a2 k = u.2.1 k) ∧ (∀ k, j ≤ k → k < 37 → a2 k = u.2.2.2.2.1 (37 * m + k)) := by
  intro n
  induction n with
  | zero => intro u j h1 h2; omega
  | succ n ih =>
    intro u j h1 h2 hu
    unfold K_X5_undo_22
    have c37 : ((37 : Int32) ≤ nI j) ↔ 37 ≤ j := nI_leI (a := 37) (by omega) (by omega)
    by_cases c : 37 ≤ j
    · rw [if_pos (c37.mpr c)]
      exact ⟨u.2.1, rfl, fun k hk => rfl, fun i hi1 hi2 => by omega⟩
    · rw [if_neg (fun z => c (c37.mp z))]
      have ei : Int32.toNatClampNeg (37 * u.1 0 + nI j) = 37 * m + j := by
        rw [hu, show (37 : Int32) * nI m = nI (37 * m) from nI_mul 37 m]
        exact ixr (37 * m) j (by omega)
      rw [ei]
      obtain ⟨a2, e, f1, f2⟩ := ih (u.1, upd u.2.1 j (u.2.2.2.2.1 (37 * m + j)), u.2.2.1, u.2.2.2.1, u.2.2.2.2.1, u.2.2.2.2.2.1, u.2.2.2.2.2.2) (j + 1) (by omega) (by omega) hu
      refine ⟨a2, e, fun k hk => ?_, fun k hk1 hk2 => ?_⟩
      · rw [f1 k (by omega)]
        exact upd_ne (by omega)
      · by_cases ck : k = j
        · subst ck
          rw [f1 _ (by omega)]
          exact upd_eq
        · exact f2 k (by omega) hk2
theorem s_undo {xv : XV} {mv : MV} {B O : Nat} (H : RX xv mv B O) : (F_X4_undo xv).1 = (F_X5_undo mv).1 ∧ RX (F_X4_undo xv).2 (F_X5_undo mv).2 B O := by
  obtain ⟨⟨w1, w2, w3, w4, w5⟩, h2, ⟨h3, h4⟩, h5, ⟨m, h6, nx, g1, g2, g3, g4, g5⟩, h8⟩ := H
  unfold F_X4_undo F_X5_undo F_X1_takeLatest
  dsimp only
  have c0 : (nI m = 0) ↔ m = 0 := nI_eq (b := 0) (by omega) (by omega)
  rw [g3, h6]
  by_cases c : m = 0
  · rw [if_pos (c0.mpr c), if_pos (c0.mpr c)]
    exact ⟨rfl, ⟨w1, w2, w3, w4, w5⟩, h2, ⟨h3, h4⟩, h5, ⟨m, h6, nx, g1, g2, g3, g4, g5⟩, h8⟩
  · rw [if_neg (fun z => c (c0.mp z)), if_neg (fun z => c (c0.mp z))]
    obtain ⟨m', rfl⟩ : ∃ k, m = k + 1 := ⟨m - 1, by omega⟩
    rw [nI_pred, g2, nx_3 ⟨nx, g1⟩, nI_clamp (by show (nx + 3) % 4 < _; omega)]
    obtain ⟨a2, e, f1, f2⟩ := undoK (m := m') (by omega) 38 (upd mv.1 0 (nI m'), mv.2.1, mv.2.2.1, mv.2.2.2.1, mv.2.2.2.2.1, mv.2.2.2.2.2.1, mv.2.2.2.2.2.2) 0 (by omega) (by omega) (by dsimp only; rw [upd_eq])
    rw [e]
    have hS := RS_congr (g5 m' (by omega)) (a' := a2) (fun k hk => f2 k (by omega) hk)
    rw [show (nx + 4 - (m' + 1) + m') % 4 = (nx + 3) % 4 from by omega] at hS
    refine ⟨?_, ⟨w4 _ (by show (nx + 3) % 4 < 4; omega), w2, w3, w4, (nx + 3) % 4, by omega, ?_⟩, hS, ⟨?_, ?_⟩, ?_, ⟨m', ?_, (nx + 3) % 4, by omega, ?_, ?_, by omega, fun i hi => ?_⟩, ?_⟩
    · dsimp only
      rw [upd_eq]
    · dsimp only
      rw [upd_ne (by omega), upd_eq]
    · dsimp only
      rw [upd_ne (by omega)]
      exact h3
    · dsimp only
      rw [upd_ne (by omega)]
      exact h4
    · dsimp only
      rw [upd_ne (by omega)]
      exact h5
    · dsimp only
      rw [upd_eq]
    · dsimp only
      rw [upd_ne (by omega), upd_eq]
    · dsimp only
      rw [upd_eq]
    · have := g5 i (by omega)
      rw [show (nx + 4 - (m' + 1) + i) % 4 = ((nx + 3) % 4 + 4 - m' + i) % 4 from by omega] at this
      exact this
    · dsimp only
      rw [upd_ne (by omega)]
      exact h8
theorem s_keep {xv : XV} {mv : MV} {B O : Nat} (H : RX xv mv B O) : (F_X4_keep xv).1 = (F_X5_keep mv).1 ∧ RX (F_X4_keep xv).2 (F_X5_keep mv).2 B O := by
  have hl := laid_eq (RX_S H)
  obtain ⟨⟨w1, w2, w3, w4, w5⟩, h2, ⟨h3, h4⟩, h5, h6, h8⟩ := H
  unfold F_X4_keep F_X5_keep
  refine ⟨hl, ⟨w1, w2, w1, w4, w5⟩, h2, ⟨?_, Or.inr h2⟩, ?_, ?_, ?_⟩
  · dsimp only
    rw [upd_eq, upd_eq]
  · dsimp only
    rw [upd_ne (by omega), upd_ne (by omega)]
    exact h5
  · dsimp only
    rw [upd_ne (by omega)]
    exact h6
  · dsimp only
    rw [upd_ne (by omega)]
    exact h8
theorem s_restore {xv : XV} {mv : MV} {B O : Nat} (H : RX xv mv B O) : (F_X4_restore xv).1 = (F_X5_restore mv).1 ∧ RX (F_X4_restore xv).2 (F_X5_restore mv).2 B O := by
  have H0 := H
  obtain ⟨⟨w1, w2, w3, w4, w5⟩, h2, ⟨h3, h4⟩, h5, h6, h8⟩ := H
  unfold F_X4_restore F_X5_restore
  dsimp only
  rw [h3]
  by_cases c : mv.1 1 = 0
  · rw [if_pos c, if_pos c]
    exact ⟨rfl, H0⟩
  · rw [if_neg c, if_neg c]
    have hS := h4.resolve_left c
    rw [laid_eq hS]
    obtain ⟨m, hm, em⟩ := laid_nI hS
    obtain ⟨g1, g2, g3⟩ := fin_sim H0 (Nat.le_refl B) (Nat.le_refl O) hS (r := F_X5_wraps mv.2.2.2.2.2.1) (by rw [em]; exact nI_pos (by omega))
    exact ⟨g1.trans g2.symm, g3⟩
theorem s_type {xv : XV} {mv : MV} {B O : Nat} {p : Int32} (hp : ∃ x : Nat, x < 65536 ∧ p = nI x) (H : RX xv mv B O) : (F_X4_type xv p).1 = (F_X5_type mv p).1 ∧ RX (F_X4_type xv p).2 (F_X5_type mv p).2 B O := by
  have H0 := H
  obtain ⟨x, hx, ep⟩ := hp
  obtain ⟨h1, h2, h3, h5, h6, n, g1, g2, g3, g4⟩ := H
  have hnar : vp_nar .char p = p := by
    unfold vp_nar
    rw [ep, (pk_charN hx).1]
  unfold F_X4_type F_X5_type F_X0_append
  dsimp only
  have c60 : (nI n < (60 : Int32)) ↔ n < 60 := nI_ltI (b := 60) (by omega) (by omega)
  have e60 : (nI n = 60) ↔ n = 60 := nI_eq (b := 60) (by omega) (by omega)
  rw [g2, g3, if_neg (nI_pos (by omega)), hnar, nI_clamp (by omega), nI_1]
  by_cases c : n < 60
  · rw [if_pos (c60.mpr c), if_neg (fun z => by have := e60.mp z; omega)]
    refine ⟨rfl, h1, h2, ⟨?_, ?_⟩, ?_, ?_, n + 1, by omega, ?_, ?_, fun j hj => ?_⟩
    · dsimp only
      rw [upd_ne (by omega)]
      exact h3.1
    · dsimp only
      rw [upd_ne (by omega)]
      exact h3.2
    · dsimp only
      rw [upd_ne (by omega)]
      exact h5
    · dsimp only
      rw [upd_ne (by omega)]
      exact h6
    · dsimp only
      rw [upd_eq]
    · dsimp only
      rw [upd_eq]
    · dsimp only
      by_cases cj : j = n
      · rw [cj, upd_eq, upd_eq]
        exact ⟨x, hx, ep, ep⟩
      · rw [upd_ne cj, upd_ne cj]
        exact g4 j (by omega)
  · rw [if_neg (fun z => c (c60.mp z)), if_pos (e60.mpr (by omega))]
    exact ⟨rfl, H0⟩
theorem s_clear {xv : XV} {mv : MV} {B O : Nat} (H : RX xv mv B O) : (F_X4_clearText xv).1 = (F_X5_clearText mv).1 ∧ RX (F_X4_clearText xv).2 (F_X5_clearText mv).2 B O := by
  obtain ⟨h1, h2, h3, h5, h6, n, g1, g2, g3, g4⟩ := H
  unfold F_X4_clearText F_X5_clearText F_X0_empty
  refine ⟨g2.trans g3.symm, h1, h2, ⟨?_, ?_⟩, ?_, ?_, 0, by omega, ?_, ?_, fun j hj => absurd hj (by omega)⟩
  · dsimp only
    rw [upd_ne (by omega)]
    exact h3.1
  · dsimp only
    rw [upd_ne (by omega)]
    exact h3.2
  · dsimp only
    rw [upd_ne (by omega)]
    exact h5
  · dsimp only
    rw [upd_ne (by omega)]
    exact h6
  · dsimp only
    rw [upd_eq, nI_0]
  · dsimp only
    rw [upd_eq, nI_0]
theorem s_stopped {xv : XV} {mv : MV} {B O : Nat} (H : RX xv mv B O) : F_X4_stopped xv = F_X5_stopped mv := H.2.2.2.1
theorem if_cg {c : Prop} [Decidable c] {x x' y y' : Int32} (h1 : c → x = x') (h2 : ¬ c → y = y') : (if c then x else y) = if c then x' else y' := by
  by_cases h : c
  · rw [if_pos h, if_pos h, h1 h]
  · rw [if_neg h, if_neg h, h2 h]
theorem RS_h {u : SV} {a : Nat → Int32} {B O : Nat} (H : RS u a B O) : ∀ j, j < 12 → u.2.1.2 j = a j := H.2.1.1
theorem RS_k {u : SV} {a : Nat → Int32} {B O : Nat} (H : RS u a B O) : ∀ j, j < 12 → u.2.2.1 j = a (12 + j) := fun j hj => (H.2.2.2.1 j hj).1
theorem RS_ev {u : SV} {a : Nat → Int32} {B O : Nat} (H : RS u a B O) : F_X3_evenness u.2.1 = F_X5_evenness a := by
  obtain ⟨h, h3, h4, h5⟩ := H.2.1.2.2
  exact even_eq h3 H.2.1.1 h5
theorem s_place {xv : XV} {mv : MV} {B O : Nat} (p1 p2 : Int32) (H : RX xv mv B O) : F_X4_place xv p1 p2 = F_X5_place_ mv p1 p2 := by
  have hS := RX_S H
  unfold F_X4_place F_X5_place_
  by_cases c : F_X5_in (Int32.toInt64 p1) 0 11 = 0
  · rw [if_pos c]
    rw [in_val (a := 0) (b := 11) (by decide) (by decide)] at c
    have z0 : (0 : Int32).toInt = 0 := by decide
    have z5 : (12 : Int32).toInt = 12 := by decide
    have hc : ¬ (0 ≤ p1.toInt ∧ p1.toInt ≤ 11) := fun z => by
      rw [if_pos z] at c
      exact absurd c (by decide)
    by_cases d : p1 < 0
    · rw [if_pos d]
    · rw [if_neg d, if_neg (fun z => ?_)]
      rw [Int32.lt_iff_toInt_lt, z0] at d
      rw [Int32.lt_iff_toInt_lt, z5] at z
      omega
  · obtain ⟨k, hk, ek⟩ := vp_in_of (in12 c) (by omega)
    rw [if_neg c]
    subst ek
    rw [if_neg (nI_pos (by omega)), if_pos ((c12l (by omega)).mpr hk), heightAt_nI _ hk, knotsAt_nI _ hk, ix0 k (by omega), show Int32.toNatClampNeg (12 + nI k) = 12 + k from ixc 12 k (by omega), RS_h hS k hk, RS_k hS k hk, ribbon_eq (RS_h hS) hk, bad_eq (RS_k hS) hk]
    rfl
theorem s_wrong {xv : XV} {mv : MV} {B O : Nat} (H : RX xv mv B O) : F_X4_wrong xv = F_X5_wrong mv := by
  have hS := RX_S H
  unfold F_X4_wrong F_X5_wrong
  rw [empty_eq, bads_eq (RS_k hS), ribbons_eq (RS_h hS), RS_ev hS]
  obtain ⟨h1, h2, h3, h4, h5, q1, q2, q3, q4, q5, q6⟩ := hS
  rw [q1, q4]
  rcases q5 with e | e
  · rw [e, if_pos rfl, if_neg (show ¬ (0 : Int32) = 1 from by decide)]
    by_cases c : mv.2.1 30 = 0
    · rw [if_pos c, if_pos c, if_neg (show ¬ (1 : Int32) = 0 from by decide)]
    · rw [if_neg c, if_neg c, if_pos rfl]
  · rw [e, if_neg (show ¬ (1 : Int32) = 0 from by decide), if_pos rfl]
theorem br_eq {u : SV} {a : Nat → Int32} {B O : Nat} (hB : B < 2 ^ 20) (hO : O < 1000) (H : RS u a B O) : u.1 6 = F_X5_breaks a ∧ u.1 7 = F_X5_doffs a := by
  obtain ⟨h1, h2, h3, h4, h5, q1, q2, q3, q4, q5, q6, q7, b, o, hb, ho, q8, q9, q10⟩ := H
  have ed : F_X5_doffs a = nI o := by
    unfold F_X5_doffs
    rw [q10, show (1048576 : Int32) = nI 1048576 from rfl, pk_div (by omega) (by omega) (by omega)]
    exact congrArg nI (by omega)
  refine ⟨?_, q9.trans ed.symm⟩
  have eb : F_X5_breaks a = a 36 - F_X5_doffs a * 1048576 := rfl
  rw [q8, eb, ed, q10, show (1048576 : Int32) = nI 1048576 from rfl, nI_mul, nI_sub (by omega)]
  exact congrArg nI (by omega)
theorem back_eq {v : WV} {a : Nat → Int32} (h : v.1 2 = a 29) : F_X4_oneIf (F_X3_guideGoesBack v) = if a 29 < 11 then 0 else 1 := by
  unfold F_X3_guideGoesBack F_X4_oneIf
  rw [h]
  by_cases c : a 29 < 11
  · rw [if_pos c, if_pos rfl]
  · rw [if_neg c, if_neg (show ¬ (1 : Int32) = 0 from by decide)]
theorem emp_eq {u : SV} {a : Nat → Int32} (h : u.1 0 = a 30) : F_X4_oneIf (F_X2_isConeEmpty u) = if a 30 = 0 then 1 else 0 := by
  unfold F_X4_oneIf
  rw [empty_eq, h]
  by_cases c : a 30 = 0
  · rw [if_pos c, if_neg (show ¬ (1 : Int32) = 0 from by decide)]
  · rw [if_neg c, if_pos rfl]
theorem s_count {xv : XV} {mv : MV} {B O : Nat} (hB : B < 2 ^ 20) (hO : O < 1000) (p1 : Int32) (H : RX xv mv B O) : F_X4_count xv p1 = F_X5_count mv p1 := by
  have hS := RX_S H
  have hb := br_eq hB hO hS
  have hl := laid_eq hS
  have he := RS_ev hS
  have hk := allKnots_eq (RS_k hS)
  have hr := ribbons_eq (RS_h hS)
  have num : ∀ k : Nat, k < 5 → F_X2_number xv.2.1 (nI (20 + k) - 20) = mv.2.1 (Int32.toNatClampNeg (24 + nI (20 + k) - 20)) := fun k hk => by
    have e1 : nI (20 + k) - 20 = nI k := by
      rw [show (20 : Int32) = nI 20 from rfl, nI_sub (by omega)]
      exact congrArg nI (by omega)
    have e2 : (24 : Int32) + nI (20 + k) - 20 = nI (24 + k) := by
      rw [show (24 : Int32) = nI 24 from rfl, nI_add, show (20 : Int32) = nI 20 from rfl, nI_sub (by omega)]
      exact congrArg nI (by omega)
    rw [e1, e2, num_j _ hk, nI_clamp (by omega)]
    exact (hS.2.2.2.2.1 k hk).1
  obtain ⟨_, _, _, _, ⟨m, h6, nx, g1, g2, g3, g4, g5⟩, n, t1, t2, t3, t4⟩ := H
  obtain ⟨_, hg, _, _, _, q1, q2, q3, q4, q5, q6, q7, _⟩ := hS
  unfold F_X4_count F_X5_count
  refine if_cg (fun _ => hl) (fun _ => if_cg (fun _ => q1) (fun _ => if_cg (fun _ => place_eq hg.2.1) (fun _ => if_cg (fun _ => back_eq hg.2.1) (fun _ => if_cg (fun _ => q3) (fun _ => if_cg (fun _ => q6) (fun _ => if_cg (fun _ => ?_) (fun _ => if_cg (fun _ => emp_eq q1) (fun _ => if_cg (fun _ => ?_) (fun _ => if_cg (fun _ => he) (fun _ => if_cg (fun _ => hr) (fun _ => if_cg (fun _ => hk) (fun _ => if_cg (fun _ => q7) (fun _ => if_cg (fun _ => hb.1) (fun _ => if_cg (fun _ => hb.2) (fun _ => if_cg (fun _ => g3.trans h6.symm) (fun _ => if_cg (fun _ => t2.trans t3.symm) (fun _ => if_cg (fun c => ?_) (fun _ => if_cg (fun c => ?_) (fun _ => if_cg (fun c => ?_) (fun _ => if_cg (fun c => ?_) (fun _ => if_cg (fun c => ?_) (fun _ => rfl))))))))))))))))))))))
  · unfold F_X4_oneIf
    rw [q4]
    rcases q5 with e | e
    · rw [e, if_pos rfl]
    · rw [e, if_neg (show ¬ (1 : Int32) = 0 from by decide)]
  · unfold F_X4_oneIf
    rw [full_eq hg]
  · rw [c]
    exact num 0 (by omega)
  · rw [c]
    exact num 1 (by omega)
  · rw [c]
    exact num 2 (by omega)
  · rw [c]
    exact num 3 (by omega)
  · rw [c]
    exact num 4 (by omega)
