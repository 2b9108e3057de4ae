/-! A command, on the model's side -/
theorem which_val {c : Nat} (hc : c < 65536) : F_X5_whichOf (nI c) = if kindN c < 5 then nI (kindN c) else -5 := by
  have e : ∀ k : Nat, k < 65536 → ¬ c = k → ¬ nI c = nI k := fun k hk h z => h ((nI_eq (by omega) (by omega)).mp z)
  unfold F_X5_whichOf
  by_cases h1 : c = 116
  · subst h1
    rfl
  rw [if_neg (show ¬ nI c = 116 from e 116 (by omega) h1)]
  by_cases h2 : c = 100
  · subst h2
    rfl
  rw [if_neg (show ¬ nI c = 100 from e 100 (by omega) h2)]
  by_cases h3 : c = 119
  · subst h3
    rfl
  rw [if_neg (show ¬ nI c = 119 from e 119 (by omega) h3)]
  by_cases h4 : c = 107
  · subst h4
    rfl
  rw [if_neg (show ¬ nI c = 107 from e 107 (by omega) h4)]
  by_cases h5 : c = 115
  · subst h5
    rfl
  rw [if_neg (show ¬ nI c = 115 from e 115 (by omega) h5)]
  have hk : ¬ kindN c < 5 := by
    unfold kindN
    rw [if_neg h2, if_neg h4, if_neg h5, if_neg h1, if_neg h3]
    repeat' split
    all_goals omega
  rw [if_neg hk]
theorem kindOf_val {c : Nat} (hc : c < 65536) : F_X0_kindOf (nI c) = if kindN c = 8 then -1 else nI (kindN c) := by
  have e : ∀ k : Nat, k < 65536 → ¬ c = k → ¬ nI c = nI k := fun k hk h z => h ((nI_eq (by omega) (by omega)).mp z)
  unfold F_X0_kindOf
  by_cases h1 : c = 99
  · subst h1
    rfl
  rw [if_neg (show ¬ nI c = 99 from e 99 (by omega) h1)]
  by_cases h2 : c = 100
  · subst h2
    rfl
  rw [if_neg (show ¬ nI c = 100 from e 100 (by omega) h2)]
  by_cases h3 : c = 103
  · subst h3
    rfl
  rw [if_neg (show ¬ nI c = 103 from e 103 (by omega) h3)]
  by_cases h4 : c = 107
  · subst h4
    rfl
  rw [if_neg (show ¬ nI c = 107 from e 107 (by omega) h4)]
  by_cases h5 : c = 110
  · subst h5
    rfl
  rw [if_neg (show ¬ nI c = 110 from e 110 (by omega) h5)]
  by_cases h6 : c = 115
  · subst h6
    rfl
  rw [if_neg (show ¬ nI c = 115 from e 115 (by omega) h6)]
  by_cases h7 : c = 116
  · subst h7
    rfl
  rw [if_neg (show ¬ nI c = 116 from e 116 (by omega) h7)]
  by_cases h8 : c = 119
  · subst h8
    rfl
  rw [if_neg (show ¬ nI c = 119 from e 119 (by omega) h8)]
  have hk : kindN c = 8 := by
    unfold kindN
    rw [if_neg h1, if_neg h2, if_neg h3, if_neg h4, if_neg h5, if_neg h6, if_neg h7, if_neg h8]
  rw [if_pos hk]
theorem kind7 {c : Nat} : kindN c = 7 ↔ c = 110 := by
  unfold kindN
  constructor
  · intro h
    repeat' split at h
    all_goals omega
  · intro h
    subst h
    rfl
theorem kind5 {c : Nat} : kindN c = 5 ↔ c = 103 := by
  unfold kindN
  constructor
  · intro h
    repeat' split at h
    all_goals omega
  · intro h
    subst h
    rfl
theorem kind6 {c : Nat} : kindN c = 6 ↔ c = 99 := by
  unfold kindN
  constructor
  · intro h
    repeat' split at h
    all_goals omega
  · intro h
    subst h
    rfl
theorem cmd_k {x : Nat → Nat} {n s k : Nat} (h : s < n) (hk : kindN (x s) = k) (h7 : k < 7) : cmd x n s = ((rd0 x n (loN k) (hiN k) (s + 1)).1, k, (rd0 x n (loN k) (hiN k) (s + 1)).2) := by
  unfold cmd
  rw [hk, if_neg (by omega), if_neg (by omega), if_neg (by omega)]
theorem k182 (u : MV) (d : Int32) {k : Nat} (hk : k < 5) (lo : Int32) : K_X5_command_182 u d (nI k) lo = K_X5_command_223 u d (nI k) lo (nI (hiN k)) := by
  rcases (show k = 0 ∨ k = 1 ∨ k = 2 ∨ k = 3 ∨ k = 4 by omega) with rfl | rfl | rfl | rfl | rfl
  · rfl
  · rfl
  · rfl
  · rfl
  · rfl
theorem k106 {u : MV} {d : Int32} {k : Nat} (hk : k < 5) (h1 : ¬ u.1 2 ≤ u.1 3) (h2 : F_X5_whichOf (u.2.2.2.2.2.2 (Int32.toNatClampNeg (u.1 3))) = nI k) : K_X5_command_106 u d = K_X5_command_223 (upd u.1 3 ((u.1 3) + 1), u.2.1, u.2.2.1, u.2.2.2.1, u.2.2.2.2.1, u.2.2.2.2.2.1, u.2.2.2.2.2.2) d (nI k) (nI (loN k)) (nI (hiN k)) := by
  unfold K_X5_command_106
  rw [if_neg h1, h2]
  rw [if_neg (m5_ne (by omega)), ← k182 _ _ hk]
  rcases (show k = 0 ∨ k = 1 ∨ k = 2 ∨ k = 3 ∨ k = 4 by omega) with rfl | rfl | rfl | rfl | rfl
  · rw [if_pos (show nI 0 = 0 from by decide)]
    exact congrArg (K_X5_command_182 _ _ _) (show (1 : Int32) = nI (loN 0) from by decide)
  · rw [if_neg (show ¬ nI 1 = 0 from by decide), if_neg (show ¬ (3 : Int32) ≤ nI 1 from by decide)]
    exact congrArg (K_X5_command_182 _ _ _) (show (0 : Int32) = nI (loN 1) from by decide)
  · rw [if_neg (show ¬ nI 2 = 0 from by decide), if_neg (show ¬ (3 : Int32) ≤ nI 2 from by decide)]
    exact congrArg (K_X5_command_182 _ _ _) (show (0 : Int32) = nI (loN 2) from by decide)
  · rw [if_neg (show ¬ nI 3 = 0 from by decide), if_pos (show (3 : Int32) ≤ nI 3 from by decide), if_pos (show nI 3 = 3 from by decide)]
    exact congrArg (K_X5_command_182 _ _ _) (show (5 : Int32) = nI (loN 3) from by decide)
  · rw [if_neg (show ¬ nI 4 = 0 from by decide), if_pos (show (3 : Int32) ≤ nI 4 from by decide), if_neg (show ¬ nI 4 = 3 from by decide)]
    exact congrArg (K_X5_command_182 _ _ _) (show (10 : Int32) = nI (loN 4) from by decide)
theorem scOk_up {n s : Nat} {f sc : Nat → Int32} {y : Int32} (h : scOk n s (upd f 3 y) sc) : scOk n s f sc := by
  obtain ⟨h1, h2, h3⟩ := h
  exact ⟨h1, h2, fun k g2 g3 g4 => (h3 k g2 g3 g4).trans (upd_ne g3)⟩
theorem cmdM {x : Nat → Nat} {n s : Nat} {u : MV} (hn : n ≤ 60) (hs : s ≤ n) (e2 : u.1 2 = nI n) (e3 : u.1 3 = nI s) (hx : TXr u.2.2.2.2.2.2 x n) (d : Int32) : ∃ sc : Nat → Int32, F_X5_command u d = outM (cmd x n s) d u sc ∧ scOk n (cmd x n s).2.2.2 u.1 sc := by
  have no : ∀ c : Nat, c < 65536 → ¬ (s < n ∧ x s = c) → F_X5_takes (q3 (u.1 2) (u.1 3) (u.1 4), u.2.2.2.2.2.2) (nI c) = (0, (upd (q3 (u.1 2) (u.1 3) (u.1 4)) 1 (nI s), u.2.2.2.2.2.2)) := fun c hc h => takes_no (q := (q3 (u.1 2) (u.1 3) (u.1 4), u.2.2.2.2.2.2)) (x := x) hn hs e2 e3 hx hc h
  have yes : ∀ c : Nat, s < n → x s = c → F_X5_takes (q3 (u.1 2) (u.1 3) (u.1 4), u.2.2.2.2.2.2) (nI c) = (1, (upd (q3 (u.1 2) (u.1 3) (u.1 4)) 1 (nI (s + 1)), u.2.2.2.2.2.2)) := fun c hc h => takes_yes (q := (q3 (u.1 2) (u.1 3) (u.1 4), u.2.2.2.2.2.2)) (x := x) hn hc e2 e3 hx h
  have n10 : ¬ (1 : Int32) = 0 := by decide
  have eqs0 : upd (q3 (u.1 2) (u.1 3) (u.1 4)) 1 (nI (s + 1)) 0 = nI n := (upd_ne (by omega)).trans e2
  have eqs1 : upd (q3 (u.1 2) (u.1 3) (u.1 4)) 1 (nI (s + 1)) 1 = nI (s + 1) := upd_eq
  unfold F_X5_command
  dsimp only
  rw [show (110 : Int32) = nI 110 from rfl]
  by_cases c0 : s < n ∧ x s = 110
  · have ec : cmd x n s = (1, 7, 0, s + 1) := by
      unfold cmd
      rw [kind7.mpr c0.2, if_neg (by omega), if_neg (by omega), if_pos rfl]
    rw [yes 110 c0.1 c0.2, ec]
    refine ⟨_, ?_, sc_upd (f := u.1) (qs := upd (q3 (u.1 2) (u.1 3) (u.1 4)) 1 (nI (s + 1))) eqs0 eqs1⟩
    have ed : doA 7 0 u.2.1 = F_X5_doKnot u.2.1 := rfl
    unfold outM mk
    dsimp only
    rw [if_neg n10, if_neg (show ¬ (1 : Nat) = 0 from by decide), ed]
  · rw [no 110 (by omega) c0]
    dsimp only
    rw [if_pos rfl, sc_same e3]
    unfold K_X5_command_22
    dsimp only
    rw [show (103 : Int32) = nI 103 from rfl]
    by_cases c1 : s < n ∧ x s = 103
    · rw [yes 103 c1.1 c1.2]
      dsimp only
      rw [if_neg n10, cmd_k c1.1 (kind5.mpr c1.2) (by omega), show (1 : Int32) = nI (loN 5) from rfl, show (500 : Int32) = nI (hiN 5) from rfl]
      exact num_M (k := 5) (u := u) (f := u.1) (x := x) (qs := u.1) (q := (upd (q3 (u.1 2) (u.1 3) (u.1 4)) 1 (nI (s + 1)), u.2.2.2.2.2.2)) hn (by omega) (by omega) d eqs0 eqs1 rfl hx (F_X5_doWind u.2.1) (fun v => rfl)
    · rw [no 103 (by omega) c1]
      dsimp only
      rw [if_pos rfl, sc_same e3]
      unfold K_X5_command_64
      dsimp only
      rw [show (99 : Int32) = nI 99 from rfl]
      by_cases c2 : s < n ∧ x s = 99
      · rw [yes 99 c2.1 c2.2]
        dsimp only
        rw [if_neg n10, cmd_k c2.1 (kind6.mpr c2.2) (by omega), show (1 : Int32) = nI (loN 6) from rfl, show (9999 : Int32) = nI (hiN 6) from rfl]
        exact num_M (k := 6) (u := u) (f := u.1) (x := x) (qs := u.1) (q := (upd (q3 (u.1 2) (u.1 3) (u.1 4)) 1 (nI (s + 1)), u.2.2.2.2.2.2)) hn (by omega) (by omega) d eqs0 eqs1 rfl hx (F_X5_doCone u.2.1) (fun v => rfl)
      · rw [no 99 (by omega) c2]
        dsimp only
        rw [if_pos rfl, sc_same e3]
        have bad : cmd x n s = (0, 0, 0, s) → K_X5_command_106 u d = (-2, u) → ∃ sc : Nat → Int32, K_X5_command_106 u d = outM (cmd x n s) d u sc ∧ scOk n (cmd x n s).2.2.2 u.1 sc := fun h1 h2 => by
          rw [h1, h2]
          refine ⟨u.1, ?_, e2, e3, fun k _ _ _ => rfl⟩
          unfold outM mk
          rw [if_pos rfl]
        by_cases c3 : s < n
        · obtain ⟨g1, g2⟩ := hx s c3
          have hle : ¬ u.1 2 ≤ u.1 3 := by rw [e2, e3]; exact nI_ge c3 (by omega)
          have hwh : F_X5_whichOf (u.2.2.2.2.2.2 (Int32.toNatClampNeg (u.1 3))) = if kindN (x s) < 5 then nI (kindN (x s)) else -5 := by
            rw [e3, nI_clamp (by omega), g1, which_val g2]
          have k7 : ¬ kindN (x s) = 7 := fun z => c0 ⟨c3, kind7.mp z⟩
          have k5 : ¬ kindN (x s) = 5 := fun z => c1 ⟨c3, kind5.mp z⟩
          have k6 : ¬ kindN (x s) = 6 := fun z => c2 ⟨c3, kind6.mp z⟩
          have k8 := kindN_le (c := x s)
          by_cases c4 : kindN (x s) < 5
          · rw [if_pos c4] at hwh
            rw [k106 c4 hle hwh, cmd_k c3 rfl (by omega)]
            have q0 : q3 (upd u.1 3 (u.1 3 + 1) 2) (upd u.1 3 (u.1 3 + 1) 3) (upd u.1 3 (u.1 3 + 1) 4) 0 = nI n := (upd_ne (by omega)).trans e2
            have q1 : q3 (upd u.1 3 (u.1 3 + 1) 2) (upd u.1 3 (u.1 3 + 1) 3) (upd u.1 3 (u.1 3 + 1) 4) 1 = nI (s + 1) := (show upd u.1 3 (u.1 3 + 1) 3 = nI (s + 1) from by rw [upd_eq, e3, nI_1])
            obtain ⟨sc, h1, h2⟩ := num_M (k := kindN (x s)) (u := u) (f := upd u.1 3 (u.1 3 + 1)) (x := x) (qs := u.1) (q := (q3 (upd u.1 3 (u.1 3 + 1) 2) (upd u.1 3 (u.1 3 + 1) 3) (upd u.1 3 (u.1 3 + 1) 4), u.2.2.2.2.2.2)) hn (by omega) (by omega) d q0 q1 rfl hx (F_X5_doSet u.2.1 (nI (kindN (x s)))) (fun v => by
              unfold doA
              rw [if_neg k7, if_neg k5, if_neg k6])
            refine ⟨sc, ?_, scOk_up h2⟩
            unfold K_X5_command_223
            exact h1
          · rw [if_neg c4] at hwh
            refine bad ?_ ?_
            · unfold cmd
              rw [if_neg (by omega), if_pos (by omega)]
            · unfold K_X5_command_106
              rw [if_neg hle, hwh, if_pos rfl]
        · refine bad ?_ ?_
          · unfold cmd
            rw [if_pos (by omega)]
          · unfold K_X5_command_106
            rw [if_pos (by rw [e2, e3]; exact nI_le (by omega) (by omega))]
