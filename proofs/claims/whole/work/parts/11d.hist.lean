/-! The whole winder beside the whole model; the history -/
def RH (v : HV) (m : Nat) (hist : Nat → Int32) (B O : Nat) : Prop := ∃ nx : Nat, nx < 4 ∧ v.1 0 = nI nx ∧ v.1 1 = nI m ∧ m ≤ 4 ∧ ∀ i, i < m → RS (v.2 ((nx + 4 - m + i) % 4)) (fun k => hist (37 * i + k)) B O
def RTx (t : TV) (n9 : Int32) (tx : Nat → Int32) : Prop := ∃ n : Nat, n ≤ 60 ∧ t.1 0 = nI n ∧ n9 = nI n ∧ ∀ j, j < n → ∃ x : Nat, x < 65536 ∧ t.2.1 j = nI x ∧ tx j = nI x
def RX (xv : XV) (mv : MV) (B O : Nat) : Prop := xWF xv ∧ RS xv.2.1 mv.2.1 B O ∧ (xv.1 0 = mv.1 1 ∧ (mv.1 1 = 0 ∨ RS xv.2.2.2.1 mv.2.2.2.2.2.1 B O)) ∧ xv.1 1 = mv.1 5 ∧ (∃ m : Nat, mv.1 0 = nI m ∧ RH xv.2.2.2.2.2.1 m mv.2.2.2.2.1 B O) ∧ RTx xv.2.2.2.2.2.2 (mv.1 2) mv.2.2.2.2.2.2
theorem sB_of {u : SV} {a : Nat → Int32} {B O : Nat} (H : RS u a B O) : sB u := by
  obtain ⟨h1, h2, h3, h4, h5, q1, q2, q3, q4, q5, q6⟩ := H
  unfold sB
  rw [q4]
  exact q5
theorem RH_mono {v : HV} {m : Nat} {hist : Nat → Int32} {B O B' O' : Nat} (hB : B ≤ B') (hO : O ≤ O') (H : RH v m hist B O) : RH v m hist B' O' := by
  obtain ⟨nx, h1, h2, h3, h4, h5⟩ := H
  exact ⟨nx, h1, h2, h3, h4, fun i hi => RS_mono hB hO (h5 i hi)⟩
theorem RX_mono {xv : XV} {mv : MV} {B O B' O' : Nat} (hB : B ≤ B') (hO : O ≤ O') (H : RX xv mv B O) : RX xv mv B' O' := by
  obtain ⟨h1, h2, ⟨h3, h4⟩, h5, ⟨m, h6, h7⟩, h8⟩ := H
  exact ⟨h1, RS_mono hB hO h2, ⟨h3, h4.imp id (RS_mono hB hO)⟩, h5, ⟨m, h6, RH_mono hB hO h7⟩, h8⟩
theorem acted_49 (p : Int32) {m : Nat} (hm : m ≤ 3) : ∀ (n : Nat) (u : MV) (j : Nat), j + n = 38 → j ≤ 37 → u.1 0 = nI m → ∃ h2 : Nat → Int32, K_X5_acted_49 n u p j = (p, (upd u.1 0 (u.1 0 + 1), u.2.1, u.2.2.1, u.2.2.2.1, h2, u.2.2.2.2.2.1, u.2.2.2.2.2.2)) ∧ (∀ k, k < 37 * m + j → h2 k = u.2.2.2.2.1 k) ∧ (∀ i, j ≤ i → i < 37 → h2 (37 * m + i) = u.2.2.1 i) := by
  intro n
  induction n with
  | zero => intro u j h1 h2; omega
  | succ n ih =>
    intro u j h1 h2 hu
    unfold K_X5_acted_49
    have c37 : ((37 : Int32) ≤ nI j) ↔ 37 ≤ j := nI_leI (a := 37) (by omega) (by omega)
    by_cases c : 37 ≤ j
    · rw [if_pos (c37.mpr c)]
      exact ⟨u.2.2.2.2.1, rfl, fun k hk => rfl, fun i hi1 hi2 => by omega⟩
    · rw [if_neg (fun z => c (c37.mp z))]
      have ei : Int32.toNatClampNeg (37 * u.1 0 + nI j) = 37 * m + j := by
        rw [hu, show (37 : Int32) * nI m = nI (37 * m) from nI_mul 37 m]
        exact ixr (37 * m) j (by omega)
      rw [ei]
      obtain ⟨h2, e, f1, f2⟩ := ih (u.1, u.2.1, u.2.2.1, u.2.2.2.1, upd u.2.2.2.2.1 (37 * m + j) (u.2.2.1 j), u.2.2.2.2.2.1, u.2.2.2.2.2.2) (j + 1) (by omega) (by omega) hu
      refine ⟨h2, e, fun k hk => ?_, fun i hi1 hi2 => ?_⟩
      · rw [f1 k (by omega)]
        exact upd_ne (by omega)
      · by_cases ci : i = j
        · subst ci
          rw [f1 _ (by omega)]
          exact upd_eq
        · exact f2 i (by omega) hi2
theorem acted_10 (p : Int32) : ∀ (n : Nat) (u : MV) (j : Nat), j + n = 112 → j ≤ 111 → ∃ h2 : Nat → Int32, K_X5_acted_10 n u p j = K_X5_acted_49 38 (upd u.1 0 (u.1 0 - 1), u.2.1, u.2.2.1, u.2.2.2.1, h2, u.2.2.2.2.2.1, u.2.2.2.2.2.2) p 0 ∧ (∀ k, k < j → h2 k = u.2.2.2.2.1 k) ∧ (∀ k, j ≤ k → k < 111 → h2 k = u.2.2.2.2.1 (k + 37)) := by
  intro n
  induction n with
  | zero => intro u j h1 h2; omega
  | succ n ih =>
    intro u j h1 h2
    unfold K_X5_acted_10
    have cc : ((111 : Int32) ≤ nI j) ↔ 111 ≤ j := nI_leI (a := 111) (by omega) (by omega)
    by_cases c : 111 ≤ j
    · rw [if_pos (cc.mpr c)]
      exact ⟨u.2.2.2.2.1, rfl, fun k hk => rfl, fun i hi1 hi2 => by omega⟩
    · rw [if_neg (fun z => c (cc.mp z))]
      obtain ⟨h2, e, f1, f2⟩ := ih (u.1, u.2.1, u.2.2.1, u.2.2.2.1, upd u.2.2.2.2.1 j (u.2.2.2.2.1 (j + 37)), u.2.2.2.2.2.1, u.2.2.2.2.2.2) (j + 1) (by omega) (by omega)
      refine ⟨h2, e, fun k hk => ?_, fun k hk1 hk2 => ?_⟩
      · rw [f1 k (by omega)]
        exact upd_ne (by omega)
      · by_cases ck : k = j
        · subst ck
          rw [f1 _ (by omega)]
          exact upd_eq
        · rw [f2 k (by omega) hk2]
          exact upd_ne (by omega)
theorem nx_1 : ∀ nx : Fin 4, nI nx.val + 1 - (nI nx.val + 1) / 4 * 4 = nI ((nx.val + 1) % 4) := by decide +kernel
theorem nx_3 : ∀ nx : Fin 4, nI nx.val + 4 - 1 - (nI nx.val + 4 - 1) / 4 * 4 = nI ((nx.val + 3) % 4) := by decide +kernel
theorem mn_4 : ∀ m : Fin 5, (if (4 : Int32) < nI m.val + 1 then 4 else nI m.val + 1) = nI (min (m.val + 1) 4) := by decide +kernel
/-- the history remembers, on both sides -/
theorem rem_sim {v : HV} {mv : MV} {m B O : Nat} {u : SV} {r : Int32} (H : RH v m mv.2.2.2.2.1 B O) (hm : mv.1 0 = nI m) (hu : RS u mv.2.2.1 B O) : ∃ (sc h2 : Nat → Int32), F_X5_acted mv r = (r, (sc, mv.2.1, mv.2.2.1, mv.2.2.2.1, h2, mv.2.2.2.2.2.1, mv.2.2.2.2.2.2)) ∧ sc 0 = nI (min (m + 1) 4) ∧ (∀ k, k ≠ 0 → sc k = mv.1 k) ∧ RH (F_X1_remember v u) (min (m + 1) 4) h2 B O := by
  obtain ⟨nx, h1, h2, h3, h4, h5⟩ := H
  have e0 : (F_X1_remember v u).1 0 = nI ((nx + 1) % 4) := by
    show upd (upd v.1 0 (v.1 0 + 1 - (v.1 0 + 1) / 4 * 4)) 1 (if 4 < v.1 1 + 1 then 4 else v.1 1 + 1) 0 = _
    rw [upd_ne (by omega), upd_eq, h2]
    exact nx_1 ⟨nx, h1⟩
  have e1 : (F_X1_remember v u).1 1 = nI (min (m + 1) 4) := by
    show upd (upd v.1 0 (v.1 0 + 1 - (v.1 0 + 1) / 4 * 4)) 1 (if 4 < v.1 1 + 1 then 4 else v.1 1 + 1) 1 = _
    rw [upd_eq, h3]
    exact mn_4 ⟨m, by omega⟩
  have e2 : (F_X1_remember v u).2 = updS v.2 nx u := by
    show updS v.2 (v.1 0).toNatClampNeg u = _
    rw [h2, nI_clamp (by omega)]
  have us : ∀ k, k ≠ nx → updS v.2 nx u k = v.2 k := fun k hk => by
    unfold updS
    rw [if_neg hk]
  have un : updS v.2 nx u nx = u := by
    unfold updS
    rw [if_pos rfl]
  have c4 : (nI m = 4) ↔ m = 4 := nI_eq (b := 4) (by omega) (by omega)
  unfold F_X5_acted
  rw [hm]
  by_cases c : m = 4
  · subst c
    rw [if_pos (c4.mpr rfl)]
    obtain ⟨ha, ea, fa1, fa2⟩ := acted_10 r 112 mv 0 (by omega) (by omega)
    obtain ⟨hb, eb, fb1, fb2⟩ := acted_49 r (m := 3) (by omega) 38 (upd mv.1 0 (mv.1 0 - 1), mv.2.1, mv.2.2.1, mv.2.2.2.1, ha, mv.2.2.2.2.2.1, mv.2.2.2.2.2.2) 0 (by omega) (by omega) (by
      show upd mv.1 0 (mv.1 0 - 1) 0 = _
      rw [upd_eq, hm]
      decide)
    rw [ea, eb]
    refine ⟨_, hb, rfl, ?_, fun k hk => ?_, (nx + 1) % 4, by omega, e0, e1, by omega, fun i hi => ?_⟩
    · dsimp only
      rw [upd_eq, upd_eq, hm]
      decide
    · dsimp only
      rw [upd_ne hk, upd_ne hk]
    · rw [e2]
      by_cases ci : i = 3
      · subst ci
        rw [show ((nx + 1) % 4 + 4 - min (4 + 1) 4 + 3) % 4 = nx from by omega, un]
        exact RS_congr hu (fun k hk => fb2 k (by omega) hk)
      · rw [us _ (by omega)]
        have := h5 (i + 1) (by omega)
        rw [show (nx + 4 - 4 + (i + 1)) % 4 = ((nx + 1) % 4 + 4 - min (4 + 1) 4 + i) % 4 from by omega] at this
        refine RS_congr this (fun k hk => ?_)
        show hb (37 * i + k) = mv.2.2.2.2.1 (37 * (i + 1) + k)
        rw [fb1 _ (by omega)]
        show ha (37 * i + k) = _
        rw [fa2 _ (by omega) (by omega)]
        exact congrArg mv.2.2.2.2.1 (by omega)
  · rw [if_neg (fun z => c (c4.mp z))]
    obtain ⟨hb, eb, fb1, fb2⟩ := acted_49 r (m := m) (by omega) 38 mv 0 (by omega) (by omega) hm
    rw [eb]
    refine ⟨_, hb, rfl, ?_, fun k hk => ?_, (nx + 1) % 4, by omega, e0, e1, by omega, fun i hi => ?_⟩
    · rw [upd_eq, hm, nI_1, show min (m + 1) 4 = m + 1 from by omega]
    · rw [upd_ne hk]
    · rw [e2]
      by_cases ci : i = m
      · subst ci
        rw [show ((nx + 1) % 4 + 4 - min (i + 1) 4 + i) % 4 = nx from by omega, un]
        exact RS_congr hu (fun k hk => fb2 k (by omega) hk)
      · rw [us _ (by omega)]
        have := h5 i (by omega)
        rw [show (nx + 4 - m + i) % 4 = ((nx + 1) % 4 + 4 - min (m + 1) 4 + i) % 4 from by omega] at this
        refine RS_congr this (fun k hk => ?_)
        exact fb1 _ (by omega)
theorem sB_updS {f : Nat → SV} {k : Nat} {u : SV} (hf : ∀ j : Nat, j < 4 → sB (f j)) (hu : sB u) : ∀ j : Nat, j < 4 → sB (updS f k u j) := by
  intro j hj
  unfold updS
  split
  · exact hu
  · exact hf j hj
/-- an act that came to an answer -/
theorem fin_sim {xv : XV} {mv : MV} {B O B' O' : Nat} {t : SV} {a' : Nat → Int32} {r : Int32} (H : RX xv mv B O) (hB : B ≤ B') (hO : O ≤ O') (hS : RS t a' B' O') (hr : ¬ r < 0) : (F_X4_finishAct (xv.1, xv.2.1, t, xv.2.2.2.1, xv.2.2.2.2.1, xv.2.2.2.2.2.1, xv.2.2.2.2.2.2) r).1 = r ∧ (F_X5_acted (mv.1, a', mv.2.1, mv.2.2.2.1, mv.2.2.2.2.1, mv.2.2.2.2.2.1, mv.2.2.2.2.2.2) r).1 = r ∧ RX (F_X4_finishAct (xv.1, xv.2.1, t, xv.2.2.2.1, xv.2.2.2.2.1, xv.2.2.2.2.2.1, xv.2.2.2.2.2.2) r).2 (F_X5_acted (mv.1, a', mv.2.1, mv.2.2.2.1, mv.2.2.2.2.1, mv.2.2.2.2.2.1, mv.2.2.2.2.2.2) r).2 B' O' := by
  obtain ⟨⟨w1, w2, w3, w4, w5⟩, h2, ⟨h3, h4⟩, h5, ⟨m, h6, h7⟩, h8⟩ := RX_mono hB hO H
  obtain ⟨sc, ha, e, f0, f1, f2⟩ := rem_sim (v := xv.2.2.2.2.2.1) (u := xv.2.1) (r := r) (mv := (mv.1, a', mv.2.1, mv.2.2.2.1, mv.2.2.2.2.1, mv.2.2.2.2.2.1, mv.2.2.2.2.2.2)) h7 h6 h2
  unfold F_X4_finishAct
  rw [if_neg hr, e]
  have ht := sB_of hS
  refine ⟨rfl, rfl, ⟨ht, ht, w3, ?_, ?_⟩, hS, ⟨h3.trans (f1 1 (by omega)).symm, ?_⟩, h5.trans (f1 5 (by omega)).symm, ⟨min (m + 1) 4, f0, f2⟩, ?_⟩
  · exact sB_updS w4 w1
  · obtain ⟨nx, g1, g2, _⟩ := f2
    exact ⟨nx, g1, g2⟩
  · show sc 1 = 0 ∨ _
    rw [f1 1 (by omega)]
    exact h4
  · show RTx xv.2.2.2.2.2.2 (sc 2) _
    rw [f1 2 (by omega)]
    exact h8
/-- an act, whatever it came to -/
theorem act_sim {xv : XV} {mv : MV} {B O B' O' : Nat} {t : SV} {a' : Nat → Int32} {r : Int32} (H : RX xv mv B O) (hB : B ≤ B') (hO : O ≤ O') (hS : RS t a' B' O') (hr : (r < 0 ∧ RS xv.2.1 a' B O) ∨ ∃ m : Nat, m < 2 ^ 31 ∧ r = nI m) : (F_X4_finishAct (xv.1, xv.2.1, t, xv.2.2.2.1, xv.2.2.2.2.1, xv.2.2.2.2.2.1, xv.2.2.2.2.2.2) r).1 = (if 0 ≤ r then (let z := F_X5_acted (mv.1, a', mv.2.1, mv.2.2.2.1, mv.2.2.2.2.1, mv.2.2.2.2.2.1, mv.2.2.2.2.2.2) r
  (z.1, z.2)) else (r, (mv.1, a', mv.2.1, mv.2.2.2.1, mv.2.2.2.2.1, mv.2.2.2.2.2.1, mv.2.2.2.2.2.2))).1 ∧ RX (F_X4_finishAct (xv.1, xv.2.1, t, xv.2.2.2.1, xv.2.2.2.2.1, xv.2.2.2.2.2.1, xv.2.2.2.2.2.2) r).2 (if 0 ≤ r then (let z := F_X5_acted (mv.1, a', mv.2.1, mv.2.2.2.1, mv.2.2.2.2.1, mv.2.2.2.2.2.1, mv.2.2.2.2.2.2) r
  (z.1, z.2)) else (r, (mv.1, a', mv.2.1, mv.2.2.2.1, mv.2.2.2.2.1, mv.2.2.2.2.2.1, mv.2.2.2.2.2.2))).2 B' O' := by
  have z0 : (0 : Int32).toInt = 0 := by decide
  rcases hr with ⟨hr, hn⟩ | ⟨m, hm, e⟩
  · have hr2 : ¬ 0 ≤ r := fun z => by
      rw [Int32.lt_iff_toInt_lt, z0] at hr
      rw [Int32.le_iff_toInt_le, z0] at z
      omega
    rw [if_neg hr2]
    unfold F_X4_finishAct
    rw [if_pos hr]
    obtain ⟨⟨w1, w2, w3, w4, w5⟩, h2, ⟨h3, h4⟩, h5, h6, h8⟩ := RX_mono hB hO H
    exact ⟨rfl, ⟨w1, sB_of hS, w3, w4, w5⟩, RS_mono hB hO hn, ⟨h3, h4⟩, h5, h6, h8⟩
  · have hr : ¬ r < 0 := by rw [e]; exact nI_pos hm
    have hr2 : 0 ≤ r := by rw [e]; exact nI_pos' hm
    rw [if_pos hr2]
    obtain ⟨e1, e2, e3⟩ := fin_sim H hB hO hS hr
    exact ⟨e1.trans e2.symm, e3⟩
theorem RX_S {xv : XV} {mv : MV} {B O : Nat} (H : RX xv mv B O) : RS xv.2.1 mv.2.1 B O := H.2.1
theorem X_tr {xv : XV} {mv : MV} {B O : Nat} (H : RX xv mv B O) {t : SV} (ht : sB t) : RX (xv.1, xv.2.1, t, xv.2.2.2.1, xv.2.2.2.2.1, xv.2.2.2.2.2.1, xv.2.2.2.2.2.2) mv B O := by
  obtain ⟨⟨w1, w2, w3, w4, w5⟩, h2, h3, h4, h5, h6⟩ := H
  exact ⟨⟨w1, ht, w3, w4, w5⟩, h2, h3, h4, h5, h6⟩
theorem neg_1 : (-1 : Int32) < 0 := by decide
theorem neg_2 : (-2 : Int32) < 0 := by decide
theorem neg_4 : (-4 : Int32) < 0 := by decide
theorem neg_5 : (-5 : Int32) < 0 := by decide
theorem fin_neg {xv : XV} {r : Int32} (h : r < 0) : F_X4_finishAct xv r = (r, xv) := by
  unfold F_X4_finishAct
  rw [if_pos h]
theorem s_set {xv : XV} {mv : MV} {B O : Nat} (p1 p2 : Int32) (H : RX xv mv B O) : (F_X4_set xv p1 p2).1 = (F_X5_set mv p1 p2).1 ∧ RX (F_X4_set xv p1 p2).2 (F_X5_set mv p1 p2).2 (B + 1) O := by
  unfold F_X4_set F_X5_set
  dsimp only
  by_cases c : F_X5_in (Int32.toInt64 p1) 0 4 = 0
  · have hn : F_X2_changeNumber xv.2.1 p1 p2 = (-1, xv.2.1) := by
      rw [in_val (a := 0) (b := 4) (by decide) (by decide)] at c
      have z0 : (0 : Int32).toInt = 0 := by decide
      have z5 : (5 : Int32).toInt = 5 := by decide
      have hc : ¬ (0 ≤ p1.toInt ∧ p1.toInt ≤ 4) := fun z => by
        rw [if_pos z] at c
        exact absurd c (by decide)
      unfold F_X2_changeNumber
      by_cases d : p1 < 0
      · rw [if_pos d]
      · rw [if_neg d, if_neg (fun z => ?_)]
        rw [Int32.lt_iff_toInt_lt, z0] at d
        rw [Int32.lt_iff_toInt_lt, z5] at z
        omega
    rw [if_pos c, hn, fin_neg neg_1]
    exact ⟨rfl, X_tr (RX_mono (by omega) (Nat.le_refl _) H) (sB_of (RX_S H))⟩
  · obtain ⟨k, hk, ek⟩ := vp_in_of (in5 c) (by omega)
    rw [if_neg c]
    subst ek
    by_cases d : F_X5_isNumber (nI k) p2 = 0
    · have hn : F_X2_changeNumber xv.2.1 (nI k) p2 = (-2, xv.2.1) := by
        unfold F_X2_changeNumber
        rw [if_neg (nI_pos (by omega)), if_pos ((c5l (by omega)).mpr hk), rngN hk, if_pos d]
      rw [if_pos d, hn, fin_neg neg_2]
      exact ⟨rfl, X_tr (RX_mono (by omega) (Nat.le_refl _) H) (sB_of (RX_S H))⟩
    · rw [if_neg d]
      obtain ⟨e1, e2, e3⟩ := set_sim (RX_S H) hk d
      rw [e1]
      exact act_sim H (by omega) (Nat.le_refl _) (RS_mono (by omega) (Nat.le_refl _) e3) (e2.imp (fun z => ⟨by rw [z.1]; exact neg_5, z.2⟩) id)
theorem s_wind {xv : XV} {mv : MV} {B O : Nat} (p1 : Int32) (H : RX xv mv B O) : (F_X4_wind xv p1).1 = (F_X5_wind mv p1).1 ∧ RX (F_X4_wind xv p1).2 (F_X5_wind mv p1).2 (B + 1) O := by
  unfold F_X4_wind F_X5_wind
  dsimp only
  by_cases c : F_X5_in (Int32.toInt64 p1) 1 500 = 0
  · have hn : F_X2_turnOften xv.2.1 p1 = (-2, xv.2.1) := by
      unfold F_X2_turnOften
      rw [rng5, if_pos c]
    rw [if_pos c, hn, fin_neg neg_2]
    exact ⟨rfl, X_tr (RX_mono (by omega) (Nat.le_refl _) H) (sB_of (RX_S H))⟩
  · rw [if_neg c]
    obtain ⟨e1, e2, e3⟩ := wind_sim (RX_S H) c
    rw [e1]
    exact act_sim H (by omega) (Nat.le_refl _) e3 (e2.imp (fun z => ⟨by rw [z.1]; exact neg_5, z.2⟩) id)
theorem s_knot {xv : XV} {mv : MV} {B O : Nat} (hB : B < 2 ^ 20) (H : RX xv mv B O) : (F_X4_knot xv).1 = (F_X5_knot mv).1 ∧ RX (F_X4_knot xv).2 (F_X5_knot mv).2 (B + 1) O := by
  unfold F_X4_knot F_X5_knot
  dsimp only
  obtain ⟨e1, e2, e3⟩ := knot_sim hB (RX_S H)
  rw [e1]
  refine act_sim H (by omega) (Nat.le_refl _) e3 ?_
  rcases e2 with z | z | z
  · exact Or.inl ⟨by rw [z.1]; exact neg_4, z.2⟩
  · exact Or.inl ⟨by rw [z.1]; exact neg_5, z.2⟩
  · exact Or.inr z
theorem s_cone {xv : XV} {mv : MV} {B O : Nat} (p1 : Int32) (H : RX xv mv B O) : (F_X4_cone xv p1).1 = (F_X5_cone mv p1).1 ∧ RX (F_X4_cone xv p1).2 (F_X5_cone mv p1).2 (B + 1) O := by
  unfold F_X4_cone F_X5_cone
  dsimp only
  by_cases c : F_X5_in (Int32.toInt64 p1) 1 9999 = 0
  · have hn : F_X2_changeCone xv.2.1 p1 = (-2, xv.2.1) := by
      unfold F_X2_changeCone
      rw [rng6, if_pos c]
    rw [if_pos c, hn, fin_neg neg_2]
    exact ⟨rfl, X_tr (RX_mono (by omega) (Nat.le_refl _) H) (sB_of (RX_S H))⟩
  · rw [if_neg c]
    obtain ⟨e1, ⟨m, hm, e2⟩, e3⟩ := cone_sim (RX_S H) c
    rw [e1]
    obtain ⟨g1, g2, g3⟩ := fin_sim H (Nat.le_succ B) (Nat.le_refl _) (RS_mono (Nat.le_succ B) (Nat.le_refl _) e3) (r := (F_X5_doCone mv.2.1 p1).1) (by rw [e2]; exact nI_pos hm)
    exact ⟨g1.trans g2.symm, g3⟩
