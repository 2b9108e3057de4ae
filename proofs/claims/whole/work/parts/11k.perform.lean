/-! The whole of perform, side by side -/
theorem RX_sc {xv : XV} {mv : MV} {B O : Nat} {tx : TV} {sc : Nat → Int32} {t : SV} (H : RX xv mv B O) (ht : sB t) (h0 : tx.1 0 = xv.2.2.2.2.2.2.1 0) (hc : tx.2.1 = xv.2.2.2.2.2.2.2.1) (h : ∀ k, k ≠ 3 → k ≠ 4 → sc k = mv.1 k) (ke tr : Nat → Int32) : RX (xv.1, xv.2.1, t, xv.2.2.2.1, xv.2.2.2.2.1, xv.2.2.2.2.2.1, tx) (sc, mv.2.1, ke, tr, mv.2.2.2.2.1, mv.2.2.2.2.2.1, mv.2.2.2.2.2.2) B O := by
  obtain ⟨⟨w1, w2, w3, w4, w5⟩, h2, ⟨h3, h4⟩, h5, ⟨m, h6, h7⟩, n, t1, t2, t3, t4⟩ := H
  refine ⟨⟨w1, ht, w3, w4, w5⟩, h2, ⟨h3.trans (h 1 (by omega) (by omega)).symm, ?_⟩, h5.trans (h 5 (by omega) (by omega)).symm, ⟨m, (h 0 (by omega) (by omega)).trans h6, h7⟩, n, t1, h0.trans t2, (h 2 (by omega) (by omega)).trans t3, fun j hj => ?_⟩
  · show sc 1 = 0 ∨ _
    rw [h 1 (by omega) (by omega)]
    exact h4
  · rw [hc]
    exact t4 j hj
theorem p29_s (f : Nat) (u : MV) (j : Nat) (e : Int32) : K_X5_perform_29 (f + 1) u j e = (if e = 0 then (let z_77 := F_X5_acted u (nI j)
  (z_77.1, z_77.2)) else (let z_35 := F_X5_command u 1
  (if z_35.1 = (-4) then ((-4), (upd z_35.2.1 5 (nI j), z_35.2.2.2.1, z_35.2.2.2.1, z_35.2.2.2.2.1, z_35.2.2.2.2.2.1, z_35.2.2.2.2.2.2.1, z_35.2.2.2.2.2.2.2)) else (let z_68 := F_X5_takes (q3 (z_35.2.1 2) (z_35.2.1 3) (z_35.2.1 4), z_35.2.2.2.2.2.2.2) 44
  K_X5_perform_29 f (upd (upd (upd z_35.2.1 2 (z_68.2.1 0)) 3 (z_68.2.1 1)) 4 (z_68.2.1 2), z_35.2.2.1, z_35.2.2.2.1, z_35.2.2.2.2.1, z_35.2.2.2.2.2.1, z_35.2.2.2.2.2.2.1, z_68.2.2) (j + 1) z_68.1)))) := rfl
theorem cAt {t : TV} {j : Nat} (hj : j < 60) : F_X0_commandAt t (nI j) = t.2.2.1 j := by
  unfold F_X0_commandAt
  rw [if_neg (nI_pos (by omega)), if_neg (show ¬ (60 : Int32) ≤ nI j from nI_ge (a := j) (b := 60) hj (by omega)), nI_clamp (by omega)]
theorem vAt {t : TV} {j : Nat} (hj : j < 60) : F_X0_valueAt t (nI j) = t.2.2.2 j := by
  unfold F_X0_valueAt
  rw [if_neg (nI_pos (by omega)), if_neg (show ¬ (60 : Int32) ≤ nI j from nI_ge (a := j) (b := 60) hj (by omega)), nI_clamp (by omega)]
theorem p31_in {xv : XV} {f j m : Nat} (hm : xv.2.2.2.2.2.2.1 1 = nI m) (h : j < m) (hm6 : m ≤ 60) : K_X4_perform_31 (f + 1) xv j = (let z_62 := F_X2_obey xv.2.2.1 (xv.2.2.2.2.2.2.2.2.1 j) (xv.2.2.2.2.2.2.2.2.2 j)
  (if 0 ≤ z_62.1 then K_X4_perform_31 f (xv.1, xv.2.1, z_62.2, xv.2.2.2.1, xv.2.2.2.2.1, xv.2.2.2.2.2.1, xv.2.2.2.2.2.2) (j + 1) else (if z_62.1 = (-5) then K_X4_perform_31 f (xv.1, xv.2.1, z_62.2, xv.2.2.2.1, xv.2.2.2.2.1, xv.2.2.2.2.2.1, xv.2.2.2.2.2.2) (j + 1) else ((-4), (upd xv.1 1 (nI j), xv.2.1, z_62.2, xv.2.2.2.1, xv.2.2.2.2.1, xv.2.2.2.2.2.1, xv.2.2.2.2.2.2))))) := by
  have hle : ¬ nI m ≤ nI j := nI_ge h (by omega)
  show (if (xv.2.2.2.2.2.2.1 1) ≤ (nI j) then _ else _) = _
  rw [hm, if_neg hle, cAt (by omega), vAt (by omega)]
theorem p31_end {xv : XV} {f m : Nat} (hm : xv.2.2.2.2.2.2.1 1 = nI m) (hm6 : m ≤ 60) : K_X4_perform_31 (f + 1) xv m = ((F_X4_finishAct xv (nI m)).1, (F_X4_finishAct xv (nI m)).2) := by
  show (if (xv.2.2.2.2.2.2.1 1) ≤ (nI m) then _ else _) = _
  rw [hm, if_pos (nI_le (Nat.le_refl _) (by omega))]
theorem perfK {x : Nat → Nat} {n : Nat} (hn : n ≤ 60) {B O : Nat} : ∀ (L : List (Nat × Nat)) (s j F f B' : Nat) (xv : XV) (mv : MV), Par x n s L → Arr xv.2.2.2.2.2.2.2.2.1 xv.2.2.2.2.2.2.2.2.2 j L → xv.2.2.2.2.2.2.1 1 = nI (j + L.length) → j + L.length ≤ 60 → F + j = 62 → f + j = 61 → mv.1 2 = nI n → mv.1 3 = nI s → s ≤ n → TXr mv.2.2.2.2.2.2 x n → B' + L.length < 2 ^ 20 → RX xv (mv.1, mv.2.2.1, mv.2.2.1, mv.2.2.2.1, mv.2.2.2.2.1, mv.2.2.2.2.2.1, mv.2.2.2.2.2.2) B O → RS xv.2.2.1 mv.2.1 B' O → B ≤ B' → (K_X4_perform_31 f xv j).1 = (K_X5_perform_29 F mv j 1).1 ∧ RX (K_X4_perform_31 f xv j).2 (K_X5_perform_29 F mv j 1).2 (B' + L.length) O := by
  intro L
  induction L with
  | nil => intro s j F f B' xv mv hP; exact absurd hP (by intro h; exact h)
  | cons e L ih =>
    intro s j F f B' xv mv hP hA hc hj hF hf e2 e3 hs hx hB H hS hBB
    rw [List.length_cons] at hc hj hB ⊢
    have n10 : ¬ (1 : Int32) = 0 := by decide
    obtain ⟨s', k1, k2, k3, k4, k5⟩ := hP
    obtain ⟨a1, a2, a3⟩ := hA
    obtain ⟨F0, rfl⟩ : ∃ y, F = y + 1 := ⟨F - 1, by omega⟩
    obtain ⟨f0, rfl⟩ : ∃ y, f = y + 1 := ⟨f - 1, by omega⟩
    obtain ⟨sc, g1, g2⟩ := cmdM hn hs e2 e3 hx 1
    obtain ⟨o1, o2, o3⟩ := obey_sim (w := xv.2.2.2.2.2.2.2.2.2 j) (by omega) hS k4 a2
    rw [k1] at g1 g2
    have eo : outM (1, e.1, e.2, s') 1 mv sc = ((doA e.1 e.2 mv.2.1).1, mk mv sc (doA e.1 e.2 mv.2.1).2) := by
      unfold outM
      rw [if_neg (show ¬ (1 : Nat) = 0 from by decide), if_neg n10]
    rw [eo] at g1
    rw [p29_s, if_neg n10, g1, p31_in hc (by omega) (by omega), a1]
    dsimp only
    rw [o1]
    have hsc : ∀ k, k ≠ 3 → k ≠ 4 → sc k = mv.1 k := fun k h3 h4 => by
      by_cases h2 : k = 2
      · rw [h2, g2.1, e2]
      · exact g2.2.2 k h2 h3 h4
    have ht := sB_of o3
    have HX := RX_sc H ht rfl rfl hsc mv.2.2.1 mv.2.2.2.1
    by_cases c4 : (doA e.1 e.2 mv.2.1).1 = -4
    · rw [c4, if_neg (show ¬ (0 : Int32) ≤ -4 from by decide), if_neg (show ¬ (-4 : Int32) = -5 from by decide), if_pos rfl]
      obtain ⟨⟨w1, w2, w3, w4, w5⟩, h2, ⟨h3, h4⟩, h5, ⟨m, h6, h7⟩, h8⟩ := RX_mono (Nat.le_trans hBB (Nat.le_add_right B' (L.length + 1))) (Nat.le_refl O) HX
      refine ⟨rfl, ⟨w1, w2, w3, w4, w5⟩, h2, ⟨?_, ?_⟩, ?_, ⟨m, ?_, h7⟩, ?_⟩
      · show upd xv.1 1 (nI j) 0 = upd sc 5 (nI j) 1
        rw [upd_ne (by omega), upd_ne (by omega)]
        exact h3
      · show upd sc 5 (nI j) 1 = 0 ∨ _
        rw [upd_ne (by omega)]
        exact h4
      · show upd xv.1 1 (nI j) 1 = upd sc 5 (nI j) 5
        rw [upd_eq, upd_eq]
      · show upd sc 5 (nI j) 0 = _
        rw [upd_ne (by omega)]
        exact h6
      · show RTx xv.2.2.2.2.2.2 (upd sc 5 (nI j) 2) _
        rw [upd_ne (by omega)]
        exact h8
    · rw [if_neg c4]
      have ecl : (if 0 ≤ (doA e.1 e.2 mv.2.1).1 then K_X4_perform_31 f0 (xv.1, xv.2.1, (F_X2_obey xv.2.2.1 (nI e.1) (xv.2.2.2.2.2.2.2.2.2 j)).2, xv.2.2.2.1, xv.2.2.2.2.1, xv.2.2.2.2.2.1, xv.2.2.2.2.2.2) (j + 1) else (if (doA e.1 e.2 mv.2.1).1 = (-5) then K_X4_perform_31 f0 (xv.1, xv.2.1, (F_X2_obey xv.2.2.1 (nI e.1) (xv.2.2.2.2.2.2.2.2.2 j)).2, xv.2.2.2.1, xv.2.2.2.2.1, xv.2.2.2.2.2.1, xv.2.2.2.2.2.2) (j + 1) else ((-4), ((upd xv.1 1 (nI j), xv.2.1, (F_X2_obey xv.2.2.1 (nI e.1) (xv.2.2.2.2.2.2.2.2.2 j)).2, xv.2.2.2.1, xv.2.2.2.2.1, xv.2.2.2.2.2.1, xv.2.2.2.2.2.2) : XV)))) = K_X4_perform_31 f0 (xv.1, xv.2.1, (F_X2_obey xv.2.2.1 (nI e.1) (xv.2.2.2.2.2.2.2.2.2 j)).2, xv.2.2.2.1, xv.2.2.2.2.1, xv.2.2.2.2.2.1, xv.2.2.2.2.2.2) (j + 1) := by
        rcases o2 with h | h | ⟨m, hm, h⟩
        · exact absurd h c4
        · rw [h, if_neg (show ¬ (0 : Int32) ≤ -5 from by decide), if_pos rfl]
        · rw [h, if_pos (nI_pos' hm)]
      rw [ecl]
      rcases k5 with ⟨hn1, hL⟩ | ⟨hn1, h44, hP2⟩
      · subst hL
        have et := takes_no (q := (q3 (sc 2) (sc 3) (sc 4), mv.2.2.2.2.2.2)) (x := x) (c := 44) hn k3 g2.1 g2.2.1 hx (by omega) (fun z => by omega)
        have hso := sc_same (f := sc) g2.2.1
        obtain ⟨F1, rfl⟩ : ∃ y, F0 = y + 1 := ⟨F0 - 1, by omega⟩
        obtain ⟨f1, rfl⟩ : ∃ y, f0 = y + 1 := ⟨f0 - 1, by omega⟩
        have eM : K_X5_perform_29 (F1 + 1) (upd (upd (upd (mk mv sc (doA e.1 e.2 mv.2.1).2).1 2 ((F_X5_takes (q3 ((mk mv sc (doA e.1 e.2 mv.2.1).2).1 2) ((mk mv sc (doA e.1 e.2 mv.2.1).2).1 3) ((mk mv sc (doA e.1 e.2 mv.2.1).2).1 4), (mk mv sc (doA e.1 e.2 mv.2.1).2).2.2.2.2.2.2) 44).2.1 0)) 3 ((F_X5_takes (q3 ((mk mv sc (doA e.1 e.2 mv.2.1).2).1 2) ((mk mv sc (doA e.1 e.2 mv.2.1).2).1 3) ((mk mv sc (doA e.1 e.2 mv.2.1).2).1 4), (mk mv sc (doA e.1 e.2 mv.2.1).2).2.2.2.2.2.2) 44).2.1 1)) 4 ((F_X5_takes (q3 ((mk mv sc (doA e.1 e.2 mv.2.1).2).1 2) ((mk mv sc (doA e.1 e.2 mv.2.1).2).1 3) ((mk mv sc (doA e.1 e.2 mv.2.1).2).1 4), (mk mv sc (doA e.1 e.2 mv.2.1).2).2.2.2.2.2.2) 44).2.1 2), (mk mv sc (doA e.1 e.2 mv.2.1).2).2.1, (mk mv sc (doA e.1 e.2 mv.2.1).2).2.2.1, (mk mv sc (doA e.1 e.2 mv.2.1).2).2.2.2.1, (mk mv sc (doA e.1 e.2 mv.2.1).2).2.2.2.2.1, (mk mv sc (doA e.1 e.2 mv.2.1).2).2.2.2.2.2.1, (F_X5_takes (q3 ((mk mv sc (doA e.1 e.2 mv.2.1).2).1 2) ((mk mv sc (doA e.1 e.2 mv.2.1).2).1 3) ((mk mv sc (doA e.1 e.2 mv.2.1).2).1 4), (mk mv sc (doA e.1 e.2 mv.2.1).2).2.2.2.2.2.2) 44).2.2) (j + 1) (F_X5_takes (q3 ((mk mv sc (doA e.1 e.2 mv.2.1).2).1 2) ((mk mv sc (doA e.1 e.2 mv.2.1).2).1 3) ((mk mv sc (doA e.1 e.2 mv.2.1).2).1 4), (mk mv sc (doA e.1 e.2 mv.2.1).2).2.2.2.2.2.2) 44).1 = ((F_X5_acted (mk mv sc (doA e.1 e.2 mv.2.1).2) (nI (j + 1))).1, (F_X5_acted (mk mv sc (doA e.1 e.2 mv.2.1).2) (nI (j + 1))).2) := by
          rw [show F_X5_takes (q3 ((mk mv sc (doA e.1 e.2 mv.2.1).2).1 2) ((mk mv sc (doA e.1 e.2 mv.2.1).2).1 3) ((mk mv sc (doA e.1 e.2 mv.2.1).2).1 4), (mk mv sc (doA e.1 e.2 mv.2.1).2).2.2.2.2.2.2) 44 = (0, (upd (q3 (sc 2) (sc 3) (sc 4)) 1 (nI s'), mv.2.2.2.2.2.2)) from et]
          dsimp only
          rw [show upd (upd (upd (mk mv sc (doA e.1 e.2 mv.2.1).2).1 2 (upd (q3 (sc 2) (sc 3) (sc 4)) 1 (nI s') 0)) 3 (upd (q3 (sc 2) (sc 3) (sc 4)) 1 (nI s') 1)) 4 (upd (q3 (sc 2) (sc 3) (sc 4)) 1 (nI s') 2) = sc from hso, p29_s, if_pos rfl]
          rfl
        rw [eM]
        have hc1 : (xv.1, xv.2.1, (F_X2_obey xv.2.2.1 (nI e.1) (xv.2.2.2.2.2.2.2.2.2 j)).2, xv.2.2.2.1, xv.2.2.2.2.1, xv.2.2.2.2.2.1, xv.2.2.2.2.2.2).2.2.2.2.2.2.1 1 = nI (j + 1) := hc
        rw [p31_end hc1 (by simp at hj; omega)]
        obtain ⟨i1, i2, i3⟩ := fin_sim (r := nI (j + 1)) (t := (F_X2_obey xv.2.2.1 (nI e.1) (xv.2.2.2.2.2.2.2.2.2 j)).2) (a' := (doA e.1 e.2 mv.2.1).2) (B' := B' + 1) (O' := O) HX (by omega) (Nat.le_refl _) o3 (nI_pos (by simp at hj; omega))
        exact ⟨i1.trans i2.symm, i3⟩
      · have et := takes_yes (q := (q3 (sc 2) (sc 3) (sc 4), mv.2.2.2.2.2.2)) (x := x) hn hn1 g2.1 g2.2.1 hx h44
        have e0 : upd (q3 (sc 2) (sc 3) (sc 4)) 1 (nI (s' + 1)) 0 = nI n := (upd_ne (by omega)).trans g2.1
        have e1 : upd (q3 (sc 2) (sc 3) (sc 4)) 1 (nI (s' + 1)) 1 = nI (s' + 1) := upd_eq
        have hsu := sc_upd (f := sc) (qs := upd (q3 (sc 2) (sc 3) (sc 4)) 1 (nI (s' + 1))) e0 e1
        have hsc2 : ∀ k, k ≠ 3 → k ≠ 4 → (upd (upd (upd sc 2 (upd (q3 (sc 2) (sc 3) (sc 4)) 1 (nI (s' + 1)) 0)) 3 (upd (q3 (sc 2) (sc 3) (sc 4)) 1 (nI (s' + 1)) 1)) 4 (upd (q3 (sc 2) (sc 3) (sc 4)) 1 (nI (s' + 1)) 2)) k = mv.1 k := fun k h3 h4 => by
          by_cases h2 : k = 2
          · rw [h2, hsu.1, e2]
          · rw [hsu.2.2 k h2 h3 h4, hsc k h3 h4]
        have HX2 := RX_sc H ht rfl rfl hsc2 mv.2.2.1 mv.2.2.2.1
        have eM : K_X5_perform_29 F0 (upd (upd (upd (mk mv sc (doA e.1 e.2 mv.2.1).2).1 2 ((F_X5_takes (q3 ((mk mv sc (doA e.1 e.2 mv.2.1).2).1 2) ((mk mv sc (doA e.1 e.2 mv.2.1).2).1 3) ((mk mv sc (doA e.1 e.2 mv.2.1).2).1 4), (mk mv sc (doA e.1 e.2 mv.2.1).2).2.2.2.2.2.2) 44).2.1 0)) 3 ((F_X5_takes (q3 ((mk mv sc (doA e.1 e.2 mv.2.1).2).1 2) ((mk mv sc (doA e.1 e.2 mv.2.1).2).1 3) ((mk mv sc (doA e.1 e.2 mv.2.1).2).1 4), (mk mv sc (doA e.1 e.2 mv.2.1).2).2.2.2.2.2.2) 44).2.1 1)) 4 ((F_X5_takes (q3 ((mk mv sc (doA e.1 e.2 mv.2.1).2).1 2) ((mk mv sc (doA e.1 e.2 mv.2.1).2).1 3) ((mk mv sc (doA e.1 e.2 mv.2.1).2).1 4), (mk mv sc (doA e.1 e.2 mv.2.1).2).2.2.2.2.2.2) 44).2.1 2), (mk mv sc (doA e.1 e.2 mv.2.1).2).2.1, (mk mv sc (doA e.1 e.2 mv.2.1).2).2.2.1, (mk mv sc (doA e.1 e.2 mv.2.1).2).2.2.2.1, (mk mv sc (doA e.1 e.2 mv.2.1).2).2.2.2.2.1, (mk mv sc (doA e.1 e.2 mv.2.1).2).2.2.2.2.2.1, (F_X5_takes (q3 ((mk mv sc (doA e.1 e.2 mv.2.1).2).1 2) ((mk mv sc (doA e.1 e.2 mv.2.1).2).1 3) ((mk mv sc (doA e.1 e.2 mv.2.1).2).1 4), (mk mv sc (doA e.1 e.2 mv.2.1).2).2.2.2.2.2.2) 44).2.2) (j + 1) (F_X5_takes (q3 ((mk mv sc (doA e.1 e.2 mv.2.1).2).1 2) ((mk mv sc (doA e.1 e.2 mv.2.1).2).1 3) ((mk mv sc (doA e.1 e.2 mv.2.1).2).1 4), (mk mv sc (doA e.1 e.2 mv.2.1).2).2.2.2.2.2.2) 44).1 = K_X5_perform_29 F0 (mk mv (upd (upd (upd sc 2 (upd (q3 (sc 2) (sc 3) (sc 4)) 1 (nI (s' + 1)) 0)) 3 (upd (q3 (sc 2) (sc 3) (sc 4)) 1 (nI (s' + 1)) 1)) 4 (upd (q3 (sc 2) (sc 3) (sc 4)) 1 (nI (s' + 1)) 2)) (doA e.1 e.2 mv.2.1).2) (j + 1) 1 := by
          rw [show F_X5_takes (q3 ((mk mv sc (doA e.1 e.2 mv.2.1).2).1 2) ((mk mv sc (doA e.1 e.2 mv.2.1).2).1 3) ((mk mv sc (doA e.1 e.2 mv.2.1).2).1 4), (mk mv sc (doA e.1 e.2 mv.2.1).2).2.2.2.2.2.2) 44 = (1, (upd (q3 (sc 2) (sc 3) (sc 4)) 1 (nI (s' + 1)), mv.2.2.2.2.2.2)) from et]
          rfl
        rw [eM]
        obtain ⟨i1, i2⟩ := ih (s' + 1) (j + 1) F0 f0 (B' + 1) (xv.1, xv.2.1, (F_X2_obey xv.2.2.1 (nI e.1) (xv.2.2.2.2.2.2.2.2.2 j)).2, xv.2.2.2.1, xv.2.2.2.2.1, xv.2.2.2.2.2.1, xv.2.2.2.2.2.2) (mk mv (upd (upd (upd sc 2 (upd (q3 (sc 2) (sc 3) (sc 4)) 1 (nI (s' + 1)) 0)) 3 (upd (q3 (sc 2) (sc 3) (sc 4)) 1 (nI (s' + 1)) 1)) 4 (upd (q3 (sc 2) (sc 3) (sc 4)) 1 (nI (s' + 1)) 2)) (doA e.1 e.2 mv.2.1).2) hP2 a3 (hc.trans (congrArg nI (by omega))) (by omega) (by omega) (by omega) hsu.1 hsu.2.1 (by omega) hx (by omega) HX2 o3 (by omega)
        exact ⟨i1, RX_mono (by omega) (Nat.le_refl _) i2⟩
theorem s_perform {xv : XV} {mv : MV} {B O : Nat} (hB : B + 60 < 2 ^ 20) (H : RX xv mv B O) : (F_X4_perform xv).1 = (F_X5_perform mv).1 ∧ RX (F_X4_perform xv).2 (F_X5_perform mv).2 (B + 60) O := by
  obtain ⟨_, _, _, _, _, n, t1, t2, t3, t4⟩ := (⟨H.1, H.2.1, H.2.2.1, H.2.2.2.1, H.2.2.2.2.1, H.2.2.2.2.2⟩ : RX xv mv B O)
  have hxm : TXr mv.2.2.2.2.2.2 (fun j => (mv.2.2.2.2.2.2 j).toNatClampNeg) n := fun j hj => by
    obtain ⟨y, y1, y2, y3⟩ := t4 j hj
    dsimp only
    rw [y3, nI_clamp (by omega)]
    exact ⟨rfl, y1⟩
  have hxu : TXr xv.2.2.2.2.2.2.2.1 (fun j => (mv.2.2.2.2.2.2 j).toNatClampNeg) n := fun j hj => by
    obtain ⟨y, y1, y2, y3⟩ := t4 j hj
    dsimp only
    rw [y2, y3, nI_clamp (by omega)]
    exact ⟨rfl, y1⟩
  obtain ⟨sc, f1, f2, f3, f4, f5⟩ := faultK t1 62 0 61 0 (upd (upd (upd xv.2.2.2.2.2.2.1 1 0) 2 (-1)) 3 (-1), xv.2.2.2.2.2.2.2.1, xv.2.2.2.2.2.2.2.2.1, xv.2.2.2.2.2.2.2.2.2) (upd mv.1 3 0, mv.2.1, mv.2.2.1, mv.2.2.2.1, mv.2.2.2.2.1, mv.2.2.2.2.2.1, mv.2.2.2.2.2.2) (by omega) (by omega) (by omega) (by omega) ⟨by dsimp only; rw [upd_ne (by omega), upd_ne (by omega), upd_ne (by omega), t2], by dsimp only; rw [upd_ne (by omega), upd_ne (by omega), upd_eq, nI_0], by dsimp only; rw [upd_ne (by omega), upd_eq], by dsimp only; rw [upd_eq]⟩ hxu (by dsimp only; rw [upd_ne (by omega), t3]) (by dsimp only; rw [upd_eq, nI_0]) hxm
  have hsc : ∀ k, k ≠ 3 → k ≠ 4 → sc k = mv.1 k := fun k h3 h4 => by
    by_cases h2 : k = 2
    · rw [h2, f2, t3]
    · rw [f3 k h2 h3 h4]
      exact upd_ne h3
  unfold F_X4_perform F_X5_perform F_X0_read F_X5_fault
  dsimp only
  obtain ⟨R, hR⟩ : ∃ R, K_X0_read_17 61 (upd (upd (upd xv.2.2.2.2.2.2.1 1 0) 2 (-1)) 3 (-1), xv.2.2.2.2.2.2.2.1, xv.2.2.2.2.2.2.2.2.1, xv.2.2.2.2.2.2.2.2.2) 0 = R := ⟨_, rfl⟩
  obtain ⟨M, hM⟩ : ∃ M, K_X5_fault_7 62 (upd mv.1 3 0, mv.2.1, mv.2.2.1, mv.2.2.2.1, mv.2.2.2.2.1, mv.2.2.2.2.2.1, mv.2.2.2.2.2.2) 1 = M := ⟨_, rfl⟩
  rw [hR] at f4 f5
  rw [hM] at f1 f5
  rw [hR, hM]
  have h0 : R.2.1 0 = xv.2.2.2.2.2.2.1 0 := f4.1.trans t2.symm
  rcases f5 with ⟨p, p1, p2, p3⟩ | ⟨L, p1, p2, p3, p4, p5, p6, p7⟩
  · rw [p3, if_neg (m1_ne (by omega)), p2, if_neg (m5_ne (by omega)), f1]
    exact ⟨rfl, RX_mono (by omega) (Nat.le_refl _) (RX_sc H H.1.2.1 h0 f4.2 hsc _ _)⟩
  · rw [p2, if_pos rfl, p1, if_pos rfl, f1]
    have hsc3 : ∀ k, k ≠ 3 → k ≠ 4 → upd sc 3 0 k = mv.1 k := fun k h3 h4 => by rw [upd_ne h3, hsc k h3 h4]
    have HX := RX_sc H (sB_of (RX_S H)) h0 f4.2 hsc3 mv.2.1 mv.2.2.2.1
    obtain ⟨i1, i2⟩ := perfK t1 L 0 0 62 61 B (xv.1, xv.2.1, xv.2.1, xv.2.2.2.1, xv.2.2.2.2.1, xv.2.2.2.2.2.1, R.2) (upd sc 3 0, mv.2.1, mv.2.1, mv.2.2.2.1, mv.2.2.2.2.1, mv.2.2.2.2.2.1, mv.2.2.2.2.2.2) p7 p6 p4 p3 (by omega) (by omega) (by dsimp only; rw [upd_ne (by omega), f2]) (by dsimp only; rw [upd_eq, nI_0]) (by omega) hxm (by omega) HX (show RS xv.2.1 mv.2.1 B O from H.2.1) (Nat.le_refl _)
    exact ⟨i1, RX_mono (by omega) (Nat.le_refl _) i2⟩
