/-! The step that winds: at once, and turn by turn -/
theorem Int32_back (a b : Int32) : a + (b - a) = b := by
  rw [Int32.add_comm]
  exact Int32.sub_add_cancel b a
theorem TO_well {B : Nat} {u : SV} (H : Well B u) (n : Nat) : Well B (TO n u) := by
  obtain ⟨h, k, w, c, m, hU⟩ := id H
  exact (TO_many H hU.2.2.2.1.1 hU.2.2.2.1.2 n).1
theorem TO_1 (u : SV) : TO 1 u = if F_X2_isIdle u = 0 then F_X2_turnOnce u else u := rfl
/-- one turn more of the second winder -/
theorem one_more {B : Nat} {u v : SV} {yv : XV} (hv : Well B v) (hy : xWF yv) (e : yv.2.1 = v) : xWF (F_X4_wind yv 1).2 ∧ ¬ 1 < (F_X4_wind yv 1).1 ∧ ¬ (F_X4_wind yv 1).1 = -2 ∧ (F_X4_wind yv 1).2.2.1 = (if F_X2_isIdle v = 0 then F_X2_turnOnce v else v) ∧ (((F_X4_wind yv 1).1 = 1 ∧ v.2.1.1 0 - u.2.1.1 0 + 1 = (if F_X2_isIdle v = 0 then F_X2_turnOnce v else v).2.1.1 0 - u.2.1.1 0) ∨ (¬ (F_X4_wind yv 1).1 = 1 ∧ v.2.1.1 0 - u.2.1.1 0 + 0 = (if F_X2_isIdle v = 0 then F_X2_turnOnce v else v).2.1.1 0 - u.2.1.1 0)) := by
  obtain ⟨a, b⟩ := wind_x yv 1
  have w := often_w (m := 1) (by omega) (by omega) v
  have w : F_X2_turnOften v 1 = if F_X2_isIdle v = 0 then ((TO 1 v).2.1.1 0 - v.2.1.1 0, TO 1 v) else (-5, v) := w
  rw [e, w] at a b
  refine ⟨xWF_wind hy, ?_⟩
  generalize F_X4_wind yv 1 = z at a b ⊢
  by_cases hi : F_X2_isIdle v = 0
  · rw [if_pos hi, TO_1, if_pos hi] at a b
    rw [if_pos hi]
    obtain ⟨h, k, w', c, m, hU⟩ := id hv
    obtain ⟨-, -, -, t⟩ := turn_w hU hi
    rcases t with ⟨t, -⟩ | ⟨t, -⟩
    · have a : z.1 = nI 0 := by
        rw [a]
        show _ - _ = _
        rw [t, Int32.sub_self]
        rfl
      rw [a, t]
      rw [t, Int32.sub_self] at b
      rw [show nx ((0 : Int32), F_X2_turnOnce v) v = F_X2_turnOnce v from nx_pos (a := 0) (by omega)] at b
      exact ⟨by decide, by decide, b, Or.inr ⟨by decide, by rw [Int32.add_zero]⟩⟩
    · have e1 : v.2.1.1 0 + 1 - v.2.1.1 0 = 1 := by
        rw [Int32.add_comm, Int32.add_sub_cancel]
      have a : z.1 = nI 1 := by
        rw [a]
        show _ - _ = _
        rw [t, e1]
        rfl
      rw [a, t]
      rw [t, e1] at b
      rw [show nx ((1 : Int32), F_X2_turnOnce v) v = F_X2_turnOnce v from nx_pos (a := 1) (by omega)] at b
      refine ⟨by decide, by decide, b, Or.inl ⟨rfl, ?_⟩⟩
      rw [Int32.sub_eq_add_neg, Int32.sub_eq_add_neg, Int32.add_assoc, Int32.add_assoc, Int32.add_comm (-_) 1]
  · rw [if_neg hi] at a b
    rw [if_neg hi]
    have a : z.1 = -5 := a
    rw [nx_neg neg5] at b
    rw [a]
    exact ⟨by decide, by decide, b, Or.inr ⟨by decide, Int32.add_zero _⟩⟩
/-- a strength set and taken back -/
theorem strength_back {B : Nat} {yv : XV} (hw : Well B yv.2.1) : (F_X4_set yv 4 (if F_X4_count yv 24 = 99 then 98 else 99)).1 = F_X4_count yv 24 ∧ ¬ (F_X4_set (F_X4_set yv 4 (if F_X4_count yv 24 = 99 then 98 else 99)).2 4 (F_X4_count yv 24)).1 < 98 ∧ (F_X4_set (F_X4_set yv 4 (if F_X4_count yv 24 = 99 then 98 else 99)).2 4 (F_X4_count yv 24)).2.2.1 = yv.2.1 := by
  obtain ⟨h, k, w, c, m, hU⟩ := id hw
  obtain ⟨s, hs1, hs2, es⟩ := hU.2.2.1 4 (by omega)
  have hs1 : 10 ≤ s := hs1
  have hs2 : s ≤ 99 := hs2
  rw [cnt_24, es]
  obtain ⟨x, hx1, hx2, hx3, ex⟩ : ∃ x : Nat, 98 ≤ x ∧ x ≤ 99 ∧ x ≠ s ∧ (if nI s = 99 then (98 : Int32) else 99) = nI x := by
    have e9 : (nI s = 99) ↔ s = 99 := nI_eq (b := 99) (by omega) (by omega)
    by_cases q : s = 99
    · exact ⟨98, by omega, by omega, by omega, by rw [if_pos (e9.mpr q)]; rfl⟩
    · exact ⟨99, by omega, by omega, by omega, by rw [if_neg (fun z => q (e9.mp z))]; rfl⟩
  rw [ex]
  have exs : ¬ nI s = nI x := fun z => hx3 ((nI_eq (by omega) (by omega)).mp z).symm
  obtain ⟨a1, b1⟩ := set_x yv 4 (nI x)
  have e1 := set_w (u := yv.2.1) (i := 4) (x := x) (by omega) (show 10 ≤ x by omega) (show x ≤ 99 by omega)
  have e1 : F_X2_changeNumber yv.2.1 4 (nI x) = if yv.2.1.2.2.2 4 = nI x then (-5, yv.2.1) else (yv.2.1.2.2.2 4, (yv.2.1.1, yv.2.1.2.1, yv.2.1.2.2.1, upd yv.2.1.2.2.2 4 (nI x))) := e1
  rw [es, if_neg exs] at e1
  rw [e1] at a1 b1
  rw [nx_pos (by omega)] at b1
  generalize F_X4_set yv 4 (nI x) = z1 at a1 b1 ⊢
  obtain ⟨a2, b2⟩ := set_x z1.2 4 (nI s)
  have e2 := set_w (u := z1.2.2.1) (i := 4) (x := s) (by omega) (show 10 ≤ s by omega) (show s ≤ 99 by omega)
  have e2 : F_X2_changeNumber z1.2.2.1 4 (nI s) = if z1.2.2.1.2.2.2 4 = nI s then (-5, z1.2.2.1) else (z1.2.2.1.2.2.2 4, (z1.2.2.1.1, z1.2.2.1.2.1, z1.2.2.1.2.2.1, upd z1.2.2.1.2.2.2 4 (nI s))) := e2
  rw [b1] at e2
  dsimp only at e2
  rw [if_neg (fun z => exs (z.symm.trans (upd_eq (f := yv.2.1.2.2.2)))), upd_eq (f := yv.2.1.2.2.2) (i := 4) (x := nI x)] at e2
  have b1' : z1.2.2.1 = (yv.2.1.1, yv.2.1.2.1, yv.2.1.2.2.1, upd yv.2.1.2.2.2 4 (nI x)) := b1
  rw [b1', e2] at a2 b2
  rw [nx_pos (by omega)] at b2
  refine ⟨a1, ?_, ?_⟩
  · rw [show (F_X4_set z1.2 4 (nI s)).1 = nI x from a2]
    exact nI_nlt (a := x) (b := 98) hx1 (by omega)
  · rw [b2]
    have ef : upd (upd yv.2.1.2.2.2 4 (nI x)) 4 (nI s) = yv.2.1.2.2.2 := by
      funext j
      by_cases q : j = 4
      · rw [q, upd_eq, es]
      · rw [upd_ne q, upd_ne q]
    rw [ef]
set_option maxHeartbeats 8000000 in
theorem loop_w {u : SV} {B m : Nat} (hm : m ≤ 70) (hu : Well B u) (xv : XV) (p1 wr co tu il to : Int32) : ∀ (n j : Nat) (yv : XV), j + n = 72 → j ≤ m → xWF yv → yv.2.1 = TO j u → ∃ yv' : XV, xWF yv' ∧ yv'.2.1 = TO m u ∧ K_L_isStep_188 n xv yv p1 wr co tu (nI m) il to ((TO j u).2.1.1 0 - u.2.1.1 0) 1 j = K_L_isStep_313 xv yv' p1 wr co tu il to ((TO m u).2.1.1 0 - u.2.1.1 0) 1 := by
  intro n
  induction n with
  | zero => intro j yv h1 h2; omega
  | succ n ih =>
    intro j yv h1 h2 hy e
    unfold K_L_isStep_188
    dsimp only
    have c9 : (nI m ≤ nI j) ↔ m ≤ j := nI_leI (by omega) (by omega)
    by_cases c : m ≤ j
    · have : j = m := by omega
      subst this
      rw [if_pos (c9.mpr (Nat.le_refl _))]
      exact ⟨yv, hy, e, rfl⟩
    · rw [if_neg (fun z => c (c9.mp z)), if_neg (show ¬ (1 : Int32) = 0 from by decide)]
      have hj := TO_well hu j
      have es := (TO_succ j u).symm
      have key : ∀ yw : XV, xWF yw → yw.2.1 = TO j u → ∃ yv' : XV, xWF yv' ∧ yv'.2.1 = TO m u ∧ (if 1 < (F_X4_wind yw 1).1 then (if (F_X4_wind yw 1).1 = 1 then K_L_isStep_188 n xv (F_X4_wind yw 1).2 p1 wr co tu (nI m) il to ((TO j u).2.1.1 0 - u.2.1.1 0 + 1) 0 (j + 1) else K_L_isStep_188 n xv (F_X4_wind yw 1).2 p1 wr co tu (nI m) il to ((TO j u).2.1.1 0 - u.2.1.1 0 + 0) 0 (j + 1)) else (if (F_X4_wind yw 1).1 = (-2) then (if (F_X4_wind yw 1).1 = 1 then K_L_isStep_188 n xv (F_X4_wind yw 1).2 p1 wr co tu (nI m) il to ((TO j u).2.1.1 0 - u.2.1.1 0 + 1) 0 (j + 1) else K_L_isStep_188 n xv (F_X4_wind yw 1).2 p1 wr co tu (nI m) il to ((TO j u).2.1.1 0 - u.2.1.1 0 + 0) 0 (j + 1)) else (if (F_X4_wind yw 1).1 = 1 then K_L_isStep_188 n xv (F_X4_wind yw 1).2 p1 wr co tu (nI m) il to ((TO j u).2.1.1 0 - u.2.1.1 0 + 1) 1 (j + 1) else K_L_isStep_188 n xv (F_X4_wind yw 1).2 p1 wr co tu (nI m) il to ((TO j u).2.1.1 0 - u.2.1.1 0 + 0) 1 (j + 1)))) = K_L_isStep_313 xv yv' p1 wr co tu il to ((TO m u).2.1.1 0 - u.2.1.1 0) 1 := by
        intro yw hyw ew
        obtain ⟨q1, q2, q3, q4, q5⟩ := one_more (u := u) hj hyw ew
        rw [es] at q4 q5
        rw [if_neg q2, if_neg q3]
        rcases q5 with ⟨q5, q6⟩ | ⟨q5, q6⟩
        · rw [if_pos q5, q6]
          exact ih (j + 1) _ (by omega) (by omega) q1 q4
        · rw [if_neg q5, q6]
          exact ih (j + 1) _ (by omega) (by omega) q1 q4
      by_cases c5 : (nI j - nI j / 5 * 5) = 2
      · rw [if_pos c5]
        obtain ⟨s1, s2, s3⟩ := strength_back (B := B) (yv := yv) (by rw [e]; exact hj)
        rw [if_pos s1, if_neg s2]
        exact key _ (xWF_set (xWF_set hy)) (s3.trans e)
      · rw [if_neg c5]
        exact key yv hy e
set_option maxHeartbeats 4000000 in
theorem step_wind {B : Nat} {xv yv : XV} (H : Inv B xv yv) (p1 y : Int32) : Fine (B + 1) (K_L_isStep_108 xv yv p1 y (F_X4_count xv 0) (F_X4_count xv 1) (F_X4_count xv 12) (F_X4_count xv 13)) := by
  obtain ⟨hx, hy, he, hw⟩ := H
  unfold K_L_isStep_108
  dsimp only
  obtain ⟨m, hm1, hm7, em⟩ : ∃ m : Nat, 1 ≤ m ∧ m ≤ 70 ∧ 1 + F_L_up y (if F_L_up (y >>> ((6 : Int32) &&& 31)) 3 = 0 then 70 else 15) = nI m := by
    have key : ∀ n : Nat, 0 < n → n ≤ 70 → ∃ x : Nat, 1 ≤ x ∧ x ≤ 70 ∧ 1 + F_L_up y (nI n) = nI x := fun n h0 hn => by
      obtain ⟨a, ha, e⟩ := up_nat y h0 (by omega)
      exact ⟨1 + a, by omega, by omega, by rw [e]; exact nI_add 1 a⟩
    split
    · exact key 70 (by omega) (by omega)
    · exact key 15 (by omega) (by omega)
  rw [em]
  unfold K_L_isStep_134
  dsimp only
  obtain ⟨ax, bx⟩ := wind_x xv (nI m)
  have wx := xWF_wind hx (a := nI m)
  generalize F_X4_wind xv (nI m) = zx at ax bx wx ⊢
  have w := often_w hm1 (show m ≤ 500 by omega) xv.2.1
  rw [w] at ax bx
  obtain ⟨h, k, w', c, mm, hU⟩ := id hw
  have hc := hU.2.2.2.1.1
  have hc9 := hU.2.2.2.1.2
  have hsum := hU.1.1.sum (n := 12) (by omega)
  have e0 : xv.2.1.2.1.1 0 = nI (sumN h 12) := hU.1.2.1
  obtain ⟨hwm, t, l, ⟨a1, a2, a3, ⟨c1, a4, a5⟩, a6, a7, a8, a9⟩, a10⟩ := TO_many hw hc hc9 m
  have z0 : (TO 0 xv.2.1).2.1.1 0 - xv.2.1.2.1.1 0 = 0 := Int32.sub_self _
  obtain ⟨yv', wy, ey, eL⟩ := loop_w hm7 hw zx.2 p1 (F_X4_count xv 0) (F_X4_count xv 1) (F_X4_count xv 12) (if F_X4_count xv 6 = 1 then 1 else if F_X4_count xv 7 = 1 then 1 else if F_X4_count xv 8 = 1 then 1 else 0) zx.1 72 0 yv (by omega) (by omega) hy he.symm
  rw [z0] at eL
  rw [eL]
  unfold K_L_isStep_313
  rw [if_neg (show ¬ (1 : Int32) = 0 from by decide)]
  have hid : (if F_X4_count xv 6 = 1 then (1 : Int32) else if F_X4_count xv 7 = 1 then 1 else if F_X4_count xv 8 = 1 then 1 else 0) = F_X2_isIdle xv.2.1 := by
    rw [cnt_6, cnt_7, cnt_8]
    unfold F_X2_isIdle
    by_cases q1 : xv.2.1.1 2 = 0
    · rw [if_neg (fun z => one_eq.mp z q1), if_pos q1]
      by_cases q2 : F_X2_isConeEmpty xv.2.1 = 0
      · rw [if_neg (fun z => one_eq.mp z q2), if_pos q2]
        by_cases q3 : F_X3_isFull xv.2.1.2.1 = 0
        · rw [if_neg (fun z => one_eq.mp z q3), if_pos q3]
        · rw [if_pos (one_eq.mpr q3), if_neg q3]
      · rw [if_pos (one_eq.mpr q2), if_neg q2]
    · rw [if_pos (one_eq.mpr q1), if_neg q1]
  rw [hid]
  have e3 : (TO m xv.2.1).2.1.1 0 - xv.2.1.2.1.1 0 = nI l := by
    rw [a3, Int32.add_comm, Int32.add_sub_cancel]
  have e5 : (TO m xv.2.1).1 5 - xv.2.1.1 5 = nI t := by
    rw [a1, Int32.add_comm, Int32.add_sub_cancel]
  by_cases hi : F_X2_isIdle xv.2.1 = 0
  · rw [if_pos hi]
    rw [if_pos hi, e3] at ax bx
    rw [nx_pos (by omega)] at bx
    have ax : zx.1 = nI l := ax
    have ht := a10 hi (by omega)
    have r : Inv (B + 1) zx.2 yv' := ⟨wx, wy, bx.trans ey.symm, by rw [show zx.2.2.1 = _ from bx]; exact Well_mono (by omega) hwm⟩
    have f1 : ¬ nI t < nI l := nI_nlt a6 (by omega)
    have f2 : ¬ nI l + 1 < nI t := by
      rw [nI_1]
      exact nI_nlt a7 (by omega)
    have f3 : ¬ nI t < 1 := nI_nlt (a := t) (b := 1) ht (by omega)
    have f4 : xv.2.1.2.1.1 0 + nI l = (TO m xv.2.1).2.1.1 0 := a3.symm
    have f5 : ¬ (nI c - 10 * nI l) < (TO m xv.2.1).1 0 := by
      rw [a4, show (10 : Int32) * nI l = nI (10 * l) from (Int32.ofNat_mul 10 l).symm, nI_sub (by omega)]
      exact nI_nlt (by omega) (by omega)
    rw [ax, e3, if_pos rfl, cnt_12, cnt_12, cnt_0, cnt_0, cnt_1, cnt_1, bx, e5, if_neg f1, if_neg f2, if_neg f3, f4, if_pos rfl, hc, if_neg f5]
    exact ⟨rfl, r⟩
  · rw [if_neg hi]
    rw [if_neg hi] at ax bx
    rw [nx_neg neg5] at bx
    have et := TO_idle hi m
    rw [et] at ey ⊢
    have r : Inv (B + 1) zx.2 yv' := ⟨wx, wy, bx.trans ey.symm, by rw [show zx.2.2.1 = _ from bx]; exact Well_mono (by omega) hw⟩
    rw [if_pos ax, Int32.sub_self, if_pos rfl, cnt_12, cnt_12, bx, Int32.sub_self, if_pos rfl]
    exact ⟨rfl, r⟩
