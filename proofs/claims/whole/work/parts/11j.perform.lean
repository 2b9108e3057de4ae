/-! Reading and doing a whole text, side by side -/
def Arr (ks vs : Nat → Int32) : Nat → List (Nat × Nat) → Prop
  | _, [] => True
  | m, e :: L => ks m = nI e.1 ∧ (¬ e.1 = 7 → vs m = nI e.2) ∧ Arr ks vs (m + 1) L
def Par (x : Nat → Nat) (n : Nat) : Nat → List (Nat × Nat) → Prop
  | _, [] => False
  | s, e :: L => ∃ s' : Nat, cmd x n s = (1, e.1, e.2, s') ∧ s < s' ∧ s' ≤ n ∧ valid e.1 e.2 ∧ ((s' = n ∧ L = []) ∨ (s' < n ∧ x s' = 44 ∧ Par x n (s' + 1) L))
theorem fault_s (f : Nat) (u : MV) (e : Int32) : K_X5_fault_7 (f + 1) u e = (if e = 0 then (if (u.1 3) = (u.1 2) then ((-5), u) else ((u.1 3), u)) else (let z_13 := F_X5_command u 0
  (if z_13.1 = (-2) then ((z_13.2.1 3), z_13.2) else (let z_29 := F_X5_takes (q3 (z_13.2.1 2) (z_13.2.1 3) (z_13.2.1 4), z_13.2.2.2.2.2.2.2) 44
  K_X5_fault_7 f (upd (upd (upd z_13.2.1 2 (z_29.2.1 0)) 3 (z_29.2.1 1)) 4 (z_29.2.1 2), z_13.2.2.1, z_13.2.2.2.1, z_13.2.2.2.2.1, z_13.2.2.2.2.2.1, z_13.2.2.2.2.2.2.1, z_29.2.2) z_29.1)))) := rfl
theorem scOk_tr {n s s' : Nat} {f g h : Nat → Int32} (h1 : scOk n s f g) (h2 : scOk n s' g h) : scOk n s' f h := ⟨h2.1, h2.2.1, fun k g2 g3 g4 => (h2.2.2 k g2 g3 g4).trans (h1.2.2 k g2 g3 g4)⟩
def same17 (u u' : TV) (n : Nat) : Prop := u'.1 0 = nI n ∧ u'.2.1 = u.2.1
theorem faultK {x : Nat → Nat} {n : Nat} (hn : n ≤ 60) : ∀ (F s f m : Nat) (u : TV) (mv : MV), 62 ≤ F + s → f + s = 61 → s ≤ n → m ≤ s → TCs u n m (-1) (-1) → TXr u.2.1 x n → mv.1 2 = nI n → mv.1 3 = nI s → TXr mv.2.2.2.2.2.2 x n → ∃ sc : Nat → Int32, (K_X5_fault_7 F mv 1).2 = mk mv sc mv.2.1 ∧ sc 2 = nI n ∧ (∀ k, k ≠ 2 → k ≠ 3 → k ≠ 4 → sc k = mv.1 k) ∧ same17 u (K_X0_read_17 f u s).2 n ∧ ((∃ p : Nat, p ≤ 60 ∧ (K_X5_fault_7 F mv 1).1 = nI p ∧ (K_X0_read_17 f u s).1 = nI p) ∨ (∃ L : List (Nat × Nat), (K_X5_fault_7 F mv 1).1 = -5 ∧ (K_X0_read_17 f u s).1 = -1 ∧ m + L.length ≤ 60 ∧ (K_X0_read_17 f u s).2.1 1 = nI (m + L.length) ∧ (∀ i, i < m → (K_X0_read_17 f u s).2.2.2.1 i = u.2.2.1 i ∧ (K_X0_read_17 f u s).2.2.2.2 i = u.2.2.2 i) ∧ Arr (K_X0_read_17 f u s).2.2.2.1 (K_X0_read_17 f u s).2.2.2.2 m L ∧ Par x n s L)) := by
  intro F
  induction F with
  | zero => intro s f m u mv h1 h2; omega
  | succ F ih =>
    intro s f m u mv h1 h2 h3 h4 hT hxu e2 e3 hxm
    have n10 : ¬ (1 : Int32) = 0 := by decide
    obtain ⟨r1, r2⟩ := cmdX h2 h3 hn h4 hT hxu
    obtain ⟨sc, g1, g2⟩ := cmdM hn h3 e2 e3 hxm 0
    rw [fault_s, if_neg n10, g1]
    obtain ⟨r, hr⟩ : ∃ r, cmd x n s = r := ⟨_, rfl⟩
    rw [hr] at r1 r2 g2
    rw [hr]
    by_cases c0 : r.1 = 0
    · obtain ⟨b1, u', b2, b3, b4⟩ := r1 c0
      have eo : outM r 0 mv sc = (-2, mk mv sc mv.2.1) := by
        unfold outM
        rw [if_pos c0]
      rw [eo, b2]
      dsimp only
      rw [if_pos rfl]
      exact ⟨sc, rfl, g2.1, g2.2.2, ⟨b3, b4⟩, Or.inl ⟨r.2.2.2, by omega, g2.2.1, rfl⟩⟩
    · obtain ⟨b1, b2, b3, b4, u', w, b5, b6, b7, b8, b9, b10, b11, b12⟩ := r2 c0
      have eo : outM r 0 mv sc = (0, mk mv sc mv.2.1) := by
        unfold outM
        rw [if_neg c0, if_pos rfl]
      rw [eo, b12]
      unfold behind
      dsimp only
      rw [if_neg (show ¬ (0 : Int32) = -2 from by decide)]
      have hq0 : (mk mv sc mv.2.1).1 2 = nI n := g2.1
      have hq1 : (mk mv sc mv.2.1).1 3 = nI r.2.2.2 := g2.2.1
      obtain ⟨F0, rfl⟩ : ∃ y, F = y + 1 := ⟨F - 1, by omega⟩
      by_cases c1 : r.2.2.2 < n ∧ x r.2.2.2 = 44
      · have et := takes_yes (q := (q3 (sc 2) (sc 3) (sc 4), mv.2.2.2.2.2.2)) (x := x) hn c1.1 g2.1 g2.2.1 hxm c1.2
        rw [if_neg (by omega), if_pos c1.2]
        have e0 : upd (q3 (sc 2) (sc 3) (sc 4)) 1 (nI (r.2.2.2 + 1)) 0 = nI n := (upd_ne (by omega)).trans g2.1
        have e1 : upd (q3 (sc 2) (sc 3) (sc 4)) 1 (nI (r.2.2.2 + 1)) 1 = nI (r.2.2.2 + 1) := upd_eq
        have hsu := sc_upd (f := sc) (qs := upd (q3 (sc 2) (sc 3) (sc 4)) 1 (nI (r.2.2.2 + 1))) e0 e1
        obtain ⟨sc2, i1, i2, i3, i4, i5⟩ := ih (r.2.2.2 + 1) (60 - r.2.2.2) (m + 1) u' (mk mv (upd (upd (upd sc 2 (upd (q3 (sc 2) (sc 3) (sc 4)) 1 (nI (r.2.2.2 + 1)) 0)) 3 (upd (q3 (sc 2) (sc 3) (sc 4)) 1 (nI (r.2.2.2 + 1)) 1)) 4 (upd (q3 (sc 2) (sc 3) (sc 4)) 1 (nI (r.2.2.2 + 1)) 2)) mv.2.1) (by omega) (by omega) (by omega) (by omega) b5 (by rw [b6]; exact hxu) hsu.1 hsu.2.1 hxm
        have eF : K_X5_fault_7 (F0 + 1) (upd (upd (upd (mk mv sc mv.2.1).1 2 ((F_X5_takes (q3 ((mk mv sc mv.2.1).1 2) ((mk mv sc mv.2.1).1 3) ((mk mv sc mv.2.1).1 4), (mk mv sc mv.2.1).2.2.2.2.2.2) 44).2.1 0)) 3 ((F_X5_takes (q3 ((mk mv sc mv.2.1).1 2) ((mk mv sc mv.2.1).1 3) ((mk mv sc mv.2.1).1 4), (mk mv sc mv.2.1).2.2.2.2.2.2) 44).2.1 1)) 4 ((F_X5_takes (q3 ((mk mv sc mv.2.1).1 2) ((mk mv sc mv.2.1).1 3) ((mk mv sc mv.2.1).1 4), (mk mv sc mv.2.1).2.2.2.2.2.2) 44).2.1 2), (mk mv sc mv.2.1).2.1, (mk mv sc mv.2.1).2.2.1, (mk mv sc mv.2.1).2.2.2.1, (mk mv sc mv.2.1).2.2.2.2.1, (mk mv sc mv.2.1).2.2.2.2.2.1, (F_X5_takes (q3 ((mk mv sc mv.2.1).1 2) ((mk mv sc mv.2.1).1 3) ((mk mv sc mv.2.1).1 4), (mk mv sc mv.2.1).2.2.2.2.2.2) 44).2.2) (F_X5_takes (q3 ((mk mv sc mv.2.1).1 2) ((mk mv sc mv.2.1).1 3) ((mk mv sc mv.2.1).1 4), (mk mv sc mv.2.1).2.2.2.2.2.2) 44).1 = K_X5_fault_7 (F0 + 1) (mk mv (upd (upd (upd sc 2 (upd (q3 (sc 2) (sc 3) (sc 4)) 1 (nI (r.2.2.2 + 1)) 0)) 3 (upd (q3 (sc 2) (sc 3) (sc 4)) 1 (nI (r.2.2.2 + 1)) 1)) 4 (upd (q3 (sc 2) (sc 3) (sc 4)) 1 (nI (r.2.2.2 + 1)) 2)) mv.2.1) 1 := by
          rw [show F_X5_takes (q3 ((mk mv sc mv.2.1).1 2) ((mk mv sc mv.2.1).1 3) ((mk mv sc mv.2.1).1 4), (mk mv sc mv.2.1).2.2.2.2.2.2) 44 = (1, (upd (q3 (sc 2) (sc 3) (sc 4)) 1 (nI (r.2.2.2 + 1)), mv.2.2.2.2.2.2)) from et]
          rfl
        rw [eF]
        refine ⟨sc2, i1, i2, fun k k2 k3 k4 => (i3 k k2 k3 k4).trans ((hsu.2.2 k k2 k3 k4).trans (g2.2.2 k k2 k3 k4)), ⟨i4.1, i4.2.trans b6⟩, ?_⟩
        rcases i5 with h | ⟨L, j1, j2, j3, j4, j5, j6, j7⟩
        · exact Or.inl h
        · refine Or.inr ⟨(r.2.1, r.2.2.1) :: L, j1, j2, ?_, ?_, fun i hi => ?_, ⟨?_, fun z => ?_, j6⟩, r.2.2.2, ?_, b2, b3, b4, Or.inr ⟨c1.1, c1.2, j7⟩⟩
          · rw [List.length_cons]
            omega
          · rw [List.length_cons, j4]
            exact congrArg nI (by omega)
          · rw [(j5 i (by omega)).1, (j5 i (by omega)).2]
            exact b7 i hi
          · rw [(j5 m (by omega)).1]
            exact b8
          · rw [(j5 m (by omega)).2]
            exact b9 z
          · rw [hr, ← b1]
      · have et := takes_no (q := (q3 (sc 2) (sc 3) (sc 4), mv.2.2.2.2.2.2)) (x := x) (c := 44) hn b3 g2.1 g2.2.1 hxm (by omega) c1
        have hso := sc_same (f := sc) g2.2.1
        have eF : K_X5_fault_7 (F0 + 1) (upd (upd (upd (mk mv sc mv.2.1).1 2 ((F_X5_takes (q3 ((mk mv sc mv.2.1).1 2) ((mk mv sc mv.2.1).1 3) ((mk mv sc mv.2.1).1 4), (mk mv sc mv.2.1).2.2.2.2.2.2) 44).2.1 0)) 3 ((F_X5_takes (q3 ((mk mv sc mv.2.1).1 2) ((mk mv sc mv.2.1).1 3) ((mk mv sc mv.2.1).1 4), (mk mv sc mv.2.1).2.2.2.2.2.2) 44).2.1 1)) 4 ((F_X5_takes (q3 ((mk mv sc mv.2.1).1 2) ((mk mv sc mv.2.1).1 3) ((mk mv sc mv.2.1).1 4), (mk mv sc mv.2.1).2.2.2.2.2.2) 44).2.1 2), (mk mv sc mv.2.1).2.1, (mk mv sc mv.2.1).2.2.1, (mk mv sc mv.2.1).2.2.2.1, (mk mv sc mv.2.1).2.2.2.2.1, (mk mv sc mv.2.1).2.2.2.2.2.1, (F_X5_takes (q3 ((mk mv sc mv.2.1).1 2) ((mk mv sc mv.2.1).1 3) ((mk mv sc mv.2.1).1 4), (mk mv sc mv.2.1).2.2.2.2.2.2) 44).2.2) (F_X5_takes (q3 ((mk mv sc mv.2.1).1 2) ((mk mv sc mv.2.1).1 3) ((mk mv sc mv.2.1).1 4), (mk mv sc mv.2.1).2.2.2.2.2.2) 44).1 = (if nI r.2.2.2 = nI n then ((-5), mk mv sc mv.2.1) else (nI r.2.2.2, mk mv sc mv.2.1)) := by
          rw [show F_X5_takes (q3 ((mk mv sc mv.2.1).1 2) ((mk mv sc mv.2.1).1 3) ((mk mv sc mv.2.1).1 4), (mk mv sc mv.2.1).2.2.2.2.2.2) 44 = (0, (upd (q3 (sc 2) (sc 3) (sc 4)) 1 (nI r.2.2.2), mv.2.2.2.2.2.2)) from et]
          dsimp only
          rw [show upd (upd (upd (mk mv sc mv.2.1).1 2 (upd (q3 (sc 2) (sc 3) (sc 4)) 1 (nI r.2.2.2) 0)) 3 (upd (q3 (sc 2) (sc 3) (sc 4)) 1 (nI r.2.2.2) 1)) 4 (upd (q3 (sc 2) (sc 3) (sc 4)) 1 (nI r.2.2.2) 2) = sc from hso, fault_s, if_pos rfl]
          by_cases cz : nI r.2.2.2 = nI n
          · rw [if_pos cz, if_pos (show sc 3 = sc 2 from g2.2.1.trans (cz.trans g2.1.symm))]
            rfl
          · rw [if_neg cz, if_neg (show ¬ sc 3 = sc 2 from fun z => cz (g2.2.1.symm.trans (z.trans g2.1)))]
            exact congrArg (fun z => (z, mk mv sc mv.2.1)) g2.2.1
        rw [eF]
        by_cases cn : r.2.2.2 = n
        · rw [if_pos cn, if_pos (by rw [cn])]
          refine ⟨sc, rfl, g2.1, g2.2.2, ⟨b5.1, b6⟩, Or.inr ⟨[(r.2.1, r.2.2.1)], rfl, rfl, ?_, b5.2.1, b7, ⟨b8, b9, trivial⟩, r.2.2.2, ?_, b2, b3, b4, Or.inl ⟨cn, rfl⟩⟩⟩
          · show m + 1 ≤ 60
            omega
          · rw [hr, ← b1]
        · have cn2 : ¬ nI r.2.2.2 = nI n := fun z => cn ((nI_eq (by omega) (by omega)).mp z)
          rw [if_neg cn, if_neg (fun z => c1 ⟨by omega, z⟩), if_neg cn2]
          exact ⟨sc, rfl, g2.1, g2.2.2, ⟨b10, b11⟩, Or.inl ⟨r.2.2.2, by omega, rfl, rfl⟩⟩
/-- a command that is done -/
theorem in_of {p : Int32} {lo hi : Int64} {a b : Int} (h1 : lo.toInt = a) (h2 : hi.toInt = b) (h : a ≤ p.toInt ∧ p.toInt ≤ b) : ¬ F_X5_in (Int32.toInt64 p) lo hi = 0 := by
  rw [in_val h1 h2, if_pos h]
  decide
theorem val_num {k v : Nat} (hk : k < 5) (h1 : loN k ≤ v) (h2 : v ≤ hiN k) : ¬ F_X5_isNumber (nI k) (nI v) = 0 := by
  have hh := hiN_le (k := k)
  rw [← rngN hk, rng_val (k := k) (a := (loN k : Int)) (b := (hiN k : Int)) (by omega) (by rw [← low_k (by omega), lowN (by omega), nI_toInt (by have := loN_le (k := k); omega)]) (by rw [← high_k (by omega), highN (by omega), nI_toInt (by omega)]), nI_toInt (by omega), if_pos ⟨by omega, by omega⟩]
  decide
theorem obey_sim {u : SV} {a : Nat → Int32} {B O k v : Nat} {w : Int32} (hB : B < 2 ^ 20) (H : RS u a B O) (hv : valid k v) (hw : ¬ k = 7 → w = nI v) : (F_X2_obey u (nI k) w).1 = (doA k v a).1 ∧ ((doA k v a).1 = -4 ∨ (doA k v a).1 = -5 ∨ ∃ m : Nat, m < 2 ^ 31 ∧ (doA k v a).1 = nI m) ∧ RS (F_X2_obey u (nI k) w).2 (doA k v a).2 (B + 1) O := by
  have i5 : (nI k = 5) ↔ k = 5 := by
    rcases hv with h | h
    · exact nI_eq (b := 5) (by omega) (by omega)
    · exact nI_eq (b := 5) (by omega) (by omega)
  have i6 : (nI k = 6) ↔ k = 6 := by
    rcases hv with h | h
    · exact nI_eq (b := 6) (by omega) (by omega)
    · exact nI_eq (b := 6) (by omega) (by omega)
  have i7 : (nI k = 7) ↔ k = 7 := by
    rcases hv with h | h
    · exact nI_eq (b := 7) (by omega) (by omega)
    · exact nI_eq (b := 7) (by omega) (by omega)
  unfold F_X2_obey doA
  dsimp only
  rcases hv with h7 | ⟨h7, h1, h2⟩
  · rw [if_neg (fun z => by have := i5.mp z; omega), if_neg (fun z => by have := i6.mp z; omega), if_pos (i7.mpr h7), if_pos h7]
    obtain ⟨g1, g2, g3⟩ := knot_sim hB H
    exact ⟨g1, g2.imp (fun z => z.1) (fun z => z.imp (fun z => z.1) id), g3⟩
  · have hh := hiN_le (k := k)
    rw [hw (by omega), if_neg (show ¬ k = 7 from by omega)]
    by_cases c5 : k = 5
    · subst c5
      have h1' : 1 ≤ v := h1
      have h2' : v ≤ 500 := h2
      rw [if_pos (i5.mpr rfl), if_pos rfl]
      obtain ⟨g1, g2, g3⟩ := wind_sim (p1 := nI v) H (in_of (a := 1) (b := 500) (by decide) (by decide) (by rw [nI_toInt (by omega)]; omega))
      exact ⟨g1, Or.inr (g2.imp (fun z => z.1) id), g3⟩
    · rw [if_neg (fun z => c5 (i5.mp z)), if_neg c5]
      by_cases c6 : k = 6
      · subst c6
        have h1' : 1 ≤ v := h1
        have h2' : v ≤ 9999 := h2
        rw [if_pos (i6.mpr rfl), if_pos rfl]
        obtain ⟨g1, g2, g3⟩ := cone_sim (p := nI v) H (in_of (a := 1) (b := 9999) (by decide) (by decide) (by rw [nI_toInt (by omega)]; omega))
        exact ⟨g1, Or.inr (Or.inr g2), RS_mono (by omega) (Nat.le_refl _) g3⟩
      · rw [if_neg (fun z => c6 (i6.mp z)), if_neg c6, if_neg (fun z => by have := i7.mp z; omega)]
        obtain ⟨g1, g2, g3⟩ := set_sim (p := nI v) H (show k < 5 from by omega) (val_num (by omega) h1 h2)
        exact ⟨g1, Or.inr (g2.imp (fun z => z.1) id), RS_mono (by omega) (Nat.le_refl _) g3⟩
