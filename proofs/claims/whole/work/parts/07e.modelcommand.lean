/-- three numbers, as a row -/
def q3 (a b c : Int32) : Nat → Int32 := fun j => match j with | 0 => a | 1 => b | _ => c
theorem which5 {x : Int32} (h : ¬ F_X5_whichOf x = -5) : vp_in (F_X5_whichOf x) 5 := by
  unfold F_X5_whichOf at h ⊢
  split
  · exact vin_c (by decide)
  · rename_i h1
    rw [if_neg h1] at h
    split
    · exact vin_c (by decide)
    · rename_i h2
      rw [if_neg h2] at h
      split
      · exact vin_c (by decide)
      · rename_i h3
        rw [if_neg h3] at h
        split
        · exact vin_c (by decide)
        · rename_i h4
          rw [if_neg h4] at h
          split
          · exact vin_c (by decide)
          · rename_i h5
            rw [if_neg h5] at h
            exact absurd rfl h
theorem tWF_0 {n : Int32} (h : ∃ m : Nat, m ≤ 60 ∧ n = nI m) : tWF n 0 := by
  obtain ⟨m, hm, e⟩ := h
  exact ⟨m, 0, hm, by omega, e, rfl⟩
/-- from q to q' the place in the text goes on, and the text stays -/
def adv (q q' : QV2) : Prop := q'.2 = q.2 ∧ ∃ m s s' : Nat, m ≤ 60 ∧ s ≤ s' ∧ s' ≤ m ∧ q.1 0 = nI m ∧ q.1 1 = nI s ∧ q'.1 0 = nI m ∧ q'.1 1 = nI s'
theorem adv_rf {q : QV2} (h : tWF (q.1 0) (q.1 1)) : adv q q := by
  obtain ⟨m, s, h1, h2, h3, h4⟩ := h
  exact ⟨rfl, m, s, s, h1, Nat.le_refl _, h2, h3, h4, h3, h4⟩
theorem nI_inj {a b : Nat} (h : nI a = nI b) (ha : a ≤ 60) (hb : b ≤ 60) : a = b := (nI_eq (by omega) (by omega)).mp h
theorem adv_tr {q r t : QV2} (h1 : adv q r) (h2 : adv r t) : adv q t := by
  obtain ⟨e1, m, s, s', a1, a2, a3, a4, a5, a6, a7⟩ := h1
  obtain ⟨e2, m2, t1, t2, b1, b2, b3, b4, b5, b6, b7⟩ := h2
  have hm : m = m2 := nI_inj (a6.symm.trans b4) a1 b1
  have hs : s' = t1 := nI_inj (a7.symm.trans b5) (by omega) (by omega)
  subst hm
  subst hs
  exact ⟨e2.trans e1, m, s, t2, a1, by omega, b3, a4, a5, b6, b7⟩
theorem adv_wf {q r : QV2} (h : adv q r) : tWF (r.1 0) (r.1 1) := by
  obtain ⟨e1, m, s, s', a1, a2, a3, a4, a5, a6, a7⟩ := h
  exact ⟨m, s', a1, a3, a6, a7⟩
theorem adv_wf0 {q r : QV2} (h : adv q r) : tWF (q.1 0) (q.1 1) := by
  obtain ⟨e1, m, s, s', a1, a2, a3, a4, a5, a6, a7⟩ := h
  exact ⟨m, s, a1, by omega, a4, a5⟩
theorem adv_inc {q : QV2} (h : tWF (q.1 0) (q.1 1)) (h1 : ¬ q.1 0 ≤ q.1 1) {c : Nat → Int32} (e0 : c 0 = q.1 0) (e1 : c 1 = q.1 1 + 1) : adv q (c, q.2) := by
  obtain ⟨m, s, h2, h3, h4, h5⟩ := h
  have : s < m := Nat.lt_of_not_le (fun z => h1 (by rw [h4, h5]; exact nI_le z (by omega)))
  exact ⟨rfl, m, s, s + 1, h2, by omega, by omega, h4, h5, e0.trans h4, by show c 1 = _; rw [e1, h5, nI_1]⟩
theorem adv_takes {q : QV2} {a : Int32} (h : tWF (q.1 0) (q.1 1)) : adv q (F_X5_takes q a).2 := by
  unfold F_X5_takes
  split
  · obtain ⟨m, s, h1, h2, h3, h4⟩ := h
    exact ⟨rfl, m, s, s, h1, Nat.le_refl _, h2, h3, h4, h3, by show q.1 1 + 0 = _; rw [Int32.add_zero]; exact h4⟩
  · rename_i h1
    exact adv_inc h (here_lt h1) rfl rfl
theorem adv_rnK {p1 p2 : Int32} : ∀ (n : Nat) (q : QV2), tInv n (q.1 0) (q.1 1) → adv q (K_X5_readsNumber_64 n q p1 p2).2 := by
  intro n
  induction n with
  | zero => intro q h; exact absurd (tInv_0 h) id
  | succ n ih =>
    intro q h
    have hwf := tInv_wf h
    unfold K_X5_readsNumber_64
    split
    · split <;> exact adv_rf hwf
    · split
      · split <;> exact adv_rf hwf
      · rename_i h2
        split
        · split <;> exact adv_rf hwf
        · exact adv_tr (adv_inc (c := upd (upd q.1 2 (((10 * (q.1 2)) + (q.2 (Int32.toNatClampNeg (q.1 1)))) - 48)) 1 (q.1 1 + 1)) hwf (here_lt h2) rfl rfl) (ih _ (tInv_step h (here_lt h2)))
theorem adv_rn {p1 p2 : Int32} {q : QV2} (h : tWF (q.1 0) (q.1 1)) : adv q (F_X5_readsNumber q p1 p2).2 := by
  unfold F_X5_readsNumber
  have key : ∀ b : Int32, ¬ F_X5_isHere q b 57 = 0 → adv q (K_X5_readsNumber_64 61 (upd (upd q.1 2 ((q.2 (Int32.toNatClampNeg (q.1 1))) - 48)) 1 (q.1 1 + 1), q.2) p1 p2).2 := fun b h1 =>
    adv_tr (adv_inc (c := upd (upd q.1 2 ((q.2 (Int32.toNatClampNeg (q.1 1))) - 48)) 1 (q.1 1 + 1)) h (here_lt h1) rfl rfl) (adv_rnK 61 _ (tInv_of (tWF_inc h (here_lt h1))))
  split
  · split
    · exact adv_rf h
    · rename_i h1
      split
      · exact key _ h1
      · exact adv_rf h
  · split
    · exact adv_rf h
    · rename_i h1
      split
      · exact key _ h1
      · exact adv_rf h
theorem rn_hiK {p1 p2 : Int32} : ∀ (n : Nat) (q : QV2), q.1 2 ≤ p2 → ¬ (K_X5_readsNumber_64 n q p1 p2).1 = 0 → (K_X5_readsNumber_64 n q p1 p2).2.1 2 ≤ p2 := by
  intro n
  induction n with
  | zero => intro q h h1; exact absurd rfl h1
  | succ n ih =>
    intro q h h1
    unfold K_X5_readsNumber_64 at h1 ⊢
    split
    · split <;> exact h
    · rename_i c1
      rw [if_neg c1] at h1
      split
      · split <;> exact h
      · rename_i c2
        rw [if_neg c2] at h1
        split
        · split <;> exact h
        · rename_i c3
          rw [if_neg c3] at h1
          exact ih _ (Int32.not_lt.mp c3) h1
theorem rn_hi {p1 p2 : Int32} {q : QV2} (h : ¬ (F_X5_readsNumber q p1 p2).1 = 0) : (F_X5_readsNumber q p1 p2).2.1 2 ≤ p2 := by
  unfold F_X5_readsNumber at h ⊢
  split
  · rename_i c1
    rw [if_pos c1] at h
    split
    · rename_i c2
      rw [if_pos c2] at h
      exact absurd rfl h
    · rename_i c2
      rw [if_neg c2] at h
      split
      · rename_i c3
        rw [if_pos c3] at h
        exact rn_hiK 61 (upd (upd q.1 2 ((q.2 (Int32.toNatClampNeg (q.1 1))) - 48)) 1 (q.1 1 + 1), q.2) c3 h
      · rename_i c3
        rw [if_neg c3] at h
        exact absurd rfl h
  · rename_i c1
    rw [if_neg c1] at h
    split
    · rename_i c2
      rw [if_pos c2] at h
      exact absurd rfl h
    · rename_i c2
      rw [if_neg c2] at h
      split
      · rename_i c3
        rw [if_pos c3] at h
        exact rn_hiK 61 (upd (upd q.1 2 ((q.2 (Int32.toNatClampNeg (q.1 1))) - 48)) 1 (q.1 1 + 1), q.2) c3 h
      · rename_i c3
        rw [if_neg c3] at h
        exact absurd rfl h
theorem rn_500 {p1 : Int32} {q : QV2} (h : ¬ (F_X5_readsNumber q p1 500).1 = 0) : ((F_X5_readsNumber q p1 500).2.1 2).toInt ≤ 500 := by
  have := rn_hi h
  rw [Int32.le_iff_toInt_le] at this
  exact this
/-! X5_command -/
def rmX5_command : Room := { frames := 5, cells := 0, slots := 0, locals := 107 }
theorem k_X5_command_0 : Cond.fieldLink RX5 124 RX5 (TX5 10).2.1 (TX5 10).2.2.1 ∈ wsX5_command := List.mem_of_getElem? (i := 1) rfl
theorem h_X5_command_X5 : ∀ w ∈ u_ws RX5 TX5 12, w ∈ wsX5_command := fun w h => List.mem_cons_of_mem _ (List.mem_append_right _ h)
theorem k_X5_command_1 : Cond.fieldLink RX5 118 RX5 (TX5 9).2.1 (TX5 9).2.2.1 ∈ wsX5_command := List.mem_of_getElem? (i := 2) rfl
theorem k_X5_command_2 : Cond.fieldLink RX5 115 RX5 (TX5 8).2.1 (TX5 8).2.2.1 ∈ wsX5_command := List.mem_of_getElem? (i := 3) rfl
theorem k_X5_command_3 : Cond.fieldLink RX5 25 RX5 (TX5 7).2.1 (TX5 7).2.2.1 ∈ wsX5_command := List.mem_of_getElem? (i := 4) rfl
def K_X5_command_223 (u : MV) (p1 : Int32) (wh : Int32) (lo : Int32) (hi9 : Int32) : Int32 × MV :=
  (let z_229 := F_X5_readsNumber (q3 (u.1 2) (u.1 3) (u.1 4), u.2.2.2.2.2.2) lo hi9
  (if z_229.1 = 0 then ((-2), (upd (upd (upd u.1 2 (z_229.2.1 0)) 3 (z_229.2.1 1)) 4 (z_229.2.1 2), u.2.1, u.2.2.1, u.2.2.2.1, u.2.2.2.2.1, u.2.2.2.2.2.1, z_229.2.2)) else (if p1 = 0 then (0, (upd (upd (upd u.1 2 (z_229.2.1 0)) 3 (z_229.2.1 1)) 4 (z_229.2.1 2), u.2.1, u.2.2.1, u.2.2.2.1, u.2.2.2.2.1, u.2.2.2.2.2.1, z_229.2.2)) else (let z_250 := F_X5_doSet u.2.1 wh (z_229.2.1 2)
  (z_250.1, (upd (upd (upd u.1 2 (z_229.2.1 0)) 3 (z_229.2.1 1)) 4 (z_229.2.1 2), z_250.2, u.2.2.1, u.2.2.2.1, u.2.2.2.2.1, u.2.2.2.2.2.1, z_229.2.2))))))
def K_X5_command_182 (u : MV) (p1 : Int32) (wh : Int32) (lo : Int32) : Int32 × MV :=
  (if wh = 0 then K_X5_command_223 u p1 wh lo 11 else (if wh = 1 then K_X5_command_223 u p1 wh lo 9 else (if wh = 2 then K_X5_command_223 u p1 wh lo 5 else (if wh = 3 then K_X5_command_223 u p1 wh lo 50 else K_X5_command_223 u p1 wh lo 99))))
def K_X5_command_106 (u : MV) (p1 : Int32)  : Int32 × MV :=
  (if (u.1 2) ≤ (u.1 3) then ((-2), u) else (if (F_X5_whichOf (u.2.2.2.2.2.2 (Int32.toNatClampNeg (u.1 3)))) = (-5) then ((-2), u) else (if (F_X5_whichOf (u.2.2.2.2.2.2 (Int32.toNatClampNeg (u.1 3)))) = 0 then K_X5_command_182 (upd u.1 3 ((u.1 3) + 1), u.2.1, u.2.2.1, u.2.2.2.1, u.2.2.2.2.1, u.2.2.2.2.2.1, u.2.2.2.2.2.2) p1 (F_X5_whichOf (u.2.2.2.2.2.2 (Int32.toNatClampNeg (u.1 3)))) 1 else (if 3 ≤ (F_X5_whichOf (u.2.2.2.2.2.2 (Int32.toNatClampNeg (u.1 3)))) then (if (F_X5_whichOf (u.2.2.2.2.2.2 (Int32.toNatClampNeg (u.1 3)))) = 3 then K_X5_command_182 (upd u.1 3 ((u.1 3) + 1), u.2.1, u.2.2.1, u.2.2.2.1, u.2.2.2.2.1, u.2.2.2.2.2.1, u.2.2.2.2.2.2) p1 (F_X5_whichOf (u.2.2.2.2.2.2 (Int32.toNatClampNeg (u.1 3)))) 5 else K_X5_command_182 (upd u.1 3 ((u.1 3) + 1), u.2.1, u.2.2.1, u.2.2.2.1, u.2.2.2.2.1, u.2.2.2.2.2.1, u.2.2.2.2.2.2) p1 (F_X5_whichOf (u.2.2.2.2.2.2 (Int32.toNatClampNeg (u.1 3)))) 10) else K_X5_command_182 (upd u.1 3 ((u.1 3) + 1), u.2.1, u.2.2.1, u.2.2.2.1, u.2.2.2.2.1, u.2.2.2.2.2.1, u.2.2.2.2.2.2) p1 (F_X5_whichOf (u.2.2.2.2.2.2 (Int32.toNatClampNeg (u.1 3)))) 0))))
def K_X5_command_64 (u : MV) (p1 : Int32)  : Int32 × MV :=
  (let z_67 := F_X5_takes (q3 (u.1 2) (u.1 3) (u.1 4), u.2.2.2.2.2.2) 99
  (if z_67.1 = 0 then K_X5_command_106 (upd (upd (upd u.1 2 (z_67.2.1 0)) 3 (z_67.2.1 1)) 4 (z_67.2.1 2), u.2.1, u.2.2.1, u.2.2.2.1, u.2.2.2.2.1, u.2.2.2.2.2.1, z_67.2.2) p1 else (let z_78 := F_X5_readsNumber z_67.2 1 9999
  (if z_78.1 = 0 then ((-2), (upd (upd (upd u.1 2 (z_78.2.1 0)) 3 (z_78.2.1 1)) 4 (z_78.2.1 2), u.2.1, u.2.2.1, u.2.2.2.1, u.2.2.2.2.1, u.2.2.2.2.2.1, z_78.2.2)) else (if p1 = 0 then (0, (upd (upd (upd u.1 2 (z_78.2.1 0)) 3 (z_78.2.1 1)) 4 (z_78.2.1 2), u.2.1, u.2.2.1, u.2.2.2.1, u.2.2.2.2.1, u.2.2.2.2.2.1, z_78.2.2)) else (let z_98 := F_X5_doCone u.2.1 (z_78.2.1 2)
  (z_98.1, (upd (upd (upd u.1 2 (z_78.2.1 0)) 3 (z_78.2.1 1)) 4 (z_78.2.1 2), z_98.2, u.2.2.1, u.2.2.2.1, u.2.2.2.2.1, u.2.2.2.2.2.1, z_78.2.2))))))))
def K_X5_command_22 (u : MV) (p1 : Int32)  : Int32 × MV :=
  (let z_25 := F_X5_takes (q3 (u.1 2) (u.1 3) (u.1 4), u.2.2.2.2.2.2) 103
  (if z_25.1 = 0 then K_X5_command_64 (upd (upd (upd u.1 2 (z_25.2.1 0)) 3 (z_25.2.1 1)) 4 (z_25.2.1 2), u.2.1, u.2.2.1, u.2.2.2.1, u.2.2.2.2.1, u.2.2.2.2.2.1, z_25.2.2) p1 else (let z_36 := F_X5_readsNumber z_25.2 1 500
  (if z_36.1 = 0 then ((-2), (upd (upd (upd u.1 2 (z_36.2.1 0)) 3 (z_36.2.1 1)) 4 (z_36.2.1 2), u.2.1, u.2.2.1, u.2.2.2.1, u.2.2.2.2.1, u.2.2.2.2.2.1, z_36.2.2)) else (if p1 = 0 then (0, (upd (upd (upd u.1 2 (z_36.2.1 0)) 3 (z_36.2.1 1)) 4 (z_36.2.1 2), u.2.1, u.2.2.1, u.2.2.2.1, u.2.2.2.2.1, u.2.2.2.2.2.1, z_36.2.2)) else (let z_56 := F_X5_doWind u.2.1 (z_36.2.1 2)
  (z_56.1, (upd (upd (upd u.1 2 (z_36.2.1 0)) 3 (z_36.2.1 1)) 4 (z_36.2.1 2), z_56.2, u.2.2.1, u.2.2.2.1, u.2.2.2.2.1, u.2.2.2.2.2.1, z_36.2.2))))))))
def F_X5_command (u : MV) (p1 : Int32) : Int32 × MV :=
  (let z_3 := F_X5_takes (q3 (u.1 2) (u.1 3) (u.1 4), u.2.2.2.2.2.2) 110
  (if z_3.1 = 0 then K_X5_command_22 (upd (upd (upd u.1 2 (z_3.2.1 0)) 3 (z_3.2.1 1)) 4 (z_3.2.1 2), u.2.1, u.2.2.1, u.2.2.2.1, u.2.2.2.2.1, u.2.2.2.2.2.1, z_3.2.2) p1 else (if p1 = 0 then (0, (upd (upd (upd u.1 2 (z_3.2.1 0)) 3 (z_3.2.1 1)) 4 (z_3.2.1 2), u.2.1, u.2.2.1, u.2.2.2.1, u.2.2.2.2.1, u.2.2.2.2.2.1, z_3.2.2)) else (let z_14 := F_X5_doKnot u.2.1
  (z_14.1, (upd (upd (upd u.1 2 (z_3.2.1 0)) 3 (z_3.2.1 1)) 4 (z_3.2.1 2), z_14.2, u.2.2.1, u.2.2.2.1, u.2.2.2.2.1, u.2.2.2.2.2.1, z_3.2.2))))))
set_option maxHeartbeats 4000000 in
set_option maxRecDepth 100000 in
theorem k_X5_command_223 {T : TT} {X : CX} (hX : Fit T X (yX5_command).cls 5 wsX5_command cX5_command (some .int) rmX5_command) (x al ke tr hi sn te : Nat) (u : MV) (p1 : Int32) (wh : Int32) (lo : Int32) (hi9 : Int32) (ht : tWF (u.1 2) (u.1 3)) (hx : vp_in wh 5) : G T X (QI T X 0 0 ((K_X5_command_223 u p1 wh lo hi9).1) (wMo T x al ke tr hi sn te ((K_X5_command_223 u p1 wh lo hi9).2))) 0 0 (wMo T x al ke tr hi sn te u) [(2, .int wh), (3, .int lo), (0, .ref x), (1, .int p1)] 223 [.int hi9] := by
  refine g_istore hX (lv' := [(4, .int hi9), (2, .int wh), (3, .int lo), (0, .ref x), (1, .int p1)]) dX5_command_223 (by decide) rfl ?_
  refine g_aload_n hX dX5_command_225 rfl 3 rfl ?_
  refine g_iload_n hX dX5_command_226 rfl 2 rfl ?_
  refine g_iload hX dX5_command_227 0 rfl ?_
  obtain ⟨z_229, hz_229⟩ : ∃ z : Int32 × QV2, z = F_X5_readsNumber (q3 (u.1 2) (u.1 3) (u.1 4), u.2.2.2.2.2.2) lo hi9 := ⟨_, rfl⟩
  refine g_cV_I hX (n := 2) (As := [.int lo, .int hi9]) (wc := wMt T x te (.ref al) (.ref ke) (.ref tr) (.ref hi) (.int (u.1 0)) (.ref sn) (.int (u.1 1)) (.int (u.1 5)) (q3 (u.1 2) (u.1 3) (u.1 4), u.2.2.2.2.2.2)) (w1 := wMt T x te (.ref al) (.ref ke) (.ref tr) (.ref hi) (.int (u.1 0)) (.ref sn) (.int (u.1 1)) (.int (u.1 5)) z_229.2) (rv := z_229.1) (st := []) 0 rfl rfl (by rw [hz_229]; exact (c_X5_readsNumber (xL X) T (xB X) x te (.ref al) (.ref ke) (.ref tr) (.ref hi) (.int (u.1 0)) (.ref sn) (.int (u.1 1)) (.int (u.1 5)) (q3 (u.1 2) (u.1 3) (u.1 4), u.2.2.2.2.2.2) lo hi9 ht)) gX5_command_X5_readsNumber rfl rfl rfl ⟨Nat.le_of_ble_eq_true rfl, Nat.le_of_ble_eq_true rfl⟩ ⟨Nat.zero_le _, Nat.zero_le _⟩ ⟨by decide +kernel, by decide +kernel, by decide +kernel⟩ rfl [0, 6] rfl rfl (by decide) rfl (Nat.le_of_ble_eq_true rfl) dX5_command_229 (ws' := wMo T x al ke tr hi sn te (upd (upd (upd u.1 2 (z_229.2.1 0)) 3 (z_229.2.1 1)) 4 (z_229.2.1 2), u.2.1, u.2.2.1, u.2.2.2.1, u.2.2.2.2.1, u.2.2.2.2.2.1, z_229.2.2)) rfl ?_
  refine g_if_ne hX 240 dX5_command_232 (by decide) (fun c_232 => ?_) (fun c_232 => ?_)
  · skip
    refine g_iload_n hX dX5_command_240 rfl 4 rfl ?_
    refine g_if_eq hX 256 dX5_command_241 (by decide) (fun c_241 => ?_) (fun c_241 => ?_)
    · skip
      refine g_iconst hX (v := 0) dX5_command_256 (by decide) ?_
      have e9 : K_X5_command_223 u p1 wh lo hi9 = (0, (upd (upd (upd u.1 2 (z_229.2.1 0)) 3 (z_229.2.1 1)) 4 (z_229.2.1 2), u.2.1, u.2.2.1, u.2.2.2.1, u.2.2.2.2.1, u.2.2.2.2.2.1, z_229.2.2)) := by simp only [K_X5_command_223, ← hz_229, eq_false c_232, eq_true c_241, if_true, if_false]
      rw [e9]
      exact g_iret hX dX5_command_257 rfl rfl
    · skip
      refine g_aload_n hX dX5_command_244 rfl 3 rfl ?_
      refine g_iload_n hX dX5_command_245 rfl 1 rfl ?_
      refine g_aload_n hX dX5_command_246 rfl 3 rfl ?_
      refine g_get hX 5 h_X5_command_X5 0 rfl rfl 10 (by decide) k_X5_command_0 rfl (v := .int (z_229.2.1 2)) rfl dX5_command_247 ?_
      obtain ⟨z_250, hz_250⟩ : ∃ z : Int32 × (Nat → Int32), z = F_X5_doSet u.2.1 wh (z_229.2.1 2) := ⟨_, rfl⟩
      refine g_cV_I hX (n := 2) (As := [.int wh, .int (z_229.2.1 2)]) (wc := wMa T x al ([.ref ke, .ref tr, .ref hi, .int (u.1 0), .ref sn, .int (u.1 1), .ref te, .int (z_229.2.1 0), .int (z_229.2.1 1), .int (z_229.2.1 2), .int (u.1 5)]) u.2.1) (w1 := wMa T x al ([.ref ke, .ref tr, .ref hi, .int (u.1 0), .ref sn, .int (u.1 1), .ref te, .int (z_229.2.1 0), .int (z_229.2.1 1), .int (z_229.2.1 2), .int (u.1 5)]) z_250.2) (rv := z_250.1) (st := []) 0 rfl rfl (by rw [hz_250]; exact (c_X5_doSet (xL X) T (xB X) x al ([.ref ke, .ref tr, .ref hi, .int (u.1 0), .ref sn, .int (u.1 1), .ref te, .int (z_229.2.1 0), .int (z_229.2.1 1), .int (z_229.2.1 2), .int (u.1 5)]) u.2.1 wh (z_229.2.1 2) hx)) gX5_command_X5_doSet rfl rfl rfl ⟨Nat.le_of_ble_eq_true rfl, Nat.le_of_ble_eq_true rfl⟩ ⟨Nat.zero_le _, Nat.zero_le _⟩ ⟨by decide +kernel, by decide +kernel, by decide +kernel⟩ rfl [0, 1] rfl rfl (by decide) rfl (Nat.le_of_ble_eq_true rfl) dX5_command_250 (ws' := wMo T x al ke tr hi sn te (upd (upd (upd u.1 2 (z_229.2.1 0)) 3 (z_229.2.1 1)) 4 (z_229.2.1 2), z_250.2, u.2.2.1, u.2.2.2.1, u.2.2.2.2.1, u.2.2.2.2.2.1, z_229.2.2)) rfl ?_
      refine g_goto hX 257 dX5_command_253 (by decide) ?_
      have e9 : K_X5_command_223 u p1 wh lo hi9 = (z_250.1, (upd (upd (upd u.1 2 (z_229.2.1 0)) 3 (z_229.2.1 1)) 4 (z_229.2.1 2), z_250.2, u.2.2.1, u.2.2.2.1, u.2.2.2.2.1, u.2.2.2.2.2.1, z_229.2.2)) := by simp only [K_X5_command_223, ← hz_229, ← hz_250, eq_false c_232, eq_false c_241, if_true, if_false]
      rw [e9]
      exact g_iret hX dX5_command_257 rfl rfl
  · skip
    refine g_bipush hX (v := (-2)) dX5_command_235 (by decide) ?_
    refine g_goto hX 257 dX5_command_237 (by decide) ?_
    have e9 : K_X5_command_223 u p1 wh lo hi9 = ((-2), (upd (upd (upd u.1 2 (z_229.2.1 0)) 3 (z_229.2.1 1)) 4 (z_229.2.1 2), u.2.1, u.2.2.1, u.2.2.2.1, u.2.2.2.2.1, u.2.2.2.2.2.1, z_229.2.2)) := by simp only [K_X5_command_223, ← hz_229, eq_true c_232, if_true, if_false]
    rw [e9]
    exact g_iret hX dX5_command_257 rfl rfl
set_option maxHeartbeats 4000000 in
set_option maxRecDepth 100000 in
theorem k_X5_command_182 {T : TT} {X : CX} (hX : Fit T X (yX5_command).cls 5 wsX5_command cX5_command (some .int) rmX5_command) (x al ke tr hi sn te : Nat) (u : MV) (p1 : Int32) (wh : Int32) (lo : Int32) (ht : tWF (u.1 2) (u.1 3)) (hx : vp_in wh 5) : G T X (QI T X 0 0 ((K_X5_command_182 u p1 wh lo).1) (wMo T x al ke tr hi sn te ((K_X5_command_182 u p1 wh lo).2))) 0 0 (wMo T x al ke tr hi sn te u) [(2, .int wh), (0, .ref x), (1, .int p1)] 182 [.int lo] := by
  refine g_istore_n hX (lv' := [(3, .int lo), (2, .int wh), (0, .ref x), (1, .int p1)]) dX5_command_182 rfl (by decide) rfl ?_
  refine g_iload_n hX dX5_command_183 rfl 1 rfl ?_
  refine g_if_ne hX 192 dX5_command_184 (by decide) (fun c_184 => ?_) (fun c_184 => ?_)
  · skip
    refine g_iload_n hX dX5_command_192 rfl 1 rfl ?_
    refine g_iconst hX (v := 1) dX5_command_193 (by decide) ?_
    refine g_icmp_ne hX 202 dX5_command_194 (by decide) (fun c_194 => ?_) (fun c_194 => ?_)
    · skip
      refine g_iload_n hX dX5_command_202 rfl 1 rfl ?_
      refine g_iconst hX (v := 2) dX5_command_203 (by decide) ?_
      refine g_icmp_ne hX 211 dX5_command_204 (by decide) (fun c_204 => ?_) (fun c_204 => ?_)
      · skip
        refine g_iload_n hX dX5_command_211 rfl 1 rfl ?_
        refine g_iconst hX (v := 3) dX5_command_212 (by decide) ?_
        refine g_icmp_ne hX 221 dX5_command_213 (by decide) (fun c_213 => ?_) (fun c_213 => ?_)
        · skip
          refine g_bipush hX (v := 99) dX5_command_221 (by decide) ?_
          have e9 : K_X5_command_182 u p1 wh lo = K_X5_command_223 u p1 wh lo 99 := by simp only [K_X5_command_182, eq_false c_184, eq_false c_194, eq_false c_204, eq_false c_213, if_true, if_false]
          rw [e9]
          refine g_lv (lv' := [(2, .int wh), (3, .int lo), (0, .ref x), (1, .int p1)]) [1, 0, 2, 3] rfl ?_
          exact k_X5_command_223 hX x al ke tr hi sn te u p1 wh lo 99 ht hx
        · skip
          refine g_bipush hX (v := 50) dX5_command_216 (by decide) ?_
          refine g_goto hX 223 dX5_command_218 (by decide) ?_
          have e9 : K_X5_command_182 u p1 wh lo = K_X5_command_223 u p1 wh lo 50 := by simp only [K_X5_command_182, eq_false c_184, eq_false c_194, eq_false c_204, eq_true c_213, if_true, if_false]
          rw [e9]
          refine g_lv (lv' := [(2, .int wh), (3, .int lo), (0, .ref x), (1, .int p1)]) [1, 0, 2, 3] rfl ?_
          exact k_X5_command_223 hX x al ke tr hi sn te u p1 wh lo 50 ht hx
      · skip
        refine g_iconst hX (v := 5) dX5_command_207 (by decide) ?_
        refine g_goto hX 223 dX5_command_208 (by decide) ?_
        have e9 : K_X5_command_182 u p1 wh lo = K_X5_command_223 u p1 wh lo 5 := by simp only [K_X5_command_182, eq_false c_184, eq_false c_194, eq_true c_204, if_true, if_false]
        rw [e9]
        refine g_lv (lv' := [(2, .int wh), (3, .int lo), (0, .ref x), (1, .int p1)]) [1, 0, 2, 3] rfl ?_
        exact k_X5_command_223 hX x al ke tr hi sn te u p1 wh lo 5 ht hx
    · skip
      refine g_bipush hX (v := 9) dX5_command_197 (by decide) ?_
      refine g_goto hX 223 dX5_command_199 (by decide) ?_
      have e9 : K_X5_command_182 u p1 wh lo = K_X5_command_223 u p1 wh lo 9 := by simp only [K_X5_command_182, eq_false c_184, eq_true c_194, if_true, if_false]
      rw [e9]
      refine g_lv (lv' := [(2, .int wh), (3, .int lo), (0, .ref x), (1, .int p1)]) [1, 0, 2, 3] rfl ?_
      exact k_X5_command_223 hX x al ke tr hi sn te u p1 wh lo 9 ht hx
  · skip
    refine g_bipush hX (v := 11) dX5_command_187 (by decide) ?_
    refine g_goto hX 223 dX5_command_189 (by decide) ?_
    have e9 : K_X5_command_182 u p1 wh lo = K_X5_command_223 u p1 wh lo 11 := by simp only [K_X5_command_182, eq_true c_184, if_true, if_false]
    rw [e9]
    refine g_lv (lv' := [(2, .int wh), (3, .int lo), (0, .ref x), (1, .int p1)]) [1, 0, 2, 3] rfl ?_
    exact k_X5_command_223 hX x al ke tr hi sn te u p1 wh lo 11 ht hx
set_option maxHeartbeats 4000000 in
set_option maxRecDepth 100000 in
theorem k_X5_command_106 {T : TT} {X : CX} (hX : Fit T X (yX5_command).cls 5 wsX5_command cX5_command (some .int) rmX5_command) (x al ke tr hi sn te : Nat) (u : MV) (p1 : Int32) (hw : mWF u.2.1) (ht : tWF (u.1 2) (u.1 3)) : G T X (QI T X 0 0 ((K_X5_command_106 u p1).1) (wMo T x al ke tr hi sn te ((K_X5_command_106 u p1).2))) 0 0 (wMo T x al ke tr hi sn te u) [(0, .ref x), (1, .int p1)] 106 [] := by
  refine g_aload_n hX dX5_command_106 rfl 0 rfl ?_
  refine g_get hX 5 h_X5_command_X5 0 rfl rfl 9 (by decide) k_X5_command_1 rfl (v := .int (u.1 3)) rfl dX5_command_107 ?_
  refine g_aload_n hX dX5_command_110 rfl 0 rfl ?_
  refine g_get hX 5 h_X5_command_X5 0 rfl rfl 8 (by decide) k_X5_command_2 rfl (v := .int (u.1 2)) rfl dX5_command_111 ?_
  refine g_icmp_ge hX 132 dX5_command_114 (by decide) (fun c_114 => ?_) (fun c_114 => ?_)
  · skip
    refine g_bipush hX (v := (-5)) dX5_command_132 (by decide) ?_
    refine g_istore_n hX (lv' := [(2, .int (-5)), (0, .ref x), (1, .int p1)]) dX5_command_134 rfl (by decide) rfl ?_
    refine g_iload_n hX dX5_command_135 rfl 0 rfl ?_
    refine g_bipush hX (v := (-5)) dX5_command_136 (by decide) ?_
    refine g_icmp_ne hX 144 dX5_command_138 (by decide) (fun c0 => absurd c0 (by decide)) (fun _ => ?_)
    refine g_bipush hX (v := (-2)) dX5_command_141 (by decide) ?_
    have e9 : K_X5_command_106 u p1 = ((-2), u) := by simp only [K_X5_command_106, eq_true c_114, if_true, if_false]
    rw [e9]
    exact g_iret hX dX5_command_143 rfl rfl
  · skip
    refine g_aload_n hX dX5_command_117 rfl 0 rfl ?_
    refine g_get hX 5 h_X5_command_X5 0 rfl rfl 7 (by decide) k_X5_command_3 rfl (v := .ref te) rfl dX5_command_118 ?_
    refine g_aload_n hX dX5_command_121 rfl 0 rfl ?_
    refine g_get hX 5 h_X5_command_X5 0 rfl rfl 9 (by decide) k_X5_command_1 rfl (v := .int (u.1 3)) rfl dX5_command_122 ?_
    refine g_iald hX (f := u.2.2.2.2.2.2) 6 rfl (vin_txt ht c_114) (v := (u.2.2.2.2.2.2 (Int32.toNatClampNeg (u.1 3)))) (congrArg u.2.2.2.2.2.2 rfl) dX5_command_125 ?_
    refine g_cS_I hX (n := 1) (As := [.int (u.2.2.2.2.2.2 (Int32.toNatClampNeg (u.1 3)))]) (wc := []) (w1 := []) (rv := (F_X5_whichOf (u.2.2.2.2.2.2 (Int32.toNatClampNeg (u.1 3))))) (st := []) (c_X5_whichOf (xL X) T (xB X) (u.2.2.2.2.2.2 (Int32.toNatClampNeg (u.1 3)))) gX5_command_X5_whichOf rfl rfl rfl ⟨Nat.le_of_ble_eq_true rfl, Nat.le_of_ble_eq_true rfl⟩ ⟨Nat.zero_le _, Nat.zero_le _⟩ ⟨by decide +kernel, by decide +kernel, by decide +kernel⟩ rfl [] rfl rfl (by decide) rfl (Nat.le_of_ble_eq_true rfl) dX5_command_126 (ws' := wMo T x al ke tr hi sn te u) rfl ?_
    refine g_goto hX 134 dX5_command_129 (by decide) ?_
    refine g_istore_n hX (lv' := [(2, .int (F_X5_whichOf (u.2.2.2.2.2.2 (Int32.toNatClampNeg (u.1 3))))), (0, .ref x), (1, .int p1)]) dX5_command_134 rfl (by decide) rfl ?_
    refine g_iload_n hX dX5_command_135 rfl 0 rfl ?_
    refine g_bipush hX (v := (-5)) dX5_command_136 (by decide) ?_
    refine g_icmp_ne hX 144 dX5_command_138 (by decide) (fun c_138 => ?_) (fun c_138 => ?_)
    · skip
      refine g_aload_n hX dX5_command_144 rfl 1 rfl ?_
      refine g_dup hX dX5_command_145 rfl ?_
      refine g_get hX 5 h_X5_command_X5 0 rfl rfl 9 (by decide) k_X5_command_1 rfl (v := .int (u.1 3)) rfl dX5_command_146 ?_
      refine g_iconst hX (v := 1) dX5_command_149 (by decide) ?_
      refine g_iadd hX dX5_command_150 ?_
      refine g_put hX 5 h_X5_command_X5 0 rfl rfl 9 (by decide) tyX5 tyX5_ok nmX5 k_X5_command_1 rfl rfl rfl rfl rfl (Nat.le_of_ble_eq_true rfl) dX5_command_151 (ws' := wMo T x al ke tr hi sn te (upd u.1 3 ((u.1 3) + 1), u.2.1, u.2.2.1, u.2.2.2.1, u.2.2.2.2.1, u.2.2.2.2.2.1, u.2.2.2.2.2.2)) rfl ?_
      refine g_iload_n hX dX5_command_154 rfl 0 rfl ?_
      refine g_if_ne hX 162 dX5_command_155 (by decide) (fun c_155 => ?_) (fun c_155 => ?_)
      · skip
        refine g_iload_n hX dX5_command_162 rfl 0 rfl ?_
        refine g_iconst hX (v := 3) dX5_command_163 (by decide) ?_
        refine g_icmp_ge hX 171 dX5_command_164 (by decide) (fun c_164 => ?_) (fun c_164 => ?_)
        · skip
          refine g_iload_n hX dX5_command_171 rfl 0 rfl ?_
          refine g_iconst hX (v := 3) dX5_command_172 (by decide) ?_
          refine g_icmp_ne hX 180 dX5_command_173 (by decide) (fun c_173 => ?_) (fun c_173 => ?_)
          · skip
            refine g_bipush hX (v := 10) dX5_command_180 (by decide) ?_
            have e9 : K_X5_command_106 u p1 = K_X5_command_182 (upd u.1 3 ((u.1 3) + 1), u.2.1, u.2.2.1, u.2.2.2.1, u.2.2.2.2.1, u.2.2.2.2.2.1, u.2.2.2.2.2.2) p1 (F_X5_whichOf (u.2.2.2.2.2.2 (Int32.toNatClampNeg (u.1 3)))) 10 := by simp only [K_X5_command_106, eq_false c_114, eq_false c_138, eq_false c_155, eq_true c_164, eq_false c_173, if_true, if_false]
            rw [e9]
            refine g_lv (lv' := [(2, .int (F_X5_whichOf (u.2.2.2.2.2.2 (Int32.toNatClampNeg (u.1 3))))), (0, .ref x), (1, .int p1)]) [0, 1, 2] rfl ?_
            exact k_X5_command_182 hX x al ke tr hi sn te (upd u.1 3 ((u.1 3) + 1), u.2.1, u.2.2.1, u.2.2.2.1, u.2.2.2.2.1, u.2.2.2.2.2.1, u.2.2.2.2.2.2) p1 (F_X5_whichOf (u.2.2.2.2.2.2 (Int32.toNatClampNeg (u.1 3)))) 10 (tWF_inc ht c_114) (which5 c_138)
          · skip
            refine g_iconst hX (v := 5) dX5_command_176 (by decide) ?_
            refine g_goto hX 182 dX5_command_177 (by decide) ?_
            have e9 : K_X5_command_106 u p1 = K_X5_command_182 (upd u.1 3 ((u.1 3) + 1), u.2.1, u.2.2.1, u.2.2.2.1, u.2.2.2.2.1, u.2.2.2.2.2.1, u.2.2.2.2.2.2) p1 (F_X5_whichOf (u.2.2.2.2.2.2 (Int32.toNatClampNeg (u.1 3)))) 5 := by simp only [K_X5_command_106, eq_false c_114, eq_false c_138, eq_false c_155, eq_true c_164, eq_true c_173, if_true, if_false]
            rw [e9]
            refine g_lv (lv' := [(2, .int (F_X5_whichOf (u.2.2.2.2.2.2 (Int32.toNatClampNeg (u.1 3))))), (0, .ref x), (1, .int p1)]) [0, 1, 2] rfl ?_
            exact k_X5_command_182 hX x al ke tr hi sn te (upd u.1 3 ((u.1 3) + 1), u.2.1, u.2.2.1, u.2.2.2.1, u.2.2.2.2.1, u.2.2.2.2.2.1, u.2.2.2.2.2.2) p1 (F_X5_whichOf (u.2.2.2.2.2.2 (Int32.toNatClampNeg (u.1 3)))) 5 (tWF_inc ht c_114) (which5 c_138)
        · skip
          refine g_iconst hX (v := 0) dX5_command_167 (by decide) ?_
          refine g_goto hX 182 dX5_command_168 (by decide) ?_
          have e9 : K_X5_command_106 u p1 = K_X5_command_182 (upd u.1 3 ((u.1 3) + 1), u.2.1, u.2.2.1, u.2.2.2.1, u.2.2.2.2.1, u.2.2.2.2.2.1, u.2.2.2.2.2.2) p1 (F_X5_whichOf (u.2.2.2.2.2.2 (Int32.toNatClampNeg (u.1 3)))) 0 := by simp only [K_X5_command_106, eq_false c_114, eq_false c_138, eq_false c_155, eq_false c_164, if_true, if_false]
          rw [e9]
          refine g_lv (lv' := [(2, .int (F_X5_whichOf (u.2.2.2.2.2.2 (Int32.toNatClampNeg (u.1 3))))), (0, .ref x), (1, .int p1)]) [0, 1, 2] rfl ?_
          exact k_X5_command_182 hX x al ke tr hi sn te (upd u.1 3 ((u.1 3) + 1), u.2.1, u.2.2.1, u.2.2.2.1, u.2.2.2.2.1, u.2.2.2.2.2.1, u.2.2.2.2.2.2) p1 (F_X5_whichOf (u.2.2.2.2.2.2 (Int32.toNatClampNeg (u.1 3)))) 0 (tWF_inc ht c_114) (which5 c_138)
      · skip
        refine g_iconst hX (v := 1) dX5_command_158 (by decide) ?_
        refine g_goto hX 182 dX5_command_159 (by decide) ?_
        have e9 : K_X5_command_106 u p1 = K_X5_command_182 (upd u.1 3 ((u.1 3) + 1), u.2.1, u.2.2.1, u.2.2.2.1, u.2.2.2.2.1, u.2.2.2.2.2.1, u.2.2.2.2.2.2) p1 (F_X5_whichOf (u.2.2.2.2.2.2 (Int32.toNatClampNeg (u.1 3)))) 1 := by simp only [K_X5_command_106, eq_false c_114, eq_false c_138, eq_true c_155, if_true, if_false]
        rw [e9]
        refine g_lv (lv' := [(2, .int (F_X5_whichOf (u.2.2.2.2.2.2 (Int32.toNatClampNeg (u.1 3))))), (0, .ref x), (1, .int p1)]) [0, 1, 2] rfl ?_
        exact k_X5_command_182 hX x al ke tr hi sn te (upd u.1 3 ((u.1 3) + 1), u.2.1, u.2.2.1, u.2.2.2.1, u.2.2.2.2.1, u.2.2.2.2.2.1, u.2.2.2.2.2.2) p1 (F_X5_whichOf (u.2.2.2.2.2.2 (Int32.toNatClampNeg (u.1 3)))) 1 (tWF_inc ht c_114) (which5 c_138)
    · skip
      refine g_bipush hX (v := (-2)) dX5_command_141 (by decide) ?_
      have e9 : K_X5_command_106 u p1 = ((-2), u) := by simp only [K_X5_command_106, eq_false c_114, eq_true c_138, if_true, if_false]
      rw [e9]
      exact g_iret hX dX5_command_143 rfl rfl
set_option maxHeartbeats 4000000 in
set_option maxRecDepth 100000 in
theorem k_X5_command_64 {T : TT} {X : CX} (hX : Fit T X (yX5_command).cls 5 wsX5_command cX5_command (some .int) rmX5_command) (x al ke tr hi sn te : Nat) (u : MV) (p1 : Int32) (hw : mWF u.2.1) (ht : tWF (u.1 2) (u.1 3)) : G T X (QI T X 0 0 ((K_X5_command_64 u p1).1) (wMo T x al ke tr hi sn te ((K_X5_command_64 u p1).2))) 0 0 (wMo T x al ke tr hi sn te u) [(0, .ref x), (1, .int p1)] 64 [] := by
  refine g_aload_n hX dX5_command_64 rfl 0 rfl ?_
  refine g_bipush hX (v := 99) dX5_command_65 (by decide) ?_
  obtain ⟨z_67, hz_67⟩ : ∃ z : Int32 × QV2, z = F_X5_takes (q3 (u.1 2) (u.1 3) (u.1 4), u.2.2.2.2.2.2) 99 := ⟨_, rfl⟩
  refine g_cV_I hX (n := 1) (As := [.int 99]) (wc := wMt T x te (.ref al) (.ref ke) (.ref tr) (.ref hi) (.int (u.1 0)) (.ref sn) (.int (u.1 1)) (.int (u.1 5)) (q3 (u.1 2) (u.1 3) (u.1 4), u.2.2.2.2.2.2)) (w1 := wMt T x te (.ref al) (.ref ke) (.ref tr) (.ref hi) (.int (u.1 0)) (.ref sn) (.int (u.1 1)) (.int (u.1 5)) z_67.2) (rv := z_67.1) (st := []) 0 rfl rfl (by rw [hz_67]; exact (c_X5_takes (xL X) T (xB X) x te (.ref al) (.ref ke) (.ref tr) (.ref hi) (.int (u.1 0)) (.ref sn) (.int (u.1 1)) (.int (u.1 5)) (q3 (u.1 2) (u.1 3) (u.1 4), u.2.2.2.2.2.2) 99 ht)) gX5_command_X5_takes rfl rfl rfl ⟨Nat.le_of_ble_eq_true rfl, Nat.le_of_ble_eq_true rfl⟩ ⟨Nat.zero_le _, Nat.zero_le _⟩ ⟨by decide +kernel, by decide +kernel, by decide +kernel⟩ rfl [0, 6] rfl rfl (by decide) rfl (Nat.le_of_ble_eq_true rfl) dX5_command_67 (ws' := wMo T x al ke tr hi sn te (upd (upd (upd u.1 2 (z_67.2.1 0)) 3 (z_67.2.1 1)) 4 (z_67.2.1 2), u.2.1, u.2.2.1, u.2.2.2.1, u.2.2.2.2.1, u.2.2.2.2.2.1, z_67.2.2)) rfl ?_
  have ht_67 : tWF (z_67.2.1 0) (z_67.2.1 1) := by rw [hz_67]; exact tWF_takes ht
  refine g_if_eq hX 106 dX5_command_70 (by decide) (fun c_70 => ?_) (fun c_70 => ?_)
  · skip
    have e9 : K_X5_command_64 u p1 = K_X5_command_106 (upd (upd (upd u.1 2 (z_67.2.1 0)) 3 (z_67.2.1 1)) 4 (z_67.2.1 2), u.2.1, u.2.2.1, u.2.2.2.1, u.2.2.2.2.1, u.2.2.2.2.2.1, z_67.2.2) p1 := by simp only [K_X5_command_64, ← hz_67, eq_true c_70, if_true, if_false]
    rw [e9]
    refine g_lv (lv' := [(0, .ref x), (1, .int p1)]) [0, 1] rfl ?_
    exact k_X5_command_106 hX x al ke tr hi sn te (upd (upd (upd u.1 2 (z_67.2.1 0)) 3 (z_67.2.1 1)) 4 (z_67.2.1 2), u.2.1, u.2.2.1, u.2.2.2.1, u.2.2.2.2.1, u.2.2.2.2.2.1, z_67.2.2) p1 hw ht_67
  · skip
    refine g_aload_n hX dX5_command_73 rfl 0 rfl ?_
    refine g_iconst hX (v := 1) dX5_command_74 (by decide) ?_
    refine g_sipush hX (v := 9999) dX5_command_75 (by decide) ?_
    obtain ⟨z_78, hz_78⟩ : ∃ z : Int32 × QV2, z = F_X5_readsNumber z_67.2 1 9999 := ⟨_, rfl⟩
    refine g_cV_I hX (n := 2) (As := [.int 1, .int 9999]) (wc := wMt T x te (.ref al) (.ref ke) (.ref tr) (.ref hi) (.int (u.1 0)) (.ref sn) (.int (u.1 1)) (.int (u.1 5)) z_67.2) (w1 := wMt T x te (.ref al) (.ref ke) (.ref tr) (.ref hi) (.int (u.1 0)) (.ref sn) (.int (u.1 1)) (.int (u.1 5)) z_78.2) (rv := z_78.1) (st := []) 0 rfl rfl (by rw [hz_78]; exact (c_X5_readsNumber (xL X) T (xB X) x te (.ref al) (.ref ke) (.ref tr) (.ref hi) (.int (u.1 0)) (.ref sn) (.int (u.1 1)) (.int (u.1 5)) z_67.2 1 9999 ht_67)) gX5_command_X5_readsNumber rfl rfl rfl ⟨Nat.le_of_ble_eq_true rfl, Nat.le_of_ble_eq_true rfl⟩ ⟨Nat.zero_le _, Nat.zero_le _⟩ ⟨by decide +kernel, by decide +kernel, by decide +kernel⟩ rfl [0, 6] rfl rfl (by decide) rfl (Nat.le_of_ble_eq_true rfl) dX5_command_78 (ws' := wMo T x al ke tr hi sn te (upd (upd (upd u.1 2 (z_78.2.1 0)) 3 (z_78.2.1 1)) 4 (z_78.2.1 2), u.2.1, u.2.2.1, u.2.2.2.1, u.2.2.2.2.1, u.2.2.2.2.2.1, z_78.2.2)) rfl ?_
    refine g_if_ne hX 89 dX5_command_81 (by decide) (fun c_81 => ?_) (fun c_81 => ?_)
    · skip
      refine g_iload_n hX dX5_command_89 rfl 1 rfl ?_
      refine g_if_eq hX 104 dX5_command_90 (by decide) (fun c_90 => ?_) (fun c_90 => ?_)
      · skip
        refine g_iconst hX (v := 0) dX5_command_104 (by decide) ?_
        have e9 : K_X5_command_64 u p1 = (0, (upd (upd (upd u.1 2 (z_78.2.1 0)) 3 (z_78.2.1 1)) 4 (z_78.2.1 2), u.2.1, u.2.2.1, u.2.2.2.1, u.2.2.2.2.1, u.2.2.2.2.2.1, z_78.2.2)) := by simp only [K_X5_command_64, ← hz_67, ← hz_78, eq_false c_70, eq_false c_81, eq_true c_90, if_true, if_false]
        rw [e9]
        exact g_iret hX dX5_command_105 rfl rfl
      · skip
        refine g_aload_n hX dX5_command_93 rfl 0 rfl ?_
        refine g_aload_n hX dX5_command_94 rfl 0 rfl ?_
        refine g_get hX 5 h_X5_command_X5 0 rfl rfl 10 (by decide) k_X5_command_0 rfl (v := .int (z_78.2.1 2)) rfl dX5_command_95 ?_
        obtain ⟨z_98, hz_98⟩ : ∃ z : Int32 × (Nat → Int32), z = F_X5_doCone u.2.1 (z_78.2.1 2) := ⟨_, rfl⟩
        refine g_cV_I hX (n := 1) (As := [.int (z_78.2.1 2)]) (wc := wMa T x al ([.ref ke, .ref tr, .ref hi, .int (u.1 0), .ref sn, .int (u.1 1), .ref te, .int (z_78.2.1 0), .int (z_78.2.1 1), .int (z_78.2.1 2), .int (u.1 5)]) u.2.1) (w1 := wMa T x al ([.ref ke, .ref tr, .ref hi, .int (u.1 0), .ref sn, .int (u.1 1), .ref te, .int (z_78.2.1 0), .int (z_78.2.1 1), .int (z_78.2.1 2), .int (u.1 5)]) z_98.2) (rv := z_98.1) (st := []) 0 rfl rfl (by rw [hz_98]; exact (c_X5_doCone (xL X) T (xB X) x al ([.ref ke, .ref tr, .ref hi, .int (u.1 0), .ref sn, .int (u.1 1), .ref te, .int (z_78.2.1 0), .int (z_78.2.1 1), .int (z_78.2.1 2), .int (u.1 5)]) u.2.1 (z_78.2.1 2))) gX5_command_X5_doCone rfl rfl rfl ⟨Nat.le_of_ble_eq_true rfl, Nat.le_of_ble_eq_true rfl⟩ ⟨Nat.zero_le _, Nat.zero_le _⟩ ⟨by decide +kernel, by decide +kernel, by decide +kernel⟩ rfl [0, 1] rfl rfl (by decide) rfl (Nat.le_of_ble_eq_true rfl) dX5_command_98 (ws' := wMo T x al ke tr hi sn te (upd (upd (upd u.1 2 (z_78.2.1 0)) 3 (z_78.2.1 1)) 4 (z_78.2.1 2), z_98.2, u.2.2.1, u.2.2.2.1, u.2.2.2.2.1, u.2.2.2.2.2.1, z_78.2.2)) rfl ?_
        refine g_goto hX 105 dX5_command_101 (by decide) ?_
        have e9 : K_X5_command_64 u p1 = (z_98.1, (upd (upd (upd u.1 2 (z_78.2.1 0)) 3 (z_78.2.1 1)) 4 (z_78.2.1 2), z_98.2, u.2.2.1, u.2.2.2.1, u.2.2.2.2.1, u.2.2.2.2.2.1, z_78.2.2)) := by simp only [K_X5_command_64, ← hz_67, ← hz_78, ← hz_98, eq_false c_70, eq_false c_81, eq_false c_90, if_true, if_false]
        rw [e9]
        exact g_iret hX dX5_command_105 rfl rfl
    · skip
      refine g_bipush hX (v := (-2)) dX5_command_84 (by decide) ?_
      refine g_goto hX 105 dX5_command_86 (by decide) ?_
      have e9 : K_X5_command_64 u p1 = ((-2), (upd (upd (upd u.1 2 (z_78.2.1 0)) 3 (z_78.2.1 1)) 4 (z_78.2.1 2), u.2.1, u.2.2.1, u.2.2.2.1, u.2.2.2.2.1, u.2.2.2.2.2.1, z_78.2.2)) := by simp only [K_X5_command_64, ← hz_67, ← hz_78, eq_false c_70, eq_true c_81, if_true, if_false]
      rw [e9]
      exact g_iret hX dX5_command_105 rfl rfl
set_option maxHeartbeats 4000000 in
set_option maxRecDepth 100000 in
theorem k_X5_command_22 {T : TT} {X : CX} (hX : Fit T X (yX5_command).cls 5 wsX5_command cX5_command (some .int) rmX5_command) (x al ke tr hi sn te : Nat) (u : MV) (p1 : Int32) (hw : mWF u.2.1) (ht : tWF (u.1 2) (u.1 3)) : G T X (QI T X 0 0 ((K_X5_command_22 u p1).1) (wMo T x al ke tr hi sn te ((K_X5_command_22 u p1).2))) 0 0 (wMo T x al ke tr hi sn te u) [(0, .ref x), (1, .int p1)] 22 [] := by
  refine g_aload_n hX dX5_command_22 rfl 0 rfl ?_
  refine g_bipush hX (v := 103) dX5_command_23 (by decide) ?_
  obtain ⟨z_25, hz_25⟩ : ∃ z : Int32 × QV2, z = F_X5_takes (q3 (u.1 2) (u.1 3) (u.1 4), u.2.2.2.2.2.2) 103 := ⟨_, rfl⟩
  refine g_cV_I hX (n := 1) (As := [.int 103]) (wc := wMt T x te (.ref al) (.ref ke) (.ref tr) (.ref hi) (.int (u.1 0)) (.ref sn) (.int (u.1 1)) (.int (u.1 5)) (q3 (u.1 2) (u.1 3) (u.1 4), u.2.2.2.2.2.2)) (w1 := wMt T x te (.ref al) (.ref ke) (.ref tr) (.ref hi) (.int (u.1 0)) (.ref sn) (.int (u.1 1)) (.int (u.1 5)) z_25.2) (rv := z_25.1) (st := []) 0 rfl rfl (by rw [hz_25]; exact (c_X5_takes (xL X) T (xB X) x te (.ref al) (.ref ke) (.ref tr) (.ref hi) (.int (u.1 0)) (.ref sn) (.int (u.1 1)) (.int (u.1 5)) (q3 (u.1 2) (u.1 3) (u.1 4), u.2.2.2.2.2.2) 103 ht)) gX5_command_X5_takes rfl rfl rfl ⟨Nat.le_of_ble_eq_true rfl, Nat.le_of_ble_eq_true rfl⟩ ⟨Nat.zero_le _, Nat.zero_le _⟩ ⟨by decide +kernel, by decide +kernel, by decide +kernel⟩ rfl [0, 6] rfl rfl (by decide) rfl (Nat.le_of_ble_eq_true rfl) dX5_command_25 (ws' := wMo T x al ke tr hi sn te (upd (upd (upd u.1 2 (z_25.2.1 0)) 3 (z_25.2.1 1)) 4 (z_25.2.1 2), u.2.1, u.2.2.1, u.2.2.2.1, u.2.2.2.2.1, u.2.2.2.2.2.1, z_25.2.2)) rfl ?_
  have ht_25 : tWF (z_25.2.1 0) (z_25.2.1 1) := by rw [hz_25]; exact tWF_takes ht
  refine g_if_eq hX 64 dX5_command_28 (by decide) (fun c_28 => ?_) (fun c_28 => ?_)
  · skip
    have e9 : K_X5_command_22 u p1 = K_X5_command_64 (upd (upd (upd u.1 2 (z_25.2.1 0)) 3 (z_25.2.1 1)) 4 (z_25.2.1 2), u.2.1, u.2.2.1, u.2.2.2.1, u.2.2.2.2.1, u.2.2.2.2.2.1, z_25.2.2) p1 := by simp only [K_X5_command_22, ← hz_25, eq_true c_28, if_true, if_false]
    rw [e9]
    refine g_lv (lv' := [(0, .ref x), (1, .int p1)]) [0, 1] rfl ?_
    exact k_X5_command_64 hX x al ke tr hi sn te (upd (upd (upd u.1 2 (z_25.2.1 0)) 3 (z_25.2.1 1)) 4 (z_25.2.1 2), u.2.1, u.2.2.1, u.2.2.2.1, u.2.2.2.2.1, u.2.2.2.2.2.1, z_25.2.2) p1 hw ht_25
  · skip
    refine g_aload_n hX dX5_command_31 rfl 0 rfl ?_
    refine g_iconst hX (v := 1) dX5_command_32 (by decide) ?_
    refine g_sipush hX (v := 500) dX5_command_33 (by decide) ?_
    obtain ⟨z_36, hz_36⟩ : ∃ z : Int32 × QV2, z = F_X5_readsNumber z_25.2 1 500 := ⟨_, rfl⟩
    refine g_cV_I hX (n := 2) (As := [.int 1, .int 500]) (wc := wMt T x te (.ref al) (.ref ke) (.ref tr) (.ref hi) (.int (u.1 0)) (.ref sn) (.int (u.1 1)) (.int (u.1 5)) z_25.2) (w1 := wMt T x te (.ref al) (.ref ke) (.ref tr) (.ref hi) (.int (u.1 0)) (.ref sn) (.int (u.1 1)) (.int (u.1 5)) z_36.2) (rv := z_36.1) (st := []) 0 rfl rfl (by rw [hz_36]; exact (c_X5_readsNumber (xL X) T (xB X) x te (.ref al) (.ref ke) (.ref tr) (.ref hi) (.int (u.1 0)) (.ref sn) (.int (u.1 1)) (.int (u.1 5)) z_25.2 1 500 ht_25)) gX5_command_X5_readsNumber rfl rfl rfl ⟨Nat.le_of_ble_eq_true rfl, Nat.le_of_ble_eq_true rfl⟩ ⟨Nat.zero_le _, Nat.zero_le _⟩ ⟨by decide +kernel, by decide +kernel, by decide +kernel⟩ rfl [0, 6] rfl rfl (by decide) rfl (Nat.le_of_ble_eq_true rfl) dX5_command_36 (ws' := wMo T x al ke tr hi sn te (upd (upd (upd u.1 2 (z_36.2.1 0)) 3 (z_36.2.1 1)) 4 (z_36.2.1 2), u.2.1, u.2.2.1, u.2.2.2.1, u.2.2.2.2.1, u.2.2.2.2.2.1, z_36.2.2)) rfl ?_
    refine g_if_ne hX 47 dX5_command_39 (by decide) (fun c_39 => ?_) (fun c_39 => ?_)
    · skip
      refine g_iload_n hX dX5_command_47 rfl 1 rfl ?_
      refine g_if_eq hX 62 dX5_command_48 (by decide) (fun c_48 => ?_) (fun c_48 => ?_)
      · skip
        refine g_iconst hX (v := 0) dX5_command_62 (by decide) ?_
        have e9 : K_X5_command_22 u p1 = (0, (upd (upd (upd u.1 2 (z_36.2.1 0)) 3 (z_36.2.1 1)) 4 (z_36.2.1 2), u.2.1, u.2.2.1, u.2.2.2.1, u.2.2.2.2.1, u.2.2.2.2.2.1, z_36.2.2)) := by simp only [K_X5_command_22, ← hz_25, ← hz_36, eq_false c_28, eq_false c_39, eq_true c_48, if_true, if_false]
        rw [e9]
        exact g_iret hX dX5_command_63 rfl rfl
      · skip
        refine g_aload_n hX dX5_command_51 rfl 0 rfl ?_
        refine g_aload_n hX dX5_command_52 rfl 0 rfl ?_
        refine g_get hX 5 h_X5_command_X5 0 rfl rfl 10 (by decide) k_X5_command_0 rfl (v := .int (z_36.2.1 2)) rfl dX5_command_53 ?_
        obtain ⟨z_56, hz_56⟩ : ∃ z : Int32 × (Nat → Int32), z = F_X5_doWind u.2.1 (z_36.2.1 2) := ⟨_, rfl⟩
        refine g_cV_I hX (n := 1) (As := [.int (z_36.2.1 2)]) (wc := wMa T x al ([.ref ke, .ref tr, .ref hi, .int (u.1 0), .ref sn, .int (u.1 1), .ref te, .int (z_36.2.1 0), .int (z_36.2.1 1), .int (z_36.2.1 2), .int (u.1 5)]) u.2.1) (w1 := wMa T x al ([.ref ke, .ref tr, .ref hi, .int (u.1 0), .ref sn, .int (u.1 1), .ref te, .int (z_36.2.1 0), .int (z_36.2.1 1), .int (z_36.2.1 2), .int (u.1 5)]) z_56.2) (rv := z_56.1) (st := []) 0 rfl rfl (by rw [hz_56]; exact (c_X5_doWind (xL X) T (xB X) x al ([.ref ke, .ref tr, .ref hi, .int (u.1 0), .ref sn, .int (u.1 1), .ref te, .int (z_36.2.1 0), .int (z_36.2.1 1), .int (z_36.2.1 2), .int (u.1 5)]) u.2.1 (z_36.2.1 2) hw (by have h9 := c_39; rw [hz_36] at h9 ⊢; exact rn_500 h9))) gX5_command_X5_doWind rfl rfl rfl ⟨Nat.le_of_ble_eq_true rfl, Nat.le_of_ble_eq_true rfl⟩ ⟨Nat.zero_le _, Nat.zero_le _⟩ ⟨by decide +kernel, by decide +kernel, by decide +kernel⟩ rfl [0, 1] rfl rfl (by decide) rfl (Nat.le_of_ble_eq_true rfl) dX5_command_56 (ws' := wMo T x al ke tr hi sn te (upd (upd (upd u.1 2 (z_36.2.1 0)) 3 (z_36.2.1 1)) 4 (z_36.2.1 2), z_56.2, u.2.2.1, u.2.2.2.1, u.2.2.2.2.1, u.2.2.2.2.2.1, z_36.2.2)) rfl ?_
        refine g_goto hX 63 dX5_command_59 (by decide) ?_
        have e9 : K_X5_command_22 u p1 = (z_56.1, (upd (upd (upd u.1 2 (z_36.2.1 0)) 3 (z_36.2.1 1)) 4 (z_36.2.1 2), z_56.2, u.2.2.1, u.2.2.2.1, u.2.2.2.2.1, u.2.2.2.2.2.1, z_36.2.2)) := by simp only [K_X5_command_22, ← hz_25, ← hz_36, ← hz_56, eq_false c_28, eq_false c_39, eq_false c_48, if_true, if_false]
        rw [e9]
        exact g_iret hX dX5_command_63 rfl rfl
    · skip
      refine g_bipush hX (v := (-2)) dX5_command_42 (by decide) ?_
      refine g_goto hX 63 dX5_command_44 (by decide) ?_
      have e9 : K_X5_command_22 u p1 = ((-2), (upd (upd (upd u.1 2 (z_36.2.1 0)) 3 (z_36.2.1 1)) 4 (z_36.2.1 2), u.2.1, u.2.2.1, u.2.2.2.1, u.2.2.2.2.1, u.2.2.2.2.2.1, z_36.2.2)) := by simp only [K_X5_command_22, ← hz_25, ← hz_36, eq_false c_28, eq_true c_39, if_true, if_false]
      rw [e9]
      exact g_iret hX dX5_command_63 rfl rfl
set_option maxHeartbeats 4000000 in
set_option maxRecDepth 100000 in
theorem c_X5_command (l : Launch) (T : TT) (b0 : Nat) (x al ke tr hi sn te : Nat) (u : MV) (p1 : Int32) (hw : mWF u.2.1) (ht : tWF (u.1 2) (u.1 3)) : ConI l T b0 yX5_command wsX5_command rmX5_command [.ref x, .int p1] (wMo T x al ke tr hi sn te u) ((F_X5_command u p1).1) (wMo T x al ke tr hi sn te ((F_X5_command u p1).2)) := by
  refine conI_of (cc := cX5_command) (maxL := 5) (ret := (some .int)) (lv0 := [(0, .ref x), (1, .int p1)]) (by decide +kernel) rfl (Nat.le_of_ble_eq_true rfl) rfl (fun X hX => ?_)
  refine g_aload_n hX dX5_command_0 rfl 0 rfl ?_
  refine g_bipush hX (v := 110) dX5_command_1 (by decide) ?_
  obtain ⟨z_3, hz_3⟩ : ∃ z : Int32 × QV2, z = F_X5_takes (q3 (u.1 2) (u.1 3) (u.1 4), u.2.2.2.2.2.2) 110 := ⟨_, rfl⟩
  refine g_cV_I hX (n := 1) (As := [.int 110]) (wc := wMt T x te (.ref al) (.ref ke) (.ref tr) (.ref hi) (.int (u.1 0)) (.ref sn) (.int (u.1 1)) (.int (u.1 5)) (q3 (u.1 2) (u.1 3) (u.1 4), u.2.2.2.2.2.2)) (w1 := wMt T x te (.ref al) (.ref ke) (.ref tr) (.ref hi) (.int (u.1 0)) (.ref sn) (.int (u.1 1)) (.int (u.1 5)) z_3.2) (rv := z_3.1) (st := []) 0 rfl rfl (by rw [hz_3]; exact (c_X5_takes (xL X) T (xB X) x te (.ref al) (.ref ke) (.ref tr) (.ref hi) (.int (u.1 0)) (.ref sn) (.int (u.1 1)) (.int (u.1 5)) (q3 (u.1 2) (u.1 3) (u.1 4), u.2.2.2.2.2.2) 110 ht)) gX5_command_X5_takes rfl rfl rfl ⟨Nat.le_of_ble_eq_true rfl, Nat.le_of_ble_eq_true rfl⟩ ⟨Nat.zero_le _, Nat.zero_le _⟩ ⟨by decide +kernel, by decide +kernel, by decide +kernel⟩ rfl [0, 6] rfl rfl (by decide) rfl (Nat.le_of_ble_eq_true rfl) dX5_command_3 (ws' := wMo T x al ke tr hi sn te (upd (upd (upd u.1 2 (z_3.2.1 0)) 3 (z_3.2.1 1)) 4 (z_3.2.1 2), u.2.1, u.2.2.1, u.2.2.2.1, u.2.2.2.2.1, u.2.2.2.2.2.1, z_3.2.2)) rfl ?_
  have ht_3 : tWF (z_3.2.1 0) (z_3.2.1 1) := by rw [hz_3]; exact tWF_takes ht
  refine g_if_eq hX 22 dX5_command_6 (by decide) (fun c_6 => ?_) (fun c_6 => ?_)
  · skip
    have e9 : F_X5_command u p1 = K_X5_command_22 (upd (upd (upd u.1 2 (z_3.2.1 0)) 3 (z_3.2.1 1)) 4 (z_3.2.1 2), u.2.1, u.2.2.1, u.2.2.2.1, u.2.2.2.2.1, u.2.2.2.2.2.1, z_3.2.2) p1 := by simp only [F_X5_command, ← hz_3, eq_true c_6, if_true, if_false]
    rw [e9]
    refine g_lv (lv' := [(0, .ref x), (1, .int p1)]) [0, 1] rfl ?_
    exact k_X5_command_22 hX x al ke tr hi sn te (upd (upd (upd u.1 2 (z_3.2.1 0)) 3 (z_3.2.1 1)) 4 (z_3.2.1 2), u.2.1, u.2.2.1, u.2.2.2.1, u.2.2.2.2.1, u.2.2.2.2.2.1, z_3.2.2) p1 hw ht_3
  · skip
    refine g_iload_n hX dX5_command_9 rfl 1 rfl ?_
    refine g_if_eq hX 20 dX5_command_10 (by decide) (fun c_10 => ?_) (fun c_10 => ?_)
    · skip
      refine g_iconst hX (v := 0) dX5_command_20 (by decide) ?_
      have e9 : F_X5_command u p1 = (0, (upd (upd (upd u.1 2 (z_3.2.1 0)) 3 (z_3.2.1 1)) 4 (z_3.2.1 2), u.2.1, u.2.2.1, u.2.2.2.1, u.2.2.2.2.1, u.2.2.2.2.2.1, z_3.2.2)) := by simp only [F_X5_command, ← hz_3, eq_false c_6, eq_true c_10, if_true, if_false]
      rw [e9]
      exact g_iret hX dX5_command_21 rfl rfl
    · skip
      refine g_aload_n hX dX5_command_13 rfl 0 rfl ?_
      obtain ⟨z_14, hz_14⟩ : ∃ z : Int32 × (Nat → Int32), z = F_X5_doKnot u.2.1 := ⟨_, rfl⟩
      refine g_cV_I hX (n := 0) (As := []) (wc := wMa T x al ([.ref ke, .ref tr, .ref hi, .int (u.1 0), .ref sn, .int (u.1 1), .ref te, .int (z_3.2.1 0), .int (z_3.2.1 1), .int (z_3.2.1 2), .int (u.1 5)]) u.2.1) (w1 := wMa T x al ([.ref ke, .ref tr, .ref hi, .int (u.1 0), .ref sn, .int (u.1 1), .ref te, .int (z_3.2.1 0), .int (z_3.2.1 1), .int (z_3.2.1 2), .int (u.1 5)]) z_14.2) (rv := z_14.1) (st := []) 0 rfl rfl (by rw [hz_14]; exact (c_X5_doKnot (xL X) T (xB X) x al ([.ref ke, .ref tr, .ref hi, .int (u.1 0), .ref sn, .int (u.1 1), .ref te, .int (z_3.2.1 0), .int (z_3.2.1 1), .int (z_3.2.1 2), .int (u.1 5)]) u.2.1 hw)) gX5_command_X5_doKnot rfl rfl rfl ⟨Nat.le_of_ble_eq_true rfl, Nat.le_of_ble_eq_true rfl⟩ ⟨Nat.zero_le _, Nat.zero_le _⟩ ⟨by decide +kernel, by decide +kernel, by decide +kernel⟩ rfl [0, 1] rfl rfl (by decide) rfl (Nat.le_of_ble_eq_true rfl) dX5_command_14 (ws' := wMo T x al ke tr hi sn te (upd (upd (upd u.1 2 (z_3.2.1 0)) 3 (z_3.2.1 1)) 4 (z_3.2.1 2), z_14.2, u.2.2.1, u.2.2.2.1, u.2.2.2.2.1, u.2.2.2.2.2.1, z_3.2.2)) rfl ?_
      refine g_goto hX 21 dX5_command_17 (by decide) ?_
      have e9 : F_X5_command u p1 = (z_14.1, (upd (upd (upd u.1 2 (z_3.2.1 0)) 3 (z_3.2.1 1)) 4 (z_3.2.1 2), z_14.2, u.2.2.1, u.2.2.2.1, u.2.2.2.2.1, u.2.2.2.2.2.1, z_3.2.2)) := by simp only [F_X5_command, ← hz_3, ← hz_14, eq_false c_6, eq_false c_10, if_true, if_false]
      rw [e9]
      exact g_iret hX dX5_command_21 rfl rfl
