theorem mWF_doKnot {a : Nat → Int32} (h : mWF a) : mWF (F_X5_doKnot a).2 := by
  unfold F_X5_doKnot
  split
  · split
    · exact h
    · rename_i c1 c2
      have hi := kn_ix h c2
      obtain ⟨h1, h2, h3, h4, h5⟩ := h
      have e : ∀ (j : Nat) (y : Int32), (j < 12 ∨ 24 ≤ j) → upd (upd (upd a 30 (a 30 - a 27)) 33 0) (Int32.toNatClampNeg (12 + a 34)) y j = upd (upd a 30 (a 30 - a 27)) 33 0 j := fun j y hj => upd_ne (by omega)
      refine ⟨?_, ?_, ?_, ?_, ?_⟩
      · show ∃ g : Nat, g < 22 ∧ upd (upd (upd a 30 (a 30 - a 27)) 33 0) (Int32.toNatClampNeg (12 + a 34)) _ 29 = nI g
        rw [e 29 _ (by omega)]
        exact h1
      · show upd (upd (upd a 30 (a 30 - a 27)) 33 0) (Int32.toNatClampNeg (12 + a 34)) _ 34 = -5 ∨ ∃ q : Nat, q < 12 ∧ upd (upd (upd a 30 (a 30 - a 27)) 33 0) (Int32.toNatClampNeg (12 + a 34)) _ 34 = nI q
        rw [e 34 _ (by omega)]
        exact h2
      · show ∃ w : Nat, w < 6 ∧ upd (upd (upd a 30 (a 30 - a 27)) 33 0) (Int32.toNatClampNeg (12 + a 34)) _ 26 = nI w
        rw [e 26 _ (by omega)]
        exact h3
      · show ∃ t : Nat, 1 ≤ t ∧ t < 12 ∧ upd (upd (upd a 30 (a 30 - a 27)) 33 0) (Int32.toNatClampNeg (12 + a 34)) _ 24 = nI t
        rw [e 24 _ (by omega)]
        exact h4
      · show ¬ upd (upd (upd a 30 (a 30 - a 27)) 33 0) (Int32.toNatClampNeg (12 + a 34)) _ 33 = 0 → _
        rw [e 33 _ (by omega)]
        intro z
        exact absurd rfl z
  · exact h
theorem mWF_doCone {a : Nat → Int32} (h : mWF a) (p : Int32) : mWF (F_X5_doCone a p).2 := by
  unfold F_X5_doCone
  obtain ⟨h1, h2, h3, h4, h5⟩ := h
  split
  · exact ⟨h1, h2, h3, h4, h5⟩
  · rename_i c
    exact ⟨h1, h2, h3, h4, fun _ => c⟩
theorem mWF_doSet {a : Nat → Int32} (h : mWF a) {w y : Int32} (hw : vp_in w 5) (h0 : w = 0 → ∃ t : Nat, 1 ≤ t ∧ t < 12 ∧ y = nI t) (h2 : w = 2 → ∃ t : Nat, t < 6 ∧ y = nI t) : mWF (F_X5_doSet a w y).2 := by
  have key : mWF (upd a (Int32.toNatClampNeg (24 + w)) y) := by
    obtain ⟨q, hq, e⟩ := vp_in_of hw (by omega)
    have hi : Int32.toNatClampNeg (24 + w) = 24 + q := by rw [e]; exact ixc 24 q (by omega)
    rw [hi]
    obtain ⟨g1, g2, g3, g4, g5⟩ := h
    have h5 : q = 0 ∨ q = 1 ∨ q = 2 ∨ q = 3 ∨ q = 4 := by omega
    rcases h5 with z | z | z | z | z <;> subst z
    · exact ⟨g1, g2, g3, h0 e, g5⟩
    · exact ⟨g1, g2, g3, g4, g5⟩
    · exact ⟨g1, g2, h2 e, g4, g5⟩
    · exact ⟨g1, g2, g3, g4, g5⟩
    · exact ⟨g1, g2, g3, g4, g5⟩
  unfold F_X5_doSet
  split <;> exact key
theorem mWF_doWindK {p1 : Int32} : ∀ (n : Nat) (a : Nat → Int32) (j : Nat) (e : Int32), mWF a → mWF (K_X5_doWind_14 n a p1 j e).2 := by
  intro n
  induction n with
  | zero => intro a j e h; exact h
  | succ n ih =>
    intro a j e h
    unfold K_X5_doWind_14
    split
    · exact h
    · split
      · dsimp only
        split <;> exact ih _ _ _ (mWF_turns h)
      · exact h
theorem mWF_doWind {a : Nat → Int32} {p1 : Int32} (h : mWF a) : mWF (F_X5_doWind a p1).2 := by
  unfold F_X5_doWind
  split
  · exact mWF_doWindK _ _ _ _ h
  · exact h
def qOf (u : MV) : QV2 := (q3 (u.1 2) (u.1 3) (u.1 4), u.2.2.2.2.2.2)
/-- from u to u' a command was read, and perhaps done -/
def advM (u u' : MV) : Prop := u'.1 0 = u.1 0 ∧ u'.1 1 = u.1 1 ∧ u'.1 5 = u.1 5 ∧ u'.2.2.1 = u.2.2.1 ∧ u'.2.2.2.1 = u.2.2.2.1 ∧ u'.2.2.2.2.1 = u.2.2.2.2.1 ∧ u'.2.2.2.2.2.1 = u.2.2.2.2.2.1 ∧ adv (qOf u) (qOf u') ∧ (mWF u.2.1 → mWF u'.2.1)
theorem advM_leaf {u : MV} {q : QV2} {a : Nat → Int32} (h : adv (qOf u) q) (ha : mWF u.2.1 → mWF a) : advM u (upd (upd (upd u.1 2 (q.1 0)) 3 (q.1 1)) 4 (q.1 2), a, u.2.2.1, u.2.2.2.1, u.2.2.2.2.1, u.2.2.2.2.2.1, q.2) :=
  ⟨rfl, rfl, rfl, rfl, rfl, rfl, rfl, h, ha⟩
theorem advM_tr {u v w : MV} (h1 : advM u v) (h2 : advM v w) : advM u w := by
  obtain ⟨a1, a2, a3, a4, a5, a6, a7, a8, a9⟩ := h1
  obtain ⟨b1, b2, b3, b4, b5, b6, b7, b8, b9⟩ := h2
  exact ⟨b1.trans a1, b2.trans a2, b3.trans a3, b4.trans a4, b5.trans a5, b6.trans a6, b7.trans a7, adv_tr a8 b8, fun z => b9 (a9 z)⟩
theorem advM_rf {u : MV} (h : tWF (u.1 2) (u.1 3)) : advM u u := ⟨rfl, rfl, rfl, rfl, rfl, rfl, rfl, adv_rf h, id⟩
theorem advM_wf {u v : MV} (h : advM u v) : tWF (v.1 2) (v.1 3) := adv_wf h.2.2.2.2.2.2.2.1
theorem rn_loK {p1 p2 : Int32} : ∀ (n : Nat) (q : QV2), ¬ (K_X5_readsNumber_64 n q p1 p2).1 = 0 → p1 ≤ (K_X5_readsNumber_64 n q p1 p2).2.1 2 := by
  intro n
  induction n with
  | zero => intro q h1; exact absurd rfl h1
  | succ n ih =>
    intro q h1
    have fin : ∀ h1 : ¬ (if q.1 2 < p1 then ((0 : Int32), q) else (1, q)).1 = 0, p1 ≤ (if q.1 2 < p1 then ((0 : Int32), q) else (1, q)).2.1 2 := by
      intro h1
      split
      · rename_i c
        rw [if_pos c] at h1
        exact absurd rfl h1
      · rename_i c
        exact Int32.not_lt.mp c
    unfold K_X5_readsNumber_64 at h1 ⊢
    split
    · rename_i c
      rw [if_pos c] at h1
      exact fin h1
    · rename_i c1
      rw [if_neg c1] at h1
      split
      · rename_i c
        rw [if_pos c] at h1
        exact fin h1
      · rename_i c2
        rw [if_neg c2] at h1
        split
        · rename_i c
          rw [if_pos c] at h1
          exact fin h1
        · rename_i c3
          rw [if_neg c3] at h1
          exact ih _ h1
theorem rn_lo {p1 p2 : Int32} {q : QV2} (h : ¬ (F_X5_readsNumber q p1 p2).1 = 0) : p1 ≤ (F_X5_readsNumber q p1 p2).2.1 2 := by
  unfold F_X5_readsNumber at h ⊢
  split
  · rename_i c1
    rw [if_pos c1] at h
    split
    · rename_i c2
      rw [if_pos c2] at h
      exact absurd rfl h
    · rename_i c2
      rw [if_neg c2] at h
      split
      · rename_i c3
        rw [if_pos c3] at h
        exact rn_loK _ _ h
      · rename_i c3
        rw [if_neg c3] at h
        exact absurd rfl h
  · rename_i c1
    rw [if_neg c1] at h
    split
    · rename_i c2
      rw [if_pos c2] at h
      exact absurd rfl h
    · rename_i c2
      rw [if_neg c2] at h
      split
      · rename_i c3
        rw [if_pos c3] at h
        exact rn_loK _ _ h
      · rename_i c3
        rw [if_neg c3] at h
        exact absurd rfl h
theorem rng_ex {y lo hi : Int32} (h1 : lo ≤ y) (h2 : y ≤ hi) {a b : Nat} (ha : lo.toInt = (a : Int)) (hb : hi.toInt = (b : Int)) (hb3 : b < 10000 := by omega) : ∃ t : Nat, a ≤ t ∧ t < b + 1 ∧ y = nI t := by
  rw [Int32.le_iff_toInt_le, ha] at h1
  rw [Int32.le_iff_toInt_le, hb] at h2
  have hb2 := Int32.toInt_lt hi
  obtain ⟨t, ht, e⟩ := vp_in_of (x := y) (n := b + 1) (by rw [vp_in_iff]; omega) (by omega)
  refine ⟨t, ?_, ht, e⟩
  rw [e, nI_toInt (by omega)] at h1
  omega
theorem cmd_223 {u : MV} {p1 wh lo hi9 : Int32} (ht : tWF (u.1 2) (u.1 3)) (hx : vp_in wh 5) (h0 : wh = 0 → lo = 1 ∧ hi9 = 11) (h2 : wh = 2 → lo = 0 ∧ hi9 = 5) : advM u (K_X5_command_223 u p1 wh lo hi9).2 := by
  unfold K_X5_command_223
  dsimp only
  have ha : adv (qOf u) (F_X5_readsNumber (qOf u) lo hi9).2 := adv_rn ht
  split
  · exact advM_leaf ha id
  · rename_i c
    split
    · exact advM_leaf ha id
    · refine advM_leaf ha (fun hw => mWF_doSet hw hx (fun z => ?_) (fun z => ?_))
      · obtain ⟨e1, e2⟩ := h0 z
        subst e1
        subst e2
        exact rng_ex (a := 1) (b := 11) (rn_lo c) (rn_hi c) (by decide) (by decide)
      · obtain ⟨e1, e2⟩ := h2 z
        subst e1
        subst e2
        obtain ⟨t, -, h1, h2⟩ := rng_ex (a := 0) (b := 5) (rn_lo c) (rn_hi c) (by decide) (by decide)
        exact ⟨t, h1, h2⟩
theorem cmd_182 {u : MV} {p1 wh lo : Int32} (ht : tWF (u.1 2) (u.1 3)) (hx : vp_in wh 5) (h0 : wh = 0 → lo = 1) (h2 : wh = 2 → lo = 0) : advM u (K_X5_command_182 u p1 wh lo).2 := by
  unfold K_X5_command_182
  split
  · rename_i c
    exact cmd_223 ht hx (fun z => ⟨h0 z, rfl⟩) (fun z => by rw [c] at z; exact absurd z (by decide))
  · rename_i c
    split
    · rename_i c1
      exact cmd_223 ht hx (fun z => absurd z c) (fun z => by rw [c1] at z; exact absurd z (by decide))
    · split
      · exact cmd_223 ht hx (fun z => absurd z c) (fun z => ⟨h2 z, rfl⟩)
      · rename_i c2
        split
        · exact cmd_223 ht hx (fun z => absurd z c) (fun z => absurd z c2)
        · exact cmd_223 ht hx (fun z => absurd z c) (fun z => absurd z c2)
theorem advM_up {u : MV} (h : tWF (u.1 2) (u.1 3)) (h1 : ¬ u.1 2 ≤ u.1 3) : advM u (upd u.1 3 (u.1 3 + 1), u.2) :=
  ⟨rfl, rfl, rfl, rfl, rfl, rfl, rfl, adv_inc (q := qOf u) (c := q3 (u.1 2) (u.1 3 + 1) (u.1 4)) h h1 rfl rfl, id⟩
theorem cmd_106 {u : MV} {p1 : Int32} (ht : tWF (u.1 2) (u.1 3)) : advM u (K_X5_command_106 u p1).2 := by
  unfold K_X5_command_106
  split
  · exact advM_rf ht
  · rename_i cl
    have hu := advM_up ht cl
    split
    · exact advM_rf ht
    · rename_i cw
      have hx := which5 cw
      split
      · rename_i c0
        exact advM_tr hu (cmd_182 (advM_wf hu) hx (fun _ => rfl) (fun z => by rw [c0] at z; exact absurd z (by decide)))
      · rename_i c0
        split
        · rename_i c3
          have h3 : ∀ y : Int32, 3 ≤ y → y = 2 → False := fun y a b => by
            rw [b] at a
            exact absurd a (by decide)
          split
          · exact advM_tr hu (cmd_182 (advM_wf hu) hx (fun z => absurd z c0) (fun z => (h3 _ c3 z).elim))
          · exact advM_tr hu (cmd_182 (advM_wf hu) hx (fun z => absurd z c0) (fun z => (h3 _ c3 z).elim))
        · exact advM_tr hu (cmd_182 (advM_wf hu) hx (fun z => absurd z c0) (fun _ => rfl))
theorem cmd_64 {u : MV} {p1 : Int32} (ht : tWF (u.1 2) (u.1 3)) : advM u (K_X5_command_64 u p1).2 := by
  unfold K_X5_command_64
  have a : adv (qOf u) (F_X5_takes (qOf u) 99).2 := adv_takes ht
  have b := advM_leaf a id
  dsimp only
  split
  · exact advM_tr b (cmd_106 (advM_wf b))
  · have a2 := adv_tr a (adv_rn (p1 := 1) (p2 := 9999) (adv_wf a))
    split
    · exact advM_leaf a2 id
    · split
      · exact advM_leaf a2 id
      · exact advM_leaf a2 (fun hw => mWF_doCone hw _)
theorem cmd_22 {u : MV} {p1 : Int32} (ht : tWF (u.1 2) (u.1 3)) : advM u (K_X5_command_22 u p1).2 := by
  unfold K_X5_command_22
  have a : adv (qOf u) (F_X5_takes (qOf u) 103).2 := adv_takes ht
  have b := advM_leaf a id
  dsimp only
  split
  · exact advM_tr b (cmd_64 (advM_wf b))
  · have a2 := adv_tr a (adv_rn (p1 := 1) (p2 := 500) (adv_wf a))
    split
    · exact advM_leaf a2 id
    · split
      · exact advM_leaf a2 id
      · exact advM_leaf a2 (fun hw => mWF_doWind hw)
theorem cmd_adv {u : MV} {p1 : Int32} (ht : tWF (u.1 2) (u.1 3)) : advM u (F_X5_command u p1).2 := by
  unfold F_X5_command
  have a : adv (qOf u) (F_X5_takes (qOf u) 110).2 := adv_takes ht
  have b := advM_leaf a id
  dsimp only
  split
  · exact advM_tr b (cmd_22 (advM_wf b))
  · split
    · exact advM_leaf a id
    · exact advM_leaf a (fun hw => mWF_doKnot hw)
/-- reading on: the place goes on with each comma -/
def fInv (k : Nat) (n s e : Int32) : Prop := tWF n s ∧ ((¬ e = 0 ∧ ∃ q : Nat, s = nI q ∧ q ≤ 60 ∧ 62 ≤ q + k) ∨ (e = 0 ∧ 1 ≤ k))
theorem fInv_z {n s e : Int32} (h : fInv 0 n s e) : False := by
  obtain ⟨-, h | h⟩ := h
  · obtain ⟨-, q, -, h1, h2⟩ := h
    omega
  · omega
theorem fInv_0 {n : Int32} (h : ∃ m : Nat, m ≤ 60 ∧ n = nI m) : fInv 62 n 0 1 := ⟨tWF_0 h, Or.inl ⟨by decide, 0, rfl, by omega, by omega⟩⟩
theorem takes_01 (q : QV2) (a : Int32) : (F_X5_takes q a).1 = 0 ∨ ((F_X5_takes q a).1 = 1 ∧ ¬ F_X5_isHere q a a = 0) := by
  unfold F_X5_takes
  split
  · rename_i c
    exact Or.inl c
  · rename_i c
    rcases isHere_b q a a with h | h
    · exact absurd h c
    · exact Or.inr ⟨h, c⟩
theorem fInv_step {k : Nat} {u u' : MV} {e a : Int32} {z : Int32 × QV2} (h : fInv (k + 1) (u.1 2) (u.1 3) e) (he : ¬ e = 0) (ha : advM u u') (hz : z = F_X5_takes (q3 (u'.1 2) (u'.1 3) (u'.1 4), u'.2.2.2.2.2.2) a) : fInv k (z.2.1 0) (z.2.1 1) z.1 := by
  obtain ⟨h1, h2 | h2⟩ := h
  · obtain ⟨-, q, hq, hq6, hk⟩ := h2
    obtain ⟨-, m, s, s', b1, b2, b3, b4, b5, b6, b7⟩ := ha.2.2.2.2.2.2.2.1
    have hs : q = s := nI_inj (hq.symm.trans b5) hq6 (by omega)
    subst hs
    have hwf : tWF (u'.1 2) (u'.1 3) := advM_wf ha
    refine ⟨by rw [hz]; exact tWF_takes hwf, ?_⟩
    rcases takes_01 (q3 (u'.1 2) (u'.1 3) (u'.1 4), u'.2.2.2.2.2.2) a with g | ⟨g, gh⟩
    · exact Or.inr ⟨by rw [hz]; exact g, by omega⟩
    · refine Or.inl ⟨by rw [hz, g]; decide, s' + 1, ?_, ?_, by omega⟩
      · rw [hz]
        unfold F_X5_takes
        rw [if_neg gh]
        show u'.1 3 + 1 = _
        rw [show u'.1 3 = nI s' from b7, nI_1]
      · have hl := here_lt gh
        have hl2 : ¬ nI m ≤ nI s' := by
          rw [← b6, ← b7]
          exact hl
        have : s' < m := Nat.lt_of_not_le (fun z => hl2 (nI_le z (by omega)))
        omega
  · exact absurd h2.1 he
theorem hh_tr {u v : MV} (h : advM u v) (hh : ∃ m : Nat, m ≤ 4 ∧ u.1 0 = nI m) : ∃ m : Nat, m ≤ 4 ∧ v.1 0 = nI m := by rw [h.1]; exact hh
/-! X5_fault -/
def rmX5_fault : Room := { frames := 6, cells := 0, slots := 0, locals := 131 }
theorem k_X5_fault_0 : Cond.fieldLink RX5 118 RX5 (TX5 9).2.1 (TX5 9).2.2.1 ∈ wsX5_fault := List.mem_of_getElem? (i := 1) rfl
theorem h_X5_fault_X5 : ∀ w ∈ u_ws RX5 TX5 12, w ∈ wsX5_fault := fun w h => List.mem_cons_of_mem _ (List.mem_append_right _ h)
theorem k_X5_fault_1 : Cond.fieldLink RX5 115 RX5 (TX5 8).2.1 (TX5 8).2.2.1 ∈ wsX5_fault := List.mem_of_getElem? (i := 2) rfl
def K_X5_fault_7 : Nat → MV → Int32 → Int32 × MV
  | 0, u, e => (0, u)
  | n + 1, u, e => (if e = 0 then (if (u.1 3) = (u.1 2) then ((-5), u) else ((u.1 3), u)) else (let z_13 := F_X5_command u 0
  (if z_13.1 = (-2) then ((z_13.2.1 3), z_13.2) else (let z_29 := F_X5_takes (q3 (z_13.2.1 2) (z_13.2.1 3) (z_13.2.1 4), z_13.2.2.2.2.2.2.2) 44
  K_X5_fault_7 n (upd (upd (upd z_13.2.1 2 (z_29.2.1 0)) 3 (z_29.2.1 1)) 4 (z_29.2.1 2), z_13.2.2.1, z_13.2.2.2.1, z_13.2.2.2.2.1, z_13.2.2.2.2.2.1, z_13.2.2.2.2.2.2.1, z_29.2.2) z_29.1))))
def F_X5_fault (u : MV) : Int32 × MV :=
  K_X5_fault_7 62 (upd u.1 3 0, u.2.1, u.2.2.1, u.2.2.2.1, u.2.2.2.2.1, u.2.2.2.2.2.1, u.2.2.2.2.2.2) 1
set_option maxHeartbeats 4000000 in
set_option maxRecDepth 100000 in
theorem k_X5_fault_7 {T : TT} {X : CX} (hX : Fit T X (yX5_fault).cls 2 wsX5_fault cX5_fault (some .int) rmX5_fault) (x al ke tr hi sn te : Nat) : ∀ (n : Nat) (u : MV) (e : Int32) (hw : mWF u.2.1) (hf : fInv n (u.1 2) (u.1 3) e), G T X (QI T X 0 0 ((K_X5_fault_7 n u e).1) (wMo T x al ke tr hi sn te ((K_X5_fault_7 n u e).2))) 0 0 (wMo T x al ke tr hi sn te u) [(1, .int e), (0, .ref x)] 7 [] := by
  intro n
  induction n with
  | zero =>
    intro u e hw hf
    exact (fInv_z hf).elim
  | succ n ih =>
    intro u e hw hf
    refine g_iload_n hX dX5_fault_7 rfl 0 rfl ?_
    refine g_if_eq hX 36 dX5_fault_8 (by decide) (fun c_8 => ?_) (fun c_8 => ?_)
    · skip
      refine g_aload_n hX dX5_fault_36 rfl 1 rfl ?_
      refine g_get hX 5 h_X5_fault_X5 0 rfl rfl 9 (by decide) k_X5_fault_0 rfl (v := .int (u.1 3)) rfl dX5_fault_37 ?_
      refine g_aload_n hX dX5_fault_40 rfl 1 rfl ?_
      refine g_get hX 5 h_X5_fault_X5 0 rfl rfl 8 (by decide) k_X5_fault_1 rfl (v := .int (u.1 2)) rfl dX5_fault_41 ?_
      refine g_icmp_ne hX 52 dX5_fault_44 (by decide) (fun c_44 => ?_) (fun c_44 => ?_)
      · skip
        refine g_aload_n hX dX5_fault_52 rfl 1 rfl ?_
        refine g_get hX 5 h_X5_fault_X5 0 rfl rfl 9 (by decide) k_X5_fault_0 rfl (v := .int (u.1 3)) rfl dX5_fault_53 ?_
        have e9 : K_X5_fault_7 (n + 1) u e = ((u.1 3), u) := by simp only [K_X5_fault_7, eq_true c_8, eq_false c_44, if_true, if_false]
        rw [e9]
        exact g_iret hX dX5_fault_56 rfl rfl
      · skip
        refine g_bipush hX (v := (-5)) dX5_fault_47 (by decide) ?_
        refine g_goto hX 56 dX5_fault_49 (by decide) ?_
        have e9 : K_X5_fault_7 (n + 1) u e = ((-5), u) := by simp only [K_X5_fault_7, eq_true c_8, eq_true c_44, if_true, if_false]
        rw [e9]
        exact g_iret hX dX5_fault_56 rfl rfl
    · skip
      refine g_aload_n hX dX5_fault_11 rfl 1 rfl ?_
      refine g_iconst hX (v := 0) dX5_fault_12 (by decide) ?_
      obtain ⟨z_13, hz_13⟩ : ∃ z : Int32 × MV, z = F_X5_command u 0 := ⟨_, rfl⟩
      refine g_cV_I hX (n := 1) (As := [.int 0]) (wc := wMo T x al ke tr hi sn te u) (w1 := wMo T x al ke tr hi sn te z_13.2) (rv := z_13.1) (st := []) 0 rfl rfl (by rw [hz_13]; exact (c_X5_command (xL X) T (xB X) x al ke tr hi sn te u 0 hw hf.1)) gX5_fault_X5_command rfl rfl rfl ⟨Nat.le_of_ble_eq_true rfl, Nat.le_of_ble_eq_true rfl⟩ ⟨Nat.zero_le _, Nat.zero_le _⟩ ⟨by decide +kernel, by decide +kernel, by decide +kernel⟩ rfl [0, 1, 2, 3, 4, 5, 6] rfl rfl (by decide) rfl (Nat.le_of_ble_eq_true rfl) dX5_fault_13 (ws' := wMo T x al ke tr hi sn te z_13.2) rfl ?_
      have ha_13 : advM u z_13.2 := by rw [hz_13]; exact cmd_adv hf.1
      refine g_bipush hX (v := (-2)) dX5_fault_16 (by decide) ?_
      refine g_icmp_ne hX 26 dX5_fault_18 (by decide) (fun c_18 => ?_) (fun c_18 => ?_)
      · skip
        refine g_aload_n hX dX5_fault_26 rfl 1 rfl ?_
        refine g_bipush hX (v := 44) dX5_fault_27 (by decide) ?_
        obtain ⟨z_29, hz_29⟩ : ∃ z : Int32 × QV2, z = F_X5_takes (q3 (z_13.2.1 2) (z_13.2.1 3) (z_13.2.1 4), z_13.2.2.2.2.2.2.2) 44 := ⟨_, rfl⟩
        refine g_cV_I hX (n := 1) (As := [.int 44]) (wc := wMt T x te (.ref al) (.ref ke) (.ref tr) (.ref hi) (.int (z_13.2.1 0)) (.ref sn) (.int (z_13.2.1 1)) (.int (z_13.2.1 5)) (q3 (z_13.2.1 2) (z_13.2.1 3) (z_13.2.1 4), z_13.2.2.2.2.2.2.2)) (w1 := wMt T x te (.ref al) (.ref ke) (.ref tr) (.ref hi) (.int (z_13.2.1 0)) (.ref sn) (.int (z_13.2.1 1)) (.int (z_13.2.1 5)) z_29.2) (rv := z_29.1) (st := []) 0 rfl rfl (by rw [hz_29]; exact (c_X5_takes (xL X) T (xB X) x te (.ref al) (.ref ke) (.ref tr) (.ref hi) (.int (z_13.2.1 0)) (.ref sn) (.int (z_13.2.1 1)) (.int (z_13.2.1 5)) (q3 (z_13.2.1 2) (z_13.2.1 3) (z_13.2.1 4), z_13.2.2.2.2.2.2.2) 44 (advM_wf ha_13))) gX5_fault_X5_takes rfl rfl rfl ⟨Nat.le_of_ble_eq_true rfl, Nat.le_of_ble_eq_true rfl⟩ ⟨Nat.zero_le _, Nat.zero_le _⟩ ⟨by decide +kernel, by decide +kernel, by decide +kernel⟩ rfl [0, 6] rfl rfl (by decide) rfl (Nat.le_of_ble_eq_true rfl) dX5_fault_29 (ws' := wMo T x al ke tr hi sn te (upd (upd (upd z_13.2.1 2 (z_29.2.1 0)) 3 (z_29.2.1 1)) 4 (z_29.2.1 2), z_13.2.2.1, z_13.2.2.2.1, z_13.2.2.2.2.1, z_13.2.2.2.2.2.1, z_13.2.2.2.2.2.2.1, z_29.2.2)) rfl ?_
        refine g_istore_n hX (lv' := [(1, .int z_29.1), (0, .ref x)]) dX5_fault_32 rfl (by decide) rfl ?_
        refine g_goto hX 7 dX5_fault_33 (by decide) ?_
        have e9 : K_X5_fault_7 (n + 1) u e = K_X5_fault_7 n (upd (upd (upd z_13.2.1 2 (z_29.2.1 0)) 3 (z_29.2.1 1)) 4 (z_29.2.1 2), z_13.2.2.1, z_13.2.2.2.1, z_13.2.2.2.2.1, z_13.2.2.2.2.2.1, z_13.2.2.2.2.2.2.1, z_29.2.2) z_29.1 := by simp only [K_X5_fault_7, ← hz_13, ← hz_29, eq_false c_8, eq_false c_18, if_true, if_false]
        rw [e9]
        refine g_lv (lv' := [(1, .int z_29.1), (0, .ref x)]) [0, 1] rfl ?_
        exact ih (upd (upd (upd z_13.2.1 2 (z_29.2.1 0)) 3 (z_29.2.1 1)) 4 (z_29.2.1 2), z_13.2.2.1, z_13.2.2.2.1, z_13.2.2.2.2.1, z_13.2.2.2.2.2.1, z_13.2.2.2.2.2.2.1, z_29.2.2) z_29.1 (ha_13.2.2.2.2.2.2.2.2 hw) (fInv_step hf c_8 ha_13 hz_29)
      · skip
        refine g_aload_n hX dX5_fault_21 rfl 1 rfl ?_
        refine g_get hX 5 h_X5_fault_X5 0 rfl rfl 9 (by decide) k_X5_fault_0 rfl (v := .int (z_13.2.1 3)) rfl dX5_fault_22 ?_
        have e9 : K_X5_fault_7 (n + 1) u e = ((z_13.2.1 3), z_13.2) := by simp only [K_X5_fault_7, ← hz_13, eq_false c_8, eq_true c_18, if_true, if_false]
        rw [e9]
        exact g_iret hX dX5_fault_25 rfl rfl
set_option maxHeartbeats 4000000 in
set_option maxRecDepth 100000 in
theorem c_X5_fault (l : Launch) (T : TT) (b0 : Nat) (x al ke tr hi sn te : Nat) (u : MV) (hw : mWF u.2.1) (hl : ∃ m : Nat, m ≤ 60 ∧ u.1 2 = nI m) : ConI l T b0 yX5_fault wsX5_fault rmX5_fault [.ref x] (wMo T x al ke tr hi sn te u) ((F_X5_fault u).1) (wMo T x al ke tr hi sn te ((F_X5_fault u).2)) := by
  refine conI_of (cc := cX5_fault) (maxL := 2) (ret := (some .int)) (lv0 := [(0, .ref x)]) (by decide +kernel) rfl (Nat.le_of_ble_eq_true rfl) rfl (fun X hX => ?_)
  refine g_aload_n hX dX5_fault_0 rfl 0 rfl ?_
  refine g_iconst hX (v := 0) dX5_fault_1 (by decide) ?_
  refine g_put hX 5 h_X5_fault_X5 0 rfl rfl 9 (by decide) tyX5 tyX5_ok nmX5 k_X5_fault_0 rfl rfl rfl rfl rfl (Nat.le_of_ble_eq_true rfl) dX5_fault_2 (ws' := wMo T x al ke tr hi sn te (upd u.1 3 0, u.2.1, u.2.2.1, u.2.2.2.1, u.2.2.2.2.1, u.2.2.2.2.2.1, u.2.2.2.2.2.2)) rfl ?_
  refine g_iconst hX (v := 1) dX5_fault_5 (by decide) ?_
  refine g_istore_n hX (lv' := [(1, .int 1), (0, .ref x)]) dX5_fault_6 rfl (by decide) rfl ?_
  have e9 : F_X5_fault u = K_X5_fault_7 62 (upd u.1 3 0, u.2.1, u.2.2.1, u.2.2.2.1, u.2.2.2.2.1, u.2.2.2.2.2.1, u.2.2.2.2.2.2) 1 := by simp only [F_X5_fault, if_true, if_false]
  rw [e9]
  refine g_lv (lv' := [(1, .int 1), (0, .ref x)]) [0, 1] rfl ?_
  exact k_X5_fault_7 hX x al ke tr hi sn te 62 (upd u.1 3 0, u.2.1, u.2.2.1, u.2.2.2.1, u.2.2.2.2.1, u.2.2.2.2.2.1, u.2.2.2.2.2.2) 1 hw (fInv_0 hl)
theorem fault_K : ∀ (n : Nat) (u : MV) (e : Int32), tWF (u.1 2) (u.1 3) → advM u (K_X5_fault_7 n u e).2 := by
  intro n
  induction n with
  | zero => intro u e h; exact advM_rf h
  | succ n ih =>
    intro u e h
    unfold K_X5_fault_7
    have ha : advM u (F_X5_command u 0).2 := cmd_adv h
    split
    · split
      · exact advM_rf h
      · exact advM_rf h
    · dsimp only
      generalize F_X5_command u 0 = r at ha ⊢
      have hb : advM r.2 (upd (upd (upd r.2.1 2 ((F_X5_takes (qOf r.2) 44).2.1 0)) 3 ((F_X5_takes (qOf r.2) 44).2.1 1)) 4 ((F_X5_takes (qOf r.2) 44).2.1 2), r.2.2.1, r.2.2.2.1, r.2.2.2.2.1, r.2.2.2.2.2.1, r.2.2.2.2.2.2.1, (F_X5_takes (qOf r.2) 44).2.2) := advM_leaf (adv_takes (advM_wf ha)) id
      split
      · exact ha
      · exact advM_tr (advM_tr ha hb) (ih _ _ (advM_wf hb))
/-- fault(): what it leaves as it was -/
theorem fault_adv {u : MV} (hl : ∃ m : Nat, m ≤ 60 ∧ u.1 2 = nI m) : advM (upd u.1 3 0, u.2) (F_X5_fault u).2 := by
  unfold F_X5_fault
  exact fault_K 62 (upd u.1 3 0, u.2) 1 (tWF_0 hl)
theorem fault_hl {u : MV} (hl : ∃ m : Nat, m ≤ 60 ∧ u.1 2 = nI m) : ∃ m : Nat, m ≤ 60 ∧ (F_X5_fault u).2.1 2 = nI m := by
  obtain ⟨m, s, h1, h2, h3, h4⟩ := advM_wf (fault_adv hl)
  exact ⟨m, h1, h3⟩
/-! X5_perform -/
def rmX5_perform : Room := { frames := 7, cells := 0, slots := 0, locals := 152 }
theorem k_X5_perform_0 : Cond.fieldLink RX5 118 RX5 (TX5 9).2.1 (TX5 9).2.2.1 ∈ wsX5_perform := List.mem_of_getElem? (i := 1) rfl
theorem h_X5_perform_X5 : ∀ w ∈ u_ws RX5 TX5 12, w ∈ wsX5_perform := fun w h => List.mem_cons_of_mem _ (List.mem_append_right _ h)
theorem k_X5_perform_1 : Cond.fieldLink RX5 13 RX5 (TX5 1).2.1 (TX5 1).2.2.1 ∈ wsX5_perform := List.mem_of_getElem? (i := 2) rfl
theorem k_X5_perform_2 : Cond.fieldLink RX5 7 RX5 (TX5 0).2.1 (TX5 0).2.2.1 ∈ wsX5_perform := List.mem_of_getElem? (i := 3) rfl
theorem k_X5_perform_3 : Cond.fieldLink RX5 28 RX5 (TX5 11).2.1 (TX5 11).2.2.1 ∈ wsX5_perform := List.mem_of_getElem? (i := 4) rfl
def K_X5_perform_29 : Nat → MV → Nat → Int32 → Int32 × MV
  | 0, u, j, e => (0, u)
  | n + 1, u, j, e => (if e = 0 then (let z_77 := F_X5_acted u (nI j)
  (z_77.1, z_77.2)) else (let z_35 := F_X5_command u 1
  (if z_35.1 = (-4) then ((-4), (upd z_35.2.1 5 (nI j), z_35.2.2.2.1, z_35.2.2.2.1, z_35.2.2.2.2.1, z_35.2.2.2.2.2.1, z_35.2.2.2.2.2.2.1, z_35.2.2.2.2.2.2.2)) else (let z_68 := F_X5_takes (q3 (z_35.2.1 2) (z_35.2.1 3) (z_35.2.1 4), z_35.2.2.2.2.2.2.2) 44
  K_X5_perform_29 n (upd (upd (upd z_35.2.1 2 (z_68.2.1 0)) 3 (z_68.2.1 1)) 4 (z_68.2.1 2), z_35.2.2.1, z_35.2.2.2.1, z_35.2.2.2.2.1, z_35.2.2.2.2.2.1, z_35.2.2.2.2.2.2.1, z_68.2.2) (j + 1) z_68.1))))
def F_X5_perform (u : MV) : Int32 × MV :=
  (let z_1 := F_X5_fault u
  (if z_1.1 = (-5) then K_X5_perform_29 62 (upd z_1.2.1 3 0, z_1.2.2.1, z_1.2.2.1, z_1.2.2.2.2.1, z_1.2.2.2.2.2.1, z_1.2.2.2.2.2.2.1, z_1.2.2.2.2.2.2.2) 0 1 else (((-100) - z_1.1), z_1.2)))
set_option maxHeartbeats 4000000 in
set_option maxRecDepth 100000 in
theorem k_X5_perform_29 {T : TT} {X : CX} (hX : Fit T X (yX5_perform).cls 4 wsX5_perform cX5_perform (some .int) rmX5_perform) (x al ke tr hi sn te : Nat) : ∀ (n : Nat) (u : MV) (j : Nat) (e : Int32) (hw : mWF u.2.1) (hf : fInv n (u.1 2) (u.1 3) e) (hh : ∃ m : Nat, m ≤ 4 ∧ u.1 0 = nI m), G T X (QI T X 0 0 ((K_X5_perform_29 n u j e).1) (wMo T x al ke tr hi sn te ((K_X5_perform_29 n u j e).2))) 0 0 (wMo T x al ke tr hi sn te u) [(2, .int (nI j)), (3, .int e), (0, .ref x)] 29 [] := by
  intro n
  induction n with
  | zero =>
    intro u j e hw hf hh
    exact (fInv_z hf).elim
  | succ n ih =>
    intro u j e hw hf hh
    refine g_iload_n hX dX5_perform_29 rfl 1 rfl ?_
    refine g_if_eq hX 75 dX5_perform_30 (by decide) (fun c_30 => ?_) (fun c_30 => ?_)
    · skip
      refine g_aload_n hX dX5_perform_75 rfl 2 rfl ?_
      refine g_iload_n hX dX5_perform_76 rfl 0 rfl ?_
      obtain ⟨z_77, hz_77⟩ : ∃ z : Int32 × MV, z = F_X5_acted u (nI j) := ⟨_, rfl⟩
      refine g_cV_I hX (n := 1) (As := [.int (nI j)]) (wc := wMo T x al ke tr hi sn te u) (w1 := wMo T x al ke tr hi sn te z_77.2) (rv := z_77.1) (st := []) 0 rfl rfl (by rw [hz_77]; exact (c_X5_acted (xL X) T (xB X) x al ke tr hi sn te u (nI j) hh)) gX5_perform_X5_acted rfl rfl rfl ⟨Nat.le_of_ble_eq_true rfl, Nat.le_of_ble_eq_true rfl⟩ ⟨Nat.zero_le _, Nat.zero_le _⟩ ⟨by decide +kernel, by decide +kernel, by decide +kernel⟩ rfl [0, 1, 2, 3, 4, 5, 6] rfl rfl (by decide) rfl (Nat.le_of_ble_eq_true rfl) dX5_perform_77 (ws' := wMo T x al ke tr hi sn te z_77.2) rfl ?_
      have e9 : K_X5_perform_29 (n + 1) u j e = (z_77.1, z_77.2) := by simp only [K_X5_perform_29, ← hz_77, eq_true c_30, if_true, if_false]
      rw [e9]
      exact g_iret hX dX5_perform_80 rfl rfl
    · skip
      refine g_aload_n hX dX5_perform_33 rfl 2 rfl ?_
      refine g_iconst hX (v := 1) dX5_perform_34 (by decide) ?_
      obtain ⟨z_35, hz_35⟩ : ∃ z : Int32 × MV, z = F_X5_command u 1 := ⟨_, rfl⟩
      refine g_cV_I hX (n := 1) (As := [.int 1]) (wc := wMo T x al ke tr hi sn te u) (w1 := wMo T x al ke tr hi sn te z_35.2) (rv := z_35.1) (st := []) 0 rfl rfl (by rw [hz_35]; exact (c_X5_command (xL X) T (xB X) x al ke tr hi sn te u 1 hw hf.1)) gX5_perform_X5_command rfl rfl rfl ⟨Nat.le_of_ble_eq_true rfl, Nat.le_of_ble_eq_true rfl⟩ ⟨Nat.zero_le _, Nat.zero_le _⟩ ⟨by decide +kernel, by decide +kernel, by decide +kernel⟩ rfl [0, 1, 2, 3, 4, 5, 6] rfl rfl (by decide) rfl (Nat.le_of_ble_eq_true rfl) dX5_perform_35 (ws' := wMo T x al ke tr hi sn te z_35.2) rfl ?_
      have ha_35 : advM u z_35.2 := by rw [hz_35]; exact cmd_adv hf.1
      refine g_bipush hX (v := (-4)) dX5_perform_38 (by decide) ?_
      refine g_icmp_ne hX 62 dX5_perform_40 (by decide) (fun c_40 => ?_) (fun c_40 => ?_)
      · skip
        refine g_iinc hX (lv' := [(2, .int (nI (j + 1))), (3, .int e), (0, .ref x)]) (v := (nI (j + 1))) 0 dX5_perform_62 rfl (nI_1 _) (by decide) rfl ?_
        refine g_aload_n hX dX5_perform_65 rfl 2 rfl ?_
        refine g_bipush hX (v := 44) dX5_perform_66 (by decide) ?_
        obtain ⟨z_68, hz_68⟩ : ∃ z : Int32 × QV2, z = F_X5_takes (q3 (z_35.2.1 2) (z_35.2.1 3) (z_35.2.1 4), z_35.2.2.2.2.2.2.2) 44 := ⟨_, rfl⟩
        refine g_cV_I hX (n := 1) (As := [.int 44]) (wc := wMt T x te (.ref al) (.ref ke) (.ref tr) (.ref hi) (.int (z_35.2.1 0)) (.ref sn) (.int (z_35.2.1 1)) (.int (z_35.2.1 5)) (q3 (z_35.2.1 2) (z_35.2.1 3) (z_35.2.1 4), z_35.2.2.2.2.2.2.2)) (w1 := wMt T x te (.ref al) (.ref ke) (.ref tr) (.ref hi) (.int (z_35.2.1 0)) (.ref sn) (.int (z_35.2.1 1)) (.int (z_35.2.1 5)) z_68.2) (rv := z_68.1) (st := []) 0 rfl rfl (by rw [hz_68]; exact (c_X5_takes (xL X) T (xB X) x te (.ref al) (.ref ke) (.ref tr) (.ref hi) (.int (z_35.2.1 0)) (.ref sn) (.int (z_35.2.1 1)) (.int (z_35.2.1 5)) (q3 (z_35.2.1 2) (z_35.2.1 3) (z_35.2.1 4), z_35.2.2.2.2.2.2.2) 44 (advM_wf ha_35))) gX5_perform_X5_takes rfl rfl rfl ⟨Nat.le_of_ble_eq_true rfl, Nat.le_of_ble_eq_true rfl⟩ ⟨Nat.zero_le _, Nat.zero_le _⟩ ⟨by decide +kernel, by decide +kernel, by decide +kernel⟩ rfl [0, 6] rfl rfl (by decide) rfl (Nat.le_of_ble_eq_true rfl) dX5_perform_68 (ws' := wMo T x al ke tr hi sn te (upd (upd (upd z_35.2.1 2 (z_68.2.1 0)) 3 (z_68.2.1 1)) 4 (z_68.2.1 2), z_35.2.2.1, z_35.2.2.2.1, z_35.2.2.2.2.1, z_35.2.2.2.2.2.1, z_35.2.2.2.2.2.2.1, z_68.2.2)) rfl ?_
        refine g_istore_n hX (lv' := [(3, .int z_68.1), (2, .int (nI (j + 1))), (0, .ref x)]) dX5_perform_71 rfl (by decide) rfl ?_
        refine g_goto hX 29 dX5_perform_72 (by decide) ?_
        have e9 : K_X5_perform_29 (n + 1) u j e = K_X5_perform_29 n (upd (upd (upd z_35.2.1 2 (z_68.2.1 0)) 3 (z_68.2.1 1)) 4 (z_68.2.1 2), z_35.2.2.1, z_35.2.2.2.1, z_35.2.2.2.2.1, z_35.2.2.2.2.2.1, z_35.2.2.2.2.2.2.1, z_68.2.2) (j + 1) z_68.1 := by simp only [K_X5_perform_29, ← hz_35, ← hz_68, eq_false c_30, eq_false c_40, if_true, if_false]
        rw [e9]
        refine g_lv (lv' := [(2, .int (nI (j + 1))), (3, .int z_68.1), (0, .ref x)]) [1, 0, 2] rfl ?_
        exact ih (upd (upd (upd z_35.2.1 2 (z_68.2.1 0)) 3 (z_68.2.1 1)) 4 (z_68.2.1 2), z_35.2.2.1, z_35.2.2.2.1, z_35.2.2.2.2.1, z_35.2.2.2.2.2.1, z_35.2.2.2.2.2.2.1, z_68.2.2) (j + 1) z_68.1 (ha_35.2.2.2.2.2.2.2.2 hw) (fInv_step hf c_30 ha_35 hz_68) (show ∃ m : Nat, m ≤ 4 ∧ z_35.2.1 0 = nI m from hh_tr ha_35 hh)
      · skip
        refine g_aload_n hX dX5_perform_43 rfl 2 rfl ?_
        refine g_get hX 5 h_X5_perform_X5 0 rfl rfl 1 (by decide) k_X5_perform_1 rfl (v := .ref ke) rfl dX5_perform_44 ?_
        refine g_aload_n hX dX5_perform_47 rfl 2 rfl ?_
        refine g_get hX 5 h_X5_perform_X5 0 rfl rfl 0 (by decide) k_X5_perform_2 rfl (v := .ref al) rfl dX5_perform_48 ?_
        refine g_cS_V hX (n := 2) (As := [.ref ke, .ref al]) (wc := wAr T ke 37 z_35.2.2.2.1 ++ wAr T al 37 z_35.2.2.1) (w1 := wAr T ke 37 z_35.2.2.2.1 ++ wAr T al 37 z_35.2.2.2.1) (st := []) (c_X5_copy (xL X) T (xB X) ke al z_35.2.2.2.1 z_35.2.2.1) gX5_perform_X5_copy rfl rfl rfl ⟨Nat.le_of_ble_eq_true rfl, Nat.le_of_ble_eq_true rfl⟩ ⟨Nat.zero_le _, Nat.zero_le _⟩ ⟨by decide +kernel, by decide +kernel, by decide +kernel⟩ rfl [2, 1] rfl rfl (by decide) rfl (Nat.le_of_ble_eq_true rfl) dX5_perform_51 (ws' := wMo T x al ke tr hi sn te (z_35.2.1, z_35.2.2.2.1, z_35.2.2.2.1, z_35.2.2.2.2.1, z_35.2.2.2.2.2.1, z_35.2.2.2.2.2.2.1, z_35.2.2.2.2.2.2.2)) rfl ?_
        refine g_aload_n hX dX5_perform_54 rfl 2 rfl ?_
        refine g_iload_n hX dX5_perform_55 rfl 0 rfl ?_
        refine g_put hX 5 h_X5_perform_X5 0 rfl rfl 11 (by decide) tyX5 tyX5_ok nmX5 k_X5_perform_3 rfl rfl rfl rfl rfl (Nat.le_of_ble_eq_true rfl) dX5_perform_56 (ws' := wMo T x al ke tr hi sn te (upd z_35.2.1 5 (nI j), z_35.2.2.2.1, z_35.2.2.2.1, z_35.2.2.2.2.1, z_35.2.2.2.2.2.1, z_35.2.2.2.2.2.2.1, z_35.2.2.2.2.2.2.2)) rfl ?_
        refine g_bipush hX (v := (-4)) dX5_perform_59 (by decide) ?_
        have e9 : K_X5_perform_29 (n + 1) u j e = ((-4), (upd z_35.2.1 5 (nI j), z_35.2.2.2.1, z_35.2.2.2.1, z_35.2.2.2.2.1, z_35.2.2.2.2.2.1, z_35.2.2.2.2.2.2.1, z_35.2.2.2.2.2.2.2)) := by simp only [K_X5_perform_29, ← hz_35, eq_false c_30, eq_true c_40, if_true, if_false]
        rw [e9]
        exact g_iret hX dX5_perform_61 rfl rfl
set_option maxHeartbeats 4000000 in
set_option maxRecDepth 100000 in
theorem c_X5_perform (l : Launch) (T : TT) (b0 : Nat) (x al ke tr hi sn te : Nat) (u : MV) (hw : mWF u.2.1) (hl : ∃ m : Nat, m ≤ 60 ∧ u.1 2 = nI m) (hh : ∃ m : Nat, m ≤ 4 ∧ u.1 0 = nI m) : ConI l T b0 yX5_perform wsX5_perform rmX5_perform [.ref x] (wMo T x al ke tr hi sn te u) ((F_X5_perform u).1) (wMo T x al ke tr hi sn te ((F_X5_perform u).2)) := by
  refine conI_of (cc := cX5_perform) (maxL := 4) (ret := (some .int)) (lv0 := [(0, .ref x)]) (by decide +kernel) rfl (Nat.le_of_ble_eq_true rfl) rfl (fun X hX => ?_)
  refine g_aload_n hX dX5_perform_0 rfl 0 rfl ?_
  obtain ⟨z_1, hz_1⟩ : ∃ z : Int32 × MV, z = F_X5_fault u := ⟨_, rfl⟩
  refine g_cV_I hX (n := 0) (As := []) (wc := wMo T x al ke tr hi sn te u) (w1 := wMo T x al ke tr hi sn te z_1.2) (rv := z_1.1) (st := []) 0 rfl rfl (by rw [hz_1]; exact (c_X5_fault (xL X) T (xB X) x al ke tr hi sn te u hw hl)) gX5_perform_X5_fault rfl rfl rfl ⟨Nat.le_of_ble_eq_true rfl, Nat.le_of_ble_eq_true rfl⟩ ⟨Nat.zero_le _, Nat.zero_le _⟩ ⟨by decide +kernel, by decide +kernel, by decide +kernel⟩ rfl [0, 1, 2, 3, 4, 5, 6] rfl rfl (by decide) rfl (Nat.le_of_ble_eq_true rfl) dX5_perform_1 (ws' := wMo T x al ke tr hi sn te z_1.2) rfl ?_
  have ha_1 : advM (upd u.1 3 0, u.2) z_1.2 := by rw [hz_1]; exact fault_adv hl
  have hl_1 : ∃ m : Nat, m ≤ 60 ∧ z_1.2.1 2 = nI m := by rw [hz_1]; exact fault_hl hl
  refine g_istore_n hX (lv' := [(1, .int z_1.1), (0, .ref x)]) dX5_perform_4 rfl (by decide) rfl ?_
  refine g_iload_n hX dX5_perform_5 rfl 0 rfl ?_
  refine g_bipush hX (v := (-5)) dX5_perform_6 (by decide) ?_
  refine g_icmp_eq hX 16 dX5_perform_8 (by decide) (fun c_8 => ?_) (fun c_8 => ?_)
  · skip
    refine g_aload_n hX dX5_perform_16 rfl 1 rfl ?_
    refine g_cV_V hX (n := 0) (As := []) (wc := wMo T x al ke tr hi sn te z_1.2) (w1 := wMo T x al ke tr hi sn te (F_X5_remember z_1.2)) (st := []) 0 rfl rfl (c_X5_remember (xL X) T (xB X) x al ke tr hi sn te z_1.2) gX5_perform_X5_remember rfl rfl rfl ⟨Nat.le_of_ble_eq_true rfl, Nat.le_of_ble_eq_true rfl⟩ ⟨Nat.zero_le _, Nat.zero_le _⟩ ⟨by decide +kernel, by decide +kernel, by decide +kernel⟩ rfl [0, 1, 2, 3, 4, 5, 6] rfl rfl (by decide) rfl (Nat.le_of_ble_eq_true rfl) dX5_perform_17 (ws' := wMo T x al ke tr hi sn te (z_1.2.1, z_1.2.2.1, z_1.2.2.1, z_1.2.2.2.2.1, z_1.2.2.2.2.2.1, z_1.2.2.2.2.2.2.1, z_1.2.2.2.2.2.2.2)) rfl ?_
    refine g_aload_n hX dX5_perform_20 rfl 1 rfl ?_
    refine g_iconst hX (v := 0) dX5_perform_21 (by decide) ?_
    refine g_put hX 5 h_X5_perform_X5 0 rfl rfl 9 (by decide) tyX5 tyX5_ok nmX5 k_X5_perform_0 rfl rfl rfl rfl rfl (Nat.le_of_ble_eq_true rfl) dX5_perform_22 (ws' := wMo T x al ke tr hi sn te (upd z_1.2.1 3 0, z_1.2.2.1, z_1.2.2.1, z_1.2.2.2.2.1, z_1.2.2.2.2.2.1, z_1.2.2.2.2.2.2.1, z_1.2.2.2.2.2.2.2)) rfl ?_
    refine g_iconst hX (v := 0) dX5_perform_25 (by decide) ?_
    refine g_istore_n hX (lv' := [(2, .int 0), (1, .int z_1.1), (0, .ref x)]) dX5_perform_26 rfl (by decide) rfl ?_
    refine g_iconst hX (v := 1) dX5_perform_27 (by decide) ?_
    refine g_istore_n hX (lv' := [(3, .int 1), (2, .int 0), (1, .int z_1.1), (0, .ref x)]) dX5_perform_28 rfl (by decide) rfl ?_
    have e9 : F_X5_perform u = K_X5_perform_29 62 (upd z_1.2.1 3 0, z_1.2.2.1, z_1.2.2.1, z_1.2.2.2.2.1, z_1.2.2.2.2.2.1, z_1.2.2.2.2.2.2.1, z_1.2.2.2.2.2.2.2) 0 1 := by simp only [F_X5_perform, ← hz_1, eq_true c_8, if_true, if_false]
    rw [e9]
    refine g_lv (lv' := [(2, .int (nI 0)), (3, .int 1), (0, .ref x)]) [1, 0, 3] rfl ?_
    exact k_X5_perform_29 hX x al ke tr hi sn te 62 (upd z_1.2.1 3 0, z_1.2.2.1, z_1.2.2.1, z_1.2.2.2.2.1, z_1.2.2.2.2.2.1, z_1.2.2.2.2.2.2.1, z_1.2.2.2.2.2.2.2) 0 1 (ha_1.2.2.2.2.2.2.2.2 hw) (fInv_0 hl_1) (show ∃ m : Nat, m ≤ 4 ∧ z_1.2.1 0 = nI m from hh_tr (u := (upd u.1 3 0, u.2)) ha_1 hh)
  · skip
    refine g_bipush hX (v := (-100)) dX5_perform_11 (by decide) ?_
    refine g_iload_n hX dX5_perform_13 rfl 0 rfl ?_
    refine g_isub hX dX5_perform_14 ?_
    have e9 : F_X5_perform u = (((-100) - z_1.1), z_1.2) := by simp only [F_X5_perform, ← hz_1, eq_false c_8, if_true, if_false]
    rw [e9]
    exact g_iret hX dX5_perform_15 rfl rfl
