/-! X5_isHere -/
def rmX5_isHere : Room := { frames := 1, cells := 0, slots := 0, locals := 25 }
theorem k_X5_isHere_0 : Cond.fieldLink RX5 118 RX5 (TX5 9).2.1 (TX5 9).2.2.1 ∈ wsX5_isHere := List.mem_of_getElem? (i := 1) rfl
theorem h_X5_isHere_X5 : ∀ w ∈ u_ws RX5 TX5 12, w ∈ wsX5_isHere := fun w h => List.mem_cons_of_mem _ (List.mem_append_right _ h)
theorem k_X5_isHere_1 : Cond.fieldLink RX5 115 RX5 (TX5 8).2.1 (TX5 8).2.2.1 ∈ wsX5_isHere := List.mem_of_getElem? (i := 2) rfl
theorem k_X5_isHere_2 : Cond.fieldLink RX5 25 RX5 (TX5 7).2.1 (TX5 7).2.2.1 ∈ wsX5_isHere := List.mem_of_getElem? (i := 3) rfl
def F_X5_isHere (q : QV2) (p1 : Int32) (p2 : Int32) : Int32 :=
  (if (q.1 0) ≤ (q.1 1) then 0 else (if (F_X5_in (Int32.toInt64 (q.2 (Int32.toNatClampNeg (q.1 1)))) (Int32.toInt64 p1) (Int32.toInt64 p2)) = 0 then 0 else 1))
set_option maxHeartbeats 4000000 in
set_option maxRecDepth 100000 in
theorem c_X5_isHere (l : Launch) (T : TT) (b0 : Nat) (x te : Nat) (o0 o1 o2 o3 o4 o5 o6 o11 : Value) (q : QV2) (p1 : Int32) (p2 : Int32) (ht : tWF (q.1 0) (q.1 1)) : ConI l T b0 yX5_isHere wsX5_isHere rmX5_isHere [.ref x, .int p1, .int p2] (wMt T x te o0 o1 o2 o3 o4 o5 o6 o11 q) (F_X5_isHere q p1 p2) (wMt T x te o0 o1 o2 o3 o4 o5 o6 o11 q) := by
  refine conI_of (cc := cX5_isHere) (maxL := 3) (ret := (some .boolean)) (lv0 := [(0, .ref x), (1, .int p1), (2, .int p2)]) (by decide +kernel) rfl (Nat.le_of_ble_eq_true rfl) rfl (fun X hX => ?_)
  refine g_aload_n hX dX5_isHere_0 rfl 0 rfl ?_
  refine g_get hX 5 h_X5_isHere_X5 0 rfl rfl 9 (by decide) k_X5_isHere_0 rfl (v := .int (q.1 1)) rfl dX5_isHere_1 ?_
  refine g_aload_n hX dX5_isHere_4 rfl 0 rfl ?_
  refine g_get hX 5 h_X5_isHere_X5 0 rfl rfl 8 (by decide) k_X5_isHere_1 rfl (v := .int (q.1 0)) rfl dX5_isHere_5 ?_
  refine g_icmp_ge hX 35 dX5_isHere_8 (by decide) (fun c_8 => ?_) (fun c_8 => ?_)
  · skip
    refine g_iconst hX (v := 0) dX5_isHere_35 (by decide) ?_
    have e9 : F_X5_isHere q p1 p2 = 0 := by simp only [F_X5_isHere, eq_true c_8, if_true, if_false]
    rw [e9]
    exact g_zret hX dX5_isHere_36 rfl rfl rfl
  · skip
    refine g_aload_n hX dX5_isHere_11 rfl 0 rfl ?_
    refine g_get hX 5 h_X5_isHere_X5 0 rfl rfl 7 (by decide) k_X5_isHere_2 rfl (v := .ref te) rfl dX5_isHere_12 ?_
    refine g_aload_n hX dX5_isHere_15 rfl 0 rfl ?_
    refine g_get hX 5 h_X5_isHere_X5 0 rfl rfl 9 (by decide) k_X5_isHere_0 rfl (v := .int (q.1 1)) rfl dX5_isHere_16 ?_
    refine g_iald hX (f := q.2) 1 rfl (vin_txt ht c_8) (v := (q.2 (Int32.toNatClampNeg (q.1 1)))) (congrArg q.2 rfl) dX5_isHere_19 ?_
    refine g_i2l hX dX5_isHere_20 rfl ?_
    refine g_iload_n hX dX5_isHere_21 rfl 1 rfl ?_
    refine g_i2l hX dX5_isHere_22 rfl ?_
    refine g_iload_n hX dX5_isHere_23 rfl 2 rfl ?_
    refine g_i2l hX dX5_isHere_24 rfl ?_
    refine g_cS_I hX (n := 3) (As := [.long (Int32.toInt64 (q.2 (Int32.toNatClampNeg (q.1 1)))), .long (Int32.toInt64 p1), .long (Int32.toInt64 p2)]) (wc := []) (w1 := []) (rv := (F_X5_in (Int32.toInt64 (q.2 (Int32.toNatClampNeg (q.1 1)))) (Int32.toInt64 p1) (Int32.toInt64 p2))) (st := []) (c_X5_in (xL X) T (xB X) (Int32.toInt64 (q.2 (Int32.toNatClampNeg (q.1 1)))) (Int32.toInt64 p1) (Int32.toInt64 p2)) gX5_isHere_X5_in rfl rfl rfl ⟨Nat.le_of_ble_eq_true rfl, Nat.le_of_ble_eq_true rfl⟩ ⟨Nat.zero_le _, Nat.zero_le _⟩ ⟨by decide +kernel, by decide +kernel, by decide +kernel⟩ rfl [] rfl rfl (by decide) rfl (Nat.le_of_ble_eq_true rfl) dX5_isHere_25 (ws' := wMt T x te o0 o1 o2 o3 o4 o5 o6 o11 q) rfl ?_
    refine g_if_eq hX 35 dX5_isHere_28 (by decide) (fun c_28 => ?_) (fun c_28 => ?_)
    · skip
      refine g_iconst hX (v := 0) dX5_isHere_35 (by decide) ?_
      have e9 : F_X5_isHere q p1 p2 = 0 := by simp only [F_X5_isHere, eq_false c_8, eq_true c_28, if_true, if_false]
      rw [e9]
      exact g_zret hX dX5_isHere_36 rfl rfl rfl
    · skip
      refine g_iconst hX (v := 1) dX5_isHere_31 (by decide) ?_
      refine g_goto hX 36 dX5_isHere_32 (by decide) ?_
      have e9 : F_X5_isHere q p1 p2 = 1 := by simp only [F_X5_isHere, eq_false c_8, eq_false c_28, if_true, if_false]
      rw [e9]
      exact g_zret hX dX5_isHere_36 rfl rfl rfl
theorem isHere_b (q : QV2) (a b : Int32) : F_X5_isHere q a b = 0 ∨ F_X5_isHere q a b = 1 := by
  unfold F_X5_isHere
  split
  · exact Or.inl rfl
  · split
    · exact Or.inl rfl
    · exact Or.inr rfl
theorem here_lt {q : QV2} {a b : Int32} (h : ¬ F_X5_isHere q a b = 0) : ¬ q.1 0 ≤ q.1 1 := by
  unfold F_X5_isHere at h
  split at h
  · exact absurd rfl h
  · rename_i h1
    exact h1
/-! X5_takes -/
def rmX5_takes : Room := { frames := 2, cells := 0, slots := 0, locals := 47 }
theorem k_X5_takes_0 : Cond.fieldLink RX5 118 RX5 (TX5 9).2.1 (TX5 9).2.2.1 ∈ wsX5_takes := List.mem_of_getElem? (i := 1) rfl
theorem h_X5_takes_X5 : ∀ w ∈ u_ws RX5 TX5 12, w ∈ wsX5_takes := fun w h => List.mem_cons_of_mem _ (List.mem_append_right _ h)
def F_X5_takes (q : QV2) (p1 : Int32) : Int32 × QV2 :=
  (if (F_X5_isHere q p1 p1) = 0 then ((F_X5_isHere q p1 p1), (upd q.1 1 ((q.1 1) + 0), q.2)) else ((F_X5_isHere q p1 p1), (upd q.1 1 ((q.1 1) + 1), q.2)))
set_option maxHeartbeats 4000000 in
set_option maxRecDepth 100000 in
theorem c_X5_takes (l : Launch) (T : TT) (b0 : Nat) (x te : Nat) (o0 o1 o2 o3 o4 o5 o6 o11 : Value) (q : QV2) (p1 : Int32) (ht : tWF (q.1 0) (q.1 1)) : ConI l T b0 yX5_takes wsX5_takes rmX5_takes [.ref x, .int p1] (wMt T x te o0 o1 o2 o3 o4 o5 o6 o11 q) ((F_X5_takes q p1).1) (wMt T x te o0 o1 o2 o3 o4 o5 o6 o11 ((F_X5_takes q p1).2)) := by
  refine conI_of (cc := cX5_takes) (maxL := 3) (ret := (some .boolean)) (lv0 := [(0, .ref x), (1, .int p1)]) (by decide +kernel) rfl (Nat.le_of_ble_eq_true rfl) rfl (fun X hX => ?_)
  refine g_aload_n hX dX5_takes_0 rfl 0 rfl ?_
  refine g_iload_n hX dX5_takes_1 rfl 1 rfl ?_
  refine g_iload_n hX dX5_takes_2 rfl 1 rfl ?_
  refine g_cV_I hX (n := 2) (As := [.int p1, .int p1]) (wc := wMt T x te o0 o1 o2 o3 o4 o5 o6 o11 q) (w1 := wMt T x te o0 o1 o2 o3 o4 o5 o6 o11 q) (rv := (F_X5_isHere q p1 p1)) (st := []) 0 rfl rfl (c_X5_isHere (xL X) T (xB X) x te o0 o1 o2 o3 o4 o5 o6 o11 q p1 p1 ht) gX5_takes_X5_isHere rfl rfl rfl ⟨Nat.le_of_ble_eq_true rfl, Nat.le_of_ble_eq_true rfl⟩ ⟨Nat.zero_le _, Nat.zero_le _⟩ ⟨by decide +kernel, by decide +kernel, by decide +kernel⟩ rfl [0, 1] rfl rfl (by decide) rfl (Nat.le_of_ble_eq_true rfl) dX5_takes_3 (ws' := wMt T x te o0 o1 o2 o3 o4 o5 o6 o11 q) rfl ?_
  refine g_istore_n hX (lv' := [(2, .int (F_X5_isHere q p1 p1)), (0, .ref x), (1, .int p1)]) dX5_takes_6 rfl (by decide) rfl ?_
  refine g_aload_n hX dX5_takes_7 rfl 1 rfl ?_
  refine g_dup hX dX5_takes_8 rfl ?_
  refine g_get hX 5 h_X5_takes_X5 0 rfl rfl 9 (by decide) k_X5_takes_0 rfl (v := .int (q.1 1)) rfl dX5_takes_9 ?_
  refine g_iload_n hX dX5_takes_12 rfl 0 rfl ?_
  refine g_if_eq hX 20 dX5_takes_13 (by decide) (fun c_13 => ?_) (fun c_13 => ?_)
  · skip
    refine g_iconst hX (v := 0) dX5_takes_20 (by decide) ?_
    refine g_iadd hX dX5_takes_21 ?_
    refine g_put hX 5 h_X5_takes_X5 0 rfl rfl 9 (by decide) tyX5 tyX5_ok nmX5 k_X5_takes_0 rfl rfl rfl rfl rfl (Nat.le_of_ble_eq_true rfl) dX5_takes_22 (ws' := wMt T x te o0 o1 o2 o3 o4 o5 o6 o11 (upd q.1 1 ((q.1 1) + 0), q.2)) rfl ?_
    refine g_iload_n hX dX5_takes_25 rfl 0 rfl ?_
    have e9 : F_X5_takes q p1 = ((F_X5_isHere q p1 p1), (upd q.1 1 ((q.1 1) + 0), q.2)) := by simp only [F_X5_takes, eq_true c_13, if_true, if_false]
    rw [e9]
    exact g_zret hX dX5_takes_26 (narrow_b (isHere_b _ _ _)) rfl rfl
  · skip
    refine g_iconst hX (v := 1) dX5_takes_16 (by decide) ?_
    refine g_goto hX 21 dX5_takes_17 (by decide) ?_
    refine g_iadd hX dX5_takes_21 ?_
    refine g_put hX 5 h_X5_takes_X5 0 rfl rfl 9 (by decide) tyX5 tyX5_ok nmX5 k_X5_takes_0 rfl rfl rfl rfl rfl (Nat.le_of_ble_eq_true rfl) dX5_takes_22 (ws' := wMt T x te o0 o1 o2 o3 o4 o5 o6 o11 (upd q.1 1 ((q.1 1) + 1), q.2)) rfl ?_
    refine g_iload_n hX dX5_takes_25 rfl 0 rfl ?_
    have e9 : F_X5_takes q p1 = ((F_X5_isHere q p1 p1), (upd q.1 1 ((q.1 1) + 1), q.2)) := by simp only [F_X5_takes, eq_false c_13, if_true, if_false]
    rw [e9]
    exact g_zret hX dX5_takes_26 (narrow_b (isHere_b _ _ _)) rfl rfl
theorem tWF_inc {n s : Int32} (h : tWF n s) (h1 : ¬ n ≤ s) : tWF n (s + 1) := by
  obtain ⟨m, q, hm, hq, e1, e2⟩ := h
  rw [e1, e2] at h1
  have : q < m := Nat.lt_of_not_le (fun z => h1 (nI_le z (by omega)))
  exact ⟨m, q + 1, hm, by omega, e1, by rw [e2, nI_1]⟩
theorem tWF_takes {q : QV2} {a : Int32} (h : tWF (q.1 0) (q.1 1)) : tWF ((F_X5_takes q a).2.1 0) ((F_X5_takes q a).2.1 1) := by
  unfold F_X5_takes
  split
  · show tWF (q.1 0) (q.1 1 + 0)
    rw [Int32.add_zero]
    exact h
  · rename_i h1
    exact tWF_inc h (here_lt h1)
/-- the text's place, and how far it may still go -/
def tInv (k : Nat) (n s : Int32) : Prop := ∃ m q : Nat, m ≤ 60 ∧ q ≤ m ∧ n = nI m ∧ s = nI q ∧ 61 ≤ q + k
theorem tInv_wf {k : Nat} {n s : Int32} (h : tInv k n s) : tWF n s := by
  obtain ⟨m, q, h1, h2, h3, h4, -⟩ := h
  exact ⟨m, q, h1, h2, h3, h4⟩
theorem tInv_0 {n s : Int32} (h : tInv 0 n s) : False := by
  obtain ⟨m, q, h1, h2, h3, h4, h5⟩ := h
  omega
theorem tInv_of {n s : Int32} (h : tWF n s) : tInv 61 n s := by
  obtain ⟨m, q, h1, h2, h3, h4⟩ := h
  exact ⟨m, q, h1, h2, h3, h4, by omega⟩
theorem tInv_step {k : Nat} {n s : Int32} (h : tInv (k + 1) n s) (h1 : ¬ n ≤ s) : tInv k n (s + 1) := by
  obtain ⟨m, q, hm, hq, e1, e2, h5⟩ := h
  rw [e1, e2] at h1
  have : q < m := Nat.lt_of_not_le (fun z => h1 (nI_le z (by omega)))
  exact ⟨m, q + 1, hm, by omega, e1, by rw [e2, nI_1], by omega⟩
/-! X5_readsNumber -/
def rmX5_readsNumber : Room := { frames := 2, cells := 0, slots := 0, locals := 47 }
theorem k_X5_readsNumber_0 : Cond.fieldLink RX5 25 RX5 (TX5 7).2.1 (TX5 7).2.2.1 ∈ wsX5_readsNumber := List.mem_of_getElem? (i := 1) rfl
theorem h_X5_readsNumber_X5 : ∀ w ∈ u_ws RX5 TX5 12, w ∈ wsX5_readsNumber := fun w h => List.mem_cons_of_mem _ (List.mem_append_right _ h)
theorem k_X5_readsNumber_1 : Cond.fieldLink RX5 118 RX5 (TX5 9).2.1 (TX5 9).2.2.1 ∈ wsX5_readsNumber := List.mem_of_getElem? (i := 2) rfl
theorem k_X5_readsNumber_2 : Cond.fieldLink RX5 124 RX5 (TX5 10).2.1 (TX5 10).2.2.1 ∈ wsX5_readsNumber := List.mem_of_getElem? (i := 3) rfl
def K_X5_readsNumber_64 : Nat → QV2 → Int32 → Int32 → Int32 × QV2
  | 0, q, p1, p2 => (0, q)
  | n + 1, q, p1, p2 => (if (q.1 2) ≤ 0 then (if (q.1 2) < p1 then (0, q) else (1, q)) else (if (F_X5_isHere q 48 57) = 0 then (if (q.1 2) < p1 then (0, q) else (1, q)) else (if p2 < (((10 * (q.1 2)) + (q.2 (Int32.toNatClampNeg (q.1 1)))) - 48) then (if (q.1 2) < p1 then (0, q) else (1, q)) else K_X5_readsNumber_64 n (upd (upd q.1 2 (((10 * (q.1 2)) + (q.2 (Int32.toNatClampNeg (q.1 1)))) - 48)) 1 ((q.1 1) + 1), q.2) p1 p2)))
def F_X5_readsNumber (q : QV2) (p1 : Int32) (p2 : Int32) : Int32 × QV2 :=
  (if p1 = 0 then (if (F_X5_isHere q 48 57) = 0 then (0, q) else (if ((q.2 (Int32.toNatClampNeg (q.1 1))) - 48) ≤ p2 then K_X5_readsNumber_64 61 (upd (upd q.1 2 ((q.2 (Int32.toNatClampNeg (q.1 1))) - 48)) 1 ((q.1 1) + 1), q.2) p1 p2 else (0, q))) else (if (F_X5_isHere q 49 57) = 0 then (0, q) else (if ((q.2 (Int32.toNatClampNeg (q.1 1))) - 48) ≤ p2 then K_X5_readsNumber_64 61 (upd (upd q.1 2 ((q.2 (Int32.toNatClampNeg (q.1 1))) - 48)) 1 ((q.1 1) + 1), q.2) p1 p2 else (0, q))))
set_option maxHeartbeats 4000000 in
set_option maxRecDepth 100000 in
theorem k_X5_readsNumber_64 {T : TT} {X : CX} (hX : Fit T X (yX5_readsNumber).cls 3 wsX5_readsNumber cX5_readsNumber (some .boolean) rmX5_readsNumber) (x te : Nat) (o0 o1 o2 o3 o4 o5 o6 o11 : Value) : ∀ (n : Nat) (q : QV2) (p1 : Int32) (p2 : Int32) (hq : tInv n (q.1 0) (q.1 1)), G T X (QI T X 0 0 ((K_X5_readsNumber_64 n q p1 p2).1) (wMt T x te o0 o1 o2 o3 o4 o5 o6 o11 ((K_X5_readsNumber_64 n q p1 p2).2))) 0 0 (wMt T x te o0 o1 o2 o3 o4 o5 o6 o11 q) [(0, .ref x), (1, .int p1), (2, .int p2)] 64 [] := by
  intro n
  induction n with
  | zero =>
    intro q p1 p2 hq
    exact absurd (tInv_0 hq) id
  | succ n ih =>
    intro q p1 p2 hq
    refine g_aload_n hX dX5_readsNumber_64 rfl 0 rfl ?_
    refine g_get hX 5 h_X5_readsNumber_X5 0 rfl rfl 10 (by decide) k_X5_readsNumber_2 rfl (v := .int (q.1 2)) rfl dX5_readsNumber_65 ?_
    refine g_if_le hX 143 dX5_readsNumber_68 (by decide) (fun c_68 => ?_) (fun c_68 => ?_)
    · skip
      refine g_aload_n hX dX5_readsNumber_143 rfl 0 rfl ?_
      refine g_get hX 5 h_X5_readsNumber_X5 0 rfl rfl 10 (by decide) k_X5_readsNumber_2 rfl (v := .int (q.1 2)) rfl dX5_readsNumber_144 ?_
      refine g_iload_n hX dX5_readsNumber_147 rfl 1 rfl ?_
      refine g_icmp_lt hX 155 dX5_readsNumber_148 (by decide) (fun c_148 => ?_) (fun c_148 => ?_)
      · skip
        refine g_iconst hX (v := 0) dX5_readsNumber_155 (by decide) ?_
        have e9 : K_X5_readsNumber_64 (n + 1) q p1 p2 = (0, q) := by simp only [K_X5_readsNumber_64, eq_true c_68, eq_true c_148, if_true, if_false]
        rw [e9]
        exact g_zret hX dX5_readsNumber_156 rfl rfl rfl
      · skip
        refine g_iconst hX (v := 1) dX5_readsNumber_151 (by decide) ?_
        refine g_goto hX 156 dX5_readsNumber_152 (by decide) ?_
        have e9 : K_X5_readsNumber_64 (n + 1) q p1 p2 = (1, q) := by simp only [K_X5_readsNumber_64, eq_true c_68, eq_false c_148, if_true, if_false]
        rw [e9]
        exact g_zret hX dX5_readsNumber_156 rfl rfl rfl
    · skip
      refine g_aload_n hX dX5_readsNumber_71 rfl 0 rfl ?_
      refine g_bipush hX (v := 48) dX5_readsNumber_72 (by decide) ?_
      refine g_bipush hX (v := 57) dX5_readsNumber_74 (by decide) ?_
      refine g_cV_I hX (n := 2) (As := [.int 48, .int 57]) (wc := wMt T x te o0 o1 o2 o3 o4 o5 o6 o11 q) (w1 := wMt T x te o0 o1 o2 o3 o4 o5 o6 o11 q) (rv := (F_X5_isHere q 48 57)) (st := []) 0 rfl rfl (c_X5_isHere (xL X) T (xB X) x te o0 o1 o2 o3 o4 o5 o6 o11 q 48 57 (tInv_wf hq)) gX5_readsNumber_X5_isHere rfl rfl rfl ⟨Nat.le_of_ble_eq_true rfl, Nat.le_of_ble_eq_true rfl⟩ ⟨Nat.zero_le _, Nat.zero_le _⟩ ⟨by decide +kernel, by decide +kernel, by decide +kernel⟩ rfl [0, 1] rfl rfl (by decide) rfl (Nat.le_of_ble_eq_true rfl) dX5_readsNumber_76 (ws' := wMt T x te o0 o1 o2 o3 o4 o5 o6 o11 q) rfl ?_
      refine g_if_eq hX 143 dX5_readsNumber_79 (by decide) (fun c_79 => ?_) (fun c_79 => ?_)
      · skip
        refine g_aload_n hX dX5_readsNumber_143 rfl 0 rfl ?_
        refine g_get hX 5 h_X5_readsNumber_X5 0 rfl rfl 10 (by decide) k_X5_readsNumber_2 rfl (v := .int (q.1 2)) rfl dX5_readsNumber_144 ?_
        refine g_iload_n hX dX5_readsNumber_147 rfl 1 rfl ?_
        refine g_icmp_lt hX 155 dX5_readsNumber_148 (by decide) (fun c_148 => ?_) (fun c_148 => ?_)
        · skip
          refine g_iconst hX (v := 0) dX5_readsNumber_155 (by decide) ?_
          have e9 : K_X5_readsNumber_64 (n + 1) q p1 p2 = (0, q) := by simp only [K_X5_readsNumber_64, eq_false c_68, eq_true c_79, eq_true c_148, if_true, if_false]
          rw [e9]
          exact g_zret hX dX5_readsNumber_156 rfl rfl rfl
        · skip
          refine g_iconst hX (v := 1) dX5_readsNumber_151 (by decide) ?_
          refine g_goto hX 156 dX5_readsNumber_152 (by decide) ?_
          have e9 : K_X5_readsNumber_64 (n + 1) q p1 p2 = (1, q) := by simp only [K_X5_readsNumber_64, eq_false c_68, eq_true c_79, eq_false c_148, if_true, if_false]
          rw [e9]
          exact g_zret hX dX5_readsNumber_156 rfl rfl rfl
      · skip
        refine g_bipush hX (v := 10) dX5_readsNumber_82 (by decide) ?_
        refine g_aload_n hX dX5_readsNumber_84 rfl 0 rfl ?_
        refine g_get hX 5 h_X5_readsNumber_X5 0 rfl rfl 10 (by decide) k_X5_readsNumber_2 rfl (v := .int (q.1 2)) rfl dX5_readsNumber_85 ?_
        refine g_imul hX dX5_readsNumber_88 ?_
        refine g_aload_n hX dX5_readsNumber_89 rfl 0 rfl ?_
        refine g_get hX 5 h_X5_readsNumber_X5 0 rfl rfl 7 (by decide) k_X5_readsNumber_0 rfl (v := .ref te) rfl dX5_readsNumber_90 ?_
        refine g_aload_n hX dX5_readsNumber_93 rfl 0 rfl ?_
        refine g_get hX 5 h_X5_readsNumber_X5 0 rfl rfl 9 (by decide) k_X5_readsNumber_1 rfl (v := .int (q.1 1)) rfl dX5_readsNumber_94 ?_
        refine g_iald hX (f := q.2) 1 rfl (vin_txt (tInv_wf hq) (here_lt c_79)) (v := (q.2 (Int32.toNatClampNeg (q.1 1)))) (congrArg q.2 rfl) dX5_readsNumber_97 ?_
        refine g_iadd hX dX5_readsNumber_98 ?_
        refine g_bipush hX (v := 48) dX5_readsNumber_99 (by decide) ?_
        refine g_isub hX dX5_readsNumber_101 ?_
        refine g_iload_n hX dX5_readsNumber_102 rfl 2 rfl ?_
        refine g_icmp_gt hX 143 dX5_readsNumber_103 (by decide) (fun c_103 => ?_) (fun c_103 => ?_)
        · skip
          refine g_aload_n hX dX5_readsNumber_143 rfl 0 rfl ?_
          refine g_get hX 5 h_X5_readsNumber_X5 0 rfl rfl 10 (by decide) k_X5_readsNumber_2 rfl (v := .int (q.1 2)) rfl dX5_readsNumber_144 ?_
          refine g_iload_n hX dX5_readsNumber_147 rfl 1 rfl ?_
          refine g_icmp_lt hX 155 dX5_readsNumber_148 (by decide) (fun c_148 => ?_) (fun c_148 => ?_)
          · skip
            refine g_iconst hX (v := 0) dX5_readsNumber_155 (by decide) ?_
            have e9 : K_X5_readsNumber_64 (n + 1) q p1 p2 = (0, q) := by simp only [K_X5_readsNumber_64, eq_false c_68, eq_false c_79, eq_true c_103, eq_true c_148, if_true, if_false]
            rw [e9]
            exact g_zret hX dX5_readsNumber_156 rfl rfl rfl
          · skip
            refine g_iconst hX (v := 1) dX5_readsNumber_151 (by decide) ?_
            refine g_goto hX 156 dX5_readsNumber_152 (by decide) ?_
            have e9 : K_X5_readsNumber_64 (n + 1) q p1 p2 = (1, q) := by simp only [K_X5_readsNumber_64, eq_false c_68, eq_false c_79, eq_true c_103, eq_false c_148, if_true, if_false]
            rw [e9]
            exact g_zret hX dX5_readsNumber_156 rfl rfl rfl
        · skip
          refine g_aload_n hX dX5_readsNumber_106 rfl 0 rfl ?_
          refine g_bipush hX (v := 10) dX5_readsNumber_107 (by decide) ?_
          refine g_aload_n hX dX5_readsNumber_109 rfl 0 rfl ?_
          refine g_get hX 5 h_X5_readsNumber_X5 0 rfl rfl 10 (by decide) k_X5_readsNumber_2 rfl (v := .int (q.1 2)) rfl dX5_readsNumber_110 ?_
          refine g_imul hX dX5_readsNumber_113 ?_
          refine g_aload_n hX dX5_readsNumber_114 rfl 0 rfl ?_
          refine g_get hX 5 h_X5_readsNumber_X5 0 rfl rfl 7 (by decide) k_X5_readsNumber_0 rfl (v := .ref te) rfl dX5_readsNumber_115 ?_
          refine g_aload_n hX dX5_readsNumber_118 rfl 0 rfl ?_
          refine g_get hX 5 h_X5_readsNumber_X5 0 rfl rfl 9 (by decide) k_X5_readsNumber_1 rfl (v := .int (q.1 1)) rfl dX5_readsNumber_119 ?_
          refine g_iald hX (f := q.2) 1 rfl (vin_txt (tInv_wf hq) (here_lt c_79)) (v := (q.2 (Int32.toNatClampNeg (q.1 1)))) (congrArg q.2 rfl) dX5_readsNumber_122 ?_
          refine g_iadd hX dX5_readsNumber_123 ?_
          refine g_bipush hX (v := 48) dX5_readsNumber_124 (by decide) ?_
          refine g_isub hX dX5_readsNumber_126 ?_
          refine g_put hX 5 h_X5_readsNumber_X5 0 rfl rfl 10 (by decide) tyX5 tyX5_ok nmX5 k_X5_readsNumber_2 rfl rfl rfl rfl rfl (Nat.le_of_ble_eq_true rfl) dX5_readsNumber_127 (ws' := wMt T x te o0 o1 o2 o3 o4 o5 o6 o11 (upd q.1 2 (((10 * (q.1 2)) + (q.2 (Int32.toNatClampNeg (q.1 1)))) - 48), q.2)) rfl ?_
          refine g_aload_n hX dX5_readsNumber_130 rfl 0 rfl ?_
          refine g_dup hX dX5_readsNumber_131 rfl ?_
          refine g_get hX 5 h_X5_readsNumber_X5 0 rfl rfl 9 (by decide) k_X5_readsNumber_1 rfl (v := .int (q.1 1)) rfl dX5_readsNumber_132 ?_
          refine g_iconst hX (v := 1) dX5_readsNumber_135 (by decide) ?_
          refine g_iadd hX dX5_readsNumber_136 ?_
          refine g_put hX 5 h_X5_readsNumber_X5 0 rfl rfl 9 (by decide) tyX5 tyX5_ok nmX5 k_X5_readsNumber_1 rfl rfl rfl rfl rfl (Nat.le_of_ble_eq_true rfl) dX5_readsNumber_137 (ws' := wMt T x te o0 o1 o2 o3 o4 o5 o6 o11 (upd (upd q.1 2 (((10 * (q.1 2)) + (q.2 (Int32.toNatClampNeg (q.1 1)))) - 48)) 1 ((q.1 1) + 1), q.2)) rfl ?_
          refine g_goto hX 64 dX5_readsNumber_140 (by decide) ?_
          have e9 : K_X5_readsNumber_64 (n + 1) q p1 p2 = K_X5_readsNumber_64 n (upd (upd q.1 2 (((10 * (q.1 2)) + (q.2 (Int32.toNatClampNeg (q.1 1)))) - 48)) 1 ((q.1 1) + 1), q.2) p1 p2 := by simp only [K_X5_readsNumber_64, eq_false c_68, eq_false c_79, eq_false c_103, if_true, if_false]
          rw [e9]
          refine g_lv (lv' := [(0, .ref x), (1, .int p1), (2, .int p2)]) [0, 1, 2] rfl ?_
          exact ih (upd (upd q.1 2 (((10 * (q.1 2)) + (q.2 (Int32.toNatClampNeg (q.1 1)))) - 48)) 1 ((q.1 1) + 1), q.2) p1 p2 (tInv_step hq (here_lt c_79))
set_option maxHeartbeats 4000000 in
set_option maxRecDepth 100000 in
theorem c_X5_readsNumber (l : Launch) (T : TT) (b0 : Nat) (x te : Nat) (o0 o1 o2 o3 o4 o5 o6 o11 : Value) (q : QV2) (p1 : Int32) (p2 : Int32) (ht : tWF (q.1 0) (q.1 1)) : ConI l T b0 yX5_readsNumber wsX5_readsNumber rmX5_readsNumber [.ref x, .int p1, .int p2] (wMt T x te o0 o1 o2 o3 o4 o5 o6 o11 q) ((F_X5_readsNumber q p1 p2).1) (wMt T x te o0 o1 o2 o3 o4 o5 o6 o11 ((F_X5_readsNumber q p1 p2).2)) := by
  refine conI_of (cc := cX5_readsNumber) (maxL := 3) (ret := (some .boolean)) (lv0 := [(0, .ref x), (1, .int p1), (2, .int p2)]) (by decide +kernel) rfl (Nat.le_of_ble_eq_true rfl) rfl (fun X hX => ?_)
  refine g_aload_n hX dX5_readsNumber_0 rfl 0 rfl ?_
  refine g_iload_n hX dX5_readsNumber_1 rfl 1 rfl ?_
  refine g_if_ne hX 10 dX5_readsNumber_2 (by decide) (fun c_2 => ?_) (fun c_2 => ?_)
  · skip
    refine g_bipush hX (v := 49) dX5_readsNumber_10 (by decide) ?_
    refine g_bipush hX (v := 57) dX5_readsNumber_12 (by decide) ?_
    refine g_cV_I hX (n := 2) (As := [.int 49, .int 57]) (wc := wMt T x te o0 o1 o2 o3 o4 o5 o6 o11 q) (w1 := wMt T x te o0 o1 o2 o3 o4 o5 o6 o11 q) (rv := (F_X5_isHere q 49 57)) (st := []) 0 rfl rfl (c_X5_isHere (xL X) T (xB X) x te o0 o1 o2 o3 o4 o5 o6 o11 q 49 57 ht) gX5_readsNumber_X5_isHere rfl rfl rfl ⟨Nat.le_of_ble_eq_true rfl, Nat.le_of_ble_eq_true rfl⟩ ⟨Nat.zero_le _, Nat.zero_le _⟩ ⟨by decide +kernel, by decide +kernel, by decide +kernel⟩ rfl [0, 1] rfl rfl (by decide) rfl (Nat.le_of_ble_eq_true rfl) dX5_readsNumber_14 (ws' := wMt T x te o0 o1 o2 o3 o4 o5 o6 o11 q) rfl ?_
    refine g_if_eq hX 36 dX5_readsNumber_17 (by decide) (fun c_17 => ?_) (fun c_17 => ?_)
    · skip
      refine g_iconst hX (v := 0) dX5_readsNumber_36 (by decide) ?_
      have e9 : F_X5_readsNumber q p1 p2 = (0, q) := by simp only [F_X5_readsNumber, eq_false c_2, eq_true c_17, if_true, if_false]
      rw [e9]
      exact g_zret hX dX5_readsNumber_37 rfl rfl rfl
    · skip
      refine g_aload_n hX dX5_readsNumber_20 rfl 0 rfl ?_
      refine g_get hX 5 h_X5_readsNumber_X5 0 rfl rfl 7 (by decide) k_X5_readsNumber_0 rfl (v := .ref te) rfl dX5_readsNumber_21 ?_
      refine g_aload_n hX dX5_readsNumber_24 rfl 0 rfl ?_
      refine g_get hX 5 h_X5_readsNumber_X5 0 rfl rfl 9 (by decide) k_X5_readsNumber_1 rfl (v := .int (q.1 1)) rfl dX5_readsNumber_25 ?_
      refine g_iald hX (f := q.2) 1 rfl (vin_txt ht (here_lt c_17)) (v := (q.2 (Int32.toNatClampNeg (q.1 1)))) (congrArg q.2 rfl) dX5_readsNumber_28 ?_
      refine g_bipush hX (v := 48) dX5_readsNumber_29 (by decide) ?_
      refine g_isub hX dX5_readsNumber_31 ?_
      refine g_iload_n hX dX5_readsNumber_32 rfl 2 rfl ?_
      refine g_icmp_le hX 38 dX5_readsNumber_33 (by decide) (fun c_33 => ?_) (fun c_33 => ?_)
      · skip
        refine g_aload_n hX dX5_readsNumber_38 rfl 0 rfl ?_
        refine g_aload_n hX dX5_readsNumber_39 rfl 0 rfl ?_
        refine g_get hX 5 h_X5_readsNumber_X5 0 rfl rfl 7 (by decide) k_X5_readsNumber_0 rfl (v := .ref te) rfl dX5_readsNumber_40 ?_
        refine g_aload_n hX dX5_readsNumber_43 rfl 0 rfl ?_
        refine g_get hX 5 h_X5_readsNumber_X5 0 rfl rfl 9 (by decide) k_X5_readsNumber_1 rfl (v := .int (q.1 1)) rfl dX5_readsNumber_44 ?_
        refine g_iald hX (f := q.2) 1 rfl (vin_txt ht (here_lt c_17)) (v := (q.2 (Int32.toNatClampNeg (q.1 1)))) (congrArg q.2 rfl) dX5_readsNumber_47 ?_
        refine g_bipush hX (v := 48) dX5_readsNumber_48 (by decide) ?_
        refine g_isub hX dX5_readsNumber_50 ?_
        refine g_put hX 5 h_X5_readsNumber_X5 0 rfl rfl 10 (by decide) tyX5 tyX5_ok nmX5 k_X5_readsNumber_2 rfl rfl rfl rfl rfl (Nat.le_of_ble_eq_true rfl) dX5_readsNumber_51 (ws' := wMt T x te o0 o1 o2 o3 o4 o5 o6 o11 (upd q.1 2 ((q.2 (Int32.toNatClampNeg (q.1 1))) - 48), q.2)) rfl ?_
        refine g_aload_n hX dX5_readsNumber_54 rfl 0 rfl ?_
        refine g_dup hX dX5_readsNumber_55 rfl ?_
        refine g_get hX 5 h_X5_readsNumber_X5 0 rfl rfl 9 (by decide) k_X5_readsNumber_1 rfl (v := .int (q.1 1)) rfl dX5_readsNumber_56 ?_
        refine g_iconst hX (v := 1) dX5_readsNumber_59 (by decide) ?_
        refine g_iadd hX dX5_readsNumber_60 ?_
        refine g_put hX 5 h_X5_readsNumber_X5 0 rfl rfl 9 (by decide) tyX5 tyX5_ok nmX5 k_X5_readsNumber_1 rfl rfl rfl rfl rfl (Nat.le_of_ble_eq_true rfl) dX5_readsNumber_61 (ws' := wMt T x te o0 o1 o2 o3 o4 o5 o6 o11 (upd (upd q.1 2 ((q.2 (Int32.toNatClampNeg (q.1 1))) - 48)) 1 ((q.1 1) + 1), q.2)) rfl ?_
        have e9 : F_X5_readsNumber q p1 p2 = K_X5_readsNumber_64 61 (upd (upd q.1 2 ((q.2 (Int32.toNatClampNeg (q.1 1))) - 48)) 1 ((q.1 1) + 1), q.2) p1 p2 := by simp only [F_X5_readsNumber, eq_false c_2, eq_false c_17, eq_true c_33, if_true, if_false]
        rw [e9]
        refine g_lv (lv' := [(0, .ref x), (1, .int p1), (2, .int p2)]) [0, 1, 2] rfl ?_
        exact k_X5_readsNumber_64 hX x te o0 o1 o2 o3 o4 o5 o6 o11 61 (upd (upd q.1 2 ((q.2 (Int32.toNatClampNeg (q.1 1))) - 48)) 1 ((q.1 1) + 1), q.2) p1 p2 (tInv_of (tWF_inc ht (here_lt c_17)))
      · skip
        refine g_iconst hX (v := 0) dX5_readsNumber_36 (by decide) ?_
        have e9 : F_X5_readsNumber q p1 p2 = (0, q) := by simp only [F_X5_readsNumber, eq_false c_2, eq_false c_17, eq_false c_33, if_true, if_false]
        rw [e9]
        exact g_zret hX dX5_readsNumber_37 rfl rfl rfl
  · skip
    refine g_bipush hX (v := 48) dX5_readsNumber_5 (by decide) ?_
    refine g_goto hX 12 dX5_readsNumber_7 (by decide) ?_
    refine g_bipush hX (v := 57) dX5_readsNumber_12 (by decide) ?_
    refine g_cV_I hX (n := 2) (As := [.int 48, .int 57]) (wc := wMt T x te o0 o1 o2 o3 o4 o5 o6 o11 q) (w1 := wMt T x te o0 o1 o2 o3 o4 o5 o6 o11 q) (rv := (F_X5_isHere q 48 57)) (st := []) 0 rfl rfl (c_X5_isHere (xL X) T (xB X) x te o0 o1 o2 o3 o4 o5 o6 o11 q 48 57 ht) gX5_readsNumber_X5_isHere rfl rfl rfl ⟨Nat.le_of_ble_eq_true rfl, Nat.le_of_ble_eq_true rfl⟩ ⟨Nat.zero_le _, Nat.zero_le _⟩ ⟨by decide +kernel, by decide +kernel, by decide +kernel⟩ rfl [0, 1] rfl rfl (by decide) rfl (Nat.le_of_ble_eq_true rfl) dX5_readsNumber_14 (ws' := wMt T x te o0 o1 o2 o3 o4 o5 o6 o11 q) rfl ?_
    refine g_if_eq hX 36 dX5_readsNumber_17 (by decide) (fun c_17 => ?_) (fun c_17 => ?_)
    · skip
      refine g_iconst hX (v := 0) dX5_readsNumber_36 (by decide) ?_
      have e9 : F_X5_readsNumber q p1 p2 = (0, q) := by simp only [F_X5_readsNumber, eq_true c_2, eq_true c_17, if_true, if_false]
      rw [e9]
      exact g_zret hX dX5_readsNumber_37 rfl rfl rfl
    · skip
      refine g_aload_n hX dX5_readsNumber_20 rfl 0 rfl ?_
      refine g_get hX 5 h_X5_readsNumber_X5 0 rfl rfl 7 (by decide) k_X5_readsNumber_0 rfl (v := .ref te) rfl dX5_readsNumber_21 ?_
      refine g_aload_n hX dX5_readsNumber_24 rfl 0 rfl ?_
      refine g_get hX 5 h_X5_readsNumber_X5 0 rfl rfl 9 (by decide) k_X5_readsNumber_1 rfl (v := .int (q.1 1)) rfl dX5_readsNumber_25 ?_
      refine g_iald hX (f := q.2) 1 rfl (vin_txt ht (here_lt c_17)) (v := (q.2 (Int32.toNatClampNeg (q.1 1)))) (congrArg q.2 rfl) dX5_readsNumber_28 ?_
      refine g_bipush hX (v := 48) dX5_readsNumber_29 (by decide) ?_
      refine g_isub hX dX5_readsNumber_31 ?_
      refine g_iload_n hX dX5_readsNumber_32 rfl 2 rfl ?_
      refine g_icmp_le hX 38 dX5_readsNumber_33 (by decide) (fun c_33 => ?_) (fun c_33 => ?_)
      · skip
        refine g_aload_n hX dX5_readsNumber_38 rfl 0 rfl ?_
        refine g_aload_n hX dX5_readsNumber_39 rfl 0 rfl ?_
        refine g_get hX 5 h_X5_readsNumber_X5 0 rfl rfl 7 (by decide) k_X5_readsNumber_0 rfl (v := .ref te) rfl dX5_readsNumber_40 ?_
        refine g_aload_n hX dX5_readsNumber_43 rfl 0 rfl ?_
        refine g_get hX 5 h_X5_readsNumber_X5 0 rfl rfl 9 (by decide) k_X5_readsNumber_1 rfl (v := .int (q.1 1)) rfl dX5_readsNumber_44 ?_
        refine g_iald hX (f := q.2) 1 rfl (vin_txt ht (here_lt c_17)) (v := (q.2 (Int32.toNatClampNeg (q.1 1)))) (congrArg q.2 rfl) dX5_readsNumber_47 ?_
        refine g_bipush hX (v := 48) dX5_readsNumber_48 (by decide) ?_
        refine g_isub hX dX5_readsNumber_50 ?_
        refine g_put hX 5 h_X5_readsNumber_X5 0 rfl rfl 10 (by decide) tyX5 tyX5_ok nmX5 k_X5_readsNumber_2 rfl rfl rfl rfl rfl (Nat.le_of_ble_eq_true rfl) dX5_readsNumber_51 (ws' := wMt T x te o0 o1 o2 o3 o4 o5 o6 o11 (upd q.1 2 ((q.2 (Int32.toNatClampNeg (q.1 1))) - 48), q.2)) rfl ?_
        refine g_aload_n hX dX5_readsNumber_54 rfl 0 rfl ?_
        refine g_dup hX dX5_readsNumber_55 rfl ?_
        refine g_get hX 5 h_X5_readsNumber_X5 0 rfl rfl 9 (by decide) k_X5_readsNumber_1 rfl (v := .int (q.1 1)) rfl dX5_readsNumber_56 ?_
        refine g_iconst hX (v := 1) dX5_readsNumber_59 (by decide) ?_
        refine g_iadd hX dX5_readsNumber_60 ?_
        refine g_put hX 5 h_X5_readsNumber_X5 0 rfl rfl 9 (by decide) tyX5 tyX5_ok nmX5 k_X5_readsNumber_1 rfl rfl rfl rfl rfl (Nat.le_of_ble_eq_true rfl) dX5_readsNumber_61 (ws' := wMt T x te o0 o1 o2 o3 o4 o5 o6 o11 (upd (upd q.1 2 ((q.2 (Int32.toNatClampNeg (q.1 1))) - 48)) 1 ((q.1 1) + 1), q.2)) rfl ?_
        have e9 : F_X5_readsNumber q p1 p2 = K_X5_readsNumber_64 61 (upd (upd q.1 2 ((q.2 (Int32.toNatClampNeg (q.1 1))) - 48)) 1 ((q.1 1) + 1), q.2) p1 p2 := by simp only [F_X5_readsNumber, eq_true c_2, eq_false c_17, eq_true c_33, if_true, if_false]
        rw [e9]
        refine g_lv (lv' := [(0, .ref x), (1, .int p1), (2, .int p2)]) [0, 1, 2] rfl ?_
        exact k_X5_readsNumber_64 hX x te o0 o1 o2 o3 o4 o5 o6 o11 61 (upd (upd q.1 2 ((q.2 (Int32.toNatClampNeg (q.1 1))) - 48)) 1 ((q.1 1) + 1), q.2) p1 p2 (tInv_of (tWF_inc ht (here_lt c_17)))
      · skip
        refine g_iconst hX (v := 0) dX5_readsNumber_36 (by decide) ?_
        have e9 : F_X5_readsNumber q p1 p2 = (0, q) := by simp only [F_X5_readsNumber, eq_true c_2, eq_false c_17, eq_false c_33, if_true, if_false]
        rw [e9]
        exact g_zret hX dX5_readsNumber_37 rfl rfl rfl
