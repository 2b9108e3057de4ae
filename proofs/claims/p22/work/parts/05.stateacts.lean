theorem inr_hi {a p : Int32} (h : ¬ F_X4_inRange a p = 0) : F_X4_lowest a ≤ p ∧ p ≤ F_X4_highest a := by
  unfold F_X4_inRange at h
  split at h
  · exact absurd rfl h
  · split at h
    · exact absurd rfl h
    · rename_i h1 h2
      exact ⟨Int32.not_lt.mp h1, Int32.not_lt.mp h2⟩
theorem inr5 {p : Int32} (h : ¬ F_X4_inRange 5 p = 0) : p.toInt ≤ 500 := by
  have h2 := (inr_hi h).2
  rw [Int32.le_iff_toInt_le, show (F_X4_highest 5).toInt = 500 from by decide] at h2
  exact h2
/-! X2_number -/
def rmX2_number : Room := { frames := 0, cells := 0, slots := 0, locals := 0 }
theorem k_X2_number_0 : Cond.fieldLink RX2 30 RX2 (TX2 2).2.1 (TX2 2).2.2.1 ∈ wsX2_number := List.mem_of_getElem? (i := 1) rfl
theorem h_X2_number_X2 : ∀ w ∈ u_ws RX2 TX2 11, w ∈ wsX2_number := fun w h => List.mem_cons_of_mem _ (List.mem_append_right _ h)
def F_X2_number (u : SV) (p1 : Int32) : Int32 :=
  (if p1 < 0 then 0 else (if 5 ≤ p1 then 0 else (u.2.2.2 (Int32.toNatClampNeg p1))))
set_option maxHeartbeats 4000000 in
set_option maxRecDepth 100000 in
theorem c_X2_number (l : Launch) (T : TT) (b0 : Nat) (a w h k d : Nat) (u : SV) (p1 : Int32)  : ConI l T b0 yX2_number wsX2_number rmX2_number [.ref a, .int p1] (wSt T a w h k d u) (F_X2_number u p1) (wSt T a w h k d u) := by
  refine conI_of (cc := cX2_number) (maxL := 2) (ret := (some .int)) (lv0 := [(0, .ref a), (1, .int p1)]) (by decide +kernel) rfl (Nat.le_of_ble_eq_true rfl) rfl (fun X hX => ?_)
  refine g_iload_n hX dX2_number_0 rfl 1 rfl ?_
  refine g_if_lt hX 22 dX2_number_1 (by decide) (fun c_1 => ?_) (fun c_1 => ?_)
  · skip
    refine g_iconst hX (v := 0) dX2_number_22 (by decide) ?_
    have e9 : F_X2_number u p1 = 0 := by simp only [F_X2_number, eq_true c_1, if_true, if_false]
    rw [e9]
    exact g_iret hX dX2_number_23 rfl rfl
  · skip
    refine g_iload_n hX dX2_number_4 rfl 1 rfl ?_
    refine g_aload_n hX dX2_number_5 rfl 0 rfl ?_
    refine g_get hX 2 h_X2_number_X2 0 rfl rfl 2 (by decide) k_X2_number_0 rfl (v := .ref d) rfl dX2_number_6 ?_
    refine g_alen hX 4 0 rfl rfl (v := 5) rfl dX2_number_9 ?_
    refine g_icmp_ge hX 22 dX2_number_10 (by decide) (fun c_10 => ?_) (fun c_10 => ?_)
    · skip
      refine g_iconst hX (v := 0) dX2_number_22 (by decide) ?_
      have e9 : F_X2_number u p1 = 0 := by simp only [F_X2_number, eq_false c_1, eq_true c_10, if_true, if_false]
      rw [e9]
      exact g_iret hX dX2_number_23 rfl rfl
    · skip
      refine g_aload_n hX dX2_number_13 rfl 0 rfl ?_
      refine g_get hX 2 h_X2_number_X2 0 rfl rfl 2 (by decide) k_X2_number_0 rfl (v := .ref d) rfl dX2_number_14 ?_
      refine g_iload_n hX dX2_number_17 rfl 1 rfl ?_
      refine g_iald hX 4 rfl (vin_of c_1 c_10 (by decide)) (v := (u.2.2.2 (Int32.toNatClampNeg p1))) (congrArg _ rfl) dX2_number_18 ?_
      refine g_goto hX 23 dX2_number_19 (by decide) ?_
      have e9 : F_X2_number u p1 = (u.2.2.2 (Int32.toNatClampNeg p1)) := by simp only [F_X2_number, eq_false c_1, eq_false c_10, if_true, if_false]
      rw [e9]
      exact g_iret hX dX2_number_23 rfl rfl
/-! X2_knotsAt -/
def rmX2_knotsAt : Room := { frames := 0, cells := 0, slots := 0, locals := 0 }
theorem k_X2_knotsAt_0 : Cond.fieldLink RX2 18 RX2 (TX2 1).2.1 (TX2 1).2.2.1 ∈ wsX2_knotsAt := List.mem_of_getElem? (i := 1) rfl
theorem h_X2_knotsAt_X2 : ∀ w ∈ u_ws RX2 TX2 11, w ∈ wsX2_knotsAt := fun w h => List.mem_cons_of_mem _ (List.mem_append_right _ h)
def F_X2_knotsAt (u : SV) (p1 : Int32) : Int32 :=
  (if p1 < 0 then 0 else (if 12 ≤ p1 then 0 else (u.2.2.1 (Int32.toNatClampNeg p1))))
set_option maxHeartbeats 4000000 in
set_option maxRecDepth 100000 in
theorem c_X2_knotsAt (l : Launch) (T : TT) (b0 : Nat) (a w h k d : Nat) (u : SV) (p1 : Int32)  : ConI l T b0 yX2_knotsAt wsX2_knotsAt rmX2_knotsAt [.ref a, .int p1] (wSt T a w h k d u) (F_X2_knotsAt u p1) (wSt T a w h k d u) := by
  refine conI_of (cc := cX2_knotsAt) (maxL := 2) (ret := (some .int)) (lv0 := [(0, .ref a), (1, .int p1)]) (by decide +kernel) rfl (Nat.le_of_ble_eq_true rfl) rfl (fun X hX => ?_)
  refine g_iload_n hX dX2_knotsAt_0 rfl 1 rfl ?_
  refine g_if_lt hX 22 dX2_knotsAt_1 (by decide) (fun c_1 => ?_) (fun c_1 => ?_)
  · skip
    refine g_iconst hX (v := 0) dX2_knotsAt_22 (by decide) ?_
    have e9 : F_X2_knotsAt u p1 = 0 := by simp only [F_X2_knotsAt, eq_true c_1, if_true, if_false]
    rw [e9]
    exact g_iret hX dX2_knotsAt_23 rfl rfl
  · skip
    refine g_iload_n hX dX2_knotsAt_4 rfl 1 rfl ?_
    refine g_aload_n hX dX2_knotsAt_5 rfl 0 rfl ?_
    refine g_get hX 2 h_X2_knotsAt_X2 0 rfl rfl 1 (by decide) k_X2_knotsAt_0 rfl (v := .ref k) rfl dX2_knotsAt_6 ?_
    refine g_alen hX 3 0 rfl rfl (v := 12) rfl dX2_knotsAt_9 ?_
    refine g_icmp_ge hX 22 dX2_knotsAt_10 (by decide) (fun c_10 => ?_) (fun c_10 => ?_)
    · skip
      refine g_iconst hX (v := 0) dX2_knotsAt_22 (by decide) ?_
      have e9 : F_X2_knotsAt u p1 = 0 := by simp only [F_X2_knotsAt, eq_false c_1, eq_true c_10, if_true, if_false]
      rw [e9]
      exact g_iret hX dX2_knotsAt_23 rfl rfl
    · skip
      refine g_aload_n hX dX2_knotsAt_13 rfl 0 rfl ?_
      refine g_get hX 2 h_X2_knotsAt_X2 0 rfl rfl 1 (by decide) k_X2_knotsAt_0 rfl (v := .ref k) rfl dX2_knotsAt_14 ?_
      refine g_iload_n hX dX2_knotsAt_17 rfl 1 rfl ?_
      refine g_iald hX 3 rfl (vin_of c_1 c_10 (by decide)) (v := (u.2.2.1 (Int32.toNatClampNeg p1))) (congrArg _ rfl) dX2_knotsAt_18 ?_
      refine g_goto hX 23 dX2_knotsAt_19 (by decide) ?_
      have e9 : F_X2_knotsAt u p1 = (u.2.2.1 (Int32.toNatClampNeg p1)) := by simp only [F_X2_knotsAt, eq_false c_1, eq_false c_10, if_true, if_false]
      rw [e9]
      exact g_iret hX dX2_knotsAt_23 rfl rfl
/-! X2_isBad -/
def rmX2_isBad : Room := { frames := 1, cells := 0, slots := 0, locals := 21 }
def F_X2_isBad (u : SV) (p1 : Int32) : Int32 :=
  (if (F_X2_knotsAt u p1) ≤ 2 then 0 else 1)
set_option maxHeartbeats 4000000 in
set_option maxRecDepth 100000 in
theorem c_X2_isBad (l : Launch) (T : TT) (b0 : Nat) (a w h k d : Nat) (u : SV) (p1 : Int32)  : ConI l T b0 yX2_isBad wsX2_isBad rmX2_isBad [.ref a, .int p1] (wSt T a w h k d u) (F_X2_isBad u p1) (wSt T a w h k d u) := by
  refine conI_of (cc := cX2_isBad) (maxL := 2) (ret := (some .boolean)) (lv0 := [(0, .ref a), (1, .int p1)]) (by decide +kernel) rfl (Nat.le_of_ble_eq_true rfl) rfl (fun X hX => ?_)
  refine g_aload_n hX dX2_isBad_0 rfl 0 rfl ?_
  refine g_iload_n hX dX2_isBad_1 rfl 1 rfl ?_
  refine g_cV_I hX (n := 1) (As := [.int p1]) (wc := wSt T a w h k d u) (w1 := wSt T a w h k d u) (rv := (F_X2_knotsAt u p1)) (st := []) 0 rfl rfl (c_X2_knotsAt (xL X) T (xB X) a w h k d u p1) gX2_isBad_X2_knotsAt rfl rfl rfl ⟨Nat.le_of_ble_eq_true rfl, Nat.le_of_ble_eq_true rfl⟩ ⟨Nat.zero_le _, Nat.zero_le _⟩ ⟨by decide +kernel, by decide +kernel, by decide +kernel⟩ rfl [0, 1, 2, 3, 4] rfl rfl (by decide) rfl (Nat.le_of_ble_eq_true rfl) dX2_isBad_2 (ws' := wSt T a w h k d u) rfl ?_
  refine g_iconst hX (v := 2) dX2_isBad_5 (by decide) ?_
  refine g_icmp_le hX 13 dX2_isBad_6 (by decide) (fun c_6 => ?_) (fun c_6 => ?_)
  · skip
    refine g_iconst hX (v := 0) dX2_isBad_13 (by decide) ?_
    have e9 : F_X2_isBad u p1 = 0 := by simp only [F_X2_isBad, eq_true c_6, if_true, if_false]
    rw [e9]
    exact g_zret hX dX2_isBad_14 rfl rfl rfl
  · skip
    refine g_iconst hX (v := 1) dX2_isBad_9 (by decide) ?_
    refine g_goto hX 14 dX2_isBad_10 (by decide) ?_
    have e9 : F_X2_isBad u p1 = 1 := by simp only [F_X2_isBad, eq_false c_6, if_true, if_false]
    rw [e9]
    exact g_zret hX dX2_isBad_14 rfl rfl rfl
/-! X2_hasBadPlace -/
def rmX2_hasBadPlace : Room := { frames := 2, cells := 0, slots := 0, locals := 42 }
def K_X2_hasBadPlace_4 : Nat → SV → Nat → Int32 → Int32
  | 0, u, j, e => 0
  | n + 1, u, j, e => (if 12 ≤ (nI j) then e else (if e = 0 then (if (F_X2_isBad u (nI j)) = 0 then K_X2_hasBadPlace_4 n u (j + 1) 0 else K_X2_hasBadPlace_4 n u (j + 1) 1) else K_X2_hasBadPlace_4 n u (j + 1) 1))
def F_X2_hasBadPlace (u : SV) : Int32 :=
  K_X2_hasBadPlace_4 13 u 0 0
set_option maxHeartbeats 4000000 in
set_option maxRecDepth 100000 in
theorem k_X2_hasBadPlace_4 {T : TT} {X : CX} (hX : Fit T X (yX2_hasBadPlace).cls 3 wsX2_hasBadPlace cX2_hasBadPlace (some .boolean) rmX2_hasBadPlace) (a w h k d : Nat) : ∀ (n : Nat) (u : SV) (j : Nat) (e : Int32) (hn : j + n = 13) (hj : j ≤ 12) (he : e = 0 ∨ e = 1), G T X (QI T X 0 0 (K_X2_hasBadPlace_4 n u j e) (wSt T a w h k d u)) 0 0 (wSt T a w h k d u) [(2, .int (nI j)), (1, .int e), (0, .ref a)] 4 [] := by
  intro n
  induction n with
  | zero =>
    intro u j e hn hj he
    exact absurd hn (by omega)
  | succ n ih =>
    intro u j e hn hj he
    refine g_iload_n hX dX2_hasBadPlace_4 rfl 0 rfl ?_
    refine g_bipush hX (v := 12) dX2_hasBadPlace_5 (by decide) ?_
    refine g_icmp_ge hX 34 dX2_hasBadPlace_7 (by decide) (fun c_7 => ?_) (fun c_7 => ?_)
    · skip
      refine g_iload_n hX dX2_hasBadPlace_34 rfl 1 rfl ?_
      have e9 : K_X2_hasBadPlace_4 (n + 1) u j e = e := by simp only [K_X2_hasBadPlace_4, eq_true c_7, if_true, if_false]
      rw [e9]
      exact g_zret hX dX2_hasBadPlace_35 (narrow_b he) rfl rfl
    · skip
      have hlt_7 : j < 12 := nlt_of c_7 (by decide) (by omega)
      refine g_iload_n hX dX2_hasBadPlace_10 rfl 1 rfl ?_
      refine g_if_ne hX 22 dX2_hasBadPlace_11 (by decide) (fun c_11 => ?_) (fun c_11 => ?_)
      · skip
        refine g_iconst hX (v := 1) dX2_hasBadPlace_22 (by decide) ?_
        refine g_goto hX 27 dX2_hasBadPlace_23 (by decide) ?_
        refine g_istore_n hX (lv' := [(1, .int 1), (2, .int (nI j)), (0, .ref a)]) dX2_hasBadPlace_27 rfl (by decide) rfl ?_
        refine g_iinc hX (lv' := [(2, .int (nI (j + 1))), (1, .int 1), (0, .ref a)]) (v := (nI (j + 1))) 1 dX2_hasBadPlace_28 rfl (nI_1 _) (by decide) rfl ?_
        refine g_goto hX 4 dX2_hasBadPlace_31 (by decide) ?_
        have e9 : K_X2_hasBadPlace_4 (n + 1) u j e = K_X2_hasBadPlace_4 n u (j + 1) 1 := by simp only [K_X2_hasBadPlace_4, eq_false c_7, eq_false c_11, if_true, if_false]
        rw [e9]
        refine g_lv (lv' := [(2, .int (nI (j + 1))), (1, .int 1), (0, .ref a)]) [0, 1, 2] rfl ?_
        exact ih u (j + 1) 1 (by omega) (by omega) (by first | exact Or.inl rfl | exact Or.inr rfl)
      · skip
        refine g_aload_n hX dX2_hasBadPlace_14 rfl 2 rfl ?_
        refine g_iload_n hX dX2_hasBadPlace_15 rfl 0 rfl ?_
        refine g_cV_I hX (n := 1) (As := [.int (nI j)]) (wc := wSt T a w h k d u) (w1 := wSt T a w h k d u) (rv := (F_X2_isBad u (nI j))) (st := []) 0 rfl rfl (c_X2_isBad (xL X) T (xB X) a w h k d u (nI j)) gX2_hasBadPlace_X2_isBad rfl rfl rfl ⟨Nat.le_of_ble_eq_true rfl, Nat.le_of_ble_eq_true rfl⟩ ⟨Nat.zero_le _, Nat.zero_le _⟩ ⟨by decide +kernel, by decide +kernel, by decide +kernel⟩ rfl [0, 1, 2, 3, 4] rfl rfl (by decide) rfl (Nat.le_of_ble_eq_true rfl) dX2_hasBadPlace_16 (ws' := wSt T a w h k d u) rfl ?_
        refine g_if_eq hX 26 dX2_hasBadPlace_19 (by decide) (fun c_19 => ?_) (fun c_19 => ?_)
        · skip
          refine g_iconst hX (v := 0) dX2_hasBadPlace_26 (by decide) ?_
          refine g_istore_n hX (lv' := [(1, .int 0), (2, .int (nI j)), (0, .ref a)]) dX2_hasBadPlace_27 rfl (by decide) rfl ?_
          refine g_iinc hX (lv' := [(2, .int (nI (j + 1))), (1, .int 0), (0, .ref a)]) (v := (nI (j + 1))) 1 dX2_hasBadPlace_28 rfl (nI_1 _) (by decide) rfl ?_
          refine g_goto hX 4 dX2_hasBadPlace_31 (by decide) ?_
          have e9 : K_X2_hasBadPlace_4 (n + 1) u j e = K_X2_hasBadPlace_4 n u (j + 1) 0 := by simp only [K_X2_hasBadPlace_4, eq_false c_7, eq_true c_11, eq_true c_19, if_true, if_false]
          rw [e9]
          refine g_lv (lv' := [(2, .int (nI (j + 1))), (1, .int 0), (0, .ref a)]) [0, 1, 2] rfl ?_
          exact ih u (j + 1) 0 (by omega) (by omega) (by first | exact Or.inl rfl | exact Or.inr rfl)
        · skip
          refine g_iconst hX (v := 1) dX2_hasBadPlace_22 (by decide) ?_
          refine g_goto hX 27 dX2_hasBadPlace_23 (by decide) ?_
          refine g_istore_n hX (lv' := [(1, .int 1), (2, .int (nI j)), (0, .ref a)]) dX2_hasBadPlace_27 rfl (by decide) rfl ?_
          refine g_iinc hX (lv' := [(2, .int (nI (j + 1))), (1, .int 1), (0, .ref a)]) (v := (nI (j + 1))) 1 dX2_hasBadPlace_28 rfl (nI_1 _) (by decide) rfl ?_
          refine g_goto hX 4 dX2_hasBadPlace_31 (by decide) ?_
          have e9 : K_X2_hasBadPlace_4 (n + 1) u j e = K_X2_hasBadPlace_4 n u (j + 1) 1 := by simp only [K_X2_hasBadPlace_4, eq_false c_7, eq_true c_11, eq_false c_19, if_true, if_false]
          rw [e9]
          refine g_lv (lv' := [(2, .int (nI (j + 1))), (1, .int 1), (0, .ref a)]) [0, 1, 2] rfl ?_
          exact ih u (j + 1) 1 (by omega) (by omega) (by first | exact Or.inl rfl | exact Or.inr rfl)
set_option maxHeartbeats 4000000 in
set_option maxRecDepth 100000 in
theorem c_X2_hasBadPlace (l : Launch) (T : TT) (b0 : Nat) (a w h k d : Nat) (u : SV)  : ConI l T b0 yX2_hasBadPlace wsX2_hasBadPlace rmX2_hasBadPlace [.ref a] (wSt T a w h k d u) (F_X2_hasBadPlace u) (wSt T a w h k d u) := by
  refine conI_of (cc := cX2_hasBadPlace) (maxL := 3) (ret := (some .boolean)) (lv0 := [(0, .ref a)]) (by decide +kernel) rfl (Nat.le_of_ble_eq_true rfl) rfl (fun X hX => ?_)
  refine g_iconst hX (v := 0) dX2_hasBadPlace_0 (by decide) ?_
  refine g_istore_n hX (lv' := [(1, .int 0), (0, .ref a)]) dX2_hasBadPlace_1 rfl (by decide) rfl ?_
  refine g_iconst hX (v := 0) dX2_hasBadPlace_2 (by decide) ?_
  refine g_istore_n hX (lv' := [(2, .int 0), (1, .int 0), (0, .ref a)]) dX2_hasBadPlace_3 rfl (by decide) rfl ?_
  have e9 : F_X2_hasBadPlace u = K_X2_hasBadPlace_4 13 u 0 0 := by simp only [F_X2_hasBadPlace, if_true, if_false]
  rw [e9]
  refine g_lv (lv' := [(2, .int (nI 0)), (1, .int 0), (0, .ref a)]) [0, 1, 2] rfl ?_
  exact k_X2_hasBadPlace_4 hX a w h k d 13 u 0 0 (by omega) (by omega) (Or.inl rfl)
/-! X2_allKnots -/
def rmX2_allKnots : Room := { frames := 0, cells := 0, slots := 0, locals := 0 }
theorem k_X2_allKnots_0 : Cond.fieldLink RX2 18 RX2 (TX2 1).2.1 (TX2 1).2.2.1 ∈ wsX2_allKnots := List.mem_of_getElem? (i := 1) rfl
theorem h_X2_allKnots_X2 : ∀ w ∈ u_ws RX2 TX2 11, w ∈ wsX2_allKnots := fun w h => List.mem_cons_of_mem _ (List.mem_append_right _ h)
def K_X2_allKnots_13 : Nat → SV → Nat → Int32 → Int32
  | 0, u, j, e => 0
  | n + 1, u, j, e => (if 12 ≤ (nI j) then e else K_X2_allKnots_13 n u (j + 1) (e + (u.2.2.1 j)))
def F_X2_allKnots (u : SV) : Int32 :=
  K_X2_allKnots_13 13 u 0 0
set_option maxHeartbeats 4000000 in
set_option maxRecDepth 100000 in
theorem k_X2_allKnots_13 {T : TT} {X : CX} (hX : Fit T X (yX2_allKnots).cls 6 wsX2_allKnots cX2_allKnots (some .int) rmX2_allKnots) (a w h k d : Nat) : ∀ (n : Nat) (u : SV) (j : Nat) (e : Int32) (hn : j + n = 13) (hj : j ≤ 12), G T X (QI T X 0 0 (K_X2_allKnots_13 n u j e) (wSt T a w h k d u)) 0 0 (wSt T a w h k d u) [(4, .int (nI j)), (1, .int e), (2, .ref k), (3, .int 12), (0, .ref a)] 13 [] := by
  intro n
  induction n with
  | zero =>
    intro u j e hn hj
    exact absurd hn (by omega)
  | succ n ih =>
    intro u j e hn hj
    refine g_iload hX dX2_allKnots_13 0 rfl ?_
    refine g_iload_n hX dX2_allKnots_15 rfl 3 rfl ?_
    refine g_icmp_ge hX 36 dX2_allKnots_16 (by decide) (fun c_16 => ?_) (fun c_16 => ?_)
    · skip
      refine g_iload_n hX dX2_allKnots_36 rfl 1 rfl ?_
      have e9 : K_X2_allKnots_13 (n + 1) u j e = e := by simp only [K_X2_allKnots_13, eq_true c_16, if_true, if_false]
      rw [e9]
      exact g_iret hX dX2_allKnots_37 rfl rfl
    · skip
      have hlt_16 : j < 12 := nlt_of c_16 (by decide) (by omega)
      refine g_aload_n hX dX2_allKnots_19 rfl 2 rfl ?_
      refine g_iload hX dX2_allKnots_20 0 rfl ?_
      refine g_iald hX 3 rfl (vp_in_nI (by omega) (by omega)) (v := (u.2.2.1 j)) (congrArg _ (nI_clamp (by omega))) dX2_allKnots_22 ?_
      refine g_istore hX (lv' := [(5, .int (u.2.2.1 j)), (4, .int (nI j)), (1, .int e), (2, .ref k), (3, .int 12), (0, .ref a)]) dX2_allKnots_23 (by decide) rfl ?_
      refine g_iload_n hX dX2_allKnots_25 rfl 2 rfl ?_
      refine g_iload hX dX2_allKnots_26 0 rfl ?_
      refine g_iadd hX dX2_allKnots_28 ?_
      refine g_istore_n hX (lv' := [(1, .int (e + (u.2.2.1 j))), (5, .int (u.2.2.1 j)), (4, .int (nI j)), (2, .ref k), (3, .int 12), (0, .ref a)]) dX2_allKnots_29 rfl (by decide) rfl ?_
      refine g_iinc hX (lv' := [(4, .int (nI (j + 1))), (1, .int (e + (u.2.2.1 j))), (5, .int (u.2.2.1 j)), (2, .ref k), (3, .int 12), (0, .ref a)]) (v := (nI (j + 1))) 2 dX2_allKnots_30 rfl (nI_1 _) (by decide) rfl ?_
      refine g_goto hX 13 dX2_allKnots_33 (by decide) ?_
      have e9 : K_X2_allKnots_13 (n + 1) u j e = K_X2_allKnots_13 n u (j + 1) (e + (u.2.2.1 j)) := by simp only [K_X2_allKnots_13, eq_false c_16, if_true, if_false]
      rw [e9]
      refine g_lv (lv' := [(4, .int (nI (j + 1))), (1, .int (e + (u.2.2.1 j))), (2, .ref k), (3, .int 12), (0, .ref a)]) [0, 1, 3, 4, 5] rfl ?_
      exact ih u (j + 1) (e + (u.2.2.1 j)) (by omega) (by omega)
set_option maxHeartbeats 4000000 in
set_option maxRecDepth 100000 in
theorem c_X2_allKnots (l : Launch) (T : TT) (b0 : Nat) (a w h k d : Nat) (u : SV)  : ConI l T b0 yX2_allKnots wsX2_allKnots rmX2_allKnots [.ref a] (wSt T a w h k d u) (F_X2_allKnots u) (wSt T a w h k d u) := by
  refine conI_of (cc := cX2_allKnots) (maxL := 6) (ret := (some .int)) (lv0 := [(0, .ref a)]) (by decide +kernel) rfl (Nat.le_of_ble_eq_true rfl) rfl (fun X hX => ?_)
  refine g_iconst hX (v := 0) dX2_allKnots_0 (by decide) ?_
  refine g_istore_n hX (lv' := [(1, .int 0), (0, .ref a)]) dX2_allKnots_1 rfl (by decide) rfl ?_
  refine g_aload_n hX dX2_allKnots_2 rfl 1 rfl ?_
  refine g_get hX 2 h_X2_allKnots_X2 0 rfl rfl 1 (by decide) k_X2_allKnots_0 rfl (v := .ref k) rfl dX2_allKnots_3 ?_
  refine g_astore_n hX (lv' := [(2, .ref k), (1, .int 0), (0, .ref a)]) dX2_allKnots_6 rfl (by decide) rfl ?_
  refine g_aload_n hX dX2_allKnots_7 rfl 0 rfl ?_
  refine g_alen hX 3 0 rfl rfl (v := 12) rfl dX2_allKnots_8 ?_
  refine g_istore_n hX (lv' := [(3, .int 12), (2, .ref k), (1, .int 0), (0, .ref a)]) dX2_allKnots_9 rfl (by decide) rfl ?_
  refine g_iconst hX (v := 0) dX2_allKnots_10 (by decide) ?_
  refine g_istore hX (lv' := [(4, .int 0), (3, .int 12), (2, .ref k), (1, .int 0), (0, .ref a)]) dX2_allKnots_11 (by decide) rfl ?_
  have e9 : F_X2_allKnots u = K_X2_allKnots_13 13 u 0 0 := by simp only [F_X2_allKnots, if_true, if_false]
  rw [e9]
  refine g_lv (lv' := [(4, .int (nI 0)), (1, .int 0), (2, .ref k), (3, .int 12), (0, .ref a)]) [0, 3, 2, 1, 4] rfl ?_
  exact k_X2_allKnots_13 hX a w h k d 13 u 0 0 (by omega) (by omega)
/-! X2_isConeEmpty -/
def rmX2_isConeEmpty : Room := { frames := 0, cells := 0, slots := 0, locals := 0 }
theorem k_X2_isConeEmpty_0 : Cond.fieldLink RX2 33 RX2 (TX2 3).2.1 (TX2 3).2.2.1 ∈ wsX2_isConeEmpty := List.mem_of_getElem? (i := 1) rfl
theorem h_X2_isConeEmpty_X2 : ∀ w ∈ u_ws RX2 TX2 11, w ∈ wsX2_isConeEmpty := fun w h => List.mem_cons_of_mem _ (List.mem_append_right _ h)
def F_X2_isConeEmpty (u : SV) : Int32 :=
  (if (u.1 0) = 0 then 1 else 0)
set_option maxHeartbeats 4000000 in
set_option maxRecDepth 100000 in
theorem c_X2_isConeEmpty (l : Launch) (T : TT) (b0 : Nat) (a w h k d : Nat) (u : SV)  : ConI l T b0 yX2_isConeEmpty wsX2_isConeEmpty rmX2_isConeEmpty [.ref a] (wSt T a w h k d u) (F_X2_isConeEmpty u) (wSt T a w h k d u) := by
  refine conI_of (cc := cX2_isConeEmpty) (maxL := 1) (ret := (some .boolean)) (lv0 := [(0, .ref a)]) (by decide +kernel) rfl (Nat.le_of_ble_eq_true rfl) rfl (fun X hX => ?_)
  refine g_aload_n hX dX2_isConeEmpty_0 rfl 0 rfl ?_
  refine g_get hX 2 h_X2_isConeEmpty_X2 0 rfl rfl 3 (by decide) k_X2_isConeEmpty_0 rfl (v := .int (u.1 0)) rfl dX2_isConeEmpty_1 ?_
  refine g_if_ne hX 11 dX2_isConeEmpty_4 (by decide) (fun c_4 => ?_) (fun c_4 => ?_)
  · skip
    refine g_iconst hX (v := 0) dX2_isConeEmpty_11 (by decide) ?_
    have e9 : F_X2_isConeEmpty u = 0 := by simp only [F_X2_isConeEmpty, eq_false c_4, if_true, if_false]
    rw [e9]
    exact g_zret hX dX2_isConeEmpty_12 rfl rfl rfl
  · skip
    refine g_iconst hX (v := 1) dX2_isConeEmpty_7 (by decide) ?_
    refine g_goto hX 12 dX2_isConeEmpty_8 (by decide) ?_
    have e9 : F_X2_isConeEmpty u = 1 := by simp only [F_X2_isConeEmpty, eq_true c_4, if_true, if_false]
    rw [e9]
    exact g_zret hX dX2_isConeEmpty_12 rfl rfl rfl
/-! X2_isIdle -/
def rmX2_isIdle : Room := { frames := 1, cells := 0, slots := 0, locals := 20 }
theorem k_X2_isIdle_0 : Cond.fieldLink RX2 40 RX2 (TX2 5).2.1 (TX2 5).2.2.1 ∈ wsX2_isIdle := List.mem_of_getElem? (i := 1) rfl
theorem h_X2_isIdle_X2 : ∀ w ∈ u_ws RX2 TX2 11, w ∈ wsX2_isIdle := fun w h => List.mem_cons_of_mem _ (List.mem_append_left _ (List.mem_append_right _ h))
theorem k_X2_isIdle_1 : Cond.fieldLink RX2 12 RX2 (TX2 0).2.1 (TX2 0).2.2.1 ∈ wsX2_isIdle := List.mem_of_getElem? (i := 2) rfl
theorem k_X2_isIdle_9 : Cond.initialized RX3 ∈ wsX2_isIdle := List.mem_of_getElem? (i := 10) rfl
theorem k_X2_isIdle_8 : Cond.instanceMethod yX3_isFull ∈ wsX2_isIdle := List.mem_of_getElem? (i := 9) rfl
theorem k_X2_isIdle_10 : Cond.selects RX3 yX3_isFull yX3_isFull ∈ wsX2_isIdle := List.mem_of_getElem? (i := 11) rfl
def F_X2_isIdle (u : SV) : Int32 :=
  (if (u.1 2) = 0 then (if (F_X2_isConeEmpty u) = 0 then (if (F_X3_isFull u.2.1) = 0 then 0 else 1) else 1) else 1)
set_option maxHeartbeats 4000000 in
set_option maxRecDepth 100000 in
theorem c_X2_isIdle (l : Launch) (T : TT) (b0 : Nat) (a w h k d : Nat) (u : SV)  : ConI l T b0 yX2_isIdle wsX2_isIdle rmX2_isIdle [.ref a] (wSt T a w h k d u) (F_X2_isIdle u) (wSt T a w h k d u) := by
  refine conI_of (cc := cX2_isIdle) (maxL := 1) (ret := (some .boolean)) (lv0 := [(0, .ref a)]) (by decide +kernel) rfl (Nat.le_of_ble_eq_true rfl) rfl (fun X hX => ?_)
  refine g_aload_n hX dX2_isIdle_0 rfl 0 rfl ?_
  refine g_get hX 2 h_X2_isIdle_X2 0 rfl rfl 5 (by decide) k_X2_isIdle_0 rfl (v := .int (u.1 2)) rfl dX2_isIdle_1 ?_
  refine g_if_ne hX 24 dX2_isIdle_4 (by decide) (fun c_4 => ?_) (fun c_4 => ?_)
  · skip
    refine g_iconst hX (v := 1) dX2_isIdle_24 (by decide) ?_
    refine g_goto hX 29 dX2_isIdle_25 (by decide) ?_
    have e9 : F_X2_isIdle u = 1 := by simp only [F_X2_isIdle, eq_false c_4, if_true, if_false]
    rw [e9]
    exact g_zret hX dX2_isIdle_29 rfl rfl rfl
  · skip
    refine g_aload_n hX dX2_isIdle_7 rfl 0 rfl ?_
    refine g_cV_I hX (n := 0) (As := []) (wc := wSt T a w h k d u) (w1 := wSt T a w h k d u) (rv := (F_X2_isConeEmpty u)) (st := []) 0 rfl rfl (c_X2_isConeEmpty (xL X) T (xB X) a w h k d u) gX2_isIdle_X2_isConeEmpty rfl rfl rfl ⟨Nat.le_of_ble_eq_true rfl, Nat.le_of_ble_eq_true rfl⟩ ⟨Nat.zero_le _, Nat.zero_le _⟩ ⟨by decide +kernel, by decide +kernel, by decide +kernel⟩ rfl [0, 1, 2, 3, 4] rfl rfl (by decide) rfl (Nat.le_of_ble_eq_true rfl) dX2_isIdle_8 (ws' := wSt T a w h k d u) rfl ?_
    refine g_if_ne hX 24 dX2_isIdle_11 (by decide) (fun c_11 => ?_) (fun c_11 => ?_)
    · skip
      refine g_iconst hX (v := 1) dX2_isIdle_24 (by decide) ?_
      refine g_goto hX 29 dX2_isIdle_25 (by decide) ?_
      have e9 : F_X2_isIdle u = 1 := by simp only [F_X2_isIdle, eq_true c_4, eq_false c_11, if_true, if_false]
      rw [e9]
      exact g_zret hX dX2_isIdle_29 rfl rfl rfl
    · skip
      refine g_aload_n hX dX2_isIdle_14 rfl 0 rfl ?_
      refine g_get hX 2 h_X2_isIdle_X2 0 rfl rfl 0 (by decide) k_X2_isIdle_1 rfl (v := .ref w) rfl dX2_isIdle_15 ?_
      refine g_cVN_I hX (n := 0) (As := []) (wc := wWr T w h u.2.1) (w1 := wWr T w h u.2.1) (rv := (F_X3_isFull u.2.1)) (st := []) 1 rfl rfl (c_X3_isFull (xL X) T (xB X) w h u.2.1) ggX2_isIdle_X3_isFull 27 rfl k_X2_isIdle_9 k_X2_isIdle_8 k_X2_isIdle_10 rfl rfl rfl ⟨Nat.le_of_ble_eq_true rfl, Nat.le_of_ble_eq_true rfl⟩ ⟨Nat.zero_le _, Nat.zero_le _⟩ ⟨by decide +kernel, by decide +kernel, by decide +kernel⟩ rfl [1, 2] rfl rfl (by decide) rfl (Nat.le_of_ble_eq_true rfl) dX2_isIdle_18 (ws' := wSt T a w h k d u) rfl ?_
      refine g_if_eq hX 28 dX2_isIdle_21 (by decide) (fun c_21 => ?_) (fun c_21 => ?_)
      · skip
        refine g_iconst hX (v := 0) dX2_isIdle_28 (by decide) ?_
        have e9 : F_X2_isIdle u = 0 := by simp only [F_X2_isIdle, eq_true c_4, eq_true c_11, eq_true c_21, if_true, if_false]
        rw [e9]
        exact g_zret hX dX2_isIdle_29 rfl rfl rfl
      · skip
        refine g_iconst hX (v := 1) dX2_isIdle_24 (by decide) ?_
        refine g_goto hX 29 dX2_isIdle_25 (by decide) ?_
        have e9 : F_X2_isIdle u = 1 := by simp only [F_X2_isIdle, eq_true c_4, eq_true c_11, eq_false c_21, if_true, if_false]
        rw [e9]
        exact g_zret hX dX2_isIdle_29 rfl rfl rfl
/-! X2_warmDiscs -/
def rmX2_warmDiscs : Room := { frames := 1, cells := 0, slots := 0, locals := 21 }
theorem k_X2_warmDiscs_0 : Cond.fieldLink RX2 37 RX2 (TX2 4).2.1 (TX2 4).2.2.1 ∈ wsX2_warmDiscs := List.mem_of_getElem? (i := 1) rfl
theorem h_X2_warmDiscs_X2 : ∀ w ∈ u_ws RX2 TX2 11, w ∈ wsX2_warmDiscs := fun w h => List.mem_cons_of_mem _ (List.mem_append_right _ h)
theorem k_X2_warmDiscs_1 : Cond.methodLink RX2 125 Lib.Math.min.name ∈ wsX2_warmDiscs := List.mem_of_getElem? (i := 2) rfl
theorem k_X2_warmDiscs_2 : Cond.static Lib.Math.min.name ∈ wsX2_warmDiscs := List.mem_of_getElem? (i := 3) rfl
theorem k_X2_warmDiscs_3 : Cond.initialized "java/lang/Math" ∈ wsX2_warmDiscs := List.mem_of_getElem? (i := 4) rfl
theorem k_X2_warmDiscs_4 : Cond.code Lib.Math.min.name Lib.Math.min.code 2 (some .int) ∈ wsX2_warmDiscs := List.mem_of_getElem? (i := 5) rfl
theorem k_X2_warmDiscs_5 : Cond.methodLink RX2 128 Lib.Math.max.name ∈ wsX2_warmDiscs := List.mem_of_getElem? (i := 6) rfl
theorem k_X2_warmDiscs_6 : Cond.static Lib.Math.max.name ∈ wsX2_warmDiscs := List.mem_of_getElem? (i := 7) rfl
theorem k_X2_warmDiscs_7 : Cond.code Lib.Math.max.name Lib.Math.max.code 2 (some .int) ∈ wsX2_warmDiscs := List.mem_of_getElem? (i := 8) rfl
def F_X2_warmDiscs (u : SV) : SV :=
  (upd u.1 1 (if 0 < (if (((u.1 1) + (F_X2_number u 1)) - 1) < 300 then (((u.1 1) + (F_X2_number u 1)) - 1) else 300) then (if (((u.1 1) + (F_X2_number u 1)) - 1) < 300 then (((u.1 1) + (F_X2_number u 1)) - 1) else 300) else 0), u.2.1, u.2.2.1, u.2.2.2)
set_option maxHeartbeats 4000000 in
set_option maxRecDepth 100000 in
theorem c_X2_warmDiscs (l : Launch) (T : TT) (b0 : Nat) (a w h k d : Nat) (u : SV)  : ConV l T b0 yX2_warmDiscs wsX2_warmDiscs rmX2_warmDiscs [.ref a] (wSt T a w h k d u) (wSt T a w h k d (F_X2_warmDiscs u)) := by
  refine conV_of (cc := cX2_warmDiscs) (maxL := 1) (ret := none) (lv0 := [(0, .ref a)]) (by decide +kernel) rfl (Nat.le_of_ble_eq_true rfl) rfl (fun X hX => ?_)
  refine g_aload_n hX dX2_warmDiscs_0 rfl 0 rfl ?_
  refine g_iconst hX (v := 0) dX2_warmDiscs_1 (by decide) ?_
  refine g_sipush hX (v := 300) dX2_warmDiscs_2 (by decide) ?_
  refine g_aload_n hX dX2_warmDiscs_5 rfl 0 rfl ?_
  refine g_get hX 2 h_X2_warmDiscs_X2 0 rfl rfl 4 (by decide) k_X2_warmDiscs_0 rfl (v := .int (u.1 1)) rfl dX2_warmDiscs_6 ?_
  refine g_aload_n hX dX2_warmDiscs_9 rfl 0 rfl ?_
  refine g_iconst hX (v := 1) dX2_warmDiscs_10 (by decide) ?_
  refine g_cV_I hX (n := 1) (As := [.int 1]) (wc := wSt T a w h k d u) (w1 := wSt T a w h k d u) (rv := (F_X2_number u 1)) (st := [.int (u.1 1), .int 300, .int 0, .ref a]) 0 rfl rfl (c_X2_number (xL X) T (xB X) a w h k d u 1) gX2_warmDiscs_X2_number rfl rfl rfl ⟨Nat.le_of_ble_eq_true rfl, Nat.le_of_ble_eq_true rfl⟩ ⟨Nat.zero_le _, Nat.zero_le _⟩ ⟨by decide +kernel, by decide +kernel, by decide +kernel⟩ rfl [0, 1, 2, 3, 4] rfl rfl (by decide) rfl (Nat.le_of_ble_eq_true rfl) dX2_warmDiscs_11 (ws' := wSt T a w h k d u) rfl ?_
  refine g_iadd hX dX2_warmDiscs_14 ?_
  refine g_iconst hX (v := 1) dX2_warmDiscs_15 (by decide) ?_
  refine g_isub hX dX2_warmDiscs_16 ?_
  refine g_mmin hX k_X2_warmDiscs_1 k_X2_warmDiscs_2 k_X2_warmDiscs_3 k_X2_warmDiscs_4 (Nat.le_of_ble_eq_true rfl) (Nat.le_of_ble_eq_true rfl) (Nat.zero_le _) (Nat.zero_le _) dX2_warmDiscs_17 ?_
  refine g_mmax hX k_X2_warmDiscs_5 k_X2_warmDiscs_6 k_X2_warmDiscs_3 k_X2_warmDiscs_7 (Nat.le_of_ble_eq_true rfl) (Nat.le_of_ble_eq_true rfl) (Nat.zero_le _) (Nat.zero_le _) dX2_warmDiscs_20 ?_
  refine g_put hX 2 h_X2_warmDiscs_X2 0 rfl rfl 4 (by decide) tyX2 tyX2_ok nmX2 k_X2_warmDiscs_0 rfl rfl rfl rfl rfl (Nat.le_of_ble_eq_true rfl) dX2_warmDiscs_23 (ws' := wSt T a w h k d (upd u.1 1 (if 0 < (if (((u.1 1) + (F_X2_number u 1)) - 1) < 300 then (((u.1 1) + (F_X2_number u 1)) - 1) else 300) then (if (((u.1 1) + (F_X2_number u 1)) - 1) < 300 then (((u.1 1) + (F_X2_number u 1)) - 1) else 300) else 0), u.2.1, u.2.2.1, u.2.2.2)) rfl ?_
  have e9 : F_X2_warmDiscs u = (upd u.1 1 (if 0 < (if (((u.1 1) + (F_X2_number u 1)) - 1) < 300 then (((u.1 1) + (F_X2_number u 1)) - 1) else 300) then (if (((u.1 1) + (F_X2_number u 1)) - 1) < 300 then (((u.1 1) + (F_X2_number u 1)) - 1) else 300) else 0), u.2.1, u.2.2.1, u.2.2.2) := by simp only [F_X2_warmDiscs, if_true, if_false]
  rw [e9]
  exact g_vret hX dX2_warmDiscs_26 rfl
/-! X2_tensionAt -/
def rmX2_tensionAt : Room := { frames := 1, cells := 0, slots := 0, locals := 21 }
theorem k_X2_tensionAt_0 : Cond.fieldLink RX2 37 RX2 (TX2 4).2.1 (TX2 4).2.2.1 ∈ wsX2_tensionAt := List.mem_of_getElem? (i := 1) rfl
theorem h_X2_tensionAt_X2 : ∀ w ∈ u_ws RX2 TX2 11, w ∈ wsX2_tensionAt := fun w h => List.mem_cons_of_mem _ (List.mem_append_left _ (List.mem_append_right _ h))
theorem k_X2_tensionAt_1 : Cond.fieldLink RX2 44 RX2 (TX2 6).2.1 (TX2 6).2.2.1 ∈ wsX2_tensionAt := List.mem_of_getElem? (i := 2) rfl
theorem k_X2_tensionAt_2 : Cond.fieldLink RX2 12 RX2 (TX2 0).2.1 (TX2 0).2.2.1 ∈ wsX2_tensionAt := List.mem_of_getElem? (i := 3) rfl
theorem k_X2_tensionAt_14 : Cond.initialized RX3 ∈ wsX2_tensionAt := List.mem_of_getElem? (i := 15) rfl
theorem k_X2_tensionAt_13 : Cond.instanceMethod yX3_heightAt ∈ wsX2_tensionAt := List.mem_of_getElem? (i := 14) rfl
theorem k_X2_tensionAt_15 : Cond.selects RX3 yX3_heightAt yX3_heightAt ∈ wsX2_tensionAt := List.mem_of_getElem? (i := 16) rfl
theorem k_X2_tensionAt_3 : Cond.methodLink RX2 120 Lib.Math.abs.name ∈ wsX2_tensionAt := List.mem_of_getElem? (i := 4) rfl
theorem k_X2_tensionAt_4 : Cond.static Lib.Math.abs.name ∈ wsX2_tensionAt := List.mem_of_getElem? (i := 5) rfl
theorem k_X2_tensionAt_5 : Cond.initialized "java/lang/Math" ∈ wsX2_tensionAt := List.mem_of_getElem? (i := 6) rfl
theorem k_X2_tensionAt_6 : Cond.code Lib.Math.abs.name Lib.Math.abs.code 1 (some .int) ∈ wsX2_tensionAt := List.mem_of_getElem? (i := 7) rfl
def F_X2_tensionAt (u : SV) (p1 : Int32) : Int32 :=
  (if (u.1 3) = (-1) then ((4 * (F_X2_number u 1)) + ((u.1 1) / 10)) else (((4 * (F_X2_number u 1)) + ((u.1 1) / 10)) + (2 * (if 0 ≤ ((F_X3_heightAt u.2.1 p1) - (F_X3_heightAt u.2.1 (u.1 3))) then ((F_X3_heightAt u.2.1 p1) - (F_X3_heightAt u.2.1 (u.1 3))) else 0 - ((F_X3_heightAt u.2.1 p1) - (F_X3_heightAt u.2.1 (u.1 3)))))))
set_option maxHeartbeats 4000000 in
set_option maxRecDepth 100000 in
theorem c_X2_tensionAt (l : Launch) (T : TT) (b0 : Nat) (a w h k d : Nat) (u : SV) (p1 : Int32)  : ConI l T b0 yX2_tensionAt wsX2_tensionAt rmX2_tensionAt [.ref a, .int p1] (wSt T a w h k d u) (F_X2_tensionAt u p1) (wSt T a w h k d u) := by
  refine conI_of (cc := cX2_tensionAt) (maxL := 4) (ret := (some .int)) (lv0 := [(0, .ref a), (1, .int p1)]) (by decide +kernel) rfl (Nat.le_of_ble_eq_true rfl) rfl (fun X hX => ?_)
  refine g_iconst hX (v := 4) dX2_tensionAt_0 (by decide) ?_
  refine g_aload_n hX dX2_tensionAt_1 rfl 0 rfl ?_
  refine g_iconst hX (v := 1) dX2_tensionAt_2 (by decide) ?_
  refine g_cV_I hX (n := 1) (As := [.int 1]) (wc := wSt T a w h k d u) (w1 := wSt T a w h k d u) (rv := (F_X2_number u 1)) (st := [.int 4]) 0 rfl rfl (c_X2_number (xL X) T (xB X) a w h k d u 1) gX2_tensionAt_X2_number rfl rfl rfl ⟨Nat.le_of_ble_eq_true rfl, Nat.le_of_ble_eq_true rfl⟩ ⟨Nat.zero_le _, Nat.zero_le _⟩ ⟨by decide +kernel, by decide +kernel, by decide +kernel⟩ rfl [0, 1, 2, 3, 4] rfl rfl (by decide) rfl (Nat.le_of_ble_eq_true rfl) dX2_tensionAt_3 (ws' := wSt T a w h k d u) rfl ?_
  refine g_imul hX dX2_tensionAt_6 ?_
  refine g_aload_n hX dX2_tensionAt_7 rfl 0 rfl ?_
  refine g_get hX 2 h_X2_tensionAt_X2 0 rfl rfl 4 (by decide) k_X2_tensionAt_0 rfl (v := .int (u.1 1)) rfl dX2_tensionAt_8 ?_
  refine g_bipush hX (v := 10) dX2_tensionAt_11 (by decide) ?_
  refine g_idiv hX dX2_tensionAt_13 (by decide) ?_
  refine g_iadd hX dX2_tensionAt_14 ?_
  refine g_istore_n hX (lv' := [(2, .int ((4 * (F_X2_number u 1)) + ((u.1 1) / 10))), (0, .ref a), (1, .int p1)]) dX2_tensionAt_15 rfl (by decide) rfl ?_
  refine g_aload_n hX dX2_tensionAt_16 rfl 1 rfl ?_
  refine g_get hX 2 h_X2_tensionAt_X2 0 rfl rfl 6 (by decide) k_X2_tensionAt_1 rfl (v := .int (u.1 3)) rfl dX2_tensionAt_17 ?_
  refine g_iconst hX (v := (-1)) dX2_tensionAt_20 (by decide) ?_
  refine g_icmp_ne hX 26 dX2_tensionAt_21 (by decide) (fun c_21 => ?_) (fun c_21 => ?_)
  · skip
    refine g_aload_n hX dX2_tensionAt_26 rfl 1 rfl ?_
    refine g_get hX 2 h_X2_tensionAt_X2 0 rfl rfl 0 (by decide) k_X2_tensionAt_2 rfl (v := .ref w) rfl dX2_tensionAt_27 ?_
    refine g_iload_n hX dX2_tensionAt_30 rfl 2 rfl ?_
    refine g_cVN_I hX (n := 1) (As := [.int p1]) (wc := wWr T w h u.2.1) (w1 := wWr T w h u.2.1) (rv := (F_X3_heightAt u.2.1 p1)) (st := []) 1 rfl rfl (c_X3_heightAt (xL X) T (xB X) w h u.2.1 p1) ggX2_tensionAt_X3_heightAt 29 rfl k_X2_tensionAt_14 k_X2_tensionAt_13 k_X2_tensionAt_15 rfl rfl rfl ⟨Nat.le_of_ble_eq_true rfl, Nat.le_of_ble_eq_true rfl⟩ ⟨Nat.zero_le _, Nat.zero_le _⟩ ⟨by decide +kernel, by decide +kernel, by decide +kernel⟩ rfl [1, 2] rfl rfl (by decide) rfl (Nat.le_of_ble_eq_true rfl) dX2_tensionAt_31 (ws' := wSt T a w h k d u) rfl ?_
    refine g_aload_n hX dX2_tensionAt_34 rfl 1 rfl ?_
    refine g_get hX 2 h_X2_tensionAt_X2 0 rfl rfl 0 (by decide) k_X2_tensionAt_2 rfl (v := .ref w) rfl dX2_tensionAt_35 ?_
    refine g_aload_n hX dX2_tensionAt_38 rfl 1 rfl ?_
    refine g_get hX 2 h_X2_tensionAt_X2 0 rfl rfl 6 (by decide) k_X2_tensionAt_1 rfl (v := .int (u.1 3)) rfl dX2_tensionAt_39 ?_
    refine g_cVN_I hX (n := 1) (As := [.int (u.1 3)]) (wc := wWr T w h u.2.1) (w1 := wWr T w h u.2.1) (rv := (F_X3_heightAt u.2.1 (u.1 3))) (st := [.int (F_X3_heightAt u.2.1 p1)]) 1 rfl rfl (c_X3_heightAt (xL X) T (xB X) w h u.2.1 (u.1 3)) ggX2_tensionAt_X3_heightAt 29 rfl k_X2_tensionAt_14 k_X2_tensionAt_13 k_X2_tensionAt_15 rfl rfl rfl ⟨Nat.le_of_ble_eq_true rfl, Nat.le_of_ble_eq_true rfl⟩ ⟨Nat.zero_le _, Nat.zero_le _⟩ ⟨by decide +kernel, by decide +kernel, by decide +kernel⟩ rfl [1, 2] rfl rfl (by decide) rfl (Nat.le_of_ble_eq_true rfl) dX2_tensionAt_42 (ws' := wSt T a w h k d u) rfl ?_
    refine g_isub hX dX2_tensionAt_45 ?_
    refine g_mabs hX k_X2_tensionAt_3 k_X2_tensionAt_4 k_X2_tensionAt_5 k_X2_tensionAt_6 (Nat.le_of_ble_eq_true rfl) (Nat.le_of_ble_eq_true rfl) (Nat.zero_le _) (Nat.zero_le _) dX2_tensionAt_46 ?_
    refine g_istore_n hX (lv' := [(3, .int (if 0 ≤ ((F_X3_heightAt u.2.1 p1) - (F_X3_heightAt u.2.1 (u.1 3))) then ((F_X3_heightAt u.2.1 p1) - (F_X3_heightAt u.2.1 (u.1 3))) else 0 - ((F_X3_heightAt u.2.1 p1) - (F_X3_heightAt u.2.1 (u.1 3))))), (2, .int ((4 * (F_X2_number u 1)) + ((u.1 1) / 10))), (0, .ref a), (1, .int p1)]) dX2_tensionAt_49 rfl (by decide) rfl ?_
    refine g_iload_n hX dX2_tensionAt_50 rfl 1 rfl ?_
    refine g_iconst hX (v := 2) dX2_tensionAt_51 (by decide) ?_
    refine g_iload_n hX dX2_tensionAt_52 rfl 0 rfl ?_
    refine g_imul hX dX2_tensionAt_53 ?_
    refine g_iadd hX dX2_tensionAt_54 ?_
    have e9 : F_X2_tensionAt u p1 = (((4 * (F_X2_number u 1)) + ((u.1 1) / 10)) + (2 * (if 0 ≤ ((F_X3_heightAt u.2.1 p1) - (F_X3_heightAt u.2.1 (u.1 3))) then ((F_X3_heightAt u.2.1 p1) - (F_X3_heightAt u.2.1 (u.1 3))) else 0 - ((F_X3_heightAt u.2.1 p1) - (F_X3_heightAt u.2.1 (u.1 3)))))) := by simp only [F_X2_tensionAt, eq_false c_21, if_true, if_false]
    rw [e9]
    exact g_iret hX dX2_tensionAt_55 rfl rfl
  · skip
    refine g_iload_n hX dX2_tensionAt_24 rfl 0 rfl ?_
    have e9 : F_X2_tensionAt u p1 = ((4 * (F_X2_number u 1)) + ((u.1 1) / 10)) := by simp only [F_X2_tensionAt, eq_true c_21, if_true, if_false]
    rw [e9]
    exact g_iret hX dX2_tensionAt_25 rfl rfl
/-! X2_copyFrom -/
def rmX2_copyFrom : Room := { frames := 2, cells := 0, slots := 0, locals := 61 }
theorem k_X2_copyFrom_0 : Cond.fieldLink RX2 12 RX2 (TX2 0).2.1 (TX2 0).2.2.1 ∈ wsX2_copyFrom := List.mem_of_getElem? (i := 1) rfl
theorem h_X2_copyFrom_X2 : ∀ w ∈ u_ws RX2 TX2 11, w ∈ wsX2_copyFrom := fun w h => List.mem_cons_of_mem _ (List.mem_append_left _ (List.mem_append_right _ h))
theorem k_X2_copyFrom_16 : Cond.initialized RX3 ∈ wsX2_copyFrom := List.mem_of_getElem? (i := 17) rfl
theorem k_X2_copyFrom_15 : Cond.instanceMethod yX3_copyFrom ∈ wsX2_copyFrom := List.mem_of_getElem? (i := 16) rfl
theorem k_X2_copyFrom_17 : Cond.selects RX3 yX3_copyFrom yX3_copyFrom ∈ wsX2_copyFrom := List.mem_of_getElem? (i := 18) rfl
theorem k_X2_copyFrom_1 : Cond.fieldLink RX2 18 RX2 (TX2 1).2.1 (TX2 1).2.2.1 ∈ wsX2_copyFrom := List.mem_of_getElem? (i := 2) rfl
theorem k_X2_copyFrom_2 : Cond.methodLink RX2 63 arraycopyName ∈ wsX2_copyFrom := List.mem_of_getElem? (i := 3) rfl
theorem k_X2_copyFrom_3 : Cond.native arraycopyName ∈ wsX2_copyFrom := List.mem_of_getElem? (i := 4) rfl
theorem k_X2_copyFrom_4 : Cond.static arraycopyName ∈ wsX2_copyFrom := List.mem_of_getElem? (i := 5) rfl
theorem k_X2_copyFrom_5 : Cond.initialized "java/lang/System" ∈ wsX2_copyFrom := List.mem_of_getElem? (i := 6) rfl
theorem k_X2_copyFrom_6 : Cond.fieldLink RX2 30 RX2 (TX2 2).2.1 (TX2 2).2.2.1 ∈ wsX2_copyFrom := List.mem_of_getElem? (i := 7) rfl
theorem k_X2_copyFrom_7 : Cond.fieldLink RX2 33 RX2 (TX2 3).2.1 (TX2 3).2.2.1 ∈ wsX2_copyFrom := List.mem_of_getElem? (i := 8) rfl
theorem k_X2_copyFrom_8 : Cond.fieldLink RX2 37 RX2 (TX2 4).2.1 (TX2 4).2.2.1 ∈ wsX2_copyFrom := List.mem_of_getElem? (i := 9) rfl
theorem k_X2_copyFrom_9 : Cond.fieldLink RX2 40 RX2 (TX2 5).2.1 (TX2 5).2.2.1 ∈ wsX2_copyFrom := List.mem_of_getElem? (i := 10) rfl
theorem k_X2_copyFrom_10 : Cond.fieldLink RX2 44 RX2 (TX2 6).2.1 (TX2 6).2.2.1 ∈ wsX2_copyFrom := List.mem_of_getElem? (i := 11) rfl
theorem k_X2_copyFrom_11 : Cond.fieldLink RX2 47 RX2 (TX2 7).2.1 (TX2 7).2.2.1 ∈ wsX2_copyFrom := List.mem_of_getElem? (i := 12) rfl
theorem k_X2_copyFrom_12 : Cond.fieldLink RX2 50 RX2 (TX2 8).2.1 (TX2 8).2.2.1 ∈ wsX2_copyFrom := List.mem_of_getElem? (i := 13) rfl
theorem k_X2_copyFrom_13 : Cond.fieldLink RX2 53 RX2 (TX2 9).2.1 (TX2 9).2.2.1 ∈ wsX2_copyFrom := List.mem_of_getElem? (i := 14) rfl
theorem k_X2_copyFrom_14 : Cond.fieldLink RX2 56 RX2 (TX2 10).2.1 (TX2 10).2.2.1 ∈ wsX2_copyFrom := List.mem_of_getElem? (i := 15) rfl
def F_X2_copyFrom (u : SV) (v : SV) : SV :=
  v
set_option maxHeartbeats 4000000 in
set_option maxRecDepth 100000 in
theorem c_X2_copyFrom (l : Launch) (T : TT) (b0 : Nat) (a w h k d a2 w2 h2 k2 d2 : Nat) (u : SV) (v : SV) (hb : v.1 2 = 0 ∨ v.1 2 = 1) : ConV l T b0 yX2_copyFrom wsX2_copyFrom rmX2_copyFrom [.ref a, .ref a2] (wSt T a w h k d u ++ wSt T a2 w2 h2 k2 d2 v) (wSt T a w h k d (F_X2_copyFrom u v) ++ wSt T a2 w2 h2 k2 d2 v) := by
  refine conV_of (cc := cX2_copyFrom) (maxL := 2) (ret := none) (lv0 := [(0, .ref a), (1, .ref a2)]) (by decide +kernel) rfl (Nat.le_of_ble_eq_true rfl) rfl (fun X hX => ?_)
  refine g_aload_n hX dX2_copyFrom_0 rfl 0 rfl ?_
  refine g_get hX 2 h_X2_copyFrom_X2 0 rfl rfl 0 (by decide) k_X2_copyFrom_0 rfl (v := .ref w) rfl dX2_copyFrom_1 ?_
  refine g_aload_n hX dX2_copyFrom_4 rfl 1 rfl ?_
  refine g_get hX 2 h_X2_copyFrom_X2 5 rfl rfl 0 (by decide) k_X2_copyFrom_0 rfl (v := .ref w2) rfl dX2_copyFrom_5 ?_
  refine g_cVN_V hX (n := 1) (As := [.ref w2]) (wc := wWr T w h u.2.1 ++ wWr T w2 h2 v.2.1) (w1 := wWr T w h v.2.1 ++ wWr T w2 h2 v.2.1) (st := []) 1 rfl rfl (c_X3_copyFrom (xL X) T (xB X) w h w2 h2 u.2.1 v.2.1) ggX2_copyFrom_X3_copyFrom 21 rfl k_X2_copyFrom_16 k_X2_copyFrom_15 k_X2_copyFrom_17 rfl rfl rfl ⟨Nat.le_of_ble_eq_true rfl, Nat.le_of_ble_eq_true rfl⟩ ⟨Nat.zero_le _, Nat.zero_le _⟩ ⟨by decide +kernel, by decide +kernel, by decide +kernel⟩ rfl [1, 2, 6, 7] rfl rfl (by decide) rfl (Nat.le_of_ble_eq_true rfl) dX2_copyFrom_8 (ws' := wSt T a w h k d (u.1, v.2.1, u.2.2.1, u.2.2.2) ++ wSt T a2 w2 h2 k2 d2 v) rfl ?_
  refine g_aload_n hX dX2_copyFrom_11 rfl 1 rfl ?_
  refine g_get hX 2 h_X2_copyFrom_X2 5 rfl rfl 1 (by decide) k_X2_copyFrom_1 rfl (v := .ref k2) rfl dX2_copyFrom_12 ?_
  refine g_iconst hX (v := 0) dX2_copyFrom_15 (by decide) ?_
  refine g_aload_n hX dX2_copyFrom_16 rfl 0 rfl ?_
  refine g_get hX 2 h_X2_copyFrom_X2 0 rfl rfl 1 (by decide) k_X2_copyFrom_1 rfl (v := .ref k) rfl dX2_copyFrom_17 ?_
  refine g_iconst hX (v := 0) dX2_copyFrom_20 (by decide) ?_
  refine g_bipush hX (v := 12) dX2_copyFrom_21 (by decide) ?_
  refine g_copyi hX k_X2_copyFrom_2 k_X2_copyFrom_3 k_X2_copyFrom_4 k_X2_copyFrom_5 8 3 rfl rfl (by decide) (by decide) (Nat.le_of_ble_eq_true rfl) (by decide +kernel) dX2_copyFrom_23 (ws' := wSt T a w h k d (u.1, v.2.1, v.2.2.1, u.2.2.2) ++ wSt T a2 w2 h2 k2 d2 v) rfl ?_
  refine g_aload_n hX dX2_copyFrom_26 rfl 1 rfl ?_
  refine g_get hX 2 h_X2_copyFrom_X2 5 rfl rfl 2 (by decide) k_X2_copyFrom_6 rfl (v := .ref d2) rfl dX2_copyFrom_27 ?_
  refine g_iconst hX (v := 0) dX2_copyFrom_30 (by decide) ?_
  refine g_aload_n hX dX2_copyFrom_31 rfl 0 rfl ?_
  refine g_get hX 2 h_X2_copyFrom_X2 0 rfl rfl 2 (by decide) k_X2_copyFrom_6 rfl (v := .ref d) rfl dX2_copyFrom_32 ?_
  refine g_iconst hX (v := 0) dX2_copyFrom_35 (by decide) ?_
  refine g_first hX 2 rfl dX2_copyFrom_36 (fun t_36 hF_36 => ?_)
  refine g_flen hX hF_36 dX2_copyFrom_39 ?_
  refine g_copyi hX k_X2_copyFrom_2 k_X2_copyFrom_3 k_X2_copyFrom_4 k_X2_copyFrom_5 9 4 rfl rfl (by decide) (by decide) (Nat.le_of_ble_eq_true rfl) (by decide +kernel) dX2_copyFrom_40 (ws' := wSt T a w h k d (u.1, v.2.1, v.2.2.1, v.2.2.2) ++ wSt T a2 w2 h2 k2 d2 v) rfl ?_
  refine g_aload_n hX dX2_copyFrom_43 rfl 0 rfl ?_
  refine g_aload_n hX dX2_copyFrom_44 rfl 1 rfl ?_
  refine g_get hX 2 h_X2_copyFrom_X2 5 rfl rfl 3 (by decide) k_X2_copyFrom_7 rfl (v := .int (v.1 0)) rfl dX2_copyFrom_45 ?_
  refine g_put hX 2 h_X2_copyFrom_X2 0 rfl rfl 3 (by decide) tyX2 tyX2_ok nmX2 k_X2_copyFrom_7 rfl rfl rfl rfl rfl (Nat.le_of_ble_eq_true rfl) dX2_copyFrom_48 (ws' := wSt T a w h k d (upd u.1 0 (v.1 0), v.2.1, v.2.2.1, v.2.2.2) ++ wSt T a2 w2 h2 k2 d2 v) rfl ?_
  refine g_aload_n hX dX2_copyFrom_51 rfl 0 rfl ?_
  refine g_aload_n hX dX2_copyFrom_52 rfl 1 rfl ?_
  refine g_get hX 2 h_X2_copyFrom_X2 5 rfl rfl 4 (by decide) k_X2_copyFrom_8 rfl (v := .int (v.1 1)) rfl dX2_copyFrom_53 ?_
  refine g_put hX 2 h_X2_copyFrom_X2 0 rfl rfl 4 (by decide) tyX2 tyX2_ok nmX2 k_X2_copyFrom_8 rfl rfl rfl rfl rfl (Nat.le_of_ble_eq_true rfl) dX2_copyFrom_56 (ws' := wSt T a w h k d (upd (upd u.1 0 (v.1 0)) 1 (v.1 1), v.2.1, v.2.2.1, v.2.2.2) ++ wSt T a2 w2 h2 k2 d2 v) rfl ?_
  refine g_aload_n hX dX2_copyFrom_59 rfl 0 rfl ?_
  refine g_aload_n hX dX2_copyFrom_60 rfl 1 rfl ?_
  refine g_get hX 2 h_X2_copyFrom_X2 5 rfl rfl 5 (by decide) k_X2_copyFrom_9 rfl (v := .int (v.1 2)) rfl dX2_copyFrom_61 ?_
  refine g_put hX 2 h_X2_copyFrom_X2 0 rfl rfl 5 (by decide) tyX2 tyX2_ok nmX2 k_X2_copyFrom_9 rfl rfl rfl (narrow_b hb) (fits_b hb) (Nat.le_of_ble_eq_true rfl) dX2_copyFrom_64 (ws' := wSt T a w h k d (upd (upd (upd u.1 0 (v.1 0)) 1 (v.1 1)) 2 (v.1 2), v.2.1, v.2.2.1, v.2.2.2) ++ wSt T a2 w2 h2 k2 d2 v) rfl ?_
  refine g_aload_n hX dX2_copyFrom_67 rfl 0 rfl ?_
  refine g_aload_n hX dX2_copyFrom_68 rfl 1 rfl ?_
  refine g_get hX 2 h_X2_copyFrom_X2 5 rfl rfl 6 (by decide) k_X2_copyFrom_10 rfl (v := .int (v.1 3)) rfl dX2_copyFrom_69 ?_
  refine g_put hX 2 h_X2_copyFrom_X2 0 rfl rfl 6 (by decide) tyX2 tyX2_ok nmX2 k_X2_copyFrom_10 rfl rfl rfl rfl rfl (Nat.le_of_ble_eq_true rfl) dX2_copyFrom_72 (ws' := wSt T a w h k d (upd (upd (upd (upd u.1 0 (v.1 0)) 1 (v.1 1)) 2 (v.1 2)) 3 (v.1 3), v.2.1, v.2.2.1, v.2.2.2) ++ wSt T a2 w2 h2 k2 d2 v) rfl ?_
  refine g_aload_n hX dX2_copyFrom_75 rfl 0 rfl ?_
  refine g_aload_n hX dX2_copyFrom_76 rfl 1 rfl ?_
  refine g_get hX 2 h_X2_copyFrom_X2 5 rfl rfl 7 (by decide) k_X2_copyFrom_11 rfl (v := .int (v.1 4)) rfl dX2_copyFrom_77 ?_
  refine g_put hX 2 h_X2_copyFrom_X2 0 rfl rfl 7 (by decide) tyX2 tyX2_ok nmX2 k_X2_copyFrom_11 rfl rfl rfl rfl rfl (Nat.le_of_ble_eq_true rfl) dX2_copyFrom_80 (ws' := wSt T a w h k d (upd (upd (upd (upd (upd u.1 0 (v.1 0)) 1 (v.1 1)) 2 (v.1 2)) 3 (v.1 3)) 4 (v.1 4), v.2.1, v.2.2.1, v.2.2.2) ++ wSt T a2 w2 h2 k2 d2 v) rfl ?_
  refine g_aload_n hX dX2_copyFrom_83 rfl 0 rfl ?_
  refine g_aload_n hX dX2_copyFrom_84 rfl 1 rfl ?_
  refine g_get hX 2 h_X2_copyFrom_X2 5 rfl rfl 8 (by decide) k_X2_copyFrom_12 rfl (v := .int (v.1 5)) rfl dX2_copyFrom_85 ?_
  refine g_put hX 2 h_X2_copyFrom_X2 0 rfl rfl 8 (by decide) tyX2 tyX2_ok nmX2 k_X2_copyFrom_12 rfl rfl rfl rfl rfl (Nat.le_of_ble_eq_true rfl) dX2_copyFrom_88 (ws' := wSt T a w h k d (upd (upd (upd (upd (upd (upd u.1 0 (v.1 0)) 1 (v.1 1)) 2 (v.1 2)) 3 (v.1 3)) 4 (v.1 4)) 5 (v.1 5), v.2.1, v.2.2.1, v.2.2.2) ++ wSt T a2 w2 h2 k2 d2 v) rfl ?_
  refine g_aload_n hX dX2_copyFrom_91 rfl 0 rfl ?_
  refine g_aload_n hX dX2_copyFrom_92 rfl 1 rfl ?_
  refine g_get hX 2 h_X2_copyFrom_X2 5 rfl rfl 9 (by decide) k_X2_copyFrom_13 rfl (v := .int (v.1 6)) rfl dX2_copyFrom_93 ?_
  refine g_put hX 2 h_X2_copyFrom_X2 0 rfl rfl 9 (by decide) tyX2 tyX2_ok nmX2 k_X2_copyFrom_13 rfl rfl rfl rfl rfl (Nat.le_of_ble_eq_true rfl) dX2_copyFrom_96 (ws' := wSt T a w h k d (upd (upd (upd (upd (upd (upd (upd u.1 0 (v.1 0)) 1 (v.1 1)) 2 (v.1 2)) 3 (v.1 3)) 4 (v.1 4)) 5 (v.1 5)) 6 (v.1 6), v.2.1, v.2.2.1, v.2.2.2) ++ wSt T a2 w2 h2 k2 d2 v) rfl ?_
  refine g_aload_n hX dX2_copyFrom_99 rfl 0 rfl ?_
  refine g_aload_n hX dX2_copyFrom_100 rfl 1 rfl ?_
  refine g_get hX 2 h_X2_copyFrom_X2 5 rfl rfl 10 (by decide) k_X2_copyFrom_14 rfl (v := .int (v.1 7)) rfl dX2_copyFrom_101 ?_
  refine g_put hX 2 h_X2_copyFrom_X2 0 rfl rfl 10 (by decide) tyX2 tyX2_ok nmX2 k_X2_copyFrom_14 rfl rfl rfl rfl rfl (Nat.le_of_ble_eq_true rfl) dX2_copyFrom_104 (ws' := wSt T a w h k d (upd (upd (upd (upd (upd (upd (upd (upd u.1 0 (v.1 0)) 1 (v.1 1)) 2 (v.1 2)) 3 (v.1 3)) 4 (v.1 4)) 5 (v.1 5)) 6 (v.1 6)) 7 (v.1 7), v.2.1, v.2.2.1, v.2.2.2) ++ wSt T a2 w2 h2 k2 d2 v) rfl ?_
  have e9 : F_X2_copyFrom u v = v := by simp only [F_X2_copyFrom, if_true, if_false]
  rw [e9]
  exact g_vret hX dX2_copyFrom_107 rfl
/-! X2_turnOnce -/
def rmX2_turnOnce : Room := { frames := 2, cells := 0, slots := 0, locals := 45 }
theorem k_X2_turnOnce_0 : Cond.fieldLink RX2 50 RX2 (TX2 8).2.1 (TX2 8).2.2.1 ∈ wsX2_turnOnce := List.mem_of_getElem? (i := 1) rfl
theorem h_X2_turnOnce_X2 : ∀ w ∈ u_ws RX2 TX2 11, w ∈ wsX2_turnOnce := fun w h => List.mem_cons_of_mem _ (List.mem_append_left _ (List.mem_append_right _ h))
theorem k_X2_turnOnce_1 : Cond.fieldLink RX2 12 RX2 (TX2 0).2.1 (TX2 0).2.2.1 ∈ wsX2_turnOnce := List.mem_of_getElem? (i := 2) rfl
theorem k_X2_turnOnce_17 : Cond.initialized RX3 ∈ wsX2_turnOnce := List.mem_of_getElem? (i := 18) rfl
theorem k_X2_turnOnce_21 : Cond.instanceMethod yX3_guidePlace ∈ wsX2_turnOnce := List.mem_of_getElem? (i := 22) rfl
theorem k_X2_turnOnce_22 : Cond.selects RX3 yX3_guidePlace yX3_guidePlace ∈ wsX2_turnOnce := List.mem_of_getElem? (i := 23) rfl
theorem k_X2_turnOnce_25 : Cond.instanceMethod yX3_heightAt ∈ wsX2_turnOnce := List.mem_of_getElem? (i := 26) rfl
theorem k_X2_turnOnce_26 : Cond.selects RX3 yX3_heightAt yX3_heightAt ∈ wsX2_turnOnce := List.mem_of_getElem? (i := 27) rfl
theorem k_X2_turnOnce_2 : Cond.fieldLink RX2 33 RX2 (TX2 3).2.1 (TX2 3).2.2.1 ∈ wsX2_turnOnce := List.mem_of_getElem? (i := 3) rfl
theorem k_X2_turnOnce_29 : Cond.instanceMethod yX3_layWrap ∈ wsX2_turnOnce := List.mem_of_getElem? (i := 30) rfl
theorem k_X2_turnOnce_30 : Cond.selects RX3 yX3_layWrap yX3_layWrap ∈ wsX2_turnOnce := List.mem_of_getElem? (i := 31) rfl
theorem k_X2_turnOnce_3 : Cond.fieldLink RX2 47 RX2 (TX2 7).2.1 (TX2 7).2.2.1 ∈ wsX2_turnOnce := List.mem_of_getElem? (i := 4) rfl
theorem k_X2_turnOnce_4 : Cond.fieldLink RX2 44 RX2 (TX2 6).2.1 (TX2 6).2.2.1 ∈ wsX2_turnOnce := List.mem_of_getElem? (i := 5) rfl
theorem k_X2_turnOnce_59 : Cond.instanceMethod yX3_moveGuide ∈ wsX2_turnOnce := List.mem_of_getElem? (i := 60) rfl
theorem k_X2_turnOnce_60 : Cond.selects RX3 yX3_moveGuide yX3_moveGuide ∈ wsX2_turnOnce := List.mem_of_getElem? (i := 61) rfl
theorem k_X2_turnOnce_5 : Cond.fieldLink RX2 40 RX2 (TX2 5).2.1 (TX2 5).2.2.1 ∈ wsX2_turnOnce := List.mem_of_getElem? (i := 6) rfl
theorem k_X2_turnOnce_6 : Cond.fieldLink RX2 53 RX2 (TX2 9).2.1 (TX2 9).2.2.1 ∈ wsX2_turnOnce := List.mem_of_getElem? (i := 7) rfl
def F_X2_turnOnce (u : SV) : SV :=
  (if (F_X2_isIdle u) = 0 then (if (10 + (F_X3_heightAt u.2.1 (F_X3_guidePlace u.2.1))) ≤ (u.1 0) then (let z_66 := F_X3_layWrap u.2.1
  (let z_84 := F_X2_warmDiscs (upd (upd (upd (upd u.1 5 ((u.1 5) + 1)) 0 ((u.1 0) - (10 + (F_X3_heightAt u.2.1 (F_X3_guidePlace u.2.1))))) 4 (F_X2_tensionAt (upd (upd u.1 5 ((u.1 5) + 1)) 0 ((u.1 0) - (10 + (F_X3_heightAt u.2.1 (F_X3_guidePlace u.2.1)))), z_66, u.2.2.1, u.2.2.2) (F_X3_guidePlace u.2.1))) 3 (F_X3_guidePlace u.2.1), z_66, u.2.2.1, u.2.2.2)
  (if (z_84.1 4) ≤ (F_X2_number z_84 4) then (let z_132 := F_X3_moveGuide z_84.2.1 (F_X2_number z_84 0) (F_X2_number z_84 2) (z_84.1 5)
  (z_84.1, z_132, z_84.2.2.1, z_84.2.2.2)) else (let z_132 := F_X3_moveGuide z_84.2.1 (F_X2_number (upd (upd z_84.1 2 1) 6 ((z_84.1 6) + 1), z_84.2.1, z_84.2.2.1, z_84.2.2.2) 0) (F_X2_number (upd (upd z_84.1 2 1) 6 ((z_84.1 6) + 1), z_84.2.1, z_84.2.2.1, z_84.2.2.2) 2) (z_84.1 5)
  (upd (upd z_84.1 2 1) 6 ((z_84.1 6) + 1), z_132, z_84.2.2.1, z_84.2.2.2))))) else (upd (upd u.1 5 ((u.1 5) + 1)) 0 0, u.2.1, u.2.2.1, u.2.2.2)) else u)
set_option maxHeartbeats 4000000 in
set_option maxRecDepth 100000 in
theorem c_X2_turnOnce (l : Launch) (T : TT) (b0 : Nat) (a w h k d : Nat) (u : SV)  : ConV l T b0 yX2_turnOnce wsX2_turnOnce rmX2_turnOnce [.ref a] (wSt T a w h k d u) (wSt T a w h k d (F_X2_turnOnce u)) := by
  refine conV_of (cc := cX2_turnOnce) (maxL := 3) (ret := none) (lv0 := [(0, .ref a)]) (by decide +kernel) rfl (Nat.le_of_ble_eq_true rfl) rfl (fun X hX => ?_)
  refine g_aload_n hX dX2_turnOnce_0 rfl 0 rfl ?_
  refine g_cV_I hX (n := 0) (As := []) (wc := wSt T a w h k d u) (w1 := wSt T a w h k d u) (rv := (F_X2_isIdle u)) (st := []) 0 rfl rfl (c_X2_isIdle (xL X) T (xB X) a w h k d u) gX2_turnOnce_X2_isIdle rfl rfl rfl ⟨Nat.le_of_ble_eq_true rfl, Nat.le_of_ble_eq_true rfl⟩ ⟨Nat.zero_le _, Nat.zero_le _⟩ ⟨by decide +kernel, by decide +kernel, by decide +kernel⟩ rfl [0, 1, 2, 3, 4] rfl rfl (by decide) rfl (Nat.le_of_ble_eq_true rfl) dX2_turnOnce_1 (ws' := wSt T a w h k d u) rfl ?_
  refine g_if_eq hX 8 dX2_turnOnce_4 (by decide) (fun c_4 => ?_) (fun c_4 => ?_)
  · skip
    refine g_aload_n hX dX2_turnOnce_8 rfl 0 rfl ?_
    refine g_dup hX dX2_turnOnce_9 rfl ?_
    refine g_get hX 2 h_X2_turnOnce_X2 0 rfl rfl 8 (by decide) k_X2_turnOnce_0 rfl (v := .int (u.1 5)) rfl dX2_turnOnce_10 ?_
    refine g_iconst hX (v := 1) dX2_turnOnce_13 (by decide) ?_
    refine g_iadd hX dX2_turnOnce_14 ?_
    refine g_put hX 2 h_X2_turnOnce_X2 0 rfl rfl 8 (by decide) tyX2 tyX2_ok nmX2 k_X2_turnOnce_0 rfl rfl rfl rfl rfl (Nat.le_of_ble_eq_true rfl) dX2_turnOnce_15 (ws' := wSt T a w h k d (upd u.1 5 ((u.1 5) + 1), u.2.1, u.2.2.1, u.2.2.2)) rfl ?_
    refine g_aload_n hX dX2_turnOnce_18 rfl 0 rfl ?_
    refine g_get hX 2 h_X2_turnOnce_X2 0 rfl rfl 0 (by decide) k_X2_turnOnce_1 rfl (v := .ref w) rfl dX2_turnOnce_19 ?_
    refine g_cVN_I hX (n := 0) (As := []) (wc := wWr T w h u.2.1) (w1 := wWr T w h u.2.1) (rv := (F_X3_guidePlace u.2.1)) (st := []) 1 rfl rfl (c_X3_guidePlace (xL X) T (xB X) w h u.2.1) ggX2_turnOnce_X3_guidePlace 28 rfl k_X2_turnOnce_17 k_X2_turnOnce_21 k_X2_turnOnce_22 rfl rfl rfl ⟨Nat.le_of_ble_eq_true rfl, Nat.le_of_ble_eq_true rfl⟩ ⟨Nat.zero_le _, Nat.zero_le _⟩ ⟨by decide +kernel, by decide +kernel, by decide +kernel⟩ rfl [1, 2] rfl rfl (by decide) rfl (Nat.le_of_ble_eq_true rfl) dX2_turnOnce_22 (ws' := wSt T a w h k d (upd u.1 5 ((u.1 5) + 1), u.2.1, u.2.2.1, u.2.2.2)) rfl ?_
    refine g_istore_n hX (lv' := [(1, .int (F_X3_guidePlace u.2.1)), (0, .ref a)]) dX2_turnOnce_25 rfl (by decide) rfl ?_
    refine g_bipush hX (v := 10) dX2_turnOnce_26 (by decide) ?_
    refine g_aload_n hX dX2_turnOnce_28 rfl 1 rfl ?_
    refine g_get hX 2 h_X2_turnOnce_X2 0 rfl rfl 0 (by decide) k_X2_turnOnce_1 rfl (v := .ref w) rfl dX2_turnOnce_29 ?_
    refine g_iload_n hX dX2_turnOnce_32 rfl 0 rfl ?_
    refine g_cVN_I hX (n := 1) (As := [.int (F_X3_guidePlace u.2.1)]) (wc := wWr T w h u.2.1) (w1 := wWr T w h u.2.1) (rv := (F_X3_heightAt u.2.1 (F_X3_guidePlace u.2.1))) (st := [.int 10]) 1 rfl rfl (c_X3_heightAt (xL X) T (xB X) w h u.2.1 (F_X3_guidePlace u.2.1)) ggX2_turnOnce_X3_heightAt 29 rfl k_X2_turnOnce_17 k_X2_turnOnce_25 k_X2_turnOnce_26 rfl rfl rfl ⟨Nat.le_of_ble_eq_true rfl, Nat.le_of_ble_eq_true rfl⟩ ⟨Nat.zero_le _, Nat.zero_le _⟩ ⟨by decide +kernel, by decide +kernel, by decide +kernel⟩ rfl [1, 2] rfl rfl (by decide) rfl (Nat.le_of_ble_eq_true rfl) dX2_turnOnce_33 (ws' := wSt T a w h k d (upd u.1 5 ((u.1 5) + 1), u.2.1, u.2.2.1, u.2.2.2)) rfl ?_
    refine g_iadd hX dX2_turnOnce_36 ?_
    refine g_istore_n hX (lv' := [(2, .int (10 + (F_X3_heightAt u.2.1 (F_X3_guidePlace u.2.1)))), (1, .int (F_X3_guidePlace u.2.1)), (0, .ref a)]) dX2_turnOnce_37 rfl (by decide) rfl ?_
    refine g_aload_n hX dX2_turnOnce_38 rfl 2 rfl ?_
    refine g_get hX 2 h_X2_turnOnce_X2 0 rfl rfl 3 (by decide) k_X2_turnOnce_2 rfl (v := .int (u.1 0)) rfl dX2_turnOnce_39 ?_
    refine g_iload_n hX dX2_turnOnce_42 rfl 0 rfl ?_
    refine g_icmp_ge hX 52 dX2_turnOnce_43 (by decide) (fun c_43 => ?_) (fun c_43 => ?_)
    · skip
      refine g_aload_n hX dX2_turnOnce_52 rfl 2 rfl ?_
      refine g_dup hX dX2_turnOnce_53 rfl ?_
      refine g_get hX 2 h_X2_turnOnce_X2 0 rfl rfl 3 (by decide) k_X2_turnOnce_2 rfl (v := .int (u.1 0)) rfl dX2_turnOnce_54 ?_
      refine g_iload_n hX dX2_turnOnce_57 rfl 0 rfl ?_
      refine g_isub hX dX2_turnOnce_58 ?_
      refine g_put hX 2 h_X2_turnOnce_X2 0 rfl rfl 3 (by decide) tyX2 tyX2_ok nmX2 k_X2_turnOnce_2 rfl rfl rfl rfl rfl (Nat.le_of_ble_eq_true rfl) dX2_turnOnce_59 (ws' := wSt T a w h k d (upd (upd u.1 5 ((u.1 5) + 1)) 0 ((u.1 0) - (10 + (F_X3_heightAt u.2.1 (F_X3_guidePlace u.2.1)))), u.2.1, u.2.2.1, u.2.2.2)) rfl ?_
      refine g_aload_n hX dX2_turnOnce_62 rfl 2 rfl ?_
      refine g_get hX 2 h_X2_turnOnce_X2 0 rfl rfl 0 (by decide) k_X2_turnOnce_1 rfl (v := .ref w) rfl dX2_turnOnce_63 ?_
      obtain ⟨z_66, hz_66⟩ : ∃ z : WV, z = F_X3_layWrap u.2.1 := ⟨_, rfl⟩
      refine g_cVN_V hX (n := 0) (As := []) (wc := wWr T w h u.2.1) (w1 := wWr T w h z_66) (st := []) 1 rfl rfl (by rw [hz_66]; exact (c_X3_layWrap (xL X) T (xB X) w h u.2.1)) ggX2_turnOnce_X3_layWrap 30 rfl k_X2_turnOnce_17 k_X2_turnOnce_29 k_X2_turnOnce_30 rfl rfl rfl ⟨Nat.le_of_ble_eq_true rfl, Nat.le_of_ble_eq_true rfl⟩ ⟨Nat.zero_le _, Nat.zero_le _⟩ ⟨by decide +kernel, by decide +kernel, by decide +kernel⟩ rfl [1, 2] rfl rfl (by decide) rfl (Nat.le_of_ble_eq_true rfl) dX2_turnOnce_66 (ws' := wSt T a w h k d (upd (upd u.1 5 ((u.1 5) + 1)) 0 ((u.1 0) - (10 + (F_X3_heightAt u.2.1 (F_X3_guidePlace u.2.1)))), z_66, u.2.2.1, u.2.2.2)) rfl ?_
      refine g_aload_n hX dX2_turnOnce_69 rfl 2 rfl ?_
      refine g_aload_n hX dX2_turnOnce_70 rfl 2 rfl ?_
      refine g_iload_n hX dX2_turnOnce_71 rfl 1 rfl ?_
      refine g_cV_I hX (n := 1) (As := [.int (F_X3_guidePlace u.2.1)]) (wc := wSt T a w h k d (upd (upd u.1 5 ((u.1 5) + 1)) 0 ((u.1 0) - (10 + (F_X3_heightAt u.2.1 (F_X3_guidePlace u.2.1)))), z_66, u.2.2.1, u.2.2.2)) (w1 := wSt T a w h k d (upd (upd u.1 5 ((u.1 5) + 1)) 0 ((u.1 0) - (10 + (F_X3_heightAt u.2.1 (F_X3_guidePlace u.2.1)))), z_66, u.2.2.1, u.2.2.2)) (rv := (F_X2_tensionAt (upd (upd u.1 5 ((u.1 5) + 1)) 0 ((u.1 0) - (10 + (F_X3_heightAt u.2.1 (F_X3_guidePlace u.2.1)))), z_66, u.2.2.1, u.2.2.2) (F_X3_guidePlace u.2.1))) (st := [.ref a]) 0 rfl rfl (c_X2_tensionAt (xL X) T (xB X) a w h k d (upd (upd u.1 5 ((u.1 5) + 1)) 0 ((u.1 0) - (10 + (F_X3_heightAt u.2.1 (F_X3_guidePlace u.2.1)))), z_66, u.2.2.1, u.2.2.2) (F_X3_guidePlace u.2.1)) gX2_turnOnce_X2_tensionAt rfl rfl rfl ⟨Nat.le_of_ble_eq_true rfl, Nat.le_of_ble_eq_true rfl⟩ ⟨Nat.zero_le _, Nat.zero_le _⟩ ⟨by decide +kernel, by decide +kernel, by decide +kernel⟩ rfl [0, 1, 2, 3, 4] rfl rfl (by decide) rfl (Nat.le_of_ble_eq_true rfl) dX2_turnOnce_72 (ws' := wSt T a w h k d (upd (upd u.1 5 ((u.1 5) + 1)) 0 ((u.1 0) - (10 + (F_X3_heightAt u.2.1 (F_X3_guidePlace u.2.1)))), z_66, u.2.2.1, u.2.2.2)) rfl ?_
      refine g_put hX 2 h_X2_turnOnce_X2 0 rfl rfl 7 (by decide) tyX2 tyX2_ok nmX2 k_X2_turnOnce_3 rfl rfl rfl rfl rfl (Nat.le_of_ble_eq_true rfl) dX2_turnOnce_75 (ws' := wSt T a w h k d (upd (upd (upd u.1 5 ((u.1 5) + 1)) 0 ((u.1 0) - (10 + (F_X3_heightAt u.2.1 (F_X3_guidePlace u.2.1))))) 4 (F_X2_tensionAt (upd (upd u.1 5 ((u.1 5) + 1)) 0 ((u.1 0) - (10 + (F_X3_heightAt u.2.1 (F_X3_guidePlace u.2.1)))), z_66, u.2.2.1, u.2.2.2) (F_X3_guidePlace u.2.1)), z_66, u.2.2.1, u.2.2.2)) rfl ?_
      refine g_aload_n hX dX2_turnOnce_78 rfl 2 rfl ?_
      refine g_iload_n hX dX2_turnOnce_79 rfl 1 rfl ?_
      refine g_put hX 2 h_X2_turnOnce_X2 0 rfl rfl 6 (by decide) tyX2 tyX2_ok nmX2 k_X2_turnOnce_4 rfl rfl rfl rfl rfl (Nat.le_of_ble_eq_true rfl) dX2_turnOnce_80 (ws' := wSt T a w h k d (upd (upd (upd (upd u.1 5 ((u.1 5) + 1)) 0 ((u.1 0) - (10 + (F_X3_heightAt u.2.1 (F_X3_guidePlace u.2.1))))) 4 (F_X2_tensionAt (upd (upd u.1 5 ((u.1 5) + 1)) 0 ((u.1 0) - (10 + (F_X3_heightAt u.2.1 (F_X3_guidePlace u.2.1)))), z_66, u.2.2.1, u.2.2.2) (F_X3_guidePlace u.2.1))) 3 (F_X3_guidePlace u.2.1), z_66, u.2.2.1, u.2.2.2)) rfl ?_
      refine g_aload_n hX dX2_turnOnce_83 rfl 2 rfl ?_
      obtain ⟨z_84, hz_84⟩ : ∃ z : SV, z = F_X2_warmDiscs (upd (upd (upd (upd u.1 5 ((u.1 5) + 1)) 0 ((u.1 0) - (10 + (F_X3_heightAt u.2.1 (F_X3_guidePlace u.2.1))))) 4 (F_X2_tensionAt (upd (upd u.1 5 ((u.1 5) + 1)) 0 ((u.1 0) - (10 + (F_X3_heightAt u.2.1 (F_X3_guidePlace u.2.1)))), z_66, u.2.2.1, u.2.2.2) (F_X3_guidePlace u.2.1))) 3 (F_X3_guidePlace u.2.1), z_66, u.2.2.1, u.2.2.2) := ⟨_, rfl⟩
      refine g_cV_V hX (n := 0) (As := []) (wc := wSt T a w h k d (upd (upd (upd (upd u.1 5 ((u.1 5) + 1)) 0 ((u.1 0) - (10 + (F_X3_heightAt u.2.1 (F_X3_guidePlace u.2.1))))) 4 (F_X2_tensionAt (upd (upd u.1 5 ((u.1 5) + 1)) 0 ((u.1 0) - (10 + (F_X3_heightAt u.2.1 (F_X3_guidePlace u.2.1)))), z_66, u.2.2.1, u.2.2.2) (F_X3_guidePlace u.2.1))) 3 (F_X3_guidePlace u.2.1), z_66, u.2.2.1, u.2.2.2)) (w1 := wSt T a w h k d z_84) (st := []) 0 rfl rfl (by rw [hz_84]; exact (c_X2_warmDiscs (xL X) T (xB X) a w h k d (upd (upd (upd (upd u.1 5 ((u.1 5) + 1)) 0 ((u.1 0) - (10 + (F_X3_heightAt u.2.1 (F_X3_guidePlace u.2.1))))) 4 (F_X2_tensionAt (upd (upd u.1 5 ((u.1 5) + 1)) 0 ((u.1 0) - (10 + (F_X3_heightAt u.2.1 (F_X3_guidePlace u.2.1)))), z_66, u.2.2.1, u.2.2.2) (F_X3_guidePlace u.2.1))) 3 (F_X3_guidePlace u.2.1), z_66, u.2.2.1, u.2.2.2))) gX2_turnOnce_X2_warmDiscs rfl rfl rfl ⟨Nat.le_of_ble_eq_true rfl, Nat.le_of_ble_eq_true rfl⟩ ⟨Nat.zero_le _, Nat.zero_le _⟩ ⟨by decide +kernel, by decide +kernel, by decide +kernel⟩ rfl [0, 1, 2, 3, 4] rfl rfl (by decide) rfl (Nat.le_of_ble_eq_true rfl) dX2_turnOnce_84 (ws' := wSt T a w h k d z_84) rfl ?_
      refine g_aload_n hX dX2_turnOnce_87 rfl 2 rfl ?_
      refine g_get hX 2 h_X2_turnOnce_X2 0 rfl rfl 7 (by decide) k_X2_turnOnce_3 rfl (v := .int (z_84.1 4)) rfl dX2_turnOnce_88 ?_
      refine g_aload_n hX dX2_turnOnce_91 rfl 2 rfl ?_
      refine g_iconst hX (v := 4) dX2_turnOnce_92 (by decide) ?_
      refine g_cV_I hX (n := 1) (As := [.int 4]) (wc := wSt T a w h k d z_84) (w1 := wSt T a w h k d z_84) (rv := (F_X2_number z_84 4)) (st := [.int (z_84.1 4)]) 0 rfl rfl (c_X2_number (xL X) T (xB X) a w h k d z_84 4) gX2_turnOnce_X2_number rfl rfl rfl ⟨Nat.le_of_ble_eq_true rfl, Nat.le_of_ble_eq_true rfl⟩ ⟨Nat.zero_le _, Nat.zero_le _⟩ ⟨by decide +kernel, by decide +kernel, by decide +kernel⟩ rfl [0, 1, 2, 3, 4] rfl rfl (by decide) rfl (Nat.le_of_ble_eq_true rfl) dX2_turnOnce_93 (ws' := wSt T a w h k d z_84) rfl ?_
      refine g_icmp_le hX 114 dX2_turnOnce_96 (by decide) (fun c_96 => ?_) (fun c_96 => ?_)
      · skip
        refine g_aload_n hX dX2_turnOnce_114 rfl 2 rfl ?_
        refine g_get hX 2 h_X2_turnOnce_X2 0 rfl rfl 0 (by decide) k_X2_turnOnce_1 rfl (v := .ref w) rfl dX2_turnOnce_115 ?_
        refine g_aload_n hX dX2_turnOnce_118 rfl 2 rfl ?_
        refine g_iconst hX (v := 0) dX2_turnOnce_119 (by decide) ?_
        refine g_cV_I hX (n := 1) (As := [.int 0]) (wc := wSt T a w h k d z_84) (w1 := wSt T a w h k d z_84) (rv := (F_X2_number z_84 0)) (st := [.ref w]) 0 rfl rfl (c_X2_number (xL X) T (xB X) a w h k d z_84 0) gX2_turnOnce_X2_number rfl rfl rfl ⟨Nat.le_of_ble_eq_true rfl, Nat.le_of_ble_eq_true rfl⟩ ⟨Nat.zero_le _, Nat.zero_le _⟩ ⟨by decide +kernel, by decide +kernel, by decide +kernel⟩ rfl [0, 1, 2, 3, 4] rfl rfl (by decide) rfl (Nat.le_of_ble_eq_true rfl) dX2_turnOnce_120 (ws' := wSt T a w h k d z_84) rfl ?_
        refine g_aload_n hX dX2_turnOnce_123 rfl 2 rfl ?_
        refine g_iconst hX (v := 2) dX2_turnOnce_124 (by decide) ?_
        refine g_cV_I hX (n := 1) (As := [.int 2]) (wc := wSt T a w h k d z_84) (w1 := wSt T a w h k d z_84) (rv := (F_X2_number z_84 2)) (st := [.int (F_X2_number z_84 0), .ref w]) 0 rfl rfl (c_X2_number (xL X) T (xB X) a w h k d z_84 2) gX2_turnOnce_X2_number rfl rfl rfl ⟨Nat.le_of_ble_eq_true rfl, Nat.le_of_ble_eq_true rfl⟩ ⟨Nat.zero_le _, Nat.zero_le _⟩ ⟨by decide +kernel, by decide +kernel, by decide +kernel⟩ rfl [0, 1, 2, 3, 4] rfl rfl (by decide) rfl (Nat.le_of_ble_eq_true rfl) dX2_turnOnce_125 (ws' := wSt T a w h k d z_84) rfl ?_
        refine g_aload_n hX dX2_turnOnce_128 rfl 2 rfl ?_
        refine g_get hX 2 h_X2_turnOnce_X2 0 rfl rfl 8 (by decide) k_X2_turnOnce_0 rfl (v := .int (z_84.1 5)) rfl dX2_turnOnce_129 ?_
        obtain ⟨z_132, hz_132⟩ : ∃ z : WV, z = F_X3_moveGuide z_84.2.1 (F_X2_number z_84 0) (F_X2_number z_84 2) (z_84.1 5) := ⟨_, rfl⟩
        refine g_cVN_V hX (n := 3) (As := [.int (F_X2_number z_84 0), .int (F_X2_number z_84 2), .int (z_84.1 5)]) (wc := wWr T w h z_84.2.1) (w1 := wWr T w h z_132) (st := []) 1 rfl rfl (by rw [hz_132]; exact (c_X3_moveGuide (xL X) T (xB X) w h z_84.2.1 (F_X2_number z_84 0) (F_X2_number z_84 2) (z_84.1 5))) ggX2_turnOnce_X3_moveGuide 31 rfl k_X2_turnOnce_17 k_X2_turnOnce_59 k_X2_turnOnce_60 rfl rfl rfl ⟨Nat.le_of_ble_eq_true rfl, Nat.le_of_ble_eq_true rfl⟩ ⟨Nat.zero_le _, Nat.zero_le _⟩ ⟨by decide +kernel, by decide +kernel, by decide +kernel⟩ rfl [1, 2] rfl rfl (by decide) rfl (Nat.le_of_ble_eq_true rfl) dX2_turnOnce_132 (ws' := wSt T a w h k d (z_84.1, z_132, z_84.2.2.1, z_84.2.2.2)) rfl ?_
        have e9 : F_X2_turnOnce u = (z_84.1, z_132, z_84.2.2.1, z_84.2.2.2) := by simp only [F_X2_turnOnce, ← hz_66, ← hz_84, ← hz_132, eq_true c_4, eq_true c_43, eq_true c_96, if_true, if_false]
        rw [e9]
        exact g_vret hX dX2_turnOnce_135 rfl
      · skip
        refine g_aload_n hX dX2_turnOnce_99 rfl 2 rfl ?_
        refine g_iconst hX (v := 1) dX2_turnOnce_100 (by decide) ?_
        refine g_put hX 2 h_X2_turnOnce_X2 0 rfl rfl 5 (by decide) tyX2 tyX2_ok nmX2 k_X2_turnOnce_5 rfl rfl rfl rfl rfl (Nat.le_of_ble_eq_true rfl) dX2_turnOnce_101 (ws' := wSt T a w h k d (upd z_84.1 2 1, z_84.2.1, z_84.2.2.1, z_84.2.2.2)) rfl ?_
        refine g_aload_n hX dX2_turnOnce_104 rfl 2 rfl ?_
        refine g_dup hX dX2_turnOnce_105 rfl ?_
        refine g_get hX 2 h_X2_turnOnce_X2 0 rfl rfl 9 (by decide) k_X2_turnOnce_6 rfl (v := .int (z_84.1 6)) rfl dX2_turnOnce_106 ?_
        refine g_iconst hX (v := 1) dX2_turnOnce_109 (by decide) ?_
        refine g_iadd hX dX2_turnOnce_110 ?_
        refine g_put hX 2 h_X2_turnOnce_X2 0 rfl rfl 9 (by decide) tyX2 tyX2_ok nmX2 k_X2_turnOnce_6 rfl rfl rfl rfl rfl (Nat.le_of_ble_eq_true rfl) dX2_turnOnce_111 (ws' := wSt T a w h k d (upd (upd z_84.1 2 1) 6 ((z_84.1 6) + 1), z_84.2.1, z_84.2.2.1, z_84.2.2.2)) rfl ?_
        refine g_aload_n hX dX2_turnOnce_114 rfl 2 rfl ?_
        refine g_get hX 2 h_X2_turnOnce_X2 0 rfl rfl 0 (by decide) k_X2_turnOnce_1 rfl (v := .ref w) rfl dX2_turnOnce_115 ?_
        refine g_aload_n hX dX2_turnOnce_118 rfl 2 rfl ?_
        refine g_iconst hX (v := 0) dX2_turnOnce_119 (by decide) ?_
        refine g_cV_I hX (n := 1) (As := [.int 0]) (wc := wSt T a w h k d (upd (upd z_84.1 2 1) 6 ((z_84.1 6) + 1), z_84.2.1, z_84.2.2.1, z_84.2.2.2)) (w1 := wSt T a w h k d (upd (upd z_84.1 2 1) 6 ((z_84.1 6) + 1), z_84.2.1, z_84.2.2.1, z_84.2.2.2)) (rv := (F_X2_number (upd (upd z_84.1 2 1) 6 ((z_84.1 6) + 1), z_84.2.1, z_84.2.2.1, z_84.2.2.2) 0)) (st := [.ref w]) 0 rfl rfl (c_X2_number (xL X) T (xB X) a w h k d (upd (upd z_84.1 2 1) 6 ((z_84.1 6) + 1), z_84.2.1, z_84.2.2.1, z_84.2.2.2) 0) gX2_turnOnce_X2_number rfl rfl rfl ⟨Nat.le_of_ble_eq_true rfl, Nat.le_of_ble_eq_true rfl⟩ ⟨Nat.zero_le _, Nat.zero_le _⟩ ⟨by decide +kernel, by decide +kernel, by decide +kernel⟩ rfl [0, 1, 2, 3, 4] rfl rfl (by decide) rfl (Nat.le_of_ble_eq_true rfl) dX2_turnOnce_120 (ws' := wSt T a w h k d (upd (upd z_84.1 2 1) 6 ((z_84.1 6) + 1), z_84.2.1, z_84.2.2.1, z_84.2.2.2)) rfl ?_
        refine g_aload_n hX dX2_turnOnce_123 rfl 2 rfl ?_
        refine g_iconst hX (v := 2) dX2_turnOnce_124 (by decide) ?_
        refine g_cV_I hX (n := 1) (As := [.int 2]) (wc := wSt T a w h k d (upd (upd z_84.1 2 1) 6 ((z_84.1 6) + 1), z_84.2.1, z_84.2.2.1, z_84.2.2.2)) (w1 := wSt T a w h k d (upd (upd z_84.1 2 1) 6 ((z_84.1 6) + 1), z_84.2.1, z_84.2.2.1, z_84.2.2.2)) (rv := (F_X2_number (upd (upd z_84.1 2 1) 6 ((z_84.1 6) + 1), z_84.2.1, z_84.2.2.1, z_84.2.2.2) 2)) (st := [.int (F_X2_number (upd (upd z_84.1 2 1) 6 ((z_84.1 6) + 1), z_84.2.1, z_84.2.2.1, z_84.2.2.2) 0), .ref w]) 0 rfl rfl (c_X2_number (xL X) T (xB X) a w h k d (upd (upd z_84.1 2 1) 6 ((z_84.1 6) + 1), z_84.2.1, z_84.2.2.1, z_84.2.2.2) 2) gX2_turnOnce_X2_number rfl rfl rfl ⟨Nat.le_of_ble_eq_true rfl, Nat.le_of_ble_eq_true rfl⟩ ⟨Nat.zero_le _, Nat.zero_le _⟩ ⟨by decide +kernel, by decide +kernel, by decide +kernel⟩ rfl [0, 1, 2, 3, 4] rfl rfl (by decide) rfl (Nat.le_of_ble_eq_true rfl) dX2_turnOnce_125 (ws' := wSt T a w h k d (upd (upd z_84.1 2 1) 6 ((z_84.1 6) + 1), z_84.2.1, z_84.2.2.1, z_84.2.2.2)) rfl ?_
        refine g_aload_n hX dX2_turnOnce_128 rfl 2 rfl ?_
        refine g_get hX 2 h_X2_turnOnce_X2 0 rfl rfl 8 (by decide) k_X2_turnOnce_0 rfl (v := .int (z_84.1 5)) rfl dX2_turnOnce_129 ?_
        obtain ⟨z_132, hz_132⟩ : ∃ z : WV, z = F_X3_moveGuide z_84.2.1 (F_X2_number (upd (upd z_84.1 2 1) 6 ((z_84.1 6) + 1), z_84.2.1, z_84.2.2.1, z_84.2.2.2) 0) (F_X2_number (upd (upd z_84.1 2 1) 6 ((z_84.1 6) + 1), z_84.2.1, z_84.2.2.1, z_84.2.2.2) 2) (z_84.1 5) := ⟨_, rfl⟩
        refine g_cVN_V hX (n := 3) (As := [.int (F_X2_number (upd (upd z_84.1 2 1) 6 ((z_84.1 6) + 1), z_84.2.1, z_84.2.2.1, z_84.2.2.2) 0), .int (F_X2_number (upd (upd z_84.1 2 1) 6 ((z_84.1 6) + 1), z_84.2.1, z_84.2.2.1, z_84.2.2.2) 2), .int (z_84.1 5)]) (wc := wWr T w h z_84.2.1) (w1 := wWr T w h z_132) (st := []) 1 rfl rfl (by rw [hz_132]; exact (c_X3_moveGuide (xL X) T (xB X) w h z_84.2.1 (F_X2_number (upd (upd z_84.1 2 1) 6 ((z_84.1 6) + 1), z_84.2.1, z_84.2.2.1, z_84.2.2.2) 0) (F_X2_number (upd (upd z_84.1 2 1) 6 ((z_84.1 6) + 1), z_84.2.1, z_84.2.2.1, z_84.2.2.2) 2) (z_84.1 5))) ggX2_turnOnce_X3_moveGuide 31 rfl k_X2_turnOnce_17 k_X2_turnOnce_59 k_X2_turnOnce_60 rfl rfl rfl ⟨Nat.le_of_ble_eq_true rfl, Nat.le_of_ble_eq_true rfl⟩ ⟨Nat.zero_le _, Nat.zero_le _⟩ ⟨by decide +kernel, by decide +kernel, by decide +kernel⟩ rfl [1, 2] rfl rfl (by decide) rfl (Nat.le_of_ble_eq_true rfl) dX2_turnOnce_132 (ws' := wSt T a w h k d (upd (upd z_84.1 2 1) 6 ((z_84.1 6) + 1), z_132, z_84.2.2.1, z_84.2.2.2)) rfl ?_
        have e9 : F_X2_turnOnce u = (upd (upd z_84.1 2 1) 6 ((z_84.1 6) + 1), z_132, z_84.2.2.1, z_84.2.2.2) := by simp only [F_X2_turnOnce, ← hz_66, ← hz_84, ← hz_132, eq_true c_4, eq_true c_43, eq_false c_96, if_true, if_false]
        rw [e9]
        exact g_vret hX dX2_turnOnce_135 rfl
    · skip
      refine g_aload_n hX dX2_turnOnce_46 rfl 2 rfl ?_
      refine g_iconst hX (v := 0) dX2_turnOnce_47 (by decide) ?_
      refine g_put hX 2 h_X2_turnOnce_X2 0 rfl rfl 3 (by decide) tyX2 tyX2_ok nmX2 k_X2_turnOnce_2 rfl rfl rfl rfl rfl (Nat.le_of_ble_eq_true rfl) dX2_turnOnce_48 (ws' := wSt T a w h k d (upd (upd u.1 5 ((u.1 5) + 1)) 0 0, u.2.1, u.2.2.1, u.2.2.2)) rfl ?_
      have e9 : F_X2_turnOnce u = (upd (upd u.1 5 ((u.1 5) + 1)) 0 0, u.2.1, u.2.2.1, u.2.2.2) := by simp only [F_X2_turnOnce, eq_true c_4, eq_false c_43, if_true, if_false]
      rw [e9]
      exact g_vret hX dX2_turnOnce_51 rfl
  · skip
    have e9 : F_X2_turnOnce u = u := by simp only [F_X2_turnOnce, eq_false c_4, if_true, if_false]
    rw [e9]
    exact g_vret hX dX2_turnOnce_7 rfl
/-! X2_tieKnot -/
def rmX2_tieKnot : Room := { frames := 1, cells := 0, slots := 0, locals := 21 }
theorem k_X2_tieKnot_0 : Cond.fieldLink RX2 33 RX2 (TX2 3).2.1 (TX2 3).2.2.1 ∈ wsX2_tieKnot := List.mem_of_getElem? (i := 1) rfl
theorem h_X2_tieKnot_X2 : ∀ w ∈ u_ws RX2 TX2 11, w ∈ wsX2_tieKnot := fun w h => List.mem_cons_of_mem _ (List.mem_append_right _ h)
theorem k_X2_tieKnot_1 : Cond.fieldLink RX2 40 RX2 (TX2 5).2.1 (TX2 5).2.2.1 ∈ wsX2_tieKnot := List.mem_of_getElem? (i := 2) rfl
theorem k_X2_tieKnot_2 : Cond.fieldLink RX2 44 RX2 (TX2 6).2.1 (TX2 6).2.2.1 ∈ wsX2_tieKnot := List.mem_of_getElem? (i := 3) rfl
theorem k_X2_tieKnot_3 : Cond.fieldLink RX2 18 RX2 (TX2 1).2.1 (TX2 1).2.2.1 ∈ wsX2_tieKnot := List.mem_of_getElem? (i := 4) rfl
def F_X2_tieKnot (u : SV) : Int32 × SV :=
  (if (F_X2_number u 3) ≤ (u.1 0) then (if (u.1 2) = 0 then ((-5), u) else (if (u.1 3) < 0 then ((-5), u) else (if (u.1 3) < 12 then (((upd u.2.2.1 (Int32.toNatClampNeg (u.1 3)) ((u.2.2.1 (Int32.toNatClampNeg (u.1 3))) + 1)) (Int32.toNatClampNeg (u.1 3))), (upd (upd u.1 0 ((u.1 0) - (F_X2_number u 3))) 2 0, u.2.1, (upd u.2.2.1 (Int32.toNatClampNeg (u.1 3)) ((u.2.2.1 (Int32.toNatClampNeg (u.1 3))) + 1)), u.2.2.2)) else ((-5), u)))) else ((-4), u))
set_option maxHeartbeats 4000000 in
set_option maxRecDepth 100000 in
theorem c_X2_tieKnot (l : Launch) (T : TT) (b0 : Nat) (a w h k d : Nat) (u : SV)  : ConI l T b0 yX2_tieKnot wsX2_tieKnot rmX2_tieKnot [.ref a] (wSt T a w h k d u) ((F_X2_tieKnot u).1) (wSt T a w h k d ((F_X2_tieKnot u).2)) := by
  refine conI_of (cc := cX2_tieKnot) (maxL := 2) (ret := (some .int)) (lv0 := [(0, .ref a)]) (by decide +kernel) rfl (Nat.le_of_ble_eq_true rfl) rfl (fun X hX => ?_)
  refine g_aload_n hX dX2_tieKnot_0 rfl 0 rfl ?_
  refine g_iconst hX (v := 3) dX2_tieKnot_1 (by decide) ?_
  refine g_cV_I hX (n := 1) (As := [.int 3]) (wc := wSt T a w h k d u) (w1 := wSt T a w h k d u) (rv := (F_X2_number u 3)) (st := []) 0 rfl rfl (c_X2_number (xL X) T (xB X) a w h k d u 3) gX2_tieKnot_X2_number rfl rfl rfl ⟨Nat.le_of_ble_eq_true rfl, Nat.le_of_ble_eq_true rfl⟩ ⟨Nat.zero_le _, Nat.zero_le _⟩ ⟨by decide +kernel, by decide +kernel, by decide +kernel⟩ rfl [0, 1, 2, 3, 4] rfl rfl (by decide) rfl (Nat.le_of_ble_eq_true rfl) dX2_tieKnot_2 (ws' := wSt T a w h k d u) rfl ?_
  refine g_istore_n hX (lv' := [(1, .int (F_X2_number u 3)), (0, .ref a)]) dX2_tieKnot_5 rfl (by decide) rfl ?_
  refine g_aload_n hX dX2_tieKnot_6 rfl 1 rfl ?_
  refine g_get hX 2 h_X2_tieKnot_X2 0 rfl rfl 3 (by decide) k_X2_tieKnot_0 rfl (v := .int (u.1 0)) rfl dX2_tieKnot_7 ?_
  refine g_iload_n hX dX2_tieKnot_10 rfl 0 rfl ?_
  refine g_icmp_ge hX 17 dX2_tieKnot_11 (by decide) (fun c_11 => ?_) (fun c_11 => ?_)
  · skip
    refine g_aload_n hX dX2_tieKnot_17 rfl 1 rfl ?_
    refine g_get hX 2 h_X2_tieKnot_X2 0 rfl rfl 5 (by decide) k_X2_tieKnot_1 rfl (v := .int (u.1 2)) rfl dX2_tieKnot_18 ?_
    refine g_if_eq hX 43 dX2_tieKnot_21 (by decide) (fun c_21 => ?_) (fun c_21 => ?_)
    · skip
      refine g_bipush hX (v := (-5)) dX2_tieKnot_43 (by decide) ?_
      have e9 : F_X2_tieKnot u = ((-5), u) := by simp only [F_X2_tieKnot, eq_true c_11, eq_true c_21, if_true, if_false]
      rw [e9]
      exact g_iret hX dX2_tieKnot_45 rfl rfl
    · skip
      refine g_aload_n hX dX2_tieKnot_24 rfl 1 rfl ?_
      refine g_get hX 2 h_X2_tieKnot_X2 0 rfl rfl 6 (by decide) k_X2_tieKnot_2 rfl (v := .int (u.1 3)) rfl dX2_tieKnot_25 ?_
      refine g_if_lt hX 43 dX2_tieKnot_28 (by decide) (fun c_28 => ?_) (fun c_28 => ?_)
      · skip
        refine g_bipush hX (v := (-5)) dX2_tieKnot_43 (by decide) ?_
        have e9 : F_X2_tieKnot u = ((-5), u) := by simp only [F_X2_tieKnot, eq_true c_11, eq_false c_21, eq_true c_28, if_true, if_false]
        rw [e9]
        exact g_iret hX dX2_tieKnot_45 rfl rfl
      · skip
        refine g_aload_n hX dX2_tieKnot_31 rfl 1 rfl ?_
        refine g_get hX 2 h_X2_tieKnot_X2 0 rfl rfl 6 (by decide) k_X2_tieKnot_2 rfl (v := .int (u.1 3)) rfl dX2_tieKnot_32 ?_
        refine g_aload_n hX dX2_tieKnot_35 rfl 1 rfl ?_
        refine g_get hX 2 h_X2_tieKnot_X2 0 rfl rfl 1 (by decide) k_X2_tieKnot_3 rfl (v := .ref k) rfl dX2_tieKnot_36 ?_
        refine g_alen hX 3 0 rfl rfl (v := 12) rfl dX2_tieKnot_39 ?_
        refine g_icmp_lt hX 46 dX2_tieKnot_40 (by decide) (fun c_40 => ?_) (fun c_40 => ?_)
        · skip
          refine g_aload_n hX dX2_tieKnot_46 rfl 1 rfl ?_
          refine g_dup hX dX2_tieKnot_47 rfl ?_
          refine g_get hX 2 h_X2_tieKnot_X2 0 rfl rfl 3 (by decide) k_X2_tieKnot_0 rfl (v := .int (u.1 0)) rfl dX2_tieKnot_48 ?_
          refine g_iload_n hX dX2_tieKnot_51 rfl 0 rfl ?_
          refine g_isub hX dX2_tieKnot_52 ?_
          refine g_put hX 2 h_X2_tieKnot_X2 0 rfl rfl 3 (by decide) tyX2 tyX2_ok nmX2 k_X2_tieKnot_0 rfl rfl rfl rfl rfl (Nat.le_of_ble_eq_true rfl) dX2_tieKnot_53 (ws' := wSt T a w h k d (upd u.1 0 ((u.1 0) - (F_X2_number u 3)), u.2.1, u.2.2.1, u.2.2.2)) rfl ?_
          refine g_aload_n hX dX2_tieKnot_56 rfl 1 rfl ?_
          refine g_iconst hX (v := 0) dX2_tieKnot_57 (by decide) ?_
          refine g_put hX 2 h_X2_tieKnot_X2 0 rfl rfl 5 (by decide) tyX2 tyX2_ok nmX2 k_X2_tieKnot_1 rfl rfl rfl rfl rfl (Nat.le_of_ble_eq_true rfl) dX2_tieKnot_58 (ws' := wSt T a w h k d (upd (upd u.1 0 ((u.1 0) - (F_X2_number u 3))) 2 0, u.2.1, u.2.2.1, u.2.2.2)) rfl ?_
          refine g_aload_n hX dX2_tieKnot_61 rfl 1 rfl ?_
          refine g_get hX 2 h_X2_tieKnot_X2 0 rfl rfl 1 (by decide) k_X2_tieKnot_3 rfl (v := .ref k) rfl dX2_tieKnot_62 ?_
          refine g_aload_n hX dX2_tieKnot_65 rfl 1 rfl ?_
          refine g_get hX 2 h_X2_tieKnot_X2 0 rfl rfl 6 (by decide) k_X2_tieKnot_2 rfl (v := .int (u.1 3)) rfl dX2_tieKnot_66 ?_
          refine g_dup2 hX dX2_tieKnot_69 rfl rfl ?_
          refine g_iald hX 3 rfl (vin_lt c_28 c_40 (by decide)) (v := (u.2.2.1 (Int32.toNatClampNeg (u.1 3)))) (congrArg _ rfl) dX2_tieKnot_70 ?_
          refine g_iconst hX (v := 1) dX2_tieKnot_71 (by decide) ?_
          refine g_iadd hX dX2_tieKnot_72 ?_
          refine g_iast hX 3 rfl (vin_lt c_28 c_40 (by decide)) dX2_tieKnot_73 (ws' := wSt T a w h k d (upd (upd u.1 0 ((u.1 0) - (F_X2_number u 3))) 2 0, u.2.1, (upd u.2.2.1 (Int32.toNatClampNeg (u.1 3)) ((u.2.2.1 (Int32.toNatClampNeg (u.1 3))) + 1)), u.2.2.2)) rfl ?_
          refine g_aload_n hX dX2_tieKnot_74 rfl 1 rfl ?_
          refine g_get hX 2 h_X2_tieKnot_X2 0 rfl rfl 1 (by decide) k_X2_tieKnot_3 rfl (v := .ref k) rfl dX2_tieKnot_75 ?_
          refine g_aload_n hX dX2_tieKnot_78 rfl 1 rfl ?_
          refine g_get hX 2 h_X2_tieKnot_X2 0 rfl rfl 6 (by decide) k_X2_tieKnot_2 rfl (v := .int (u.1 3)) rfl dX2_tieKnot_79 ?_
          refine g_iald hX 3 rfl (vin_lt c_28 c_40 (by decide)) (v := ((upd u.2.2.1 (Int32.toNatClampNeg (u.1 3)) ((u.2.2.1 (Int32.toNatClampNeg (u.1 3))) + 1)) (Int32.toNatClampNeg (u.1 3)))) (congrArg _ rfl) dX2_tieKnot_82 ?_
          have e9 : F_X2_tieKnot u = (((upd u.2.2.1 (Int32.toNatClampNeg (u.1 3)) ((u.2.2.1 (Int32.toNatClampNeg (u.1 3))) + 1)) (Int32.toNatClampNeg (u.1 3))), (upd (upd u.1 0 ((u.1 0) - (F_X2_number u 3))) 2 0, u.2.1, (upd u.2.2.1 (Int32.toNatClampNeg (u.1 3)) ((u.2.2.1 (Int32.toNatClampNeg (u.1 3))) + 1)), u.2.2.2)) := by simp only [F_X2_tieKnot, eq_true c_11, eq_false c_21, eq_false c_28, eq_true c_40, if_true, if_false]
          rw [e9]
          exact g_iret hX dX2_tieKnot_83 rfl rfl
        · skip
          refine g_bipush hX (v := (-5)) dX2_tieKnot_43 (by decide) ?_
          have e9 : F_X2_tieKnot u = ((-5), u) := by simp only [F_X2_tieKnot, eq_true c_11, eq_false c_21, eq_false c_28, eq_false c_40, if_true, if_false]
          rw [e9]
          exact g_iret hX dX2_tieKnot_45 rfl rfl
  · skip
    refine g_bipush hX (v := (-4)) dX2_tieKnot_14 (by decide) ?_
    have e9 : F_X2_tieKnot u = ((-4), u) := by simp only [F_X2_tieKnot, eq_false c_11, if_true, if_false]
    rw [e9]
    exact g_iret hX dX2_tieKnot_16 rfl rfl
/-! X2_changeCone -/
def rmX2_changeCone : Room := { frames := 2, cells := 0, slots := 0, locals := 41 }
theorem k_X2_changeCone_4 : Cond.initialized RX4 ∈ wsX2_changeCone := List.mem_of_getElem? (i := 5) rfl
theorem k_X2_changeCone_3 : Cond.static yX4_inRange ∈ wsX2_changeCone := List.mem_of_getElem? (i := 4) rfl
theorem k_X2_changeCone_0 : Cond.fieldLink RX2 33 RX2 (TX2 3).2.1 (TX2 3).2.2.1 ∈ wsX2_changeCone := List.mem_of_getElem? (i := 1) rfl
theorem h_X2_changeCone_X2 : ∀ w ∈ u_ws RX2 TX2 11, w ∈ wsX2_changeCone := fun w h => List.mem_cons_of_mem _ (List.mem_append_left _ (List.mem_append_right _ h))
theorem k_X2_changeCone_1 : Cond.fieldLink RX2 12 RX2 (TX2 0).2.1 (TX2 0).2.2.1 ∈ wsX2_changeCone := List.mem_of_getElem? (i := 2) rfl
theorem h_X2_changeCone_X3 : ∀ w ∈ u_ws RX3 TX3 4, w ∈ wsX2_changeCone := fun w h => List.mem_cons_of_mem _ (List.mem_append_right _ h)
theorem k_X2_changeCone_2 : Cond.fieldLink RX2 40 RX2 (TX2 5).2.1 (TX2 5).2.2.1 ∈ wsX2_changeCone := List.mem_of_getElem? (i := 3) rfl
def F_X2_changeCone (u : SV) (p1 : Int32) : Int32 × SV :=
  (if (F_X4_inRange 6 p1) = 0 then ((-2), u) else (if (u.2.1.1 0) ≤ 0 then ((u.1 0), (upd (upd u.1 0 p1) 2 0, u.2.1, u.2.2.1, u.2.2.2)) else ((u.1 0), (upd (upd u.1 0 p1) 2 1, u.2.1, u.2.2.1, u.2.2.2))))
set_option maxHeartbeats 4000000 in
set_option maxRecDepth 100000 in
theorem c_X2_changeCone (l : Launch) (T : TT) (b0 : Nat) (a w h k d : Nat) (u : SV) (p1 : Int32)  : ConI l T b0 yX2_changeCone wsX2_changeCone rmX2_changeCone [.ref a, .int p1] (wSt T a w h k d u) ((F_X2_changeCone u p1).1) (wSt T a w h k d ((F_X2_changeCone u p1).2)) := by
  refine conI_of (cc := cX2_changeCone) (maxL := 3) (ret := (some .int)) (lv0 := [(0, .ref a), (1, .int p1)]) (by decide +kernel) rfl (Nat.le_of_ble_eq_true rfl) rfl (fun X hX => ?_)
  refine g_bipush hX (v := 6) dX2_changeCone_0 (by decide) ?_
  refine g_iload_n hX dX2_changeCone_2 rfl 1 rfl ?_
  refine g_cSN_I hX (n := 2) (As := [.int 6, .int p1]) (wc := []) (w1 := []) (rv := (F_X4_inRange 6 p1)) (st := []) (c_X4_inRange (xL X) T (xB X) 6 p1) ggX2_changeCone_X4_inRange 23 rfl k_X2_changeCone_4 k_X2_changeCone_3 rfl rfl rfl ⟨Nat.le_of_ble_eq_true rfl, Nat.le_of_ble_eq_true rfl⟩ ⟨Nat.zero_le _, Nat.zero_le _⟩ ⟨by decide +kernel, by decide +kernel, by decide +kernel⟩ rfl [] rfl rfl (by decide) rfl (Nat.le_of_ble_eq_true rfl) dX2_changeCone_3 (ws' := wSt T a w h k d u) rfl ?_
  refine g_if_ne hX 12 dX2_changeCone_6 (by decide) (fun c_6 => ?_) (fun c_6 => ?_)
  · skip
    refine g_aload_n hX dX2_changeCone_12 rfl 0 rfl ?_
    refine g_get hX 2 h_X2_changeCone_X2 0 rfl rfl 3 (by decide) k_X2_changeCone_0 rfl (v := .int (u.1 0)) rfl dX2_changeCone_13 ?_
    refine g_istore_n hX (lv' := [(2, .int (u.1 0)), (0, .ref a), (1, .int p1)]) dX2_changeCone_16 rfl (by decide) rfl ?_
    refine g_aload_n hX dX2_changeCone_17 rfl 1 rfl ?_
    refine g_iload_n hX dX2_changeCone_18 rfl 2 rfl ?_
    refine g_put hX 2 h_X2_changeCone_X2 0 rfl rfl 3 (by decide) tyX2 tyX2_ok nmX2 k_X2_changeCone_0 rfl rfl rfl rfl rfl (Nat.le_of_ble_eq_true rfl) dX2_changeCone_19 (ws' := wSt T a w h k d (upd u.1 0 p1, u.2.1, u.2.2.1, u.2.2.2)) rfl ?_
    refine g_aload_n hX dX2_changeCone_22 rfl 1 rfl ?_
    refine g_aload_n hX dX2_changeCone_23 rfl 1 rfl ?_
    refine g_get hX 2 h_X2_changeCone_X2 0 rfl rfl 0 (by decide) k_X2_changeCone_1 rfl (v := .ref w) rfl dX2_changeCone_24 ?_
    refine g_getN hX 3 h_X2_changeCone_X3 1 rfl rfl 1 (by decide) 0 rfl rfl (v := .int (u.2.1.1 0)) rfl dX2_changeCone_27 ?_
    refine g_if_le hX 37 dX2_changeCone_30 (by decide) (fun c_30 => ?_) (fun c_30 => ?_)
    · skip
      refine g_iconst hX (v := 0) dX2_changeCone_37 (by decide) ?_
      refine g_put hX 2 h_X2_changeCone_X2 0 rfl rfl 5 (by decide) tyX2 tyX2_ok nmX2 k_X2_changeCone_2 rfl rfl rfl rfl rfl (Nat.le_of_ble_eq_true rfl) dX2_changeCone_38 (ws' := wSt T a w h k d (upd (upd u.1 0 p1) 2 0, u.2.1, u.2.2.1, u.2.2.2)) rfl ?_
      refine g_iload_n hX dX2_changeCone_41 rfl 0 rfl ?_
      have e9 : F_X2_changeCone u p1 = ((u.1 0), (upd (upd u.1 0 p1) 2 0, u.2.1, u.2.2.1, u.2.2.2)) := by simp only [F_X2_changeCone, eq_false c_6, eq_true c_30, if_true, if_false]
      rw [e9]
      exact g_iret hX dX2_changeCone_42 rfl rfl
    · skip
      refine g_iconst hX (v := 1) dX2_changeCone_33 (by decide) ?_
      refine g_goto hX 38 dX2_changeCone_34 (by decide) ?_
      refine g_put hX 2 h_X2_changeCone_X2 0 rfl rfl 5 (by decide) tyX2 tyX2_ok nmX2 k_X2_changeCone_2 rfl rfl rfl rfl rfl (Nat.le_of_ble_eq_true rfl) dX2_changeCone_38 (ws' := wSt T a w h k d (upd (upd u.1 0 p1) 2 1, u.2.1, u.2.2.1, u.2.2.2)) rfl ?_
      refine g_iload_n hX dX2_changeCone_41 rfl 0 rfl ?_
      have e9 : F_X2_changeCone u p1 = ((u.1 0), (upd (upd u.1 0 p1) 2 1, u.2.1, u.2.2.1, u.2.2.2)) := by simp only [F_X2_changeCone, eq_false c_6, eq_false c_30, if_true, if_false]
      rw [e9]
      exact g_iret hX dX2_changeCone_42 rfl rfl
  · skip
    refine g_bipush hX (v := (-2)) dX2_changeCone_9 (by decide) ?_
    have e9 : F_X2_changeCone u p1 = ((-2), u) := by simp only [F_X2_changeCone, eq_true c_6, if_true, if_false]
    rw [e9]
    exact g_iret hX dX2_changeCone_11 rfl rfl
/-! X2_changeNumber -/
def rmX2_changeNumber : Room := { frames := 2, cells := 0, slots := 0, locals := 41 }
theorem k_X2_changeNumber_0 : Cond.fieldLink RX2 30 RX2 (TX2 2).2.1 (TX2 2).2.2.1 ∈ wsX2_changeNumber := List.mem_of_getElem? (i := 1) rfl
theorem h_X2_changeNumber_X2 : ∀ w ∈ u_ws RX2 TX2 11, w ∈ wsX2_changeNumber := fun w h => List.mem_cons_of_mem _ (List.mem_append_right _ h)
theorem k_X2_changeNumber_2 : Cond.initialized RX4 ∈ wsX2_changeNumber := List.mem_of_getElem? (i := 3) rfl
theorem k_X2_changeNumber_1 : Cond.static yX4_inRange ∈ wsX2_changeNumber := List.mem_of_getElem? (i := 2) rfl
def F_X2_changeNumber (u : SV) (p1 : Int32) (p2 : Int32) : Int32 × SV :=
  (if p1 < 0 then ((-1), u) else (if p1 < 5 then (if (F_X4_inRange p1 p2) = 0 then ((-2), u) else (if (u.2.2.2 (Int32.toNatClampNeg p1)) = p2 then ((-5), u) else ((u.2.2.2 (Int32.toNatClampNeg p1)), (u.1, u.2.1, u.2.2.1, (upd u.2.2.2 (Int32.toNatClampNeg p1) p2))))) else ((-1), u)))
set_option maxHeartbeats 4000000 in
set_option maxRecDepth 100000 in
theorem c_X2_changeNumber (l : Launch) (T : TT) (b0 : Nat) (a w h k d : Nat) (u : SV) (p1 : Int32) (p2 : Int32)  : ConI l T b0 yX2_changeNumber wsX2_changeNumber rmX2_changeNumber [.ref a, .int p1, .int p2] (wSt T a w h k d u) ((F_X2_changeNumber u p1 p2).1) (wSt T a w h k d ((F_X2_changeNumber u p1 p2).2)) := by
  refine conI_of (cc := cX2_changeNumber) (maxL := 4) (ret := (some .int)) (lv0 := [(0, .ref a), (1, .int p1), (2, .int p2)]) (by decide +kernel) rfl (Nat.le_of_ble_eq_true rfl) rfl (fun X hX => ?_)
  refine g_iload_n hX dX2_changeNumber_0 rfl 1 rfl ?_
  refine g_if_lt hX 13 dX2_changeNumber_1 (by decide) (fun c_1 => ?_) (fun c_1 => ?_)
  · skip
    refine g_iconst hX (v := (-1)) dX2_changeNumber_13 (by decide) ?_
    have e9 : F_X2_changeNumber u p1 p2 = ((-1), u) := by simp only [F_X2_changeNumber, eq_true c_1, if_true, if_false]
    rw [e9]
    exact g_iret hX dX2_changeNumber_14 rfl rfl
  · skip
    refine g_iload_n hX dX2_changeNumber_4 rfl 1 rfl ?_
    refine g_aload_n hX dX2_changeNumber_5 rfl 0 rfl ?_
    refine g_get hX 2 h_X2_changeNumber_X2 0 rfl rfl 2 (by decide) k_X2_changeNumber_0 rfl (v := .ref d) rfl dX2_changeNumber_6 ?_
    refine g_alen hX 4 0 rfl rfl (v := 5) rfl dX2_changeNumber_9 ?_
    refine g_icmp_lt hX 15 dX2_changeNumber_10 (by decide) (fun c_10 => ?_) (fun c_10 => ?_)
    · skip
      refine g_iload_n hX dX2_changeNumber_15 rfl 1 rfl ?_
      refine g_iload_n hX dX2_changeNumber_16 rfl 2 rfl ?_
      refine g_cSN_I hX (n := 2) (As := [.int p1, .int p2]) (wc := []) (w1 := []) (rv := (F_X4_inRange p1 p2)) (st := []) (c_X4_inRange (xL X) T (xB X) p1 p2) ggX2_changeNumber_X4_inRange 23 rfl k_X2_changeNumber_2 k_X2_changeNumber_1 rfl rfl rfl ⟨Nat.le_of_ble_eq_true rfl, Nat.le_of_ble_eq_true rfl⟩ ⟨Nat.zero_le _, Nat.zero_le _⟩ ⟨by decide +kernel, by decide +kernel, by decide +kernel⟩ rfl [] rfl rfl (by decide) rfl (Nat.le_of_ble_eq_true rfl) dX2_changeNumber_17 (ws' := wSt T a w h k d u) rfl ?_
      refine g_if_ne hX 26 dX2_changeNumber_20 (by decide) (fun c_20 => ?_) (fun c_20 => ?_)
      · skip
        refine g_aload_n hX dX2_changeNumber_26 rfl 0 rfl ?_
        refine g_get hX 2 h_X2_changeNumber_X2 0 rfl rfl 2 (by decide) k_X2_changeNumber_0 rfl (v := .ref d) rfl dX2_changeNumber_27 ?_
        refine g_iload_n hX dX2_changeNumber_30 rfl 1 rfl ?_
        refine g_iald hX 4 rfl (vin_lt c_1 c_10 (by decide)) (v := (u.2.2.2 (Int32.toNatClampNeg p1))) (congrArg _ rfl) dX2_changeNumber_31 ?_
        refine g_istore_n hX (lv' := [(3, .int (u.2.2.2 (Int32.toNatClampNeg p1))), (0, .ref a), (1, .int p1), (2, .int p2)]) dX2_changeNumber_32 rfl (by decide) rfl ?_
        refine g_iload_n hX dX2_changeNumber_33 rfl 0 rfl ?_
        refine g_iload_n hX dX2_changeNumber_34 rfl 3 rfl ?_
        refine g_icmp_ne hX 41 dX2_changeNumber_35 (by decide) (fun c_35 => ?_) (fun c_35 => ?_)
        · skip
          refine g_aload_n hX dX2_changeNumber_41 rfl 1 rfl ?_
          refine g_get hX 2 h_X2_changeNumber_X2 0 rfl rfl 2 (by decide) k_X2_changeNumber_0 rfl (v := .ref d) rfl dX2_changeNumber_42 ?_
          refine g_iload_n hX dX2_changeNumber_45 rfl 2 rfl ?_
          refine g_iload_n hX dX2_changeNumber_46 rfl 3 rfl ?_
          refine g_iast hX 4 rfl (vin_lt c_1 c_10 (by decide)) dX2_changeNumber_47 (ws' := wSt T a w h k d (u.1, u.2.1, u.2.2.1, (upd u.2.2.2 (Int32.toNatClampNeg p1) p2))) rfl ?_
          refine g_iload_n hX dX2_changeNumber_48 rfl 0 rfl ?_
          have e9 : F_X2_changeNumber u p1 p2 = ((u.2.2.2 (Int32.toNatClampNeg p1)), (u.1, u.2.1, u.2.2.1, (upd u.2.2.2 (Int32.toNatClampNeg p1) p2))) := by simp only [F_X2_changeNumber, eq_false c_1, eq_true c_10, eq_false c_20, eq_false c_35, if_true, if_false]
          rw [e9]
          exact g_iret hX dX2_changeNumber_49 rfl rfl
        · skip
          refine g_bipush hX (v := (-5)) dX2_changeNumber_38 (by decide) ?_
          have e9 : F_X2_changeNumber u p1 p2 = ((-5), u) := by simp only [F_X2_changeNumber, eq_false c_1, eq_true c_10, eq_false c_20, eq_true c_35, if_true, if_false]
          rw [e9]
          exact g_iret hX dX2_changeNumber_40 rfl rfl
      · skip
        refine g_bipush hX (v := (-2)) dX2_changeNumber_23 (by decide) ?_
        have e9 : F_X2_changeNumber u p1 p2 = ((-2), u) := by simp only [F_X2_changeNumber, eq_false c_1, eq_true c_10, eq_true c_20, if_true, if_false]
        rw [e9]
        exact g_iret hX dX2_changeNumber_25 rfl rfl
    · skip
      refine g_iconst hX (v := (-1)) dX2_changeNumber_13 (by decide) ?_
      have e9 : F_X2_changeNumber u p1 p2 = ((-1), u) := by simp only [F_X2_changeNumber, eq_false c_1, eq_false c_10, if_true, if_false]
      rw [e9]
      exact g_iret hX dX2_changeNumber_14 rfl rfl
/-! X2_takePackageOff -/
def rmX2_takePackageOff : Room := { frames := 2, cells := 0, slots := 0, locals := 43 }
theorem k_X2_takePackageOff_0 : Cond.fieldLink RX2 12 RX2 (TX2 0).2.1 (TX2 0).2.2.1 ∈ wsX2_takePackageOff := List.mem_of_getElem? (i := 1) rfl
theorem h_X2_takePackageOff_X2 : ∀ w ∈ u_ws RX2 TX2 11, w ∈ wsX2_takePackageOff := fun w h => List.mem_cons_of_mem _ (List.mem_append_left _ (List.mem_append_right _ h))
theorem h_X2_takePackageOff_X3 : ∀ w ∈ u_ws RX3 TX3 4, w ∈ wsX2_takePackageOff := fun w h => List.mem_cons_of_mem _ (List.mem_append_right _ h)
theorem k_X2_takePackageOff_7 : Cond.initialized RX3 ∈ wsX2_takePackageOff := List.mem_of_getElem? (i := 8) rfl
theorem k_X2_takePackageOff_6 : Cond.instanceMethod yX3_clear ∈ wsX2_takePackageOff := List.mem_of_getElem? (i := 7) rfl
theorem k_X2_takePackageOff_8 : Cond.selects RX3 yX3_clear yX3_clear ∈ wsX2_takePackageOff := List.mem_of_getElem? (i := 9) rfl
theorem k_X2_takePackageOff_1 : Cond.fieldLink RX2 18 RX2 (TX2 1).2.1 (TX2 1).2.2.1 ∈ wsX2_takePackageOff := List.mem_of_getElem? (i := 2) rfl
theorem k_X2_takePackageOff_2 : Cond.fieldLink RX2 40 RX2 (TX2 5).2.1 (TX2 5).2.2.1 ∈ wsX2_takePackageOff := List.mem_of_getElem? (i := 3) rfl
theorem k_X2_takePackageOff_3 : Cond.fieldLink RX2 44 RX2 (TX2 6).2.1 (TX2 6).2.2.1 ∈ wsX2_takePackageOff := List.mem_of_getElem? (i := 4) rfl
theorem k_X2_takePackageOff_4 : Cond.fieldLink RX2 47 RX2 (TX2 7).2.1 (TX2 7).2.2.1 ∈ wsX2_takePackageOff := List.mem_of_getElem? (i := 5) rfl
theorem k_X2_takePackageOff_5 : Cond.fieldLink RX2 56 RX2 (TX2 10).2.1 (TX2 10).2.2.1 ∈ wsX2_takePackageOff := List.mem_of_getElem? (i := 6) rfl
def F_X2_takePackageOff (u : SV) : Int32 × SV :=
  (if (u.2.1.1 0) = 0 then ((-5), u) else (let z_19 := F_X3_clear u.2.1
  (let z_27 := F_J7_fill_53178 u.2.2.1 0
  ((u.2.1.1 0), (upd (upd (upd (upd u.1 2 0) 3 (-1)) 4 0) 7 ((u.1 7) + 1), z_19, z_27, u.2.2.2)))))
set_option maxHeartbeats 4000000 in
set_option maxRecDepth 100000 in
theorem c_X2_takePackageOff (l : Launch) (T : TT) (b0 : Nat) (a w h k d : Nat) (u : SV)  : ConI l T b0 yX2_takePackageOff wsX2_takePackageOff rmX2_takePackageOff [.ref a] (wSt T a w h k d u) ((F_X2_takePackageOff u).1) (wSt T a w h k d ((F_X2_takePackageOff u).2)) := by
  refine conI_of (cc := cX2_takePackageOff) (maxL := 2) (ret := (some .int)) (lv0 := [(0, .ref a)]) (by decide +kernel) rfl (Nat.le_of_ble_eq_true rfl) rfl (fun X hX => ?_)
  refine g_aload_n hX dX2_takePackageOff_0 rfl 0 rfl ?_
  refine g_get hX 2 h_X2_takePackageOff_X2 0 rfl rfl 0 (by decide) k_X2_takePackageOff_0 rfl (v := .ref w) rfl dX2_takePackageOff_1 ?_
  refine g_getN hX 3 h_X2_takePackageOff_X3 1 rfl rfl 1 (by decide) 0 rfl rfl (v := .int (u.2.1.1 0)) rfl dX2_takePackageOff_4 ?_
  refine g_istore_n hX (lv' := [(1, .int (u.2.1.1 0)), (0, .ref a)]) dX2_takePackageOff_7 rfl (by decide) rfl ?_
  refine g_iload_n hX dX2_takePackageOff_8 rfl 0 rfl ?_
  refine g_if_ne hX 15 dX2_takePackageOff_9 (by decide) (fun c_9 => ?_) (fun c_9 => ?_)
  · skip
    refine g_aload_n hX dX2_takePackageOff_15 rfl 1 rfl ?_
    refine g_get hX 2 h_X2_takePackageOff_X2 0 rfl rfl 0 (by decide) k_X2_takePackageOff_0 rfl (v := .ref w) rfl dX2_takePackageOff_16 ?_
    obtain ⟨z_19, hz_19⟩ : ∃ z : WV, z = F_X3_clear u.2.1 := ⟨_, rfl⟩
    refine g_cVN_V hX (n := 0) (As := []) (wc := wWr T w h u.2.1) (w1 := wWr T w h z_19) (st := []) 1 rfl rfl (by rw [hz_19]; exact (c_X3_clear (xL X) T (xB X) w h u.2.1)) ggX2_takePackageOff_X3_clear 36 rfl k_X2_takePackageOff_7 k_X2_takePackageOff_6 k_X2_takePackageOff_8 rfl rfl rfl ⟨Nat.le_of_ble_eq_true rfl, Nat.le_of_ble_eq_true rfl⟩ ⟨Nat.zero_le _, Nat.zero_le _⟩ ⟨by decide +kernel, by decide +kernel, by decide +kernel⟩ rfl [1, 2] rfl rfl (by decide) rfl (Nat.le_of_ble_eq_true rfl) dX2_takePackageOff_19 (ws' := wSt T a w h k d (u.1, z_19, u.2.2.1, u.2.2.2)) rfl ?_
    refine g_aload_n hX dX2_takePackageOff_22 rfl 1 rfl ?_
    refine g_get hX 2 h_X2_takePackageOff_X2 0 rfl rfl 1 (by decide) k_X2_takePackageOff_1 rfl (v := .ref k) rfl dX2_takePackageOff_23 ?_
    refine g_iconst hX (v := 0) dX2_takePackageOff_26 (by decide) ?_
    obtain ⟨z_27, hz_27⟩ : ∃ z : (Nat → Int32), z = F_J7_fill_53178 u.2.2.1 0 := ⟨_, rfl⟩
    refine g_cS_V hX (n := 2) (As := [.ref k, .int 0]) (wc := wAr T k 12 u.2.2.1) (w1 := wAr T k 12 z_27) (st := []) (by rw [hz_27]; exact (c_J7_fill_53178 (xL X) T (xB X) k 12 u.2.2.1 0 (by decide))) gX2_takePackageOff_J7_fill_53178 rfl rfl rfl ⟨Nat.le_of_ble_eq_true rfl, Nat.le_of_ble_eq_true rfl⟩ ⟨Nat.zero_le _, Nat.zero_le _⟩ ⟨by decide +kernel, by decide +kernel, by decide +kernel⟩ rfl [3] rfl rfl (by decide) rfl (Nat.le_of_ble_eq_true rfl) dX2_takePackageOff_27 (ws' := wSt T a w h k d (u.1, z_19, z_27, u.2.2.2)) rfl ?_
    refine g_aload_n hX dX2_takePackageOff_30 rfl 1 rfl ?_
    refine g_iconst hX (v := 0) dX2_takePackageOff_31 (by decide) ?_
    refine g_put hX 2 h_X2_takePackageOff_X2 0 rfl rfl 5 (by decide) tyX2 tyX2_ok nmX2 k_X2_takePackageOff_2 rfl rfl rfl rfl rfl (Nat.le_of_ble_eq_true rfl) dX2_takePackageOff_32 (ws' := wSt T a w h k d (upd u.1 2 0, z_19, z_27, u.2.2.2)) rfl ?_
    refine g_aload_n hX dX2_takePackageOff_35 rfl 1 rfl ?_
    refine g_iconst hX (v := (-1)) dX2_takePackageOff_36 (by decide) ?_
    refine g_put hX 2 h_X2_takePackageOff_X2 0 rfl rfl 6 (by decide) tyX2 tyX2_ok nmX2 k_X2_takePackageOff_3 rfl rfl rfl rfl rfl (Nat.le_of_ble_eq_true rfl) dX2_takePackageOff_37 (ws' := wSt T a w h k d (upd (upd u.1 2 0) 3 (-1), z_19, z_27, u.2.2.2)) rfl ?_
    refine g_aload_n hX dX2_takePackageOff_40 rfl 1 rfl ?_
    refine g_iconst hX (v := 0) dX2_takePackageOff_41 (by decide) ?_
    refine g_put hX 2 h_X2_takePackageOff_X2 0 rfl rfl 7 (by decide) tyX2 tyX2_ok nmX2 k_X2_takePackageOff_4 rfl rfl rfl rfl rfl (Nat.le_of_ble_eq_true rfl) dX2_takePackageOff_42 (ws' := wSt T a w h k d (upd (upd (upd u.1 2 0) 3 (-1)) 4 0, z_19, z_27, u.2.2.2)) rfl ?_
    refine g_aload_n hX dX2_takePackageOff_45 rfl 1 rfl ?_
    refine g_dup hX dX2_takePackageOff_46 rfl ?_
    refine g_get hX 2 h_X2_takePackageOff_X2 0 rfl rfl 10 (by decide) k_X2_takePackageOff_5 rfl (v := .int (u.1 7)) rfl dX2_takePackageOff_47 ?_
    refine g_iconst hX (v := 1) dX2_takePackageOff_50 (by decide) ?_
    refine g_iadd hX dX2_takePackageOff_51 ?_
    refine g_put hX 2 h_X2_takePackageOff_X2 0 rfl rfl 10 (by decide) tyX2 tyX2_ok nmX2 k_X2_takePackageOff_5 rfl rfl rfl rfl rfl (Nat.le_of_ble_eq_true rfl) dX2_takePackageOff_52 (ws' := wSt T a w h k d (upd (upd (upd (upd u.1 2 0) 3 (-1)) 4 0) 7 ((u.1 7) + 1), z_19, z_27, u.2.2.2)) rfl ?_
    refine g_iload_n hX dX2_takePackageOff_55 rfl 0 rfl ?_
    have e9 : F_X2_takePackageOff u = ((u.2.1.1 0), (upd (upd (upd (upd u.1 2 0) 3 (-1)) 4 0) 7 ((u.1 7) + 1), z_19, z_27, u.2.2.2)) := by simp only [F_X2_takePackageOff, ← hz_19, ← hz_27, eq_false c_9, if_true, if_false]
    rw [e9]
    exact g_iret hX dX2_takePackageOff_56 rfl rfl
  · skip
    refine g_bipush hX (v := (-5)) dX2_takePackageOff_12 (by decide) ?_
    have e9 : F_X2_takePackageOff u = ((-5), u) := by simp only [F_X2_takePackageOff, eq_true c_9, if_true, if_false]
    rw [e9]
    exact g_iret hX dX2_takePackageOff_14 rfl rfl
/-! X2_turnOften -/
def rmX2_turnOften : Room := { frames := 3, cells := 0, slots := 0, locals := 67 }
theorem k_X2_turnOften_2 : Cond.initialized RX4 ∈ wsX2_turnOften := List.mem_of_getElem? (i := 3) rfl
theorem k_X2_turnOften_1 : Cond.static yX4_inRange ∈ wsX2_turnOften := List.mem_of_getElem? (i := 2) rfl
theorem k_X2_turnOften_0 : Cond.fieldLink RX2 12 RX2 (TX2 0).2.1 (TX2 0).2.2.1 ∈ wsX2_turnOften := List.mem_of_getElem? (i := 1) rfl
theorem h_X2_turnOften_X2 : ∀ w ∈ u_ws RX2 TX2 11, w ∈ wsX2_turnOften := fun w h => List.mem_cons_of_mem _ (List.mem_append_left _ (List.mem_append_right _ h))
theorem h_X2_turnOften_X3 : ∀ w ∈ u_ws RX3 TX3 4, w ∈ wsX2_turnOften := fun w h => List.mem_cons_of_mem _ (List.mem_append_right _ h)
def K_X2_turnOften_31 : Nat → SV → Int32 → Nat → Int32 → Int32 × SV
  | 0, u, p1, j, e => (0, u)
  | n + 1, u, p1, j, e => (if p1 ≤ (nI j) then (((u.2.1.1 0) - e), u) else (if (F_X2_isIdle u) = 0 then (let z_44 := F_X2_turnOnce u
  K_X2_turnOften_31 n z_44 p1 (j + 1) e) else (((u.2.1.1 0) - e), u)))
def F_X2_turnOften (u : SV) (p1 : Int32) : Int32 × SV :=
  (if (F_X4_inRange 5 p1) = 0 then ((-2), u) else (if (F_X2_isIdle u) = 0 then K_X2_turnOften_31 501 u p1 0 (u.2.1.1 0) else ((-5), u)))
set_option maxHeartbeats 4000000 in
set_option maxRecDepth 100000 in
theorem k_X2_turnOften_31 {T : TT} {X : CX} (hX : Fit T X (yX2_turnOften).cls 4 wsX2_turnOften cX2_turnOften (some .int) rmX2_turnOften) (a w h k d : Nat) : ∀ (n : Nat) (u : SV) (p1 : Int32) (j : Nat) (e : Int32) (hn : j + n = 501) (hj : j ≤ 500) (hp : p1.toInt ≤ 500), G T X (QI T X 0 0 ((K_X2_turnOften_31 n u p1 j e).1) (wSt T a w h k d ((K_X2_turnOften_31 n u p1 j e).2))) 0 0 (wSt T a w h k d u) [(3, .int (nI j)), (2, .int e), (0, .ref a), (1, .int p1)] 31 [] := by
  intro n
  induction n with
  | zero =>
    intro u p1 j e hn hj hp
    exact absurd hn (by omega)
  | succ n ih =>
    intro u p1 j e hn hj hp
    refine g_iload_n hX dX2_turnOften_31 rfl 0 rfl ?_
    refine g_iload_n hX dX2_turnOften_32 rfl 3 rfl ?_
    refine g_icmp_ge hX 53 dX2_turnOften_33 (by decide) (fun c_33 => ?_) (fun c_33 => ?_)
    · skip
      refine g_aload_n hX dX2_turnOften_53 rfl 2 rfl ?_
      refine g_get hX 2 h_X2_turnOften_X2 0 rfl rfl 0 (by decide) k_X2_turnOften_0 rfl (v := .ref w) rfl dX2_turnOften_54 ?_
      refine g_getN hX 3 h_X2_turnOften_X3 1 rfl rfl 1 (by decide) 0 rfl rfl (v := .int (u.2.1.1 0)) rfl dX2_turnOften_57 ?_
      refine g_iload_n hX dX2_turnOften_60 rfl 1 rfl ?_
      refine g_isub hX dX2_turnOften_61 ?_
      have e9 : K_X2_turnOften_31 (n + 1) u p1 j e = (((u.2.1.1 0) - e), u) := by simp only [K_X2_turnOften_31, eq_true c_33, if_true, if_false]
      rw [e9]
      exact g_iret hX dX2_turnOften_62 rfl rfl
    · skip
      have hlt : j < 500 := nlt_p c_33 hp (by omega)
      refine g_aload_n hX dX2_turnOften_36 rfl 2 rfl ?_
      refine g_cV_I hX (n := 0) (As := []) (wc := wSt T a w h k d u) (w1 := wSt T a w h k d u) (rv := (F_X2_isIdle u)) (st := []) 0 rfl rfl (c_X2_isIdle (xL X) T (xB X) a w h k d u) gX2_turnOften_X2_isIdle rfl rfl rfl ⟨Nat.le_of_ble_eq_true rfl, Nat.le_of_ble_eq_true rfl⟩ ⟨Nat.zero_le _, Nat.zero_le _⟩ ⟨by decide +kernel, by decide +kernel, by decide +kernel⟩ rfl [0, 1, 2, 3, 4] rfl rfl (by decide) rfl (Nat.le_of_ble_eq_true rfl) dX2_turnOften_37 (ws' := wSt T a w h k d u) rfl ?_
      refine g_if_ne hX 53 dX2_turnOften_40 (by decide) (fun c_40 => ?_) (fun c_40 => ?_)
      · skip
        refine g_aload_n hX dX2_turnOften_53 rfl 2 rfl ?_
        refine g_get hX 2 h_X2_turnOften_X2 0 rfl rfl 0 (by decide) k_X2_turnOften_0 rfl (v := .ref w) rfl dX2_turnOften_54 ?_
        refine g_getN hX 3 h_X2_turnOften_X3 1 rfl rfl 1 (by decide) 0 rfl rfl (v := .int (u.2.1.1 0)) rfl dX2_turnOften_57 ?_
        refine g_iload_n hX dX2_turnOften_60 rfl 1 rfl ?_
        refine g_isub hX dX2_turnOften_61 ?_
        have e9 : K_X2_turnOften_31 (n + 1) u p1 j e = (((u.2.1.1 0) - e), u) := by simp only [K_X2_turnOften_31, eq_false c_33, eq_false c_40, if_true, if_false]
        rw [e9]
        exact g_iret hX dX2_turnOften_62 rfl rfl
      · skip
        refine g_aload_n hX dX2_turnOften_43 rfl 2 rfl ?_
        obtain ⟨z_44, hz_44⟩ : ∃ z : SV, z = F_X2_turnOnce u := ⟨_, rfl⟩
        refine g_cV_V hX (n := 0) (As := []) (wc := wSt T a w h k d u) (w1 := wSt T a w h k d z_44) (st := []) 0 rfl rfl (by rw [hz_44]; exact (c_X2_turnOnce (xL X) T (xB X) a w h k d u)) gX2_turnOften_X2_turnOnce rfl rfl rfl ⟨Nat.le_of_ble_eq_true rfl, Nat.le_of_ble_eq_true rfl⟩ ⟨Nat.zero_le _, Nat.zero_le _⟩ ⟨by decide +kernel, by decide +kernel, by decide +kernel⟩ rfl [0, 1, 2, 3, 4] rfl rfl (by decide) rfl (Nat.le_of_ble_eq_true rfl) dX2_turnOften_44 (ws' := wSt T a w h k d z_44) rfl ?_
        refine g_iinc hX (lv' := [(3, .int (nI (j + 1))), (2, .int e), (0, .ref a), (1, .int p1)]) (v := (nI (j + 1))) 0 dX2_turnOften_47 rfl (nI_1 _) (by decide) rfl ?_
        refine g_goto hX 31 dX2_turnOften_50 (by decide) ?_
        have e9 : K_X2_turnOften_31 (n + 1) u p1 j e = K_X2_turnOften_31 n z_44 p1 (j + 1) e := by simp only [K_X2_turnOften_31, ← hz_44, eq_false c_33, eq_true c_40, if_true, if_false]
        rw [e9]
        refine g_lv (lv' := [(3, .int (nI (j + 1))), (2, .int e), (0, .ref a), (1, .int p1)]) [0, 1, 2, 3] rfl ?_
        exact ih z_44 p1 (j + 1) e (by omega) (by omega) hp
set_option maxHeartbeats 4000000 in
set_option maxRecDepth 100000 in
theorem c_X2_turnOften (l : Launch) (T : TT) (b0 : Nat) (a w h k d : Nat) (u : SV) (p1 : Int32)  : ConI l T b0 yX2_turnOften wsX2_turnOften rmX2_turnOften [.ref a, .int p1] (wSt T a w h k d u) ((F_X2_turnOften u p1).1) (wSt T a w h k d ((F_X2_turnOften u p1).2)) := by
  refine conI_of (cc := cX2_turnOften) (maxL := 4) (ret := (some .int)) (lv0 := [(0, .ref a), (1, .int p1)]) (by decide +kernel) rfl (Nat.le_of_ble_eq_true rfl) rfl (fun X hX => ?_)
  refine g_iconst hX (v := 5) dX2_turnOften_0 (by decide) ?_
  refine g_iload_n hX dX2_turnOften_1 rfl 1 rfl ?_
  refine g_cSN_I hX (n := 2) (As := [.int 5, .int p1]) (wc := []) (w1 := []) (rv := (F_X4_inRange 5 p1)) (st := []) (c_X4_inRange (xL X) T (xB X) 5 p1) ggX2_turnOften_X4_inRange 23 rfl k_X2_turnOften_2 k_X2_turnOften_1 rfl rfl rfl ⟨Nat.le_of_ble_eq_true rfl, Nat.le_of_ble_eq_true rfl⟩ ⟨Nat.zero_le _, Nat.zero_le _⟩ ⟨by decide +kernel, by decide +kernel, by decide +kernel⟩ rfl [] rfl rfl (by decide) rfl (Nat.le_of_ble_eq_true rfl) dX2_turnOften_2 (ws' := wSt T a w h k d u) rfl ?_
  refine g_if_ne hX 11 dX2_turnOften_5 (by decide) (fun c_5 => ?_) (fun c_5 => ?_)
  · skip
    refine g_aload_n hX dX2_turnOften_11 rfl 0 rfl ?_
    refine g_cV_I hX (n := 0) (As := []) (wc := wSt T a w h k d u) (w1 := wSt T a w h k d u) (rv := (F_X2_isIdle u)) (st := []) 0 rfl rfl (c_X2_isIdle (xL X) T (xB X) a w h k d u) gX2_turnOften_X2_isIdle rfl rfl rfl ⟨Nat.le_of_ble_eq_true rfl, Nat.le_of_ble_eq_true rfl⟩ ⟨Nat.zero_le _, Nat.zero_le _⟩ ⟨by decide +kernel, by decide +kernel, by decide +kernel⟩ rfl [0, 1, 2, 3, 4] rfl rfl (by decide) rfl (Nat.le_of_ble_eq_true rfl) dX2_turnOften_12 (ws' := wSt T a w h k d u) rfl ?_
    refine g_if_eq hX 21 dX2_turnOften_15 (by decide) (fun c_15 => ?_) (fun c_15 => ?_)
    · skip
      refine g_aload_n hX dX2_turnOften_21 rfl 0 rfl ?_
      refine g_get hX 2 h_X2_turnOften_X2 0 rfl rfl 0 (by decide) k_X2_turnOften_0 rfl (v := .ref w) rfl dX2_turnOften_22 ?_
      refine g_getN hX 3 h_X2_turnOften_X3 1 rfl rfl 1 (by decide) 0 rfl rfl (v := .int (u.2.1.1 0)) rfl dX2_turnOften_25 ?_
      refine g_istore_n hX (lv' := [(2, .int (u.2.1.1 0)), (0, .ref a), (1, .int p1)]) dX2_turnOften_28 rfl (by decide) rfl ?_
      refine g_iconst hX (v := 0) dX2_turnOften_29 (by decide) ?_
      refine g_istore_n hX (lv' := [(3, .int 0), (2, .int (u.2.1.1 0)), (0, .ref a), (1, .int p1)]) dX2_turnOften_30 rfl (by decide) rfl ?_
      have e9 : F_X2_turnOften u p1 = K_X2_turnOften_31 501 u p1 0 (u.2.1.1 0) := by simp only [F_X2_turnOften, eq_false c_5, eq_true c_15, if_true, if_false]
      rw [e9]
      refine g_lv (lv' := [(3, .int (nI 0)), (2, .int (u.2.1.1 0)), (0, .ref a), (1, .int p1)]) [0, 1, 2, 3] rfl ?_
      exact k_X2_turnOften_31 hX a w h k d 501 u p1 0 (u.2.1.1 0) (by omega) (by omega) (inr5 c_5)
    · skip
      refine g_bipush hX (v := (-5)) dX2_turnOften_18 (by decide) ?_
      have e9 : F_X2_turnOften u p1 = ((-5), u) := by simp only [F_X2_turnOften, eq_false c_5, eq_false c_15, if_true, if_false]
      rw [e9]
      exact g_iret hX dX2_turnOften_20 rfl rfl
  · skip
    refine g_bipush hX (v := (-2)) dX2_turnOften_8 (by decide) ?_
    have e9 : F_X2_turnOften u p1 = ((-2), u) := by simp only [F_X2_turnOften, eq_true c_5, if_true, if_false]
    rw [e9]
    exact g_iret hX dX2_turnOften_10 rfl rfl
