def F_J7_fill_53178 (A : Nat → Int32) (p1 : Int32) : Nat → Int32 := fun _ => p1
def rmJ7_fill_53178 : Room := { frames := 0, cells := 0, slots := 0, locals := 0 }
set_option maxHeartbeats 4000000 in
set_option maxRecDepth 100000 in
theorem k_J7_fill_loop {T : TT} {X : CX} (hX : Fit T X (yJ7_fill_53178).cls 4 wsJ7_fill_53178 cJ7_fill_53178 none rmJ7_fill_53178) (a : Nat) (N : Nat) (hN : N < 2 ^ 31) (p1 : Int32) : ∀ (n : Nat) (A : Nat → Int32) (j : Nat) (hn : j + n = N + 1) (hj : j ≤ N) (hA : ∀ i, i < j → A i = p1), G T X (QV T X 0 0 (wAr T a N (fun _ => p1))) 0 0 (wAr T a N A) [(2, .int (nI j)), (3, .int (nI N)), (0, .ref a), (1, .int p1)] 5 [] := by
  intro n
  induction n with
  | zero =>
    intro A j hn hj hA
    exact absurd hn (by omega)
  | succ n ih =>
    intro A j hn hj hA
    refine g_iload_n hX dJ7_fill_53178_5 rfl 0 rfl ?_
    refine g_iload_n hX dJ7_fill_53178_6 rfl 1 rfl ?_
    refine g_icmp_ge hX 20 dJ7_fill_53178_7 (by decide) (fun c_7 => ?_) (fun c_7 => ?_)
    · have hjN : ¬ j < N := fun q => absurd c_7 (nI_ge q hN)
      refine g_same 0 (fun _ => p1) rfl (fun i hi => hA i (by omega)) (ws' := wAr T a N (fun _ => p1)) rfl ?_
      exact g_vret hX dJ7_fill_53178_20 rfl
    · have hjN : j < N := Nat.lt_of_not_le (fun q => c_7 (nI_le q (by omega)))
      refine g_aload_n hX dJ7_fill_53178_10 rfl 2 rfl ?_
      refine g_iload_n hX dJ7_fill_53178_11 rfl 0 rfl ?_
      refine g_iload_n hX dJ7_fill_53178_12 rfl 3 rfl ?_
      refine g_iast hX 0 rfl (vp_in_nI hjN hN) dJ7_fill_53178_13 (ws' := wAr T a N (upd A j p1)) (by rw [show Int32.toNatClampNeg (nI j) = j from nI_clamp (by omega)] <;> rfl) ?_
      refine g_iinc hX (lv' := [(2, .int (nI (j + 1))), (3, .int (nI N)), (0, .ref a), (1, .int p1)]) (v := (nI (j + 1))) 0 dJ7_fill_53178_14 rfl (nI_1 _) (by decide) rfl ?_
      refine g_goto hX 5 dJ7_fill_53178_17 (by decide) ?_
      refine ih (upd A j p1) (j + 1) (by omega) (by omega) (fun i hi => ?_)
      by_cases hij : i = j
      · simp [upd, hij]
      · simp only [upd, if_neg hij]
        exact hA i (by omega)
set_option maxHeartbeats 4000000 in
set_option maxRecDepth 100000 in
theorem c_J7_fill_53178 (l : Launch) (T : TT) (b0 : Nat) (a : Nat) (N : Nat) (A : Nat → Int32) (p1 : Int32) (hN : N < 2 ^ 31) : ConV l T b0 yJ7_fill_53178 wsJ7_fill_53178 rmJ7_fill_53178 [.ref a, .int p1] (wAr T a N A) (wAr T a N (F_J7_fill_53178 A p1)) := by
  refine conV_of (cc := cJ7_fill_53178) (maxL := 4) (ret := none) (lv0 := [(0, .ref a), (1, .int p1)]) (by decide +kernel) rfl (Nat.le_of_ble_eq_true rfl) rfl (fun X hX => ?_)
  refine g_iconst hX (v := 0) dJ7_fill_53178_0 (by decide) ?_
  refine g_istore_n hX (lv' := [(2, .int 0), (0, .ref a), (1, .int p1)]) dJ7_fill_53178_1 rfl (by decide) rfl ?_
  refine g_aload_n hX dJ7_fill_53178_2 rfl 1 rfl ?_
  refine g_alen hX 0 0 rfl rfl (v := nI N) rfl dJ7_fill_53178_3 ?_
  refine g_istore_n hX (lv' := [(3, .int (nI N)), (2, .int 0), (0, .ref a), (1, .int p1)]) dJ7_fill_53178_4 rfl (by decide) rfl ?_
  refine g_lv (lv' := [(2, .int (nI 0)), (3, .int (nI N)), (0, .ref a), (1, .int p1)]) [1, 0, 2, 3] rfl ?_
  exact k_J7_fill_loop hX a N hN p1 (N + 1) A 0 (by omega) (by omega) (fun i hi => absurd hi (by omega))
theorem lowI_eq (x : Int32) : F_X4_lowest x = if x < 0 then 0 else if 7 ≤ x then 0 else fLowI x.toNatClampNeg := rfl

/-! X3_clear -/
def rmX3_clear : Room := { frames := 1, cells := 0, slots := 0, locals := 23 }
theorem k_X3_clear_0 : Cond.fieldLink RX3 9 RX3 (TX3 0).2.1 (TX3 0).2.2.1 ∈ wsX3_clear := List.mem_of_getElem? (i := 1) rfl
theorem h_X3_clear_X3 : ∀ w ∈ u_ws RX3 TX3 4, w ∈ wsX3_clear := fun w h => List.mem_cons_of_mem _ (List.mem_append_right _ h)
theorem k_X3_clear_1 : Cond.fieldLink RX3 15 RX3 (TX3 1).2.1 (TX3 1).2.2.1 ∈ wsX3_clear := List.mem_of_getElem? (i := 2) rfl
theorem k_X3_clear_2 : Cond.fieldLink RX3 19 RX3 (TX3 2).2.1 (TX3 2).2.2.1 ∈ wsX3_clear := List.mem_of_getElem? (i := 3) rfl
theorem k_X3_clear_3 : Cond.fieldLink RX3 22 RX3 (TX3 3).2.1 (TX3 3).2.2.1 ∈ wsX3_clear := List.mem_of_getElem? (i := 4) rfl
def F_X3_clear (u : WV) : WV :=
  (let z_5 := F_J7_fill_53178 u.2 0
  (upd (upd (upd u.1 0 0) 1 0) 2 0, z_5))
set_option maxHeartbeats 4000000 in
set_option maxRecDepth 100000 in
theorem c_X3_clear (l : Launch) (T : TT) (b0 : Nat) (w h : Nat) (u : WV)  : ConV l T b0 yX3_clear wsX3_clear rmX3_clear [.ref w] (wWr T w h u) (wWr T w h (F_X3_clear u)) := by
  refine conV_of (cc := cX3_clear) (maxL := 1) (ret := none) (lv0 := [(0, .ref w)]) (by decide +kernel) rfl (Nat.le_of_ble_eq_true rfl) rfl (fun X hX => ?_)
  refine g_aload_n hX dX3_clear_0 rfl 0 rfl ?_
  refine g_get hX 3 h_X3_clear_X3 0 rfl rfl 0 (by decide) k_X3_clear_0 rfl (v := .ref h) rfl dX3_clear_1 ?_
  refine g_iconst hX (v := 0) dX3_clear_4 (by decide) ?_
  obtain ⟨z_5, hz_5⟩ : ∃ z : (Nat → Int32), z = F_J7_fill_53178 u.2 0 := ⟨_, rfl⟩
  refine g_cS_V hX (n := 2) (As := [.ref h, .int 0]) (wc := wAr T h 12 u.2) (w1 := wAr T h 12 z_5) (st := []) (by rw [hz_5]; exact (c_J7_fill_53178 (xL X) T (xB X) h 12 u.2 0 (by decide))) gX3_clear_J7_fill_53178 rfl rfl rfl ⟨Nat.le_of_ble_eq_true rfl, Nat.le_of_ble_eq_true rfl⟩ ⟨Nat.zero_le _, Nat.zero_le _⟩ ⟨by decide +kernel, by decide +kernel, by decide +kernel⟩ rfl [1] rfl rfl (by decide) rfl (Nat.le_of_ble_eq_true rfl) dX3_clear_5 (ws' := wWr T w h (u.1, z_5)) rfl ?_
  refine g_aload_n hX dX3_clear_8 rfl 0 rfl ?_
  refine g_iconst hX (v := 0) dX3_clear_9 (by decide) ?_
  refine g_put hX 3 h_X3_clear_X3 0 rfl rfl 1 (by decide) tyX3 tyX3_ok nmX3 k_X3_clear_1 rfl rfl rfl rfl rfl (Nat.le_of_ble_eq_true rfl) dX3_clear_10 (ws' := wWr T w h (upd u.1 0 0, z_5)) rfl ?_
  refine g_aload_n hX dX3_clear_13 rfl 0 rfl ?_
  refine g_iconst hX (v := 0) dX3_clear_14 (by decide) ?_
  refine g_put hX 3 h_X3_clear_X3 0 rfl rfl 2 (by decide) tyX3 tyX3_ok nmX3 k_X3_clear_2 rfl rfl rfl rfl rfl (Nat.le_of_ble_eq_true rfl) dX3_clear_15 (ws' := wWr T w h (upd (upd u.1 0 0) 1 0, z_5)) rfl ?_
  refine g_aload_n hX dX3_clear_18 rfl 0 rfl ?_
  refine g_iconst hX (v := 0) dX3_clear_19 (by decide) ?_
  refine g_put hX 3 h_X3_clear_X3 0 rfl rfl 3 (by decide) tyX3 tyX3_ok nmX3 k_X3_clear_3 rfl rfl rfl rfl rfl (Nat.le_of_ble_eq_true rfl) dX3_clear_20 (ws' := wWr T w h (upd (upd (upd u.1 0 0) 1 0) 2 0, z_5)) rfl ?_
  have e9 : F_X3_clear u = (upd (upd (upd u.1 0 0) 1 0) 2 0, z_5) := by simp only [F_X3_clear, ← hz_5, if_true, if_false]
  rw [e9]
  exact g_vret hX dX3_clear_23 rfl
/-! X3_evenness -/
def rmX3_evenness : Room := { frames := 1, cells := 0, slots := 0, locals := 13 }
theorem k_X3_evenness_0 : Cond.fieldLink RX3 19 RX3 (TX3 2).2.1 (TX3 2).2.2.1 ∈ wsX3_evenness := List.mem_of_getElem? (i := 1) rfl
theorem h_X3_evenness_X3 : ∀ w ∈ u_ws RX3 TX3 4, w ∈ wsX3_evenness := fun w h => List.mem_cons_of_mem _ (List.mem_append_right _ h)
theorem k_X3_evenness_1 : Cond.fieldLink RX3 9 RX3 (TX3 0).2.1 (TX3 0).2.2.1 ∈ wsX3_evenness := List.mem_of_getElem? (i := 2) rfl
theorem k_X3_evenness_2 : Cond.methodLink RX3 51 Lib.Math.min.name ∈ wsX3_evenness := List.mem_of_getElem? (i := 3) rfl
theorem k_X3_evenness_3 : Cond.static Lib.Math.min.name ∈ wsX3_evenness := List.mem_of_getElem? (i := 4) rfl
theorem k_X3_evenness_4 : Cond.initialized "java/lang/Math" ∈ wsX3_evenness := List.mem_of_getElem? (i := 5) rfl
theorem k_X3_evenness_5 : Cond.code Lib.Math.min.name Lib.Math.min.code 2 (some .int) ∈ wsX3_evenness := List.mem_of_getElem? (i := 6) rfl
def K_X3_evenness_16 : Nat → WV → Nat → Int32 → Int32
  | 0, u, j, e => 0
  | n + 1, u, j, e => (if 12 ≤ (nI j) then ((u.1 1) - e) else K_X3_evenness_16 n u (j + 1) (if (u.2 j) < e then (u.2 j) else e))
def F_X3_evenness (u : WV) : Int32 :=
  K_X3_evenness_16 13 u 0 (u.1 1)
set_option maxHeartbeats 4000000 in
set_option maxRecDepth 100000 in
theorem k_X3_evenness_16 {T : TT} {X : CX} (hX : Fit T X (yX3_evenness).cls 6 wsX3_evenness cX3_evenness (some .int) rmX3_evenness) (w h : Nat) : ∀ (n : Nat) (u : WV) (j : Nat) (e : Int32) (hn : j + n = 13) (hj : j ≤ 12), G T X (QI T X 0 0 (K_X3_evenness_16 n u j e) (wWr T w h u)) 0 0 (wWr T w h u) [(4, .int (nI j)), (1, .int e), (2, .ref h), (3, .int 12), (0, .ref w)] 16 [] := by
  intro n
  induction n with
  | zero =>
    intro u j e hn hj
    exact absurd hn (by omega)
  | succ n ih =>
    intro u j e hn hj
    refine g_iload hX dX3_evenness_16 0 rfl ?_
    refine g_iload_n hX dX3_evenness_18 rfl 3 rfl ?_
    refine g_icmp_ge hX 41 dX3_evenness_19 (by decide) (fun c_19 => ?_) (fun c_19 => ?_)
    · skip
      refine g_aload_n hX dX3_evenness_41 rfl 4 rfl ?_
      refine g_get hX 3 h_X3_evenness_X3 0 rfl rfl 2 (by decide) k_X3_evenness_0 rfl (v := .int (u.1 1)) rfl dX3_evenness_42 ?_
      refine g_iload_n hX dX3_evenness_45 rfl 1 rfl ?_
      refine g_isub hX dX3_evenness_46 ?_
      have e9 : K_X3_evenness_16 (n + 1) u j e = ((u.1 1) - e) := by simp only [K_X3_evenness_16, eq_true c_19, if_true, if_false]
      rw [e9]
      exact g_iret hX dX3_evenness_47 rfl rfl
    · skip
      have hlt_19 : j < 12 := nlt_of c_19 (by decide) (by omega)
      refine g_aload_n hX dX3_evenness_22 rfl 2 rfl ?_
      refine g_iload hX dX3_evenness_23 0 rfl ?_
      refine g_iald hX 1 rfl (vp_in_nI (by omega) (by omega)) (v := (u.2 j)) (congrArg _ (nI_clamp (by omega))) dX3_evenness_25 ?_
      refine g_istore hX (lv' := [(5, .int (u.2 j)), (4, .int (nI j)), (1, .int e), (2, .ref h), (3, .int 12), (0, .ref w)]) dX3_evenness_26 (by decide) rfl ?_
      refine g_iload_n hX dX3_evenness_28 rfl 2 rfl ?_
      refine g_iload hX dX3_evenness_29 0 rfl ?_
      refine g_mmin hX k_X3_evenness_2 k_X3_evenness_3 k_X3_evenness_4 k_X3_evenness_5 (Nat.le_of_ble_eq_true rfl) (Nat.le_of_ble_eq_true rfl) (Nat.zero_le _) (Nat.zero_le _) dX3_evenness_31 ?_
      refine g_istore_n hX (lv' := [(1, .int (if (u.2 j) < e then (u.2 j) else e)), (5, .int (u.2 j)), (4, .int (nI j)), (2, .ref h), (3, .int 12), (0, .ref w)]) dX3_evenness_34 rfl (by decide) rfl ?_
      refine g_iinc hX (lv' := [(4, .int (nI (j + 1))), (1, .int (if (u.2 j) < e then (u.2 j) else e)), (5, .int (u.2 j)), (2, .ref h), (3, .int 12), (0, .ref w)]) (v := (nI (j + 1))) 2 dX3_evenness_35 rfl (nI_1 _) (by decide) rfl ?_
      refine g_goto hX 16 dX3_evenness_38 (by decide) ?_
      have e9 : K_X3_evenness_16 (n + 1) u j e = K_X3_evenness_16 n u (j + 1) (if (u.2 j) < e then (u.2 j) else e) := by simp only [K_X3_evenness_16, eq_false c_19, if_true, if_false]
      rw [e9]
      refine g_lv (lv' := [(4, .int (nI (j + 1))), (1, .int (if (u.2 j) < e then (u.2 j) else e)), (2, .ref h), (3, .int 12), (0, .ref w)]) [0, 1, 3, 4, 5] rfl ?_
      exact ih u (j + 1) (if (u.2 j) < e then (u.2 j) else e) (by omega) (by omega)
set_option maxHeartbeats 4000000 in
set_option maxRecDepth 100000 in
theorem c_X3_evenness (l : Launch) (T : TT) (b0 : Nat) (w h : Nat) (u : WV)  : ConI l T b0 yX3_evenness wsX3_evenness rmX3_evenness [.ref w] (wWr T w h u) (F_X3_evenness u) (wWr T w h u) := by
  refine conI_of (cc := cX3_evenness) (maxL := 6) (ret := (some .int)) (lv0 := [(0, .ref w)]) (by decide +kernel) rfl (Nat.le_of_ble_eq_true rfl) rfl (fun X hX => ?_)
  refine g_aload_n hX dX3_evenness_0 rfl 0 rfl ?_
  refine g_get hX 3 h_X3_evenness_X3 0 rfl rfl 2 (by decide) k_X3_evenness_0 rfl (v := .int (u.1 1)) rfl dX3_evenness_1 ?_
  refine g_istore_n hX (lv' := [(1, .int (u.1 1)), (0, .ref w)]) dX3_evenness_4 rfl (by decide) rfl ?_
  refine g_aload_n hX dX3_evenness_5 rfl 1 rfl ?_
  refine g_get hX 3 h_X3_evenness_X3 0 rfl rfl 0 (by decide) k_X3_evenness_1 rfl (v := .ref h) rfl dX3_evenness_6 ?_
  refine g_astore_n hX (lv' := [(2, .ref h), (1, .int (u.1 1)), (0, .ref w)]) dX3_evenness_9 rfl (by decide) rfl ?_
  refine g_aload_n hX dX3_evenness_10 rfl 0 rfl ?_
  refine g_alen hX 1 0 rfl rfl (v := 12) rfl dX3_evenness_11 ?_
  refine g_istore_n hX (lv' := [(3, .int 12), (2, .ref h), (1, .int (u.1 1)), (0, .ref w)]) dX3_evenness_12 rfl (by decide) rfl ?_
  refine g_iconst hX (v := 0) dX3_evenness_13 (by decide) ?_
  refine g_istore hX (lv' := [(4, .int 0), (3, .int 12), (2, .ref h), (1, .int (u.1 1)), (0, .ref w)]) dX3_evenness_14 (by decide) rfl ?_
  have e9 : F_X3_evenness u = K_X3_evenness_16 13 u 0 (u.1 1) := by simp only [F_X3_evenness, if_true, if_false]
  rw [e9]
  refine g_lv (lv' := [(4, .int (nI 0)), (1, .int (u.1 1)), (2, .ref h), (3, .int 12), (0, .ref w)]) [0, 3, 2, 1, 4] rfl ?_
  exact k_X3_evenness_16 hX w h 13 u 0 (u.1 1) (by omega) (by omega)
/-! X3_ribbons -/
def rmX3_ribbons : Room := { frames := 3, cells := 0, slots := 0, locals := 66 }
theorem k_X3_ribbons_15 : Cond.initialized RX4 ∈ wsX3_ribbons := List.mem_of_getElem? (i := 16) rfl
theorem k_X3_ribbons_14 : Cond.static yX4_oneIf ∈ wsX3_ribbons := List.mem_of_getElem? (i := 15) rfl
def K_X3_ribbons_4 : Nat → WV → Nat → Int32 → Int32
  | 0, u, j, e => 0
  | n + 1, u, j, e => (if 12 ≤ (nI j) then e else K_X3_ribbons_4 n u (j + 1) (e + (F_X4_oneIf (F_X3_isRibbon u (nI j)))))
def F_X3_ribbons (u : WV) : Int32 :=
  K_X3_ribbons_4 13 u 0 0
set_option maxHeartbeats 4000000 in
set_option maxRecDepth 100000 in
theorem k_X3_ribbons_4 {T : TT} {X : CX} (hX : Fit T X (yX3_ribbons).cls 3 wsX3_ribbons cX3_ribbons (some .int) rmX3_ribbons) (w h : Nat) : ∀ (n : Nat) (u : WV) (j : Nat) (e : Int32) (hn : j + n = 13) (hj : j ≤ 12), G T X (QI T X 0 0 (K_X3_ribbons_4 n u j e) (wWr T w h u)) 0 0 (wWr T w h u) [(2, .int (nI j)), (1, .int e), (0, .ref w)] 4 [] := by
  intro n
  induction n with
  | zero =>
    intro u j e hn hj
    exact absurd hn (by omega)
  | succ n ih =>
    intro u j e hn hj
    refine g_iload_n hX dX3_ribbons_4 rfl 0 rfl ?_
    refine g_bipush hX (v := 12) dX3_ribbons_5 (by decide) ?_
    refine g_icmp_ge hX 27 dX3_ribbons_7 (by decide) (fun c_7 => ?_) (fun c_7 => ?_)
    · skip
      refine g_iload_n hX dX3_ribbons_27 rfl 1 rfl ?_
      have e9 : K_X3_ribbons_4 (n + 1) u j e = e := by simp only [K_X3_ribbons_4, eq_true c_7, if_true, if_false]
      rw [e9]
      exact g_iret hX dX3_ribbons_28 rfl rfl
    · skip
      have hlt_7 : j < 12 := nlt_of c_7 (by decide) (by omega)
      refine g_iload_n hX dX3_ribbons_10 rfl 1 rfl ?_
      refine g_aload_n hX dX3_ribbons_11 rfl 2 rfl ?_
      refine g_iload_n hX dX3_ribbons_12 rfl 0 rfl ?_
      refine g_cV_I hX (n := 1) (As := [.int (nI j)]) (wc := wWr T w h u) (w1 := wWr T w h u) (rv := (F_X3_isRibbon u (nI j))) (st := [.int e]) 0 rfl rfl (c_X3_isRibbon (xL X) T (xB X) w h u (nI j)) gX3_ribbons_X3_isRibbon rfl rfl rfl ⟨Nat.le_of_ble_eq_true rfl, Nat.le_of_ble_eq_true rfl⟩ ⟨Nat.zero_le _, Nat.zero_le _⟩ ⟨by decide +kernel, by decide +kernel, by decide +kernel⟩ rfl [0, 1] rfl rfl (by decide) rfl (Nat.le_of_ble_eq_true rfl) dX3_ribbons_13 (ws' := wWr T w h u) rfl ?_
      refine g_cSN_I hX (n := 1) (As := [.int (F_X3_isRibbon u (nI j))]) (wc := []) (w1 := []) (rv := (F_X4_oneIf (F_X3_isRibbon u (nI j)))) (st := [.int e]) (c_X4_oneIf (xL X) T (xB X) (F_X3_isRibbon u (nI j))) ggX3_ribbons_X4_oneIf 32 rfl k_X3_ribbons_15 k_X3_ribbons_14 rfl rfl rfl ⟨Nat.le_of_ble_eq_true rfl, Nat.le_of_ble_eq_true rfl⟩ ⟨Nat.zero_le _, Nat.zero_le _⟩ ⟨by decide +kernel, by decide +kernel, by decide +kernel⟩ rfl [] rfl rfl (by decide) rfl (Nat.le_of_ble_eq_true rfl) dX3_ribbons_16 (ws' := wWr T w h u) rfl ?_
      refine g_iadd hX dX3_ribbons_19 ?_
      refine g_istore_n hX (lv' := [(1, .int (e + (F_X4_oneIf (F_X3_isRibbon u (nI j))))), (2, .int (nI j)), (0, .ref w)]) dX3_ribbons_20 rfl (by decide) rfl ?_
      refine g_iinc hX (lv' := [(2, .int (nI (j + 1))), (1, .int (e + (F_X4_oneIf (F_X3_isRibbon u (nI j))))), (0, .ref w)]) (v := (nI (j + 1))) 1 dX3_ribbons_21 rfl (nI_1 _) (by decide) rfl ?_
      refine g_goto hX 4 dX3_ribbons_24 (by decide) ?_
      have e9 : K_X3_ribbons_4 (n + 1) u j e = K_X3_ribbons_4 n u (j + 1) (e + (F_X4_oneIf (F_X3_isRibbon u (nI j)))) := by simp only [K_X3_ribbons_4, eq_false c_7, if_true, if_false]
      rw [e9]
      refine g_lv (lv' := [(2, .int (nI (j + 1))), (1, .int (e + (F_X4_oneIf (F_X3_isRibbon u (nI j))))), (0, .ref w)]) [0, 1, 2] rfl ?_
      exact ih u (j + 1) (e + (F_X4_oneIf (F_X3_isRibbon u (nI j)))) (by omega) (by omega)
set_option maxHeartbeats 4000000 in
set_option maxRecDepth 100000 in
theorem c_X3_ribbons (l : Launch) (T : TT) (b0 : Nat) (w h : Nat) (u : WV)  : ConI l T b0 yX3_ribbons wsX3_ribbons rmX3_ribbons [.ref w] (wWr T w h u) (F_X3_ribbons u) (wWr T w h u) := by
  refine conI_of (cc := cX3_ribbons) (maxL := 3) (ret := (some .int)) (lv0 := [(0, .ref w)]) (by decide +kernel) rfl (Nat.le_of_ble_eq_true rfl) rfl (fun X hX => ?_)
  refine g_iconst hX (v := 0) dX3_ribbons_0 (by decide) ?_
  refine g_istore_n hX (lv' := [(1, .int 0), (0, .ref w)]) dX3_ribbons_1 rfl (by decide) rfl ?_
  refine g_iconst hX (v := 0) dX3_ribbons_2 (by decide) ?_
  refine g_istore_n hX (lv' := [(2, .int 0), (1, .int 0), (0, .ref w)]) dX3_ribbons_3 rfl (by decide) rfl ?_
  have e9 : F_X3_ribbons u = K_X3_ribbons_4 13 u 0 0 := by simp only [F_X3_ribbons, if_true, if_false]
  rw [e9]
  refine g_lv (lv' := [(2, .int (nI 0)), (1, .int 0), (0, .ref w)]) [0, 1, 2] rfl ?_
  exact k_X3_ribbons_4 hX w h 13 u 0 0 (by omega) (by omega)
/-! X3_barePlaces -/
def rmX3_barePlaces : Room := { frames := 1, cells := 0, slots := 0, locals := 20 }
theorem k_X3_barePlaces_0 : Cond.fieldLink RX3 9 RX3 (TX3 0).2.1 (TX3 0).2.2.1 ∈ wsX3_barePlaces := List.mem_of_getElem? (i := 1) rfl
theorem h_X3_barePlaces_X3 : ∀ w ∈ u_ws RX3 TX3 4, w ∈ wsX3_barePlaces := fun w h => List.mem_cons_of_mem _ (List.mem_append_right _ h)
theorem k_X3_barePlaces_2 : Cond.initialized RX4 ∈ wsX3_barePlaces := List.mem_of_getElem? (i := 3) rfl
theorem k_X3_barePlaces_1 : Cond.static yX4_oneIf ∈ wsX3_barePlaces := List.mem_of_getElem? (i := 2) rfl
def K_X3_barePlaces_13 : Nat → WV → Nat → Int32 → Int32
  | 0, u, j, e => 0
  | n + 1, u, j, e => (if 12 ≤ (nI j) then e else (if (u.2 j) = 0 then K_X3_barePlaces_13 n u (j + 1) (e + (F_X4_oneIf 1)) else K_X3_barePlaces_13 n u (j + 1) (e + (F_X4_oneIf 0))))
def F_X3_barePlaces (u : WV) : Int32 :=
  K_X3_barePlaces_13 13 u 0 0
set_option maxHeartbeats 4000000 in
set_option maxRecDepth 100000 in
theorem k_X3_barePlaces_13 {T : TT} {X : CX} (hX : Fit T X (yX3_barePlaces).cls 6 wsX3_barePlaces cX3_barePlaces (some .int) rmX3_barePlaces) (w h : Nat) : ∀ (n : Nat) (u : WV) (j : Nat) (e : Int32) (hn : j + n = 13) (hj : j ≤ 12), G T X (QI T X 0 0 (K_X3_barePlaces_13 n u j e) (wWr T w h u)) 0 0 (wWr T w h u) [(4, .int (nI j)), (1, .int e), (2, .ref h), (3, .int 12), (0, .ref w)] 13 [] := by
  intro n
  induction n with
  | zero =>
    intro u j e hn hj
    exact absurd hn (by omega)
  | succ n ih =>
    intro u j e hn hj
    refine g_iload hX dX3_barePlaces_13 0 rfl ?_
    refine g_iload_n hX dX3_barePlaces_15 rfl 3 rfl ?_
    refine g_icmp_ge hX 47 dX3_barePlaces_16 (by decide) (fun c_16 => ?_) (fun c_16 => ?_)
    · skip
      refine g_iload_n hX dX3_barePlaces_47 rfl 1 rfl ?_
      have e9 : K_X3_barePlaces_13 (n + 1) u j e = e := by simp only [K_X3_barePlaces_13, eq_true c_16, if_true, if_false]
      rw [e9]
      exact g_iret hX dX3_barePlaces_48 rfl rfl
    · skip
      have hlt_16 : j < 12 := nlt_of c_16 (by decide) (by omega)
      refine g_aload_n hX dX3_barePlaces_19 rfl 2 rfl ?_
      refine g_iload hX dX3_barePlaces_20 0 rfl ?_
      refine g_iald hX 1 rfl (vp_in_nI (by omega) (by omega)) (v := (u.2 j)) (congrArg _ (nI_clamp (by omega))) dX3_barePlaces_22 ?_
      refine g_istore hX (lv' := [(5, .int (u.2 j)), (4, .int (nI j)), (1, .int e), (2, .ref h), (3, .int 12), (0, .ref w)]) dX3_barePlaces_23 (by decide) rfl ?_
      refine g_iload_n hX dX3_barePlaces_25 rfl 2 rfl ?_
      refine g_iload hX dX3_barePlaces_26 0 rfl ?_
      refine g_if_ne hX 35 dX3_barePlaces_28 (by decide) (fun c_28 => ?_) (fun c_28 => ?_)
      · skip
        refine g_iconst hX (v := 0) dX3_barePlaces_35 (by decide) ?_
        refine g_cSN_I hX (n := 1) (As := [.int 0]) (wc := []) (w1 := []) (rv := (F_X4_oneIf 0)) (st := [.int e]) (c_X4_oneIf (xL X) T (xB X) 0) ggX3_barePlaces_X4_oneIf 32 rfl k_X3_barePlaces_2 k_X3_barePlaces_1 rfl rfl rfl ⟨Nat.le_of_ble_eq_true rfl, Nat.le_of_ble_eq_true rfl⟩ ⟨Nat.zero_le _, Nat.zero_le _⟩ ⟨by decide +kernel, by decide +kernel, by decide +kernel⟩ rfl [] rfl rfl (by decide) rfl (Nat.le_of_ble_eq_true rfl) dX3_barePlaces_36 (ws' := wWr T w h u) rfl ?_
        refine g_iadd hX dX3_barePlaces_39 ?_
        refine g_istore_n hX (lv' := [(1, .int (e + (F_X4_oneIf 0))), (5, .int (u.2 j)), (4, .int (nI j)), (2, .ref h), (3, .int 12), (0, .ref w)]) dX3_barePlaces_40 rfl (by decide) rfl ?_
        refine g_iinc hX (lv' := [(4, .int (nI (j + 1))), (1, .int (e + (F_X4_oneIf 0))), (5, .int (u.2 j)), (2, .ref h), (3, .int 12), (0, .ref w)]) (v := (nI (j + 1))) 2 dX3_barePlaces_41 rfl (nI_1 _) (by decide) rfl ?_
        refine g_goto hX 13 dX3_barePlaces_44 (by decide) ?_
        have e9 : K_X3_barePlaces_13 (n + 1) u j e = K_X3_barePlaces_13 n u (j + 1) (e + (F_X4_oneIf 0)) := by simp only [K_X3_barePlaces_13, eq_false c_16, eq_false c_28, if_true, if_false]
        rw [e9]
        refine g_lv (lv' := [(4, .int (nI (j + 1))), (1, .int (e + (F_X4_oneIf 0))), (2, .ref h), (3, .int 12), (0, .ref w)]) [0, 1, 3, 4, 5] rfl ?_
        exact ih u (j + 1) (e + (F_X4_oneIf 0)) (by omega) (by omega)
      · skip
        refine g_iconst hX (v := 1) dX3_barePlaces_31 (by decide) ?_
        refine g_goto hX 36 dX3_barePlaces_32 (by decide) ?_
        refine g_cSN_I hX (n := 1) (As := [.int 1]) (wc := []) (w1 := []) (rv := (F_X4_oneIf 1)) (st := [.int e]) (c_X4_oneIf (xL X) T (xB X) 1) ggX3_barePlaces_X4_oneIf 32 rfl k_X3_barePlaces_2 k_X3_barePlaces_1 rfl rfl rfl ⟨Nat.le_of_ble_eq_true rfl, Nat.le_of_ble_eq_true rfl⟩ ⟨Nat.zero_le _, Nat.zero_le _⟩ ⟨by decide +kernel, by decide +kernel, by decide +kernel⟩ rfl [] rfl rfl (by decide) rfl (Nat.le_of_ble_eq_true rfl) dX3_barePlaces_36 (ws' := wWr T w h u) rfl ?_
        refine g_iadd hX dX3_barePlaces_39 ?_
        refine g_istore_n hX (lv' := [(1, .int (e + (F_X4_oneIf 1))), (5, .int (u.2 j)), (4, .int (nI j)), (2, .ref h), (3, .int 12), (0, .ref w)]) dX3_barePlaces_40 rfl (by decide) rfl ?_
        refine g_iinc hX (lv' := [(4, .int (nI (j + 1))), (1, .int (e + (F_X4_oneIf 1))), (5, .int (u.2 j)), (2, .ref h), (3, .int 12), (0, .ref w)]) (v := (nI (j + 1))) 2 dX3_barePlaces_41 rfl (nI_1 _) (by decide) rfl ?_
        refine g_goto hX 13 dX3_barePlaces_44 (by decide) ?_
        have e9 : K_X3_barePlaces_13 (n + 1) u j e = K_X3_barePlaces_13 n u (j + 1) (e + (F_X4_oneIf 1)) := by simp only [K_X3_barePlaces_13, eq_false c_16, eq_true c_28, if_true, if_false]
        rw [e9]
        refine g_lv (lv' := [(4, .int (nI (j + 1))), (1, .int (e + (F_X4_oneIf 1))), (2, .ref h), (3, .int 12), (0, .ref w)]) [0, 1, 3, 4, 5] rfl ?_
        exact ih u (j + 1) (e + (F_X4_oneIf 1)) (by omega) (by omega)
set_option maxHeartbeats 4000000 in
set_option maxRecDepth 100000 in
theorem c_X3_barePlaces (l : Launch) (T : TT) (b0 : Nat) (w h : Nat) (u : WV)  : ConI l T b0 yX3_barePlaces wsX3_barePlaces rmX3_barePlaces [.ref w] (wWr T w h u) (F_X3_barePlaces u) (wWr T w h u) := by
  refine conI_of (cc := cX3_barePlaces) (maxL := 6) (ret := (some .int)) (lv0 := [(0, .ref w)]) (by decide +kernel) rfl (Nat.le_of_ble_eq_true rfl) rfl (fun X hX => ?_)
  refine g_iconst hX (v := 0) dX3_barePlaces_0 (by decide) ?_
  refine g_istore_n hX (lv' := [(1, .int 0), (0, .ref w)]) dX3_barePlaces_1 rfl (by decide) rfl ?_
  refine g_aload_n hX dX3_barePlaces_2 rfl 1 rfl ?_
  refine g_get hX 3 h_X3_barePlaces_X3 0 rfl rfl 0 (by decide) k_X3_barePlaces_0 rfl (v := .ref h) rfl dX3_barePlaces_3 ?_
  refine g_astore_n hX (lv' := [(2, .ref h), (1, .int 0), (0, .ref w)]) dX3_barePlaces_6 rfl (by decide) rfl ?_
  refine g_aload_n hX dX3_barePlaces_7 rfl 0 rfl ?_
  refine g_alen hX 1 0 rfl rfl (v := 12) rfl dX3_barePlaces_8 ?_
  refine g_istore_n hX (lv' := [(3, .int 12), (2, .ref h), (1, .int 0), (0, .ref w)]) dX3_barePlaces_9 rfl (by decide) rfl ?_
  refine g_iconst hX (v := 0) dX3_barePlaces_10 (by decide) ?_
  refine g_istore hX (lv' := [(4, .int 0), (3, .int 12), (2, .ref h), (1, .int 0), (0, .ref w)]) dX3_barePlaces_11 (by decide) rfl ?_
  have e9 : F_X3_barePlaces u = K_X3_barePlaces_13 13 u 0 0 := by simp only [F_X3_barePlaces, if_true, if_false]
  rw [e9]
  refine g_lv (lv' := [(4, .int (nI 0)), (1, .int 0), (2, .ref h), (3, .int 12), (0, .ref w)]) [0, 3, 2, 1, 4] rfl ?_
  exact k_X3_barePlaces_13 hX w h 13 u 0 0 (by omega) (by omega)
