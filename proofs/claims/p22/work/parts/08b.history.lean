/-! remember, next = 0 -/
def rmX1_remember : Room := { frames := 3, cells := 0, slots := 0, locals := 82 }
theorem k_X1_remember_0 : Cond.fieldLink RX1 17 RX1 (TX1 1).2.1 (TX1 1).2.2.1 ∈ wsX1_remember := List.mem_of_getElem? (i := 1) rfl
theorem h_X1_remember_X1 : ∀ w ∈ u_ws RX1 TX1 3, w ∈ wsX1_remember := fun w h => List.mem_cons_of_mem _ (List.mem_append_left _ (List.mem_append_left _ (List.mem_append_right _ h)))
theorem k_X1_remember_13 : Cond.initialized RX2 ∈ wsX1_remember := List.mem_of_getElem? (i := 14) rfl
theorem k_X1_remember_12 : Cond.instanceMethod yX2_copyFrom ∈ wsX1_remember := List.mem_of_getElem? (i := 13) rfl
theorem k_X1_remember_14 : Cond.selects RX2 yX2_copyFrom yX2_copyFrom ∈ wsX1_remember := List.mem_of_getElem? (i := 15) rfl
theorem k_X1_remember_1 : Cond.fieldLink RX1 21 RX1 (TX1 2).2.1 (TX1 2).2.2.1 ∈ wsX1_remember := List.mem_of_getElem? (i := 2) rfl
theorem k_X1_remember_2 : Cond.methodLink RX1 33 Lib.Math.min.name ∈ wsX1_remember := List.mem_of_getElem? (i := 3) rfl
theorem k_X1_remember_3 : Cond.static Lib.Math.min.name ∈ wsX1_remember := List.mem_of_getElem? (i := 4) rfl
theorem k_X1_remember_4 : Cond.initialized "java/lang/Math" ∈ wsX1_remember := List.mem_of_getElem? (i := 5) rfl
theorem k_X1_remember_5 : Cond.code Lib.Math.min.name Lib.Math.min.code 2 (some .int) ∈ wsX1_remember := List.mem_of_getElem? (i := 6) rfl
def F_X1_remember_0 (v : HV) (u : SV) : HV :=
  (upd (upd v.1 0 1) 1 (if 4 < ((v.1 1) + 1) then 4 else ((v.1 1) + 1)), updS v.2 0 u)
set_option maxHeartbeats 4000000 in
set_option maxRecDepth 100000 in
theorem c_X1_remember_0 (l : Launch) (T : TT) (b0 : Nat) (ad : Nat → Nat) (a2 w2 h2 k2 d2 : Nat) (v : HV) (u : SV) (hb : u.1 2 = 0 ∨ u.1 2 = 1) (hn : v.1 0 = 0) : ConV l T b0 yX1_remember wsX1_remember rmX1_remember [.ref (ad 18), .ref a2] (wHi T ad v ++ wSt T a2 w2 h2 k2 d2 u) (wHi T ad (F_X1_remember_0 v u) ++ wSt T a2 w2 h2 k2 d2 u) := by
  refine conV_of (cc := cX1_remember) (maxL := 3) (ret := none) (lv0 := [(0, .ref (ad 18)), (1, .ref a2)]) (by decide +kernel) rfl (Nat.le_of_ble_eq_true rfl) rfl (fun X hX => ?_)
  refine g_aload_n hX dX1_remember_0 rfl 0 rfl ?_
  refine g_aload_n hX dX1_remember_1 rfl 0 rfl ?_
  refine g_get hX 1 h_X1_remember_X1 0 rfl rfl 1 (by decide) k_X1_remember_0 rfl (v := .int 0) (by show some (Value.int (v.1 0)) = _; rw [hn]) dX1_remember_2 ?_
  refine g_cV_R hX (n := 1) (As := [.int 0]) (wc := wHh T ad v.1) (w1 := wHh T ad v.1) (ra := ad 20) (st := []) 0 rfl rfl (c_X1_stateAt (xL X) T (xB X) ad v.1 0 0 (by decide) (by omega)) gX1_remember_X1_stateAt rfl rfl rfl ⟨Nat.le_of_ble_eq_true rfl, Nat.le_of_ble_eq_true rfl⟩ ⟨Nat.zero_le _, Nat.zero_le _⟩ ⟨by decide +kernel, by decide +kernel, by decide +kernel⟩ rfl [0, 1] rfl rfl (by decide) rfl (Nat.le_of_ble_eq_true rfl) dX1_remember_5 (ws' := wHi T ad v ++ wSt T a2 w2 h2 k2 d2 u) rfl ?_
  refine g_astore_n hX (lv' := [(2, .ref (ad 20)), (0, .ref (ad 18)), (1, .ref a2)]) dX1_remember_8 rfl (by decide) rfl ?_
  refine g_aload_n hX dX1_remember_9 rfl 0 rfl ?_
  refine g_ifnull hX dX1_remember_10 ?_
  refine g_aload_n hX dX1_remember_13 rfl 0 rfl ?_
  refine g_aload_n hX dX1_remember_14 rfl 2 rfl ?_
  refine g_cVN_V hX (n := 1) (As := [.ref a2]) (wc := wSt T (ad 20) (ad 21) (ad 22) (ad 23) (ad 24) (v.2 0) ++ wSt T a2 w2 h2 k2 d2 u) (w1 := wSt T (ad 20) (ad 21) (ad 22) (ad 23) (ad 24) u ++ wSt T a2 w2 h2 k2 d2 u) (st := []) 2 rfl rfl (c_X2_copyFrom (xL X) T (xB X) (ad 20) (ad 21) (ad 22) (ad 23) (ad 24) a2 w2 h2 k2 d2 (v.2 0) u hb) ggX1_remember_X2_copyFrom 25 rfl k_X1_remember_13 k_X1_remember_12 k_X1_remember_14 rfl rfl rfl ⟨Nat.le_of_ble_eq_true rfl, Nat.le_of_ble_eq_true rfl⟩ ⟨Nat.zero_le _, Nat.zero_le _⟩ ⟨by decide +kernel, by decide +kernel, by decide +kernel⟩ rfl [2, 3, 4, 5, 6, 22, 23, 24, 25, 26] rfl rfl (by decide) rfl (Nat.le_of_ble_eq_true rfl) dX1_remember_15 (ws' := wHi T ad (v.1, updS v.2 0 u) ++ wSt T a2 w2 h2 k2 d2 u) rfl ?_
  refine g_aload_n hX dX1_remember_18 rfl 1 rfl ?_
  refine g_aload_n hX dX1_remember_19 rfl 1 rfl ?_
  refine g_get hX 1 h_X1_remember_X1 0 rfl rfl 1 (by decide) k_X1_remember_0 rfl (v := .int 0) (by show some (Value.int (v.1 0)) = _; rw [hn]) dX1_remember_20 ?_
  refine g_iconst hX (v := 1) dX1_remember_23 (by decide) ?_
  refine g_iadd hX dX1_remember_24 ?_
  rw [show (0 + 1 : Int32) = 1 from by decide]
  refine g_iconst hX (v := 4) dX1_remember_25 (by decide) ?_
  refine g_irem hX dX1_remember_26 (by decide) ?_
  rw [show (1 - 1 / 4 * 4 : Int32) = 1 from by decide]
  refine g_put hX 1 h_X1_remember_X1 0 rfl rfl 1 (by decide) tyX1 tyX1_ok nmX1 k_X1_remember_0 rfl rfl rfl rfl rfl (Nat.le_of_ble_eq_true rfl) dX1_remember_27 (ws' := wHi T ad (upd v.1 0 1, updS v.2 0 u) ++ wSt T a2 w2 h2 k2 d2 u) rfl ?_
  refine g_aload_n hX dX1_remember_30 rfl 1 rfl ?_
  refine g_aload_n hX dX1_remember_31 rfl 1 rfl ?_
  refine g_get hX 1 h_X1_remember_X1 0 rfl rfl 2 (by decide) k_X1_remember_1 rfl (v := .int (v.1 1)) rfl dX1_remember_32 ?_
  refine g_iconst hX (v := 1) dX1_remember_35 (by decide) ?_
  refine g_iadd hX dX1_remember_36 ?_
  refine g_iconst hX (v := 4) dX1_remember_37 (by decide) ?_
  refine g_mmin hX k_X1_remember_2 k_X1_remember_3 k_X1_remember_4 k_X1_remember_5 (Nat.le_of_ble_eq_true rfl) (Nat.le_of_ble_eq_true rfl) (Nat.zero_le _) (Nat.zero_le _) dX1_remember_38 ?_
  refine g_put hX 1 h_X1_remember_X1 0 rfl rfl 2 (by decide) tyX1 tyX1_ok nmX1 k_X1_remember_1 rfl rfl rfl rfl rfl (Nat.le_of_ble_eq_true rfl) dX1_remember_41 (ws' := wHi T ad (upd (upd v.1 0 1) 1 (if 4 < ((v.1 1) + 1) then 4 else ((v.1 1) + 1)), updS v.2 0 u) ++ wSt T a2 w2 h2 k2 d2 u) rfl ?_
  have e9 : F_X1_remember_0 v u = (upd (upd v.1 0 1) 1 (if 4 < ((v.1 1) + 1) then 4 else ((v.1 1) + 1)), updS v.2 0 u) := by simp only [F_X1_remember_0, if_true, if_false]
  rw [e9]
  exact g_vret hX dX1_remember_44 rfl
/-! remember, next = 1 -/
def F_X1_remember_1 (v : HV) (u : SV) : HV :=
  (upd (upd v.1 0 2) 1 (if 4 < ((v.1 1) + 1) then 4 else ((v.1 1) + 1)), updS v.2 1 u)
set_option maxHeartbeats 4000000 in
set_option maxRecDepth 100000 in
theorem c_X1_remember_1 (l : Launch) (T : TT) (b0 : Nat) (ad : Nat → Nat) (a2 w2 h2 k2 d2 : Nat) (v : HV) (u : SV) (hb : u.1 2 = 0 ∨ u.1 2 = 1) (hn : v.1 0 = 1) : ConV l T b0 yX1_remember wsX1_remember rmX1_remember [.ref (ad 18), .ref a2] (wHi T ad v ++ wSt T a2 w2 h2 k2 d2 u) (wHi T ad (F_X1_remember_1 v u) ++ wSt T a2 w2 h2 k2 d2 u) := by
  refine conV_of (cc := cX1_remember) (maxL := 3) (ret := none) (lv0 := [(0, .ref (ad 18)), (1, .ref a2)]) (by decide +kernel) rfl (Nat.le_of_ble_eq_true rfl) rfl (fun X hX => ?_)
  refine g_aload_n hX dX1_remember_0 rfl 0 rfl ?_
  refine g_aload_n hX dX1_remember_1 rfl 0 rfl ?_
  refine g_get hX 1 h_X1_remember_X1 0 rfl rfl 1 (by decide) k_X1_remember_0 rfl (v := .int 1) (by show some (Value.int (v.1 0)) = _; rw [hn]) dX1_remember_2 ?_
  refine g_cV_R hX (n := 1) (As := [.int 1]) (wc := wHh T ad v.1) (w1 := wHh T ad v.1) (ra := ad 25) (st := []) 0 rfl rfl (c_X1_stateAt (xL X) T (xB X) ad v.1 1 1 (by decide) (by omega)) gX1_remember_X1_stateAt rfl rfl rfl ⟨Nat.le_of_ble_eq_true rfl, Nat.le_of_ble_eq_true rfl⟩ ⟨Nat.zero_le _, Nat.zero_le _⟩ ⟨by decide +kernel, by decide +kernel, by decide +kernel⟩ rfl [0, 1] rfl rfl (by decide) rfl (Nat.le_of_ble_eq_true rfl) dX1_remember_5 (ws' := wHi T ad v ++ wSt T a2 w2 h2 k2 d2 u) rfl ?_
  refine g_astore_n hX (lv' := [(2, .ref (ad 25)), (0, .ref (ad 18)), (1, .ref a2)]) dX1_remember_8 rfl (by decide) rfl ?_
  refine g_aload_n hX dX1_remember_9 rfl 0 rfl ?_
  refine g_ifnull hX dX1_remember_10 ?_
  refine g_aload_n hX dX1_remember_13 rfl 0 rfl ?_
  refine g_aload_n hX dX1_remember_14 rfl 2 rfl ?_
  refine g_cVN_V hX (n := 1) (As := [.ref a2]) (wc := wSt T (ad 25) (ad 26) (ad 27) (ad 28) (ad 29) (v.2 1) ++ wSt T a2 w2 h2 k2 d2 u) (w1 := wSt T (ad 25) (ad 26) (ad 27) (ad 28) (ad 29) u ++ wSt T a2 w2 h2 k2 d2 u) (st := []) 7 rfl rfl (c_X2_copyFrom (xL X) T (xB X) (ad 25) (ad 26) (ad 27) (ad 28) (ad 29) a2 w2 h2 k2 d2 (v.2 1) u hb) ggX1_remember_X2_copyFrom 25 rfl k_X1_remember_13 k_X1_remember_12 k_X1_remember_14 rfl rfl rfl ⟨Nat.le_of_ble_eq_true rfl, Nat.le_of_ble_eq_true rfl⟩ ⟨Nat.zero_le _, Nat.zero_le _⟩ ⟨by decide +kernel, by decide +kernel, by decide +kernel⟩ rfl [7, 8, 9, 10, 11, 22, 23, 24, 25, 26] rfl rfl (by decide) rfl (Nat.le_of_ble_eq_true rfl) dX1_remember_15 (ws' := wHi T ad (v.1, updS v.2 1 u) ++ wSt T a2 w2 h2 k2 d2 u) rfl ?_
  refine g_aload_n hX dX1_remember_18 rfl 1 rfl ?_
  refine g_aload_n hX dX1_remember_19 rfl 1 rfl ?_
  refine g_get hX 1 h_X1_remember_X1 0 rfl rfl 1 (by decide) k_X1_remember_0 rfl (v := .int 1) (by show some (Value.int (v.1 0)) = _; rw [hn]) dX1_remember_20 ?_
  refine g_iconst hX (v := 1) dX1_remember_23 (by decide) ?_
  refine g_iadd hX dX1_remember_24 ?_
  rw [show (1 + 1 : Int32) = 2 from by decide]
  refine g_iconst hX (v := 4) dX1_remember_25 (by decide) ?_
  refine g_irem hX dX1_remember_26 (by decide) ?_
  rw [show (2 - 2 / 4 * 4 : Int32) = 2 from by decide]
  refine g_put hX 1 h_X1_remember_X1 0 rfl rfl 1 (by decide) tyX1 tyX1_ok nmX1 k_X1_remember_0 rfl rfl rfl rfl rfl (Nat.le_of_ble_eq_true rfl) dX1_remember_27 (ws' := wHi T ad (upd v.1 0 2, updS v.2 1 u) ++ wSt T a2 w2 h2 k2 d2 u) rfl ?_
  refine g_aload_n hX dX1_remember_30 rfl 1 rfl ?_
  refine g_aload_n hX dX1_remember_31 rfl 1 rfl ?_
  refine g_get hX 1 h_X1_remember_X1 0 rfl rfl 2 (by decide) k_X1_remember_1 rfl (v := .int (v.1 1)) rfl dX1_remember_32 ?_
  refine g_iconst hX (v := 1) dX1_remember_35 (by decide) ?_
  refine g_iadd hX dX1_remember_36 ?_
  refine g_iconst hX (v := 4) dX1_remember_37 (by decide) ?_
  refine g_mmin hX k_X1_remember_2 k_X1_remember_3 k_X1_remember_4 k_X1_remember_5 (Nat.le_of_ble_eq_true rfl) (Nat.le_of_ble_eq_true rfl) (Nat.zero_le _) (Nat.zero_le _) dX1_remember_38 ?_
  refine g_put hX 1 h_X1_remember_X1 0 rfl rfl 2 (by decide) tyX1 tyX1_ok nmX1 k_X1_remember_1 rfl rfl rfl rfl rfl (Nat.le_of_ble_eq_true rfl) dX1_remember_41 (ws' := wHi T ad (upd (upd v.1 0 2) 1 (if 4 < ((v.1 1) + 1) then 4 else ((v.1 1) + 1)), updS v.2 1 u) ++ wSt T a2 w2 h2 k2 d2 u) rfl ?_
  have e9 : F_X1_remember_1 v u = (upd (upd v.1 0 2) 1 (if 4 < ((v.1 1) + 1) then 4 else ((v.1 1) + 1)), updS v.2 1 u) := by simp only [F_X1_remember_1, if_true, if_false]
  rw [e9]
  exact g_vret hX dX1_remember_44 rfl
/-! remember, next = 2 -/
def F_X1_remember_2 (v : HV) (u : SV) : HV :=
  (upd (upd v.1 0 3) 1 (if 4 < ((v.1 1) + 1) then 4 else ((v.1 1) + 1)), updS v.2 2 u)
set_option maxHeartbeats 4000000 in
set_option maxRecDepth 100000 in
theorem c_X1_remember_2 (l : Launch) (T : TT) (b0 : Nat) (ad : Nat → Nat) (a2 w2 h2 k2 d2 : Nat) (v : HV) (u : SV) (hb : u.1 2 = 0 ∨ u.1 2 = 1) (hn : v.1 0 = 2) : ConV l T b0 yX1_remember wsX1_remember rmX1_remember [.ref (ad 18), .ref a2] (wHi T ad v ++ wSt T a2 w2 h2 k2 d2 u) (wHi T ad (F_X1_remember_2 v u) ++ wSt T a2 w2 h2 k2 d2 u) := by
  refine conV_of (cc := cX1_remember) (maxL := 3) (ret := none) (lv0 := [(0, .ref (ad 18)), (1, .ref a2)]) (by decide +kernel) rfl (Nat.le_of_ble_eq_true rfl) rfl (fun X hX => ?_)
  refine g_aload_n hX dX1_remember_0 rfl 0 rfl ?_
  refine g_aload_n hX dX1_remember_1 rfl 0 rfl ?_
  refine g_get hX 1 h_X1_remember_X1 0 rfl rfl 1 (by decide) k_X1_remember_0 rfl (v := .int 2) (by show some (Value.int (v.1 0)) = _; rw [hn]) dX1_remember_2 ?_
  refine g_cV_R hX (n := 1) (As := [.int 2]) (wc := wHh T ad v.1) (w1 := wHh T ad v.1) (ra := ad 30) (st := []) 0 rfl rfl (c_X1_stateAt (xL X) T (xB X) ad v.1 2 2 (by decide) (by omega)) gX1_remember_X1_stateAt rfl rfl rfl ⟨Nat.le_of_ble_eq_true rfl, Nat.le_of_ble_eq_true rfl⟩ ⟨Nat.zero_le _, Nat.zero_le _⟩ ⟨by decide +kernel, by decide +kernel, by decide +kernel⟩ rfl [0, 1] rfl rfl (by decide) rfl (Nat.le_of_ble_eq_true rfl) dX1_remember_5 (ws' := wHi T ad v ++ wSt T a2 w2 h2 k2 d2 u) rfl ?_
  refine g_astore_n hX (lv' := [(2, .ref (ad 30)), (0, .ref (ad 18)), (1, .ref a2)]) dX1_remember_8 rfl (by decide) rfl ?_
  refine g_aload_n hX dX1_remember_9 rfl 0 rfl ?_
  refine g_ifnull hX dX1_remember_10 ?_
  refine g_aload_n hX dX1_remember_13 rfl 0 rfl ?_
  refine g_aload_n hX dX1_remember_14 rfl 2 rfl ?_
  refine g_cVN_V hX (n := 1) (As := [.ref a2]) (wc := wSt T (ad 30) (ad 31) (ad 32) (ad 33) (ad 34) (v.2 2) ++ wSt T a2 w2 h2 k2 d2 u) (w1 := wSt T (ad 30) (ad 31) (ad 32) (ad 33) (ad 34) u ++ wSt T a2 w2 h2 k2 d2 u) (st := []) 12 rfl rfl (c_X2_copyFrom (xL X) T (xB X) (ad 30) (ad 31) (ad 32) (ad 33) (ad 34) a2 w2 h2 k2 d2 (v.2 2) u hb) ggX1_remember_X2_copyFrom 25 rfl k_X1_remember_13 k_X1_remember_12 k_X1_remember_14 rfl rfl rfl ⟨Nat.le_of_ble_eq_true rfl, Nat.le_of_ble_eq_true rfl⟩ ⟨Nat.zero_le _, Nat.zero_le _⟩ ⟨by decide +kernel, by decide +kernel, by decide +kernel⟩ rfl [12, 13, 14, 15, 16, 22, 23, 24, 25, 26] rfl rfl (by decide) rfl (Nat.le_of_ble_eq_true rfl) dX1_remember_15 (ws' := wHi T ad (v.1, updS v.2 2 u) ++ wSt T a2 w2 h2 k2 d2 u) rfl ?_
  refine g_aload_n hX dX1_remember_18 rfl 1 rfl ?_
  refine g_aload_n hX dX1_remember_19 rfl 1 rfl ?_
  refine g_get hX 1 h_X1_remember_X1 0 rfl rfl 1 (by decide) k_X1_remember_0 rfl (v := .int 2) (by show some (Value.int (v.1 0)) = _; rw [hn]) dX1_remember_20 ?_
  refine g_iconst hX (v := 1) dX1_remember_23 (by decide) ?_
  refine g_iadd hX dX1_remember_24 ?_
  rw [show (2 + 1 : Int32) = 3 from by decide]
  refine g_iconst hX (v := 4) dX1_remember_25 (by decide) ?_
  refine g_irem hX dX1_remember_26 (by decide) ?_
  rw [show (3 - 3 / 4 * 4 : Int32) = 3 from by decide]
  refine g_put hX 1 h_X1_remember_X1 0 rfl rfl 1 (by decide) tyX1 tyX1_ok nmX1 k_X1_remember_0 rfl rfl rfl rfl rfl (Nat.le_of_ble_eq_true rfl) dX1_remember_27 (ws' := wHi T ad (upd v.1 0 3, updS v.2 2 u) ++ wSt T a2 w2 h2 k2 d2 u) rfl ?_
  refine g_aload_n hX dX1_remember_30 rfl 1 rfl ?_
  refine g_aload_n hX dX1_remember_31 rfl 1 rfl ?_
  refine g_get hX 1 h_X1_remember_X1 0 rfl rfl 2 (by decide) k_X1_remember_1 rfl (v := .int (v.1 1)) rfl dX1_remember_32 ?_
  refine g_iconst hX (v := 1) dX1_remember_35 (by decide) ?_
  refine g_iadd hX dX1_remember_36 ?_
  refine g_iconst hX (v := 4) dX1_remember_37 (by decide) ?_
  refine g_mmin hX k_X1_remember_2 k_X1_remember_3 k_X1_remember_4 k_X1_remember_5 (Nat.le_of_ble_eq_true rfl) (Nat.le_of_ble_eq_true rfl) (Nat.zero_le _) (Nat.zero_le _) dX1_remember_38 ?_
  refine g_put hX 1 h_X1_remember_X1 0 rfl rfl 2 (by decide) tyX1 tyX1_ok nmX1 k_X1_remember_1 rfl rfl rfl rfl rfl (Nat.le_of_ble_eq_true rfl) dX1_remember_41 (ws' := wHi T ad (upd (upd v.1 0 3) 1 (if 4 < ((v.1 1) + 1) then 4 else ((v.1 1) + 1)), updS v.2 2 u) ++ wSt T a2 w2 h2 k2 d2 u) rfl ?_
  have e9 : F_X1_remember_2 v u = (upd (upd v.1 0 3) 1 (if 4 < ((v.1 1) + 1) then 4 else ((v.1 1) + 1)), updS v.2 2 u) := by simp only [F_X1_remember_2, if_true, if_false]
  rw [e9]
  exact g_vret hX dX1_remember_44 rfl
/-! remember, next = 3 -/
def F_X1_remember_3 (v : HV) (u : SV) : HV :=
  (upd (upd v.1 0 0) 1 (if 4 < ((v.1 1) + 1) then 4 else ((v.1 1) + 1)), updS v.2 3 u)
set_option maxHeartbeats 4000000 in
set_option maxRecDepth 100000 in
theorem c_X1_remember_3 (l : Launch) (T : TT) (b0 : Nat) (ad : Nat → Nat) (a2 w2 h2 k2 d2 : Nat) (v : HV) (u : SV) (hb : u.1 2 = 0 ∨ u.1 2 = 1) (hn : v.1 0 = 3) : ConV l T b0 yX1_remember wsX1_remember rmX1_remember [.ref (ad 18), .ref a2] (wHi T ad v ++ wSt T a2 w2 h2 k2 d2 u) (wHi T ad (F_X1_remember_3 v u) ++ wSt T a2 w2 h2 k2 d2 u) := by
  refine conV_of (cc := cX1_remember) (maxL := 3) (ret := none) (lv0 := [(0, .ref (ad 18)), (1, .ref a2)]) (by decide +kernel) rfl (Nat.le_of_ble_eq_true rfl) rfl (fun X hX => ?_)
  refine g_aload_n hX dX1_remember_0 rfl 0 rfl ?_
  refine g_aload_n hX dX1_remember_1 rfl 0 rfl ?_
  refine g_get hX 1 h_X1_remember_X1 0 rfl rfl 1 (by decide) k_X1_remember_0 rfl (v := .int 3) (by show some (Value.int (v.1 0)) = _; rw [hn]) dX1_remember_2 ?_
  refine g_cV_R hX (n := 1) (As := [.int 3]) (wc := wHh T ad v.1) (w1 := wHh T ad v.1) (ra := ad 35) (st := []) 0 rfl rfl (c_X1_stateAt (xL X) T (xB X) ad v.1 3 3 (by decide) (by omega)) gX1_remember_X1_stateAt rfl rfl rfl ⟨Nat.le_of_ble_eq_true rfl, Nat.le_of_ble_eq_true rfl⟩ ⟨Nat.zero_le _, Nat.zero_le _⟩ ⟨by decide +kernel, by decide +kernel, by decide +kernel⟩ rfl [0, 1] rfl rfl (by decide) rfl (Nat.le_of_ble_eq_true rfl) dX1_remember_5 (ws' := wHi T ad v ++ wSt T a2 w2 h2 k2 d2 u) rfl ?_
  refine g_astore_n hX (lv' := [(2, .ref (ad 35)), (0, .ref (ad 18)), (1, .ref a2)]) dX1_remember_8 rfl (by decide) rfl ?_
  refine g_aload_n hX dX1_remember_9 rfl 0 rfl ?_
  refine g_ifnull hX dX1_remember_10 ?_
  refine g_aload_n hX dX1_remember_13 rfl 0 rfl ?_
  refine g_aload_n hX dX1_remember_14 rfl 2 rfl ?_
  refine g_cVN_V hX (n := 1) (As := [.ref a2]) (wc := wSt T (ad 35) (ad 36) (ad 37) (ad 38) (ad 39) (v.2 3) ++ wSt T a2 w2 h2 k2 d2 u) (w1 := wSt T (ad 35) (ad 36) (ad 37) (ad 38) (ad 39) u ++ wSt T a2 w2 h2 k2 d2 u) (st := []) 17 rfl rfl (c_X2_copyFrom (xL X) T (xB X) (ad 35) (ad 36) (ad 37) (ad 38) (ad 39) a2 w2 h2 k2 d2 (v.2 3) u hb) ggX1_remember_X2_copyFrom 25 rfl k_X1_remember_13 k_X1_remember_12 k_X1_remember_14 rfl rfl rfl ⟨Nat.le_of_ble_eq_true rfl, Nat.le_of_ble_eq_true rfl⟩ ⟨Nat.zero_le _, Nat.zero_le _⟩ ⟨by decide +kernel, by decide +kernel, by decide +kernel⟩ rfl [17, 18, 19, 20, 21, 22, 23, 24, 25, 26] rfl rfl (by decide) rfl (Nat.le_of_ble_eq_true rfl) dX1_remember_15 (ws' := wHi T ad (v.1, updS v.2 3 u) ++ wSt T a2 w2 h2 k2 d2 u) rfl ?_
  refine g_aload_n hX dX1_remember_18 rfl 1 rfl ?_
  refine g_aload_n hX dX1_remember_19 rfl 1 rfl ?_
  refine g_get hX 1 h_X1_remember_X1 0 rfl rfl 1 (by decide) k_X1_remember_0 rfl (v := .int 3) (by show some (Value.int (v.1 0)) = _; rw [hn]) dX1_remember_20 ?_
  refine g_iconst hX (v := 1) dX1_remember_23 (by decide) ?_
  refine g_iadd hX dX1_remember_24 ?_
  rw [show (3 + 1 : Int32) = 4 from by decide]
  refine g_iconst hX (v := 4) dX1_remember_25 (by decide) ?_
  refine g_irem hX dX1_remember_26 (by decide) ?_
  rw [show (4 - 4 / 4 * 4 : Int32) = 0 from by decide]
  refine g_put hX 1 h_X1_remember_X1 0 rfl rfl 1 (by decide) tyX1 tyX1_ok nmX1 k_X1_remember_0 rfl rfl rfl rfl rfl (Nat.le_of_ble_eq_true rfl) dX1_remember_27 (ws' := wHi T ad (upd v.1 0 0, updS v.2 3 u) ++ wSt T a2 w2 h2 k2 d2 u) rfl ?_
  refine g_aload_n hX dX1_remember_30 rfl 1 rfl ?_
  refine g_aload_n hX dX1_remember_31 rfl 1 rfl ?_
  refine g_get hX 1 h_X1_remember_X1 0 rfl rfl 2 (by decide) k_X1_remember_1 rfl (v := .int (v.1 1)) rfl dX1_remember_32 ?_
  refine g_iconst hX (v := 1) dX1_remember_35 (by decide) ?_
  refine g_iadd hX dX1_remember_36 ?_
  refine g_iconst hX (v := 4) dX1_remember_37 (by decide) ?_
  refine g_mmin hX k_X1_remember_2 k_X1_remember_3 k_X1_remember_4 k_X1_remember_5 (Nat.le_of_ble_eq_true rfl) (Nat.le_of_ble_eq_true rfl) (Nat.zero_le _) (Nat.zero_le _) dX1_remember_38 ?_
  refine g_put hX 1 h_X1_remember_X1 0 rfl rfl 2 (by decide) tyX1 tyX1_ok nmX1 k_X1_remember_1 rfl rfl rfl rfl rfl (Nat.le_of_ble_eq_true rfl) dX1_remember_41 (ws' := wHi T ad (upd (upd v.1 0 0) 1 (if 4 < ((v.1 1) + 1) then 4 else ((v.1 1) + 1)), updS v.2 3 u) ++ wSt T a2 w2 h2 k2 d2 u) rfl ?_
  have e9 : F_X1_remember_3 v u = (upd (upd v.1 0 0) 1 (if 4 < ((v.1 1) + 1) then 4 else ((v.1 1) + 1)), updS v.2 3 u) := by simp only [F_X1_remember_3, if_true, if_false]
  rw [e9]
  exact g_vret hX dX1_remember_44 rfl
def F_X1_remember (v : HV) (u : SV) : HV := (upd (upd v.1 0 (v.1 0 + 1 - (v.1 0 + 1) / 4 * 4)) 1 (if 4 < v.1 1 + 1 then 4 else v.1 1 + 1), updS v.2 (v.1 0).toNatClampNeg u)
theorem c_X1_remember (l : Launch) (T : TT) (b0 : Nat) (ad : Nat → Nat) (a2 w2 h2 k2 d2 : Nat) (v : HV) (u : SV) (hb : u.1 2 = 0 ∨ u.1 2 = 1) (hn : ∃ j : Nat, j < 4 ∧ v.1 0 = nI j) : ConV l T b0 yX1_remember wsX1_remember rmX1_remember [.ref (ad 18), .ref a2] (wHi T ad v ++ wSt T a2 w2 h2 k2 d2 u) (wHi T ad (F_X1_remember v u) ++ wSt T a2 w2 h2 k2 d2 u) := by
  obtain ⟨j, hj, hn⟩ := hn
  have h4 : j = 0 ∨ j = 1 ∨ j = 2 ∨ j = 3 := by omega
  rcases h4 with z | z | z | z <;> subst z
  · have e : F_X1_remember v u = F_X1_remember_0 v u := by unfold F_X1_remember F_X1_remember_0; rw [hn]; rfl
    rw [e]
    exact c_X1_remember_0 l T b0 ad a2 w2 h2 k2 d2 v u hb hn
  · have e : F_X1_remember v u = F_X1_remember_1 v u := by unfold F_X1_remember F_X1_remember_1; rw [hn]; rfl
    rw [e]
    exact c_X1_remember_1 l T b0 ad a2 w2 h2 k2 d2 v u hb hn
  · have e : F_X1_remember v u = F_X1_remember_2 v u := by unfold F_X1_remember F_X1_remember_2; rw [hn]; rfl
    rw [e]
    exact c_X1_remember_2 l T b0 ad a2 w2 h2 k2 d2 v u hb hn
  · have e : F_X1_remember v u = F_X1_remember_3 v u := by unfold F_X1_remember F_X1_remember_3; rw [hn]; rfl
    rw [e]
    exact c_X1_remember_3 l T b0 ad a2 w2 h2 k2 d2 v u hb hn
