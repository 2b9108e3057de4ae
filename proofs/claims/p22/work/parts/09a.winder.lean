/-! X4_finishAct -/
def rmX4_finishAct : Room := { frames := 4, cells := 0, slots := 0, locals := 104 }
theorem k_X4_finishAct_0 : Cond.fieldLink RX4 32 RX4 (TX4 4).2.1 (TX4 4).2.2.1 ∈ wsX4_finishAct := List.mem_of_getElem? (i := 1) rfl
theorem h_X4_finishAct_X4 : ∀ w ∈ u_ws RX4 TX4 8, w ∈ wsX4_finishAct := fun w h => List.mem_cons_of_mem _ (List.mem_append_left _ (List.mem_append_left _ (List.mem_append_left _ (List.mem_append_right _ h))))
theorem k_X4_finishAct_1 : Cond.fieldLink RX4 12 RX4 (TX4 0).2.1 (TX4 0).2.2.1 ∈ wsX4_finishAct := List.mem_of_getElem? (i := 2) rfl
theorem k_X4_finishAct_4 : Cond.initialized RX1 ∈ wsX4_finishAct := List.mem_of_getElem? (i := 5) rfl
theorem k_X4_finishAct_3 : Cond.instanceMethod yX1_remember ∈ wsX4_finishAct := List.mem_of_getElem? (i := 4) rfl
theorem k_X4_finishAct_5 : Cond.selects RX1 yX1_remember yX1_remember ∈ wsX4_finishAct := List.mem_of_getElem? (i := 6) rfl
theorem k_X4_finishAct_2 : Cond.fieldLink RX4 16 RX4 (TX4 1).2.1 (TX4 1).2.2.1 ∈ wsX4_finishAct := List.mem_of_getElem? (i := 3) rfl
theorem k_X4_finishAct_19 : Cond.initialized RX2 ∈ wsX4_finishAct := List.mem_of_getElem? (i := 20) rfl
theorem k_X4_finishAct_18 : Cond.instanceMethod yX2_copyFrom ∈ wsX4_finishAct := List.mem_of_getElem? (i := 19) rfl
theorem k_X4_finishAct_20 : Cond.selects RX2 yX2_copyFrom yX2_copyFrom ∈ wsX4_finishAct := List.mem_of_getElem? (i := 21) rfl
def F_X4_finishAct (xv : XV) (p1 : Int32) : Int32 × XV :=
  (if p1 < 0 then (p1, xv) else (let z_12 := F_X1_remember xv.2.2.2.2.2.1 xv.2.1
  (p1, (xv.1, xv.2.2.1, xv.2.2.1, xv.2.2.2.1, xv.2.2.2.2.1, z_12, xv.2.2.2.2.2.2))))
set_option maxHeartbeats 4000000 in
set_option maxRecDepth 100000 in
theorem c_X4_finishAct (l : Launch) (T : TT) (b0 : Nat) (ad : Nat → Nat) (xv : XV) (p1 : Int32) (hx : xWF xv) : ConI l T b0 yX4_finishAct wsX4_finishAct rmX4_finishAct [.ref (ad 0), .int p1] (wXX T ad xv) ((F_X4_finishAct xv p1).1) (wXX T ad ((F_X4_finishAct xv p1).2)) := by
  refine conI_of (cc := cX4_finishAct) (maxL := 2) (ret := (some .int)) (lv0 := [(0, .ref (ad 0)), (1, .int p1)]) (by decide +kernel) rfl (Nat.le_of_ble_eq_true rfl) rfl (fun X hX => ?_)
  refine g_iload_n hX dX4_finishAct_0 rfl 1 rfl ?_
  refine g_if_lt hX 26 dX4_finishAct_1 (by decide) (fun c_1 => ?_) (fun c_1 => ?_)
  · skip
    refine g_iload_n hX dX4_finishAct_26 rfl 1 rfl ?_
    have e9 : F_X4_finishAct xv p1 = (p1, xv) := by simp only [F_X4_finishAct, eq_true c_1, if_true, if_false]
    rw [e9]
    exact g_iret hX dX4_finishAct_27 rfl rfl
  · skip
    refine g_aload_n hX dX4_finishAct_4 rfl 0 rfl ?_
    refine g_get hX 4 h_X4_finishAct_X4 0 rfl rfl 4 (by decide) k_X4_finishAct_0 rfl (v := .ref (ad 18)) rfl dX4_finishAct_5 ?_
    refine g_aload_n hX dX4_finishAct_8 rfl 0 rfl ?_
    refine g_get hX 4 h_X4_finishAct_X4 0 rfl rfl 0 (by decide) k_X4_finishAct_1 rfl (v := .ref (ad 1)) rfl dX4_finishAct_9 ?_
    obtain ⟨z_12, hz_12⟩ : ∃ z : HV, z = F_X1_remember xv.2.2.2.2.2.1 xv.2.1 := ⟨_, rfl⟩
    refine g_perm (pm_51 _ _ _ _ _ _ _) ?_
    refine g_pVN_V hX (n := 1) (As := [.ref (ad 1)]) (wc := wHi T ad xv.2.2.2.2.2.1 ++ wSt T (ad 1) (ad 2) (ad 3) (ad 4) (ad 5) xv.2.1) (w1 := wHi T ad z_12 ++ wSt T (ad 1) (ad 2) (ad 3) (ad 4) (ad 5) xv.2.1) (st := []) 0 rfl rfl (by rw [hz_12]; exact (c_X1_remember (xL X) T (xB X) ad (ad 1) (ad 2) (ad 3) (ad 4) (ad 5) xv.2.2.2.2.2.1 xv.2.1 hx.1 hx.2.2.2.2)) ggX4_finishAct_X1_remember 24 rfl k_X4_finishAct_4 k_X4_finishAct_3 k_X4_finishAct_5 rfl rfl rfl ⟨Nat.le_of_ble_eq_true rfl, Nat.le_of_ble_eq_true rfl⟩ ⟨Nat.zero_le _, Nat.zero_le _⟩ ⟨by decide +kernel, by decide +kernel, by decide +kernel⟩ rfl rfl rfl rfl (Nat.le_of_ble_eq_true rfl) dX4_finishAct_12 rfl ?_
    refine g_perm (pm_51 _ _ _ _ _ _ _).symm ?_
    refine g_cast (ws' := wXX T ad (xv.1, xv.2.1, xv.2.2.1, xv.2.2.2.1, xv.2.2.2.2.1, z_12, xv.2.2.2.2.2.2)) rfl ?_
    refine g_aload_n hX dX4_finishAct_15 rfl 0 rfl ?_
    refine g_get hX 4 h_X4_finishAct_X4 0 rfl rfl 0 (by decide) k_X4_finishAct_1 rfl (v := .ref (ad 1)) rfl dX4_finishAct_16 ?_
    refine g_aload_n hX dX4_finishAct_19 rfl 0 rfl ?_
    refine g_get hX 4 h_X4_finishAct_X4 0 rfl rfl 1 (by decide) k_X4_finishAct_2 rfl (v := .ref (ad 6)) rfl dX4_finishAct_20 ?_
    refine g_perm (pm_12 _ _ _ _ _ _ _) ?_
    refine g_pVN_V hX (n := 1) (As := [.ref (ad 6)]) (wc := wSt T (ad 1) (ad 2) (ad 3) (ad 4) (ad 5) xv.2.1 ++ wSt T (ad 6) (ad 7) (ad 8) (ad 9) (ad 10) xv.2.2.1) (w1 := wSt T (ad 1) (ad 2) (ad 3) (ad 4) (ad 5) xv.2.2.1 ++ wSt T (ad 6) (ad 7) (ad 8) (ad 9) (ad 10) xv.2.2.1) (st := []) 0 rfl rfl (c_X2_copyFrom (xL X) T (xB X) (ad 1) (ad 2) (ad 3) (ad 4) (ad 5) (ad 6) (ad 7) (ad 8) (ad 9) (ad 10) xv.2.1 xv.2.2.1 hx.2.1) ggX4_finishAct_X2_copyFrom 20 rfl k_X4_finishAct_19 k_X4_finishAct_18 k_X4_finishAct_20 rfl rfl rfl ⟨Nat.le_of_ble_eq_true rfl, Nat.le_of_ble_eq_true rfl⟩ ⟨Nat.zero_le _, Nat.zero_le _⟩ ⟨by decide +kernel, by decide +kernel, by decide +kernel⟩ rfl rfl rfl rfl (Nat.le_of_ble_eq_true rfl) dX4_finishAct_23 rfl ?_
    refine g_perm (pm_12 _ _ _ _ _ _ _).symm ?_
    refine g_cast (ws' := wXX T ad (xv.1, xv.2.2.1, xv.2.2.1, xv.2.2.2.1, xv.2.2.2.2.1, z_12, xv.2.2.2.2.2.2)) rfl ?_
    refine g_iload_n hX dX4_finishAct_26 rfl 1 rfl ?_
    have e9 : F_X4_finishAct xv p1 = (p1, (xv.1, xv.2.2.1, xv.2.2.1, xv.2.2.2.1, xv.2.2.2.2.1, z_12, xv.2.2.2.2.2.2)) := by simp only [F_X4_finishAct, ← hz_12, eq_false c_1, if_true, if_false]
    rw [e9]
    exact g_iret hX dX4_finishAct_27 rfl rfl
/-! X4_set -/
def rmX4_set : Room := { frames := 5, cells := 0, slots := 0, locals := 125 }
theorem k_X4_set_0 : Cond.fieldLink RX4 16 RX4 (TX4 1).2.1 (TX4 1).2.2.1 ∈ wsX4_set := List.mem_of_getElem? (i := 1) rfl
theorem h_X4_set_X4 : ∀ w ∈ u_ws RX4 TX4 8, w ∈ wsX4_set := fun w h => List.mem_cons_of_mem _ (List.mem_append_left _ (List.mem_append_left _ (List.mem_append_left _ (List.mem_append_right _ h))))
theorem k_X4_set_1 : Cond.fieldLink RX4 12 RX4 (TX4 0).2.1 (TX4 0).2.2.1 ∈ wsX4_set := List.mem_of_getElem? (i := 2) rfl
theorem k_X4_set_3 : Cond.initialized RX2 ∈ wsX4_set := List.mem_of_getElem? (i := 4) rfl
theorem k_X4_set_2 : Cond.instanceMethod yX2_copyFrom ∈ wsX4_set := List.mem_of_getElem? (i := 3) rfl
theorem k_X4_set_4 : Cond.selects RX2 yX2_copyFrom yX2_copyFrom ∈ wsX4_set := List.mem_of_getElem? (i := 5) rfl
theorem k_X4_set_30 : Cond.instanceMethod yX2_changeNumber ∈ wsX4_set := List.mem_of_getElem? (i := 31) rfl
theorem k_X4_set_31 : Cond.selects RX2 yX2_changeNumber yX2_changeNumber ∈ wsX4_set := List.mem_of_getElem? (i := 32) rfl
def F_X4_set (xv : XV) (p1 : Int32) (p2 : Int32) : Int32 × XV :=
  (let z_18 := F_X2_changeNumber xv.2.1 p1 p2
  (let z_21 := F_X4_finishAct (xv.1, xv.2.1, z_18.2, xv.2.2.2.1, xv.2.2.2.2.1, xv.2.2.2.2.2.1, xv.2.2.2.2.2.2) z_18.1
  (z_21.1, z_21.2)))
set_option maxHeartbeats 4000000 in
set_option maxRecDepth 100000 in
theorem c_X4_set (l : Launch) (T : TT) (b0 : Nat) (ad : Nat → Nat) (xv : XV) (p1 : Int32) (p2 : Int32) (hx : xWF xv) : ConI l T b0 yX4_set wsX4_set rmX4_set [.ref (ad 0), .int p1, .int p2] (wXX T ad xv) ((F_X4_set xv p1 p2).1) (wXX T ad ((F_X4_set xv p1 p2).2)) := by
  refine conI_of (cc := cX4_set) (maxL := 3) (ret := (some .int)) (lv0 := [(0, .ref (ad 0)), (1, .int p1), (2, .int p2)]) (by decide +kernel) rfl (Nat.le_of_ble_eq_true rfl) rfl (fun X hX => ?_)
  refine g_aload_n hX dX4_set_0 rfl 0 rfl ?_
  refine g_get hX 4 h_X4_set_X4 0 rfl rfl 1 (by decide) k_X4_set_0 rfl (v := .ref (ad 6)) rfl dX4_set_1 ?_
  refine g_aload_n hX dX4_set_4 rfl 0 rfl ?_
  refine g_get hX 4 h_X4_set_X4 0 rfl rfl 0 (by decide) k_X4_set_1 rfl (v := .ref (ad 1)) rfl dX4_set_5 ?_
  refine g_perm (pm_21 _ _ _ _ _ _ _) ?_
  refine g_pVN_V hX (n := 1) (As := [.ref (ad 1)]) (wc := wSt T (ad 6) (ad 7) (ad 8) (ad 9) (ad 10) xv.2.2.1 ++ wSt T (ad 1) (ad 2) (ad 3) (ad 4) (ad 5) xv.2.1) (w1 := wSt T (ad 6) (ad 7) (ad 8) (ad 9) (ad 10) xv.2.1 ++ wSt T (ad 1) (ad 2) (ad 3) (ad 4) (ad 5) xv.2.1) (st := []) 0 rfl rfl (c_X2_copyFrom (xL X) T (xB X) (ad 6) (ad 7) (ad 8) (ad 9) (ad 10) (ad 1) (ad 2) (ad 3) (ad 4) (ad 5) xv.2.2.1 xv.2.1 hx.1) ggX4_set_X2_copyFrom 20 rfl k_X4_set_3 k_X4_set_2 k_X4_set_4 rfl rfl rfl ⟨Nat.le_of_ble_eq_true rfl, Nat.le_of_ble_eq_true rfl⟩ ⟨Nat.zero_le _, Nat.zero_le _⟩ ⟨by decide +kernel, by decide +kernel, by decide +kernel⟩ rfl rfl rfl rfl (Nat.le_of_ble_eq_true rfl) dX4_set_8 rfl ?_
  refine g_perm (pm_21 _ _ _ _ _ _ _).symm ?_
  refine g_cast (ws' := wXX T ad (xv.1, xv.2.1, xv.2.1, xv.2.2.2.1, xv.2.2.2.2.1, xv.2.2.2.2.2.1, xv.2.2.2.2.2.2)) rfl ?_
  refine g_aload_n hX dX4_set_11 rfl 0 rfl ?_
  refine g_aload_n hX dX4_set_12 rfl 0 rfl ?_
  refine g_get hX 4 h_X4_set_X4 0 rfl rfl 1 (by decide) k_X4_set_0 rfl (v := .ref (ad 6)) rfl dX4_set_13 ?_
  refine g_iload_n hX dX4_set_16 rfl 1 rfl ?_
  refine g_iload_n hX dX4_set_17 rfl 2 rfl ?_
  obtain ⟨z_18, hz_18⟩ : ∃ z : Int32 × SV, z = F_X2_changeNumber xv.2.1 p1 p2 := ⟨_, rfl⟩
  refine g_perm (pm_2 _ _ _ _ _ _ _) ?_
  refine g_pVN_I hX (n := 2) (As := [.int p1, .int p2]) (wc := wSt T (ad 6) (ad 7) (ad 8) (ad 9) (ad 10) xv.2.1) (w1 := wSt T (ad 6) (ad 7) (ad 8) (ad 9) (ad 10) z_18.2) (rv := z_18.1) (st := [.ref (ad 0)]) 0 rfl rfl (by rw [hz_18]; exact (c_X2_changeNumber (xL X) T (xB X) (ad 6) (ad 7) (ad 8) (ad 9) (ad 10) xv.2.1 p1 p2)) ggX4_set_X2_changeNumber 22 rfl k_X4_set_3 k_X4_set_30 k_X4_set_31 rfl rfl rfl ⟨Nat.le_of_ble_eq_true rfl, Nat.le_of_ble_eq_true rfl⟩ ⟨Nat.zero_le _, Nat.zero_le _⟩ ⟨by decide +kernel, by decide +kernel, by decide +kernel⟩ rfl rfl rfl rfl (Nat.le_of_ble_eq_true rfl) dX4_set_18 rfl ?_
  refine g_perm (pm_2 _ _ _ _ _ _ _).symm ?_
  refine g_cast (ws' := wXX T ad (xv.1, xv.2.1, z_18.2, xv.2.2.2.1, xv.2.2.2.2.1, xv.2.2.2.2.2.1, xv.2.2.2.2.2.2)) rfl ?_
  obtain ⟨z_21, hz_21⟩ : ∃ z : Int32 × XV, z = F_X4_finishAct (xv.1, xv.2.1, z_18.2, xv.2.2.2.1, xv.2.2.2.2.1, xv.2.2.2.2.2.1, xv.2.2.2.2.2.2) z_18.1 := ⟨_, rfl⟩
  refine g_pV_I hX (rest := []) (n := 1) (As := [.int z_18.1]) (wc := wXX T ad (xv.1, xv.2.1, z_18.2, xv.2.2.2.1, xv.2.2.2.2.1, xv.2.2.2.2.2.1, xv.2.2.2.2.2.2)) (w1 := wXX T ad z_21.2) (rv := z_21.1) (st := []) 0 rfl rfl (by rw [hz_21]; exact (c_X4_finishAct (xL X) T (xB X) ad (xv.1, xv.2.1, z_18.2, xv.2.2.2.1, xv.2.2.2.2.1, xv.2.2.2.2.2.1, xv.2.2.2.2.2.2) z_18.1 (xWF_tr (xv := xv) hx (by rw [hz_18]; exact sB_changeNumber hx.1)))) gX4_set_X4_finishAct rfl rfl rfl ⟨Nat.le_of_ble_eq_true rfl, Nat.le_of_ble_eq_true rfl⟩ ⟨Nat.zero_le _, Nat.zero_le _⟩ ⟨by decide +kernel, by decide +kernel, by decide +kernel⟩ rfl (List.append_nil _).symm rfl rfl (Nat.le_of_ble_eq_true rfl) dX4_set_21 (List.append_nil _) ?_
  have e9 : F_X4_set xv p1 p2 = (z_21.1, z_21.2) := by simp only [F_X4_set, ← hz_18, ← hz_21, if_true, if_false]
  rw [e9]
  exact g_iret hX dX4_set_24 rfl rfl
