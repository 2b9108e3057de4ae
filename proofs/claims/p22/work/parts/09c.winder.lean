/-! X4_wind -/
def rmX4_wind : Room := { frames := 5, cells := 0, slots := 0, locals := 125 }
theorem k_X4_wind_0 : Cond.fieldLink RX4 16 RX4 (TX4 1).2.1 (TX4 1).2.2.1 ∈ wsX4_wind := List.mem_of_getElem? (i := 1) rfl
theorem h_X4_wind_X4 : ∀ w ∈ u_ws RX4 TX4 8, w ∈ wsX4_wind := fun w h => List.mem_cons_of_mem _ (List.mem_append_left _ (List.mem_append_left _ (List.mem_append_left _ (List.mem_append_right _ h))))
theorem k_X4_wind_1 : Cond.fieldLink RX4 12 RX4 (TX4 0).2.1 (TX4 0).2.2.1 ∈ wsX4_wind := List.mem_of_getElem? (i := 2) rfl
theorem k_X4_wind_3 : Cond.initialized RX2 ∈ wsX4_wind := List.mem_of_getElem? (i := 4) rfl
theorem k_X4_wind_2 : Cond.instanceMethod yX2_copyFrom ∈ wsX4_wind := List.mem_of_getElem? (i := 3) rfl
theorem k_X4_wind_4 : Cond.selects RX2 yX2_copyFrom yX2_copyFrom ∈ wsX4_wind := List.mem_of_getElem? (i := 5) rfl
theorem k_X4_wind_30 : Cond.instanceMethod yX2_turnOften ∈ wsX4_wind := List.mem_of_getElem? (i := 31) rfl
theorem k_X4_wind_31 : Cond.selects RX2 yX2_turnOften yX2_turnOften ∈ wsX4_wind := List.mem_of_getElem? (i := 32) rfl
def F_X4_wind (xv : XV) (p1 : Int32) : Int32 × XV :=
  (let z_17 := F_X2_turnOften xv.2.1 p1
  (let z_20 := F_X4_finishAct (xv.1, xv.2.1, z_17.2, xv.2.2.2.1, xv.2.2.2.2.1, xv.2.2.2.2.2.1, xv.2.2.2.2.2.2) z_17.1
  (z_20.1, z_20.2)))
set_option maxHeartbeats 4000000 in
set_option maxRecDepth 100000 in
theorem c_X4_wind (l : Launch) (T : TT) (b0 : Nat) (ad : Nat → Nat) (xv : XV) (p1 : Int32) (hx : xWF xv) : ConI l T b0 yX4_wind wsX4_wind rmX4_wind [.ref (ad 0), .int p1] (wXX T ad xv) ((F_X4_wind xv p1).1) (wXX T ad ((F_X4_wind xv p1).2)) := by
  refine conI_of (cc := cX4_wind) (maxL := 2) (ret := (some .int)) (lv0 := [(0, .ref (ad 0)), (1, .int p1)]) (by decide +kernel) rfl (Nat.le_of_ble_eq_true rfl) rfl (fun X hX => ?_)
  refine g_aload_n hX dX4_wind_0 rfl 0 rfl ?_
  refine g_get hX 4 h_X4_wind_X4 0 rfl rfl 1 (by decide) k_X4_wind_0 rfl (v := .ref (ad 6)) rfl dX4_wind_1 ?_
  refine g_aload_n hX dX4_wind_4 rfl 0 rfl ?_
  refine g_get hX 4 h_X4_wind_X4 0 rfl rfl 0 (by decide) k_X4_wind_1 rfl (v := .ref (ad 1)) rfl dX4_wind_5 ?_
  refine g_perm (pm_21 _ _ _ _ _ _ _) ?_
  refine g_pVN_V hX (n := 1) (As := [.ref (ad 1)]) (wc := wSt T (ad 6) (ad 7) (ad 8) (ad 9) (ad 10) xv.2.2.1 ++ wSt T (ad 1) (ad 2) (ad 3) (ad 4) (ad 5) xv.2.1) (w1 := wSt T (ad 6) (ad 7) (ad 8) (ad 9) (ad 10) xv.2.1 ++ wSt T (ad 1) (ad 2) (ad 3) (ad 4) (ad 5) xv.2.1) (st := []) 0 rfl rfl (c_X2_copyFrom (xL X) T (xB X) (ad 6) (ad 7) (ad 8) (ad 9) (ad 10) (ad 1) (ad 2) (ad 3) (ad 4) (ad 5) xv.2.2.1 xv.2.1 hx.1) ggX4_wind_X2_copyFrom 20 rfl k_X4_wind_3 k_X4_wind_2 k_X4_wind_4 rfl rfl rfl ⟨Nat.le_of_ble_eq_true rfl, Nat.le_of_ble_eq_true rfl⟩ ⟨Nat.zero_le _, Nat.zero_le _⟩ ⟨by decide +kernel, by decide +kernel, by decide +kernel⟩ rfl rfl rfl rfl (Nat.le_of_ble_eq_true rfl) dX4_wind_8 rfl ?_
  refine g_perm (pm_21 _ _ _ _ _ _ _).symm ?_
  refine g_cast (ws' := wXX T ad (xv.1, xv.2.1, xv.2.1, xv.2.2.2.1, xv.2.2.2.2.1, xv.2.2.2.2.2.1, xv.2.2.2.2.2.2)) rfl ?_
  refine g_aload_n hX dX4_wind_11 rfl 0 rfl ?_
  refine g_aload_n hX dX4_wind_12 rfl 0 rfl ?_
  refine g_get hX 4 h_X4_wind_X4 0 rfl rfl 1 (by decide) k_X4_wind_0 rfl (v := .ref (ad 6)) rfl dX4_wind_13 ?_
  refine g_iload_n hX dX4_wind_16 rfl 1 rfl ?_
  obtain ⟨z_17, hz_17⟩ : ∃ z : Int32 × SV, z = F_X2_turnOften xv.2.1 p1 := ⟨_, rfl⟩
  refine g_perm (pm_2 _ _ _ _ _ _ _) ?_
  refine g_pVN_I hX (n := 1) (As := [.int p1]) (wc := wSt T (ad 6) (ad 7) (ad 8) (ad 9) (ad 10) xv.2.1) (w1 := wSt T (ad 6) (ad 7) (ad 8) (ad 9) (ad 10) z_17.2) (rv := z_17.1) (st := [.ref (ad 0)]) 0 rfl rfl (by rw [hz_17]; exact (c_X2_turnOften (xL X) T (xB X) (ad 6) (ad 7) (ad 8) (ad 9) (ad 10) xv.2.1 p1)) ggX4_wind_X2_turnOften 26 rfl k_X4_wind_3 k_X4_wind_30 k_X4_wind_31 rfl rfl rfl ⟨Nat.le_of_ble_eq_true rfl, Nat.le_of_ble_eq_true rfl⟩ ⟨Nat.zero_le _, Nat.zero_le _⟩ ⟨by decide +kernel, by decide +kernel, by decide +kernel⟩ rfl rfl rfl rfl (Nat.le_of_ble_eq_true rfl) dX4_wind_17 rfl ?_
  refine g_perm (pm_2 _ _ _ _ _ _ _).symm ?_
  refine g_cast (ws' := wXX T ad (xv.1, xv.2.1, z_17.2, xv.2.2.2.1, xv.2.2.2.2.1, xv.2.2.2.2.2.1, xv.2.2.2.2.2.2)) rfl ?_
  obtain ⟨z_20, hz_20⟩ : ∃ z : Int32 × XV, z = F_X4_finishAct (xv.1, xv.2.1, z_17.2, xv.2.2.2.1, xv.2.2.2.2.1, xv.2.2.2.2.2.1, xv.2.2.2.2.2.2) z_17.1 := ⟨_, rfl⟩
  refine g_pV_I hX (rest := []) (n := 1) (As := [.int z_17.1]) (wc := wXX T ad (xv.1, xv.2.1, z_17.2, xv.2.2.2.1, xv.2.2.2.2.1, xv.2.2.2.2.2.1, xv.2.2.2.2.2.2)) (w1 := wXX T ad z_20.2) (rv := z_20.1) (st := []) 0 rfl rfl (by rw [hz_20]; exact (c_X4_finishAct (xL X) T (xB X) ad (xv.1, xv.2.1, z_17.2, xv.2.2.2.1, xv.2.2.2.2.1, xv.2.2.2.2.2.1, xv.2.2.2.2.2.2) z_17.1 (xWF_tr (xv := xv) hx (by rw [hz_17]; exact sB_turnOften hx.1)))) gX4_wind_X4_finishAct rfl rfl rfl ⟨Nat.le_of_ble_eq_true rfl, Nat.le_of_ble_eq_true rfl⟩ ⟨Nat.zero_le _, Nat.zero_le _⟩ ⟨by decide +kernel, by decide +kernel, by decide +kernel⟩ rfl (List.append_nil _).symm rfl rfl (Nat.le_of_ble_eq_true rfl) dX4_wind_20 (List.append_nil _) ?_
  have e9 : F_X4_wind xv p1 = (z_20.1, z_20.2) := by simp only [F_X4_wind, ← hz_17, ← hz_20, if_true, if_false]
  rw [e9]
  exact g_iret hX dX4_wind_23 rfl rfl
/-! X4_knot -/
def rmX4_knot : Room := { frames := 5, cells := 0, slots := 0, locals := 125 }
theorem k_X4_knot_0 : Cond.fieldLink RX4 16 RX4 (TX4 1).2.1 (TX4 1).2.2.1 ∈ wsX4_knot := List.mem_of_getElem? (i := 1) rfl
theorem h_X4_knot_X4 : ∀ w ∈ u_ws RX4 TX4 8, w ∈ wsX4_knot := fun w h => List.mem_cons_of_mem _ (List.mem_append_left _ (List.mem_append_left _ (List.mem_append_left _ (List.mem_append_right _ h))))
theorem k_X4_knot_1 : Cond.fieldLink RX4 12 RX4 (TX4 0).2.1 (TX4 0).2.2.1 ∈ wsX4_knot := List.mem_of_getElem? (i := 2) rfl
theorem k_X4_knot_3 : Cond.initialized RX2 ∈ wsX4_knot := List.mem_of_getElem? (i := 4) rfl
theorem k_X4_knot_2 : Cond.instanceMethod yX2_copyFrom ∈ wsX4_knot := List.mem_of_getElem? (i := 3) rfl
theorem k_X4_knot_4 : Cond.selects RX2 yX2_copyFrom yX2_copyFrom ∈ wsX4_knot := List.mem_of_getElem? (i := 5) rfl
theorem k_X4_knot_30 : Cond.instanceMethod yX2_tieKnot ∈ wsX4_knot := List.mem_of_getElem? (i := 31) rfl
theorem k_X4_knot_31 : Cond.selects RX2 yX2_tieKnot yX2_tieKnot ∈ wsX4_knot := List.mem_of_getElem? (i := 32) rfl
def F_X4_knot (xv : XV) : Int32 × XV :=
  (let z_16 := F_X2_tieKnot xv.2.1
  (let z_19 := F_X4_finishAct (xv.1, xv.2.1, z_16.2, xv.2.2.2.1, xv.2.2.2.2.1, xv.2.2.2.2.2.1, xv.2.2.2.2.2.2) z_16.1
  (z_19.1, z_19.2)))
set_option maxHeartbeats 4000000 in
set_option maxRecDepth 100000 in
theorem c_X4_knot (l : Launch) (T : TT) (b0 : Nat) (ad : Nat → Nat) (xv : XV) (hx : xWF xv) : ConI l T b0 yX4_knot wsX4_knot rmX4_knot [.ref (ad 0)] (wXX T ad xv) ((F_X4_knot xv).1) (wXX T ad ((F_X4_knot xv).2)) := by
  refine conI_of (cc := cX4_knot) (maxL := 1) (ret := (some .int)) (lv0 := [(0, .ref (ad 0))]) (by decide +kernel) rfl (Nat.le_of_ble_eq_true rfl) rfl (fun X hX => ?_)
  refine g_aload_n hX dX4_knot_0 rfl 0 rfl ?_
  refine g_get hX 4 h_X4_knot_X4 0 rfl rfl 1 (by decide) k_X4_knot_0 rfl (v := .ref (ad 6)) rfl dX4_knot_1 ?_
  refine g_aload_n hX dX4_knot_4 rfl 0 rfl ?_
  refine g_get hX 4 h_X4_knot_X4 0 rfl rfl 0 (by decide) k_X4_knot_1 rfl (v := .ref (ad 1)) rfl dX4_knot_5 ?_
  refine g_perm (pm_21 _ _ _ _ _ _ _) ?_
  refine g_pVN_V hX (n := 1) (As := [.ref (ad 1)]) (wc := wSt T (ad 6) (ad 7) (ad 8) (ad 9) (ad 10) xv.2.2.1 ++ wSt T (ad 1) (ad 2) (ad 3) (ad 4) (ad 5) xv.2.1) (w1 := wSt T (ad 6) (ad 7) (ad 8) (ad 9) (ad 10) xv.2.1 ++ wSt T (ad 1) (ad 2) (ad 3) (ad 4) (ad 5) xv.2.1) (st := []) 0 rfl rfl (c_X2_copyFrom (xL X) T (xB X) (ad 6) (ad 7) (ad 8) (ad 9) (ad 10) (ad 1) (ad 2) (ad 3) (ad 4) (ad 5) xv.2.2.1 xv.2.1 hx.1) ggX4_knot_X2_copyFrom 20 rfl k_X4_knot_3 k_X4_knot_2 k_X4_knot_4 rfl rfl rfl ⟨Nat.le_of_ble_eq_true rfl, Nat.le_of_ble_eq_true rfl⟩ ⟨Nat.zero_le _, Nat.zero_le _⟩ ⟨by decide +kernel, by decide +kernel, by decide +kernel⟩ rfl rfl rfl rfl (Nat.le_of_ble_eq_true rfl) dX4_knot_8 rfl ?_
  refine g_perm (pm_21 _ _ _ _ _ _ _).symm ?_
  refine g_cast (ws' := wXX T ad (xv.1, xv.2.1, xv.2.1, xv.2.2.2.1, xv.2.2.2.2.1, xv.2.2.2.2.2.1, xv.2.2.2.2.2.2)) rfl ?_
  refine g_aload_n hX dX4_knot_11 rfl 0 rfl ?_
  refine g_aload_n hX dX4_knot_12 rfl 0 rfl ?_
  refine g_get hX 4 h_X4_knot_X4 0 rfl rfl 1 (by decide) k_X4_knot_0 rfl (v := .ref (ad 6)) rfl dX4_knot_13 ?_
  obtain ⟨z_16, hz_16⟩ : ∃ z : Int32 × SV, z = F_X2_tieKnot xv.2.1 := ⟨_, rfl⟩
  refine g_perm (pm_2 _ _ _ _ _ _ _) ?_
  refine g_pVN_I hX (n := 0) (As := []) (wc := wSt T (ad 6) (ad 7) (ad 8) (ad 9) (ad 10) xv.2.1) (w1 := wSt T (ad 6) (ad 7) (ad 8) (ad 9) (ad 10) z_16.2) (rv := z_16.1) (st := [.ref (ad 0)]) 0 rfl rfl (by rw [hz_16]; exact (c_X2_tieKnot (xL X) T (xB X) (ad 6) (ad 7) (ad 8) (ad 9) (ad 10) xv.2.1)) ggX4_knot_X2_tieKnot 33 rfl k_X4_knot_3 k_X4_knot_30 k_X4_knot_31 rfl rfl rfl ⟨Nat.le_of_ble_eq_true rfl, Nat.le_of_ble_eq_true rfl⟩ ⟨Nat.zero_le _, Nat.zero_le _⟩ ⟨by decide +kernel, by decide +kernel, by decide +kernel⟩ rfl rfl rfl rfl (Nat.le_of_ble_eq_true rfl) dX4_knot_16 rfl ?_
  refine g_perm (pm_2 _ _ _ _ _ _ _).symm ?_
  refine g_cast (ws' := wXX T ad (xv.1, xv.2.1, z_16.2, xv.2.2.2.1, xv.2.2.2.2.1, xv.2.2.2.2.2.1, xv.2.2.2.2.2.2)) rfl ?_
  obtain ⟨z_19, hz_19⟩ : ∃ z : Int32 × XV, z = F_X4_finishAct (xv.1, xv.2.1, z_16.2, xv.2.2.2.1, xv.2.2.2.2.1, xv.2.2.2.2.2.1, xv.2.2.2.2.2.2) z_16.1 := ⟨_, rfl⟩
  refine g_pV_I hX (rest := []) (n := 1) (As := [.int z_16.1]) (wc := wXX T ad (xv.1, xv.2.1, z_16.2, xv.2.2.2.1, xv.2.2.2.2.1, xv.2.2.2.2.2.1, xv.2.2.2.2.2.2)) (w1 := wXX T ad z_19.2) (rv := z_19.1) (st := []) 0 rfl rfl (by rw [hz_19]; exact (c_X4_finishAct (xL X) T (xB X) ad (xv.1, xv.2.1, z_16.2, xv.2.2.2.1, xv.2.2.2.2.1, xv.2.2.2.2.2.1, xv.2.2.2.2.2.2) z_16.1 (xWF_tr (xv := xv) hx (by rw [hz_16]; exact sB_tieKnot hx.1)))) gX4_knot_X4_finishAct rfl rfl rfl ⟨Nat.le_of_ble_eq_true rfl, Nat.le_of_ble_eq_true rfl⟩ ⟨Nat.zero_le _, Nat.zero_le _⟩ ⟨by decide +kernel, by decide +kernel, by decide +kernel⟩ rfl (List.append_nil _).symm rfl rfl (Nat.le_of_ble_eq_true rfl) dX4_knot_19 (List.append_nil _) ?_
  have e9 : F_X4_knot xv = (z_19.1, z_19.2) := by simp only [F_X4_knot, ← hz_16, ← hz_19, if_true, if_false]
  rw [e9]
  exact g_iret hX dX4_knot_22 rfl rfl
/-! X4_cone -/
def rmX4_cone : Room := { frames := 5, cells := 0, slots := 0, locals := 125 }
theorem k_X4_cone_0 : Cond.fieldLink RX4 16 RX4 (TX4 1).2.1 (TX4 1).2.2.1 ∈ wsX4_cone := List.mem_of_getElem? (i := 1) rfl
theorem h_X4_cone_X4 : ∀ w ∈ u_ws RX4 TX4 8, w ∈ wsX4_cone := fun w h => List.mem_cons_of_mem _ (List.mem_append_left _ (List.mem_append_left _ (List.mem_append_left _ (List.mem_append_right _ h))))
theorem k_X4_cone_1 : Cond.fieldLink RX4 12 RX4 (TX4 0).2.1 (TX4 0).2.2.1 ∈ wsX4_cone := List.mem_of_getElem? (i := 2) rfl
theorem k_X4_cone_3 : Cond.initialized RX2 ∈ wsX4_cone := List.mem_of_getElem? (i := 4) rfl
theorem k_X4_cone_2 : Cond.instanceMethod yX2_copyFrom ∈ wsX4_cone := List.mem_of_getElem? (i := 3) rfl
theorem k_X4_cone_4 : Cond.selects RX2 yX2_copyFrom yX2_copyFrom ∈ wsX4_cone := List.mem_of_getElem? (i := 5) rfl
theorem k_X4_cone_30 : Cond.instanceMethod yX2_changeCone ∈ wsX4_cone := List.mem_of_getElem? (i := 31) rfl
theorem k_X4_cone_31 : Cond.selects RX2 yX2_changeCone yX2_changeCone ∈ wsX4_cone := List.mem_of_getElem? (i := 32) rfl
def F_X4_cone (xv : XV) (p1 : Int32) : Int32 × XV :=
  (let z_17 := F_X2_changeCone xv.2.1 p1
  (let z_20 := F_X4_finishAct (xv.1, xv.2.1, z_17.2, xv.2.2.2.1, xv.2.2.2.2.1, xv.2.2.2.2.2.1, xv.2.2.2.2.2.2) z_17.1
  (z_20.1, z_20.2)))
set_option maxHeartbeats 4000000 in
set_option maxRecDepth 100000 in
theorem c_X4_cone (l : Launch) (T : TT) (b0 : Nat) (ad : Nat → Nat) (xv : XV) (p1 : Int32) (hx : xWF xv) : ConI l T b0 yX4_cone wsX4_cone rmX4_cone [.ref (ad 0), .int p1] (wXX T ad xv) ((F_X4_cone xv p1).1) (wXX T ad ((F_X4_cone xv p1).2)) := by
  refine conI_of (cc := cX4_cone) (maxL := 2) (ret := (some .int)) (lv0 := [(0, .ref (ad 0)), (1, .int p1)]) (by decide +kernel) rfl (Nat.le_of_ble_eq_true rfl) rfl (fun X hX => ?_)
  refine g_aload_n hX dX4_cone_0 rfl 0 rfl ?_
  refine g_get hX 4 h_X4_cone_X4 0 rfl rfl 1 (by decide) k_X4_cone_0 rfl (v := .ref (ad 6)) rfl dX4_cone_1 ?_
  refine g_aload_n hX dX4_cone_4 rfl 0 rfl ?_
  refine g_get hX 4 h_X4_cone_X4 0 rfl rfl 0 (by decide) k_X4_cone_1 rfl (v := .ref (ad 1)) rfl dX4_cone_5 ?_
  refine g_perm (pm_21 _ _ _ _ _ _ _) ?_
  refine g_pVN_V hX (n := 1) (As := [.ref (ad 1)]) (wc := wSt T (ad 6) (ad 7) (ad 8) (ad 9) (ad 10) xv.2.2.1 ++ wSt T (ad 1) (ad 2) (ad 3) (ad 4) (ad 5) xv.2.1) (w1 := wSt T (ad 6) (ad 7) (ad 8) (ad 9) (ad 10) xv.2.1 ++ wSt T (ad 1) (ad 2) (ad 3) (ad 4) (ad 5) xv.2.1) (st := []) 0 rfl rfl (c_X2_copyFrom (xL X) T (xB X) (ad 6) (ad 7) (ad 8) (ad 9) (ad 10) (ad 1) (ad 2) (ad 3) (ad 4) (ad 5) xv.2.2.1 xv.2.1 hx.1) ggX4_cone_X2_copyFrom 20 rfl k_X4_cone_3 k_X4_cone_2 k_X4_cone_4 rfl rfl rfl ⟨Nat.le_of_ble_eq_true rfl, Nat.le_of_ble_eq_true rfl⟩ ⟨Nat.zero_le _, Nat.zero_le _⟩ ⟨by decide +kernel, by decide +kernel, by decide +kernel⟩ rfl rfl rfl rfl (Nat.le_of_ble_eq_true rfl) dX4_cone_8 rfl ?_
  refine g_perm (pm_21 _ _ _ _ _ _ _).symm ?_
  refine g_cast (ws' := wXX T ad (xv.1, xv.2.1, xv.2.1, xv.2.2.2.1, xv.2.2.2.2.1, xv.2.2.2.2.2.1, xv.2.2.2.2.2.2)) rfl ?_
  refine g_aload_n hX dX4_cone_11 rfl 0 rfl ?_
  refine g_aload_n hX dX4_cone_12 rfl 0 rfl ?_
  refine g_get hX 4 h_X4_cone_X4 0 rfl rfl 1 (by decide) k_X4_cone_0 rfl (v := .ref (ad 6)) rfl dX4_cone_13 ?_
  refine g_iload_n hX dX4_cone_16 rfl 1 rfl ?_
  obtain ⟨z_17, hz_17⟩ : ∃ z : Int32 × SV, z = F_X2_changeCone xv.2.1 p1 := ⟨_, rfl⟩
  refine g_perm (pm_2 _ _ _ _ _ _ _) ?_
  refine g_pVN_I hX (n := 1) (As := [.int p1]) (wc := wSt T (ad 6) (ad 7) (ad 8) (ad 9) (ad 10) xv.2.1) (w1 := wSt T (ad 6) (ad 7) (ad 8) (ad 9) (ad 10) z_17.2) (rv := z_17.1) (st := [.ref (ad 0)]) 0 rfl rfl (by rw [hz_17]; exact (c_X2_changeCone (xL X) T (xB X) (ad 6) (ad 7) (ad 8) (ad 9) (ad 10) xv.2.1 p1)) ggX4_cone_X2_changeCone 34 rfl k_X4_cone_3 k_X4_cone_30 k_X4_cone_31 rfl rfl rfl ⟨Nat.le_of_ble_eq_true rfl, Nat.le_of_ble_eq_true rfl⟩ ⟨Nat.zero_le _, Nat.zero_le _⟩ ⟨by decide +kernel, by decide +kernel, by decide +kernel⟩ rfl rfl rfl rfl (Nat.le_of_ble_eq_true rfl) dX4_cone_17 rfl ?_
  refine g_perm (pm_2 _ _ _ _ _ _ _).symm ?_
  refine g_cast (ws' := wXX T ad (xv.1, xv.2.1, z_17.2, xv.2.2.2.1, xv.2.2.2.2.1, xv.2.2.2.2.2.1, xv.2.2.2.2.2.2)) rfl ?_
  obtain ⟨z_20, hz_20⟩ : ∃ z : Int32 × XV, z = F_X4_finishAct (xv.1, xv.2.1, z_17.2, xv.2.2.2.1, xv.2.2.2.2.1, xv.2.2.2.2.2.1, xv.2.2.2.2.2.2) z_17.1 := ⟨_, rfl⟩
  refine g_pV_I hX (rest := []) (n := 1) (As := [.int z_17.1]) (wc := wXX T ad (xv.1, xv.2.1, z_17.2, xv.2.2.2.1, xv.2.2.2.2.1, xv.2.2.2.2.2.1, xv.2.2.2.2.2.2)) (w1 := wXX T ad z_20.2) (rv := z_20.1) (st := []) 0 rfl rfl (by rw [hz_20]; exact (c_X4_finishAct (xL X) T (xB X) ad (xv.1, xv.2.1, z_17.2, xv.2.2.2.1, xv.2.2.2.2.1, xv.2.2.2.2.2.1, xv.2.2.2.2.2.2) z_17.1 (xWF_tr (xv := xv) hx (by rw [hz_17]; exact sB_changeCone hx.1)))) gX4_cone_X4_finishAct rfl rfl rfl ⟨Nat.le_of_ble_eq_true rfl, Nat.le_of_ble_eq_true rfl⟩ ⟨Nat.zero_le _, Nat.zero_le _⟩ ⟨by decide +kernel, by decide +kernel, by decide +kernel⟩ rfl (List.append_nil _).symm rfl rfl (Nat.le_of_ble_eq_true rfl) dX4_cone_20 (List.append_nil _) ?_
  have e9 : F_X4_cone xv p1 = (z_20.1, z_20.2) := by simp only [F_X4_cone, ← hz_17, ← hz_20, if_true, if_false]
  rw [e9]
  exact g_iret hX dX4_cone_23 rfl rfl
/-! X4_doff -/
def rmX4_doff : Room := { frames := 5, cells := 0, slots := 0, locals := 125 }
theorem k_X4_doff_0 : Cond.fieldLink RX4 16 RX4 (TX4 1).2.1 (TX4 1).2.2.1 ∈ wsX4_doff := List.mem_of_getElem? (i := 1) rfl
theorem h_X4_doff_X4 : ∀ w ∈ u_ws RX4 TX4 8, w ∈ wsX4_doff := fun w h => List.mem_cons_of_mem _ (List.mem_append_left _ (List.mem_append_left _ (List.mem_append_left _ (List.mem_append_right _ h))))
theorem k_X4_doff_1 : Cond.fieldLink RX4 12 RX4 (TX4 0).2.1 (TX4 0).2.2.1 ∈ wsX4_doff := List.mem_of_getElem? (i := 2) rfl
theorem k_X4_doff_3 : Cond.initialized RX2 ∈ wsX4_doff := List.mem_of_getElem? (i := 4) rfl
theorem k_X4_doff_2 : Cond.instanceMethod yX2_copyFrom ∈ wsX4_doff := List.mem_of_getElem? (i := 3) rfl
theorem k_X4_doff_4 : Cond.selects RX2 yX2_copyFrom yX2_copyFrom ∈ wsX4_doff := List.mem_of_getElem? (i := 5) rfl
theorem k_X4_doff_30 : Cond.instanceMethod yX2_takePackageOff ∈ wsX4_doff := List.mem_of_getElem? (i := 31) rfl
theorem k_X4_doff_31 : Cond.selects RX2 yX2_takePackageOff yX2_takePackageOff ∈ wsX4_doff := List.mem_of_getElem? (i := 32) rfl
def F_X4_doff (xv : XV) : Int32 × XV :=
  (let z_16 := F_X2_takePackageOff xv.2.1
  (let z_19 := F_X4_finishAct (xv.1, xv.2.1, z_16.2, xv.2.2.2.1, xv.2.2.2.2.1, xv.2.2.2.2.2.1, xv.2.2.2.2.2.2) z_16.1
  (z_19.1, z_19.2)))
set_option maxHeartbeats 4000000 in
set_option maxRecDepth 100000 in
theorem c_X4_doff (l : Launch) (T : TT) (b0 : Nat) (ad : Nat → Nat) (xv : XV) (hx : xWF xv) : ConI l T b0 yX4_doff wsX4_doff rmX4_doff [.ref (ad 0)] (wXX T ad xv) ((F_X4_doff xv).1) (wXX T ad ((F_X4_doff xv).2)) := by
  refine conI_of (cc := cX4_doff) (maxL := 1) (ret := (some .int)) (lv0 := [(0, .ref (ad 0))]) (by decide +kernel) rfl (Nat.le_of_ble_eq_true rfl) rfl (fun X hX => ?_)
  refine g_aload_n hX dX4_doff_0 rfl 0 rfl ?_
  refine g_get hX 4 h_X4_doff_X4 0 rfl rfl 1 (by decide) k_X4_doff_0 rfl (v := .ref (ad 6)) rfl dX4_doff_1 ?_
  refine g_aload_n hX dX4_doff_4 rfl 0 rfl ?_
  refine g_get hX 4 h_X4_doff_X4 0 rfl rfl 0 (by decide) k_X4_doff_1 rfl (v := .ref (ad 1)) rfl dX4_doff_5 ?_
  refine g_perm (pm_21 _ _ _ _ _ _ _) ?_
  refine g_pVN_V hX (n := 1) (As := [.ref (ad 1)]) (wc := wSt T (ad 6) (ad 7) (ad 8) (ad 9) (ad 10) xv.2.2.1 ++ wSt T (ad 1) (ad 2) (ad 3) (ad 4) (ad 5) xv.2.1) (w1 := wSt T (ad 6) (ad 7) (ad 8) (ad 9) (ad 10) xv.2.1 ++ wSt T (ad 1) (ad 2) (ad 3) (ad 4) (ad 5) xv.2.1) (st := []) 0 rfl rfl (c_X2_copyFrom (xL X) T (xB X) (ad 6) (ad 7) (ad 8) (ad 9) (ad 10) (ad 1) (ad 2) (ad 3) (ad 4) (ad 5) xv.2.2.1 xv.2.1 hx.1) ggX4_doff_X2_copyFrom 20 rfl k_X4_doff_3 k_X4_doff_2 k_X4_doff_4 rfl rfl rfl ⟨Nat.le_of_ble_eq_true rfl, Nat.le_of_ble_eq_true rfl⟩ ⟨Nat.zero_le _, Nat.zero_le _⟩ ⟨by decide +kernel, by decide +kernel, by decide +kernel⟩ rfl rfl rfl rfl (Nat.le_of_ble_eq_true rfl) dX4_doff_8 rfl ?_
  refine g_perm (pm_21 _ _ _ _ _ _ _).symm ?_
  refine g_cast (ws' := wXX T ad (xv.1, xv.2.1, xv.2.1, xv.2.2.2.1, xv.2.2.2.2.1, xv.2.2.2.2.2.1, xv.2.2.2.2.2.2)) rfl ?_
  refine g_aload_n hX dX4_doff_11 rfl 0 rfl ?_
  refine g_aload_n hX dX4_doff_12 rfl 0 rfl ?_
  refine g_get hX 4 h_X4_doff_X4 0 rfl rfl 1 (by decide) k_X4_doff_0 rfl (v := .ref (ad 6)) rfl dX4_doff_13 ?_
  obtain ⟨z_16, hz_16⟩ : ∃ z : Int32 × SV, z = F_X2_takePackageOff xv.2.1 := ⟨_, rfl⟩
  refine g_perm (pm_2 _ _ _ _ _ _ _) ?_
  refine g_pVN_I hX (n := 0) (As := []) (wc := wSt T (ad 6) (ad 7) (ad 8) (ad 9) (ad 10) xv.2.1) (w1 := wSt T (ad 6) (ad 7) (ad 8) (ad 9) (ad 10) z_16.2) (rv := z_16.1) (st := [.ref (ad 0)]) 0 rfl rfl (by rw [hz_16]; exact (c_X2_takePackageOff (xL X) T (xB X) (ad 6) (ad 7) (ad 8) (ad 9) (ad 10) xv.2.1)) ggX4_doff_X2_takePackageOff 35 rfl k_X4_doff_3 k_X4_doff_30 k_X4_doff_31 rfl rfl rfl ⟨Nat.le_of_ble_eq_true rfl, Nat.le_of_ble_eq_true rfl⟩ ⟨Nat.zero_le _, Nat.zero_le _⟩ ⟨by decide +kernel, by decide +kernel, by decide +kernel⟩ rfl rfl rfl rfl (Nat.le_of_ble_eq_true rfl) dX4_doff_16 rfl ?_
  refine g_perm (pm_2 _ _ _ _ _ _ _).symm ?_
  refine g_cast (ws' := wXX T ad (xv.1, xv.2.1, z_16.2, xv.2.2.2.1, xv.2.2.2.2.1, xv.2.2.2.2.2.1, xv.2.2.2.2.2.2)) rfl ?_
  obtain ⟨z_19, hz_19⟩ : ∃ z : Int32 × XV, z = F_X4_finishAct (xv.1, xv.2.1, z_16.2, xv.2.2.2.1, xv.2.2.2.2.1, xv.2.2.2.2.2.1, xv.2.2.2.2.2.2) z_16.1 := ⟨_, rfl⟩
  refine g_pV_I hX (rest := []) (n := 1) (As := [.int z_16.1]) (wc := wXX T ad (xv.1, xv.2.1, z_16.2, xv.2.2.2.1, xv.2.2.2.2.1, xv.2.2.2.2.2.1, xv.2.2.2.2.2.2)) (w1 := wXX T ad z_19.2) (rv := z_19.1) (st := []) 0 rfl rfl (by rw [hz_19]; exact (c_X4_finishAct (xL X) T (xB X) ad (xv.1, xv.2.1, z_16.2, xv.2.2.2.1, xv.2.2.2.2.1, xv.2.2.2.2.2.1, xv.2.2.2.2.2.2) z_16.1 (xWF_tr (xv := xv) hx (by rw [hz_16]; exact sB_takePackageOff hx.1)))) gX4_doff_X4_finishAct rfl rfl rfl ⟨Nat.le_of_ble_eq_true rfl, Nat.le_of_ble_eq_true rfl⟩ ⟨Nat.zero_le _, Nat.zero_le _⟩ ⟨by decide +kernel, by decide +kernel, by decide +kernel⟩ rfl (List.append_nil _).symm rfl rfl (Nat.le_of_ble_eq_true rfl) dX4_doff_19 (List.append_nil _) ?_
  have e9 : F_X4_doff xv = (z_19.1, z_19.2) := by simp only [F_X4_doff, ← hz_16, ← hz_19, if_true, if_false]
  rw [e9]
  exact g_iret hX dX4_doff_22 rfl rfl
/-! X4_place -/
def rmX4_place : Room := { frames := 3, cells := 0, slots := 0, locals := 66 }
theorem k_X4_place_0 : Cond.fieldLink RX4 12 RX4 (TX4 0).2.1 (TX4 0).2.2.1 ∈ wsX4_place := List.mem_of_getElem? (i := 1) rfl
theorem h_X4_place_X4 : ∀ w ∈ u_ws RX4 TX4 8, w ∈ wsX4_place := fun w h => List.mem_cons_of_mem _ (List.mem_append_left _ (List.mem_append_left _ (List.mem_append_right _ h)))
theorem h_X4_place_X2 : ∀ w ∈ u_ws RX2 TX2 11, w ∈ wsX4_place := fun w h => List.mem_cons_of_mem _ (List.mem_append_left _ (List.mem_append_right _ h))
theorem k_X4_place_2 : Cond.initialized RX3 ∈ wsX4_place := List.mem_of_getElem? (i := 3) rfl
theorem k_X4_place_1 : Cond.instanceMethod yX3_heightAt ∈ wsX4_place := List.mem_of_getElem? (i := 2) rfl
theorem k_X4_place_3 : Cond.selects RX3 yX3_heightAt yX3_heightAt ∈ wsX4_place := List.mem_of_getElem? (i := 4) rfl
theorem k_X4_place_7 : Cond.initialized RX2 ∈ wsX4_place := List.mem_of_getElem? (i := 8) rfl
theorem k_X4_place_6 : Cond.instanceMethod yX2_knotsAt ∈ wsX4_place := List.mem_of_getElem? (i := 7) rfl
theorem k_X4_place_8 : Cond.selects RX2 yX2_knotsAt yX2_knotsAt ∈ wsX4_place := List.mem_of_getElem? (i := 9) rfl
theorem k_X4_place_11 : Cond.instanceMethod yX3_isRibbon ∈ wsX4_place := List.mem_of_getElem? (i := 12) rfl
theorem k_X4_place_12 : Cond.selects RX3 yX3_isRibbon yX3_isRibbon ∈ wsX4_place := List.mem_of_getElem? (i := 13) rfl
theorem k_X4_place_23 : Cond.instanceMethod yX2_isBad ∈ wsX4_place := List.mem_of_getElem? (i := 24) rfl
theorem k_X4_place_24 : Cond.selects RX2 yX2_isBad yX2_isBad ∈ wsX4_place := List.mem_of_getElem? (i := 25) rfl
def F_X4_place (xv : XV) (p1 : Int32) (p2 : Int32) : Int32 :=
  (if p1 < 0 then (-1) else (if p1 < 12 then (if p2 = 0 then (F_X3_heightAt xv.2.1.2.1 p1) else (if p2 = 1 then (F_X2_knotsAt xv.2.1 p1) else (if p2 = 2 then (F_X4_oneIf (F_X3_isRibbon xv.2.1.2.1 p1)) else (if p2 = 3 then (F_X4_oneIf (F_X2_isBad xv.2.1 p1)) else (-2))))) else (-1)))
set_option maxHeartbeats 4000000 in
set_option maxRecDepth 100000 in
theorem c_X4_place (l : Launch) (T : TT) (b0 : Nat) (ad : Nat → Nat) (xv : XV) (p1 : Int32) (p2 : Int32)  : ConI l T b0 yX4_place wsX4_place rmX4_place [.ref (ad 0), .int p1, .int p2] (wXX T ad xv) (F_X4_place xv p1 p2) (wXX T ad xv) := by
  refine conI_of (cc := cX4_place) (maxL := 3) (ret := (some .int)) (lv0 := [(0, .ref (ad 0)), (1, .int p1), (2, .int p2)]) (by decide +kernel) rfl (Nat.le_of_ble_eq_true rfl) rfl (fun X hX => ?_)
  refine g_iload_n hX dX4_place_0 rfl 1 rfl ?_
  refine g_if_lt hX 10 dX4_place_1 (by decide) (fun c_1 => ?_) (fun c_1 => ?_)
  · skip
    refine g_iconst hX (v := (-1)) dX4_place_10 (by decide) ?_
    have e9 : F_X4_place xv p1 p2 = (-1) := by simp only [F_X4_place, eq_true c_1, if_true, if_false]
    rw [e9]
    exact g_iret hX dX4_place_11 rfl rfl
  · skip
    refine g_iload_n hX dX4_place_4 rfl 1 rfl ?_
    refine g_bipush hX (v := 12) dX4_place_5 (by decide) ?_
    refine g_icmp_lt hX 12 dX4_place_7 (by decide) (fun c_7 => ?_) (fun c_7 => ?_)
    · skip
      refine g_iload_n hX dX4_place_12 rfl 2 rfl ?_
      by_cases c_13_0 : p2 = 0
      · skip
        refine g_tabIn hX (off := 31) 44 dX4_place_13 (by rw [c_13_0]; decide) (by rw [c_13_0]; decide) (by rw [c_13_0]; decide) (by decide) ?_
        refine g_aload_n hX dX4_place_44 rfl 0 rfl ?_
        refine g_get hX 4 h_X4_place_X4 0 rfl rfl 0 (by decide) k_X4_place_0 rfl (v := .ref (ad 1)) rfl dX4_place_45 ?_
        refine g_getN hX 2 h_X4_place_X2 1 rfl rfl 0 (by decide) 3 rfl rfl (v := .ref (ad 2)) rfl dX4_place_48 ?_
        refine g_iload_n hX dX4_place_51 rfl 1 rfl ?_
        refine g_cVN_I hX (n := 1) (As := [.int p1]) (wc := wWr T (ad 2) (ad 3) xv.2.1.2.1) (w1 := wWr T (ad 2) (ad 3) xv.2.1.2.1) (rv := (F_X3_heightAt xv.2.1.2.1 p1)) (st := []) 2 rfl rfl (c_X3_heightAt (xL X) T (xB X) (ad 2) (ad 3) xv.2.1.2.1 p1) ggX4_place_X3_heightAt 46 rfl k_X4_place_2 k_X4_place_1 k_X4_place_3 rfl rfl rfl ⟨Nat.le_of_ble_eq_true rfl, Nat.le_of_ble_eq_true rfl⟩ ⟨Nat.zero_le _, Nat.zero_le _⟩ ⟨by decide +kernel, by decide +kernel, by decide +kernel⟩ rfl [2, 3] rfl rfl (by decide) rfl (Nat.le_of_ble_eq_true rfl) dX4_place_52 (ws' := wXX T ad xv) rfl ?_
        have e9 : F_X4_place xv p1 p2 = (F_X3_heightAt xv.2.1.2.1 p1) := by simp only [F_X4_place, eq_false c_1, eq_true c_7, eq_true c_13_0, if_true, if_false]
        rw [e9]
        exact g_iret hX dX4_place_55 rfl rfl
      · skip
        by_cases c_13_1 : p2 = 1
        · skip
          refine g_tabIn hX (off := 43) 56 dX4_place_13 (by rw [c_13_1]; decide) (by rw [c_13_1]; decide) (by rw [c_13_1]; decide) (by decide) ?_
          refine g_aload_n hX dX4_place_56 rfl 0 rfl ?_
          refine g_get hX 4 h_X4_place_X4 0 rfl rfl 0 (by decide) k_X4_place_0 rfl (v := .ref (ad 1)) rfl dX4_place_57 ?_
          refine g_iload_n hX dX4_place_60 rfl 1 rfl ?_
          refine g_perm (pm_1 _ _ _ _ _ _ _) ?_
          refine g_pVN_I hX (n := 1) (As := [.int p1]) (wc := wSt T (ad 1) (ad 2) (ad 3) (ad 4) (ad 5) xv.2.1) (w1 := wSt T (ad 1) (ad 2) (ad 3) (ad 4) (ad 5) xv.2.1) (rv := (F_X2_knotsAt xv.2.1 p1)) (st := []) 0 rfl rfl (c_X2_knotsAt (xL X) T (xB X) (ad 1) (ad 2) (ad 3) (ad 4) (ad 5) xv.2.1 p1) ggX4_place_X2_knotsAt 47 rfl k_X4_place_7 k_X4_place_6 k_X4_place_8 rfl rfl rfl ⟨Nat.le_of_ble_eq_true rfl, Nat.le_of_ble_eq_true rfl⟩ ⟨Nat.zero_le _, Nat.zero_le _⟩ ⟨by decide +kernel, by decide +kernel, by decide +kernel⟩ rfl rfl rfl rfl (Nat.le_of_ble_eq_true rfl) dX4_place_61 rfl ?_
          refine g_perm (pm_1 _ _ _ _ _ _ _).symm ?_
          refine g_cast (ws' := wXX T ad xv) rfl ?_
          have e9 : F_X4_place xv p1 p2 = (F_X2_knotsAt xv.2.1 p1) := by simp only [F_X4_place, eq_false c_1, eq_true c_7, eq_false c_13_0, eq_true c_13_1, if_true, if_false]
          rw [e9]
          exact g_iret hX dX4_place_64 rfl rfl
        · skip
          by_cases c_13_2 : p2 = 2
          · skip
            refine g_tabIn hX (off := 52) 65 dX4_place_13 (by rw [c_13_2]; decide) (by rw [c_13_2]; decide) (by rw [c_13_2]; decide) (by decide) ?_
            refine g_aload_n hX dX4_place_65 rfl 0 rfl ?_
            refine g_get hX 4 h_X4_place_X4 0 rfl rfl 0 (by decide) k_X4_place_0 rfl (v := .ref (ad 1)) rfl dX4_place_66 ?_
            refine g_getN hX 2 h_X4_place_X2 1 rfl rfl 0 (by decide) 3 rfl rfl (v := .ref (ad 2)) rfl dX4_place_69 ?_
            refine g_iload_n hX dX4_place_72 rfl 1 rfl ?_
            refine g_cVN_I hX (n := 1) (As := [.int p1]) (wc := wWr T (ad 2) (ad 3) xv.2.1.2.1) (w1 := wWr T (ad 2) (ad 3) xv.2.1.2.1) (rv := (F_X3_isRibbon xv.2.1.2.1 p1)) (st := []) 2 rfl rfl (c_X3_isRibbon (xL X) T (xB X) (ad 2) (ad 3) xv.2.1.2.1 p1) ggX4_place_X3_isRibbon 48 rfl k_X4_place_2 k_X4_place_11 k_X4_place_12 rfl rfl rfl ⟨Nat.le_of_ble_eq_true rfl, Nat.le_of_ble_eq_true rfl⟩ ⟨Nat.zero_le _, Nat.zero_le _⟩ ⟨by decide +kernel, by decide +kernel, by decide +kernel⟩ rfl [2, 3] rfl rfl (by decide) rfl (Nat.le_of_ble_eq_true rfl) dX4_place_73 (ws' := wXX T ad xv) rfl ?_
            refine g_cS_I hX (n := 1) (As := [.int (F_X3_isRibbon xv.2.1.2.1 p1)]) (wc := []) (w1 := []) (rv := (F_X4_oneIf (F_X3_isRibbon xv.2.1.2.1 p1))) (st := []) (c_X4_oneIf (xL X) T (xB X) (F_X3_isRibbon xv.2.1.2.1 p1)) gX4_place_X4_oneIf rfl rfl rfl ⟨Nat.le_of_ble_eq_true rfl, Nat.le_of_ble_eq_true rfl⟩ ⟨Nat.zero_le _, Nat.zero_le _⟩ ⟨by decide +kernel, by decide +kernel, by decide +kernel⟩ rfl [] rfl rfl (by decide) rfl (Nat.le_of_ble_eq_true rfl) dX4_place_76 (ws' := wXX T ad xv) rfl ?_
            have e9 : F_X4_place xv p1 p2 = (F_X4_oneIf (F_X3_isRibbon xv.2.1.2.1 p1)) := by simp only [F_X4_place, eq_false c_1, eq_true c_7, eq_false c_13_0, eq_false c_13_1, eq_true c_13_2, if_true, if_false]
            rw [e9]
            exact g_iret hX dX4_place_79 rfl rfl
          · skip
            by_cases c_13_3 : p2 = 3
            · skip
              refine g_tabIn hX (off := 67) 80 dX4_place_13 (by rw [c_13_3]; decide) (by rw [c_13_3]; decide) (by rw [c_13_3]; decide) (by decide) ?_
              refine g_aload_n hX dX4_place_80 rfl 0 rfl ?_
              refine g_get hX 4 h_X4_place_X4 0 rfl rfl 0 (by decide) k_X4_place_0 rfl (v := .ref (ad 1)) rfl dX4_place_81 ?_
              refine g_iload_n hX dX4_place_84 rfl 1 rfl ?_
              refine g_perm (pm_1 _ _ _ _ _ _ _) ?_
              refine g_pVN_I hX (n := 1) (As := [.int p1]) (wc := wSt T (ad 1) (ad 2) (ad 3) (ad 4) (ad 5) xv.2.1) (w1 := wSt T (ad 1) (ad 2) (ad 3) (ad 4) (ad 5) xv.2.1) (rv := (F_X2_isBad xv.2.1 p1)) (st := []) 0 rfl rfl (c_X2_isBad (xL X) T (xB X) (ad 1) (ad 2) (ad 3) (ad 4) (ad 5) xv.2.1 p1) ggX4_place_X2_isBad 49 rfl k_X4_place_7 k_X4_place_23 k_X4_place_24 rfl rfl rfl ⟨Nat.le_of_ble_eq_true rfl, Nat.le_of_ble_eq_true rfl⟩ ⟨Nat.zero_le _, Nat.zero_le _⟩ ⟨by decide +kernel, by decide +kernel, by decide +kernel⟩ rfl rfl rfl rfl (Nat.le_of_ble_eq_true rfl) dX4_place_85 rfl ?_
              refine g_perm (pm_1 _ _ _ _ _ _ _).symm ?_
              refine g_cast (ws' := wXX T ad xv) rfl ?_
              refine g_cS_I hX (n := 1) (As := [.int (F_X2_isBad xv.2.1 p1)]) (wc := []) (w1 := []) (rv := (F_X4_oneIf (F_X2_isBad xv.2.1 p1))) (st := []) (c_X4_oneIf (xL X) T (xB X) (F_X2_isBad xv.2.1 p1)) gX4_place_X4_oneIf rfl rfl rfl ⟨Nat.le_of_ble_eq_true rfl, Nat.le_of_ble_eq_true rfl⟩ ⟨Nat.zero_le _, Nat.zero_le _⟩ ⟨by decide +kernel, by decide +kernel, by decide +kernel⟩ rfl [] rfl rfl (by decide) rfl (Nat.le_of_ble_eq_true rfl) dX4_place_88 (ws' := wXX T ad xv) rfl ?_
              have e9 : F_X4_place xv p1 p2 = (F_X4_oneIf (F_X2_isBad xv.2.1 p1)) := by simp only [F_X4_place, eq_false c_1, eq_true c_7, eq_false c_13_0, eq_false c_13_1, eq_false c_13_2, eq_true c_13_3, if_true, if_false]
              rw [e9]
              exact g_iret hX dX4_place_91 rfl rfl
            · skip
              have tc_13_0 : ¬ Int32.toInt p2 = 0 := lv_neT c_13_0 (by decide)
              have tc_13_1 : ¬ Int32.toInt p2 = 1 := lv_neT c_13_1 (by decide)
              have tc_13_2 : ¬ Int32.toInt p2 = 2 := lv_neT c_13_2 (by decide)
              have tc_13_3 : ¬ Int32.toInt p2 = 3 := lv_neT c_13_3 (by decide)
              refine g_tabOut hX 92 dX4_place_13 (by omega) (by decide) ?_
              refine g_bipush hX (v := (-2)) dX4_place_92 (by decide) ?_
              have e9 : F_X4_place xv p1 p2 = (-2) := by simp only [F_X4_place, eq_false c_1, eq_true c_7, eq_false c_13_0, eq_false c_13_1, eq_false c_13_2, eq_false c_13_3, if_true, if_false]
              rw [e9]
              exact g_iret hX dX4_place_94 rfl rfl
    · skip
      refine g_iconst hX (v := (-1)) dX4_place_10 (by decide) ?_
      have e9 : F_X4_place xv p1 p2 = (-1) := by simp only [F_X4_place, eq_false c_1, eq_false c_7, if_true, if_false]
      rw [e9]
      exact g_iret hX dX4_place_11 rfl rfl
/-! X4_wrong -/
def rmX4_wrong : Room := { frames := 4, cells := 0, slots := 0, locals := 88 }
theorem k_X4_wrong_0 : Cond.fieldLink RX4 12 RX4 (TX4 0).2.1 (TX4 0).2.2.1 ∈ wsX4_wrong := List.mem_of_getElem? (i := 1) rfl
theorem h_X4_wrong_X4 : ∀ w ∈ u_ws RX4 TX4 8, w ∈ wsX4_wrong := fun w h => List.mem_cons_of_mem _ (List.mem_append_left _ (List.mem_append_left _ (List.mem_append_right _ h)))
theorem h_X4_wrong_X2 : ∀ w ∈ u_ws RX2 TX2 11, w ∈ wsX4_wrong := fun w h => List.mem_cons_of_mem _ (List.mem_append_left _ (List.mem_append_right _ h))
theorem k_X4_wrong_2 : Cond.initialized RX2 ∈ wsX4_wrong := List.mem_of_getElem? (i := 3) rfl
theorem k_X4_wrong_1 : Cond.instanceMethod yX2_isConeEmpty ∈ wsX4_wrong := List.mem_of_getElem? (i := 2) rfl
theorem k_X4_wrong_3 : Cond.selects RX2 yX2_isConeEmpty yX2_isConeEmpty ∈ wsX4_wrong := List.mem_of_getElem? (i := 4) rfl
theorem k_X4_wrong_6 : Cond.instanceMethod yX2_hasBadPlace ∈ wsX4_wrong := List.mem_of_getElem? (i := 7) rfl
theorem k_X4_wrong_7 : Cond.selects RX2 yX2_hasBadPlace yX2_hasBadPlace ∈ wsX4_wrong := List.mem_of_getElem? (i := 8) rfl
theorem k_X4_wrong_19 : Cond.initialized RX3 ∈ wsX4_wrong := List.mem_of_getElem? (i := 20) rfl
theorem k_X4_wrong_18 : Cond.instanceMethod yX3_ribbons ∈ wsX4_wrong := List.mem_of_getElem? (i := 19) rfl
theorem k_X4_wrong_20 : Cond.selects RX3 yX3_ribbons yX3_ribbons ∈ wsX4_wrong := List.mem_of_getElem? (i := 21) rfl
theorem k_X4_wrong_38 : Cond.instanceMethod yX3_evenness ∈ wsX4_wrong := List.mem_of_getElem? (i := 39) rfl
theorem k_X4_wrong_39 : Cond.selects RX3 yX3_evenness yX3_evenness ∈ wsX4_wrong := List.mem_of_getElem? (i := 40) rfl
def F_X4_wrong (xv : XV) : Int32 :=
  (if (xv.2.1.1 2) = 0 then (if (F_X2_isConeEmpty xv.2.1) = 0 then (if (F_X2_hasBadPlace xv.2.1) = 0 then (if (F_X3_ribbons xv.2.1.2.1) ≤ 0 then (if (F_X3_evenness xv.2.1.2.1) < 10 then 0 else 5) else 4) else 3) else 2) else 1)
set_option maxHeartbeats 4000000 in
set_option maxRecDepth 100000 in
theorem c_X4_wrong (l : Launch) (T : TT) (b0 : Nat) (ad : Nat → Nat) (xv : XV)  : ConI l T b0 yX4_wrong wsX4_wrong rmX4_wrong [.ref (ad 0)] (wXX T ad xv) (F_X4_wrong xv) (wXX T ad xv) := by
  refine conI_of (cc := cX4_wrong) (maxL := 1) (ret := (some .int)) (lv0 := [(0, .ref (ad 0))]) (by decide +kernel) rfl (Nat.le_of_ble_eq_true rfl) rfl (fun X hX => ?_)
  refine g_aload_n hX dX4_wrong_0 rfl 0 rfl ?_
  refine g_get hX 4 h_X4_wrong_X4 0 rfl rfl 0 (by decide) k_X4_wrong_0 rfl (v := .ref (ad 1)) rfl dX4_wrong_1 ?_
  refine g_getN hX 2 h_X4_wrong_X2 1 rfl rfl 5 (by decide) 6 rfl rfl (v := .int (xv.2.1.1 2)) rfl dX4_wrong_4 ?_
  refine g_if_eq hX 12 dX4_wrong_7 (by decide) (fun c_7 => ?_) (fun c_7 => ?_)
  · skip
    refine g_aload_n hX dX4_wrong_12 rfl 0 rfl ?_
    refine g_get hX 4 h_X4_wrong_X4 0 rfl rfl 0 (by decide) k_X4_wrong_0 rfl (v := .ref (ad 1)) rfl dX4_wrong_13 ?_
    refine g_perm (pm_1 _ _ _ _ _ _ _) ?_
    refine g_pVN_I hX (n := 0) (As := []) (wc := wSt T (ad 1) (ad 2) (ad 3) (ad 4) (ad 5) xv.2.1) (w1 := wSt T (ad 1) (ad 2) (ad 3) (ad 4) (ad 5) xv.2.1) (rv := (F_X2_isConeEmpty xv.2.1)) (st := []) 0 rfl rfl (c_X2_isConeEmpty (xL X) T (xB X) (ad 1) (ad 2) (ad 3) (ad 4) (ad 5) xv.2.1) ggX4_wrong_X2_isConeEmpty 50 rfl k_X4_wrong_2 k_X4_wrong_1 k_X4_wrong_3 rfl rfl rfl ⟨Nat.le_of_ble_eq_true rfl, Nat.le_of_ble_eq_true rfl⟩ ⟨Nat.zero_le _, Nat.zero_le _⟩ ⟨by decide +kernel, by decide +kernel, by decide +kernel⟩ rfl rfl rfl rfl (Nat.le_of_ble_eq_true rfl) dX4_wrong_16 rfl ?_
    refine g_perm (pm_1 _ _ _ _ _ _ _).symm ?_
    refine g_cast (ws' := wXX T ad xv) rfl ?_
    refine g_if_eq hX 24 dX4_wrong_19 (by decide) (fun c_19 => ?_) (fun c_19 => ?_)
    · skip
      refine g_aload_n hX dX4_wrong_24 rfl 0 rfl ?_
      refine g_get hX 4 h_X4_wrong_X4 0 rfl rfl 0 (by decide) k_X4_wrong_0 rfl (v := .ref (ad 1)) rfl dX4_wrong_25 ?_
      refine g_perm (pm_1 _ _ _ _ _ _ _) ?_
      refine g_pVN_I hX (n := 0) (As := []) (wc := wSt T (ad 1) (ad 2) (ad 3) (ad 4) (ad 5) xv.2.1) (w1 := wSt T (ad 1) (ad 2) (ad 3) (ad 4) (ad 5) xv.2.1) (rv := (F_X2_hasBadPlace xv.2.1)) (st := []) 0 rfl rfl (c_X2_hasBadPlace (xL X) T (xB X) (ad 1) (ad 2) (ad 3) (ad 4) (ad 5) xv.2.1) ggX4_wrong_X2_hasBadPlace 51 rfl k_X4_wrong_2 k_X4_wrong_6 k_X4_wrong_7 rfl rfl rfl ⟨Nat.le_of_ble_eq_true rfl, Nat.le_of_ble_eq_true rfl⟩ ⟨Nat.zero_le _, Nat.zero_le _⟩ ⟨by decide +kernel, by decide +kernel, by decide +kernel⟩ rfl rfl rfl rfl (Nat.le_of_ble_eq_true rfl) dX4_wrong_28 rfl ?_
      refine g_perm (pm_1 _ _ _ _ _ _ _).symm ?_
      refine g_cast (ws' := wXX T ad xv) rfl ?_
      refine g_if_eq hX 36 dX4_wrong_31 (by decide) (fun c_31 => ?_) (fun c_31 => ?_)
      · skip
        refine g_aload_n hX dX4_wrong_36 rfl 0 rfl ?_
        refine g_get hX 4 h_X4_wrong_X4 0 rfl rfl 0 (by decide) k_X4_wrong_0 rfl (v := .ref (ad 1)) rfl dX4_wrong_37 ?_
        refine g_getN hX 2 h_X4_wrong_X2 1 rfl rfl 0 (by decide) 3 rfl rfl (v := .ref (ad 2)) rfl dX4_wrong_40 ?_
        refine g_cVN_I hX (n := 0) (As := []) (wc := wWr T (ad 2) (ad 3) xv.2.1.2.1) (w1 := wWr T (ad 2) (ad 3) xv.2.1.2.1) (rv := (F_X3_ribbons xv.2.1.2.1)) (st := []) 2 rfl rfl (c_X3_ribbons (xL X) T (xB X) (ad 2) (ad 3) xv.2.1.2.1) ggX4_wrong_X3_ribbons 52 rfl k_X4_wrong_19 k_X4_wrong_18 k_X4_wrong_20 rfl rfl rfl ⟨Nat.le_of_ble_eq_true rfl, Nat.le_of_ble_eq_true rfl⟩ ⟨Nat.zero_le _, Nat.zero_le _⟩ ⟨by decide +kernel, by decide +kernel, by decide +kernel⟩ rfl [2, 3] rfl rfl (by decide) rfl (Nat.le_of_ble_eq_true rfl) dX4_wrong_43 (ws' := wXX T ad xv) rfl ?_
        refine g_if_le hX 51 dX4_wrong_46 (by decide) (fun c_46 => ?_) (fun c_46 => ?_)
        · skip
          refine g_aload_n hX dX4_wrong_51 rfl 0 rfl ?_
          refine g_get hX 4 h_X4_wrong_X4 0 rfl rfl 0 (by decide) k_X4_wrong_0 rfl (v := .ref (ad 1)) rfl dX4_wrong_52 ?_
          refine g_getN hX 2 h_X4_wrong_X2 1 rfl rfl 0 (by decide) 3 rfl rfl (v := .ref (ad 2)) rfl dX4_wrong_55 ?_
          refine g_cVN_I hX (n := 0) (As := []) (wc := wWr T (ad 2) (ad 3) xv.2.1.2.1) (w1 := wWr T (ad 2) (ad 3) xv.2.1.2.1) (rv := (F_X3_evenness xv.2.1.2.1)) (st := []) 2 rfl rfl (c_X3_evenness (xL X) T (xB X) (ad 2) (ad 3) xv.2.1.2.1) ggX4_wrong_X3_evenness 53 rfl k_X4_wrong_19 k_X4_wrong_38 k_X4_wrong_39 rfl rfl rfl ⟨Nat.le_of_ble_eq_true rfl, Nat.le_of_ble_eq_true rfl⟩ ⟨Nat.zero_le _, Nat.zero_le _⟩ ⟨by decide +kernel, by decide +kernel, by decide +kernel⟩ rfl [2, 3] rfl rfl (by decide) rfl (Nat.le_of_ble_eq_true rfl) dX4_wrong_58 (ws' := wXX T ad xv) rfl ?_
          refine g_bipush hX (v := 10) dX4_wrong_61 (by decide) ?_
          refine g_icmp_lt hX 70 dX4_wrong_63 (by decide) (fun c_63 => ?_) (fun c_63 => ?_)
          · skip
            refine g_iconst hX (v := 0) dX4_wrong_70 (by decide) ?_
            have e9 : F_X4_wrong xv = 0 := by simp only [F_X4_wrong, eq_true c_7, eq_true c_19, eq_true c_31, eq_true c_46, eq_true c_63, if_true, if_false]
            rw [e9]
            exact g_iret hX dX4_wrong_71 rfl rfl
          · skip
            refine g_iconst hX (v := 5) dX4_wrong_66 (by decide) ?_
            refine g_goto hX 71 dX4_wrong_67 (by decide) ?_
            have e9 : F_X4_wrong xv = 5 := by simp only [F_X4_wrong, eq_true c_7, eq_true c_19, eq_true c_31, eq_true c_46, eq_false c_63, if_true, if_false]
            rw [e9]
            exact g_iret hX dX4_wrong_71 rfl rfl
        · skip
          refine g_iconst hX (v := 4) dX4_wrong_49 (by decide) ?_
          have e9 : F_X4_wrong xv = 4 := by simp only [F_X4_wrong, eq_true c_7, eq_true c_19, eq_true c_31, eq_false c_46, if_true, if_false]
          rw [e9]
          exact g_iret hX dX4_wrong_50 rfl rfl
      · skip
        refine g_iconst hX (v := 3) dX4_wrong_34 (by decide) ?_
        have e9 : F_X4_wrong xv = 3 := by simp only [F_X4_wrong, eq_true c_7, eq_true c_19, eq_false c_31, if_true, if_false]
        rw [e9]
        exact g_iret hX dX4_wrong_35 rfl rfl
    · skip
      refine g_iconst hX (v := 2) dX4_wrong_22 (by decide) ?_
      have e9 : F_X4_wrong xv = 2 := by simp only [F_X4_wrong, eq_true c_7, eq_false c_19, if_true, if_false]
      rw [e9]
      exact g_iret hX dX4_wrong_23 rfl rfl
  · skip
    refine g_iconst hX (v := 1) dX4_wrong_10 (by decide) ?_
    have e9 : F_X4_wrong xv = 1 := by simp only [F_X4_wrong, eq_false c_7, if_true, if_false]
    rw [e9]
    exact g_iret hX dX4_wrong_11 rfl rfl
/-! X4_count -/
def rmX4_count : Room := { frames := 4, cells := 0, slots := 0, locals := 88 }
theorem k_X4_count_0 : Cond.fieldLink RX4 12 RX4 (TX4 0).2.1 (TX4 0).2.2.1 ∈ wsX4_count := List.mem_of_getElem? (i := 1) rfl
theorem h_X4_count_X4 : ∀ w ∈ u_ws RX4 TX4 8, w ∈ wsX4_count := fun w h => List.mem_cons_of_mem _ (List.mem_append_left _ (List.mem_append_left _ (List.mem_append_left _ (List.mem_append_left _ (List.mem_append_right _ h)))))
theorem h_X4_count_X2 : ∀ w ∈ u_ws RX2 TX2 11, w ∈ wsX4_count := fun w h => List.mem_cons_of_mem _ (List.mem_append_left _ (List.mem_append_left _ (List.mem_append_left _ (List.mem_append_right _ h))))
theorem h_X4_count_X3 : ∀ w ∈ u_ws RX3 TX3 4, w ∈ wsX4_count := fun w h => List.mem_cons_of_mem _ (List.mem_append_left _ (List.mem_append_left _ (List.mem_append_right _ h)))
theorem k_X4_count_4 : Cond.initialized RX3 ∈ wsX4_count := List.mem_of_getElem? (i := 5) rfl
theorem k_X4_count_3 : Cond.instanceMethod yX3_guidePlace ∈ wsX4_count := List.mem_of_getElem? (i := 4) rfl
theorem k_X4_count_5 : Cond.selects RX3 yX3_guidePlace yX3_guidePlace ∈ wsX4_count := List.mem_of_getElem? (i := 6) rfl
theorem k_X4_count_8 : Cond.instanceMethod yX3_guideGoesBack ∈ wsX4_count := List.mem_of_getElem? (i := 9) rfl
theorem k_X4_count_9 : Cond.selects RX3 yX3_guideGoesBack yX3_guideGoesBack ∈ wsX4_count := List.mem_of_getElem? (i := 10) rfl
theorem k_X4_count_16 : Cond.initialized RX2 ∈ wsX4_count := List.mem_of_getElem? (i := 17) rfl
theorem k_X4_count_15 : Cond.instanceMethod yX2_isConeEmpty ∈ wsX4_count := List.mem_of_getElem? (i := 16) rfl
theorem k_X4_count_17 : Cond.selects RX2 yX2_isConeEmpty yX2_isConeEmpty ∈ wsX4_count := List.mem_of_getElem? (i := 18) rfl
theorem k_X4_count_20 : Cond.instanceMethod yX3_isFull ∈ wsX4_count := List.mem_of_getElem? (i := 21) rfl
theorem k_X4_count_21 : Cond.selects RX3 yX3_isFull yX3_isFull ∈ wsX4_count := List.mem_of_getElem? (i := 22) rfl
theorem k_X4_count_24 : Cond.instanceMethod yX3_evenness ∈ wsX4_count := List.mem_of_getElem? (i := 25) rfl
theorem k_X4_count_25 : Cond.selects RX3 yX3_evenness yX3_evenness ∈ wsX4_count := List.mem_of_getElem? (i := 26) rfl
theorem k_X4_count_32 : Cond.instanceMethod yX3_ribbons ∈ wsX4_count := List.mem_of_getElem? (i := 33) rfl
theorem k_X4_count_33 : Cond.selects RX3 yX3_ribbons yX3_ribbons ∈ wsX4_count := List.mem_of_getElem? (i := 34) rfl
theorem k_X4_count_47 : Cond.instanceMethod yX2_allKnots ∈ wsX4_count := List.mem_of_getElem? (i := 48) rfl
theorem k_X4_count_48 : Cond.selects RX2 yX2_allKnots yX2_allKnots ∈ wsX4_count := List.mem_of_getElem? (i := 49) rfl
theorem k_X4_count_1 : Cond.fieldLink RX4 32 RX4 (TX4 4).2.1 (TX4 4).2.2.1 ∈ wsX4_count := List.mem_of_getElem? (i := 2) rfl
theorem h_X4_count_X1 : ∀ w ∈ u_ws RX1 TX1 3, w ∈ wsX4_count := fun w h => List.mem_cons_of_mem _ (List.mem_append_left _ (List.mem_append_right _ h))
theorem k_X4_count_2 : Cond.fieldLink RX4 39 RX4 (TX4 5).2.1 (TX4 5).2.2.1 ∈ wsX4_count := List.mem_of_getElem? (i := 3) rfl
theorem h_X4_count_X0 : ∀ w ∈ u_ws RX0 TX0 7, w ∈ wsX4_count := fun w h => List.mem_cons_of_mem _ (List.mem_append_right _ h)
theorem k_X4_count_51 : Cond.instanceMethod yX2_number ∈ wsX4_count := List.mem_of_getElem? (i := 52) rfl
theorem k_X4_count_52 : Cond.selects RX2 yX2_number yX2_number ∈ wsX4_count := List.mem_of_getElem? (i := 53) rfl
def F_X4_count (xv : XV) (p1 : Int32) : Int32 :=
  (if p1 = 0 then (xv.2.1.2.1.1 0) else (if p1 = 1 then (xv.2.1.1 0) else (if p1 = 2 then (F_X3_guidePlace xv.2.1.2.1) else (if p1 = 3 then (F_X4_oneIf (F_X3_guideGoesBack xv.2.1.2.1)) else (if p1 = 4 then (xv.2.1.1 1) else (if p1 = 5 then (xv.2.1.1 4) else (if p1 = 6 then (F_X4_oneIf (xv.2.1.1 2)) else (if p1 = 7 then (F_X4_oneIf (F_X2_isConeEmpty xv.2.1)) else (if p1 = 8 then (F_X4_oneIf (F_X3_isFull xv.2.1.2.1)) else (if p1 = 9 then (F_X3_evenness xv.2.1.2.1) else (if p1 = 10 then (F_X3_ribbons xv.2.1.2.1) else (if p1 = 11 then (F_X2_allKnots xv.2.1) else (if p1 = 12 then (xv.2.1.1 5) else (if p1 = 13 then (xv.2.1.1 6) else (if p1 = 14 then (xv.2.1.1 7) else (if p1 = 15 then (xv.2.2.2.2.2.1.1 1) else (if p1 = 16 then (xv.2.2.2.2.2.2.1 0) else (if p1 = 20 then (F_X2_number xv.2.1 (p1 - 20)) else (if p1 = 21 then (F_X2_number xv.2.1 (p1 - 20)) else (if p1 = 22 then (F_X2_number xv.2.1 (p1 - 20)) else (if p1 = 23 then (F_X2_number xv.2.1 (p1 - 20)) else (if p1 = 24 then (F_X2_number xv.2.1 (p1 - 20)) else (-2)))))))))))))))))))))))
set_option maxHeartbeats 4000000 in
set_option maxRecDepth 100000 in
theorem c_X4_count (l : Launch) (T : TT) (b0 : Nat) (ad : Nat → Nat) (xv : XV) (p1 : Int32)  : ConI l T b0 yX4_count wsX4_count rmX4_count [.ref (ad 0), .int p1] (wXX T ad xv) (F_X4_count xv p1) (wXX T ad xv) := by
  refine conI_of (cc := cX4_count) (maxL := 2) (ret := (some .int)) (lv0 := [(0, .ref (ad 0)), (1, .int p1)]) (by decide +kernel) rfl (Nat.le_of_ble_eq_true rfl) rfl (fun X hX => ?_)
  refine g_iload_n hX dX4_count_0 rfl 1 rfl ?_
  by_cases c_1_0 : p1 = 0
  · skip
    refine g_tabIn hX (off := 115) 116 dX4_count_1 (by rw [c_1_0]; decide) (by rw [c_1_0]; decide) (by rw [c_1_0]; decide) (by decide) ?_
    refine g_aload_n hX dX4_count_116 rfl 0 rfl ?_
    refine g_get hX 4 h_X4_count_X4 0 rfl rfl 0 (by decide) k_X4_count_0 rfl (v := .ref (ad 1)) rfl dX4_count_117 ?_
    refine g_getN hX 2 h_X4_count_X2 1 rfl rfl 0 (by decide) 3 rfl rfl (v := .ref (ad 2)) rfl dX4_count_120 ?_
    refine g_getN hX 3 h_X4_count_X3 2 rfl rfl 1 (by decide) 1 rfl rfl (v := .int (xv.2.1.2.1.1 0)) rfl dX4_count_123 ?_
    have e9 : F_X4_count xv p1 = (xv.2.1.2.1.1 0) := by simp only [F_X4_count, eq_true c_1_0, if_true, if_false]
    rw [e9]
    exact g_iret hX dX4_count_126 rfl rfl
  · skip
    by_cases c_1_1 : p1 = 1
    · skip
      refine g_tabIn hX (off := 126) 127 dX4_count_1 (by rw [c_1_1]; decide) (by rw [c_1_1]; decide) (by rw [c_1_1]; decide) (by decide) ?_
      refine g_aload_n hX dX4_count_127 rfl 0 rfl ?_
      refine g_get hX 4 h_X4_count_X4 0 rfl rfl 0 (by decide) k_X4_count_0 rfl (v := .ref (ad 1)) rfl dX4_count_128 ?_
      refine g_getN hX 2 h_X4_count_X2 1 rfl rfl 3 (by decide) 4 rfl rfl (v := .int (xv.2.1.1 0)) rfl dX4_count_131 ?_
      have e9 : F_X4_count xv p1 = (xv.2.1.1 0) := by simp only [F_X4_count, eq_false c_1_0, eq_true c_1_1, if_true, if_false]
      rw [e9]
      exact g_iret hX dX4_count_134 rfl rfl
    · skip
      by_cases c_1_2 : p1 = 2
      · skip
        refine g_tabIn hX (off := 134) 135 dX4_count_1 (by rw [c_1_2]; decide) (by rw [c_1_2]; decide) (by rw [c_1_2]; decide) (by decide) ?_
        refine g_aload_n hX dX4_count_135 rfl 0 rfl ?_
        refine g_get hX 4 h_X4_count_X4 0 rfl rfl 0 (by decide) k_X4_count_0 rfl (v := .ref (ad 1)) rfl dX4_count_136 ?_
        refine g_getN hX 2 h_X4_count_X2 1 rfl rfl 0 (by decide) 3 rfl rfl (v := .ref (ad 2)) rfl dX4_count_139 ?_
        refine g_cVN_I hX (n := 0) (As := []) (wc := wWr T (ad 2) (ad 3) xv.2.1.2.1) (w1 := wWr T (ad 2) (ad 3) xv.2.1.2.1) (rv := (F_X3_guidePlace xv.2.1.2.1)) (st := []) 2 rfl rfl (c_X3_guidePlace (xL X) T (xB X) (ad 2) (ad 3) xv.2.1.2.1) ggX4_count_X3_guidePlace 62 rfl k_X4_count_4 k_X4_count_3 k_X4_count_5 rfl rfl rfl ⟨Nat.le_of_ble_eq_true rfl, Nat.le_of_ble_eq_true rfl⟩ ⟨Nat.zero_le _, Nat.zero_le _⟩ ⟨by decide +kernel, by decide +kernel, by decide +kernel⟩ rfl [2, 3] rfl rfl (by decide) rfl (Nat.le_of_ble_eq_true rfl) dX4_count_142 (ws' := wXX T ad xv) rfl ?_
        have e9 : F_X4_count xv p1 = (F_X3_guidePlace xv.2.1.2.1) := by simp only [F_X4_count, eq_false c_1_0, eq_false c_1_1, eq_true c_1_2, if_true, if_false]
        rw [e9]
        exact g_iret hX dX4_count_145 rfl rfl
      · skip
        by_cases c_1_3 : p1 = 3
        · skip
          refine g_tabIn hX (off := 145) 146 dX4_count_1 (by rw [c_1_3]; decide) (by rw [c_1_3]; decide) (by rw [c_1_3]; decide) (by decide) ?_
          refine g_aload_n hX dX4_count_146 rfl 0 rfl ?_
          refine g_get hX 4 h_X4_count_X4 0 rfl rfl 0 (by decide) k_X4_count_0 rfl (v := .ref (ad 1)) rfl dX4_count_147 ?_
          refine g_getN hX 2 h_X4_count_X2 1 rfl rfl 0 (by decide) 3 rfl rfl (v := .ref (ad 2)) rfl dX4_count_150 ?_
          refine g_cVN_I hX (n := 0) (As := []) (wc := wWr T (ad 2) (ad 3) xv.2.1.2.1) (w1 := wWr T (ad 2) (ad 3) xv.2.1.2.1) (rv := (F_X3_guideGoesBack xv.2.1.2.1)) (st := []) 2 rfl rfl (c_X3_guideGoesBack (xL X) T (xB X) (ad 2) (ad 3) xv.2.1.2.1) ggX4_count_X3_guideGoesBack 63 rfl k_X4_count_4 k_X4_count_8 k_X4_count_9 rfl rfl rfl ⟨Nat.le_of_ble_eq_true rfl, Nat.le_of_ble_eq_true rfl⟩ ⟨Nat.zero_le _, Nat.zero_le _⟩ ⟨by decide +kernel, by decide +kernel, by decide +kernel⟩ rfl [2, 3] rfl rfl (by decide) rfl (Nat.le_of_ble_eq_true rfl) dX4_count_153 (ws' := wXX T ad xv) rfl ?_
          refine g_cS_I hX (n := 1) (As := [.int (F_X3_guideGoesBack xv.2.1.2.1)]) (wc := []) (w1 := []) (rv := (F_X4_oneIf (F_X3_guideGoesBack xv.2.1.2.1))) (st := []) (c_X4_oneIf (xL X) T (xB X) (F_X3_guideGoesBack xv.2.1.2.1)) gX4_count_X4_oneIf rfl rfl rfl ⟨Nat.le_of_ble_eq_true rfl, Nat.le_of_ble_eq_true rfl⟩ ⟨Nat.zero_le _, Nat.zero_le _⟩ ⟨by decide +kernel, by decide +kernel, by decide +kernel⟩ rfl [] rfl rfl (by decide) rfl (Nat.le_of_ble_eq_true rfl) dX4_count_156 (ws' := wXX T ad xv) rfl ?_
          have e9 : F_X4_count xv p1 = (F_X4_oneIf (F_X3_guideGoesBack xv.2.1.2.1)) := by simp only [F_X4_count, eq_false c_1_0, eq_false c_1_1, eq_false c_1_2, eq_true c_1_3, if_true, if_false]
          rw [e9]
          exact g_iret hX dX4_count_159 rfl rfl
        · skip
          by_cases c_1_4 : p1 = 4
          · skip
            refine g_tabIn hX (off := 159) 160 dX4_count_1 (by rw [c_1_4]; decide) (by rw [c_1_4]; decide) (by rw [c_1_4]; decide) (by decide) ?_
            refine g_aload_n hX dX4_count_160 rfl 0 rfl ?_
            refine g_get hX 4 h_X4_count_X4 0 rfl rfl 0 (by decide) k_X4_count_0 rfl (v := .ref (ad 1)) rfl dX4_count_161 ?_
            refine g_getN hX 2 h_X4_count_X2 1 rfl rfl 4 (by decide) 5 rfl rfl (v := .int (xv.2.1.1 1)) rfl dX4_count_164 ?_
            have e9 : F_X4_count xv p1 = (xv.2.1.1 1) := by simp only [F_X4_count, eq_false c_1_0, eq_false c_1_1, eq_false c_1_2, eq_false c_1_3, eq_true c_1_4, if_true, if_false]
            rw [e9]
            exact g_iret hX dX4_count_167 rfl rfl
          · skip
            by_cases c_1_5 : p1 = 5
            · skip
              refine g_tabIn hX (off := 167) 168 dX4_count_1 (by rw [c_1_5]; decide) (by rw [c_1_5]; decide) (by rw [c_1_5]; decide) (by decide) ?_
              refine g_aload_n hX dX4_count_168 rfl 0 rfl ?_
              refine g_get hX 4 h_X4_count_X4 0 rfl rfl 0 (by decide) k_X4_count_0 rfl (v := .ref (ad 1)) rfl dX4_count_169 ?_
              refine g_getN hX 2 h_X4_count_X2 1 rfl rfl 7 (by decide) 7 rfl rfl (v := .int (xv.2.1.1 4)) rfl dX4_count_172 ?_
              have e9 : F_X4_count xv p1 = (xv.2.1.1 4) := by simp only [F_X4_count, eq_false c_1_0, eq_false c_1_1, eq_false c_1_2, eq_false c_1_3, eq_false c_1_4, eq_true c_1_5, if_true, if_false]
              rw [e9]
              exact g_iret hX dX4_count_175 rfl rfl
            · skip
              by_cases c_1_6 : p1 = 6
              · skip
                refine g_tabIn hX (off := 175) 176 dX4_count_1 (by rw [c_1_6]; decide) (by rw [c_1_6]; decide) (by rw [c_1_6]; decide) (by decide) ?_
                refine g_aload_n hX dX4_count_176 rfl 0 rfl ?_
                refine g_get hX 4 h_X4_count_X4 0 rfl rfl 0 (by decide) k_X4_count_0 rfl (v := .ref (ad 1)) rfl dX4_count_177 ?_
                refine g_getN hX 2 h_X4_count_X2 1 rfl rfl 5 (by decide) 6 rfl rfl (v := .int (xv.2.1.1 2)) rfl dX4_count_180 ?_
                refine g_cS_I hX (n := 1) (As := [.int (xv.2.1.1 2)]) (wc := []) (w1 := []) (rv := (F_X4_oneIf (xv.2.1.1 2))) (st := []) (c_X4_oneIf (xL X) T (xB X) (xv.2.1.1 2)) gX4_count_X4_oneIf rfl rfl rfl ⟨Nat.le_of_ble_eq_true rfl, Nat.le_of_ble_eq_true rfl⟩ ⟨Nat.zero_le _, Nat.zero_le _⟩ ⟨by decide +kernel, by decide +kernel, by decide +kernel⟩ rfl [] rfl rfl (by decide) rfl (Nat.le_of_ble_eq_true rfl) dX4_count_183 (ws' := wXX T ad xv) rfl ?_
                have e9 : F_X4_count xv p1 = (F_X4_oneIf (xv.2.1.1 2)) := by simp only [F_X4_count, eq_false c_1_0, eq_false c_1_1, eq_false c_1_2, eq_false c_1_3, eq_false c_1_4, eq_false c_1_5, eq_true c_1_6, if_true, if_false]
                rw [e9]
                exact g_iret hX dX4_count_186 rfl rfl
              · skip
                by_cases c_1_7 : p1 = 7
                · skip
                  refine g_tabIn hX (off := 186) 187 dX4_count_1 (by rw [c_1_7]; decide) (by rw [c_1_7]; decide) (by rw [c_1_7]; decide) (by decide) ?_
                  refine g_aload_n hX dX4_count_187 rfl 0 rfl ?_
                  refine g_get hX 4 h_X4_count_X4 0 rfl rfl 0 (by decide) k_X4_count_0 rfl (v := .ref (ad 1)) rfl dX4_count_188 ?_
                  refine g_perm (pm_1 _ _ _ _ _ _ _) ?_
                  refine g_pVN_I hX (n := 0) (As := []) (wc := wSt T (ad 1) (ad 2) (ad 3) (ad 4) (ad 5) xv.2.1) (w1 := wSt T (ad 1) (ad 2) (ad 3) (ad 4) (ad 5) xv.2.1) (rv := (F_X2_isConeEmpty xv.2.1)) (st := []) 0 rfl rfl (c_X2_isConeEmpty (xL X) T (xB X) (ad 1) (ad 2) (ad 3) (ad 4) (ad 5) xv.2.1) ggX4_count_X2_isConeEmpty 50 rfl k_X4_count_16 k_X4_count_15 k_X4_count_17 rfl rfl rfl ⟨Nat.le_of_ble_eq_true rfl, Nat.le_of_ble_eq_true rfl⟩ ⟨Nat.zero_le _, Nat.zero_le _⟩ ⟨by decide +kernel, by decide +kernel, by decide +kernel⟩ rfl rfl rfl rfl (Nat.le_of_ble_eq_true rfl) dX4_count_191 rfl ?_
                  refine g_perm (pm_1 _ _ _ _ _ _ _).symm ?_
                  refine g_cast (ws' := wXX T ad xv) rfl ?_
                  refine g_cS_I hX (n := 1) (As := [.int (F_X2_isConeEmpty xv.2.1)]) (wc := []) (w1 := []) (rv := (F_X4_oneIf (F_X2_isConeEmpty xv.2.1))) (st := []) (c_X4_oneIf (xL X) T (xB X) (F_X2_isConeEmpty xv.2.1)) gX4_count_X4_oneIf rfl rfl rfl ⟨Nat.le_of_ble_eq_true rfl, Nat.le_of_ble_eq_true rfl⟩ ⟨Nat.zero_le _, Nat.zero_le _⟩ ⟨by decide +kernel, by decide +kernel, by decide +kernel⟩ rfl [] rfl rfl (by decide) rfl (Nat.le_of_ble_eq_true rfl) dX4_count_194 (ws' := wXX T ad xv) rfl ?_
                  have e9 : F_X4_count xv p1 = (F_X4_oneIf (F_X2_isConeEmpty xv.2.1)) := by simp only [F_X4_count, eq_false c_1_0, eq_false c_1_1, eq_false c_1_2, eq_false c_1_3, eq_false c_1_4, eq_false c_1_5, eq_false c_1_6, eq_true c_1_7, if_true, if_false]
                  rw [e9]
                  exact g_iret hX dX4_count_197 rfl rfl
                · skip
                  by_cases c_1_8 : p1 = 8
                  · skip
                    refine g_tabIn hX (off := 197) 198 dX4_count_1 (by rw [c_1_8]; decide) (by rw [c_1_8]; decide) (by rw [c_1_8]; decide) (by decide) ?_
                    refine g_aload_n hX dX4_count_198 rfl 0 rfl ?_
                    refine g_get hX 4 h_X4_count_X4 0 rfl rfl 0 (by decide) k_X4_count_0 rfl (v := .ref (ad 1)) rfl dX4_count_199 ?_
                    refine g_getN hX 2 h_X4_count_X2 1 rfl rfl 0 (by decide) 3 rfl rfl (v := .ref (ad 2)) rfl dX4_count_202 ?_
                    refine g_cVN_I hX (n := 0) (As := []) (wc := wWr T (ad 2) (ad 3) xv.2.1.2.1) (w1 := wWr T (ad 2) (ad 3) xv.2.1.2.1) (rv := (F_X3_isFull xv.2.1.2.1)) (st := []) 2 rfl rfl (c_X3_isFull (xL X) T (xB X) (ad 2) (ad 3) xv.2.1.2.1) ggX4_count_X3_isFull 57 rfl k_X4_count_4 k_X4_count_20 k_X4_count_21 rfl rfl rfl ⟨Nat.le_of_ble_eq_true rfl, Nat.le_of_ble_eq_true rfl⟩ ⟨Nat.zero_le _, Nat.zero_le _⟩ ⟨by decide +kernel, by decide +kernel, by decide +kernel⟩ rfl [2, 3] rfl rfl (by decide) rfl (Nat.le_of_ble_eq_true rfl) dX4_count_205 (ws' := wXX T ad xv) rfl ?_
                    refine g_cS_I hX (n := 1) (As := [.int (F_X3_isFull xv.2.1.2.1)]) (wc := []) (w1 := []) (rv := (F_X4_oneIf (F_X3_isFull xv.2.1.2.1))) (st := []) (c_X4_oneIf (xL X) T (xB X) (F_X3_isFull xv.2.1.2.1)) gX4_count_X4_oneIf rfl rfl rfl ⟨Nat.le_of_ble_eq_true rfl, Nat.le_of_ble_eq_true rfl⟩ ⟨Nat.zero_le _, Nat.zero_le _⟩ ⟨by decide +kernel, by decide +kernel, by decide +kernel⟩ rfl [] rfl rfl (by decide) rfl (Nat.le_of_ble_eq_true rfl) dX4_count_208 (ws' := wXX T ad xv) rfl ?_
                    have e9 : F_X4_count xv p1 = (F_X4_oneIf (F_X3_isFull xv.2.1.2.1)) := by simp only [F_X4_count, eq_false c_1_0, eq_false c_1_1, eq_false c_1_2, eq_false c_1_3, eq_false c_1_4, eq_false c_1_5, eq_false c_1_6, eq_false c_1_7, eq_true c_1_8, if_true, if_false]
                    rw [e9]
                    exact g_iret hX dX4_count_211 rfl rfl
                  · skip
                    by_cases c_1_9 : p1 = 9
                    · skip
                      refine g_tabIn hX (off := 211) 212 dX4_count_1 (by rw [c_1_9]; decide) (by rw [c_1_9]; decide) (by rw [c_1_9]; decide) (by decide) ?_
                      refine g_aload_n hX dX4_count_212 rfl 0 rfl ?_
                      refine g_get hX 4 h_X4_count_X4 0 rfl rfl 0 (by decide) k_X4_count_0 rfl (v := .ref (ad 1)) rfl dX4_count_213 ?_
                      refine g_getN hX 2 h_X4_count_X2 1 rfl rfl 0 (by decide) 3 rfl rfl (v := .ref (ad 2)) rfl dX4_count_216 ?_
                      refine g_cVN_I hX (n := 0) (As := []) (wc := wWr T (ad 2) (ad 3) xv.2.1.2.1) (w1 := wWr T (ad 2) (ad 3) xv.2.1.2.1) (rv := (F_X3_evenness xv.2.1.2.1)) (st := []) 2 rfl rfl (c_X3_evenness (xL X) T (xB X) (ad 2) (ad 3) xv.2.1.2.1) ggX4_count_X3_evenness 53 rfl k_X4_count_4 k_X4_count_24 k_X4_count_25 rfl rfl rfl ⟨Nat.le_of_ble_eq_true rfl, Nat.le_of_ble_eq_true rfl⟩ ⟨Nat.zero_le _, Nat.zero_le _⟩ ⟨by decide +kernel, by decide +kernel, by decide +kernel⟩ rfl [2, 3] rfl rfl (by decide) rfl (Nat.le_of_ble_eq_true rfl) dX4_count_219 (ws' := wXX T ad xv) rfl ?_
                      have e9 : F_X4_count xv p1 = (F_X3_evenness xv.2.1.2.1) := by simp only [F_X4_count, eq_false c_1_0, eq_false c_1_1, eq_false c_1_2, eq_false c_1_3, eq_false c_1_4, eq_false c_1_5, eq_false c_1_6, eq_false c_1_7, eq_false c_1_8, eq_true c_1_9, if_true, if_false]
                      rw [e9]
                      exact g_iret hX dX4_count_222 rfl rfl
                    · skip
                      by_cases c_1_10 : p1 = 10
                      · skip
                        refine g_tabIn hX (off := 222) 223 dX4_count_1 (by rw [c_1_10]; decide) (by rw [c_1_10]; decide) (by rw [c_1_10]; decide) (by decide) ?_
                        refine g_aload_n hX dX4_count_223 rfl 0 rfl ?_
                        refine g_get hX 4 h_X4_count_X4 0 rfl rfl 0 (by decide) k_X4_count_0 rfl (v := .ref (ad 1)) rfl dX4_count_224 ?_
                        refine g_getN hX 2 h_X4_count_X2 1 rfl rfl 0 (by decide) 3 rfl rfl (v := .ref (ad 2)) rfl dX4_count_227 ?_
                        refine g_cVN_I hX (n := 0) (As := []) (wc := wWr T (ad 2) (ad 3) xv.2.1.2.1) (w1 := wWr T (ad 2) (ad 3) xv.2.1.2.1) (rv := (F_X3_ribbons xv.2.1.2.1)) (st := []) 2 rfl rfl (c_X3_ribbons (xL X) T (xB X) (ad 2) (ad 3) xv.2.1.2.1) ggX4_count_X3_ribbons 52 rfl k_X4_count_4 k_X4_count_32 k_X4_count_33 rfl rfl rfl ⟨Nat.le_of_ble_eq_true rfl, Nat.le_of_ble_eq_true rfl⟩ ⟨Nat.zero_le _, Nat.zero_le _⟩ ⟨by decide +kernel, by decide +kernel, by decide +kernel⟩ rfl [2, 3] rfl rfl (by decide) rfl (Nat.le_of_ble_eq_true rfl) dX4_count_230 (ws' := wXX T ad xv) rfl ?_
                        have e9 : F_X4_count xv p1 = (F_X3_ribbons xv.2.1.2.1) := by simp only [F_X4_count, eq_false c_1_0, eq_false c_1_1, eq_false c_1_2, eq_false c_1_3, eq_false c_1_4, eq_false c_1_5, eq_false c_1_6, eq_false c_1_7, eq_false c_1_8, eq_false c_1_9, eq_true c_1_10, if_true, if_false]
                        rw [e9]
                        exact g_iret hX dX4_count_233 rfl rfl
                      · skip
                        by_cases c_1_11 : p1 = 11
                        · skip
                          refine g_tabIn hX (off := 233) 234 dX4_count_1 (by rw [c_1_11]; decide) (by rw [c_1_11]; decide) (by rw [c_1_11]; decide) (by decide) ?_
                          refine g_aload_n hX dX4_count_234 rfl 0 rfl ?_
                          refine g_get hX 4 h_X4_count_X4 0 rfl rfl 0 (by decide) k_X4_count_0 rfl (v := .ref (ad 1)) rfl dX4_count_235 ?_
                          refine g_perm (pm_1 _ _ _ _ _ _ _) ?_
                          refine g_pVN_I hX (n := 0) (As := []) (wc := wSt T (ad 1) (ad 2) (ad 3) (ad 4) (ad 5) xv.2.1) (w1 := wSt T (ad 1) (ad 2) (ad 3) (ad 4) (ad 5) xv.2.1) (rv := (F_X2_allKnots xv.2.1)) (st := []) 0 rfl rfl (c_X2_allKnots (xL X) T (xB X) (ad 1) (ad 2) (ad 3) (ad 4) (ad 5) xv.2.1) ggX4_count_X2_allKnots 64 rfl k_X4_count_16 k_X4_count_47 k_X4_count_48 rfl rfl rfl ⟨Nat.le_of_ble_eq_true rfl, Nat.le_of_ble_eq_true rfl⟩ ⟨Nat.zero_le _, Nat.zero_le _⟩ ⟨by decide +kernel, by decide +kernel, by decide +kernel⟩ rfl rfl rfl rfl (Nat.le_of_ble_eq_true rfl) dX4_count_238 rfl ?_
                          refine g_perm (pm_1 _ _ _ _ _ _ _).symm ?_
                          refine g_cast (ws' := wXX T ad xv) rfl ?_
                          have e9 : F_X4_count xv p1 = (F_X2_allKnots xv.2.1) := by simp only [F_X4_count, eq_false c_1_0, eq_false c_1_1, eq_false c_1_2, eq_false c_1_3, eq_false c_1_4, eq_false c_1_5, eq_false c_1_6, eq_false c_1_7, eq_false c_1_8, eq_false c_1_9, eq_false c_1_10, eq_true c_1_11, if_true, if_false]
                          rw [e9]
                          exact g_iret hX dX4_count_241 rfl rfl
                        · skip
                          by_cases c_1_12 : p1 = 12
                          · skip
                            refine g_tabIn hX (off := 241) 242 dX4_count_1 (by rw [c_1_12]; decide) (by rw [c_1_12]; decide) (by rw [c_1_12]; decide) (by decide) ?_
                            refine g_aload_n hX dX4_count_242 rfl 0 rfl ?_
                            refine g_get hX 4 h_X4_count_X4 0 rfl rfl 0 (by decide) k_X4_count_0 rfl (v := .ref (ad 1)) rfl dX4_count_243 ?_
                            refine g_getN hX 2 h_X4_count_X2 1 rfl rfl 8 (by decide) 8 rfl rfl (v := .int (xv.2.1.1 5)) rfl dX4_count_246 ?_
                            have e9 : F_X4_count xv p1 = (xv.2.1.1 5) := by simp only [F_X4_count, eq_false c_1_0, eq_false c_1_1, eq_false c_1_2, eq_false c_1_3, eq_false c_1_4, eq_false c_1_5, eq_false c_1_6, eq_false c_1_7, eq_false c_1_8, eq_false c_1_9, eq_false c_1_10, eq_false c_1_11, eq_true c_1_12, if_true, if_false]
                            rw [e9]
                            exact g_iret hX dX4_count_249 rfl rfl
                          · skip
                            by_cases c_1_13 : p1 = 13
                            · skip
                              refine g_tabIn hX (off := 249) 250 dX4_count_1 (by rw [c_1_13]; decide) (by rw [c_1_13]; decide) (by rw [c_1_13]; decide) (by decide) ?_
                              refine g_aload_n hX dX4_count_250 rfl 0 rfl ?_
                              refine g_get hX 4 h_X4_count_X4 0 rfl rfl 0 (by decide) k_X4_count_0 rfl (v := .ref (ad 1)) rfl dX4_count_251 ?_
                              refine g_getN hX 2 h_X4_count_X2 1 rfl rfl 9 (by decide) 9 rfl rfl (v := .int (xv.2.1.1 6)) rfl dX4_count_254 ?_
                              have e9 : F_X4_count xv p1 = (xv.2.1.1 6) := by simp only [F_X4_count, eq_false c_1_0, eq_false c_1_1, eq_false c_1_2, eq_false c_1_3, eq_false c_1_4, eq_false c_1_5, eq_false c_1_6, eq_false c_1_7, eq_false c_1_8, eq_false c_1_9, eq_false c_1_10, eq_false c_1_11, eq_false c_1_12, eq_true c_1_13, if_true, if_false]
                              rw [e9]
                              exact g_iret hX dX4_count_257 rfl rfl
                            · skip
                              by_cases c_1_14 : p1 = 14
                              · skip
                                refine g_tabIn hX (off := 257) 258 dX4_count_1 (by rw [c_1_14]; decide) (by rw [c_1_14]; decide) (by rw [c_1_14]; decide) (by decide) ?_
                                refine g_aload_n hX dX4_count_258 rfl 0 rfl ?_
                                refine g_get hX 4 h_X4_count_X4 0 rfl rfl 0 (by decide) k_X4_count_0 rfl (v := .ref (ad 1)) rfl dX4_count_259 ?_
                                refine g_getN hX 2 h_X4_count_X2 1 rfl rfl 10 (by decide) 10 rfl rfl (v := .int (xv.2.1.1 7)) rfl dX4_count_262 ?_
                                have e9 : F_X4_count xv p1 = (xv.2.1.1 7) := by simp only [F_X4_count, eq_false c_1_0, eq_false c_1_1, eq_false c_1_2, eq_false c_1_3, eq_false c_1_4, eq_false c_1_5, eq_false c_1_6, eq_false c_1_7, eq_false c_1_8, eq_false c_1_9, eq_false c_1_10, eq_false c_1_11, eq_false c_1_12, eq_false c_1_13, eq_true c_1_14, if_true, if_false]
                                rw [e9]
                                exact g_iret hX dX4_count_265 rfl rfl
                              · skip
                                by_cases c_1_15 : p1 = 15
                                · skip
                                  refine g_tabIn hX (off := 265) 266 dX4_count_1 (by rw [c_1_15]; decide) (by rw [c_1_15]; decide) (by rw [c_1_15]; decide) (by decide) ?_
                                  refine g_aload_n hX dX4_count_266 rfl 0 rfl ?_
                                  refine g_get hX 4 h_X4_count_X4 0 rfl rfl 4 (by decide) k_X4_count_1 rfl (v := .ref (ad 18)) rfl dX4_count_267 ?_
                                  refine g_getN hX 1 h_X4_count_X1 18 rfl rfl 2 (by decide) 11 rfl rfl (v := .int (xv.2.2.2.2.2.1.1 1)) rfl dX4_count_270 ?_
                                  have e9 : F_X4_count xv p1 = (xv.2.2.2.2.2.1.1 1) := by simp only [F_X4_count, eq_false c_1_0, eq_false c_1_1, eq_false c_1_2, eq_false c_1_3, eq_false c_1_4, eq_false c_1_5, eq_false c_1_6, eq_false c_1_7, eq_false c_1_8, eq_false c_1_9, eq_false c_1_10, eq_false c_1_11, eq_false c_1_12, eq_false c_1_13, eq_false c_1_14, eq_true c_1_15, if_true, if_false]
                                  rw [e9]
                                  exact g_iret hX dX4_count_273 rfl rfl
                                · skip
                                  by_cases c_1_16 : p1 = 16
                                  · skip
                                    refine g_tabIn hX (off := 273) 274 dX4_count_1 (by rw [c_1_16]; decide) (by rw [c_1_16]; decide) (by rw [c_1_16]; decide) (by decide) ?_
                                    refine g_aload_n hX dX4_count_274 rfl 0 rfl ?_
                                    refine g_get hX 4 h_X4_count_X4 0 rfl rfl 5 (by decide) k_X4_count_2 rfl (v := .ref (ad 40)) rfl dX4_count_275 ?_
                                    refine g_getN hX 0 h_X4_count_X0 40 rfl rfl 3 (by decide) 12 rfl rfl (v := .int (xv.2.2.2.2.2.2.1 0)) rfl dX4_count_278 ?_
                                    have e9 : F_X4_count xv p1 = (xv.2.2.2.2.2.2.1 0) := by simp only [F_X4_count, eq_false c_1_0, eq_false c_1_1, eq_false c_1_2, eq_false c_1_3, eq_false c_1_4, eq_false c_1_5, eq_false c_1_6, eq_false c_1_7, eq_false c_1_8, eq_false c_1_9, eq_false c_1_10, eq_false c_1_11, eq_false c_1_12, eq_false c_1_13, eq_false c_1_14, eq_false c_1_15, eq_true c_1_16, if_true, if_false]
                                    rw [e9]
                                    exact g_iret hX dX4_count_281 rfl rfl
                                  · skip
                                    by_cases c_1_20 : p1 = 20
                                    · skip
                                      refine g_tabIn hX (off := 281) 282 dX4_count_1 (by rw [c_1_20]; decide) (by rw [c_1_20]; decide) (by rw [c_1_20]; decide) (by decide) ?_
                                      refine g_aload_n hX dX4_count_282 rfl 0 rfl ?_
                                      refine g_get hX 4 h_X4_count_X4 0 rfl rfl 0 (by decide) k_X4_count_0 rfl (v := .ref (ad 1)) rfl dX4_count_283 ?_
                                      refine g_iload_n hX dX4_count_286 rfl 1 rfl ?_
                                      refine g_bipush hX (v := 20) dX4_count_287 (by decide) ?_
                                      refine g_isub hX dX4_count_289 ?_
                                      refine g_perm (pm_1 _ _ _ _ _ _ _) ?_
                                      refine g_pVN_I hX (n := 1) (As := [.int (p1 - 20)]) (wc := wSt T (ad 1) (ad 2) (ad 3) (ad 4) (ad 5) xv.2.1) (w1 := wSt T (ad 1) (ad 2) (ad 3) (ad 4) (ad 5) xv.2.1) (rv := (F_X2_number xv.2.1 (p1 - 20))) (st := []) 0 rfl rfl (c_X2_number (xL X) T (xB X) (ad 1) (ad 2) (ad 3) (ad 4) (ad 5) xv.2.1 (p1 - 20)) ggX4_count_X2_number 59 rfl k_X4_count_16 k_X4_count_51 k_X4_count_52 rfl rfl rfl ⟨Nat.le_of_ble_eq_true rfl, Nat.le_of_ble_eq_true rfl⟩ ⟨Nat.zero_le _, Nat.zero_le _⟩ ⟨by decide +kernel, by decide +kernel, by decide +kernel⟩ rfl rfl rfl rfl (Nat.le_of_ble_eq_true rfl) dX4_count_290 rfl ?_
                                      refine g_perm (pm_1 _ _ _ _ _ _ _).symm ?_
                                      refine g_cast (ws' := wXX T ad xv) rfl ?_
                                      have e9 : F_X4_count xv p1 = (F_X2_number xv.2.1 (p1 - 20)) := by simp only [F_X4_count, eq_false c_1_0, eq_false c_1_1, eq_false c_1_2, eq_false c_1_3, eq_false c_1_4, eq_false c_1_5, eq_false c_1_6, eq_false c_1_7, eq_false c_1_8, eq_false c_1_9, eq_false c_1_10, eq_false c_1_11, eq_false c_1_12, eq_false c_1_13, eq_false c_1_14, eq_false c_1_15, eq_false c_1_16, eq_true c_1_20, if_true, if_false]
                                      rw [e9]
                                      exact g_iret hX dX4_count_293 rfl rfl
                                    · skip
                                      by_cases c_1_21 : p1 = 21
                                      · skip
                                        refine g_tabIn hX (off := 281) 282 dX4_count_1 (by rw [c_1_21]; decide) (by rw [c_1_21]; decide) (by rw [c_1_21]; decide) (by decide) ?_
                                        refine g_aload_n hX dX4_count_282 rfl 0 rfl ?_
                                        refine g_get hX 4 h_X4_count_X4 0 rfl rfl 0 (by decide) k_X4_count_0 rfl (v := .ref (ad 1)) rfl dX4_count_283 ?_
                                        refine g_iload_n hX dX4_count_286 rfl 1 rfl ?_
                                        refine g_bipush hX (v := 20) dX4_count_287 (by decide) ?_
                                        refine g_isub hX dX4_count_289 ?_
                                        refine g_perm (pm_1 _ _ _ _ _ _ _) ?_
                                        refine g_pVN_I hX (n := 1) (As := [.int (p1 - 20)]) (wc := wSt T (ad 1) (ad 2) (ad 3) (ad 4) (ad 5) xv.2.1) (w1 := wSt T (ad 1) (ad 2) (ad 3) (ad 4) (ad 5) xv.2.1) (rv := (F_X2_number xv.2.1 (p1 - 20))) (st := []) 0 rfl rfl (c_X2_number (xL X) T (xB X) (ad 1) (ad 2) (ad 3) (ad 4) (ad 5) xv.2.1 (p1 - 20)) ggX4_count_X2_number 59 rfl k_X4_count_16 k_X4_count_51 k_X4_count_52 rfl rfl rfl ⟨Nat.le_of_ble_eq_true rfl, Nat.le_of_ble_eq_true rfl⟩ ⟨Nat.zero_le _, Nat.zero_le _⟩ ⟨by decide +kernel, by decide +kernel, by decide +kernel⟩ rfl rfl rfl rfl (Nat.le_of_ble_eq_true rfl) dX4_count_290 rfl ?_
                                        refine g_perm (pm_1 _ _ _ _ _ _ _).symm ?_
                                        refine g_cast (ws' := wXX T ad xv) rfl ?_
                                        have e9 : F_X4_count xv p1 = (F_X2_number xv.2.1 (p1 - 20)) := by simp only [F_X4_count, eq_false c_1_0, eq_false c_1_1, eq_false c_1_2, eq_false c_1_3, eq_false c_1_4, eq_false c_1_5, eq_false c_1_6, eq_false c_1_7, eq_false c_1_8, eq_false c_1_9, eq_false c_1_10, eq_false c_1_11, eq_false c_1_12, eq_false c_1_13, eq_false c_1_14, eq_false c_1_15, eq_false c_1_16, eq_false c_1_20, eq_true c_1_21, if_true, if_false]
                                        rw [e9]
                                        exact g_iret hX dX4_count_293 rfl rfl
                                      · skip
                                        by_cases c_1_22 : p1 = 22
                                        · skip
                                          refine g_tabIn hX (off := 281) 282 dX4_count_1 (by rw [c_1_22]; decide) (by rw [c_1_22]; decide) (by rw [c_1_22]; decide) (by decide) ?_
                                          refine g_aload_n hX dX4_count_282 rfl 0 rfl ?_
                                          refine g_get hX 4 h_X4_count_X4 0 rfl rfl 0 (by decide) k_X4_count_0 rfl (v := .ref (ad 1)) rfl dX4_count_283 ?_
                                          refine g_iload_n hX dX4_count_286 rfl 1 rfl ?_
                                          refine g_bipush hX (v := 20) dX4_count_287 (by decide) ?_
                                          refine g_isub hX dX4_count_289 ?_
                                          refine g_perm (pm_1 _ _ _ _ _ _ _) ?_
                                          refine g_pVN_I hX (n := 1) (As := [.int (p1 - 20)]) (wc := wSt T (ad 1) (ad 2) (ad 3) (ad 4) (ad 5) xv.2.1) (w1 := wSt T (ad 1) (ad 2) (ad 3) (ad 4) (ad 5) xv.2.1) (rv := (F_X2_number xv.2.1 (p1 - 20))) (st := []) 0 rfl rfl (c_X2_number (xL X) T (xB X) (ad 1) (ad 2) (ad 3) (ad 4) (ad 5) xv.2.1 (p1 - 20)) ggX4_count_X2_number 59 rfl k_X4_count_16 k_X4_count_51 k_X4_count_52 rfl rfl rfl ⟨Nat.le_of_ble_eq_true rfl, Nat.le_of_ble_eq_true rfl⟩ ⟨Nat.zero_le _, Nat.zero_le _⟩ ⟨by decide +kernel, by decide +kernel, by decide +kernel⟩ rfl rfl rfl rfl (Nat.le_of_ble_eq_true rfl) dX4_count_290 rfl ?_
                                          refine g_perm (pm_1 _ _ _ _ _ _ _).symm ?_
                                          refine g_cast (ws' := wXX T ad xv) rfl ?_
                                          have e9 : F_X4_count xv p1 = (F_X2_number xv.2.1 (p1 - 20)) := by simp only [F_X4_count, eq_false c_1_0, eq_false c_1_1, eq_false c_1_2, eq_false c_1_3, eq_false c_1_4, eq_false c_1_5, eq_false c_1_6, eq_false c_1_7, eq_false c_1_8, eq_false c_1_9, eq_false c_1_10, eq_false c_1_11, eq_false c_1_12, eq_false c_1_13, eq_false c_1_14, eq_false c_1_15, eq_false c_1_16, eq_false c_1_20, eq_false c_1_21, eq_true c_1_22, if_true, if_false]
                                          rw [e9]
                                          exact g_iret hX dX4_count_293 rfl rfl
                                        · skip
                                          by_cases c_1_23 : p1 = 23
                                          · skip
                                            refine g_tabIn hX (off := 281) 282 dX4_count_1 (by rw [c_1_23]; decide) (by rw [c_1_23]; decide) (by rw [c_1_23]; decide) (by decide) ?_
                                            refine g_aload_n hX dX4_count_282 rfl 0 rfl ?_
                                            refine g_get hX 4 h_X4_count_X4 0 rfl rfl 0 (by decide) k_X4_count_0 rfl (v := .ref (ad 1)) rfl dX4_count_283 ?_
                                            refine g_iload_n hX dX4_count_286 rfl 1 rfl ?_
                                            refine g_bipush hX (v := 20) dX4_count_287 (by decide) ?_
                                            refine g_isub hX dX4_count_289 ?_
                                            refine g_perm (pm_1 _ _ _ _ _ _ _) ?_
                                            refine g_pVN_I hX (n := 1) (As := [.int (p1 - 20)]) (wc := wSt T (ad 1) (ad 2) (ad 3) (ad 4) (ad 5) xv.2.1) (w1 := wSt T (ad 1) (ad 2) (ad 3) (ad 4) (ad 5) xv.2.1) (rv := (F_X2_number xv.2.1 (p1 - 20))) (st := []) 0 rfl rfl (c_X2_number (xL X) T (xB X) (ad 1) (ad 2) (ad 3) (ad 4) (ad 5) xv.2.1 (p1 - 20)) ggX4_count_X2_number 59 rfl k_X4_count_16 k_X4_count_51 k_X4_count_52 rfl rfl rfl ⟨Nat.le_of_ble_eq_true rfl, Nat.le_of_ble_eq_true rfl⟩ ⟨Nat.zero_le _, Nat.zero_le _⟩ ⟨by decide +kernel, by decide +kernel, by decide +kernel⟩ rfl rfl rfl rfl (Nat.le_of_ble_eq_true rfl) dX4_count_290 rfl ?_
                                            refine g_perm (pm_1 _ _ _ _ _ _ _).symm ?_
                                            refine g_cast (ws' := wXX T ad xv) rfl ?_
                                            have e9 : F_X4_count xv p1 = (F_X2_number xv.2.1 (p1 - 20)) := by simp only [F_X4_count, eq_false c_1_0, eq_false c_1_1, eq_false c_1_2, eq_false c_1_3, eq_false c_1_4, eq_false c_1_5, eq_false c_1_6, eq_false c_1_7, eq_false c_1_8, eq_false c_1_9, eq_false c_1_10, eq_false c_1_11, eq_false c_1_12, eq_false c_1_13, eq_false c_1_14, eq_false c_1_15, eq_false c_1_16, eq_false c_1_20, eq_false c_1_21, eq_false c_1_22, eq_true c_1_23, if_true, if_false]
                                            rw [e9]
                                            exact g_iret hX dX4_count_293 rfl rfl
                                          · skip
                                            by_cases c_1_24 : p1 = 24
                                            · skip
                                              refine g_tabIn hX (off := 281) 282 dX4_count_1 (by rw [c_1_24]; decide) (by rw [c_1_24]; decide) (by rw [c_1_24]; decide) (by decide) ?_
                                              refine g_aload_n hX dX4_count_282 rfl 0 rfl ?_
                                              refine g_get hX 4 h_X4_count_X4 0 rfl rfl 0 (by decide) k_X4_count_0 rfl (v := .ref (ad 1)) rfl dX4_count_283 ?_
                                              refine g_iload_n hX dX4_count_286 rfl 1 rfl ?_
                                              refine g_bipush hX (v := 20) dX4_count_287 (by decide) ?_
                                              refine g_isub hX dX4_count_289 ?_
                                              refine g_perm (pm_1 _ _ _ _ _ _ _) ?_
                                              refine g_pVN_I hX (n := 1) (As := [.int (p1 - 20)]) (wc := wSt T (ad 1) (ad 2) (ad 3) (ad 4) (ad 5) xv.2.1) (w1 := wSt T (ad 1) (ad 2) (ad 3) (ad 4) (ad 5) xv.2.1) (rv := (F_X2_number xv.2.1 (p1 - 20))) (st := []) 0 rfl rfl (c_X2_number (xL X) T (xB X) (ad 1) (ad 2) (ad 3) (ad 4) (ad 5) xv.2.1 (p1 - 20)) ggX4_count_X2_number 59 rfl k_X4_count_16 k_X4_count_51 k_X4_count_52 rfl rfl rfl ⟨Nat.le_of_ble_eq_true rfl, Nat.le_of_ble_eq_true rfl⟩ ⟨Nat.zero_le _, Nat.zero_le _⟩ ⟨by decide +kernel, by decide +kernel, by decide +kernel⟩ rfl rfl rfl rfl (Nat.le_of_ble_eq_true rfl) dX4_count_290 rfl ?_
                                              refine g_perm (pm_1 _ _ _ _ _ _ _).symm ?_
                                              refine g_cast (ws' := wXX T ad xv) rfl ?_
                                              have e9 : F_X4_count xv p1 = (F_X2_number xv.2.1 (p1 - 20)) := by simp only [F_X4_count, eq_false c_1_0, eq_false c_1_1, eq_false c_1_2, eq_false c_1_3, eq_false c_1_4, eq_false c_1_5, eq_false c_1_6, eq_false c_1_7, eq_false c_1_8, eq_false c_1_9, eq_false c_1_10, eq_false c_1_11, eq_false c_1_12, eq_false c_1_13, eq_false c_1_14, eq_false c_1_15, eq_false c_1_16, eq_false c_1_20, eq_false c_1_21, eq_false c_1_22, eq_false c_1_23, eq_true c_1_24, if_true, if_false]
                                              rw [e9]
                                              exact g_iret hX dX4_count_293 rfl rfl
                                            · skip
                                              have tc_1_0 : ¬ Int32.toInt p1 = 0 := lv_neT c_1_0 (by decide)
                                              have tc_1_1 : ¬ Int32.toInt p1 = 1 := lv_neT c_1_1 (by decide)
                                              have tc_1_2 : ¬ Int32.toInt p1 = 2 := lv_neT c_1_2 (by decide)
                                              have tc_1_3 : ¬ Int32.toInt p1 = 3 := lv_neT c_1_3 (by decide)
                                              have tc_1_4 : ¬ Int32.toInt p1 = 4 := lv_neT c_1_4 (by decide)
                                              have tc_1_5 : ¬ Int32.toInt p1 = 5 := lv_neT c_1_5 (by decide)
                                              have tc_1_6 : ¬ Int32.toInt p1 = 6 := lv_neT c_1_6 (by decide)
                                              have tc_1_7 : ¬ Int32.toInt p1 = 7 := lv_neT c_1_7 (by decide)
                                              have tc_1_8 : ¬ Int32.toInt p1 = 8 := lv_neT c_1_8 (by decide)
                                              have tc_1_9 : ¬ Int32.toInt p1 = 9 := lv_neT c_1_9 (by decide)
                                              have tc_1_10 : ¬ Int32.toInt p1 = 10 := lv_neT c_1_10 (by decide)
                                              have tc_1_11 : ¬ Int32.toInt p1 = 11 := lv_neT c_1_11 (by decide)
                                              have tc_1_12 : ¬ Int32.toInt p1 = 12 := lv_neT c_1_12 (by decide)
                                              have tc_1_13 : ¬ Int32.toInt p1 = 13 := lv_neT c_1_13 (by decide)
                                              have tc_1_14 : ¬ Int32.toInt p1 = 14 := lv_neT c_1_14 (by decide)
                                              have tc_1_15 : ¬ Int32.toInt p1 = 15 := lv_neT c_1_15 (by decide)
                                              have tc_1_16 : ¬ Int32.toInt p1 = 16 := lv_neT c_1_16 (by decide)
                                              have tc_1_20 : ¬ Int32.toInt p1 = 20 := lv_neT c_1_20 (by decide)
                                              have tc_1_21 : ¬ Int32.toInt p1 = 21 := lv_neT c_1_21 (by decide)
                                              have tc_1_22 : ¬ Int32.toInt p1 = 22 := lv_neT c_1_22 (by decide)
                                              have tc_1_23 : ¬ Int32.toInt p1 = 23 := lv_neT c_1_23 (by decide)
                                              have tc_1_24 : ¬ Int32.toInt p1 = 24 := lv_neT c_1_24 (by decide)
                                              have hg_1 : Int32.toInt p1 < 0 ∨ 24 < Int32.toInt p1 ∨ Int32.toInt p1 = 17 ∨ Int32.toInt p1 = 18 ∨ Int32.toInt p1 = 19 := by omega
                                              refine g_tabDef hX 294 dX4_count_1 (by rcases hg_1 with hg | hg | hg | hg | hg; exact Or.inl hg; exact Or.inr (Or.inl hg); all_goals (exact Or.inr (Or.inr (by rw [hg]; decide)))) (by decide) ?_
                                              refine g_bipush hX (v := (-2)) dX4_count_294 (by decide) ?_
                                              have e9 : F_X4_count xv p1 = (-2) := by simp only [F_X4_count, eq_false c_1_0, eq_false c_1_1, eq_false c_1_2, eq_false c_1_3, eq_false c_1_4, eq_false c_1_5, eq_false c_1_6, eq_false c_1_7, eq_false c_1_8, eq_false c_1_9, eq_false c_1_10, eq_false c_1_11, eq_false c_1_12, eq_false c_1_13, eq_false c_1_14, eq_false c_1_15, eq_false c_1_16, eq_false c_1_20, eq_false c_1_21, eq_false c_1_22, eq_false c_1_23, eq_false c_1_24, if_true, if_false]
                                              rw [e9]
                                              exact g_iret hX dX4_count_296 rfl rfl
