/-! X4_breaksIn -/
def rmX4_breaksIn : Room := { frames := 3, cells := 0, slots := 0, locals := 82 }
theorem k_X4_breaksIn_0 : Cond.fieldLink RX4 12 RX4 (TX4 0).2.1 (TX4 0).2.2.1 ∈ wsX4_breaksIn := List.mem_of_getElem? (i := 1) rfl
theorem h_X4_breaksIn_X4 : ∀ w ∈ u_ws RX4 TX4 8, w ∈ wsX4_breaksIn := fun w h => List.mem_cons_of_mem _ (List.mem_append_left _ (List.mem_append_left _ (List.mem_append_right _ h)))
theorem h_X4_breaksIn_X2 : ∀ w ∈ u_ws RX2 TX2 11, w ∈ wsX4_breaksIn := fun w h => List.mem_cons_of_mem _ (List.mem_append_left _ (List.mem_append_right _ h))
theorem k_X4_breaksIn_3 : Cond.initialized RX2 ∈ wsX4_breaksIn := List.mem_of_getElem? (i := 4) rfl
theorem k_X4_breaksIn_2 : Cond.instanceMethod yX2_isConeEmpty ∈ wsX4_breaksIn := List.mem_of_getElem? (i := 3) rfl
theorem k_X4_breaksIn_4 : Cond.selects RX2 yX2_isConeEmpty yX2_isConeEmpty ∈ wsX4_breaksIn := List.mem_of_getElem? (i := 5) rfl
theorem k_X4_breaksIn_1 : Cond.fieldLink RX4 16 RX4 (TX4 1).2.1 (TX4 1).2.2.1 ∈ wsX4_breaksIn := List.mem_of_getElem? (i := 2) rfl
theorem k_X4_breaksIn_7 : Cond.instanceMethod yX2_copyFrom ∈ wsX4_breaksIn := List.mem_of_getElem? (i := 8) rfl
theorem k_X4_breaksIn_8 : Cond.selects RX2 yX2_copyFrom yX2_copyFrom ∈ wsX4_breaksIn := List.mem_of_getElem? (i := 9) rfl
theorem k_X4_breaksIn_33 : Cond.instanceMethod yX2_isIdle ∈ wsX4_breaksIn := List.mem_of_getElem? (i := 34) rfl
theorem k_X4_breaksIn_34 : Cond.selects RX2 yX2_isIdle yX2_isIdle ∈ wsX4_breaksIn := List.mem_of_getElem? (i := 35) rfl
theorem k_X4_breaksIn_40 : Cond.instanceMethod yX2_turnOnce ∈ wsX4_breaksIn := List.mem_of_getElem? (i := 41) rfl
theorem k_X4_breaksIn_41 : Cond.selects RX2 yX2_turnOnce yX2_turnOnce ∈ wsX4_breaksIn := List.mem_of_getElem? (i := 42) rfl
def K_X4_breaksIn_36 : Nat → XV → Nat → Int32 × XV
  | 0, xv, j => (0, xv)
  | n + 1, xv, j => (if 1000 < (nI j) then ((-5), xv) else (if (F_X2_isIdle xv.2.2.1) = 0 then (let z_57 := F_X2_turnOnce xv.2.2.1
  (if (z_57.1 2) = 0 then K_X4_breaksIn_36 n (xv.1, xv.2.1, z_57, xv.2.2.2.1, xv.2.2.2.2.1, xv.2.2.2.2.2.1, xv.2.2.2.2.2.2) (j + 1) else ((nI j), (xv.1, xv.2.1, z_57, xv.2.2.2.1, xv.2.2.2.2.1, xv.2.2.2.2.2.1, xv.2.2.2.2.2.2)))) else ((-5), xv)))
def F_X4_breaksIn (xv : XV) : Int32 × XV :=
  (if (xv.2.1.1 2) = 0 then (if (F_X2_isConeEmpty xv.2.1) = 0 then K_X4_breaksIn_36 1001 (xv.1, xv.2.1, xv.2.1, xv.2.2.2.1, xv.2.2.2.2.1, xv.2.2.2.2.2.1, xv.2.2.2.2.2.2) 1 else ((-4), xv)) else ((-4), xv))
set_option maxHeartbeats 4000000 in
set_option maxRecDepth 100000 in
theorem k_X4_breaksIn_36 {T : TT} {X : CX} (hX : Fit T X (yX4_breaksIn).cls 2 wsX4_breaksIn cX4_breaksIn (some .int) rmX4_breaksIn) (ad : Nat → Nat) : ∀ (n : Nat) (xv : XV) (j : Nat) (hn : j + n = 1002) (hj : j ≤ 1001), G T X (QI T X 0 0 ((K_X4_breaksIn_36 n xv j).1) (wXX T ad ((K_X4_breaksIn_36 n xv j).2))) 0 0 (wXX T ad xv) [(1, .int (nI j)), (0, .ref (ad 0))] 36 [] := by
  intro n
  induction n with
  | zero =>
    intro xv j hn hj
    exact absurd hn (by omega)
  | succ n ih =>
    intro xv j hn hj
    refine g_iload_n hX dX4_breaksIn_36 rfl 0 rfl ?_
    refine g_sipush hX (v := 1000) dX4_breaksIn_37 (by decide) ?_
    refine g_icmp_gt hX 78 dX4_breaksIn_40 (by decide) (fun c_40 => ?_) (fun c_40 => ?_)
    · skip
      refine g_bipush hX (v := (-5)) dX4_breaksIn_78 (by decide) ?_
      have e9 : K_X4_breaksIn_36 (n + 1) xv j = ((-5), xv) := by simp only [K_X4_breaksIn_36, eq_true c_40, if_true, if_false]
      rw [e9]
      exact g_iret hX dX4_breaksIn_80 rfl rfl
    · skip
      have hlt_40 : j ≤ 1000 := nle_of c_40 (by decide) (by omega)
      refine g_aload_n hX dX4_breaksIn_43 rfl 1 rfl ?_
      refine g_get hX 4 h_X4_breaksIn_X4 0 rfl rfl 1 (by decide) k_X4_breaksIn_1 rfl (v := .ref (ad 6)) rfl dX4_breaksIn_44 ?_
      refine g_perm (pm_2 _ _ _ _ _ _ _) ?_
      refine g_pVN_I hX (n := 0) (As := []) (wc := wSt T (ad 6) (ad 7) (ad 8) (ad 9) (ad 10) xv.2.2.1) (w1 := wSt T (ad 6) (ad 7) (ad 8) (ad 9) (ad 10) xv.2.2.1) (rv := (F_X2_isIdle xv.2.2.1)) (st := []) 0 rfl rfl (c_X2_isIdle (xL X) T (xB X) (ad 6) (ad 7) (ad 8) (ad 9) (ad 10) xv.2.2.1) ggX4_breaksIn_X2_isIdle 54 rfl k_X4_breaksIn_3 k_X4_breaksIn_33 k_X4_breaksIn_34 rfl rfl rfl ⟨Nat.le_of_ble_eq_true rfl, Nat.le_of_ble_eq_true rfl⟩ ⟨Nat.zero_le _, Nat.zero_le _⟩ ⟨by decide +kernel, by decide +kernel, by decide +kernel⟩ rfl rfl rfl rfl (Nat.le_of_ble_eq_true rfl) dX4_breaksIn_47 rfl ?_
      refine g_perm (pm_2 _ _ _ _ _ _ _).symm ?_
      refine g_cast (ws' := wXX T ad xv) rfl ?_
      refine g_if_ne hX 78 dX4_breaksIn_50 (by decide) (fun c_50 => ?_) (fun c_50 => ?_)
      · skip
        refine g_bipush hX (v := (-5)) dX4_breaksIn_78 (by decide) ?_
        have e9 : K_X4_breaksIn_36 (n + 1) xv j = ((-5), xv) := by simp only [K_X4_breaksIn_36, eq_false c_40, eq_false c_50, if_true, if_false]
        rw [e9]
        exact g_iret hX dX4_breaksIn_80 rfl rfl
      · skip
        refine g_aload_n hX dX4_breaksIn_53 rfl 1 rfl ?_
        refine g_get hX 4 h_X4_breaksIn_X4 0 rfl rfl 1 (by decide) k_X4_breaksIn_1 rfl (v := .ref (ad 6)) rfl dX4_breaksIn_54 ?_
        obtain ⟨z_57, hz_57⟩ : ∃ z : SV, z = F_X2_turnOnce xv.2.2.1 := ⟨_, rfl⟩
        refine g_perm (pm_2 _ _ _ _ _ _ _) ?_
        refine g_pVN_V hX (n := 0) (As := []) (wc := wSt T (ad 6) (ad 7) (ad 8) (ad 9) (ad 10) xv.2.2.1) (w1 := wSt T (ad 6) (ad 7) (ad 8) (ad 9) (ad 10) z_57) (st := []) 0 rfl rfl (by rw [hz_57]; exact (c_X2_turnOnce (xL X) T (xB X) (ad 6) (ad 7) (ad 8) (ad 9) (ad 10) xv.2.2.1)) ggX4_breaksIn_X2_turnOnce 55 rfl k_X4_breaksIn_3 k_X4_breaksIn_40 k_X4_breaksIn_41 rfl rfl rfl ⟨Nat.le_of_ble_eq_true rfl, Nat.le_of_ble_eq_true rfl⟩ ⟨Nat.zero_le _, Nat.zero_le _⟩ ⟨by decide +kernel, by decide +kernel, by decide +kernel⟩ rfl rfl rfl rfl (Nat.le_of_ble_eq_true rfl) dX4_breaksIn_57 rfl ?_
        refine g_perm (pm_2 _ _ _ _ _ _ _).symm ?_
        refine g_cast (ws' := wXX T ad (xv.1, xv.2.1, z_57, xv.2.2.2.1, xv.2.2.2.2.1, xv.2.2.2.2.2.1, xv.2.2.2.2.2.2)) rfl ?_
        refine g_aload_n hX dX4_breaksIn_60 rfl 1 rfl ?_
        refine g_get hX 4 h_X4_breaksIn_X4 0 rfl rfl 1 (by decide) k_X4_breaksIn_1 rfl (v := .ref (ad 6)) rfl dX4_breaksIn_61 ?_
        refine g_getN hX 2 h_X4_breaksIn_X2 6 rfl rfl 5 (by decide) 6 rfl rfl (v := .int (z_57.1 2)) rfl dX4_breaksIn_64 ?_
        refine g_if_eq hX 72 dX4_breaksIn_67 (by decide) (fun c_67 => ?_) (fun c_67 => ?_)
        · skip
          refine g_iinc hX (lv' := [(1, .int (nI (j + 1))), (0, .ref (ad 0))]) (v := (nI (j + 1))) 0 dX4_breaksIn_72 rfl (nI_1 _) (by decide) rfl ?_
          refine g_goto hX 36 dX4_breaksIn_75 (by decide) ?_
          have e9 : K_X4_breaksIn_36 (n + 1) xv j = K_X4_breaksIn_36 n (xv.1, xv.2.1, z_57, xv.2.2.2.1, xv.2.2.2.2.1, xv.2.2.2.2.2.1, xv.2.2.2.2.2.2) (j + 1) := by simp only [K_X4_breaksIn_36, ← hz_57, eq_false c_40, eq_true c_50, eq_true c_67, if_true, if_false]
          rw [e9]
          refine g_lv (lv' := [(1, .int (nI (j + 1))), (0, .ref (ad 0))]) [0, 1] rfl ?_
          exact ih (xv.1, xv.2.1, z_57, xv.2.2.2.1, xv.2.2.2.2.1, xv.2.2.2.2.2.1, xv.2.2.2.2.2.2) (j + 1) (by omega) (by omega)
        · skip
          refine g_iload_n hX dX4_breaksIn_70 rfl 0 rfl ?_
          have e9 : K_X4_breaksIn_36 (n + 1) xv j = ((nI j), (xv.1, xv.2.1, z_57, xv.2.2.2.1, xv.2.2.2.2.1, xv.2.2.2.2.2.1, xv.2.2.2.2.2.2)) := by simp only [K_X4_breaksIn_36, ← hz_57, eq_false c_40, eq_true c_50, eq_false c_67, if_true, if_false]
          rw [e9]
          exact g_iret hX dX4_breaksIn_71 rfl rfl
set_option maxHeartbeats 4000000 in
set_option maxRecDepth 100000 in
theorem c_X4_breaksIn (l : Launch) (T : TT) (b0 : Nat) (ad : Nat → Nat) (xv : XV) (hx : xWF xv) : ConI l T b0 yX4_breaksIn wsX4_breaksIn rmX4_breaksIn [.ref (ad 0)] (wXX T ad xv) ((F_X4_breaksIn xv).1) (wXX T ad ((F_X4_breaksIn xv).2)) := by
  refine conI_of (cc := cX4_breaksIn) (maxL := 2) (ret := (some .int)) (lv0 := [(0, .ref (ad 0))]) (by decide +kernel) rfl (Nat.le_of_ble_eq_true rfl) rfl (fun X hX => ?_)
  refine g_aload_n hX dX4_breaksIn_0 rfl 0 rfl ?_
  refine g_get hX 4 h_X4_breaksIn_X4 0 rfl rfl 0 (by decide) k_X4_breaksIn_0 rfl (v := .ref (ad 1)) rfl dX4_breaksIn_1 ?_
  refine g_getN hX 2 h_X4_breaksIn_X2 1 rfl rfl 5 (by decide) 6 rfl rfl (v := .int (xv.2.1.1 2)) rfl dX4_breaksIn_4 ?_
  refine g_if_ne hX 20 dX4_breaksIn_7 (by decide) (fun c_7 => ?_) (fun c_7 => ?_)
  · skip
    refine g_bipush hX (v := (-4)) dX4_breaksIn_20 (by decide) ?_
    have e9 : F_X4_breaksIn xv = ((-4), xv) := by simp only [F_X4_breaksIn, eq_false c_7, if_true, if_false]
    rw [e9]
    exact g_iret hX dX4_breaksIn_22 rfl rfl
  · skip
    refine g_aload_n hX dX4_breaksIn_10 rfl 0 rfl ?_
    refine g_get hX 4 h_X4_breaksIn_X4 0 rfl rfl 0 (by decide) k_X4_breaksIn_0 rfl (v := .ref (ad 1)) rfl dX4_breaksIn_11 ?_
    refine g_perm (pm_1 _ _ _ _ _ _ _) ?_
    refine g_pVN_I hX (n := 0) (As := []) (wc := wSt T (ad 1) (ad 2) (ad 3) (ad 4) (ad 5) xv.2.1) (w1 := wSt T (ad 1) (ad 2) (ad 3) (ad 4) (ad 5) xv.2.1) (rv := (F_X2_isConeEmpty xv.2.1)) (st := []) 0 rfl rfl (c_X2_isConeEmpty (xL X) T (xB X) (ad 1) (ad 2) (ad 3) (ad 4) (ad 5) xv.2.1) ggX4_breaksIn_X2_isConeEmpty 50 rfl k_X4_breaksIn_3 k_X4_breaksIn_2 k_X4_breaksIn_4 rfl rfl rfl ⟨Nat.le_of_ble_eq_true rfl, Nat.le_of_ble_eq_true rfl⟩ ⟨Nat.zero_le _, Nat.zero_le _⟩ ⟨by decide +kernel, by decide +kernel, by decide +kernel⟩ rfl rfl rfl rfl (Nat.le_of_ble_eq_true rfl) dX4_breaksIn_14 rfl ?_
    refine g_perm (pm_1 _ _ _ _ _ _ _).symm ?_
    refine g_cast (ws' := wXX T ad xv) rfl ?_
    refine g_if_eq hX 23 dX4_breaksIn_17 (by decide) (fun c_17 => ?_) (fun c_17 => ?_)
    · skip
      refine g_aload_n hX dX4_breaksIn_23 rfl 0 rfl ?_
      refine g_get hX 4 h_X4_breaksIn_X4 0 rfl rfl 1 (by decide) k_X4_breaksIn_1 rfl (v := .ref (ad 6)) rfl dX4_breaksIn_24 ?_
      refine g_aload_n hX dX4_breaksIn_27 rfl 0 rfl ?_
      refine g_get hX 4 h_X4_breaksIn_X4 0 rfl rfl 0 (by decide) k_X4_breaksIn_0 rfl (v := .ref (ad 1)) rfl dX4_breaksIn_28 ?_
      refine g_perm (pm_21 _ _ _ _ _ _ _) ?_
      refine g_pVN_V hX (n := 1) (As := [.ref (ad 1)]) (wc := wSt T (ad 6) (ad 7) (ad 8) (ad 9) (ad 10) xv.2.2.1 ++ wSt T (ad 1) (ad 2) (ad 3) (ad 4) (ad 5) xv.2.1) (w1 := wSt T (ad 6) (ad 7) (ad 8) (ad 9) (ad 10) xv.2.1 ++ wSt T (ad 1) (ad 2) (ad 3) (ad 4) (ad 5) xv.2.1) (st := []) 0 rfl rfl (c_X2_copyFrom (xL X) T (xB X) (ad 6) (ad 7) (ad 8) (ad 9) (ad 10) (ad 1) (ad 2) (ad 3) (ad 4) (ad 5) xv.2.2.1 xv.2.1 hx.1) ggX4_breaksIn_X2_copyFrom 20 rfl k_X4_breaksIn_3 k_X4_breaksIn_7 k_X4_breaksIn_8 rfl rfl rfl ⟨Nat.le_of_ble_eq_true rfl, Nat.le_of_ble_eq_true rfl⟩ ⟨Nat.zero_le _, Nat.zero_le _⟩ ⟨by decide +kernel, by decide +kernel, by decide +kernel⟩ rfl rfl rfl rfl (Nat.le_of_ble_eq_true rfl) dX4_breaksIn_31 rfl ?_
      refine g_perm (pm_21 _ _ _ _ _ _ _).symm ?_
      refine g_cast (ws' := wXX T ad (xv.1, xv.2.1, xv.2.1, xv.2.2.2.1, xv.2.2.2.2.1, xv.2.2.2.2.2.1, xv.2.2.2.2.2.2)) rfl ?_
      refine g_iconst hX (v := 1) dX4_breaksIn_34 (by decide) ?_
      refine g_istore_n hX (lv' := [(1, .int 1), (0, .ref (ad 0))]) dX4_breaksIn_35 rfl (by decide) rfl ?_
      have e9 : F_X4_breaksIn xv = K_X4_breaksIn_36 1001 (xv.1, xv.2.1, xv.2.1, xv.2.2.2.1, xv.2.2.2.2.1, xv.2.2.2.2.2.1, xv.2.2.2.2.2.2) 1 := by simp only [F_X4_breaksIn, eq_true c_7, eq_true c_17, if_true, if_false]
      rw [e9]
      refine g_lv (lv' := [(1, .int (nI 1)), (0, .ref (ad 0))]) [0, 1] rfl ?_
      exact k_X4_breaksIn_36 hX ad 1001 (xv.1, xv.2.1, xv.2.1, xv.2.2.2.1, xv.2.2.2.2.1, xv.2.2.2.2.2.1, xv.2.2.2.2.2.2) 1 (by omega) (by omega)
    · skip
      refine g_bipush hX (v := (-4)) dX4_breaksIn_20 (by decide) ?_
      have e9 : F_X4_breaksIn xv = ((-4), xv) := by simp only [F_X4_breaksIn, eq_true c_7, eq_false c_17, if_true, if_false]
      rw [e9]
      exact g_iret hX dX4_breaksIn_22 rfl rfl
/-! X4_imagine -/
def rmX4_imagine : Room := { frames := 2, cells := 0, slots := 0, locals := 45 }
theorem k_X4_imagine_0 : Cond.fieldLink RX4 25 RX4 (TX4 3).2.1 (TX4 3).2.2.1 ∈ wsX4_imagine := List.mem_of_getElem? (i := 1) rfl
theorem h_X4_imagine_X4 : ∀ w ∈ u_ws RX4 TX4 8, w ∈ wsX4_imagine := fun w h => List.mem_cons_of_mem _ (List.mem_append_left _ (List.mem_append_left _ (List.mem_append_right _ h)))
theorem k_X4_imagine_3 : Cond.initialized RX3 ∈ wsX4_imagine := List.mem_of_getElem? (i := 4) rfl
theorem k_X4_imagine_2 : Cond.instanceMethod yX3_clear ∈ wsX4_imagine := List.mem_of_getElem? (i := 3) rfl
theorem k_X4_imagine_4 : Cond.selects RX3 yX3_clear yX3_clear ∈ wsX4_imagine := List.mem_of_getElem? (i := 5) rfl
theorem k_X4_imagine_14 : Cond.instanceMethod yX3_isFull ∈ wsX4_imagine := List.mem_of_getElem? (i := 15) rfl
theorem k_X4_imagine_15 : Cond.selects RX3 yX3_isFull yX3_isFull ∈ wsX4_imagine := List.mem_of_getElem? (i := 16) rfl
theorem k_X4_imagine_17 : Cond.instanceMethod yX3_layWrap ∈ wsX4_imagine := List.mem_of_getElem? (i := 18) rfl
theorem k_X4_imagine_18 : Cond.selects RX3 yX3_layWrap yX3_layWrap ∈ wsX4_imagine := List.mem_of_getElem? (i := 19) rfl
theorem k_X4_imagine_1 : Cond.fieldLink RX4 12 RX4 (TX4 0).2.1 (TX4 0).2.2.1 ∈ wsX4_imagine := List.mem_of_getElem? (i := 2) rfl
theorem k_X4_imagine_29 : Cond.initialized RX2 ∈ wsX4_imagine := List.mem_of_getElem? (i := 30) rfl
theorem k_X4_imagine_28 : Cond.instanceMethod yX2_number ∈ wsX4_imagine := List.mem_of_getElem? (i := 29) rfl
theorem k_X4_imagine_30 : Cond.selects RX2 yX2_number yX2_number ∈ wsX4_imagine := List.mem_of_getElem? (i := 31) rfl
theorem k_X4_imagine_33 : Cond.instanceMethod yX3_moveGuide ∈ wsX4_imagine := List.mem_of_getElem? (i := 34) rfl
theorem k_X4_imagine_34 : Cond.selects RX3 yX3_moveGuide yX3_moveGuide ∈ wsX4_imagine := List.mem_of_getElem? (i := 35) rfl
def K_X4_imagine_9 : Nat → XV → Int32 → Int32 → Nat → XV
  | 0, xv, p1, p2, j => xv
  | n + 1, xv, p1, p2, j => (if p2 < (nI j) then xv else (if (F_X3_isFull xv.2.2.2.2.1) = 0 then (let z_28 := F_X3_layWrap xv.2.2.2.2.1
  (let z_45 := F_X3_moveGuide z_28 p1 (F_X2_number xv.2.1 2) (nI j)
  K_X4_imagine_9 n (xv.1, xv.2.1, xv.2.2.1, xv.2.2.2.1, z_45, xv.2.2.2.2.2.1, xv.2.2.2.2.2.2) p1 p2 (j + 1))) else xv))
def F_X4_imagine (xv : XV) (p1 : Int32) (p2 : Int32) : XV :=
  (let z_4 := F_X3_clear xv.2.2.2.2.1
  K_X4_imagine_9 501 (xv.1, xv.2.1, xv.2.2.1, xv.2.2.2.1, z_4, xv.2.2.2.2.2.1, xv.2.2.2.2.2.2) p1 p2 1)
set_option maxHeartbeats 4000000 in
set_option maxRecDepth 100000 in
theorem k_X4_imagine_9 {T : TT} {X : CX} (hX : Fit T X (yX4_imagine).cls 4 wsX4_imagine cX4_imagine none rmX4_imagine) (ad : Nat → Nat) : ∀ (n : Nat) (xv : XV) (p1 : Int32) (p2 : Int32) (j : Nat) (hn : j + n = 502) (hj : j ≤ 501) (hp : p2.toInt ≤ 500), G T X (QV T X 0 0 (wXX T ad (K_X4_imagine_9 n xv p1 p2 j))) 0 0 (wXX T ad xv) [(3, .int (nI j)), (0, .ref (ad 0)), (1, .int p1), (2, .int p2)] 9 [] := by
  intro n
  induction n with
  | zero =>
    intro xv p1 p2 j hn hj hp
    exact absurd hn (by omega)
  | succ n ih =>
    intro xv p1 p2 j hn hj hp
    refine g_iload_n hX dX4_imagine_9 rfl 0 rfl ?_
    refine g_iload_n hX dX4_imagine_10 rfl 3 rfl ?_
    refine g_icmp_gt hX 54 dX4_imagine_11 (by decide) (fun c_11 => ?_) (fun c_11 => ?_)
    · skip
      have e9 : K_X4_imagine_9 (n + 1) xv p1 p2 j = xv := by simp only [K_X4_imagine_9, eq_true c_11, if_true, if_false]
      rw [e9]
      exact g_vret hX dX4_imagine_54 rfl
    · skip
      have hlt : j ≤ 500 := nle_p c_11 hp (by omega)
      refine g_aload_n hX dX4_imagine_14 rfl 1 rfl ?_
      refine g_get hX 4 h_X4_imagine_X4 0 rfl rfl 3 (by decide) k_X4_imagine_0 rfl (v := .ref (ad 16)) rfl dX4_imagine_15 ?_
      refine g_perm (pm_4 _ _ _ _ _ _ _) ?_
      refine g_pVN_I hX (n := 0) (As := []) (wc := wWr T (ad 16) (ad 17) xv.2.2.2.2.1) (w1 := wWr T (ad 16) (ad 17) xv.2.2.2.2.1) (rv := (F_X3_isFull xv.2.2.2.2.1)) (st := []) 0 rfl rfl (c_X3_isFull (xL X) T (xB X) (ad 16) (ad 17) xv.2.2.2.2.1) ggX4_imagine_X3_isFull 57 rfl k_X4_imagine_3 k_X4_imagine_14 k_X4_imagine_15 rfl rfl rfl ⟨Nat.le_of_ble_eq_true rfl, Nat.le_of_ble_eq_true rfl⟩ ⟨Nat.zero_le _, Nat.zero_le _⟩ ⟨by decide +kernel, by decide +kernel, by decide +kernel⟩ rfl rfl rfl rfl (Nat.le_of_ble_eq_true rfl) dX4_imagine_18 rfl ?_
      refine g_perm (pm_4 _ _ _ _ _ _ _).symm ?_
      refine g_cast (ws' := wXX T ad xv) rfl ?_
      refine g_if_ne hX 54 dX4_imagine_21 (by decide) (fun c_21 => ?_) (fun c_21 => ?_)
      · skip
        have e9 : K_X4_imagine_9 (n + 1) xv p1 p2 j = xv := by simp only [K_X4_imagine_9, eq_false c_11, eq_false c_21, if_true, if_false]
        rw [e9]
        exact g_vret hX dX4_imagine_54 rfl
      · skip
        refine g_aload_n hX dX4_imagine_24 rfl 1 rfl ?_
        refine g_get hX 4 h_X4_imagine_X4 0 rfl rfl 3 (by decide) k_X4_imagine_0 rfl (v := .ref (ad 16)) rfl dX4_imagine_25 ?_
        obtain ⟨z_28, hz_28⟩ : ∃ z : WV, z = F_X3_layWrap xv.2.2.2.2.1 := ⟨_, rfl⟩
        refine g_perm (pm_4 _ _ _ _ _ _ _) ?_
        refine g_pVN_V hX (n := 0) (As := []) (wc := wWr T (ad 16) (ad 17) xv.2.2.2.2.1) (w1 := wWr T (ad 16) (ad 17) z_28) (st := []) 0 rfl rfl (by rw [hz_28]; exact (c_X3_layWrap (xL X) T (xB X) (ad 16) (ad 17) xv.2.2.2.2.1)) ggX4_imagine_X3_layWrap 58 rfl k_X4_imagine_3 k_X4_imagine_17 k_X4_imagine_18 rfl rfl rfl ⟨Nat.le_of_ble_eq_true rfl, Nat.le_of_ble_eq_true rfl⟩ ⟨Nat.zero_le _, Nat.zero_le _⟩ ⟨by decide +kernel, by decide +kernel, by decide +kernel⟩ rfl rfl rfl rfl (Nat.le_of_ble_eq_true rfl) dX4_imagine_28 rfl ?_
        refine g_perm (pm_4 _ _ _ _ _ _ _).symm ?_
        refine g_cast (ws' := wXX T ad (xv.1, xv.2.1, xv.2.2.1, xv.2.2.2.1, z_28, xv.2.2.2.2.2.1, xv.2.2.2.2.2.2)) rfl ?_
        refine g_aload_n hX dX4_imagine_31 rfl 1 rfl ?_
        refine g_get hX 4 h_X4_imagine_X4 0 rfl rfl 3 (by decide) k_X4_imagine_0 rfl (v := .ref (ad 16)) rfl dX4_imagine_32 ?_
        refine g_iload_n hX dX4_imagine_35 rfl 2 rfl ?_
        refine g_aload_n hX dX4_imagine_36 rfl 1 rfl ?_
        refine g_get hX 4 h_X4_imagine_X4 0 rfl rfl 0 (by decide) k_X4_imagine_1 rfl (v := .ref (ad 1)) rfl dX4_imagine_37 ?_
        refine g_iconst hX (v := 2) dX4_imagine_40 (by decide) ?_
        refine g_perm (pm_1 _ _ _ _ _ _ _) ?_
        refine g_pVN_I hX (n := 1) (As := [.int 2]) (wc := wSt T (ad 1) (ad 2) (ad 3) (ad 4) (ad 5) xv.2.1) (w1 := wSt T (ad 1) (ad 2) (ad 3) (ad 4) (ad 5) xv.2.1) (rv := (F_X2_number xv.2.1 2)) (st := [.int p1, .ref (ad 16)]) 0 rfl rfl (c_X2_number (xL X) T (xB X) (ad 1) (ad 2) (ad 3) (ad 4) (ad 5) xv.2.1 2) ggX4_imagine_X2_number 59 rfl k_X4_imagine_29 k_X4_imagine_28 k_X4_imagine_30 rfl rfl rfl ⟨Nat.le_of_ble_eq_true rfl, Nat.le_of_ble_eq_true rfl⟩ ⟨Nat.zero_le _, Nat.zero_le _⟩ ⟨by decide +kernel, by decide +kernel, by decide +kernel⟩ rfl rfl rfl rfl (Nat.le_of_ble_eq_true rfl) dX4_imagine_41 rfl ?_
        refine g_perm (pm_1 _ _ _ _ _ _ _).symm ?_
        refine g_cast (ws' := wXX T ad (xv.1, xv.2.1, xv.2.2.1, xv.2.2.2.1, z_28, xv.2.2.2.2.2.1, xv.2.2.2.2.2.2)) rfl ?_
        refine g_iload_n hX dX4_imagine_44 rfl 0 rfl ?_
        obtain ⟨z_45, hz_45⟩ : ∃ z : WV, z = F_X3_moveGuide z_28 p1 (F_X2_number xv.2.1 2) (nI j) := ⟨_, rfl⟩
        refine g_perm (pm_4 _ _ _ _ _ _ _) ?_
        refine g_pVN_V hX (n := 3) (As := [.int p1, .int (F_X2_number xv.2.1 2), .int (nI j)]) (wc := wWr T (ad 16) (ad 17) z_28) (w1 := wWr T (ad 16) (ad 17) z_45) (st := []) 0 rfl rfl (by rw [hz_45]; exact (c_X3_moveGuide (xL X) T (xB X) (ad 16) (ad 17) z_28 p1 (F_X2_number xv.2.1 2) (nI j))) ggX4_imagine_X3_moveGuide 60 rfl k_X4_imagine_3 k_X4_imagine_33 k_X4_imagine_34 rfl rfl rfl ⟨Nat.le_of_ble_eq_true rfl, Nat.le_of_ble_eq_true rfl⟩ ⟨Nat.zero_le _, Nat.zero_le _⟩ ⟨by decide +kernel, by decide +kernel, by decide +kernel⟩ rfl rfl rfl rfl (Nat.le_of_ble_eq_true rfl) dX4_imagine_45 rfl ?_
        refine g_perm (pm_4 _ _ _ _ _ _ _).symm ?_
        refine g_cast (ws' := wXX T ad (xv.1, xv.2.1, xv.2.2.1, xv.2.2.2.1, z_45, xv.2.2.2.2.2.1, xv.2.2.2.2.2.2)) rfl ?_
        refine g_iinc hX (lv' := [(3, .int (nI (j + 1))), (0, .ref (ad 0)), (1, .int p1), (2, .int p2)]) (v := (nI (j + 1))) 0 dX4_imagine_48 rfl (nI_1 _) (by decide) rfl ?_
        refine g_goto hX 9 dX4_imagine_51 (by decide) ?_
        have e9 : K_X4_imagine_9 (n + 1) xv p1 p2 j = K_X4_imagine_9 n (xv.1, xv.2.1, xv.2.2.1, xv.2.2.2.1, z_45, xv.2.2.2.2.2.1, xv.2.2.2.2.2.2) p1 p2 (j + 1) := by simp only [K_X4_imagine_9, ← hz_28, ← hz_45, eq_false c_11, eq_true c_21, if_true, if_false]
        rw [e9]
        refine g_lv (lv' := [(3, .int (nI (j + 1))), (0, .ref (ad 0)), (1, .int p1), (2, .int p2)]) [0, 1, 2, 3] rfl ?_
        exact ih (xv.1, xv.2.1, xv.2.2.1, xv.2.2.2.1, z_45, xv.2.2.2.2.2.1, xv.2.2.2.2.2.2) p1 p2 (j + 1) (by omega) (by omega) hp
set_option maxHeartbeats 4000000 in
set_option maxRecDepth 100000 in
theorem c_X4_imagine (l : Launch) (T : TT) (b0 : Nat) (ad : Nat → Nat) (xv : XV) (p1 : Int32) (p2 : Int32) (hp : p2.toInt ≤ 500) : ConV l T b0 yX4_imagine wsX4_imagine rmX4_imagine [.ref (ad 0), .int p1, .int p2] (wXX T ad xv) (wXX T ad (F_X4_imagine xv p1 p2)) := by
  refine conV_of (cc := cX4_imagine) (maxL := 4) (ret := none) (lv0 := [(0, .ref (ad 0)), (1, .int p1), (2, .int p2)]) (by decide +kernel) rfl (Nat.le_of_ble_eq_true rfl) rfl (fun X hX => ?_)
  refine g_aload_n hX dX4_imagine_0 rfl 0 rfl ?_
  refine g_get hX 4 h_X4_imagine_X4 0 rfl rfl 3 (by decide) k_X4_imagine_0 rfl (v := .ref (ad 16)) rfl dX4_imagine_1 ?_
  obtain ⟨z_4, hz_4⟩ : ∃ z : WV, z = F_X3_clear xv.2.2.2.2.1 := ⟨_, rfl⟩
  refine g_perm (pm_4 _ _ _ _ _ _ _) ?_
  refine g_pVN_V hX (n := 0) (As := []) (wc := wWr T (ad 16) (ad 17) xv.2.2.2.2.1) (w1 := wWr T (ad 16) (ad 17) z_4) (st := []) 0 rfl rfl (by rw [hz_4]; exact (c_X3_clear (xL X) T (xB X) (ad 16) (ad 17) xv.2.2.2.2.1)) ggX4_imagine_X3_clear 56 rfl k_X4_imagine_3 k_X4_imagine_2 k_X4_imagine_4 rfl rfl rfl ⟨Nat.le_of_ble_eq_true rfl, Nat.le_of_ble_eq_true rfl⟩ ⟨Nat.zero_le _, Nat.zero_le _⟩ ⟨by decide +kernel, by decide +kernel, by decide +kernel⟩ rfl rfl rfl rfl (Nat.le_of_ble_eq_true rfl) dX4_imagine_4 rfl ?_
  refine g_perm (pm_4 _ _ _ _ _ _ _).symm ?_
  refine g_cast (ws' := wXX T ad (xv.1, xv.2.1, xv.2.2.1, xv.2.2.2.1, z_4, xv.2.2.2.2.2.1, xv.2.2.2.2.2.2)) rfl ?_
  refine g_iconst hX (v := 1) dX4_imagine_7 (by decide) ?_
  refine g_istore_n hX (lv' := [(3, .int 1), (0, .ref (ad 0)), (1, .int p1), (2, .int p2)]) dX4_imagine_8 rfl (by decide) rfl ?_
  have e9 : F_X4_imagine xv p1 p2 = K_X4_imagine_9 501 (xv.1, xv.2.1, xv.2.2.1, xv.2.2.2.1, z_4, xv.2.2.2.2.2.1, xv.2.2.2.2.2.2) p1 p2 1 := by simp only [F_X4_imagine, ← hz_4, if_true, if_false]
  rw [e9]
  refine g_lv (lv' := [(3, .int (nI 1)), (0, .ref (ad 0)), (1, .int p1), (2, .int p2)]) [0, 1, 2, 3] rfl ?_
  exact k_X4_imagine_9 hX ad 501 (xv.1, xv.2.1, xv.2.2.1, xv.2.2.2.1, z_4, xv.2.2.2.2.2.1, xv.2.2.2.2.2.2) p1 p2 1 (by omega) (by omega) hp
/-! X4_ifTraverse -/
def rmX4_ifTraverse : Room := { frames := 4, cells := 0, slots := 0, locals := 88 }
theorem k_X4_ifTraverse_0 : Cond.fieldLink RX4 25 RX4 (TX4 3).2.1 (TX4 3).2.2.1 ∈ wsX4_ifTraverse := List.mem_of_getElem? (i := 1) rfl
theorem h_X4_ifTraverse_X4 : ∀ w ∈ u_ws RX4 TX4 8, w ∈ wsX4_ifTraverse := fun w h => List.mem_cons_of_mem _ (List.mem_append_left _ (List.mem_append_left _ (List.mem_append_right _ h)))
theorem k_X4_ifTraverse_19 : Cond.initialized RX3 ∈ wsX4_ifTraverse := List.mem_of_getElem? (i := 20) rfl
theorem k_X4_ifTraverse_54 : Cond.instanceMethod yX3_evenness ∈ wsX4_ifTraverse := List.mem_of_getElem? (i := 55) rfl
theorem k_X4_ifTraverse_55 : Cond.selects RX3 yX3_evenness yX3_evenness ∈ wsX4_ifTraverse := List.mem_of_getElem? (i := 56) rfl
theorem k_X4_ifTraverse_60 : Cond.instanceMethod yX3_ribbons ∈ wsX4_ifTraverse := List.mem_of_getElem? (i := 61) rfl
theorem k_X4_ifTraverse_61 : Cond.selects RX3 yX3_ribbons yX3_ribbons ∈ wsX4_ifTraverse := List.mem_of_getElem? (i := 62) rfl
theorem k_X4_ifTraverse_75 : Cond.instanceMethod yX3_barePlaces ∈ wsX4_ifTraverse := List.mem_of_getElem? (i := 76) rfl
theorem k_X4_ifTraverse_76 : Cond.selects RX3 yX3_barePlaces yX3_barePlaces ∈ wsX4_ifTraverse := List.mem_of_getElem? (i := 77) rfl
def F_X4_ifTraverse (xv : XV) (p1 : Int32) (p2 : Int32) (p3 : Int32) : Int32 × XV :=
  (if (F_X4_inRange 0 p1) = 0 then ((-2), xv) else (if (F_X4_inRange 5 p2) = 0 then ((-2), xv) else (let z_22 := F_X4_imagine xv p1 p2
  (if p3 = 0 then ((F_X3_evenness z_22.2.2.2.2.1), z_22) else (if p3 = 1 then ((F_X3_ribbons z_22.2.2.2.2.1), z_22) else (if p3 = 2 then ((F_X3_barePlaces z_22.2.2.2.2.1), z_22) else ((-2), z_22)))))))
set_option maxHeartbeats 4000000 in
set_option maxRecDepth 100000 in
theorem c_X4_ifTraverse (l : Launch) (T : TT) (b0 : Nat) (ad : Nat → Nat) (xv : XV) (p1 : Int32) (p2 : Int32) (p3 : Int32)  : ConI l T b0 yX4_ifTraverse wsX4_ifTraverse rmX4_ifTraverse [.ref (ad 0), .int p1, .int p2, .int p3] (wXX T ad xv) ((F_X4_ifTraverse xv p1 p2 p3).1) (wXX T ad ((F_X4_ifTraverse xv p1 p2 p3).2)) := by
  refine conI_of (cc := cX4_ifTraverse) (maxL := 4) (ret := (some .int)) (lv0 := [(0, .ref (ad 0)), (1, .int p1), (2, .int p2), (3, .int p3)]) (by decide +kernel) rfl (Nat.le_of_ble_eq_true rfl) rfl (fun X hX => ?_)
  refine g_iconst hX (v := 0) dX4_ifTraverse_0 (by decide) ?_
  refine g_iload_n hX dX4_ifTraverse_1 rfl 1 rfl ?_
  refine g_cS_I hX (n := 2) (As := [.int 0, .int p1]) (wc := []) (w1 := []) (rv := (F_X4_inRange 0 p1)) (st := []) (c_X4_inRange (xL X) T (xB X) 0 p1) gX4_ifTraverse_X4_inRange rfl rfl rfl ⟨Nat.le_of_ble_eq_true rfl, Nat.le_of_ble_eq_true rfl⟩ ⟨Nat.zero_le _, Nat.zero_le _⟩ ⟨by decide +kernel, by decide +kernel, by decide +kernel⟩ rfl [] rfl rfl (by decide) rfl (Nat.le_of_ble_eq_true rfl) dX4_ifTraverse_2 (ws' := wXX T ad xv) rfl ?_
  refine g_if_eq hX 16 dX4_ifTraverse_5 (by decide) (fun c_5 => ?_) (fun c_5 => ?_)
  · skip
    refine g_bipush hX (v := (-2)) dX4_ifTraverse_16 (by decide) ?_
    have e9 : F_X4_ifTraverse xv p1 p2 p3 = ((-2), xv) := by simp only [F_X4_ifTraverse, eq_true c_5, if_true, if_false]
    rw [e9]
    exact g_iret hX dX4_ifTraverse_18 rfl rfl
  · skip
    refine g_iconst hX (v := 5) dX4_ifTraverse_8 (by decide) ?_
    refine g_iload_n hX dX4_ifTraverse_9 rfl 2 rfl ?_
    refine g_cS_I hX (n := 2) (As := [.int 5, .int p2]) (wc := []) (w1 := []) (rv := (F_X4_inRange 5 p2)) (st := []) (c_X4_inRange (xL X) T (xB X) 5 p2) gX4_ifTraverse_X4_inRange rfl rfl rfl ⟨Nat.le_of_ble_eq_true rfl, Nat.le_of_ble_eq_true rfl⟩ ⟨Nat.zero_le _, Nat.zero_le _⟩ ⟨by decide +kernel, by decide +kernel, by decide +kernel⟩ rfl [] rfl rfl (by decide) rfl (Nat.le_of_ble_eq_true rfl) dX4_ifTraverse_10 (ws' := wXX T ad xv) rfl ?_
    refine g_if_ne hX 19 dX4_ifTraverse_13 (by decide) (fun c_13 => ?_) (fun c_13 => ?_)
    · skip
      refine g_aload_n hX dX4_ifTraverse_19 rfl 0 rfl ?_
      refine g_iload_n hX dX4_ifTraverse_20 rfl 1 rfl ?_
      refine g_iload_n hX dX4_ifTraverse_21 rfl 2 rfl ?_
      obtain ⟨z_22, hz_22⟩ : ∃ z : XV, z = F_X4_imagine xv p1 p2 := ⟨_, rfl⟩
      refine g_pV_V hX (rest := []) (n := 2) (As := [.int p1, .int p2]) (wc := wXX T ad xv) (w1 := wXX T ad z_22) (st := []) 0 rfl rfl (by rw [hz_22]; exact (c_X4_imagine (xL X) T (xB X) ad xv p1 p2 (inr5 c_13))) gX4_ifTraverse_X4_imagine rfl rfl rfl ⟨Nat.le_of_ble_eq_true rfl, Nat.le_of_ble_eq_true rfl⟩ ⟨Nat.zero_le _, Nat.zero_le _⟩ ⟨by decide +kernel, by decide +kernel, by decide +kernel⟩ rfl (List.append_nil _).symm rfl rfl (Nat.le_of_ble_eq_true rfl) dX4_ifTraverse_22 (List.append_nil _) ?_
      refine g_iload_n hX dX4_ifTraverse_25 rfl 3 rfl ?_
      by_cases c_26_0 : p3 = 0
      · skip
        refine g_tabIn hX (off := 26) 52 dX4_ifTraverse_26 (by rw [c_26_0]; decide) (by rw [c_26_0]; decide) (by rw [c_26_0]; decide) (by decide) ?_
        refine g_aload_n hX dX4_ifTraverse_52 rfl 0 rfl ?_
        refine g_get hX 4 h_X4_ifTraverse_X4 0 rfl rfl 3 (by decide) k_X4_ifTraverse_0 rfl (v := .ref (ad 16)) rfl dX4_ifTraverse_53 ?_
        refine g_perm (pm_4 _ _ _ _ _ _ _) ?_
        refine g_pVN_I hX (n := 0) (As := []) (wc := wWr T (ad 16) (ad 17) z_22.2.2.2.2.1) (w1 := wWr T (ad 16) (ad 17) z_22.2.2.2.2.1) (rv := (F_X3_evenness z_22.2.2.2.2.1)) (st := []) 0 rfl rfl (c_X3_evenness (xL X) T (xB X) (ad 16) (ad 17) z_22.2.2.2.2.1) ggX4_ifTraverse_X3_evenness 53 rfl k_X4_ifTraverse_19 k_X4_ifTraverse_54 k_X4_ifTraverse_55 rfl rfl rfl ⟨Nat.le_of_ble_eq_true rfl, Nat.le_of_ble_eq_true rfl⟩ ⟨Nat.zero_le _, Nat.zero_le _⟩ ⟨by decide +kernel, by decide +kernel, by decide +kernel⟩ rfl rfl rfl rfl (Nat.le_of_ble_eq_true rfl) dX4_ifTraverse_56 rfl ?_
        refine g_perm (pm_4 _ _ _ _ _ _ _).symm ?_
        refine g_cast (ws' := wXX T ad z_22) rfl ?_
        have e9 : F_X4_ifTraverse xv p1 p2 p3 = ((F_X3_evenness z_22.2.2.2.2.1), z_22) := by simp only [F_X4_ifTraverse, ← hz_22, eq_false c_5, eq_false c_13, eq_true c_26_0, if_true, if_false]
        rw [e9]
        exact g_iret hX dX4_ifTraverse_59 rfl rfl
      · skip
        by_cases c_26_1 : p3 = 1
        · skip
          refine g_tabIn hX (off := 34) 60 dX4_ifTraverse_26 (by rw [c_26_1]; decide) (by rw [c_26_1]; decide) (by rw [c_26_1]; decide) (by decide) ?_
          refine g_aload_n hX dX4_ifTraverse_60 rfl 0 rfl ?_
          refine g_get hX 4 h_X4_ifTraverse_X4 0 rfl rfl 3 (by decide) k_X4_ifTraverse_0 rfl (v := .ref (ad 16)) rfl dX4_ifTraverse_61 ?_
          refine g_perm (pm_4 _ _ _ _ _ _ _) ?_
          refine g_pVN_I hX (n := 0) (As := []) (wc := wWr T (ad 16) (ad 17) z_22.2.2.2.2.1) (w1 := wWr T (ad 16) (ad 17) z_22.2.2.2.2.1) (rv := (F_X3_ribbons z_22.2.2.2.2.1)) (st := []) 0 rfl rfl (c_X3_ribbons (xL X) T (xB X) (ad 16) (ad 17) z_22.2.2.2.2.1) ggX4_ifTraverse_X3_ribbons 52 rfl k_X4_ifTraverse_19 k_X4_ifTraverse_60 k_X4_ifTraverse_61 rfl rfl rfl ⟨Nat.le_of_ble_eq_true rfl, Nat.le_of_ble_eq_true rfl⟩ ⟨Nat.zero_le _, Nat.zero_le _⟩ ⟨by decide +kernel, by decide +kernel, by decide +kernel⟩ rfl rfl rfl rfl (Nat.le_of_ble_eq_true rfl) dX4_ifTraverse_64 rfl ?_
          refine g_perm (pm_4 _ _ _ _ _ _ _).symm ?_
          refine g_cast (ws' := wXX T ad z_22) rfl ?_
          have e9 : F_X4_ifTraverse xv p1 p2 p3 = ((F_X3_ribbons z_22.2.2.2.2.1), z_22) := by simp only [F_X4_ifTraverse, ← hz_22, eq_false c_5, eq_false c_13, eq_false c_26_0, eq_true c_26_1, if_true, if_false]
          rw [e9]
          exact g_iret hX dX4_ifTraverse_67 rfl rfl
        · skip
          by_cases c_26_2 : p3 = 2
          · skip
            refine g_tabIn hX (off := 42) 68 dX4_ifTraverse_26 (by rw [c_26_2]; decide) (by rw [c_26_2]; decide) (by rw [c_26_2]; decide) (by decide) ?_
            refine g_aload_n hX dX4_ifTraverse_68 rfl 0 rfl ?_
            refine g_get hX 4 h_X4_ifTraverse_X4 0 rfl rfl 3 (by decide) k_X4_ifTraverse_0 rfl (v := .ref (ad 16)) rfl dX4_ifTraverse_69 ?_
            refine g_perm (pm_4 _ _ _ _ _ _ _) ?_
            refine g_pVN_I hX (n := 0) (As := []) (wc := wWr T (ad 16) (ad 17) z_22.2.2.2.2.1) (w1 := wWr T (ad 16) (ad 17) z_22.2.2.2.2.1) (rv := (F_X3_barePlaces z_22.2.2.2.2.1)) (st := []) 0 rfl rfl (c_X3_barePlaces (xL X) T (xB X) (ad 16) (ad 17) z_22.2.2.2.2.1) ggX4_ifTraverse_X3_barePlaces 61 rfl k_X4_ifTraverse_19 k_X4_ifTraverse_75 k_X4_ifTraverse_76 rfl rfl rfl ⟨Nat.le_of_ble_eq_true rfl, Nat.le_of_ble_eq_true rfl⟩ ⟨Nat.zero_le _, Nat.zero_le _⟩ ⟨by decide +kernel, by decide +kernel, by decide +kernel⟩ rfl rfl rfl rfl (Nat.le_of_ble_eq_true rfl) dX4_ifTraverse_72 rfl ?_
            refine g_perm (pm_4 _ _ _ _ _ _ _).symm ?_
            refine g_cast (ws' := wXX T ad z_22) rfl ?_
            have e9 : F_X4_ifTraverse xv p1 p2 p3 = ((F_X3_barePlaces z_22.2.2.2.2.1), z_22) := by simp only [F_X4_ifTraverse, ← hz_22, eq_false c_5, eq_false c_13, eq_false c_26_0, eq_false c_26_1, eq_true c_26_2, if_true, if_false]
            rw [e9]
            exact g_iret hX dX4_ifTraverse_75 rfl rfl
          · skip
            have tc_26_0 : ¬ Int32.toInt p3 = 0 := lv_neT c_26_0 (by decide)
            have tc_26_1 : ¬ Int32.toInt p3 = 1 := lv_neT c_26_1 (by decide)
            have tc_26_2 : ¬ Int32.toInt p3 = 2 := lv_neT c_26_2 (by decide)
            refine g_tabOut hX 76 dX4_ifTraverse_26 (by omega) (by decide) ?_
            refine g_bipush hX (v := (-2)) dX4_ifTraverse_76 (by decide) ?_
            have e9 : F_X4_ifTraverse xv p1 p2 p3 = ((-2), z_22) := by simp only [F_X4_ifTraverse, ← hz_22, eq_false c_5, eq_false c_13, eq_false c_26_0, eq_false c_26_1, eq_false c_26_2, if_true, if_false]
            rw [e9]
            exact g_iret hX dX4_ifTraverse_78 rfl rfl
    · skip
      refine g_bipush hX (v := (-2)) dX4_ifTraverse_16 (by decide) ?_
      have e9 : F_X4_ifTraverse xv p1 p2 p3 = ((-2), xv) := by simp only [F_X4_ifTraverse, eq_false c_5, eq_true c_13, if_true, if_false]
      rw [e9]
      exact g_iret hX dX4_ifTraverse_18 rfl rfl
/-! X4_bestTraverse -/
def rmX4_bestTraverse : Room := { frames := 3, cells := 0, slots := 0, locals := 68 }
theorem k_X4_bestTraverse_0 : Cond.fieldLink RX4 25 RX4 (TX4 3).2.1 (TX4 3).2.2.1 ∈ wsX4_bestTraverse := List.mem_of_getElem? (i := 1) rfl
theorem h_X4_bestTraverse_X4 : ∀ w ∈ u_ws RX4 TX4 8, w ∈ wsX4_bestTraverse := fun w h => List.mem_cons_of_mem _ (List.mem_append_left _ (List.mem_append_left _ (List.mem_append_right _ h)))
theorem k_X4_bestTraverse_19 : Cond.initialized RX3 ∈ wsX4_bestTraverse := List.mem_of_getElem? (i := 20) rfl
theorem k_X4_bestTraverse_54 : Cond.instanceMethod yX3_evenness ∈ wsX4_bestTraverse := List.mem_of_getElem? (i := 55) rfl
theorem k_X4_bestTraverse_55 : Cond.selects RX3 yX3_evenness yX3_evenness ∈ wsX4_bestTraverse := List.mem_of_getElem? (i := 56) rfl
def K_X4_bestTraverse_21 : Nat → XV → Int32 → Nat → Int32 → Int32 → Int32 × XV
  | 0, xv, p1, j, e, f => (0, xv)
  | n + 1, xv, p1, j, e, f => (if 11 < (nI j) then (e, xv) else (let z_34 := F_X4_imagine xv (nI j) p1
  (if e = 0 then K_X4_bestTraverse_21 n z_34 p1 (j + 1) (nI j) (F_X3_evenness z_34.2.2.2.2.1) else (if f ≤ (F_X3_evenness z_34.2.2.2.2.1) then K_X4_bestTraverse_21 n z_34 p1 (j + 1) e f else K_X4_bestTraverse_21 n z_34 p1 (j + 1) (nI j) (F_X3_evenness z_34.2.2.2.2.1)))))
def F_X4_bestTraverse (xv : XV) (p1 : Int32) : Int32 × XV :=
  (if (F_X4_inRange 5 p1) = 0 then ((-2), xv) else K_X4_bestTraverse_21 12 xv p1 1 0 0)
set_option maxHeartbeats 4000000 in
set_option maxRecDepth 100000 in
theorem k_X4_bestTraverse_21 {T : TT} {X : CX} (hX : Fit T X (yX4_bestTraverse).cls 6 wsX4_bestTraverse cX4_bestTraverse (some .int) rmX4_bestTraverse) (ad : Nat → Nat) : ∀ (n : Nat) (xv : XV) (p1 : Int32) (j : Nat) (e : Int32) (f : Int32) (hn : j + n = 13) (hj : j ≤ 12) (hp : p1.toInt ≤ 500), G T X (QI T X 0 0 ((K_X4_bestTraverse_21 n xv p1 j e f).1) (wXX T ad ((K_X4_bestTraverse_21 n xv p1 j e f).2))) 0 0 (wXX T ad xv) [(4, .int (nI j)), (2, .int e), (3, .int f), (0, .ref (ad 0)), (1, .int p1)] 21 [] := by
  intro n
  induction n with
  | zero =>
    intro xv p1 j e f hn hj hp
    exact absurd hn (by omega)
  | succ n ih =>
    intro xv p1 j e f hn hj hp
    refine g_iload hX dX4_bestTraverse_21 0 rfl ?_
    refine g_iconst hX (v := 0) dX4_bestTraverse_23 (by decide) ?_
    refine g_cS_I hX (n := 1) (As := [.int 0]) (wc := []) (w1 := []) (rv := (F_X4_highest 0)) (st := [.int (nI j)]) (c_X4_highest (xL X) T (xB X) 0) gX4_bestTraverse_X4_highest rfl rfl rfl ⟨Nat.le_of_ble_eq_true rfl, Nat.le_of_ble_eq_true rfl⟩ ⟨Nat.zero_le _, Nat.zero_le _⟩ ⟨by decide +kernel, by decide +kernel, by decide +kernel⟩ rfl [] rfl rfl (by decide) rfl (Nat.le_of_ble_eq_true rfl) dX4_bestTraverse_24 (ws' := wXX T ad xv) rfl ?_
    rw [show F_X4_highest 0 = 11 from by decide]
    refine g_icmp_gt hX 68 dX4_bestTraverse_27 (by decide) (fun c_27 => ?_) (fun c_27 => ?_)
    · skip
      refine g_iload_n hX dX4_bestTraverse_68 rfl 1 rfl ?_
      have e9 : K_X4_bestTraverse_21 (n + 1) xv p1 j e f = (e, xv) := by simp only [K_X4_bestTraverse_21, eq_true c_27, if_true, if_false]
      rw [e9]
      exact g_iret hX dX4_bestTraverse_69 rfl rfl
    · skip
      have hlt_27 : j ≤ 11 := nle_of c_27 (by decide) (by omega)
      refine g_aload_n hX dX4_bestTraverse_30 rfl 3 rfl ?_
      refine g_iload hX dX4_bestTraverse_31 0 rfl ?_
      refine g_iload_n hX dX4_bestTraverse_33 rfl 4 rfl ?_
      obtain ⟨z_34, hz_34⟩ : ∃ z : XV, z = F_X4_imagine xv (nI j) p1 := ⟨_, rfl⟩
      refine g_pV_V hX (rest := []) (n := 2) (As := [.int (nI j), .int p1]) (wc := wXX T ad xv) (w1 := wXX T ad z_34) (st := []) 0 rfl rfl (by rw [hz_34]; exact (c_X4_imagine (xL X) T (xB X) ad xv (nI j) p1 hp)) gX4_bestTraverse_X4_imagine rfl rfl rfl ⟨Nat.le_of_ble_eq_true rfl, Nat.le_of_ble_eq_true rfl⟩ ⟨Nat.zero_le _, Nat.zero_le _⟩ ⟨by decide +kernel, by decide +kernel, by decide +kernel⟩ rfl (List.append_nil _).symm rfl rfl (Nat.le_of_ble_eq_true rfl) dX4_bestTraverse_34 (List.append_nil _) ?_
      refine g_aload_n hX dX4_bestTraverse_37 rfl 3 rfl ?_
      refine g_get hX 4 h_X4_bestTraverse_X4 0 rfl rfl 3 (by decide) k_X4_bestTraverse_0 rfl (v := .ref (ad 16)) rfl dX4_bestTraverse_38 ?_
      refine g_perm (pm_4 _ _ _ _ _ _ _) ?_
      refine g_pVN_I hX (n := 0) (As := []) (wc := wWr T (ad 16) (ad 17) z_34.2.2.2.2.1) (w1 := wWr T (ad 16) (ad 17) z_34.2.2.2.2.1) (rv := (F_X3_evenness z_34.2.2.2.2.1)) (st := []) 0 rfl rfl (c_X3_evenness (xL X) T (xB X) (ad 16) (ad 17) z_34.2.2.2.2.1) ggX4_bestTraverse_X3_evenness 53 rfl k_X4_bestTraverse_19 k_X4_bestTraverse_54 k_X4_bestTraverse_55 rfl rfl rfl ⟨Nat.le_of_ble_eq_true rfl, Nat.le_of_ble_eq_true rfl⟩ ⟨Nat.zero_le _, Nat.zero_le _⟩ ⟨by decide +kernel, by decide +kernel, by decide +kernel⟩ rfl rfl rfl rfl (Nat.le_of_ble_eq_true rfl) dX4_bestTraverse_41 rfl ?_
      refine g_perm (pm_4 _ _ _ _ _ _ _).symm ?_
      refine g_cast (ws' := wXX T ad z_34) rfl ?_
      refine g_istore hX (lv' := [(5, .int (F_X3_evenness z_34.2.2.2.2.1)), (4, .int (nI j)), (2, .int e), (3, .int f), (0, .ref (ad 0)), (1, .int p1)]) dX4_bestTraverse_44 (by decide) rfl ?_
      refine g_iload_n hX dX4_bestTraverse_46 rfl 2 rfl ?_
      refine g_if_eq hX 56 dX4_bestTraverse_47 (by decide) (fun c_47 => ?_) (fun c_47 => ?_)
      · skip
        refine g_iload hX dX4_bestTraverse_56 1 rfl ?_
        refine g_istore_n hX (lv' := [(2, .int (nI j)), (5, .int (F_X3_evenness z_34.2.2.2.2.1)), (4, .int (nI j)), (3, .int f), (0, .ref (ad 0)), (1, .int p1)]) dX4_bestTraverse_58 rfl (by decide) rfl ?_
        refine g_iload hX dX4_bestTraverse_59 1 rfl ?_
        refine g_istore_n hX (lv' := [(3, .int (F_X3_evenness z_34.2.2.2.2.1)), (2, .int (nI j)), (5, .int (F_X3_evenness z_34.2.2.2.2.1)), (4, .int (nI j)), (0, .ref (ad 0)), (1, .int p1)]) dX4_bestTraverse_61 rfl (by decide) rfl ?_
        refine g_iinc hX (lv' := [(4, .int (nI (j + 1))), (3, .int (F_X3_evenness z_34.2.2.2.2.1)), (2, .int (nI j)), (5, .int (F_X3_evenness z_34.2.2.2.2.1)), (0, .ref (ad 0)), (1, .int p1)]) (v := (nI (j + 1))) 3 dX4_bestTraverse_62 rfl (nI_1 _) (by decide) rfl ?_
        refine g_goto hX 21 dX4_bestTraverse_65 (by decide) ?_
        have e9 : K_X4_bestTraverse_21 (n + 1) xv p1 j e f = K_X4_bestTraverse_21 n z_34 p1 (j + 1) (nI j) (F_X3_evenness z_34.2.2.2.2.1) := by simp only [K_X4_bestTraverse_21, ← hz_34, eq_false c_27, eq_true c_47, if_true, if_false]
        rw [e9]
        refine g_lv (lv' := [(4, .int (nI (j + 1))), (2, .int (nI j)), (3, .int (F_X3_evenness z_34.2.2.2.2.1)), (0, .ref (ad 0)), (1, .int p1)]) [0, 2, 1, 4, 5] rfl ?_
        exact ih z_34 p1 (j + 1) (nI j) (F_X3_evenness z_34.2.2.2.2.1) (by omega) (by omega) hp
      · skip
        refine g_iload hX dX4_bestTraverse_50 0 rfl ?_
        refine g_iload_n hX dX4_bestTraverse_52 rfl 3 rfl ?_
        refine g_icmp_ge hX 62 dX4_bestTraverse_53 (by decide) (fun c_53 => ?_) (fun c_53 => ?_)
        · skip
          refine g_iinc hX (lv' := [(4, .int (nI (j + 1))), (5, .int (F_X3_evenness z_34.2.2.2.2.1)), (2, .int e), (3, .int f), (0, .ref (ad 0)), (1, .int p1)]) (v := (nI (j + 1))) 1 dX4_bestTraverse_62 rfl (nI_1 _) (by decide) rfl ?_
          refine g_goto hX 21 dX4_bestTraverse_65 (by decide) ?_
          have e9 : K_X4_bestTraverse_21 (n + 1) xv p1 j e f = K_X4_bestTraverse_21 n z_34 p1 (j + 1) e f := by simp only [K_X4_bestTraverse_21, ← hz_34, eq_false c_27, eq_false c_47, eq_true c_53, if_true, if_false]
          rw [e9]
          refine g_lv (lv' := [(4, .int (nI (j + 1))), (2, .int e), (3, .int f), (0, .ref (ad 0)), (1, .int p1)]) [0, 2, 3, 4, 5] rfl ?_
          exact ih z_34 p1 (j + 1) e f (by omega) (by omega) hp
        · skip
          refine g_iload hX dX4_bestTraverse_56 1 rfl ?_
          refine g_istore_n hX (lv' := [(2, .int (nI j)), (5, .int (F_X3_evenness z_34.2.2.2.2.1)), (4, .int (nI j)), (3, .int f), (0, .ref (ad 0)), (1, .int p1)]) dX4_bestTraverse_58 rfl (by decide) rfl ?_
          refine g_iload hX dX4_bestTraverse_59 1 rfl ?_
          refine g_istore_n hX (lv' := [(3, .int (F_X3_evenness z_34.2.2.2.2.1)), (2, .int (nI j)), (5, .int (F_X3_evenness z_34.2.2.2.2.1)), (4, .int (nI j)), (0, .ref (ad 0)), (1, .int p1)]) dX4_bestTraverse_61 rfl (by decide) rfl ?_
          refine g_iinc hX (lv' := [(4, .int (nI (j + 1))), (3, .int (F_X3_evenness z_34.2.2.2.2.1)), (2, .int (nI j)), (5, .int (F_X3_evenness z_34.2.2.2.2.1)), (0, .ref (ad 0)), (1, .int p1)]) (v := (nI (j + 1))) 3 dX4_bestTraverse_62 rfl (nI_1 _) (by decide) rfl ?_
          refine g_goto hX 21 dX4_bestTraverse_65 (by decide) ?_
          have e9 : K_X4_bestTraverse_21 (n + 1) xv p1 j e f = K_X4_bestTraverse_21 n z_34 p1 (j + 1) (nI j) (F_X3_evenness z_34.2.2.2.2.1) := by simp only [K_X4_bestTraverse_21, ← hz_34, eq_false c_27, eq_false c_47, eq_false c_53, if_true, if_false]
          rw [e9]
          refine g_lv (lv' := [(4, .int (nI (j + 1))), (2, .int (nI j)), (3, .int (F_X3_evenness z_34.2.2.2.2.1)), (0, .ref (ad 0)), (1, .int p1)]) [0, 2, 1, 4, 5] rfl ?_
          exact ih z_34 p1 (j + 1) (nI j) (F_X3_evenness z_34.2.2.2.2.1) (by omega) (by omega) hp
set_option maxHeartbeats 4000000 in
set_option maxRecDepth 100000 in
theorem c_X4_bestTraverse (l : Launch) (T : TT) (b0 : Nat) (ad : Nat → Nat) (xv : XV) (p1 : Int32)  : ConI l T b0 yX4_bestTraverse wsX4_bestTraverse rmX4_bestTraverse [.ref (ad 0), .int p1] (wXX T ad xv) ((F_X4_bestTraverse xv p1).1) (wXX T ad ((F_X4_bestTraverse xv p1).2)) := by
  refine conI_of (cc := cX4_bestTraverse) (maxL := 6) (ret := (some .int)) (lv0 := [(0, .ref (ad 0)), (1, .int p1)]) (by decide +kernel) rfl (Nat.le_of_ble_eq_true rfl) rfl (fun X hX => ?_)
  refine g_iconst hX (v := 5) dX4_bestTraverse_0 (by decide) ?_
  refine g_iload_n hX dX4_bestTraverse_1 rfl 1 rfl ?_
  refine g_cS_I hX (n := 2) (As := [.int 5, .int p1]) (wc := []) (w1 := []) (rv := (F_X4_inRange 5 p1)) (st := []) (c_X4_inRange (xL X) T (xB X) 5 p1) gX4_bestTraverse_X4_inRange rfl rfl rfl ⟨Nat.le_of_ble_eq_true rfl, Nat.le_of_ble_eq_true rfl⟩ ⟨Nat.zero_le _, Nat.zero_le _⟩ ⟨by decide +kernel, by decide +kernel, by decide +kernel⟩ rfl [] rfl rfl (by decide) rfl (Nat.le_of_ble_eq_true rfl) dX4_bestTraverse_2 (ws' := wXX T ad xv) rfl ?_
  refine g_if_ne hX 11 dX4_bestTraverse_5 (by decide) (fun c_5 => ?_) (fun c_5 => ?_)
  · skip
    refine g_iconst hX (v := 0) dX4_bestTraverse_11 (by decide) ?_
    refine g_istore_n hX (lv' := [(2, .int 0), (0, .ref (ad 0)), (1, .int p1)]) dX4_bestTraverse_12 rfl (by decide) rfl ?_
    refine g_iconst hX (v := 0) dX4_bestTraverse_13 (by decide) ?_
    refine g_istore_n hX (lv' := [(3, .int 0), (2, .int 0), (0, .ref (ad 0)), (1, .int p1)]) dX4_bestTraverse_14 rfl (by decide) rfl ?_
    refine g_iconst hX (v := 0) dX4_bestTraverse_15 (by decide) ?_
    refine g_cS_I hX (n := 1) (As := [.int 0]) (wc := []) (w1 := []) (rv := (F_X4_lowest 0)) (st := []) (c_X4_lowest (xL X) T (xB X) 0) gX4_bestTraverse_X4_lowest rfl rfl rfl ⟨Nat.le_of_ble_eq_true rfl, Nat.le_of_ble_eq_true rfl⟩ ⟨Nat.zero_le _, Nat.zero_le _⟩ ⟨by decide +kernel, by decide +kernel, by decide +kernel⟩ rfl [] rfl rfl (by decide) rfl (Nat.le_of_ble_eq_true rfl) dX4_bestTraverse_16 (ws' := wXX T ad xv) rfl ?_
    rw [show F_X4_lowest 0 = 1 from by decide]
    refine g_istore hX (lv' := [(4, .int 1), (3, .int 0), (2, .int 0), (0, .ref (ad 0)), (1, .int p1)]) dX4_bestTraverse_19 (by decide) rfl ?_
    have e9 : F_X4_bestTraverse xv p1 = K_X4_bestTraverse_21 12 xv p1 1 0 0 := by simp only [F_X4_bestTraverse, eq_false c_5, if_true, if_false]
    rw [e9]
    refine g_lv (lv' := [(4, .int (nI 1)), (2, .int 0), (3, .int 0), (0, .ref (ad 0)), (1, .int p1)]) [0, 2, 1, 3, 4] rfl ?_
    exact k_X4_bestTraverse_21 hX ad 12 xv p1 1 0 0 (by omega) (by omega) (inr5 c_5)
  · skip
    refine g_bipush hX (v := (-2)) dX4_bestTraverse_8 (by decide) ?_
    have e9 : F_X4_bestTraverse xv p1 = ((-2), xv) := by simp only [F_X4_bestTraverse, eq_true c_5, if_true, if_false]
    rw [e9]
    exact g_iret hX dX4_bestTraverse_10 rfl rfl
/-! X4_period -/
def rmX4_period : Room := { frames := 2, cells := 0, slots := 0, locals := 41 }
def K_X4_period_13 : Nat → XV → Int32 → Nat → Int32
  | 0, xv, p1, j => 0
  | n + 1, xv, p1, j => (if 22 ≤ (nI j) then (nI j) else (if (((nI j) * p1) - ((nI j) * p1) / 22 * 22) = 0 then (nI j) else K_X4_period_13 n xv p1 (j + 1)))
def F_X4_period (xv : XV) (p1 : Int32) : Int32 :=
  (if (F_X4_inRange 0 p1) = 0 then (-2) else K_X4_period_13 22 xv p1 1)
set_option maxHeartbeats 4000000 in
set_option maxRecDepth 100000 in
theorem k_X4_period_13 {T : TT} {X : CX} (hX : Fit T X (yX4_period).cls 3 wsX4_period cX4_period (some .int) rmX4_period) (ad : Nat → Nat) : ∀ (n : Nat) (xv : XV) (p1 : Int32) (j : Nat) (hn : j + n = 23) (hj : j ≤ 22), G T X (QI T X 0 0 (K_X4_period_13 n xv p1 j) (wXX T ad xv)) 0 0 (wXX T ad xv) [(2, .int (nI j)), (0, .ref (ad 0)), (1, .int p1)] 13 [] := by
  intro n
  induction n with
  | zero =>
    intro xv p1 j hn hj
    exact absurd hn (by omega)
  | succ n ih =>
    intro xv p1 j hn hj
    refine g_iload_n hX dX4_period_13 rfl 0 rfl ?_
    refine g_bipush hX (v := 22) dX4_period_14 (by decide) ?_
    refine g_icmp_ge hX 34 dX4_period_16 (by decide) (fun c_16 => ?_) (fun c_16 => ?_)
    · skip
      refine g_iload_n hX dX4_period_34 rfl 0 rfl ?_
      have e9 : K_X4_period_13 (n + 1) xv p1 j = (nI j) := by simp only [K_X4_period_13, eq_true c_16, if_true, if_false]
      rw [e9]
      exact g_iret hX dX4_period_35 rfl rfl
    · skip
      have hlt_16 : j < 22 := nlt_of c_16 (by decide) (by omega)
      refine g_iload_n hX dX4_period_19 rfl 0 rfl ?_
      refine g_iload_n hX dX4_period_20 rfl 2 rfl ?_
      refine g_imul hX dX4_period_21 ?_
      refine g_bipush hX (v := 22) dX4_period_22 (by decide) ?_
      refine g_irem hX dX4_period_24 (by decide) ?_
      refine g_if_eq hX 34 dX4_period_25 (by decide) (fun c_25 => ?_) (fun c_25 => ?_)
      · skip
        refine g_iload_n hX dX4_period_34 rfl 0 rfl ?_
        have e9 : K_X4_period_13 (n + 1) xv p1 j = (nI j) := by simp only [K_X4_period_13, eq_false c_16, eq_true c_25, if_true, if_false]
        rw [e9]
        exact g_iret hX dX4_period_35 rfl rfl
      · skip
        refine g_iinc hX (lv' := [(2, .int (nI (j + 1))), (0, .ref (ad 0)), (1, .int p1)]) (v := (nI (j + 1))) 0 dX4_period_28 rfl (nI_1 _) (by decide) rfl ?_
        refine g_goto hX 13 dX4_period_31 (by decide) ?_
        have e9 : K_X4_period_13 (n + 1) xv p1 j = K_X4_period_13 n xv p1 (j + 1) := by simp only [K_X4_period_13, eq_false c_16, eq_false c_25, if_true, if_false]
        rw [e9]
        refine g_lv (lv' := [(2, .int (nI (j + 1))), (0, .ref (ad 0)), (1, .int p1)]) [0, 1, 2] rfl ?_
        exact ih xv p1 (j + 1) (by omega) (by omega)
set_option maxHeartbeats 4000000 in
set_option maxRecDepth 100000 in
theorem c_X4_period (l : Launch) (T : TT) (b0 : Nat) (ad : Nat → Nat) (xv : XV) (p1 : Int32)  : ConI l T b0 yX4_period wsX4_period rmX4_period [.ref (ad 0), .int p1] (wXX T ad xv) (F_X4_period xv p1) (wXX T ad xv) := by
  refine conI_of (cc := cX4_period) (maxL := 3) (ret := (some .int)) (lv0 := [(0, .ref (ad 0)), (1, .int p1)]) (by decide +kernel) rfl (Nat.le_of_ble_eq_true rfl) rfl (fun X hX => ?_)
  refine g_iconst hX (v := 0) dX4_period_0 (by decide) ?_
  refine g_iload_n hX dX4_period_1 rfl 1 rfl ?_
  refine g_cS_I hX (n := 2) (As := [.int 0, .int p1]) (wc := []) (w1 := []) (rv := (F_X4_inRange 0 p1)) (st := []) (c_X4_inRange (xL X) T (xB X) 0 p1) gX4_period_X4_inRange rfl rfl rfl ⟨Nat.le_of_ble_eq_true rfl, Nat.le_of_ble_eq_true rfl⟩ ⟨Nat.zero_le _, Nat.zero_le _⟩ ⟨by decide +kernel, by decide +kernel, by decide +kernel⟩ rfl [] rfl rfl (by decide) rfl (Nat.le_of_ble_eq_true rfl) dX4_period_2 (ws' := wXX T ad xv) rfl ?_
  refine g_if_ne hX 11 dX4_period_5 (by decide) (fun c_5 => ?_) (fun c_5 => ?_)
  · skip
    refine g_iconst hX (v := 1) dX4_period_11 (by decide) ?_
    refine g_istore_n hX (lv' := [(2, .int 1), (0, .ref (ad 0)), (1, .int p1)]) dX4_period_12 rfl (by decide) rfl ?_
    have e9 : F_X4_period xv p1 = K_X4_period_13 22 xv p1 1 := by simp only [F_X4_period, eq_false c_5, if_true, if_false]
    rw [e9]
    refine g_lv (lv' := [(2, .int (nI 1)), (0, .ref (ad 0)), (1, .int p1)]) [0, 1, 2] rfl ?_
    exact k_X4_period_13 hX ad 22 xv p1 1 (by omega) (by omega)
  · skip
    refine g_bipush hX (v := (-2)) dX4_period_8 (by decide) ?_
    have e9 : F_X4_period xv p1 = (-2) := by simp only [F_X4_period, eq_true c_5, if_true, if_false]
    rw [e9]
    exact g_iret hX dX4_period_10 rfl rfl
