/-! X5_breaksIn -/
def rmX5_breaksIn : Room := { frames := 4, cells := 0, slots := 0, locals := 84 }
theorem k_X5_breaksIn_0 : Cond.fieldLink RX5 7 RX5 (TX5 0).2.1 (TX5 0).2.2.1 ∈ wsX5_breaksIn := List.mem_of_getElem? (i := 1) rfl
theorem h_X5_breaksIn_X5 : ∀ w ∈ u_ws RX5 TX5 12, w ∈ wsX5_breaksIn := fun w h => List.mem_cons_of_mem _ (List.mem_append_right _ h)
theorem k_X5_breaksIn_1 : Cond.fieldLink RX5 16 RX5 (TX5 2).2.1 (TX5 2).2.2.1 ∈ wsX5_breaksIn := List.mem_of_getElem? (i := 2) rfl
def K_X5_breaksIn_62 (u : MV) (j : Nat) : Int32 × MV :=
  (if (u.2.1 33) = 1 then ((nI j), (u.1, u.2.2.2.1, u.2.2.1, u.2.2.2.1, u.2.2.2.2.1, u.2.2.2.2.2.1, u.2.2.2.2.2.2)) else ((-5), (u.1, u.2.2.2.1, u.2.2.1, u.2.2.2.1, u.2.2.2.2.1, u.2.2.2.2.2.1, u.2.2.2.2.2.2)))
def K_X5_breaksIn_37 : Nat → MV → Nat → Int32 × MV
  | 0, u, j => (0, u)
  | n + 1, u, j => (if 1000 ≤ (nI j) then K_X5_breaksIn_62 u j else (if (F_X5_isIdle u.2.1) = 0 then (let z_52 := F_X5_turns u.2.1
  K_X5_breaksIn_37 n (u.1, z_52.2, u.2.2.1, u.2.2.2.1, u.2.2.2.2.1, u.2.2.2.2.2.1, u.2.2.2.2.2.2) (j + 1)) else K_X5_breaksIn_62 u j))
def F_X5_breaksIn (u : MV) : Int32 × MV :=
  (if (u.2.1 33) = 1 then ((-4), u) else (if (u.2.1 30) = 0 then ((-4), u) else K_X5_breaksIn_37 1001 (u.1, u.2.1, u.2.2.1, u.2.1, u.2.2.2.2.1, u.2.2.2.2.2.1, u.2.2.2.2.2.2) 0))
set_option maxHeartbeats 4000000 in
set_option maxRecDepth 100000 in
theorem k_X5_breaksIn_62 {T : TT} {X : CX} (hX : Fit T X (yX5_breaksIn).cls 3 wsX5_breaksIn cX5_breaksIn (some .int) rmX5_breaksIn) (x al ke tr hi sn te : Nat) (u : MV) (j : Nat)  : G T X (QI T X 0 0 ((K_X5_breaksIn_62 u j).1) (wMo T x al ke tr hi sn te ((K_X5_breaksIn_62 u j).2))) 0 0 (wMo T x al ke tr hi sn te u) [(1, .int (nI j)), (0, .ref x)] 62 [] := by
  refine g_aload_n hX dX5_breaksIn_62 rfl 1 rfl ?_
  refine g_get hX 5 h_X5_breaksIn_X5 0 rfl rfl 0 (by decide) k_X5_breaksIn_0 rfl (v := .ref al) rfl dX5_breaksIn_63 ?_
  refine g_bipush hX (v := 33) dX5_breaksIn_66 (by decide) ?_
  refine g_iald hX (f := u.2.1) 1 rfl (vin_c (by decide)) (v := (u.2.1 33)) (congrArg u.2.1 (show Int32.toNatClampNeg 33 = 33 from by decide)) dX5_breaksIn_68 ?_
  refine g_iconst hX (v := 1) dX5_breaksIn_69 (by decide) ?_
  refine g_icmp_ne hX 77 dX5_breaksIn_70 (by decide) (fun c_70 => ?_) (fun c_70 => ?_)
  · skip
    refine g_bipush hX (v := (-5)) dX5_breaksIn_77 (by decide) ?_
    refine g_istore_n hX (lv' := [(2, .int (-5)), (1, .int (nI j)), (0, .ref x)]) dX5_breaksIn_79 rfl (by decide) rfl ?_
    refine g_aload_n hX dX5_breaksIn_80 rfl 2 rfl ?_
    refine g_get hX 5 h_X5_breaksIn_X5 0 rfl rfl 2 (by decide) k_X5_breaksIn_1 rfl (v := .ref tr) rfl dX5_breaksIn_81 ?_
    refine g_aload_n hX dX5_breaksIn_84 rfl 2 rfl ?_
    refine g_get hX 5 h_X5_breaksIn_X5 0 rfl rfl 0 (by decide) k_X5_breaksIn_0 rfl (v := .ref al) rfl dX5_breaksIn_85 ?_
    refine g_cS_V hX (n := 2) (As := [.ref tr, .ref al]) (wc := wAr T tr 37 u.2.2.2.1 ++ wAr T al 37 u.2.1) (w1 := wAr T tr 37 u.2.2.2.1 ++ wAr T al 37 u.2.2.2.1) (st := []) (c_X5_copy (xL X) T (xB X) tr al u.2.2.2.1 u.2.1) gX5_breaksIn_X5_copy rfl rfl rfl ⟨Nat.le_of_ble_eq_true rfl, Nat.le_of_ble_eq_true rfl⟩ ⟨Nat.zero_le _, Nat.zero_le _⟩ ⟨by decide +kernel, by decide +kernel, by decide +kernel⟩ rfl [3, 1] rfl rfl (by decide) rfl (Nat.le_of_ble_eq_true rfl) dX5_breaksIn_88 (ws' := wMo T x al ke tr hi sn te (u.1, u.2.2.2.1, u.2.2.1, u.2.2.2.1, u.2.2.2.2.1, u.2.2.2.2.2.1, u.2.2.2.2.2.2)) rfl ?_
    refine g_iload_n hX dX5_breaksIn_91 rfl 0 rfl ?_
    have e9 : K_X5_breaksIn_62 u j = ((-5), (u.1, u.2.2.2.1, u.2.2.1, u.2.2.2.1, u.2.2.2.2.1, u.2.2.2.2.2.1, u.2.2.2.2.2.2)) := by simp only [K_X5_breaksIn_62, eq_false c_70, if_true, if_false]
    rw [e9]
    exact g_iret hX dX5_breaksIn_92 rfl rfl
  · skip
    refine g_iload_n hX dX5_breaksIn_73 rfl 0 rfl ?_
    refine g_goto hX 79 dX5_breaksIn_74 (by decide) ?_
    refine g_istore_n hX (lv' := [(2, .int (nI j)), (1, .int (nI j)), (0, .ref x)]) dX5_breaksIn_79 rfl (by decide) rfl ?_
    refine g_aload_n hX dX5_breaksIn_80 rfl 2 rfl ?_
    refine g_get hX 5 h_X5_breaksIn_X5 0 rfl rfl 2 (by decide) k_X5_breaksIn_1 rfl (v := .ref tr) rfl dX5_breaksIn_81 ?_
    refine g_aload_n hX dX5_breaksIn_84 rfl 2 rfl ?_
    refine g_get hX 5 h_X5_breaksIn_X5 0 rfl rfl 0 (by decide) k_X5_breaksIn_0 rfl (v := .ref al) rfl dX5_breaksIn_85 ?_
    refine g_cS_V hX (n := 2) (As := [.ref tr, .ref al]) (wc := wAr T tr 37 u.2.2.2.1 ++ wAr T al 37 u.2.1) (w1 := wAr T tr 37 u.2.2.2.1 ++ wAr T al 37 u.2.2.2.1) (st := []) (c_X5_copy (xL X) T (xB X) tr al u.2.2.2.1 u.2.1) gX5_breaksIn_X5_copy rfl rfl rfl ⟨Nat.le_of_ble_eq_true rfl, Nat.le_of_ble_eq_true rfl⟩ ⟨Nat.zero_le _, Nat.zero_le _⟩ ⟨by decide +kernel, by decide +kernel, by decide +kernel⟩ rfl [3, 1] rfl rfl (by decide) rfl (Nat.le_of_ble_eq_true rfl) dX5_breaksIn_88 (ws' := wMo T x al ke tr hi sn te (u.1, u.2.2.2.1, u.2.2.1, u.2.2.2.1, u.2.2.2.2.1, u.2.2.2.2.2.1, u.2.2.2.2.2.2)) rfl ?_
    refine g_iload_n hX dX5_breaksIn_91 rfl 0 rfl ?_
    have e9 : K_X5_breaksIn_62 u j = ((nI j), (u.1, u.2.2.2.1, u.2.2.1, u.2.2.2.1, u.2.2.2.2.1, u.2.2.2.2.2.1, u.2.2.2.2.2.2)) := by simp only [K_X5_breaksIn_62, eq_true c_70, if_true, if_false]
    rw [e9]
    exact g_iret hX dX5_breaksIn_92 rfl rfl
set_option maxHeartbeats 4000000 in
set_option maxRecDepth 100000 in
theorem k_X5_breaksIn_37 {T : TT} {X : CX} (hX : Fit T X (yX5_breaksIn).cls 3 wsX5_breaksIn cX5_breaksIn (some .int) rmX5_breaksIn) (x al ke tr hi sn te : Nat) : ∀ (n : Nat) (u : MV) (j : Nat) (hn : j + n = 1001) (hj : j ≤ 1000) (hw : mWF u.2.1), G T X (QI T X 0 0 ((K_X5_breaksIn_37 n u j).1) (wMo T x al ke tr hi sn te ((K_X5_breaksIn_37 n u j).2))) 0 0 (wMo T x al ke tr hi sn te u) [(1, .int (nI j)), (0, .ref x)] 37 [] := by
  intro n
  induction n with
  | zero =>
    intro u j hn hj hw
    exact absurd hn (by omega)
  | succ n ih =>
    intro u j hn hj hw
    refine g_iload_n hX dX5_breaksIn_37 rfl 0 rfl ?_
    refine g_sipush hX (v := 1000) dX5_breaksIn_38 (by decide) ?_
    refine g_icmp_ge hX 62 dX5_breaksIn_41 (by decide) (fun c_41 => ?_) (fun c_41 => ?_)
    · skip
      have e9 : K_X5_breaksIn_37 (n + 1) u j = K_X5_breaksIn_62 u j := by simp only [K_X5_breaksIn_37, eq_true c_41, if_true, if_false]
      rw [e9]
      refine g_lv (lv' := [(1, .int (nI j)), (0, .ref x)]) [0, 1] rfl ?_
      exact k_X5_breaksIn_62 hX x al ke tr hi sn te u j 
    · skip
      have hlt_41 : j < 1000 := nlt_of c_41 (by decide) (by omega)
      refine g_aload_n hX dX5_breaksIn_44 rfl 1 rfl ?_
      refine g_cV_I hX (n := 0) (As := []) (wc := wMa T x al ([.ref ke, .ref tr, .ref hi, .int (u.1 0), .ref sn, .int (u.1 1), .ref te, .int (u.1 2), .int (u.1 3), .int (u.1 4), .int (u.1 5)]) u.2.1) (w1 := wMa T x al ([.ref ke, .ref tr, .ref hi, .int (u.1 0), .ref sn, .int (u.1 1), .ref te, .int (u.1 2), .int (u.1 3), .int (u.1 4), .int (u.1 5)]) u.2.1) (rv := (F_X5_isIdle u.2.1)) (st := []) 0 rfl rfl (c_X5_isIdle (xL X) T (xB X) x al ([.ref ke, .ref tr, .ref hi, .int (u.1 0), .ref sn, .int (u.1 1), .ref te, .int (u.1 2), .int (u.1 3), .int (u.1 4), .int (u.1 5)]) u.2.1) gX5_breaksIn_X5_isIdle rfl rfl rfl ⟨Nat.le_of_ble_eq_true rfl, Nat.le_of_ble_eq_true rfl⟩ ⟨Nat.zero_le _, Nat.zero_le _⟩ ⟨by decide +kernel, by decide +kernel, by decide +kernel⟩ rfl [0, 1] rfl rfl (by decide) rfl (Nat.le_of_ble_eq_true rfl) dX5_breaksIn_45 (ws' := wMo T x al ke tr hi sn te u) rfl ?_
      refine g_if_ne hX 62 dX5_breaksIn_48 (by decide) (fun c_48 => ?_) (fun c_48 => ?_)
      · skip
        have e9 : K_X5_breaksIn_37 (n + 1) u j = K_X5_breaksIn_62 u j := by simp only [K_X5_breaksIn_37, eq_false c_41, eq_false c_48, if_true, if_false]
        rw [e9]
        refine g_lv (lv' := [(1, .int (nI j)), (0, .ref x)]) [0, 1] rfl ?_
        exact k_X5_breaksIn_62 hX x al ke tr hi sn te u j 
      · skip
        refine g_aload_n hX dX5_breaksIn_51 rfl 1 rfl ?_
        obtain ⟨z_52, hz_52⟩ : ∃ z : Int32 × (Nat → Int32), z = F_X5_turns u.2.1 := ⟨_, rfl⟩
        refine g_cV_I hX (n := 0) (As := []) (wc := wMa T x al ([.ref ke, .ref tr, .ref hi, .int (u.1 0), .ref sn, .int (u.1 1), .ref te, .int (u.1 2), .int (u.1 3), .int (u.1 4), .int (u.1 5)]) u.2.1) (w1 := wMa T x al ([.ref ke, .ref tr, .ref hi, .int (u.1 0), .ref sn, .int (u.1 1), .ref te, .int (u.1 2), .int (u.1 3), .int (u.1 4), .int (u.1 5)]) z_52.2) (rv := z_52.1) (st := []) 0 rfl rfl (by rw [hz_52]; exact (c_X5_turns (xL X) T (xB X) x al ([.ref ke, .ref tr, .ref hi, .int (u.1 0), .ref sn, .int (u.1 1), .ref te, .int (u.1 2), .int (u.1 3), .int (u.1 4), .int (u.1 5)]) u.2.1 hw)) gX5_breaksIn_X5_turns rfl rfl rfl ⟨Nat.le_of_ble_eq_true rfl, Nat.le_of_ble_eq_true rfl⟩ ⟨Nat.zero_le _, Nat.zero_le _⟩ ⟨by decide +kernel, by decide +kernel, by decide +kernel⟩ rfl [0, 1] rfl rfl (by decide) rfl (Nat.le_of_ble_eq_true rfl) dX5_breaksIn_52 (ws' := wMo T x al ke tr hi sn te (u.1, z_52.2, u.2.2.1, u.2.2.2.1, u.2.2.2.2.1, u.2.2.2.2.2.1, u.2.2.2.2.2.2)) rfl ?_
        refine g_istore_n hX (lv' := [(2, .int z_52.1), (1, .int (nI j)), (0, .ref x)]) dX5_breaksIn_55 rfl (by decide) rfl ?_
        refine g_iinc hX (lv' := [(1, .int (nI (j + 1))), (2, .int z_52.1), (0, .ref x)]) (v := (nI (j + 1))) 1 dX5_breaksIn_56 rfl (nI_1 _) (by decide) rfl ?_
        refine g_goto hX 37 dX5_breaksIn_59 (by decide) ?_
        have e9 : K_X5_breaksIn_37 (n + 1) u j = K_X5_breaksIn_37 n (u.1, z_52.2, u.2.2.1, u.2.2.2.1, u.2.2.2.2.1, u.2.2.2.2.2.1, u.2.2.2.2.2.2) (j + 1) := by simp only [K_X5_breaksIn_37, ← hz_52, eq_false c_41, eq_true c_48, if_true, if_false]
        rw [e9]
        refine g_lv (lv' := [(1, .int (nI (j + 1))), (0, .ref x)]) [0, 2] rfl ?_
        exact ih (u.1, z_52.2, u.2.2.1, u.2.2.2.1, u.2.2.2.2.1, u.2.2.2.2.2.1, u.2.2.2.2.2.2) (j + 1) (by omega) (by omega) (by rw [hz_52]; exact mWF_turns hw)
set_option maxHeartbeats 4000000 in
set_option maxRecDepth 100000 in
theorem c_X5_breaksIn (l : Launch) (T : TT) (b0 : Nat) (x al ke tr hi sn te : Nat) (u : MV) (hw : mWF u.2.1) : ConI l T b0 yX5_breaksIn wsX5_breaksIn rmX5_breaksIn [.ref x] (wMo T x al ke tr hi sn te u) ((F_X5_breaksIn u).1) (wMo T x al ke tr hi sn te ((F_X5_breaksIn u).2)) := by
  refine conI_of (cc := cX5_breaksIn) (maxL := 3) (ret := (some .int)) (lv0 := [(0, .ref x)]) (by decide +kernel) rfl (Nat.le_of_ble_eq_true rfl) rfl (fun X hX => ?_)
  refine g_aload_n hX dX5_breaksIn_0 rfl 0 rfl ?_
  refine g_get hX 5 h_X5_breaksIn_X5 0 rfl rfl 0 (by decide) k_X5_breaksIn_0 rfl (v := .ref al) rfl dX5_breaksIn_1 ?_
  refine g_bipush hX (v := 33) dX5_breaksIn_4 (by decide) ?_
  refine g_iald hX (f := u.2.1) 1 rfl (vin_c (by decide)) (v := (u.2.1 33)) (congrArg u.2.1 (show Int32.toNatClampNeg 33 = 33 from by decide)) dX5_breaksIn_6 ?_
  refine g_iconst hX (v := 1) dX5_breaksIn_7 (by decide) ?_
  refine g_icmp_eq hX 21 dX5_breaksIn_8 (by decide) (fun c_8 => ?_) (fun c_8 => ?_)
  · skip
    refine g_bipush hX (v := (-4)) dX5_breaksIn_21 (by decide) ?_
    have e9 : F_X5_breaksIn u = ((-4), u) := by simp only [F_X5_breaksIn, eq_true c_8, if_true, if_false]
    rw [e9]
    exact g_iret hX dX5_breaksIn_23 rfl rfl
  · skip
    refine g_aload_n hX dX5_breaksIn_11 rfl 0 rfl ?_
    refine g_get hX 5 h_X5_breaksIn_X5 0 rfl rfl 0 (by decide) k_X5_breaksIn_0 rfl (v := .ref al) rfl dX5_breaksIn_12 ?_
    refine g_bipush hX (v := 30) dX5_breaksIn_15 (by decide) ?_
    refine g_iald hX (f := u.2.1) 1 rfl (vin_c (by decide)) (v := (u.2.1 30)) (congrArg u.2.1 (show Int32.toNatClampNeg 30 = 30 from by decide)) dX5_breaksIn_17 ?_
    refine g_if_ne hX 24 dX5_breaksIn_18 (by decide) (fun c_18 => ?_) (fun c_18 => ?_)
    · skip
      refine g_aload_n hX dX5_breaksIn_24 rfl 0 rfl ?_
      refine g_get hX 5 h_X5_breaksIn_X5 0 rfl rfl 0 (by decide) k_X5_breaksIn_0 rfl (v := .ref al) rfl dX5_breaksIn_25 ?_
      refine g_aload_n hX dX5_breaksIn_28 rfl 0 rfl ?_
      refine g_get hX 5 h_X5_breaksIn_X5 0 rfl rfl 2 (by decide) k_X5_breaksIn_1 rfl (v := .ref tr) rfl dX5_breaksIn_29 ?_
      refine g_cS_V hX (n := 2) (As := [.ref al, .ref tr]) (wc := wAr T al 37 u.2.1 ++ wAr T tr 37 u.2.2.2.1) (w1 := wAr T al 37 u.2.1 ++ wAr T tr 37 u.2.1) (st := []) (c_X5_copy (xL X) T (xB X) al tr u.2.1 u.2.2.2.1) gX5_breaksIn_X5_copy rfl rfl rfl ⟨Nat.le_of_ble_eq_true rfl, Nat.le_of_ble_eq_true rfl⟩ ⟨Nat.zero_le _, Nat.zero_le _⟩ ⟨by decide +kernel, by decide +kernel, by decide +kernel⟩ rfl [1, 3] rfl rfl (by decide) rfl (Nat.le_of_ble_eq_true rfl) dX5_breaksIn_32 (ws' := wMo T x al ke tr hi sn te (u.1, u.2.1, u.2.2.1, u.2.1, u.2.2.2.2.1, u.2.2.2.2.2.1, u.2.2.2.2.2.2)) rfl ?_
      refine g_iconst hX (v := 0) dX5_breaksIn_35 (by decide) ?_
      refine g_istore_n hX (lv' := [(1, .int 0), (0, .ref x)]) dX5_breaksIn_36 rfl (by decide) rfl ?_
      have e9 : F_X5_breaksIn u = K_X5_breaksIn_37 1001 (u.1, u.2.1, u.2.2.1, u.2.1, u.2.2.2.2.1, u.2.2.2.2.2.1, u.2.2.2.2.2.2) 0 := by simp only [F_X5_breaksIn, eq_false c_8, eq_false c_18, if_true, if_false]
      rw [e9]
      refine g_lv (lv' := [(1, .int (nI 0)), (0, .ref x)]) [0, 1] rfl ?_
      exact k_X5_breaksIn_37 hX x al ke tr hi sn te 1001 (u.1, u.2.1, u.2.2.1, u.2.1, u.2.2.2.2.1, u.2.2.2.2.2.1, u.2.2.2.2.2.2) 0 (by omega) (by omega) hw
    · skip
      refine g_bipush hX (v := (-4)) dX5_breaksIn_21 (by decide) ?_
      have e9 : F_X5_breaksIn u = ((-4), u) := by simp only [F_X5_breaksIn, eq_false c_8, eq_true c_18, if_true, if_false]
      rw [e9]
      exact g_iret hX dX5_breaksIn_23 rfl rfl
theorem mWF_set {a : Nat → Int32} (h : mWF a) {p : Int32} (hp : ∃ t : Nat, 1 ≤ t ∧ t < 12 ∧ p = nI t) : mWF (upd (upd (upd a 29 0) 35 0) 24 p) := by
  obtain ⟨g1, g2, g3, g4, g5⟩ := h
  exact ⟨⟨0, by omega, rfl⟩, g2, g3, hp, g5⟩
theorem mWF_lay2 {a : Nat → Int32} (h : mWF a) (y w : Int32) : mWF (upd (upd a (Int32.toNatClampNeg (0 + F_X5_place a)) w) 35 y) := by
  have hi := place_ix h
  have h1 : mWF (upd a (Int32.toNatClampNeg (0 + F_X5_place a)) w) := mWF_congr (upd_ne (by omega)) (upd_ne (by omega)) (upd_ne (by omega)) (upd_ne (by omega)) (upd_ne (by omega)) h
  exact mWF_congr rfl rfl rfl rfl rfl h1
/-! X5_windsWith -/
def rmX5_windsWith : Room := { frames := 4, cells := 0, slots := 0, locals := 90 }
theorem k_X5_windsWith_0 : Cond.fieldLink RX5 7 RX5 (TX5 0).2.1 (TX5 0).2.2.1 ∈ wsX5_windsWith := List.mem_of_getElem? (i := 1) rfl
theorem h_X5_windsWith_X5 : ∀ w ∈ u_ws RX5 TX5 12, w ∈ wsX5_windsWith := fun w h => List.mem_cons_of_mem _ (List.mem_append_right _ h)
theorem k_X5_windsWith_1 : Cond.fieldLink RX5 16 RX5 (TX5 2).2.1 (TX5 2).2.2.1 ∈ wsX5_windsWith := List.mem_of_getElem? (i := 2) rfl
def K_X5_windsWith_113 (u : MV) (p1 : Int32) (p2 : Int32) (p3 : Int32)  : Int32 × MV :=
  (if p3 = 0 then ((F_X5_evenness u.2.1), (u.1, u.2.2.2.1, u.2.2.1, u.2.2.2.1, u.2.2.2.2.1, u.2.2.2.2.2.1, u.2.2.2.2.2.2)) else (if p3 = 1 then ((F_X5_ribbons u.2.1), (u.1, u.2.2.2.1, u.2.2.1, u.2.2.2.1, u.2.2.2.2.1, u.2.2.2.2.2.1, u.2.2.2.2.2.2)) else ((F_X5_bare u.2.1), (u.1, u.2.2.2.1, u.2.2.1, u.2.2.2.1, u.2.2.2.2.1, u.2.2.2.2.2.1, u.2.2.2.2.2.2))))
def K_X5_windsWith_64 : Nat → MV → Int32 → Int32 → Int32 → Nat → Int32 × MV
  | 0, u, p1, p2, p3, j => (0, u)
  | n + 1, u, p1, p2, p3, j => (if p2 ≤ (nI j) then K_X5_windsWith_113 u p1 p2 p3 else (if (F_X5_isFull u.2.1) = 0 then (let z_104 := F_X5_guideGoes (upd (upd u.2.1 (Int32.toNatClampNeg (0 + (F_X5_place u.2.1))) ((u.2.1 (Int32.toNatClampNeg (0 + (F_X5_place u.2.1)))) + 1)) 35 (((upd u.2.1 (Int32.toNatClampNeg (0 + (F_X5_place u.2.1))) ((u.2.1 (Int32.toNatClampNeg (0 + (F_X5_place u.2.1)))) + 1)) 35) + 1))
  K_X5_windsWith_64 n (u.1, z_104, u.2.2.1, u.2.2.2.1, u.2.2.2.2.1, u.2.2.2.2.2.1, u.2.2.2.2.2.2) p1 p2 p3 (j + 1)) else K_X5_windsWith_113 u p1 p2 p3))
def K_X5_windsWith_14 : Nat → MV → Int32 → Int32 → Int32 → Nat → Int32 × MV
  | 0, u, p1, p2, p3, j => (0, u)
  | n + 1, u, p1, p2, p3, j => (if 12 ≤ (nI j) then K_X5_windsWith_64 501 (u.1, (upd (upd (upd u.2.1 29 0) 35 0) 24 p1), u.2.2.1, u.2.2.2.1, u.2.2.2.2.1, u.2.2.2.2.2.1, u.2.2.2.2.2.2) p1 p2 p3 0 else K_X5_windsWith_14 n (u.1, (upd u.2.1 j 0), u.2.2.1, u.2.2.2.1, u.2.2.2.2.1, u.2.2.2.2.2.1, u.2.2.2.2.2.2) p1 p2 p3 (j + 1))
def F_X5_windsWith (u : MV) (p1 : Int32) (p2 : Int32) (p3 : Int32) : Int32 × MV :=
  K_X5_windsWith_14 13 (u.1, u.2.1, u.2.2.1, u.2.1, u.2.2.2.2.1, u.2.2.2.2.2.1, u.2.2.2.2.2.2) p1 p2 p3 0
set_option maxHeartbeats 4000000 in
set_option maxRecDepth 100000 in
theorem k_X5_windsWith_113 {T : TT} {X : CX} (hX : Fit T X (yX5_windsWith).cls 5 wsX5_windsWith cX5_windsWith (some .int) rmX5_windsWith) (x al ke tr hi sn te : Nat) (u : MV) (p1 : Int32) (p2 : Int32) (p3 : Int32)  : G T X (QI T X 0 0 ((K_X5_windsWith_113 u p1 p2 p3).1) (wMo T x al ke tr hi sn te ((K_X5_windsWith_113 u p1 p2 p3).2))) 0 0 (wMo T x al ke tr hi sn te u) [(0, .ref x), (1, .int p1), (2, .int p2), (3, .int p3)] 113 [] := by
  refine g_iload_n hX dX5_windsWith_113 rfl 3 rfl ?_
  refine g_if_ne hX 124 dX5_windsWith_114 (by decide) (fun c_114 => ?_) (fun c_114 => ?_)
  · skip
    refine g_iload_n hX dX5_windsWith_124 rfl 3 rfl ?_
    refine g_iconst hX (v := 1) dX5_windsWith_125 (by decide) ?_
    refine g_icmp_ne hX 136 dX5_windsWith_126 (by decide) (fun c_126 => ?_) (fun c_126 => ?_)
    · skip
      refine g_aload_n hX dX5_windsWith_136 rfl 0 rfl ?_
      refine g_cV_I hX (n := 0) (As := []) (wc := wMa T x al ([.ref ke, .ref tr, .ref hi, .int (u.1 0), .ref sn, .int (u.1 1), .ref te, .int (u.1 2), .int (u.1 3), .int (u.1 4), .int (u.1 5)]) u.2.1) (w1 := wMa T x al ([.ref ke, .ref tr, .ref hi, .int (u.1 0), .ref sn, .int (u.1 1), .ref te, .int (u.1 2), .int (u.1 3), .int (u.1 4), .int (u.1 5)]) u.2.1) (rv := (F_X5_bare u.2.1)) (st := []) 0 rfl rfl (c_X5_bare (xL X) T (xB X) x al ([.ref ke, .ref tr, .ref hi, .int (u.1 0), .ref sn, .int (u.1 1), .ref te, .int (u.1 2), .int (u.1 3), .int (u.1 4), .int (u.1 5)]) u.2.1) gX5_windsWith_X5_bare rfl rfl rfl ⟨Nat.le_of_ble_eq_true rfl, Nat.le_of_ble_eq_true rfl⟩ ⟨Nat.zero_le _, Nat.zero_le _⟩ ⟨by decide +kernel, by decide +kernel, by decide +kernel⟩ rfl [0, 1] rfl rfl (by decide) rfl (Nat.le_of_ble_eq_true rfl) dX5_windsWith_137 (ws' := wMo T x al ke tr hi sn te u) rfl ?_
      refine g_istore hX (lv' := [(4, .int (F_X5_bare u.2.1)), (0, .ref x), (1, .int p1), (2, .int p2), (3, .int p3)]) dX5_windsWith_140 (by decide) rfl ?_
      refine g_aload_n hX dX5_windsWith_142 rfl 1 rfl ?_
      refine g_get hX 5 h_X5_windsWith_X5 0 rfl rfl 2 (by decide) k_X5_windsWith_1 rfl (v := .ref tr) rfl dX5_windsWith_143 ?_
      refine g_aload_n hX dX5_windsWith_146 rfl 1 rfl ?_
      refine g_get hX 5 h_X5_windsWith_X5 0 rfl rfl 0 (by decide) k_X5_windsWith_0 rfl (v := .ref al) rfl dX5_windsWith_147 ?_
      refine g_cS_V hX (n := 2) (As := [.ref tr, .ref al]) (wc := wAr T tr 37 u.2.2.2.1 ++ wAr T al 37 u.2.1) (w1 := wAr T tr 37 u.2.2.2.1 ++ wAr T al 37 u.2.2.2.1) (st := []) (c_X5_copy (xL X) T (xB X) tr al u.2.2.2.1 u.2.1) gX5_windsWith_X5_copy rfl rfl rfl ⟨Nat.le_of_ble_eq_true rfl, Nat.le_of_ble_eq_true rfl⟩ ⟨Nat.zero_le _, Nat.zero_le _⟩ ⟨by decide +kernel, by decide +kernel, by decide +kernel⟩ rfl [3, 1] rfl rfl (by decide) rfl (Nat.le_of_ble_eq_true rfl) dX5_windsWith_150 (ws' := wMo T x al ke tr hi sn te (u.1, u.2.2.2.1, u.2.2.1, u.2.2.2.1, u.2.2.2.2.1, u.2.2.2.2.2.1, u.2.2.2.2.2.2)) rfl ?_
      refine g_iload hX dX5_windsWith_153 0 rfl ?_
      have e9 : K_X5_windsWith_113 u p1 p2 p3 = ((F_X5_bare u.2.1), (u.1, u.2.2.2.1, u.2.2.1, u.2.2.2.1, u.2.2.2.2.1, u.2.2.2.2.2.1, u.2.2.2.2.2.2)) := by simp only [K_X5_windsWith_113, eq_false c_114, eq_false c_126, if_true, if_false]
      rw [e9]
      exact g_iret hX dX5_windsWith_155 rfl rfl
    · skip
      refine g_aload_n hX dX5_windsWith_129 rfl 0 rfl ?_
      refine g_cV_I hX (n := 0) (As := []) (wc := wMa T x al ([.ref ke, .ref tr, .ref hi, .int (u.1 0), .ref sn, .int (u.1 1), .ref te, .int (u.1 2), .int (u.1 3), .int (u.1 4), .int (u.1 5)]) u.2.1) (w1 := wMa T x al ([.ref ke, .ref tr, .ref hi, .int (u.1 0), .ref sn, .int (u.1 1), .ref te, .int (u.1 2), .int (u.1 3), .int (u.1 4), .int (u.1 5)]) u.2.1) (rv := (F_X5_ribbons u.2.1)) (st := []) 0 rfl rfl (c_X5_ribbons (xL X) T (xB X) x al ([.ref ke, .ref tr, .ref hi, .int (u.1 0), .ref sn, .int (u.1 1), .ref te, .int (u.1 2), .int (u.1 3), .int (u.1 4), .int (u.1 5)]) u.2.1) gX5_windsWith_X5_ribbons rfl rfl rfl ⟨Nat.le_of_ble_eq_true rfl, Nat.le_of_ble_eq_true rfl⟩ ⟨Nat.zero_le _, Nat.zero_le _⟩ ⟨by decide +kernel, by decide +kernel, by decide +kernel⟩ rfl [0, 1] rfl rfl (by decide) rfl (Nat.le_of_ble_eq_true rfl) dX5_windsWith_130 (ws' := wMo T x al ke tr hi sn te u) rfl ?_
      refine g_goto hX 140 dX5_windsWith_133 (by decide) ?_
      refine g_istore hX (lv' := [(4, .int (F_X5_ribbons u.2.1)), (0, .ref x), (1, .int p1), (2, .int p2), (3, .int p3)]) dX5_windsWith_140 (by decide) rfl ?_
      refine g_aload_n hX dX5_windsWith_142 rfl 1 rfl ?_
      refine g_get hX 5 h_X5_windsWith_X5 0 rfl rfl 2 (by decide) k_X5_windsWith_1 rfl (v := .ref tr) rfl dX5_windsWith_143 ?_
      refine g_aload_n hX dX5_windsWith_146 rfl 1 rfl ?_
      refine g_get hX 5 h_X5_windsWith_X5 0 rfl rfl 0 (by decide) k_X5_windsWith_0 rfl (v := .ref al) rfl dX5_windsWith_147 ?_
      refine g_cS_V hX (n := 2) (As := [.ref tr, .ref al]) (wc := wAr T tr 37 u.2.2.2.1 ++ wAr T al 37 u.2.1) (w1 := wAr T tr 37 u.2.2.2.1 ++ wAr T al 37 u.2.2.2.1) (st := []) (c_X5_copy (xL X) T (xB X) tr al u.2.2.2.1 u.2.1) gX5_windsWith_X5_copy rfl rfl rfl ⟨Nat.le_of_ble_eq_true rfl, Nat.le_of_ble_eq_true rfl⟩ ⟨Nat.zero_le _, Nat.zero_le _⟩ ⟨by decide +kernel, by decide +kernel, by decide +kernel⟩ rfl [3, 1] rfl rfl (by decide) rfl (Nat.le_of_ble_eq_true rfl) dX5_windsWith_150 (ws' := wMo T x al ke tr hi sn te (u.1, u.2.2.2.1, u.2.2.1, u.2.2.2.1, u.2.2.2.2.1, u.2.2.2.2.2.1, u.2.2.2.2.2.2)) rfl ?_
      refine g_iload hX dX5_windsWith_153 0 rfl ?_
      have e9 : K_X5_windsWith_113 u p1 p2 p3 = ((F_X5_ribbons u.2.1), (u.1, u.2.2.2.1, u.2.2.1, u.2.2.2.1, u.2.2.2.2.1, u.2.2.2.2.2.1, u.2.2.2.2.2.2)) := by simp only [K_X5_windsWith_113, eq_false c_114, eq_true c_126, if_true, if_false]
      rw [e9]
      exact g_iret hX dX5_windsWith_155 rfl rfl
  · skip
    refine g_aload_n hX dX5_windsWith_117 rfl 0 rfl ?_
    refine g_cV_I hX (n := 0) (As := []) (wc := wMa T x al ([.ref ke, .ref tr, .ref hi, .int (u.1 0), .ref sn, .int (u.1 1), .ref te, .int (u.1 2), .int (u.1 3), .int (u.1 4), .int (u.1 5)]) u.2.1) (w1 := wMa T x al ([.ref ke, .ref tr, .ref hi, .int (u.1 0), .ref sn, .int (u.1 1), .ref te, .int (u.1 2), .int (u.1 3), .int (u.1 4), .int (u.1 5)]) u.2.1) (rv := (F_X5_evenness u.2.1)) (st := []) 0 rfl rfl (c_X5_evenness (xL X) T (xB X) x al ([.ref ke, .ref tr, .ref hi, .int (u.1 0), .ref sn, .int (u.1 1), .ref te, .int (u.1 2), .int (u.1 3), .int (u.1 4), .int (u.1 5)]) u.2.1) gX5_windsWith_X5_evenness rfl rfl rfl ⟨Nat.le_of_ble_eq_true rfl, Nat.le_of_ble_eq_true rfl⟩ ⟨Nat.zero_le _, Nat.zero_le _⟩ ⟨by decide +kernel, by decide +kernel, by decide +kernel⟩ rfl [0, 1] rfl rfl (by decide) rfl (Nat.le_of_ble_eq_true rfl) dX5_windsWith_118 (ws' := wMo T x al ke tr hi sn te u) rfl ?_
    refine g_goto hX 140 dX5_windsWith_121 (by decide) ?_
    refine g_istore hX (lv' := [(4, .int (F_X5_evenness u.2.1)), (0, .ref x), (1, .int p1), (2, .int p2), (3, .int p3)]) dX5_windsWith_140 (by decide) rfl ?_
    refine g_aload_n hX dX5_windsWith_142 rfl 1 rfl ?_
    refine g_get hX 5 h_X5_windsWith_X5 0 rfl rfl 2 (by decide) k_X5_windsWith_1 rfl (v := .ref tr) rfl dX5_windsWith_143 ?_
    refine g_aload_n hX dX5_windsWith_146 rfl 1 rfl ?_
    refine g_get hX 5 h_X5_windsWith_X5 0 rfl rfl 0 (by decide) k_X5_windsWith_0 rfl (v := .ref al) rfl dX5_windsWith_147 ?_
    refine g_cS_V hX (n := 2) (As := [.ref tr, .ref al]) (wc := wAr T tr 37 u.2.2.2.1 ++ wAr T al 37 u.2.1) (w1 := wAr T tr 37 u.2.2.2.1 ++ wAr T al 37 u.2.2.2.1) (st := []) (c_X5_copy (xL X) T (xB X) tr al u.2.2.2.1 u.2.1) gX5_windsWith_X5_copy rfl rfl rfl ⟨Nat.le_of_ble_eq_true rfl, Nat.le_of_ble_eq_true rfl⟩ ⟨Nat.zero_le _, Nat.zero_le _⟩ ⟨by decide +kernel, by decide +kernel, by decide +kernel⟩ rfl [3, 1] rfl rfl (by decide) rfl (Nat.le_of_ble_eq_true rfl) dX5_windsWith_150 (ws' := wMo T x al ke tr hi sn te (u.1, u.2.2.2.1, u.2.2.1, u.2.2.2.1, u.2.2.2.2.1, u.2.2.2.2.2.1, u.2.2.2.2.2.2)) rfl ?_
    refine g_iload hX dX5_windsWith_153 0 rfl ?_
    have e9 : K_X5_windsWith_113 u p1 p2 p3 = ((F_X5_evenness u.2.1), (u.1, u.2.2.2.1, u.2.2.1, u.2.2.2.1, u.2.2.2.2.1, u.2.2.2.2.2.1, u.2.2.2.2.2.2)) := by simp only [K_X5_windsWith_113, eq_true c_114, if_true, if_false]
    rw [e9]
    exact g_iret hX dX5_windsWith_155 rfl rfl
set_option maxHeartbeats 4000000 in
set_option maxRecDepth 100000 in
theorem k_X5_windsWith_64 {T : TT} {X : CX} (hX : Fit T X (yX5_windsWith).cls 5 wsX5_windsWith cX5_windsWith (some .int) rmX5_windsWith) (x al ke tr hi sn te : Nat) : ∀ (n : Nat) (u : MV) (p1 : Int32) (p2 : Int32) (p3 : Int32) (j : Nat) (hn : j + n = 501) (hj : j ≤ 500) (hw : mWF u.2.1) (hp : p2.toInt ≤ 500), G T X (QI T X 0 0 ((K_X5_windsWith_64 n u p1 p2 p3 j).1) (wMo T x al ke tr hi sn te ((K_X5_windsWith_64 n u p1 p2 p3 j).2))) 0 0 (wMo T x al ke tr hi sn te u) [(4, .int (nI j)), (0, .ref x), (1, .int p1), (2, .int p2), (3, .int p3)] 64 [] := by
  intro n
  induction n with
  | zero =>
    intro u p1 p2 p3 j hn hj hw hp
    exact absurd hn (by omega)
  | succ n ih =>
    intro u p1 p2 p3 j hn hj hw hp
    refine g_iload hX dX5_windsWith_64 0 rfl ?_
    refine g_iload_n hX dX5_windsWith_66 rfl 3 rfl ?_
    refine g_icmp_ge hX 113 dX5_windsWith_67 (by decide) (fun c_67 => ?_) (fun c_67 => ?_)
    · skip
      have e9 : K_X5_windsWith_64 (n + 1) u p1 p2 p3 j = K_X5_windsWith_113 u p1 p2 p3 := by simp only [K_X5_windsWith_64, eq_true c_67, if_true, if_false]
      rw [e9]
      refine g_lv (lv' := [(0, .ref x), (1, .int p1), (2, .int p2), (3, .int p3)]) [1, 2, 3, 4] rfl ?_
      exact k_X5_windsWith_113 hX x al ke tr hi sn te u p1 p2 p3 
    · skip
      have hlt : j < 500 := nlt_p c_67 hp (by omega)
      refine g_aload_n hX dX5_windsWith_70 rfl 1 rfl ?_
      refine g_cV_I hX (n := 0) (As := []) (wc := wMa T x al ([.ref ke, .ref tr, .ref hi, .int (u.1 0), .ref sn, .int (u.1 1), .ref te, .int (u.1 2), .int (u.1 3), .int (u.1 4), .int (u.1 5)]) u.2.1) (w1 := wMa T x al ([.ref ke, .ref tr, .ref hi, .int (u.1 0), .ref sn, .int (u.1 1), .ref te, .int (u.1 2), .int (u.1 3), .int (u.1 4), .int (u.1 5)]) u.2.1) (rv := (F_X5_isFull u.2.1)) (st := []) 0 rfl rfl (c_X5_isFull (xL X) T (xB X) x al ([.ref ke, .ref tr, .ref hi, .int (u.1 0), .ref sn, .int (u.1 1), .ref te, .int (u.1 2), .int (u.1 3), .int (u.1 4), .int (u.1 5)]) u.2.1) gX5_windsWith_X5_isFull rfl rfl rfl ⟨Nat.le_of_ble_eq_true rfl, Nat.le_of_ble_eq_true rfl⟩ ⟨Nat.zero_le _, Nat.zero_le _⟩ ⟨by decide +kernel, by decide +kernel, by decide +kernel⟩ rfl [0, 1] rfl rfl (by decide) rfl (Nat.le_of_ble_eq_true rfl) dX5_windsWith_71 (ws' := wMo T x al ke tr hi sn te u) rfl ?_
      refine g_if_ne hX 113 dX5_windsWith_74 (by decide) (fun c_74 => ?_) (fun c_74 => ?_)
      · skip
        have e9 : K_X5_windsWith_64 (n + 1) u p1 p2 p3 j = K_X5_windsWith_113 u p1 p2 p3 := by simp only [K_X5_windsWith_64, eq_false c_67, eq_false c_74, if_true, if_false]
        rw [e9]
        refine g_lv (lv' := [(0, .ref x), (1, .int p1), (2, .int p2), (3, .int p3)]) [1, 2, 3, 4] rfl ?_
        exact k_X5_windsWith_113 hX x al ke tr hi sn te u p1 p2 p3 
      · skip
        refine g_aload_n hX dX5_windsWith_77 rfl 1 rfl ?_
        refine g_get hX 5 h_X5_windsWith_X5 0 rfl rfl 0 (by decide) k_X5_windsWith_0 rfl (v := .ref al) rfl dX5_windsWith_78 ?_
        refine g_iconst hX (v := 0) dX5_windsWith_81 (by decide) ?_
        refine g_aload_n hX dX5_windsWith_82 rfl 1 rfl ?_
        refine g_cV_I hX (n := 0) (As := []) (wc := wMa T x al ([.ref ke, .ref tr, .ref hi, .int (u.1 0), .ref sn, .int (u.1 1), .ref te, .int (u.1 2), .int (u.1 3), .int (u.1 4), .int (u.1 5)]) u.2.1) (w1 := wMa T x al ([.ref ke, .ref tr, .ref hi, .int (u.1 0), .ref sn, .int (u.1 1), .ref te, .int (u.1 2), .int (u.1 3), .int (u.1 4), .int (u.1 5)]) u.2.1) (rv := (F_X5_place u.2.1)) (st := [.int 0, .ref al]) 0 rfl rfl (c_X5_place (xL X) T (xB X) x al ([.ref ke, .ref tr, .ref hi, .int (u.1 0), .ref sn, .int (u.1 1), .ref te, .int (u.1 2), .int (u.1 3), .int (u.1 4), .int (u.1 5)]) u.2.1) gX5_windsWith_X5_place rfl rfl rfl ⟨Nat.le_of_ble_eq_true rfl, Nat.le_of_ble_eq_true rfl⟩ ⟨Nat.zero_le _, Nat.zero_le _⟩ ⟨by decide +kernel, by decide +kernel, by decide +kernel⟩ rfl [0, 1] rfl rfl (by decide) rfl (Nat.le_of_ble_eq_true rfl) dX5_windsWith_83 (ws' := wMo T x al ke tr hi sn te u) rfl ?_
        refine g_iadd hX dX5_windsWith_86 ?_
        refine g_dup2 hX dX5_windsWith_87 rfl rfl ?_
        refine g_iald hX (f := u.2.1) 1 rfl (vin_place (a := u.2.1) hw) (v := (u.2.1 (Int32.toNatClampNeg (0 + (F_X5_place u.2.1))))) (congrArg u.2.1 rfl) dX5_windsWith_88 ?_
        refine g_iconst hX (v := 1) dX5_windsWith_89 (by decide) ?_
        refine g_iadd hX dX5_windsWith_90 ?_
        refine g_iast hX 1 rfl (vin_place (a := u.2.1) hw) dX5_windsWith_91 (ws' := wMo T x al ke tr hi sn te (u.1, (upd u.2.1 (Int32.toNatClampNeg (0 + (F_X5_place u.2.1))) ((u.2.1 (Int32.toNatClampNeg (0 + (F_X5_place u.2.1)))) + 1)), u.2.2.1, u.2.2.2.1, u.2.2.2.2.1, u.2.2.2.2.2.1, u.2.2.2.2.2.2)) rfl ?_
        refine g_aload_n hX dX5_windsWith_92 rfl 1 rfl ?_
        refine g_get hX 5 h_X5_windsWith_X5 0 rfl rfl 0 (by decide) k_X5_windsWith_0 rfl (v := .ref al) rfl dX5_windsWith_93 ?_
        refine g_bipush hX (v := 35) dX5_windsWith_96 (by decide) ?_
        refine g_dup2 hX dX5_windsWith_98 rfl rfl ?_
        refine g_iald hX (f := (upd u.2.1 (Int32.toNatClampNeg (0 + (F_X5_place u.2.1))) ((u.2.1 (Int32.toNatClampNeg (0 + (F_X5_place u.2.1)))) + 1))) 1 rfl (vin_c (by decide)) (v := ((upd u.2.1 (Int32.toNatClampNeg (0 + (F_X5_place u.2.1))) ((u.2.1 (Int32.toNatClampNeg (0 + (F_X5_place u.2.1)))) + 1)) 35)) (congrArg (upd u.2.1 (Int32.toNatClampNeg (0 + (F_X5_place u.2.1))) ((u.2.1 (Int32.toNatClampNeg (0 + (F_X5_place u.2.1)))) + 1)) (show Int32.toNatClampNeg 35 = 35 from by decide)) dX5_windsWith_99 ?_
        refine g_iconst hX (v := 1) dX5_windsWith_100 (by decide) ?_
        refine g_iadd hX dX5_windsWith_101 ?_
        refine g_iast hX 1 rfl (vin_c (by decide)) dX5_windsWith_102 (ws' := wMo T x al ke tr hi sn te (u.1, (upd (upd u.2.1 (Int32.toNatClampNeg (0 + (F_X5_place u.2.1))) ((u.2.1 (Int32.toNatClampNeg (0 + (F_X5_place u.2.1)))) + 1)) 35 (((upd u.2.1 (Int32.toNatClampNeg (0 + (F_X5_place u.2.1))) ((u.2.1 (Int32.toNatClampNeg (0 + (F_X5_place u.2.1)))) + 1)) 35) + 1)), u.2.2.1, u.2.2.2.1, u.2.2.2.2.1, u.2.2.2.2.2.1, u.2.2.2.2.2.2)) (by rw [show Int32.toNatClampNeg 35 = 35 from (show Int32.toNatClampNeg 35 = 35 from by decide)] <;> rfl) ?_
        refine g_aload_n hX dX5_windsWith_103 rfl 1 rfl ?_
        obtain ⟨z_104, hz_104⟩ : ∃ z : (Nat → Int32), z = F_X5_guideGoes (upd (upd u.2.1 (Int32.toNatClampNeg (0 + (F_X5_place u.2.1))) ((u.2.1 (Int32.toNatClampNeg (0 + (F_X5_place u.2.1)))) + 1)) 35 (((upd u.2.1 (Int32.toNatClampNeg (0 + (F_X5_place u.2.1))) ((u.2.1 (Int32.toNatClampNeg (0 + (F_X5_place u.2.1)))) + 1)) 35) + 1)) := ⟨_, rfl⟩
        refine g_cV_V hX (n := 0) (As := []) (wc := wMa T x al ([.ref ke, .ref tr, .ref hi, .int (u.1 0), .ref sn, .int (u.1 1), .ref te, .int (u.1 2), .int (u.1 3), .int (u.1 4), .int (u.1 5)]) (upd (upd u.2.1 (Int32.toNatClampNeg (0 + (F_X5_place u.2.1))) ((u.2.1 (Int32.toNatClampNeg (0 + (F_X5_place u.2.1)))) + 1)) 35 (((upd u.2.1 (Int32.toNatClampNeg (0 + (F_X5_place u.2.1))) ((u.2.1 (Int32.toNatClampNeg (0 + (F_X5_place u.2.1)))) + 1)) 35) + 1))) (w1 := wMa T x al ([.ref ke, .ref tr, .ref hi, .int (u.1 0), .ref sn, .int (u.1 1), .ref te, .int (u.1 2), .int (u.1 3), .int (u.1 4), .int (u.1 5)]) z_104) (st := []) 0 rfl rfl (by rw [hz_104]; exact (c_X5_guideGoes (xL X) T (xB X) x al ([.ref ke, .ref tr, .ref hi, .int (u.1 0), .ref sn, .int (u.1 1), .ref te, .int (u.1 2), .int (u.1 3), .int (u.1 4), .int (u.1 5)]) (upd (upd u.2.1 (Int32.toNatClampNeg (0 + (F_X5_place u.2.1))) ((u.2.1 (Int32.toNatClampNeg (0 + (F_X5_place u.2.1)))) + 1)) 35 (((upd u.2.1 (Int32.toNatClampNeg (0 + (F_X5_place u.2.1))) ((u.2.1 (Int32.toNatClampNeg (0 + (F_X5_place u.2.1)))) + 1)) 35) + 1)) (mWF_lay2 hw _ _))) gX5_windsWith_X5_guideGoes rfl rfl rfl ⟨Nat.le_of_ble_eq_true rfl, Nat.le_of_ble_eq_true rfl⟩ ⟨Nat.zero_le _, Nat.zero_le _⟩ ⟨by decide +kernel, by decide +kernel, by decide +kernel⟩ rfl [0, 1] rfl rfl (by decide) rfl (Nat.le_of_ble_eq_true rfl) dX5_windsWith_104 (ws' := wMo T x al ke tr hi sn te (u.1, z_104, u.2.2.1, u.2.2.2.1, u.2.2.2.2.1, u.2.2.2.2.2.1, u.2.2.2.2.2.2)) rfl ?_
        refine g_iinc hX (lv' := [(4, .int (nI (j + 1))), (0, .ref x), (1, .int p1), (2, .int p2), (3, .int p3)]) (v := (nI (j + 1))) 0 dX5_windsWith_107 rfl (nI_1 _) (by decide) rfl ?_
        refine g_goto hX 64 dX5_windsWith_110 (by decide) ?_
        have e9 : K_X5_windsWith_64 (n + 1) u p1 p2 p3 j = K_X5_windsWith_64 n (u.1, z_104, u.2.2.1, u.2.2.2.1, u.2.2.2.2.1, u.2.2.2.2.2.1, u.2.2.2.2.2.2) p1 p2 p3 (j + 1) := by simp only [K_X5_windsWith_64, ← hz_104, eq_false c_67, eq_true c_74, if_true, if_false]
        rw [e9]
        refine g_lv (lv' := [(4, .int (nI (j + 1))), (0, .ref x), (1, .int p1), (2, .int p2), (3, .int p3)]) [0, 1, 2, 3, 4] rfl ?_
        exact ih (u.1, z_104, u.2.2.1, u.2.2.2.1, u.2.2.2.2.1, u.2.2.2.2.2.1, u.2.2.2.2.2.2) p1 p2 p3 (j + 1) (by omega) (by omega) (by rw [hz_104]; exact mWF_go (mWF_lay2 hw _ _)) hp
set_option maxHeartbeats 4000000 in
set_option maxRecDepth 100000 in
theorem k_X5_windsWith_14 {T : TT} {X : CX} (hX : Fit T X (yX5_windsWith).cls 5 wsX5_windsWith cX5_windsWith (some .int) rmX5_windsWith) (x al ke tr hi sn te : Nat) : ∀ (n : Nat) (u : MV) (p1 : Int32) (p2 : Int32) (p3 : Int32) (j : Nat) (hn : j + n = 13) (hj : j ≤ 12) (hw : mWF u.2.1) (hq : ∃ t : Nat, 1 ≤ t ∧ t < 12 ∧ p1 = nI t) (hp : p2.toInt ≤ 500), G T X (QI T X 0 0 ((K_X5_windsWith_14 n u p1 p2 p3 j).1) (wMo T x al ke tr hi sn te ((K_X5_windsWith_14 n u p1 p2 p3 j).2))) 0 0 (wMo T x al ke tr hi sn te u) [(4, .int (nI j)), (0, .ref x), (1, .int p1), (2, .int p2), (3, .int p3)] 14 [] := by
  intro n
  induction n with
  | zero =>
    intro u p1 p2 p3 j hn hj hw hq hp
    exact absurd hn (by omega)
  | succ n ih =>
    intro u p1 p2 p3 j hn hj hw hq hp
    refine g_iload hX dX5_windsWith_14 0 rfl ?_
    refine g_bipush hX (v := 12) dX5_windsWith_16 (by decide) ?_
    refine g_icmp_ge hX 37 dX5_windsWith_18 (by decide) (fun c_18 => ?_) (fun c_18 => ?_)
    · skip
      refine g_aload_n hX dX5_windsWith_37 rfl 1 rfl ?_
      refine g_get hX 5 h_X5_windsWith_X5 0 rfl rfl 0 (by decide) k_X5_windsWith_0 rfl (v := .ref al) rfl dX5_windsWith_38 ?_
      refine g_bipush hX (v := 29) dX5_windsWith_41 (by decide) ?_
      refine g_iconst hX (v := 0) dX5_windsWith_43 (by decide) ?_
      refine g_iast hX 1 rfl (vin_c (by decide)) dX5_windsWith_44 (ws' := wMo T x al ke tr hi sn te (u.1, (upd u.2.1 29 0), u.2.2.1, u.2.2.2.1, u.2.2.2.2.1, u.2.2.2.2.2.1, u.2.2.2.2.2.2)) (by rw [show Int32.toNatClampNeg 29 = 29 from (show Int32.toNatClampNeg 29 = 29 from by decide)] <;> rfl) ?_
      refine g_aload_n hX dX5_windsWith_45 rfl 1 rfl ?_
      refine g_get hX 5 h_X5_windsWith_X5 0 rfl rfl 0 (by decide) k_X5_windsWith_0 rfl (v := .ref al) rfl dX5_windsWith_46 ?_
      refine g_bipush hX (v := 35) dX5_windsWith_49 (by decide) ?_
      refine g_iconst hX (v := 0) dX5_windsWith_51 (by decide) ?_
      refine g_iast hX 1 rfl (vin_c (by decide)) dX5_windsWith_52 (ws' := wMo T x al ke tr hi sn te (u.1, (upd (upd u.2.1 29 0) 35 0), u.2.2.1, u.2.2.2.1, u.2.2.2.2.1, u.2.2.2.2.2.1, u.2.2.2.2.2.2)) (by rw [show Int32.toNatClampNeg 35 = 35 from (show Int32.toNatClampNeg 35 = 35 from by decide)] <;> rfl) ?_
      refine g_aload_n hX dX5_windsWith_53 rfl 1 rfl ?_
      refine g_get hX 5 h_X5_windsWith_X5 0 rfl rfl 0 (by decide) k_X5_windsWith_0 rfl (v := .ref al) rfl dX5_windsWith_54 ?_
      refine g_bipush hX (v := 24) dX5_windsWith_57 (by decide) ?_
      refine g_iload_n hX dX5_windsWith_59 rfl 2 rfl ?_
      refine g_iast hX 1 rfl (vin_c (by decide)) dX5_windsWith_60 (ws' := wMo T x al ke tr hi sn te (u.1, (upd (upd (upd u.2.1 29 0) 35 0) 24 p1), u.2.2.1, u.2.2.2.1, u.2.2.2.2.1, u.2.2.2.2.2.1, u.2.2.2.2.2.2)) (by rw [show Int32.toNatClampNeg 24 = 24 from (show Int32.toNatClampNeg 24 = 24 from by decide)] <;> rfl) ?_
      refine g_iconst hX (v := 0) dX5_windsWith_61 (by decide) ?_
      refine g_istore hX (lv' := [(4, .int 0), (0, .ref x), (1, .int p1), (2, .int p2), (3, .int p3)]) dX5_windsWith_62 (by decide) rfl ?_
      have e9 : K_X5_windsWith_14 (n + 1) u p1 p2 p3 j = K_X5_windsWith_64 501 (u.1, (upd (upd (upd u.2.1 29 0) 35 0) 24 p1), u.2.2.1, u.2.2.2.1, u.2.2.2.2.1, u.2.2.2.2.2.1, u.2.2.2.2.2.2) p1 p2 p3 0 := by simp only [K_X5_windsWith_14, eq_true c_18, if_true, if_false]
      rw [e9]
      refine g_lv (lv' := [(4, .int (nI 0)), (0, .ref x), (1, .int p1), (2, .int p2), (3, .int p3)]) [0, 1, 2, 3, 4] rfl ?_
      exact k_X5_windsWith_64 hX x al ke tr hi sn te 501 (u.1, (upd (upd (upd u.2.1 29 0) 35 0) 24 p1), u.2.2.1, u.2.2.2.1, u.2.2.2.2.1, u.2.2.2.2.2.1, u.2.2.2.2.2.2) p1 p2 p3 0 (by omega) (by omega) (mWF_set hw hq) hp
    · skip
      have hlt_18 : j < 12 := nlt_of c_18 (by decide) (by omega)
      refine g_aload_n hX dX5_windsWith_21 rfl 1 rfl ?_
      refine g_get hX 5 h_X5_windsWith_X5 0 rfl rfl 0 (by decide) k_X5_windsWith_0 rfl (v := .ref al) rfl dX5_windsWith_22 ?_
      refine g_iconst hX (v := 0) dX5_windsWith_25 (by decide) ?_
      refine g_iload hX dX5_windsWith_26 0 rfl ?_
      refine g_iadd hX dX5_windsWith_28 ?_
      refine g_iconst hX (v := 0) dX5_windsWith_29 (by decide) ?_
      refine g_iast hX 1 rfl (vinc 0 j 37 (by omega) (by omega)) dX5_windsWith_30 (ws' := wMo T x al ke tr hi sn te (u.1, (upd u.2.1 j 0), u.2.2.1, u.2.2.2.1, u.2.2.2.2.1, u.2.2.2.2.2.1, u.2.2.2.2.2.2)) (by rw [show Int32.toNatClampNeg (0 + (nI j)) = j from (ix0 j (by omega))] <;> rfl) ?_
      refine g_iinc hX (lv' := [(4, .int (nI (j + 1))), (0, .ref x), (1, .int p1), (2, .int p2), (3, .int p3)]) (v := (nI (j + 1))) 0 dX5_windsWith_31 rfl (nI_1 _) (by decide) rfl ?_
      refine g_goto hX 14 dX5_windsWith_34 (by decide) ?_
      have e9 : K_X5_windsWith_14 (n + 1) u p1 p2 p3 j = K_X5_windsWith_14 n (u.1, (upd u.2.1 j 0), u.2.2.1, u.2.2.2.1, u.2.2.2.2.1, u.2.2.2.2.2.1, u.2.2.2.2.2.2) p1 p2 p3 (j + 1) := by simp only [K_X5_windsWith_14, eq_false c_18, if_true, if_false]
      rw [e9]
      refine g_lv (lv' := [(4, .int (nI (j + 1))), (0, .ref x), (1, .int p1), (2, .int p2), (3, .int p3)]) [0, 1, 2, 3, 4] rfl ?_
      exact ih (u.1, (upd u.2.1 j 0), u.2.2.1, u.2.2.2.1, u.2.2.2.2.1, u.2.2.2.2.2.1, u.2.2.2.2.2.2) p1 p2 p3 (j + 1) (by omega) (by omega) (mWF_low hw (by omega) _) hq hp
set_option maxHeartbeats 4000000 in
set_option maxRecDepth 100000 in
theorem c_X5_windsWith (l : Launch) (T : TT) (b0 : Nat) (x al ke tr hi sn te : Nat) (u : MV) (p1 : Int32) (p2 : Int32) (p3 : Int32) (hw : mWF u.2.1) (hq : ∃ t : Nat, 1 ≤ t ∧ t < 12 ∧ p1 = nI t) (hp : p2.toInt ≤ 500) : ConI l T b0 yX5_windsWith wsX5_windsWith rmX5_windsWith [.ref x, .int p1, .int p2, .int p3] (wMo T x al ke tr hi sn te u) ((F_X5_windsWith u p1 p2 p3).1) (wMo T x al ke tr hi sn te ((F_X5_windsWith u p1 p2 p3).2)) := by
  refine conI_of (cc := cX5_windsWith) (maxL := 5) (ret := (some .int)) (lv0 := [(0, .ref x), (1, .int p1), (2, .int p2), (3, .int p3)]) (by decide +kernel) rfl (Nat.le_of_ble_eq_true rfl) rfl (fun X hX => ?_)
  refine g_aload_n hX dX5_windsWith_0 rfl 0 rfl ?_
  refine g_get hX 5 h_X5_windsWith_X5 0 rfl rfl 0 (by decide) k_X5_windsWith_0 rfl (v := .ref al) rfl dX5_windsWith_1 ?_
  refine g_aload_n hX dX5_windsWith_4 rfl 0 rfl ?_
  refine g_get hX 5 h_X5_windsWith_X5 0 rfl rfl 2 (by decide) k_X5_windsWith_1 rfl (v := .ref tr) rfl dX5_windsWith_5 ?_
  refine g_cS_V hX (n := 2) (As := [.ref al, .ref tr]) (wc := wAr T al 37 u.2.1 ++ wAr T tr 37 u.2.2.2.1) (w1 := wAr T al 37 u.2.1 ++ wAr T tr 37 u.2.1) (st := []) (c_X5_copy (xL X) T (xB X) al tr u.2.1 u.2.2.2.1) gX5_windsWith_X5_copy rfl rfl rfl ⟨Nat.le_of_ble_eq_true rfl, Nat.le_of_ble_eq_true rfl⟩ ⟨Nat.zero_le _, Nat.zero_le _⟩ ⟨by decide +kernel, by decide +kernel, by decide +kernel⟩ rfl [1, 3] rfl rfl (by decide) rfl (Nat.le_of_ble_eq_true rfl) dX5_windsWith_8 (ws' := wMo T x al ke tr hi sn te (u.1, u.2.1, u.2.2.1, u.2.1, u.2.2.2.2.1, u.2.2.2.2.2.1, u.2.2.2.2.2.2)) rfl ?_
  refine g_iconst hX (v := 0) dX5_windsWith_11 (by decide) ?_
  refine g_istore hX (lv' := [(4, .int 0), (0, .ref x), (1, .int p1), (2, .int p2), (3, .int p3)]) dX5_windsWith_12 (by decide) rfl ?_
  have e9 : F_X5_windsWith u p1 p2 p3 = K_X5_windsWith_14 13 (u.1, u.2.1, u.2.2.1, u.2.1, u.2.2.2.2.1, u.2.2.2.2.2.1, u.2.2.2.2.2.2) p1 p2 p3 0 := by simp only [F_X5_windsWith, if_true, if_false]
  rw [e9]
  refine g_lv (lv' := [(4, .int (nI 0)), (0, .ref x), (1, .int p1), (2, .int p2), (3, .int p3)]) [0, 1, 2, 3, 4] rfl ?_
  exact k_X5_windsWith_14 hX x al ke tr hi sn te 13 (u.1, u.2.1, u.2.2.1, u.2.1, u.2.2.2.2.1, u.2.2.2.2.2.1, u.2.2.2.2.2.2) p1 p2 p3 0 (by omega) (by omega) hw hq hp
theorem ww_113 (u : MV) (p1 p2 p3 : Int32) : (K_X5_windsWith_113 u p1 p2 p3).2 = (u.1, u.2.2.2.1, u.2.2.1, u.2.2.2.1, u.2.2.2.2.1, u.2.2.2.2.2.1, u.2.2.2.2.2.2) := by
  unfold K_X5_windsWith_113
  split
  · rfl
  · split <;> rfl
theorem ww_64 (p1 p2 p3 : Int32) : ∀ (n : Nat) (u : MV) (j : Nat), (K_X5_windsWith_64 (n + 1) u p1 p2 p3 j).2.2.1 = u.2.2.2.1 ∨ True := fun _ _ _ => Or.inr trivial
theorem ww_64a (p1 p2 p3 : Int32) : ∀ (n : Nat) (u : MV) (j : Nat), mWF u.2.2.2.1 → mWF u.2.1 → mWF (K_X5_windsWith_64 n u p1 p2 p3 j).2.2.1 := by
  intro n
  induction n with
  | zero => intro u j h1 h2; exact h2
  | succ n ih =>
    intro u j h1 h2
    unfold K_X5_windsWith_64
    split
    · rw [ww_113]
      exact h1
    · split
      · exact ih _ _ h1 (mWF_go (mWF_lay2 h2 _ _))
      · rw [ww_113]
        exact h1
theorem ww_14a (p1 p2 p3 : Int32) (hq : ∃ t : Nat, 1 ≤ t ∧ t < 12 ∧ p1 = nI t) : ∀ (n : Nat) (u : MV) (j : Nat), j + n = 13 → mWF u.2.2.2.1 → mWF u.2.1 → mWF (K_X5_windsWith_14 n u p1 p2 p3 j).2.2.1 := by
  intro n
  induction n with
  | zero => intro u j hj h1 h2; exact h2
  | succ n ih =>
    intro u j hj h1 h2
    unfold K_X5_windsWith_14
    split
    · exact ww_64a _ _ _ _ _ _ h1 (mWF_set h2 hq)
    · rename_i c
      have hlt : j < 12 := nlt_of c (by decide) (by omega)
      exact ih _ _ (by omega) h1 (mWF_low h2 (by omega) _)
theorem mWF_ww {u : MV} {p1 p2 p3 : Int32} (hw : mWF u.2.1) (hq : ∃ t : Nat, 1 ≤ t ∧ t < 12 ∧ p1 = nI t) : mWF (F_X5_windsWith u p1 p2 p3).2.2.1 := by
  unfold F_X5_windsWith
  exact ww_14a p1 p2 p3 hq 13 _ 0 (by omega) hw hw
/-! X5_ifTraverse -/
def rmX5_ifTraverse : Room := { frames := 5, cells := 0, slots := 0, locals := 114 }
theorem k_X5_ifTraverse_0 : Cond.constantLong RX5 61 (11) ∈ wsX5_ifTraverse := List.mem_of_getElem? (i := 1) rfl
theorem k_X5_ifTraverse_1 : Cond.constantLong RX5 99 (500) ∈ wsX5_ifTraverse := List.mem_of_getElem? (i := 2) rfl
theorem k_X5_ifTraverse_2 : Cond.constantLong RX5 168 (2) ∈ wsX5_ifTraverse := List.mem_of_getElem? (i := 3) rfl
def F_X5_ifTraverse (u : MV) (p1 : Int32) (p2 : Int32) (p3 : Int32) : Int32 × MV :=
  (if (F_X5_in (Int32.toInt64 p1) 1 11) = 0 then ((-2), u) else (if (F_X5_in (Int32.toInt64 p2) 1 500) = 0 then ((-2), u) else (if (F_X5_in (Int32.toInt64 p3) 0 2) = 0 then ((-2), u) else (let z_43 := F_X5_windsWith u p1 p2 p3
  (z_43.1, z_43.2)))))
set_option maxHeartbeats 4000000 in
set_option maxRecDepth 100000 in
theorem c_X5_ifTraverse (l : Launch) (T : TT) (b0 : Nat) (x al ke tr hi sn te : Nat) (u : MV) (p1 : Int32) (p2 : Int32) (p3 : Int32) (hw : mWF u.2.1) : ConI l T b0 yX5_ifTraverse wsX5_ifTraverse rmX5_ifTraverse [.ref x, .int p1, .int p2, .int p3] (wMo T x al ke tr hi sn te u) ((F_X5_ifTraverse u p1 p2 p3).1) (wMo T x al ke tr hi sn te ((F_X5_ifTraverse u p1 p2 p3).2)) := by
  refine conI_of (cc := cX5_ifTraverse) (maxL := 4) (ret := (some .int)) (lv0 := [(0, .ref x), (1, .int p1), (2, .int p2), (3, .int p3)]) (by decide +kernel) rfl (Nat.le_of_ble_eq_true rfl) rfl (fun X hX => ?_)
  refine g_iload_n hX dX5_ifTraverse_0 rfl 1 rfl ?_
  refine g_i2l hX dX5_ifTraverse_1 rfl ?_
  refine g_lconst hX (v := 1) dX5_ifTraverse_2 (by decide) ?_
  refine g_ldc2 hX (v := 11) k_X5_ifTraverse_0 dX5_ifTraverse_3 ?_
  refine g_cS_I hX (n := 3) (As := [.long (Int32.toInt64 p1), .long 1, .long 11]) (wc := []) (w1 := []) (rv := (F_X5_in (Int32.toInt64 p1) 1 11)) (st := []) (c_X5_in (xL X) T (xB X) (Int32.toInt64 p1) 1 11) gX5_ifTraverse_X5_in rfl rfl rfl ⟨Nat.le_of_ble_eq_true rfl, Nat.le_of_ble_eq_true rfl⟩ ⟨Nat.zero_le _, Nat.zero_le _⟩ ⟨by decide +kernel, by decide +kernel, by decide +kernel⟩ rfl [] rfl rfl (by decide) rfl (Nat.le_of_ble_eq_true rfl) dX5_ifTraverse_6 (ws' := wMo T x al ke tr hi sn te u) rfl ?_
  refine g_if_eq hX 36 dX5_ifTraverse_9 (by decide) (fun c_9 => ?_) (fun c_9 => ?_)
  · skip
    refine g_bipush hX (v := (-2)) dX5_ifTraverse_36 (by decide) ?_
    have e9 : F_X5_ifTraverse u p1 p2 p3 = ((-2), u) := by simp only [F_X5_ifTraverse, eq_true c_9, if_true, if_false]
    rw [e9]
    exact g_iret hX dX5_ifTraverse_38 rfl rfl
  · skip
    refine g_iload_n hX dX5_ifTraverse_12 rfl 2 rfl ?_
    refine g_i2l hX dX5_ifTraverse_13 rfl ?_
    refine g_lconst hX (v := 1) dX5_ifTraverse_14 (by decide) ?_
    refine g_ldc2 hX (v := 500) k_X5_ifTraverse_1 dX5_ifTraverse_15 ?_
    refine g_cS_I hX (n := 3) (As := [.long (Int32.toInt64 p2), .long 1, .long 500]) (wc := []) (w1 := []) (rv := (F_X5_in (Int32.toInt64 p2) 1 500)) (st := []) (c_X5_in (xL X) T (xB X) (Int32.toInt64 p2) 1 500) gX5_ifTraverse_X5_in rfl rfl rfl ⟨Nat.le_of_ble_eq_true rfl, Nat.le_of_ble_eq_true rfl⟩ ⟨Nat.zero_le _, Nat.zero_le _⟩ ⟨by decide +kernel, by decide +kernel, by decide +kernel⟩ rfl [] rfl rfl (by decide) rfl (Nat.le_of_ble_eq_true rfl) dX5_ifTraverse_18 (ws' := wMo T x al ke tr hi sn te u) rfl ?_
    refine g_if_eq hX 36 dX5_ifTraverse_21 (by decide) (fun c_21 => ?_) (fun c_21 => ?_)
    · skip
      refine g_bipush hX (v := (-2)) dX5_ifTraverse_36 (by decide) ?_
      have e9 : F_X5_ifTraverse u p1 p2 p3 = ((-2), u) := by simp only [F_X5_ifTraverse, eq_false c_9, eq_true c_21, if_true, if_false]
      rw [e9]
      exact g_iret hX dX5_ifTraverse_38 rfl rfl
    · skip
      refine g_iload_n hX dX5_ifTraverse_24 rfl 3 rfl ?_
      refine g_i2l hX dX5_ifTraverse_25 rfl ?_
      refine g_lconst hX (v := 0) dX5_ifTraverse_26 (by decide) ?_
      refine g_ldc2 hX (v := 2) k_X5_ifTraverse_2 dX5_ifTraverse_27 ?_
      refine g_cS_I hX (n := 3) (As := [.long (Int32.toInt64 p3), .long 0, .long 2]) (wc := []) (w1 := []) (rv := (F_X5_in (Int32.toInt64 p3) 0 2)) (st := []) (c_X5_in (xL X) T (xB X) (Int32.toInt64 p3) 0 2) gX5_ifTraverse_X5_in rfl rfl rfl ⟨Nat.le_of_ble_eq_true rfl, Nat.le_of_ble_eq_true rfl⟩ ⟨Nat.zero_le _, Nat.zero_le _⟩ ⟨by decide +kernel, by decide +kernel, by decide +kernel⟩ rfl [] rfl rfl (by decide) rfl (Nat.le_of_ble_eq_true rfl) dX5_ifTraverse_30 (ws' := wMo T x al ke tr hi sn te u) rfl ?_
      refine g_if_ne hX 39 dX5_ifTraverse_33 (by decide) (fun c_33 => ?_) (fun c_33 => ?_)
      · skip
        refine g_aload_n hX dX5_ifTraverse_39 rfl 0 rfl ?_
        refine g_iload_n hX dX5_ifTraverse_40 rfl 1 rfl ?_
        refine g_iload_n hX dX5_ifTraverse_41 rfl 2 rfl ?_
        refine g_iload_n hX dX5_ifTraverse_42 rfl 3 rfl ?_
        obtain ⟨z_43, hz_43⟩ : ∃ z : Int32 × MV, z = F_X5_windsWith u p1 p2 p3 := ⟨_, rfl⟩
        refine g_cV_I hX (n := 3) (As := [.int p1, .int p2, .int p3]) (wc := wMo T x al ke tr hi sn te u) (w1 := wMo T x al ke tr hi sn te z_43.2) (rv := z_43.1) (st := []) 0 rfl rfl (by rw [hz_43]; exact (c_X5_windsWith (xL X) T (xB X) x al ke tr hi sn te u p1 p2 p3 hw (in11 c_9) (in500 c_21))) gX5_ifTraverse_X5_windsWith rfl rfl rfl ⟨Nat.le_of_ble_eq_true rfl, Nat.le_of_ble_eq_true rfl⟩ ⟨Nat.zero_le _, Nat.zero_le _⟩ ⟨by decide +kernel, by decide +kernel, by decide +kernel⟩ rfl [0, 1, 2, 3, 4, 5, 6] rfl rfl (by decide) rfl (Nat.le_of_ble_eq_true rfl) dX5_ifTraverse_43 (ws' := wMo T x al ke tr hi sn te z_43.2) rfl ?_
        have e9 : F_X5_ifTraverse u p1 p2 p3 = (z_43.1, z_43.2) := by simp only [F_X5_ifTraverse, ← hz_43, eq_false c_9, eq_false c_21, eq_false c_33, if_true, if_false]
        rw [e9]
        exact g_iret hX dX5_ifTraverse_46 rfl rfl
      · skip
        refine g_bipush hX (v := (-2)) dX5_ifTraverse_36 (by decide) ?_
        have e9 : F_X5_ifTraverse u p1 p2 p3 = ((-2), u) := by simp only [F_X5_ifTraverse, eq_false c_9, eq_false c_21, eq_true c_33, if_true, if_false]
        rw [e9]
        exact g_iret hX dX5_ifTraverse_38 rfl rfl
/-! X5_bestTraverse -/
def rmX5_bestTraverse : Room := { frames := 5, cells := 0, slots := 0, locals := 114 }
theorem k_X5_bestTraverse_0 : Cond.constantLong RX5 99 (500) ∈ wsX5_bestTraverse := List.mem_of_getElem? (i := 1) rfl
def K_X5_bestTraverse_19 : Nat → MV → Int32 → Nat → Int32 → Int32 × MV
  | 0, u, p1, j, e => (0, u)
  | n + 1, u, p1, j, e => (if 12 ≤ (nI j) then (e, u) else (let z_29 := F_X5_windsWith u (nI j) p1 0
  (let z_36 := F_X5_windsWith z_29.2 e p1 0
  (if z_36.1 ≤ z_29.1 then K_X5_bestTraverse_19 n z_36.2 p1 (j + 1) e else K_X5_bestTraverse_19 n z_36.2 p1 (j + 1) (nI j)))))
def F_X5_bestTraverse (u : MV) (p1 : Int32) : Int32 × MV :=
  (if (F_X5_in (Int32.toInt64 p1) 1 500) = 0 then ((-2), u) else K_X5_bestTraverse_19 11 u p1 2 1)
set_option maxHeartbeats 4000000 in
set_option maxRecDepth 100000 in
theorem k_X5_bestTraverse_19 {T : TT} {X : CX} (hX : Fit T X (yX5_bestTraverse).cls 4 wsX5_bestTraverse cX5_bestTraverse (some .int) rmX5_bestTraverse) (x al ke tr hi sn te : Nat) : ∀ (n : Nat) (u : MV) (p1 : Int32) (j : Nat) (e : Int32) (hn : j + n = 13) (hj : 2 ≤ j ∧ j ≤ 12) (hw : mWF u.2.1) (hp : p1.toInt ≤ 500) (hb : ∃ t : Nat, 1 ≤ t ∧ t < 12 ∧ e = nI t), G T X (QI T X 0 0 ((K_X5_bestTraverse_19 n u p1 j e).1) (wMo T x al ke tr hi sn te ((K_X5_bestTraverse_19 n u p1 j e).2))) 0 0 (wMo T x al ke tr hi sn te u) [(3, .int (nI j)), (2, .int e), (0, .ref x), (1, .int p1)] 19 [] := by
  intro n
  induction n with
  | zero =>
    intro u p1 j e hn hj hw hp hb
    exact absurd hn (by omega)
  | succ n ih =>
    intro u p1 j e hn hj hw hp hb
    refine g_iload_n hX dX5_bestTraverse_19 rfl 0 rfl ?_
    refine g_bipush hX (v := 12) dX5_bestTraverse_20 (by decide) ?_
    refine g_icmp_ge hX 54 dX5_bestTraverse_22 (by decide) (fun c_22 => ?_) (fun c_22 => ?_)
    · skip
      refine g_iload_n hX dX5_bestTraverse_54 rfl 1 rfl ?_
      have e9 : K_X5_bestTraverse_19 (n + 1) u p1 j e = (e, u) := by simp only [K_X5_bestTraverse_19, eq_true c_22, if_true, if_false]
      rw [e9]
      exact g_iret hX dX5_bestTraverse_55 rfl rfl
    · skip
      have hlt_22 : j < 12 := nlt_of c_22 (by decide) (by omega)
      refine g_aload_n hX dX5_bestTraverse_25 rfl 2 rfl ?_
      refine g_iload_n hX dX5_bestTraverse_26 rfl 0 rfl ?_
      refine g_iload_n hX dX5_bestTraverse_27 rfl 3 rfl ?_
      refine g_iconst hX (v := 0) dX5_bestTraverse_28 (by decide) ?_
      obtain ⟨z_29, hz_29⟩ : ∃ z : Int32 × MV, z = F_X5_windsWith u (nI j) p1 0 := ⟨_, rfl⟩
      refine g_cV_I hX (n := 3) (As := [.int (nI j), .int p1, .int 0]) (wc := wMo T x al ke tr hi sn te u) (w1 := wMo T x al ke tr hi sn te z_29.2) (rv := z_29.1) (st := []) 0 rfl rfl (by rw [hz_29]; exact (c_X5_windsWith (xL X) T (xB X) x al ke tr hi sn te u (nI j) p1 0 hw ⟨j, by omega, by omega, rfl⟩ hp)) gX5_bestTraverse_X5_windsWith rfl rfl rfl ⟨Nat.le_of_ble_eq_true rfl, Nat.le_of_ble_eq_true rfl⟩ ⟨Nat.zero_le _, Nat.zero_le _⟩ ⟨by decide +kernel, by decide +kernel, by decide +kernel⟩ rfl [0, 1, 2, 3, 4, 5, 6] rfl rfl (by decide) rfl (Nat.le_of_ble_eq_true rfl) dX5_bestTraverse_29 (ws' := wMo T x al ke tr hi sn te z_29.2) rfl ?_
      refine g_aload_n hX dX5_bestTraverse_32 rfl 2 rfl ?_
      refine g_iload_n hX dX5_bestTraverse_33 rfl 1 rfl ?_
      refine g_iload_n hX dX5_bestTraverse_34 rfl 3 rfl ?_
      refine g_iconst hX (v := 0) dX5_bestTraverse_35 (by decide) ?_
      obtain ⟨z_36, hz_36⟩ : ∃ z : Int32 × MV, z = F_X5_windsWith z_29.2 e p1 0 := ⟨_, rfl⟩
      refine g_cV_I hX (n := 3) (As := [.int e, .int p1, .int 0]) (wc := wMo T x al ke tr hi sn te z_29.2) (w1 := wMo T x al ke tr hi sn te z_36.2) (rv := z_36.1) (st := [.int z_29.1]) 0 rfl rfl (by rw [hz_36]; exact (c_X5_windsWith (xL X) T (xB X) x al ke tr hi sn te z_29.2 e p1 0 (by rw [hz_29]; exact mWF_ww hw ⟨j, by omega, by omega, rfl⟩) hb hp)) gX5_bestTraverse_X5_windsWith rfl rfl rfl ⟨Nat.le_of_ble_eq_true rfl, Nat.le_of_ble_eq_true rfl⟩ ⟨Nat.zero_le _, Nat.zero_le _⟩ ⟨by decide +kernel, by decide +kernel, by decide +kernel⟩ rfl [0, 1, 2, 3, 4, 5, 6] rfl rfl (by decide) rfl (Nat.le_of_ble_eq_true rfl) dX5_bestTraverse_36 (ws' := wMo T x al ke tr hi sn te z_36.2) rfl ?_
      refine g_icmp_ge hX 46 dX5_bestTraverse_39 (by decide) (fun c_39 => ?_) (fun c_39 => ?_)
      · skip
        refine g_iload_n hX dX5_bestTraverse_46 rfl 1 rfl ?_
        refine g_istore_n hX (lv' := [(2, .int e), (3, .int (nI j)), (0, .ref x), (1, .int p1)]) dX5_bestTraverse_47 rfl (by decide) rfl ?_
        refine g_iinc hX (lv' := [(3, .int (nI (j + 1))), (2, .int e), (0, .ref x), (1, .int p1)]) (v := (nI (j + 1))) 1 dX5_bestTraverse_48 rfl (nI_1 _) (by decide) rfl ?_
        refine g_goto hX 19 dX5_bestTraverse_51 (by decide) ?_
        have e9 : K_X5_bestTraverse_19 (n + 1) u p1 j e = K_X5_bestTraverse_19 n z_36.2 p1 (j + 1) e := by simp only [K_X5_bestTraverse_19, ← hz_29, ← hz_36, eq_false c_22, eq_true c_39, if_true, if_false]
        rw [e9]
        refine g_lv (lv' := [(3, .int (nI (j + 1))), (2, .int e), (0, .ref x), (1, .int p1)]) [0, 1, 2, 3] rfl ?_
        exact ih z_36.2 p1 (j + 1) e (by omega) (by omega) (by rw [hz_36]; exact mWF_ww (by rw [hz_29]; exact mWF_ww hw ⟨j, by omega, by omega, rfl⟩) hb) hp (by first | exact hb | exact ⟨j, by omega, by omega, rfl⟩)
      · skip
        refine g_iload_n hX dX5_bestTraverse_42 rfl 0 rfl ?_
        refine g_goto hX 47 dX5_bestTraverse_43 (by decide) ?_
        refine g_istore_n hX (lv' := [(2, .int (nI j)), (3, .int (nI j)), (0, .ref x), (1, .int p1)]) dX5_bestTraverse_47 rfl (by decide) rfl ?_
        refine g_iinc hX (lv' := [(3, .int (nI (j + 1))), (2, .int (nI j)), (0, .ref x), (1, .int p1)]) (v := (nI (j + 1))) 1 dX5_bestTraverse_48 rfl (nI_1 _) (by decide) rfl ?_
        refine g_goto hX 19 dX5_bestTraverse_51 (by decide) ?_
        have e9 : K_X5_bestTraverse_19 (n + 1) u p1 j e = K_X5_bestTraverse_19 n z_36.2 p1 (j + 1) (nI j) := by simp only [K_X5_bestTraverse_19, ← hz_29, ← hz_36, eq_false c_22, eq_false c_39, if_true, if_false]
        rw [e9]
        refine g_lv (lv' := [(3, .int (nI (j + 1))), (2, .int (nI j)), (0, .ref x), (1, .int p1)]) [0, 1, 2, 3] rfl ?_
        exact ih z_36.2 p1 (j + 1) (nI j) (by omega) (by omega) (by rw [hz_36]; exact mWF_ww (by rw [hz_29]; exact mWF_ww hw ⟨j, by omega, by omega, rfl⟩) hb) hp (by first | exact hb | exact ⟨j, by omega, by omega, rfl⟩)
set_option maxHeartbeats 4000000 in
set_option maxRecDepth 100000 in
theorem c_X5_bestTraverse (l : Launch) (T : TT) (b0 : Nat) (x al ke tr hi sn te : Nat) (u : MV) (p1 : Int32) (hw : mWF u.2.1) : ConI l T b0 yX5_bestTraverse wsX5_bestTraverse rmX5_bestTraverse [.ref x, .int p1] (wMo T x al ke tr hi sn te u) ((F_X5_bestTraverse u p1).1) (wMo T x al ke tr hi sn te ((F_X5_bestTraverse u p1).2)) := by
  refine conI_of (cc := cX5_bestTraverse) (maxL := 4) (ret := (some .int)) (lv0 := [(0, .ref x), (1, .int p1)]) (by decide +kernel) rfl (Nat.le_of_ble_eq_true rfl) rfl (fun X hX => ?_)
  refine g_iload_n hX dX5_bestTraverse_0 rfl 1 rfl ?_
  refine g_i2l hX dX5_bestTraverse_1 rfl ?_
  refine g_lconst hX (v := 1) dX5_bestTraverse_2 (by decide) ?_
  refine g_ldc2 hX (v := 500) k_X5_bestTraverse_0 dX5_bestTraverse_3 ?_
  refine g_cS_I hX (n := 3) (As := [.long (Int32.toInt64 p1), .long 1, .long 500]) (wc := []) (w1 := []) (rv := (F_X5_in (Int32.toInt64 p1) 1 500)) (st := []) (c_X5_in (xL X) T (xB X) (Int32.toInt64 p1) 1 500) gX5_bestTraverse_X5_in rfl rfl rfl ⟨Nat.le_of_ble_eq_true rfl, Nat.le_of_ble_eq_true rfl⟩ ⟨Nat.zero_le _, Nat.zero_le _⟩ ⟨by decide +kernel, by decide +kernel, by decide +kernel⟩ rfl [] rfl rfl (by decide) rfl (Nat.le_of_ble_eq_true rfl) dX5_bestTraverse_6 (ws' := wMo T x al ke tr hi sn te u) rfl ?_
  refine g_if_ne hX 15 dX5_bestTraverse_9 (by decide) (fun c_9 => ?_) (fun c_9 => ?_)
  · skip
    refine g_iconst hX (v := 1) dX5_bestTraverse_15 (by decide) ?_
    refine g_istore_n hX (lv' := [(2, .int 1), (0, .ref x), (1, .int p1)]) dX5_bestTraverse_16 rfl (by decide) rfl ?_
    refine g_iconst hX (v := 2) dX5_bestTraverse_17 (by decide) ?_
    refine g_istore_n hX (lv' := [(3, .int 2), (2, .int 1), (0, .ref x), (1, .int p1)]) dX5_bestTraverse_18 rfl (by decide) rfl ?_
    have e9 : F_X5_bestTraverse u p1 = K_X5_bestTraverse_19 11 u p1 2 1 := by simp only [F_X5_bestTraverse, eq_false c_9, if_true, if_false]
    rw [e9]
    refine g_lv (lv' := [(3, .int (nI 2)), (2, .int 1), (0, .ref x), (1, .int p1)]) [0, 1, 2, 3] rfl ?_
    exact k_X5_bestTraverse_19 hX x al ke tr hi sn te 11 u p1 2 1 (by omega) (by omega) hw (in500 c_9) ⟨1, by omega, by omega, rfl⟩
  · skip
    refine g_bipush hX (v := (-2)) dX5_bestTraverse_12 (by decide) ?_
    have e9 : F_X5_bestTraverse u p1 = ((-2), u) := by simp only [F_X5_bestTraverse, eq_true c_9, if_true, if_false]
    rw [e9]
    exact g_iret hX dX5_bestTraverse_14 rfl rfl
theorem per_lt {p1 : Int32} {j : Nat} (hq : ∃ t : Nat, 1 ≤ t ∧ t < 12 ∧ p1 = nI t) (hj : j ≤ 22) (h : ¬ (nI j * p1 - nI j * p1 / 22 * 22) = 0) : j < 22 := by
  obtain ⟨t, h1, h2, e⟩ := hq
  rcases Nat.lt_or_ge j 22 with q | q
  · exact q
  · have hj2 : j = 22 := by omega
    subst hj2
    rw [e] at h
    have : ∀ t : Fin 12, (nI 22 * nI t.val - nI 22 * nI t.val / 22 * 22) = 0 := by decide +kernel
    exact absurd (this ⟨t, h2⟩) h
/-! X5_period -/
def rmX5_period : Room := { frames := 1, cells := 0, slots := 0, locals := 25 }
theorem k_X5_period_0 : Cond.constantLong RX5 61 (11) ∈ wsX5_period := List.mem_of_getElem? (i := 1) rfl
def K_X5_period_17 : Nat → MV → Int32 → Nat → Int32
  | 0, u, p1, j => 0
  | n + 1, u, p1, j => (if (((nI j) * p1) - ((nI j) * p1) / 22 * 22) = 0 then (nI j) else K_X5_period_17 n u p1 (j + 1))
def F_X5_period (u : MV) (p1 : Int32) : Int32 :=
  (if (F_X5_in (Int32.toInt64 p1) 1 11) = 0 then (-2) else K_X5_period_17 22 u p1 1)
set_option maxHeartbeats 4000000 in
set_option maxRecDepth 100000 in
theorem k_X5_period_17 {T : TT} {X : CX} (hX : Fit T X (yX5_period).cls 3 wsX5_period cX5_period (some .int) rmX5_period) (x al ke tr hi sn te : Nat) : ∀ (n : Nat) (u : MV) (p1 : Int32) (j : Nat) (hn : j + n = 23) (hj : j ≤ 22) (hq : ∃ t : Nat, 1 ≤ t ∧ t < 12 ∧ p1 = nI t), G T X (QI T X 0 0 (K_X5_period_17 n u p1 j) (wMo T x al ke tr hi sn te u)) 0 0 (wMo T x al ke tr hi sn te u) [(2, .int (nI j)), (0, .ref x), (1, .int p1)] 17 [] := by
  intro n
  induction n with
  | zero =>
    intro u p1 j hn hj hq
    exact absurd hn (by omega)
  | succ n ih =>
    intro u p1 j hn hj hq
    refine g_iload_n hX dX5_period_17 rfl 0 rfl ?_
    refine g_iload_n hX dX5_period_18 rfl 2 rfl ?_
    refine g_imul hX dX5_period_19 ?_
    refine g_bipush hX (v := 22) dX5_period_20 (by decide) ?_
    refine g_irem hX dX5_period_22 (by decide) ?_
    refine g_if_eq hX 32 dX5_period_23 (by decide) (fun c_23 => ?_) (fun c_23 => ?_)
    · skip
      refine g_iload_n hX dX5_period_32 rfl 0 rfl ?_
      have e9 : K_X5_period_17 (n + 1) u p1 j = (nI j) := by simp only [K_X5_period_17, eq_true c_23, if_true, if_false]
      rw [e9]
      exact g_iret hX dX5_period_33 rfl rfl
    · skip
      have hlt : j < 22 := per_lt hq hj c_23
      refine g_iinc hX (lv' := [(2, .int (nI (j + 1))), (0, .ref x), (1, .int p1)]) (v := (nI (j + 1))) 0 dX5_period_26 rfl (nI_1 _) (by decide) rfl ?_
      refine g_goto hX 17 dX5_period_29 (by decide) ?_
      have e9 : K_X5_period_17 (n + 1) u p1 j = K_X5_period_17 n u p1 (j + 1) := by simp only [K_X5_period_17, eq_false c_23, if_true, if_false]
      rw [e9]
      refine g_lv (lv' := [(2, .int (nI (j + 1))), (0, .ref x), (1, .int p1)]) [0, 1, 2] rfl ?_
      exact ih u p1 (j + 1) (by omega) (by omega) hq
set_option maxHeartbeats 4000000 in
set_option maxRecDepth 100000 in
theorem c_X5_period (l : Launch) (T : TT) (b0 : Nat) (x al ke tr hi sn te : Nat) (u : MV) (p1 : Int32)  : ConI l T b0 yX5_period wsX5_period rmX5_period [.ref x, .int p1] (wMo T x al ke tr hi sn te u) (F_X5_period u p1) (wMo T x al ke tr hi sn te u) := by
  refine conI_of (cc := cX5_period) (maxL := 3) (ret := (some .int)) (lv0 := [(0, .ref x), (1, .int p1)]) (by decide +kernel) rfl (Nat.le_of_ble_eq_true rfl) rfl (fun X hX => ?_)
  refine g_iload_n hX dX5_period_0 rfl 1 rfl ?_
  refine g_i2l hX dX5_period_1 rfl ?_
  refine g_lconst hX (v := 1) dX5_period_2 (by decide) ?_
  refine g_ldc2 hX (v := 11) k_X5_period_0 dX5_period_3 ?_
  refine g_cS_I hX (n := 3) (As := [.long (Int32.toInt64 p1), .long 1, .long 11]) (wc := []) (w1 := []) (rv := (F_X5_in (Int32.toInt64 p1) 1 11)) (st := []) (c_X5_in (xL X) T (xB X) (Int32.toInt64 p1) 1 11) gX5_period_X5_in rfl rfl rfl ⟨Nat.le_of_ble_eq_true rfl, Nat.le_of_ble_eq_true rfl⟩ ⟨Nat.zero_le _, Nat.zero_le _⟩ ⟨by decide +kernel, by decide +kernel, by decide +kernel⟩ rfl [] rfl rfl (by decide) rfl (Nat.le_of_ble_eq_true rfl) dX5_period_6 (ws' := wMo T x al ke tr hi sn te u) rfl ?_
  refine g_if_ne hX 15 dX5_period_9 (by decide) (fun c_9 => ?_) (fun c_9 => ?_)
  · skip
    refine g_iconst hX (v := 1) dX5_period_15 (by decide) ?_
    refine g_istore_n hX (lv' := [(2, .int 1), (0, .ref x), (1, .int p1)]) dX5_period_16 rfl (by decide) rfl ?_
    have e9 : F_X5_period u p1 = K_X5_period_17 22 u p1 1 := by simp only [F_X5_period, eq_false c_9, if_true, if_false]
    rw [e9]
    refine g_lv (lv' := [(2, .int (nI 1)), (0, .ref x), (1, .int p1)]) [0, 1, 2] rfl ?_
    exact k_X5_period_17 hX x al ke tr hi sn te 22 u p1 1 (by omega) (by omega) (in11 c_9)
  · skip
    refine g_bipush hX (v := (-2)) dX5_period_12 (by decide) ?_
    have e9 : F_X5_period u p1 = (-2) := by simp only [F_X5_period, eq_true c_9, if_true, if_false]
    rw [e9]
    exact g_iret hX dX5_period_14 rfl rfl
