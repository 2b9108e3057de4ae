/-- how many commands the text's reading holds -/
def cB (t : TV) : Prop := ∃ m : Nat, m ≤ 60 ∧ t.1 1 = nI m
theorem cB_congr {t s : TV} (h : cB t) (e : s.1 1 = t.1 1) : cB s := by
  obtain ⟨m, hm, h1⟩ := h
  exact ⟨m, hm, e.trans h1⟩
theorem cB_add {t : TV} (h : cB t) : cB (F_X0_addCommand t) := by
  unfold F_X0_addCommand
  split
  · exact cB_congr h rfl
  · split
    · exact cB_congr h rfl
    · rename_i c1 c2
      obtain ⟨m, hm, e⟩ := h
      rw [e] at c2
      have : m < 60 := nlt_of c2 (by decide) (by omega)
      exact ⟨m + 1, by omega, by show t.1 1 + 1 = _; rw [e, nI_1]⟩
theorem cB_digit {t : TV} {p : Int32} (h : cB t) : cB (F_X0_takesDigit t p).2 := by
  unfold F_X0_takesDigit
  repeat' split
  all_goals exact cB_congr h rfl
theorem cB_takes {t : TV} {p : Int32} (h : cB t) : cB (F_X0_takes t p).2 := by
  unfold F_X0_takes
  dsimp only
  repeat' split
  all_goals first
    | exact cB_congr h rfl
    | exact cB_digit h
    | exact cB_add h
theorem cB_readK : ∀ (n : Nat) (t : TV) (j : Nat), cB t → cB (K_X0_read_17 n t j).2 := by
  intro n
  induction n with
  | zero => intro t j h; exact h
  | succ n ih =>
    intro t j h
    unfold K_X0_read_17
    dsimp only
    repeat' split
    all_goals first
      | exact h
      | exact cB_add h
      | exact cB_takes h
      | exact ih _ _ (cB_takes h)
theorem cB_read (t : TV) : cB (F_X0_read t).2 := by
  unfold F_X0_read
  exact cB_readK _ _ _ ⟨0, by omega, rfl⟩
theorem cB_lt {t : TV} {j : Nat} (h : cB t) (h1 : ¬ t.1 1 ≤ nI j) (hj : j ≤ 60) : j < 60 := by
  obtain ⟨m, hm, e⟩ := h
  rw [e] at h1
  have : j < m := Nat.lt_of_not_le (fun z => h1 (nI_le z (by omega)))
  omega
/-! X4_perform -/
def rmX4_perform : Room := { frames := 5, cells := 0, slots := 0, locals := 125 }
theorem k_X4_perform_0 : Cond.fieldLink RX4 39 RX4 (TX4 5).2.1 (TX4 5).2.2.1 ∈ wsX4_perform := List.mem_of_getElem? (i := 1) rfl
theorem h_X4_perform_X4 : ∀ w ∈ u_ws RX4 TX4 8, w ∈ wsX4_perform := fun w h => List.mem_cons_of_mem _ (List.mem_append_left _ (List.mem_append_left _ (List.mem_append_left _ (List.mem_append_left _ (List.mem_append_right _ h)))))
theorem k_X4_perform_5 : Cond.initialized RX0 ∈ wsX4_perform := List.mem_of_getElem? (i := 6) rfl
theorem k_X4_perform_4 : Cond.instanceMethod yX0_read ∈ wsX4_perform := List.mem_of_getElem? (i := 5) rfl
theorem k_X4_perform_6 : Cond.selects RX0 yX0_read yX0_read ∈ wsX4_perform := List.mem_of_getElem? (i := 7) rfl
theorem k_X4_perform_1 : Cond.fieldLink RX4 16 RX4 (TX4 1).2.1 (TX4 1).2.2.1 ∈ wsX4_perform := List.mem_of_getElem? (i := 2) rfl
theorem k_X4_perform_2 : Cond.fieldLink RX4 12 RX4 (TX4 0).2.1 (TX4 0).2.2.1 ∈ wsX4_perform := List.mem_of_getElem? (i := 3) rfl
theorem k_X4_perform_42 : Cond.initialized RX2 ∈ wsX4_perform := List.mem_of_getElem? (i := 43) rfl
theorem k_X4_perform_41 : Cond.instanceMethod yX2_copyFrom ∈ wsX4_perform := List.mem_of_getElem? (i := 42) rfl
theorem k_X4_perform_43 : Cond.selects RX2 yX2_copyFrom yX2_copyFrom ∈ wsX4_perform := List.mem_of_getElem? (i := 44) rfl
theorem h_X4_perform_X0 : ∀ w ∈ u_ws RX0 TX0 7, w ∈ wsX4_perform := fun w h => List.mem_cons_of_mem _ (List.mem_append_left _ (List.mem_append_left _ (List.mem_append_left _ (List.mem_append_right _ h))))
theorem k_X4_perform_69 : Cond.instanceMethod yX0_commandAt ∈ wsX4_perform := List.mem_of_getElem? (i := 70) rfl
theorem k_X4_perform_70 : Cond.selects RX0 yX0_commandAt yX0_commandAt ∈ wsX4_perform := List.mem_of_getElem? (i := 71) rfl
theorem k_X4_perform_72 : Cond.instanceMethod yX0_valueAt ∈ wsX4_perform := List.mem_of_getElem? (i := 73) rfl
theorem k_X4_perform_73 : Cond.selects RX0 yX0_valueAt yX0_valueAt ∈ wsX4_perform := List.mem_of_getElem? (i := 74) rfl
theorem k_X4_perform_75 : Cond.instanceMethod yX2_obey ∈ wsX4_perform := List.mem_of_getElem? (i := 76) rfl
theorem k_X4_perform_76 : Cond.selects RX2 yX2_obey yX2_obey ∈ wsX4_perform := List.mem_of_getElem? (i := 77) rfl
theorem k_X4_perform_3 : Cond.fieldLink RX4 47 RX4 (TX4 7).2.1 (TX4 7).2.2.1 ∈ wsX4_perform := List.mem_of_getElem? (i := 4) rfl
def K_X4_perform_31 : Nat → XV → Nat → Int32 × XV
  | 0, xv, j => (0, xv)
  | n + 1, xv, j => (if (xv.2.2.2.2.2.2.1 1) ≤ (nI j) then (let z_98 := F_X4_finishAct xv (xv.2.2.2.2.2.2.1 1)
  (z_98.1, z_98.2)) else (let z_62 := F_X2_obey xv.2.2.1 (F_X0_commandAt xv.2.2.2.2.2.2 (nI j)) (F_X0_valueAt xv.2.2.2.2.2.2 (nI j))
  (if 0 ≤ z_62.1 then K_X4_perform_31 n (xv.1, xv.2.1, z_62.2, xv.2.2.2.1, xv.2.2.2.2.1, xv.2.2.2.2.2.1, xv.2.2.2.2.2.2) (j + 1) else (if z_62.1 = (-5) then K_X4_perform_31 n (xv.1, xv.2.1, z_62.2, xv.2.2.2.1, xv.2.2.2.2.1, xv.2.2.2.2.2.1, xv.2.2.2.2.2.2) (j + 1) else ((-4), (upd xv.1 1 (nI j), xv.2.1, z_62.2, xv.2.2.2.1, xv.2.2.2.2.1, xv.2.2.2.2.2.1, xv.2.2.2.2.2.2))))))
def F_X4_perform (xv : XV) : Int32 × XV :=
  (let z_4 := F_X0_read xv.2.2.2.2.2.2
  (if z_4.1 = (-1) then K_X4_perform_31 61 (xv.1, xv.2.1, xv.2.1, xv.2.2.2.1, xv.2.2.2.2.1, xv.2.2.2.2.2.1, z_4.2) 0 else (((-100) - z_4.1), (xv.1, xv.2.1, xv.2.2.1, xv.2.2.2.1, xv.2.2.2.2.1, xv.2.2.2.2.2.1, z_4.2))))
set_option maxHeartbeats 4000000 in
set_option maxRecDepth 100000 in
theorem k_X4_perform_31 {T : TT} {X : CX} (hX : Fit T X (yX4_perform).cls 4 wsX4_perform cX4_perform (some .int) rmX4_perform) (ad : Nat → Nat) : ∀ (n : Nat) (xv : XV) (j : Nat) (hn : j + n = 61) (hj : j ≤ 60) (hx : xWF xv) (hc : cB xv.2.2.2.2.2.2), G T X (QI T X 0 0 ((K_X4_perform_31 n xv j).1) (wXX T ad ((K_X4_perform_31 n xv j).2))) 0 0 (wXX T ad xv) [(2, .int (nI j)), (0, .ref (ad 0))] 31 [] := by
  intro n
  induction n with
  | zero =>
    intro xv j hn hj hx hc
    exact absurd hn (by omega)
  | succ n ih =>
    intro xv j hn hj hx hc
    refine g_iload_n hX dX4_perform_31 rfl 0 rfl ?_
    refine g_aload_n hX dX4_perform_32 rfl 1 rfl ?_
    refine g_get hX 4 h_X4_perform_X4 0 rfl rfl 5 (by decide) k_X4_perform_0 rfl (v := .ref (ad 40)) rfl dX4_perform_33 ?_
    refine g_getN hX 0 h_X4_perform_X0 40 rfl rfl 4 (by decide) 13 rfl rfl (v := .int (xv.2.2.2.2.2.2.1 1)) rfl dX4_perform_36 ?_
    refine g_icmp_ge hX 90 dX4_perform_39 (by decide) (fun c_39 => ?_) (fun c_39 => ?_)
    · skip
      refine g_aload_n hX dX4_perform_90 rfl 1 rfl ?_
      refine g_aload_n hX dX4_perform_91 rfl 1 rfl ?_
      refine g_get hX 4 h_X4_perform_X4 0 rfl rfl 5 (by decide) k_X4_perform_0 rfl (v := .ref (ad 40)) rfl dX4_perform_92 ?_
      refine g_getN hX 0 h_X4_perform_X0 40 rfl rfl 4 (by decide) 13 rfl rfl (v := .int (xv.2.2.2.2.2.2.1 1)) rfl dX4_perform_95 ?_
      obtain ⟨z_98, hz_98⟩ : ∃ z : Int32 × XV, z = F_X4_finishAct xv (xv.2.2.2.2.2.2.1 1) := ⟨_, rfl⟩
      refine g_pV_I hX (rest := []) (n := 1) (As := [.int (xv.2.2.2.2.2.2.1 1)]) (wc := wXX T ad xv) (w1 := wXX T ad z_98.2) (rv := z_98.1) (st := []) 0 rfl rfl (by rw [hz_98]; exact (c_X4_finishAct (xL X) T (xB X) ad xv (xv.2.2.2.2.2.2.1 1) hx)) gX4_perform_X4_finishAct rfl rfl rfl ⟨Nat.le_of_ble_eq_true rfl, Nat.le_of_ble_eq_true rfl⟩ ⟨Nat.zero_le _, Nat.zero_le _⟩ ⟨by decide +kernel, by decide +kernel, by decide +kernel⟩ rfl (List.append_nil _).symm rfl rfl (Nat.le_of_ble_eq_true rfl) dX4_perform_98 (List.append_nil _) ?_
      have e9 : K_X4_perform_31 (n + 1) xv j = (z_98.1, z_98.2) := by simp only [K_X4_perform_31, ← hz_98, eq_true c_39, if_true, if_false]
      rw [e9]
      exact g_iret hX dX4_perform_101 rfl rfl
    · skip
      have hlt : j < 60 := cB_lt hc c_39 hj
      refine g_aload_n hX dX4_perform_42 rfl 1 rfl ?_
      refine g_get hX 4 h_X4_perform_X4 0 rfl rfl 1 (by decide) k_X4_perform_1 rfl (v := .ref (ad 6)) rfl dX4_perform_43 ?_
      refine g_aload_n hX dX4_perform_46 rfl 1 rfl ?_
      refine g_get hX 4 h_X4_perform_X4 0 rfl rfl 5 (by decide) k_X4_perform_0 rfl (v := .ref (ad 40)) rfl dX4_perform_47 ?_
      refine g_iload_n hX dX4_perform_50 rfl 0 rfl ?_
      refine g_perm (pm_6 _ _ _ _ _ _ _) ?_
      refine g_pVN_I hX (n := 1) (As := [.int (nI j)]) (wc := wTx T (ad 40) (ad 41) (ad 42) (ad 43) xv.2.2.2.2.2.2) (w1 := wTx T (ad 40) (ad 41) (ad 42) (ad 43) xv.2.2.2.2.2.2) (rv := (F_X0_commandAt xv.2.2.2.2.2.2 (nI j))) (st := [.ref (ad 6)]) 0 rfl rfl (c_X0_commandAt (xL X) T (xB X) (ad 40) (ad 41) (ad 42) (ad 43) xv.2.2.2.2.2.2 (nI j)) ggX4_perform_X0_commandAt 42 rfl k_X4_perform_5 k_X4_perform_69 k_X4_perform_70 rfl rfl rfl ⟨Nat.le_of_ble_eq_true rfl, Nat.le_of_ble_eq_true rfl⟩ ⟨Nat.zero_le _, Nat.zero_le _⟩ ⟨by decide +kernel, by decide +kernel, by decide +kernel⟩ rfl rfl rfl rfl (Nat.le_of_ble_eq_true rfl) dX4_perform_51 rfl ?_
      refine g_perm (pm_6 _ _ _ _ _ _ _).symm ?_
      refine g_cast (ws' := wXX T ad xv) rfl ?_
      refine g_aload_n hX dX4_perform_54 rfl 1 rfl ?_
      refine g_get hX 4 h_X4_perform_X4 0 rfl rfl 5 (by decide) k_X4_perform_0 rfl (v := .ref (ad 40)) rfl dX4_perform_55 ?_
      refine g_iload_n hX dX4_perform_58 rfl 0 rfl ?_
      refine g_perm (pm_6 _ _ _ _ _ _ _) ?_
      refine g_pVN_I hX (n := 1) (As := [.int (nI j)]) (wc := wTx T (ad 40) (ad 41) (ad 42) (ad 43) xv.2.2.2.2.2.2) (w1 := wTx T (ad 40) (ad 41) (ad 42) (ad 43) xv.2.2.2.2.2.2) (rv := (F_X0_valueAt xv.2.2.2.2.2.2 (nI j))) (st := [.int (F_X0_commandAt xv.2.2.2.2.2.2 (nI j)), .ref (ad 6)]) 0 rfl rfl (c_X0_valueAt (xL X) T (xB X) (ad 40) (ad 41) (ad 42) (ad 43) xv.2.2.2.2.2.2 (nI j)) ggX4_perform_X0_valueAt 43 rfl k_X4_perform_5 k_X4_perform_72 k_X4_perform_73 rfl rfl rfl ⟨Nat.le_of_ble_eq_true rfl, Nat.le_of_ble_eq_true rfl⟩ ⟨Nat.zero_le _, Nat.zero_le _⟩ ⟨by decide +kernel, by decide +kernel, by decide +kernel⟩ rfl rfl rfl rfl (Nat.le_of_ble_eq_true rfl) dX4_perform_59 rfl ?_
      refine g_perm (pm_6 _ _ _ _ _ _ _).symm ?_
      refine g_cast (ws' := wXX T ad xv) rfl ?_
      obtain ⟨z_62, hz_62⟩ : ∃ z : Int32 × SV, z = F_X2_obey xv.2.2.1 (F_X0_commandAt xv.2.2.2.2.2.2 (nI j)) (F_X0_valueAt xv.2.2.2.2.2.2 (nI j)) := ⟨_, rfl⟩
      refine g_perm (pm_2 _ _ _ _ _ _ _) ?_
      refine g_pVN_I hX (n := 2) (As := [.int (F_X0_commandAt xv.2.2.2.2.2.2 (nI j)), .int (F_X0_valueAt xv.2.2.2.2.2.2 (nI j))]) (wc := wSt T (ad 6) (ad 7) (ad 8) (ad 9) (ad 10) xv.2.2.1) (w1 := wSt T (ad 6) (ad 7) (ad 8) (ad 9) (ad 10) z_62.2) (rv := z_62.1) (st := []) 0 rfl rfl (by rw [hz_62]; exact (c_X2_obey (xL X) T (xB X) (ad 6) (ad 7) (ad 8) (ad 9) (ad 10) xv.2.2.1 (F_X0_commandAt xv.2.2.2.2.2.2 (nI j)) (F_X0_valueAt xv.2.2.2.2.2.2 (nI j)))) ggX4_perform_X2_obey 44 rfl k_X4_perform_42 k_X4_perform_75 k_X4_perform_76 rfl rfl rfl ⟨Nat.le_of_ble_eq_true rfl, Nat.le_of_ble_eq_true rfl⟩ ⟨Nat.zero_le _, Nat.zero_le _⟩ ⟨by decide +kernel, by decide +kernel, by decide +kernel⟩ rfl rfl rfl rfl (Nat.le_of_ble_eq_true rfl) dX4_perform_62 rfl ?_
      refine g_perm (pm_2 _ _ _ _ _ _ _).symm ?_
      refine g_cast (ws' := wXX T ad (xv.1, xv.2.1, z_62.2, xv.2.2.2.1, xv.2.2.2.2.1, xv.2.2.2.2.2.1, xv.2.2.2.2.2.2)) rfl ?_
      refine g_istore_n hX (lv' := [(3, .int z_62.1), (2, .int (nI j)), (0, .ref (ad 0))]) dX4_perform_65 rfl (by decide) rfl ?_
      refine g_iload_n hX dX4_perform_66 rfl 0 rfl ?_
      refine g_if_ge hX 84 dX4_perform_67 (by decide) (fun c_67 => ?_) (fun c_67 => ?_)
      · skip
        refine g_iinc hX (lv' := [(2, .int (nI (j + 1))), (3, .int z_62.1), (0, .ref (ad 0))]) (v := (nI (j + 1))) 1 dX4_perform_84 rfl (nI_1 _) (by decide) rfl ?_
        refine g_goto hX 31 dX4_perform_87 (by decide) ?_
        have e9 : K_X4_perform_31 (n + 1) xv j = K_X4_perform_31 n (xv.1, xv.2.1, z_62.2, xv.2.2.2.1, xv.2.2.2.2.1, xv.2.2.2.2.2.1, xv.2.2.2.2.2.2) (j + 1) := by simp only [K_X4_perform_31, ← hz_62, eq_false c_39, eq_true c_67, if_true, if_false]
        rw [e9]
        refine g_lv (lv' := [(2, .int (nI (j + 1))), (0, .ref (ad 0))]) [0, 2] rfl ?_
        exact ih (xv.1, xv.2.1, z_62.2, xv.2.2.2.1, xv.2.2.2.2.1, xv.2.2.2.2.2.1, xv.2.2.2.2.2.2) (j + 1) (by omega) (by omega) (xWF_tr hx (by rw [hz_62]; exact sB_obey hx.2.1)) hc
      · skip
        refine g_iload_n hX dX4_perform_70 rfl 0 rfl ?_
        refine g_bipush hX (v := (-5)) dX4_perform_71 (by decide) ?_
        refine g_icmp_eq hX 84 dX4_perform_73 (by decide) (fun c_73 => ?_) (fun c_73 => ?_)
        · skip
          refine g_iinc hX (lv' := [(2, .int (nI (j + 1))), (3, .int z_62.1), (0, .ref (ad 0))]) (v := (nI (j + 1))) 1 dX4_perform_84 rfl (nI_1 _) (by decide) rfl ?_
          refine g_goto hX 31 dX4_perform_87 (by decide) ?_
          have e9 : K_X4_perform_31 (n + 1) xv j = K_X4_perform_31 n (xv.1, xv.2.1, z_62.2, xv.2.2.2.1, xv.2.2.2.2.1, xv.2.2.2.2.2.1, xv.2.2.2.2.2.2) (j + 1) := by simp only [K_X4_perform_31, ← hz_62, eq_false c_39, eq_false c_67, eq_true c_73, if_true, if_false]
          rw [e9]
          refine g_lv (lv' := [(2, .int (nI (j + 1))), (0, .ref (ad 0))]) [0, 2] rfl ?_
          exact ih (xv.1, xv.2.1, z_62.2, xv.2.2.2.1, xv.2.2.2.2.1, xv.2.2.2.2.2.1, xv.2.2.2.2.2.2) (j + 1) (by omega) (by omega) (xWF_tr hx (by rw [hz_62]; exact sB_obey hx.2.1)) hc
        · skip
          refine g_aload_n hX dX4_perform_76 rfl 2 rfl ?_
          refine g_iload_n hX dX4_perform_77 rfl 1 rfl ?_
          refine g_put hX 4 h_X4_perform_X4 0 rfl rfl 7 (by decide) tyX4 tyX4_ok nmX4 k_X4_perform_3 rfl rfl rfl rfl rfl (Nat.le_of_ble_eq_true rfl) dX4_perform_78 (ws' := wXX T ad (upd xv.1 1 (nI j), xv.2.1, z_62.2, xv.2.2.2.1, xv.2.2.2.2.1, xv.2.2.2.2.2.1, xv.2.2.2.2.2.2)) rfl ?_
          refine g_bipush hX (v := (-4)) dX4_perform_81 (by decide) ?_
          have e9 : K_X4_perform_31 (n + 1) xv j = ((-4), (upd xv.1 1 (nI j), xv.2.1, z_62.2, xv.2.2.2.1, xv.2.2.2.2.1, xv.2.2.2.2.2.1, xv.2.2.2.2.2.2)) := by simp only [K_X4_perform_31, ← hz_62, eq_false c_39, eq_false c_67, eq_false c_73, if_true, if_false]
          rw [e9]
          exact g_iret hX dX4_perform_83 rfl rfl
set_option maxHeartbeats 4000000 in
set_option maxRecDepth 100000 in
theorem c_X4_perform (l : Launch) (T : TT) (b0 : Nat) (ad : Nat → Nat) (xv : XV) (hx : xWF xv) : ConI l T b0 yX4_perform wsX4_perform rmX4_perform [.ref (ad 0)] (wXX T ad xv) ((F_X4_perform xv).1) (wXX T ad ((F_X4_perform xv).2)) := by
  refine conI_of (cc := cX4_perform) (maxL := 4) (ret := (some .int)) (lv0 := [(0, .ref (ad 0))]) (by decide +kernel) rfl (Nat.le_of_ble_eq_true rfl) rfl (fun X hX => ?_)
  refine g_aload_n hX dX4_perform_0 rfl 0 rfl ?_
  refine g_get hX 4 h_X4_perform_X4 0 rfl rfl 5 (by decide) k_X4_perform_0 rfl (v := .ref (ad 40)) rfl dX4_perform_1 ?_
  obtain ⟨z_4, hz_4⟩ : ∃ z : Int32 × TV, z = F_X0_read xv.2.2.2.2.2.2 := ⟨_, rfl⟩
  refine g_perm (pm_6 _ _ _ _ _ _ _) ?_
  refine g_pVN_I hX (n := 0) (As := []) (wc := wTx T (ad 40) (ad 41) (ad 42) (ad 43) xv.2.2.2.2.2.2) (w1 := wTx T (ad 40) (ad 41) (ad 42) (ad 43) z_4.2) (rv := z_4.1) (st := []) 0 rfl rfl (by rw [hz_4]; exact (c_X0_read (xL X) T (xB X) (ad 40) (ad 41) (ad 42) (ad 43) xv.2.2.2.2.2.2)) ggX4_perform_X0_read 39 rfl k_X4_perform_5 k_X4_perform_4 k_X4_perform_6 rfl rfl rfl ⟨Nat.le_of_ble_eq_true rfl, Nat.le_of_ble_eq_true rfl⟩ ⟨Nat.zero_le _, Nat.zero_le _⟩ ⟨by decide +kernel, by decide +kernel, by decide +kernel⟩ rfl rfl rfl rfl (Nat.le_of_ble_eq_true rfl) dX4_perform_4 rfl ?_
  refine g_perm (pm_6 _ _ _ _ _ _ _).symm ?_
  refine g_cast (ws' := wXX T ad (xv.1, xv.2.1, xv.2.2.1, xv.2.2.2.1, xv.2.2.2.2.1, xv.2.2.2.2.2.1, z_4.2)) rfl ?_
  refine g_istore_n hX (lv' := [(1, .int z_4.1), (0, .ref (ad 0))]) dX4_perform_7 rfl (by decide) rfl ?_
  refine g_iload_n hX dX4_perform_8 rfl 0 rfl ?_
  refine g_iconst hX (v := (-1)) dX4_perform_9 (by decide) ?_
  refine g_icmp_eq hX 18 dX4_perform_10 (by decide) (fun c_10 => ?_) (fun c_10 => ?_)
  · skip
    refine g_aload_n hX dX4_perform_18 rfl 1 rfl ?_
    refine g_get hX 4 h_X4_perform_X4 0 rfl rfl 1 (by decide) k_X4_perform_1 rfl (v := .ref (ad 6)) rfl dX4_perform_19 ?_
    refine g_aload_n hX dX4_perform_22 rfl 1 rfl ?_
    refine g_get hX 4 h_X4_perform_X4 0 rfl rfl 0 (by decide) k_X4_perform_2 rfl (v := .ref (ad 1)) rfl dX4_perform_23 ?_
    refine g_perm (pm_21 _ _ _ _ _ _ _) ?_
    refine g_pVN_V hX (n := 1) (As := [.ref (ad 1)]) (wc := wSt T (ad 6) (ad 7) (ad 8) (ad 9) (ad 10) xv.2.2.1 ++ wSt T (ad 1) (ad 2) (ad 3) (ad 4) (ad 5) xv.2.1) (w1 := wSt T (ad 6) (ad 7) (ad 8) (ad 9) (ad 10) xv.2.1 ++ wSt T (ad 1) (ad 2) (ad 3) (ad 4) (ad 5) xv.2.1) (st := []) 0 rfl rfl (c_X2_copyFrom (xL X) T (xB X) (ad 6) (ad 7) (ad 8) (ad 9) (ad 10) (ad 1) (ad 2) (ad 3) (ad 4) (ad 5) xv.2.2.1 xv.2.1 hx.1) ggX4_perform_X2_copyFrom 20 rfl k_X4_perform_42 k_X4_perform_41 k_X4_perform_43 rfl rfl rfl ⟨Nat.le_of_ble_eq_true rfl, Nat.le_of_ble_eq_true rfl⟩ ⟨Nat.zero_le _, Nat.zero_le _⟩ ⟨by decide +kernel, by decide +kernel, by decide +kernel⟩ rfl rfl rfl rfl (Nat.le_of_ble_eq_true rfl) dX4_perform_26 rfl ?_
    refine g_perm (pm_21 _ _ _ _ _ _ _).symm ?_
    refine g_cast (ws' := wXX T ad (xv.1, xv.2.1, xv.2.1, xv.2.2.2.1, xv.2.2.2.2.1, xv.2.2.2.2.2.1, z_4.2)) rfl ?_
    refine g_iconst hX (v := 0) dX4_perform_29 (by decide) ?_
    refine g_istore_n hX (lv' := [(2, .int 0), (1, .int z_4.1), (0, .ref (ad 0))]) dX4_perform_30 rfl (by decide) rfl ?_
    have e9 : F_X4_perform xv = K_X4_perform_31 61 (xv.1, xv.2.1, xv.2.1, xv.2.2.2.1, xv.2.2.2.2.1, xv.2.2.2.2.2.1, z_4.2) 0 := by simp only [F_X4_perform, ← hz_4, eq_true c_10, if_true, if_false]
    rw [e9]
    refine g_lv (lv' := [(2, .int (nI 0)), (0, .ref (ad 0))]) [0, 2] rfl ?_
    exact k_X4_perform_31 hX ad 61 (xv.1, xv.2.1, xv.2.1, xv.2.2.2.1, xv.2.2.2.2.1, xv.2.2.2.2.2.1, z_4.2) 0 (by omega) (by omega) ⟨hx.1, hx.1, hx.2.2⟩ (by rw [hz_4]; exact cB_read _)
  · skip
    refine g_bipush hX (v := (-100)) dX4_perform_13 (by decide) ?_
    refine g_iload_n hX dX4_perform_15 rfl 0 rfl ?_
    refine g_isub hX dX4_perform_16 ?_
    have e9 : F_X4_perform xv = (((-100) - z_4.1), (xv.1, xv.2.1, xv.2.2.1, xv.2.2.2.1, xv.2.2.2.2.1, xv.2.2.2.2.2.1, z_4.2)) := by simp only [F_X4_perform, ← hz_4, eq_false c_10, if_true, if_false]
    rw [e9]
    exact g_iret hX dX4_perform_17 rfl rfl
