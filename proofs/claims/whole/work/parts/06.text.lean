/-! X0_append -/
def rmX0_append : Room := { frames := 0, cells := 0, slots := 0, locals := 0 }
theorem k_X0_append_0 : Cond.fieldLink RX0 22 RX0 (TX0 3).2.1 (TX0 3).2.2.1 ∈ wsX0_append := List.mem_of_getElem? (i := 1) rfl
theorem h_X0_append_X0 : ∀ w ∈ u_ws RX0 TX0 7, w ∈ wsX0_append := fun w h => List.mem_cons_of_mem _ (List.mem_append_right _ h)
theorem k_X0_append_1 : Cond.fieldLink RX0 9 RX0 (TX0 0).2.1 (TX0 0).2.2.1 ∈ wsX0_append := List.mem_of_getElem? (i := 2) rfl
def F_X0_append (u : TV) (p1 : Int32) : Int32 × TV :=
  (if (u.1 0) < 0 then ((-3), u) else (if (u.1 0) < 60 then (((u.1 0) + 1), (upd u.1 0 ((u.1 0) + 1), (upd u.2.1 (Int32.toNatClampNeg (u.1 0)) (vp_nar .char p1)), u.2.2.1, u.2.2.2)) else ((-3), u)))
set_option maxHeartbeats 4000000 in
set_option maxRecDepth 100000 in
theorem c_X0_append (l : Launch) (T : TT) (b0 : Nat) (t c k v : Nat) (u : TV) (p1 : Int32)  : ConI l T b0 yX0_append wsX0_append rmX0_append [.ref t, .int p1] (wTx T t c k v u) ((F_X0_append u p1).1) (wTx T t c k v ((F_X0_append u p1).2)) := by
  refine conI_of (cc := cX0_append) (maxL := 2) (ret := (some .int)) (lv0 := [(0, .ref t), (1, .int p1)]) (by decide +kernel) rfl (Nat.le_of_ble_eq_true rfl) rfl (fun X hX => ?_)
  refine g_aload_n hX dX0_append_0 rfl 0 rfl ?_
  refine g_get hX 0 h_X0_append_X0 0 rfl rfl 3 (by decide) k_X0_append_0 rfl (v := .int (u.1 0)) rfl dX0_append_1 ?_
  refine g_if_lt hX 19 dX0_append_4 (by decide) (fun c_4 => ?_) (fun c_4 => ?_)
  · skip
    refine g_bipush hX (v := (-3)) dX0_append_19 (by decide) ?_
    have e9 : F_X0_append u p1 = ((-3), u) := by simp only [F_X0_append, eq_true c_4, if_true, if_false]
    rw [e9]
    exact g_iret hX dX0_append_21 rfl rfl
  · skip
    refine g_aload_n hX dX0_append_7 rfl 0 rfl ?_
    refine g_get hX 0 h_X0_append_X0 0 rfl rfl 3 (by decide) k_X0_append_0 rfl (v := .int (u.1 0)) rfl dX0_append_8 ?_
    refine g_aload_n hX dX0_append_11 rfl 0 rfl ?_
    refine g_get hX 0 h_X0_append_X0 0 rfl rfl 0 (by decide) k_X0_append_1 rfl (v := .ref c) rfl dX0_append_12 ?_
    refine g_alen hX 1 1 rfl rfl (v := 60) rfl dX0_append_15 ?_
    refine g_icmp_lt hX 22 dX0_append_16 (by decide) (fun c_16 => ?_) (fun c_16 => ?_)
    · skip
      refine g_aload_n hX dX0_append_22 rfl 0 rfl ?_
      refine g_get hX 0 h_X0_append_X0 0 rfl rfl 0 (by decide) k_X0_append_1 rfl (v := .ref c) rfl dX0_append_23 ?_
      refine g_aload_n hX dX0_append_26 rfl 0 rfl ?_
      refine g_get hX 0 h_X0_append_X0 0 rfl rfl 3 (by decide) k_X0_append_0 rfl (v := .int (u.1 0)) rfl dX0_append_27 ?_
      refine g_iload_n hX dX0_append_30 rfl 1 rfl ?_
      refine g_cast_ hX 1 rfl (vin_lt c_4 c_16 (by decide)) dX0_append_31 (ws' := wTx T t c k v (u.1, (upd u.2.1 (Int32.toNatClampNeg (u.1 0)) (vp_nar .char p1)), u.2.2.1, u.2.2.2)) rfl ?_
      refine g_aload_n hX dX0_append_32 rfl 0 rfl ?_
      refine g_dup hX dX0_append_33 rfl ?_
      refine g_get hX 0 h_X0_append_X0 0 rfl rfl 3 (by decide) k_X0_append_0 rfl (v := .int (u.1 0)) rfl dX0_append_34 ?_
      refine g_iconst hX (v := 1) dX0_append_37 (by decide) ?_
      refine g_iadd hX dX0_append_38 ?_
      refine g_put hX 0 h_X0_append_X0 0 rfl rfl 3 (by decide) tyX0 tyX0_ok nmX0 k_X0_append_0 rfl rfl rfl rfl rfl (Nat.le_of_ble_eq_true rfl) dX0_append_39 (ws' := wTx T t c k v (upd u.1 0 ((u.1 0) + 1), (upd u.2.1 (Int32.toNatClampNeg (u.1 0)) (vp_nar .char p1)), u.2.2.1, u.2.2.2)) rfl ?_
      refine g_aload_n hX dX0_append_42 rfl 0 rfl ?_
      refine g_get hX 0 h_X0_append_X0 0 rfl rfl 3 (by decide) k_X0_append_0 rfl (v := .int ((u.1 0) + 1)) rfl dX0_append_43 ?_
      have e9 : F_X0_append u p1 = (((u.1 0) + 1), (upd u.1 0 ((u.1 0) + 1), (upd u.2.1 (Int32.toNatClampNeg (u.1 0)) (vp_nar .char p1)), u.2.2.1, u.2.2.2)) := by simp only [F_X0_append, eq_false c_4, eq_true c_16, if_true, if_false]
      rw [e9]
      exact g_iret hX dX0_append_46 rfl rfl
    · skip
      refine g_bipush hX (v := (-3)) dX0_append_19 (by decide) ?_
      have e9 : F_X0_append u p1 = ((-3), u) := by simp only [F_X0_append, eq_false c_4, eq_false c_16, if_true, if_false]
      rw [e9]
      exact g_iret hX dX0_append_21 rfl rfl
/-! X0_empty -/
def rmX0_empty : Room := { frames := 0, cells := 0, slots := 0, locals := 0 }
theorem k_X0_empty_0 : Cond.fieldLink RX0 22 RX0 (TX0 3).2.1 (TX0 3).2.2.1 ∈ wsX0_empty := List.mem_of_getElem? (i := 1) rfl
theorem h_X0_empty_X0 : ∀ w ∈ u_ws RX0 TX0 7, w ∈ wsX0_empty := fun w h => List.mem_cons_of_mem _ (List.mem_append_right _ h)
def F_X0_empty (u : TV) : Int32 × TV :=
  ((u.1 0), (upd u.1 0 0, u.2.1, u.2.2.1, u.2.2.2))
set_option maxHeartbeats 4000000 in
set_option maxRecDepth 100000 in
theorem c_X0_empty (l : Launch) (T : TT) (b0 : Nat) (t c k v : Nat) (u : TV)  : ConI l T b0 yX0_empty wsX0_empty rmX0_empty [.ref t] (wTx T t c k v u) ((F_X0_empty u).1) (wTx T t c k v ((F_X0_empty u).2)) := by
  refine conI_of (cc := cX0_empty) (maxL := 2) (ret := (some .int)) (lv0 := [(0, .ref t)]) (by decide +kernel) rfl (Nat.le_of_ble_eq_true rfl) rfl (fun X hX => ?_)
  refine g_aload_n hX dX0_empty_0 rfl 0 rfl ?_
  refine g_get hX 0 h_X0_empty_X0 0 rfl rfl 3 (by decide) k_X0_empty_0 rfl (v := .int (u.1 0)) rfl dX0_empty_1 ?_
  refine g_istore_n hX (lv' := [(1, .int (u.1 0)), (0, .ref t)]) dX0_empty_4 rfl (by decide) rfl ?_
  refine g_aload_n hX dX0_empty_5 rfl 1 rfl ?_
  refine g_iconst hX (v := 0) dX0_empty_6 (by decide) ?_
  refine g_put hX 0 h_X0_empty_X0 0 rfl rfl 3 (by decide) tyX0 tyX0_ok nmX0 k_X0_empty_0 rfl rfl rfl rfl rfl (Nat.le_of_ble_eq_true rfl) dX0_empty_7 (ws' := wTx T t c k v (upd u.1 0 0, u.2.1, u.2.2.1, u.2.2.2)) rfl ?_
  refine g_iload_n hX dX0_empty_10 rfl 0 rfl ?_
  have e9 : F_X0_empty u = ((u.1 0), (upd u.1 0 0, u.2.1, u.2.2.1, u.2.2.2)) := by simp only [F_X0_empty, if_true, if_false]
  rw [e9]
  exact g_iret hX dX0_empty_11 rfl rfl
/-! X0_kindOf -/
def rmX0_kindOf : Room := { frames := 0, cells := 0, slots := 0, locals := 0 }
def F_X0_kindOf (p1 : Int32) : Int32 :=
  (if p1 = 99 then 6 else (if p1 = 100 then 1 else (if p1 = 103 then 5 else (if p1 = 107 then 3 else (if p1 = 110 then 7 else (if p1 = 115 then 4 else (if p1 = 116 then 0 else (if p1 = 119 then 2 else (-1)))))))))
set_option maxHeartbeats 4000000 in
set_option maxRecDepth 100000 in
theorem c_X0_kindOf (l : Launch) (T : TT) (b0 : Nat) (p1 : Int32)  : ConI l T b0 yX0_kindOf wsX0_kindOf rmX0_kindOf [.int p1] ([]) (F_X0_kindOf p1) ([]) := by
  refine conI_of (cc := cX0_kindOf) (maxL := 1) (ret := (some .int)) (lv0 := [(0, .int p1)]) (by decide +kernel) rfl (Nat.le_of_ble_eq_true rfl) rfl (fun X hX => ?_)
  refine g_iload_n hX dX0_kindOf_0 rfl 0 rfl ?_
  by_cases c_1_99 : p1 = 99
  · skip
    refine g_tabIn hX (off := 111) 112 dX0_kindOf_1 (by rw [c_1_99]; decide) (by rw [c_1_99]; decide) (by rw [c_1_99]; decide) (by decide) ?_
    refine g_bipush hX (v := 6) dX0_kindOf_112 (by decide) ?_
    have e9 : F_X0_kindOf p1 = 6 := by simp only [F_X0_kindOf, eq_true c_1_99, if_true, if_false]
    rw [e9]
    exact g_iret hX dX0_kindOf_114 rfl rfl
  · skip
    by_cases c_1_100 : p1 = 100
    · skip
      refine g_tabIn hX (off := 101) 102 dX0_kindOf_1 (by rw [c_1_100]; decide) (by rw [c_1_100]; decide) (by rw [c_1_100]; decide) (by decide) ?_
      refine g_iconst hX (v := 1) dX0_kindOf_102 (by decide) ?_
      have e9 : F_X0_kindOf p1 = 1 := by simp only [F_X0_kindOf, eq_false c_1_99, eq_true c_1_100, if_true, if_false]
      rw [e9]
      exact g_iret hX dX0_kindOf_103 rfl rfl
    · skip
      by_cases c_1_103 : p1 = 103
      · skip
        refine g_tabIn hX (off := 109) 110 dX0_kindOf_1 (by rw [c_1_103]; decide) (by rw [c_1_103]; decide) (by rw [c_1_103]; decide) (by decide) ?_
        refine g_iconst hX (v := 5) dX0_kindOf_110 (by decide) ?_
        have e9 : F_X0_kindOf p1 = 5 := by simp only [F_X0_kindOf, eq_false c_1_99, eq_false c_1_100, eq_true c_1_103, if_true, if_false]
        rw [e9]
        exact g_iret hX dX0_kindOf_111 rfl rfl
      · skip
        by_cases c_1_107 : p1 = 107
        · skip
          refine g_tabIn hX (off := 105) 106 dX0_kindOf_1 (by rw [c_1_107]; decide) (by rw [c_1_107]; decide) (by rw [c_1_107]; decide) (by decide) ?_
          refine g_iconst hX (v := 3) dX0_kindOf_106 (by decide) ?_
          have e9 : F_X0_kindOf p1 = 3 := by simp only [F_X0_kindOf, eq_false c_1_99, eq_false c_1_100, eq_false c_1_103, eq_true c_1_107, if_true, if_false]
          rw [e9]
          exact g_iret hX dX0_kindOf_107 rfl rfl
        · skip
          by_cases c_1_110 : p1 = 110
          · skip
            refine g_tabIn hX (off := 114) 115 dX0_kindOf_1 (by rw [c_1_110]; decide) (by rw [c_1_110]; decide) (by rw [c_1_110]; decide) (by decide) ?_
            refine g_bipush hX (v := 7) dX0_kindOf_115 (by decide) ?_
            have e9 : F_X0_kindOf p1 = 7 := by simp only [F_X0_kindOf, eq_false c_1_99, eq_false c_1_100, eq_false c_1_103, eq_false c_1_107, eq_true c_1_110, if_true, if_false]
            rw [e9]
            exact g_iret hX dX0_kindOf_117 rfl rfl
          · skip
            by_cases c_1_115 : p1 = 115
            · skip
              refine g_tabIn hX (off := 107) 108 dX0_kindOf_1 (by rw [c_1_115]; decide) (by rw [c_1_115]; decide) (by rw [c_1_115]; decide) (by decide) ?_
              refine g_iconst hX (v := 4) dX0_kindOf_108 (by decide) ?_
              have e9 : F_X0_kindOf p1 = 4 := by simp only [F_X0_kindOf, eq_false c_1_99, eq_false c_1_100, eq_false c_1_103, eq_false c_1_107, eq_false c_1_110, eq_true c_1_115, if_true, if_false]
              rw [e9]
              exact g_iret hX dX0_kindOf_109 rfl rfl
            · skip
              by_cases c_1_116 : p1 = 116
              · skip
                refine g_tabIn hX (off := 99) 100 dX0_kindOf_1 (by rw [c_1_116]; decide) (by rw [c_1_116]; decide) (by rw [c_1_116]; decide) (by decide) ?_
                refine g_iconst hX (v := 0) dX0_kindOf_100 (by decide) ?_
                have e9 : F_X0_kindOf p1 = 0 := by simp only [F_X0_kindOf, eq_false c_1_99, eq_false c_1_100, eq_false c_1_103, eq_false c_1_107, eq_false c_1_110, eq_false c_1_115, eq_true c_1_116, if_true, if_false]
                rw [e9]
                exact g_iret hX dX0_kindOf_101 rfl rfl
              · skip
                by_cases c_1_119 : p1 = 119
                · skip
                  refine g_tabIn hX (off := 103) 104 dX0_kindOf_1 (by rw [c_1_119]; decide) (by rw [c_1_119]; decide) (by rw [c_1_119]; decide) (by decide) ?_
                  refine g_iconst hX (v := 2) dX0_kindOf_104 (by decide) ?_
                  have e9 : F_X0_kindOf p1 = 2 := by simp only [F_X0_kindOf, eq_false c_1_99, eq_false c_1_100, eq_false c_1_103, eq_false c_1_107, eq_false c_1_110, eq_false c_1_115, eq_false c_1_116, eq_true c_1_119, if_true, if_false]
                  rw [e9]
                  exact g_iret hX dX0_kindOf_105 rfl rfl
                · skip
                  have tc_1_99 : ¬ Int32.toInt p1 = 99 := lv_neT c_1_99 (by decide)
                  have tc_1_100 : ¬ Int32.toInt p1 = 100 := lv_neT c_1_100 (by decide)
                  have tc_1_103 : ¬ Int32.toInt p1 = 103 := lv_neT c_1_103 (by decide)
                  have tc_1_107 : ¬ Int32.toInt p1 = 107 := lv_neT c_1_107 (by decide)
                  have tc_1_110 : ¬ Int32.toInt p1 = 110 := lv_neT c_1_110 (by decide)
                  have tc_1_115 : ¬ Int32.toInt p1 = 115 := lv_neT c_1_115 (by decide)
                  have tc_1_116 : ¬ Int32.toInt p1 = 116 := lv_neT c_1_116 (by decide)
                  have tc_1_119 : ¬ Int32.toInt p1 = 119 := lv_neT c_1_119 (by decide)
                  have hg_1 : Int32.toInt p1 < 99 ∨ 119 < Int32.toInt p1 ∨ Int32.toInt p1 = 101 ∨ Int32.toInt p1 = 102 ∨ Int32.toInt p1 = 104 ∨ Int32.toInt p1 = 105 ∨ Int32.toInt p1 = 106 ∨ Int32.toInt p1 = 108 ∨ Int32.toInt p1 = 109 ∨ Int32.toInt p1 = 111 ∨ Int32.toInt p1 = 112 ∨ Int32.toInt p1 = 113 ∨ Int32.toInt p1 = 114 ∨ Int32.toInt p1 = 117 ∨ Int32.toInt p1 = 118 := by omega
                  refine g_tabDef hX 118 dX0_kindOf_1 (by rcases hg_1 with hg | hg | hg | hg | hg | hg | hg | hg | hg | hg | hg | hg | hg | hg | hg; exact Or.inl hg; exact Or.inr (Or.inl hg); all_goals (exact Or.inr (Or.inr (by rw [hg]; decide)))) (by decide) ?_
                  refine g_iconst hX (v := (-1)) dX0_kindOf_118 (by decide) ?_
                  have e9 : F_X0_kindOf p1 = (-1) := by simp only [F_X0_kindOf, eq_false c_1_99, eq_false c_1_100, eq_false c_1_103, eq_false c_1_107, eq_false c_1_110, eq_false c_1_115, eq_false c_1_116, eq_false c_1_119, if_true, if_false]
                  rw [e9]
                  exact g_iret hX dX0_kindOf_119 rfl rfl
/-! X0_isComplete -/
def rmX0_isComplete : Room := { frames := 1, cells := 0, slots := 0, locals := 20 }
theorem k_X0_isComplete_0 : Cond.fieldLink RX0 29 RX0 (TX0 5).2.1 (TX0 5).2.2.1 ∈ wsX0_isComplete := List.mem_of_getElem? (i := 1) rfl
theorem h_X0_isComplete_X0 : ∀ w ∈ u_ws RX0 TX0 7, w ∈ wsX0_isComplete := fun w h => List.mem_cons_of_mem _ (List.mem_append_right _ h)
theorem k_X0_isComplete_1 : Cond.fieldLink RX0 32 RX0 (TX0 6).2.1 (TX0 6).2.2.1 ∈ wsX0_isComplete := List.mem_of_getElem? (i := 2) rfl
theorem k_X0_isComplete_3 : Cond.initialized RX4 ∈ wsX0_isComplete := List.mem_of_getElem? (i := 4) rfl
theorem k_X0_isComplete_2 : Cond.static yX4_lowest ∈ wsX0_isComplete := List.mem_of_getElem? (i := 3) rfl
def F_X0_isComplete (u : TV) : Int32 :=
  (if (u.1 2) = 7 then 1 else (if (u.1 2) = (-1) then 0 else (if (u.1 3) < (F_X4_lowest (u.1 2)) then 0 else 1)))
set_option maxHeartbeats 4000000 in
set_option maxRecDepth 100000 in
theorem c_X0_isComplete (l : Launch) (T : TT) (b0 : Nat) (t c k v : Nat) (u : TV)  : ConI l T b0 yX0_isComplete wsX0_isComplete rmX0_isComplete [.ref t] (wTx T t c k v u) (F_X0_isComplete u) (wTx T t c k v u) := by
  refine conI_of (cc := cX0_isComplete) (maxL := 1) (ret := (some .boolean)) (lv0 := [(0, .ref t)]) (by decide +kernel) rfl (Nat.le_of_ble_eq_true rfl) rfl (fun X hX => ?_)
  refine g_aload_n hX dX0_isComplete_0 rfl 0 rfl ?_
  refine g_get hX 0 h_X0_isComplete_X0 0 rfl rfl 5 (by decide) k_X0_isComplete_0 rfl (v := .int (u.1 2)) rfl dX0_isComplete_1 ?_
  refine g_bipush hX (v := 7) dX0_isComplete_4 (by decide) ?_
  refine g_icmp_eq hX 31 dX0_isComplete_6 (by decide) (fun c_6 => ?_) (fun c_6 => ?_)
  · skip
    refine g_iconst hX (v := 1) dX0_isComplete_31 (by decide) ?_
    refine g_goto hX 36 dX0_isComplete_32 (by decide) ?_
    have e9 : F_X0_isComplete u = 1 := by simp only [F_X0_isComplete, eq_true c_6, if_true, if_false]
    rw [e9]
    exact g_zret hX dX0_isComplete_36 rfl rfl rfl
  · skip
    refine g_aload_n hX dX0_isComplete_9 rfl 0 rfl ?_
    refine g_get hX 0 h_X0_isComplete_X0 0 rfl rfl 5 (by decide) k_X0_isComplete_0 rfl (v := .int (u.1 2)) rfl dX0_isComplete_10 ?_
    refine g_iconst hX (v := (-1)) dX0_isComplete_13 (by decide) ?_
    refine g_icmp_eq hX 35 dX0_isComplete_14 (by decide) (fun c_14 => ?_) (fun c_14 => ?_)
    · skip
      refine g_iconst hX (v := 0) dX0_isComplete_35 (by decide) ?_
      have e9 : F_X0_isComplete u = 0 := by simp only [F_X0_isComplete, eq_false c_6, eq_true c_14, if_true, if_false]
      rw [e9]
      exact g_zret hX dX0_isComplete_36 rfl rfl rfl
    · skip
      refine g_aload_n hX dX0_isComplete_17 rfl 0 rfl ?_
      refine g_get hX 0 h_X0_isComplete_X0 0 rfl rfl 6 (by decide) k_X0_isComplete_1 rfl (v := .int (u.1 3)) rfl dX0_isComplete_18 ?_
      refine g_aload_n hX dX0_isComplete_21 rfl 0 rfl ?_
      refine g_get hX 0 h_X0_isComplete_X0 0 rfl rfl 5 (by decide) k_X0_isComplete_0 rfl (v := .int (u.1 2)) rfl dX0_isComplete_22 ?_
      refine g_cSN_I hX (n := 1) (As := [.int (u.1 2)]) (wc := []) (w1 := []) (rv := (F_X4_lowest (u.1 2))) (st := [.int (u.1 3)]) (c_X4_lowest (xL X) T (xB X) (u.1 2)) ggX0_isComplete_X4_lowest 40 rfl k_X0_isComplete_3 k_X0_isComplete_2 rfl rfl rfl ⟨Nat.le_of_ble_eq_true rfl, Nat.le_of_ble_eq_true rfl⟩ ⟨Nat.zero_le _, Nat.zero_le _⟩ ⟨by decide +kernel, by decide +kernel, by decide +kernel⟩ rfl [] rfl rfl (by decide) rfl (Nat.le_of_ble_eq_true rfl) dX0_isComplete_25 (ws' := wTx T t c k v u) rfl ?_
      refine g_icmp_lt hX 35 dX0_isComplete_28 (by decide) (fun c_28 => ?_) (fun c_28 => ?_)
      · skip
        refine g_iconst hX (v := 0) dX0_isComplete_35 (by decide) ?_
        have e9 : F_X0_isComplete u = 0 := by simp only [F_X0_isComplete, eq_false c_6, eq_false c_14, eq_true c_28, if_true, if_false]
        rw [e9]
        exact g_zret hX dX0_isComplete_36 rfl rfl rfl
      · skip
        refine g_iconst hX (v := 1) dX0_isComplete_31 (by decide) ?_
        refine g_goto hX 36 dX0_isComplete_32 (by decide) ?_
        have e9 : F_X0_isComplete u = 1 := by simp only [F_X0_isComplete, eq_false c_6, eq_false c_14, eq_false c_28, if_true, if_false]
        rw [e9]
        exact g_zret hX dX0_isComplete_36 rfl rfl rfl
/-! X0_addCommand -/
def rmX0_addCommand : Room := { frames := 0, cells := 0, slots := 0, locals := 0 }
theorem k_X0_addCommand_0 : Cond.fieldLink RX0 26 RX0 (TX0 4).2.1 (TX0 4).2.2.1 ∈ wsX0_addCommand := List.mem_of_getElem? (i := 1) rfl
theorem h_X0_addCommand_X0 : ∀ w ∈ u_ws RX0 TX0 7, w ∈ wsX0_addCommand := fun w h => List.mem_cons_of_mem _ (List.mem_append_right _ h)
theorem k_X0_addCommand_3 : Cond.fieldLink RX0 29 RX0 (TX0 5).2.1 (TX0 5).2.2.1 ∈ wsX0_addCommand := List.mem_of_getElem? (i := 4) rfl
theorem k_X0_addCommand_4 : Cond.fieldLink RX0 32 RX0 (TX0 6).2.1 (TX0 6).2.2.1 ∈ wsX0_addCommand := List.mem_of_getElem? (i := 5) rfl
theorem k_X0_addCommand_1 : Cond.fieldLink RX0 15 RX0 (TX0 1).2.1 (TX0 1).2.2.1 ∈ wsX0_addCommand := List.mem_of_getElem? (i := 2) rfl
theorem k_X0_addCommand_2 : Cond.fieldLink RX0 19 RX0 (TX0 2).2.1 (TX0 2).2.2.1 ∈ wsX0_addCommand := List.mem_of_getElem? (i := 3) rfl
def F_X0_addCommand (u : TV) : TV :=
  (if (u.1 1) < 0 then (upd (upd u.1 2 (-1)) 3 (-1), u.2.1, u.2.2.1, u.2.2.2) else (if 60 ≤ (u.1 1) then (upd (upd u.1 2 (-1)) 3 (-1), u.2.1, u.2.2.1, u.2.2.2) else (upd (upd (upd u.1 1 ((u.1 1) + 1)) 2 (-1)) 3 (-1), u.2.1, (upd u.2.2.1 (Int32.toNatClampNeg (u.1 1)) (u.1 2)), (upd u.2.2.2 (Int32.toNatClampNeg (u.1 1)) (u.1 3)))))
set_option maxHeartbeats 4000000 in
set_option maxRecDepth 100000 in
theorem c_X0_addCommand (l : Launch) (T : TT) (b0 : Nat) (t c k v : Nat) (u : TV)  : ConV l T b0 yX0_addCommand wsX0_addCommand rmX0_addCommand [.ref t] (wTx T t c k v u) (wTx T t c k v (F_X0_addCommand u)) := by
  refine conV_of (cc := cX0_addCommand) (maxL := 1) (ret := none) (lv0 := [(0, .ref t)]) (by decide +kernel) rfl (Nat.le_of_ble_eq_true rfl) rfl (fun X hX => ?_)
  refine g_aload_n hX dX0_addCommand_0 rfl 0 rfl ?_
  refine g_get hX 0 h_X0_addCommand_X0 0 rfl rfl 4 (by decide) k_X0_addCommand_0 rfl (v := .int (u.1 1)) rfl dX0_addCommand_1 ?_
  refine g_if_lt hX 67 dX0_addCommand_4 (by decide) (fun c_4 => ?_) (fun c_4 => ?_)
  · skip
    refine g_aload_n hX dX0_addCommand_67 rfl 0 rfl ?_
    refine g_iconst hX (v := (-1)) dX0_addCommand_68 (by decide) ?_
    refine g_put hX 0 h_X0_addCommand_X0 0 rfl rfl 5 (by decide) tyX0 tyX0_ok nmX0 k_X0_addCommand_3 rfl rfl rfl rfl rfl (Nat.le_of_ble_eq_true rfl) dX0_addCommand_69 (ws' := wTx T t c k v (upd u.1 2 (-1), u.2.1, u.2.2.1, u.2.2.2)) rfl ?_
    refine g_aload_n hX dX0_addCommand_72 rfl 0 rfl ?_
    refine g_iconst hX (v := (-1)) dX0_addCommand_73 (by decide) ?_
    refine g_put hX 0 h_X0_addCommand_X0 0 rfl rfl 6 (by decide) tyX0 tyX0_ok nmX0 k_X0_addCommand_4 rfl rfl rfl rfl rfl (Nat.le_of_ble_eq_true rfl) dX0_addCommand_74 (ws' := wTx T t c k v (upd (upd u.1 2 (-1)) 3 (-1), u.2.1, u.2.2.1, u.2.2.2)) rfl ?_
    have e9 : F_X0_addCommand u = (upd (upd u.1 2 (-1)) 3 (-1), u.2.1, u.2.2.1, u.2.2.2) := by simp only [F_X0_addCommand, eq_true c_4, if_true, if_false]
    rw [e9]
    exact g_vret hX dX0_addCommand_77 rfl
  · skip
    refine g_aload_n hX dX0_addCommand_7 rfl 0 rfl ?_
    refine g_get hX 0 h_X0_addCommand_X0 0 rfl rfl 4 (by decide) k_X0_addCommand_0 rfl (v := .int (u.1 1)) rfl dX0_addCommand_8 ?_
    refine g_aload_n hX dX0_addCommand_11 rfl 0 rfl ?_
    refine g_get hX 0 h_X0_addCommand_X0 0 rfl rfl 1 (by decide) k_X0_addCommand_1 rfl (v := .ref k) rfl dX0_addCommand_12 ?_
    refine g_alen hX 2 0 rfl rfl (v := 60) rfl dX0_addCommand_15 ?_
    refine g_icmp_ge hX 67 dX0_addCommand_16 (by decide) (fun c_16 => ?_) (fun c_16 => ?_)
    · skip
      refine g_aload_n hX dX0_addCommand_67 rfl 0 rfl ?_
      refine g_iconst hX (v := (-1)) dX0_addCommand_68 (by decide) ?_
      refine g_put hX 0 h_X0_addCommand_X0 0 rfl rfl 5 (by decide) tyX0 tyX0_ok nmX0 k_X0_addCommand_3 rfl rfl rfl rfl rfl (Nat.le_of_ble_eq_true rfl) dX0_addCommand_69 (ws' := wTx T t c k v (upd u.1 2 (-1), u.2.1, u.2.2.1, u.2.2.2)) rfl ?_
      refine g_aload_n hX dX0_addCommand_72 rfl 0 rfl ?_
      refine g_iconst hX (v := (-1)) dX0_addCommand_73 (by decide) ?_
      refine g_put hX 0 h_X0_addCommand_X0 0 rfl rfl 6 (by decide) tyX0 tyX0_ok nmX0 k_X0_addCommand_4 rfl rfl rfl rfl rfl (Nat.le_of_ble_eq_true rfl) dX0_addCommand_74 (ws' := wTx T t c k v (upd (upd u.1 2 (-1)) 3 (-1), u.2.1, u.2.2.1, u.2.2.2)) rfl ?_
      have e9 : F_X0_addCommand u = (upd (upd u.1 2 (-1)) 3 (-1), u.2.1, u.2.2.1, u.2.2.2) := by simp only [F_X0_addCommand, eq_false c_4, eq_true c_16, if_true, if_false]
      rw [e9]
      exact g_vret hX dX0_addCommand_77 rfl
    · skip
      refine g_aload_n hX dX0_addCommand_19 rfl 0 rfl ?_
      refine g_get hX 0 h_X0_addCommand_X0 0 rfl rfl 4 (by decide) k_X0_addCommand_0 rfl (v := .int (u.1 1)) rfl dX0_addCommand_20 ?_
      refine g_aload_n hX dX0_addCommand_23 rfl 0 rfl ?_
      refine g_get hX 0 h_X0_addCommand_X0 0 rfl rfl 2 (by decide) k_X0_addCommand_2 rfl (v := .ref v) rfl dX0_addCommand_24 ?_
      refine g_alen hX 3 0 rfl rfl (v := 60) rfl dX0_addCommand_27 ?_
      refine g_icmp_ge hX 67 dX0_addCommand_28 (by decide) (fun c0 => absurd c0 c_16) (fun _ => ?_)
      refine g_aload_n hX dX0_addCommand_31 rfl 0 rfl ?_
      refine g_get hX 0 h_X0_addCommand_X0 0 rfl rfl 1 (by decide) k_X0_addCommand_1 rfl (v := .ref k) rfl dX0_addCommand_32 ?_
      refine g_aload_n hX dX0_addCommand_35 rfl 0 rfl ?_
      refine g_get hX 0 h_X0_addCommand_X0 0 rfl rfl 4 (by decide) k_X0_addCommand_0 rfl (v := .int (u.1 1)) rfl dX0_addCommand_36 ?_
      refine g_aload_n hX dX0_addCommand_39 rfl 0 rfl ?_
      refine g_get hX 0 h_X0_addCommand_X0 0 rfl rfl 5 (by decide) k_X0_addCommand_3 rfl (v := .int (u.1 2)) rfl dX0_addCommand_40 ?_
      refine g_iast hX 2 rfl (vin_of c_4 c_16 (by decide)) dX0_addCommand_43 (ws' := wTx T t c k v (u.1, u.2.1, (upd u.2.2.1 (Int32.toNatClampNeg (u.1 1)) (u.1 2)), u.2.2.2)) rfl ?_
      refine g_aload_n hX dX0_addCommand_44 rfl 0 rfl ?_
      refine g_get hX 0 h_X0_addCommand_X0 0 rfl rfl 2 (by decide) k_X0_addCommand_2 rfl (v := .ref v) rfl dX0_addCommand_45 ?_
      refine g_aload_n hX dX0_addCommand_48 rfl 0 rfl ?_
      refine g_get hX 0 h_X0_addCommand_X0 0 rfl rfl 4 (by decide) k_X0_addCommand_0 rfl (v := .int (u.1 1)) rfl dX0_addCommand_49 ?_
      refine g_aload_n hX dX0_addCommand_52 rfl 0 rfl ?_
      refine g_get hX 0 h_X0_addCommand_X0 0 rfl rfl 6 (by decide) k_X0_addCommand_4 rfl (v := .int (u.1 3)) rfl dX0_addCommand_53 ?_
      refine g_iast hX 3 rfl (vin_of c_4 c_16 (by decide)) dX0_addCommand_56 (ws' := wTx T t c k v (u.1, u.2.1, (upd u.2.2.1 (Int32.toNatClampNeg (u.1 1)) (u.1 2)), (upd u.2.2.2 (Int32.toNatClampNeg (u.1 1)) (u.1 3)))) rfl ?_
      refine g_aload_n hX dX0_addCommand_57 rfl 0 rfl ?_
      refine g_dup hX dX0_addCommand_58 rfl ?_
      refine g_get hX 0 h_X0_addCommand_X0 0 rfl rfl 4 (by decide) k_X0_addCommand_0 rfl (v := .int (u.1 1)) rfl dX0_addCommand_59 ?_
      refine g_iconst hX (v := 1) dX0_addCommand_62 (by decide) ?_
      refine g_iadd hX dX0_addCommand_63 ?_
      refine g_put hX 0 h_X0_addCommand_X0 0 rfl rfl 4 (by decide) tyX0 tyX0_ok nmX0 k_X0_addCommand_0 rfl rfl rfl rfl rfl (Nat.le_of_ble_eq_true rfl) dX0_addCommand_64 (ws' := wTx T t c k v (upd u.1 1 ((u.1 1) + 1), u.2.1, (upd u.2.2.1 (Int32.toNatClampNeg (u.1 1)) (u.1 2)), (upd u.2.2.2 (Int32.toNatClampNeg (u.1 1)) (u.1 3)))) rfl ?_
      refine g_aload_n hX dX0_addCommand_67 rfl 0 rfl ?_
      refine g_iconst hX (v := (-1)) dX0_addCommand_68 (by decide) ?_
      refine g_put hX 0 h_X0_addCommand_X0 0 rfl rfl 5 (by decide) tyX0 tyX0_ok nmX0 k_X0_addCommand_3 rfl rfl rfl rfl rfl (Nat.le_of_ble_eq_true rfl) dX0_addCommand_69 (ws' := wTx T t c k v (upd (upd u.1 1 ((u.1 1) + 1)) 2 (-1), u.2.1, (upd u.2.2.1 (Int32.toNatClampNeg (u.1 1)) (u.1 2)), (upd u.2.2.2 (Int32.toNatClampNeg (u.1 1)) (u.1 3)))) rfl ?_
      refine g_aload_n hX dX0_addCommand_72 rfl 0 rfl ?_
      refine g_iconst hX (v := (-1)) dX0_addCommand_73 (by decide) ?_
      refine g_put hX 0 h_X0_addCommand_X0 0 rfl rfl 6 (by decide) tyX0 tyX0_ok nmX0 k_X0_addCommand_4 rfl rfl rfl rfl rfl (Nat.le_of_ble_eq_true rfl) dX0_addCommand_74 (ws' := wTx T t c k v (upd (upd (upd u.1 1 ((u.1 1) + 1)) 2 (-1)) 3 (-1), u.2.1, (upd u.2.2.1 (Int32.toNatClampNeg (u.1 1)) (u.1 2)), (upd u.2.2.2 (Int32.toNatClampNeg (u.1 1)) (u.1 3)))) rfl ?_
      have e9 : F_X0_addCommand u = (upd (upd (upd u.1 1 ((u.1 1) + 1)) 2 (-1)) 3 (-1), u.2.1, (upd u.2.2.1 (Int32.toNatClampNeg (u.1 1)) (u.1 2)), (upd u.2.2.2 (Int32.toNatClampNeg (u.1 1)) (u.1 3))) := by simp only [F_X0_addCommand, eq_false c_4, eq_false c_16, if_true, if_false]
      rw [e9]
      exact g_vret hX dX0_addCommand_77 rfl
/-! X0_commandAt -/
def rmX0_commandAt : Room := { frames := 0, cells := 0, slots := 0, locals := 0 }
theorem k_X0_commandAt_0 : Cond.fieldLink RX0 15 RX0 (TX0 1).2.1 (TX0 1).2.2.1 ∈ wsX0_commandAt := List.mem_of_getElem? (i := 1) rfl
theorem h_X0_commandAt_X0 : ∀ w ∈ u_ws RX0 TX0 7, w ∈ wsX0_commandAt := fun w h => List.mem_cons_of_mem _ (List.mem_append_right _ h)
def F_X0_commandAt (u : TV) (p1 : Int32) : Int32 :=
  (if p1 < 0 then (-1) else (if 60 ≤ p1 then (-1) else (u.2.2.1 (Int32.toNatClampNeg p1))))
set_option maxHeartbeats 4000000 in
set_option maxRecDepth 100000 in
theorem c_X0_commandAt (l : Launch) (T : TT) (b0 : Nat) (t c k v : Nat) (u : TV) (p1 : Int32)  : ConI l T b0 yX0_commandAt wsX0_commandAt rmX0_commandAt [.ref t, .int p1] (wTx T t c k v u) (F_X0_commandAt u p1) (wTx T t c k v u) := by
  refine conI_of (cc := cX0_commandAt) (maxL := 2) (ret := (some .int)) (lv0 := [(0, .ref t), (1, .int p1)]) (by decide +kernel) rfl (Nat.le_of_ble_eq_true rfl) rfl (fun X hX => ?_)
  refine g_iload_n hX dX0_commandAt_0 rfl 1 rfl ?_
  refine g_if_lt hX 22 dX0_commandAt_1 (by decide) (fun c_1 => ?_) (fun c_1 => ?_)
  · skip
    refine g_iconst hX (v := (-1)) dX0_commandAt_22 (by decide) ?_
    have e9 : F_X0_commandAt u p1 = (-1) := by simp only [F_X0_commandAt, eq_true c_1, if_true, if_false]
    rw [e9]
    exact g_iret hX dX0_commandAt_23 rfl rfl
  · skip
    refine g_iload_n hX dX0_commandAt_4 rfl 1 rfl ?_
    refine g_aload_n hX dX0_commandAt_5 rfl 0 rfl ?_
    refine g_get hX 0 h_X0_commandAt_X0 0 rfl rfl 1 (by decide) k_X0_commandAt_0 rfl (v := .ref k) rfl dX0_commandAt_6 ?_
    refine g_alen hX 2 0 rfl rfl (v := 60) rfl dX0_commandAt_9 ?_
    refine g_icmp_ge hX 22 dX0_commandAt_10 (by decide) (fun c_10 => ?_) (fun c_10 => ?_)
    · skip
      refine g_iconst hX (v := (-1)) dX0_commandAt_22 (by decide) ?_
      have e9 : F_X0_commandAt u p1 = (-1) := by simp only [F_X0_commandAt, eq_false c_1, eq_true c_10, if_true, if_false]
      rw [e9]
      exact g_iret hX dX0_commandAt_23 rfl rfl
    · skip
      refine g_aload_n hX dX0_commandAt_13 rfl 0 rfl ?_
      refine g_get hX 0 h_X0_commandAt_X0 0 rfl rfl 1 (by decide) k_X0_commandAt_0 rfl (v := .ref k) rfl dX0_commandAt_14 ?_
      refine g_iload_n hX dX0_commandAt_17 rfl 1 rfl ?_
      refine g_iald hX 2 rfl (vin_of c_1 c_10 (by decide)) (v := (u.2.2.1 (Int32.toNatClampNeg p1))) (congrArg _ rfl) dX0_commandAt_18 ?_
      refine g_goto hX 23 dX0_commandAt_19 (by decide) ?_
      have e9 : F_X0_commandAt u p1 = (u.2.2.1 (Int32.toNatClampNeg p1)) := by simp only [F_X0_commandAt, eq_false c_1, eq_false c_10, if_true, if_false]
      rw [e9]
      exact g_iret hX dX0_commandAt_23 rfl rfl
/-! X0_valueAt -/
def rmX0_valueAt : Room := { frames := 0, cells := 0, slots := 0, locals := 0 }
theorem k_X0_valueAt_0 : Cond.fieldLink RX0 19 RX0 (TX0 2).2.1 (TX0 2).2.2.1 ∈ wsX0_valueAt := List.mem_of_getElem? (i := 1) rfl
theorem h_X0_valueAt_X0 : ∀ w ∈ u_ws RX0 TX0 7, w ∈ wsX0_valueAt := fun w h => List.mem_cons_of_mem _ (List.mem_append_right _ h)
def F_X0_valueAt (u : TV) (p1 : Int32) : Int32 :=
  (if p1 < 0 then (-1) else (if 60 ≤ p1 then (-1) else (u.2.2.2 (Int32.toNatClampNeg p1))))
set_option maxHeartbeats 4000000 in
set_option maxRecDepth 100000 in
theorem c_X0_valueAt (l : Launch) (T : TT) (b0 : Nat) (t c k v : Nat) (u : TV) (p1 : Int32)  : ConI l T b0 yX0_valueAt wsX0_valueAt rmX0_valueAt [.ref t, .int p1] (wTx T t c k v u) (F_X0_valueAt u p1) (wTx T t c k v u) := by
  refine conI_of (cc := cX0_valueAt) (maxL := 2) (ret := (some .int)) (lv0 := [(0, .ref t), (1, .int p1)]) (by decide +kernel) rfl (Nat.le_of_ble_eq_true rfl) rfl (fun X hX => ?_)
  refine g_iload_n hX dX0_valueAt_0 rfl 1 rfl ?_
  refine g_if_lt hX 22 dX0_valueAt_1 (by decide) (fun c_1 => ?_) (fun c_1 => ?_)
  · skip
    refine g_iconst hX (v := (-1)) dX0_valueAt_22 (by decide) ?_
    have e9 : F_X0_valueAt u p1 = (-1) := by simp only [F_X0_valueAt, eq_true c_1, if_true, if_false]
    rw [e9]
    exact g_iret hX dX0_valueAt_23 rfl rfl
  · skip
    refine g_iload_n hX dX0_valueAt_4 rfl 1 rfl ?_
    refine g_aload_n hX dX0_valueAt_5 rfl 0 rfl ?_
    refine g_get hX 0 h_X0_valueAt_X0 0 rfl rfl 2 (by decide) k_X0_valueAt_0 rfl (v := .ref v) rfl dX0_valueAt_6 ?_
    refine g_alen hX 3 0 rfl rfl (v := 60) rfl dX0_valueAt_9 ?_
    refine g_icmp_ge hX 22 dX0_valueAt_10 (by decide) (fun c_10 => ?_) (fun c_10 => ?_)
    · skip
      refine g_iconst hX (v := (-1)) dX0_valueAt_22 (by decide) ?_
      have e9 : F_X0_valueAt u p1 = (-1) := by simp only [F_X0_valueAt, eq_false c_1, eq_true c_10, if_true, if_false]
      rw [e9]
      exact g_iret hX dX0_valueAt_23 rfl rfl
    · skip
      refine g_aload_n hX dX0_valueAt_13 rfl 0 rfl ?_
      refine g_get hX 0 h_X0_valueAt_X0 0 rfl rfl 2 (by decide) k_X0_valueAt_0 rfl (v := .ref v) rfl dX0_valueAt_14 ?_
      refine g_iload_n hX dX0_valueAt_17 rfl 1 rfl ?_
      refine g_iald hX 3 rfl (vin_of c_1 c_10 (by decide)) (v := (u.2.2.2 (Int32.toNatClampNeg p1))) (congrArg _ rfl) dX0_valueAt_18 ?_
      refine g_goto hX 23 dX0_valueAt_19 (by decide) ?_
      have e9 : F_X0_valueAt u p1 = (u.2.2.2 (Int32.toNatClampNeg p1)) := by simp only [F_X0_valueAt, eq_false c_1, eq_false c_10, if_true, if_false]
      rw [e9]
      exact g_iret hX dX0_valueAt_23 rfl rfl
/-! X0_takesDigit -/
def rmX0_takesDigit : Room := { frames := 1, cells := 0, slots := 0, locals := 20 }
theorem k_X0_takesDigit_0 : Cond.fieldLink RX0 29 RX0 (TX0 5).2.1 (TX0 5).2.2.1 ∈ wsX0_takesDigit := List.mem_of_getElem? (i := 1) rfl
theorem h_X0_takesDigit_X0 : ∀ w ∈ u_ws RX0 TX0 7, w ∈ wsX0_takesDigit := fun w h => List.mem_cons_of_mem _ (List.mem_append_right _ h)
theorem k_X0_takesDigit_1 : Cond.fieldLink RX0 32 RX0 (TX0 6).2.1 (TX0 6).2.2.1 ∈ wsX0_takesDigit := List.mem_of_getElem? (i := 2) rfl
theorem k_X0_takesDigit_3 : Cond.initialized RX4 ∈ wsX0_takesDigit := List.mem_of_getElem? (i := 4) rfl
theorem k_X0_takesDigit_6 : Cond.static yX4_highest ∈ wsX0_takesDigit := List.mem_of_getElem? (i := 7) rfl
theorem k_X0_takesDigit_2 : Cond.static yX4_lowest ∈ wsX0_takesDigit := List.mem_of_getElem? (i := 3) rfl
def F_X0_takesDigit (u : TV) (p1 : Int32) : Int32 × TV :=
  (if (u.1 2) = 7 then (0, u) else (if (u.1 3) = 0 then (0, u) else (if (u.1 3) = (-1) then (if 0 < p1 then (if p1 ≤ (F_X4_highest (u.1 2)) then (1, (upd u.1 3 p1, u.2.1, u.2.2.1, u.2.2.2)) else (0, u)) else (if (F_X4_lowest (u.1 2)) = 0 then (if p1 ≤ (F_X4_highest (u.1 2)) then (1, (upd u.1 3 p1, u.2.1, u.2.2.1, u.2.2.2)) else (0, u)) else (0, u))) else (if 0 < ((10 * (u.1 3)) + p1) then (if ((10 * (u.1 3)) + p1) ≤ (F_X4_highest (u.1 2)) then (1, (upd u.1 3 ((10 * (u.1 3)) + p1), u.2.1, u.2.2.1, u.2.2.2)) else (0, u)) else (if (F_X4_lowest (u.1 2)) = 0 then (if ((10 * (u.1 3)) + p1) ≤ (F_X4_highest (u.1 2)) then (1, (upd u.1 3 ((10 * (u.1 3)) + p1), u.2.1, u.2.2.1, u.2.2.2)) else (0, u)) else (0, u))))))
set_option maxHeartbeats 4000000 in
set_option maxRecDepth 100000 in
theorem c_X0_takesDigit (l : Launch) (T : TT) (b0 : Nat) (t c k v : Nat) (u : TV) (p1 : Int32)  : ConI l T b0 yX0_takesDigit wsX0_takesDigit rmX0_takesDigit [.ref t, .int p1] (wTx T t c k v u) ((F_X0_takesDigit u p1).1) (wTx T t c k v ((F_X0_takesDigit u p1).2)) := by
  refine conI_of (cc := cX0_takesDigit) (maxL := 4) (ret := (some .boolean)) (lv0 := [(0, .ref t), (1, .int p1)]) (by decide +kernel) rfl (Nat.le_of_ble_eq_true rfl) rfl (fun X hX => ?_)
  refine g_aload_n hX dX0_takesDigit_0 rfl 0 rfl ?_
  refine g_get hX 0 h_X0_takesDigit_X0 0 rfl rfl 5 (by decide) k_X0_takesDigit_0 rfl (v := .int (u.1 2)) rfl dX0_takesDigit_1 ?_
  refine g_bipush hX (v := 7) dX0_takesDigit_4 (by decide) ?_
  refine g_icmp_eq hX 16 dX0_takesDigit_6 (by decide) (fun c_6 => ?_) (fun c_6 => ?_)
  · skip
    refine g_iconst hX (v := 0) dX0_takesDigit_16 (by decide) ?_
    have e9 : F_X0_takesDigit u p1 = (0, u) := by simp only [F_X0_takesDigit, eq_true c_6, if_true, if_false]
    rw [e9]
    exact g_zret hX dX0_takesDigit_17 rfl rfl rfl
  · skip
    refine g_aload_n hX dX0_takesDigit_9 rfl 0 rfl ?_
    refine g_get hX 0 h_X0_takesDigit_X0 0 rfl rfl 6 (by decide) k_X0_takesDigit_1 rfl (v := .int (u.1 3)) rfl dX0_takesDigit_10 ?_
    refine g_if_ne hX 18 dX0_takesDigit_13 (by decide) (fun c_13 => ?_) (fun c_13 => ?_)
    · skip
      refine g_aload_n hX dX0_takesDigit_18 rfl 0 rfl ?_
      refine g_get hX 0 h_X0_takesDigit_X0 0 rfl rfl 6 (by decide) k_X0_takesDigit_1 rfl (v := .int (u.1 3)) rfl dX0_takesDigit_19 ?_
      refine g_iconst hX (v := (-1)) dX0_takesDigit_22 (by decide) ?_
      refine g_icmp_ne hX 30 dX0_takesDigit_23 (by decide) (fun c_23 => ?_) (fun c_23 => ?_)
      · skip
        refine g_bipush hX (v := 10) dX0_takesDigit_30 (by decide) ?_
        refine g_aload_n hX dX0_takesDigit_32 rfl 0 rfl ?_
        refine g_get hX 0 h_X0_takesDigit_X0 0 rfl rfl 6 (by decide) k_X0_takesDigit_1 rfl (v := .int (u.1 3)) rfl dX0_takesDigit_33 ?_
        refine g_imul hX dX0_takesDigit_36 ?_
        refine g_iload_n hX dX0_takesDigit_37 rfl 1 rfl ?_
        refine g_iadd hX dX0_takesDigit_38 ?_
        refine g_istore_n hX (lv' := [(2, .int ((10 * (u.1 3)) + p1)), (0, .ref t), (1, .int p1)]) dX0_takesDigit_39 rfl (by decide) rfl ?_
        refine g_iload_n hX dX0_takesDigit_40 rfl 0 rfl ?_
        refine g_if_gt hX 54 dX0_takesDigit_41 (by decide) (fun c_41 => ?_) (fun c_41 => ?_)
        · skip
          refine g_iconst hX (v := 1) dX0_takesDigit_54 (by decide) ?_
          refine g_goto hX 59 dX0_takesDigit_55 (by decide) ?_
          refine g_istore_n hX (lv' := [(3, .int 1), (2, .int ((10 * (u.1 3)) + p1)), (0, .ref t), (1, .int p1)]) dX0_takesDigit_59 rfl (by decide) rfl ?_
          refine g_iload_n hX dX0_takesDigit_60 rfl 0 rfl ?_
          refine g_if_eq hX 75 dX0_takesDigit_61 (by decide) (fun c0 => absurd c0 (by decide)) (fun _ => ?_)
          refine g_iload_n hX dX0_takesDigit_64 rfl 1 rfl ?_
          refine g_aload_n hX dX0_takesDigit_65 rfl 2 rfl ?_
          refine g_get hX 0 h_X0_takesDigit_X0 0 rfl rfl 5 (by decide) k_X0_takesDigit_0 rfl (v := .int (u.1 2)) rfl dX0_takesDigit_66 ?_
          refine g_cSN_I hX (n := 1) (As := [.int (u.1 2)]) (wc := []) (w1 := []) (rv := (F_X4_highest (u.1 2))) (st := [.int ((10 * (u.1 3)) + p1)]) (c_X4_highest (xL X) T (xB X) (u.1 2)) ggX0_takesDigit_X4_highest 41 rfl k_X0_takesDigit_3 k_X0_takesDigit_6 rfl rfl rfl ⟨Nat.le_of_ble_eq_true rfl, Nat.le_of_ble_eq_true rfl⟩ ⟨Nat.zero_le _, Nat.zero_le _⟩ ⟨by decide +kernel, by decide +kernel, by decide +kernel⟩ rfl [] rfl rfl (by decide) rfl (Nat.le_of_ble_eq_true rfl) dX0_takesDigit_69 (ws' := wTx T t c k v u) rfl ?_
          refine g_icmp_le hX 77 dX0_takesDigit_72 (by decide) (fun c_72 => ?_) (fun c_72 => ?_)
          · skip
            refine g_aload_n hX dX0_takesDigit_77 rfl 2 rfl ?_
            refine g_iload_n hX dX0_takesDigit_78 rfl 1 rfl ?_
            refine g_put hX 0 h_X0_takesDigit_X0 0 rfl rfl 6 (by decide) tyX0 tyX0_ok nmX0 k_X0_takesDigit_1 rfl rfl rfl rfl rfl (Nat.le_of_ble_eq_true rfl) dX0_takesDigit_79 (ws' := wTx T t c k v (upd u.1 3 ((10 * (u.1 3)) + p1), u.2.1, u.2.2.1, u.2.2.2)) rfl ?_
            refine g_iconst hX (v := 1) dX0_takesDigit_82 (by decide) ?_
            have e9 : F_X0_takesDigit u p1 = (1, (upd u.1 3 ((10 * (u.1 3)) + p1), u.2.1, u.2.2.1, u.2.2.2)) := by simp only [F_X0_takesDigit, eq_false c_6, eq_false c_13, eq_false c_23, eq_true c_41, eq_true c_72, if_true, if_false]
            rw [e9]
            exact g_zret hX dX0_takesDigit_83 rfl rfl rfl
          · skip
            refine g_iconst hX (v := 0) dX0_takesDigit_75 (by decide) ?_
            have e9 : F_X0_takesDigit u p1 = (0, u) := by simp only [F_X0_takesDigit, eq_false c_6, eq_false c_13, eq_false c_23, eq_true c_41, eq_false c_72, if_true, if_false]
            rw [e9]
            exact g_zret hX dX0_takesDigit_76 rfl rfl rfl
        · skip
          refine g_aload_n hX dX0_takesDigit_44 rfl 1 rfl ?_
          refine g_get hX 0 h_X0_takesDigit_X0 0 rfl rfl 5 (by decide) k_X0_takesDigit_0 rfl (v := .int (u.1 2)) rfl dX0_takesDigit_45 ?_
          refine g_cSN_I hX (n := 1) (As := [.int (u.1 2)]) (wc := []) (w1 := []) (rv := (F_X4_lowest (u.1 2))) (st := []) (c_X4_lowest (xL X) T (xB X) (u.1 2)) ggX0_takesDigit_X4_lowest 40 rfl k_X0_takesDigit_3 k_X0_takesDigit_2 rfl rfl rfl ⟨Nat.le_of_ble_eq_true rfl, Nat.le_of_ble_eq_true rfl⟩ ⟨Nat.zero_le _, Nat.zero_le _⟩ ⟨by decide +kernel, by decide +kernel, by decide +kernel⟩ rfl [] rfl rfl (by decide) rfl (Nat.le_of_ble_eq_true rfl) dX0_takesDigit_48 (ws' := wTx T t c k v u) rfl ?_
          refine g_if_ne hX 58 dX0_takesDigit_51 (by decide) (fun c_51 => ?_) (fun c_51 => ?_)
          · skip
            refine g_iconst hX (v := 0) dX0_takesDigit_58 (by decide) ?_
            refine g_istore_n hX (lv' := [(3, .int 0), (2, .int ((10 * (u.1 3)) + p1)), (0, .ref t), (1, .int p1)]) dX0_takesDigit_59 rfl (by decide) rfl ?_
            refine g_iload_n hX dX0_takesDigit_60 rfl 0 rfl ?_
            refine g_if_eq hX 75 dX0_takesDigit_61 (by decide) (fun _ => ?_) (fun c0 => absurd c0 (by decide))
            refine g_iconst hX (v := 0) dX0_takesDigit_75 (by decide) ?_
            have e9 : F_X0_takesDigit u p1 = (0, u) := by simp only [F_X0_takesDigit, eq_false c_6, eq_false c_13, eq_false c_23, eq_false c_41, eq_false c_51, if_true, if_false]
            rw [e9]
            exact g_zret hX dX0_takesDigit_76 rfl rfl rfl
          · skip
            refine g_iconst hX (v := 1) dX0_takesDigit_54 (by decide) ?_
            refine g_goto hX 59 dX0_takesDigit_55 (by decide) ?_
            refine g_istore_n hX (lv' := [(3, .int 1), (2, .int ((10 * (u.1 3)) + p1)), (0, .ref t), (1, .int p1)]) dX0_takesDigit_59 rfl (by decide) rfl ?_
            refine g_iload_n hX dX0_takesDigit_60 rfl 0 rfl ?_
            refine g_if_eq hX 75 dX0_takesDigit_61 (by decide) (fun c0 => absurd c0 (by decide)) (fun _ => ?_)
            refine g_iload_n hX dX0_takesDigit_64 rfl 1 rfl ?_
            refine g_aload_n hX dX0_takesDigit_65 rfl 2 rfl ?_
            refine g_get hX 0 h_X0_takesDigit_X0 0 rfl rfl 5 (by decide) k_X0_takesDigit_0 rfl (v := .int (u.1 2)) rfl dX0_takesDigit_66 ?_
            refine g_cSN_I hX (n := 1) (As := [.int (u.1 2)]) (wc := []) (w1 := []) (rv := (F_X4_highest (u.1 2))) (st := [.int ((10 * (u.1 3)) + p1)]) (c_X4_highest (xL X) T (xB X) (u.1 2)) ggX0_takesDigit_X4_highest 41 rfl k_X0_takesDigit_3 k_X0_takesDigit_6 rfl rfl rfl ⟨Nat.le_of_ble_eq_true rfl, Nat.le_of_ble_eq_true rfl⟩ ⟨Nat.zero_le _, Nat.zero_le _⟩ ⟨by decide +kernel, by decide +kernel, by decide +kernel⟩ rfl [] rfl rfl (by decide) rfl (Nat.le_of_ble_eq_true rfl) dX0_takesDigit_69 (ws' := wTx T t c k v u) rfl ?_
            refine g_icmp_le hX 77 dX0_takesDigit_72 (by decide) (fun c_72 => ?_) (fun c_72 => ?_)
            · skip
              refine g_aload_n hX dX0_takesDigit_77 rfl 2 rfl ?_
              refine g_iload_n hX dX0_takesDigit_78 rfl 1 rfl ?_
              refine g_put hX 0 h_X0_takesDigit_X0 0 rfl rfl 6 (by decide) tyX0 tyX0_ok nmX0 k_X0_takesDigit_1 rfl rfl rfl rfl rfl (Nat.le_of_ble_eq_true rfl) dX0_takesDigit_79 (ws' := wTx T t c k v (upd u.1 3 ((10 * (u.1 3)) + p1), u.2.1, u.2.2.1, u.2.2.2)) rfl ?_
              refine g_iconst hX (v := 1) dX0_takesDigit_82 (by decide) ?_
              have e9 : F_X0_takesDigit u p1 = (1, (upd u.1 3 ((10 * (u.1 3)) + p1), u.2.1, u.2.2.1, u.2.2.2)) := by simp only [F_X0_takesDigit, eq_false c_6, eq_false c_13, eq_false c_23, eq_false c_41, eq_true c_51, eq_true c_72, if_true, if_false]
              rw [e9]
              exact g_zret hX dX0_takesDigit_83 rfl rfl rfl
            · skip
              refine g_iconst hX (v := 0) dX0_takesDigit_75 (by decide) ?_
              have e9 : F_X0_takesDigit u p1 = (0, u) := by simp only [F_X0_takesDigit, eq_false c_6, eq_false c_13, eq_false c_23, eq_false c_41, eq_true c_51, eq_false c_72, if_true, if_false]
              rw [e9]
              exact g_zret hX dX0_takesDigit_76 rfl rfl rfl
      · skip
        refine g_iload_n hX dX0_takesDigit_26 rfl 1 rfl ?_
        refine g_goto hX 39 dX0_takesDigit_27 (by decide) ?_
        refine g_istore_n hX (lv' := [(2, .int p1), (0, .ref t), (1, .int p1)]) dX0_takesDigit_39 rfl (by decide) rfl ?_
        refine g_iload_n hX dX0_takesDigit_40 rfl 0 rfl ?_
        refine g_if_gt hX 54 dX0_takesDigit_41 (by decide) (fun c_41 => ?_) (fun c_41 => ?_)
        · skip
          refine g_iconst hX (v := 1) dX0_takesDigit_54 (by decide) ?_
          refine g_goto hX 59 dX0_takesDigit_55 (by decide) ?_
          refine g_istore_n hX (lv' := [(3, .int 1), (2, .int p1), (0, .ref t), (1, .int p1)]) dX0_takesDigit_59 rfl (by decide) rfl ?_
          refine g_iload_n hX dX0_takesDigit_60 rfl 0 rfl ?_
          refine g_if_eq hX 75 dX0_takesDigit_61 (by decide) (fun c0 => absurd c0 (by decide)) (fun _ => ?_)
          refine g_iload_n hX dX0_takesDigit_64 rfl 1 rfl ?_
          refine g_aload_n hX dX0_takesDigit_65 rfl 2 rfl ?_
          refine g_get hX 0 h_X0_takesDigit_X0 0 rfl rfl 5 (by decide) k_X0_takesDigit_0 rfl (v := .int (u.1 2)) rfl dX0_takesDigit_66 ?_
          refine g_cSN_I hX (n := 1) (As := [.int (u.1 2)]) (wc := []) (w1 := []) (rv := (F_X4_highest (u.1 2))) (st := [.int p1]) (c_X4_highest (xL X) T (xB X) (u.1 2)) ggX0_takesDigit_X4_highest 41 rfl k_X0_takesDigit_3 k_X0_takesDigit_6 rfl rfl rfl ⟨Nat.le_of_ble_eq_true rfl, Nat.le_of_ble_eq_true rfl⟩ ⟨Nat.zero_le _, Nat.zero_le _⟩ ⟨by decide +kernel, by decide +kernel, by decide +kernel⟩ rfl [] rfl rfl (by decide) rfl (Nat.le_of_ble_eq_true rfl) dX0_takesDigit_69 (ws' := wTx T t c k v u) rfl ?_
          refine g_icmp_le hX 77 dX0_takesDigit_72 (by decide) (fun c_72 => ?_) (fun c_72 => ?_)
          · skip
            refine g_aload_n hX dX0_takesDigit_77 rfl 2 rfl ?_
            refine g_iload_n hX dX0_takesDigit_78 rfl 1 rfl ?_
            refine g_put hX 0 h_X0_takesDigit_X0 0 rfl rfl 6 (by decide) tyX0 tyX0_ok nmX0 k_X0_takesDigit_1 rfl rfl rfl rfl rfl (Nat.le_of_ble_eq_true rfl) dX0_takesDigit_79 (ws' := wTx T t c k v (upd u.1 3 p1, u.2.1, u.2.2.1, u.2.2.2)) rfl ?_
            refine g_iconst hX (v := 1) dX0_takesDigit_82 (by decide) ?_
            have e9 : F_X0_takesDigit u p1 = (1, (upd u.1 3 p1, u.2.1, u.2.2.1, u.2.2.2)) := by simp only [F_X0_takesDigit, eq_false c_6, eq_false c_13, eq_true c_23, eq_true c_41, eq_true c_72, if_true, if_false]
            rw [e9]
            exact g_zret hX dX0_takesDigit_83 rfl rfl rfl
          · skip
            refine g_iconst hX (v := 0) dX0_takesDigit_75 (by decide) ?_
            have e9 : F_X0_takesDigit u p1 = (0, u) := by simp only [F_X0_takesDigit, eq_false c_6, eq_false c_13, eq_true c_23, eq_true c_41, eq_false c_72, if_true, if_false]
            rw [e9]
            exact g_zret hX dX0_takesDigit_76 rfl rfl rfl
        · skip
          refine g_aload_n hX dX0_takesDigit_44 rfl 1 rfl ?_
          refine g_get hX 0 h_X0_takesDigit_X0 0 rfl rfl 5 (by decide) k_X0_takesDigit_0 rfl (v := .int (u.1 2)) rfl dX0_takesDigit_45 ?_
          refine g_cSN_I hX (n := 1) (As := [.int (u.1 2)]) (wc := []) (w1 := []) (rv := (F_X4_lowest (u.1 2))) (st := []) (c_X4_lowest (xL X) T (xB X) (u.1 2)) ggX0_takesDigit_X4_lowest 40 rfl k_X0_takesDigit_3 k_X0_takesDigit_2 rfl rfl rfl ⟨Nat.le_of_ble_eq_true rfl, Nat.le_of_ble_eq_true rfl⟩ ⟨Nat.zero_le _, Nat.zero_le _⟩ ⟨by decide +kernel, by decide +kernel, by decide +kernel⟩ rfl [] rfl rfl (by decide) rfl (Nat.le_of_ble_eq_true rfl) dX0_takesDigit_48 (ws' := wTx T t c k v u) rfl ?_
          refine g_if_ne hX 58 dX0_takesDigit_51 (by decide) (fun c_51 => ?_) (fun c_51 => ?_)
          · skip
            refine g_iconst hX (v := 0) dX0_takesDigit_58 (by decide) ?_
            refine g_istore_n hX (lv' := [(3, .int 0), (2, .int p1), (0, .ref t), (1, .int p1)]) dX0_takesDigit_59 rfl (by decide) rfl ?_
            refine g_iload_n hX dX0_takesDigit_60 rfl 0 rfl ?_
            refine g_if_eq hX 75 dX0_takesDigit_61 (by decide) (fun _ => ?_) (fun c0 => absurd c0 (by decide))
            refine g_iconst hX (v := 0) dX0_takesDigit_75 (by decide) ?_
            have e9 : F_X0_takesDigit u p1 = (0, u) := by simp only [F_X0_takesDigit, eq_false c_6, eq_false c_13, eq_true c_23, eq_false c_41, eq_false c_51, if_true, if_false]
            rw [e9]
            exact g_zret hX dX0_takesDigit_76 rfl rfl rfl
          · skip
            refine g_iconst hX (v := 1) dX0_takesDigit_54 (by decide) ?_
            refine g_goto hX 59 dX0_takesDigit_55 (by decide) ?_
            refine g_istore_n hX (lv' := [(3, .int 1), (2, .int p1), (0, .ref t), (1, .int p1)]) dX0_takesDigit_59 rfl (by decide) rfl ?_
            refine g_iload_n hX dX0_takesDigit_60 rfl 0 rfl ?_
            refine g_if_eq hX 75 dX0_takesDigit_61 (by decide) (fun c0 => absurd c0 (by decide)) (fun _ => ?_)
            refine g_iload_n hX dX0_takesDigit_64 rfl 1 rfl ?_
            refine g_aload_n hX dX0_takesDigit_65 rfl 2 rfl ?_
            refine g_get hX 0 h_X0_takesDigit_X0 0 rfl rfl 5 (by decide) k_X0_takesDigit_0 rfl (v := .int (u.1 2)) rfl dX0_takesDigit_66 ?_
            refine g_cSN_I hX (n := 1) (As := [.int (u.1 2)]) (wc := []) (w1 := []) (rv := (F_X4_highest (u.1 2))) (st := [.int p1]) (c_X4_highest (xL X) T (xB X) (u.1 2)) ggX0_takesDigit_X4_highest 41 rfl k_X0_takesDigit_3 k_X0_takesDigit_6 rfl rfl rfl ⟨Nat.le_of_ble_eq_true rfl, Nat.le_of_ble_eq_true rfl⟩ ⟨Nat.zero_le _, Nat.zero_le _⟩ ⟨by decide +kernel, by decide +kernel, by decide +kernel⟩ rfl [] rfl rfl (by decide) rfl (Nat.le_of_ble_eq_true rfl) dX0_takesDigit_69 (ws' := wTx T t c k v u) rfl ?_
            refine g_icmp_le hX 77 dX0_takesDigit_72 (by decide) (fun c_72 => ?_) (fun c_72 => ?_)
            · skip
              refine g_aload_n hX dX0_takesDigit_77 rfl 2 rfl ?_
              refine g_iload_n hX dX0_takesDigit_78 rfl 1 rfl ?_
              refine g_put hX 0 h_X0_takesDigit_X0 0 rfl rfl 6 (by decide) tyX0 tyX0_ok nmX0 k_X0_takesDigit_1 rfl rfl rfl rfl rfl (Nat.le_of_ble_eq_true rfl) dX0_takesDigit_79 (ws' := wTx T t c k v (upd u.1 3 p1, u.2.1, u.2.2.1, u.2.2.2)) rfl ?_
              refine g_iconst hX (v := 1) dX0_takesDigit_82 (by decide) ?_
              have e9 : F_X0_takesDigit u p1 = (1, (upd u.1 3 p1, u.2.1, u.2.2.1, u.2.2.2)) := by simp only [F_X0_takesDigit, eq_false c_6, eq_false c_13, eq_true c_23, eq_false c_41, eq_true c_51, eq_true c_72, if_true, if_false]
              rw [e9]
              exact g_zret hX dX0_takesDigit_83 rfl rfl rfl
            · skip
              refine g_iconst hX (v := 0) dX0_takesDigit_75 (by decide) ?_
              have e9 : F_X0_takesDigit u p1 = (0, u) := by simp only [F_X0_takesDigit, eq_false c_6, eq_false c_13, eq_true c_23, eq_false c_41, eq_true c_51, eq_false c_72, if_true, if_false]
              rw [e9]
              exact g_zret hX dX0_takesDigit_76 rfl rfl rfl
    · skip
      refine g_iconst hX (v := 0) dX0_takesDigit_16 (by decide) ?_
      have e9 : F_X0_takesDigit u p1 = (0, u) := by simp only [F_X0_takesDigit, eq_false c_6, eq_true c_13, if_true, if_false]
      rw [e9]
      exact g_zret hX dX0_takesDigit_17 rfl rfl rfl
/-! X0_takes -/
def rmX0_takes : Room := { frames := 2, cells := 0, slots := 0, locals := 43 }
theorem k_X0_takes_0 : Cond.fieldLink RX0 29 RX0 (TX0 5).2.1 (TX0 5).2.2.1 ∈ wsX0_takes := List.mem_of_getElem? (i := 1) rfl
theorem h_X0_takes_X0 : ∀ w ∈ u_ws RX0 TX0 7, w ∈ wsX0_takes := fun w h => List.mem_cons_of_mem _ (List.mem_append_right _ h)
def F_X0_takes (u : TV) (p1 : Int32) : Int32 × TV :=
  (if (u.1 2) = (-1) then (if (F_X0_kindOf p1) = (-1) then (0, (upd u.1 2 (F_X0_kindOf p1), u.2.1, u.2.2.1, u.2.2.2)) else (1, (upd u.1 2 (F_X0_kindOf p1), u.2.1, u.2.2.1, u.2.2.2))) else (if p1 = 44 then (if (F_X0_isComplete u) = 0 then (if p1 < 48 then (0, u) else (if 57 < p1 then (0, u) else (let z_66 := F_X0_takesDigit u (p1 - 48)
  (if z_66.1 = 0 then (0, z_66.2) else (1, z_66.2))))) else (let z_44 := F_X0_addCommand u
  (1, z_44))) else (if p1 < 48 then (0, u) else (if 57 < p1 then (0, u) else (let z_66 := F_X0_takesDigit u (p1 - 48)
  (if z_66.1 = 0 then (0, z_66.2) else (1, z_66.2)))))))
set_option maxHeartbeats 4000000 in
set_option maxRecDepth 100000 in
theorem c_X0_takes (l : Launch) (T : TT) (b0 : Nat) (t c k v : Nat) (u : TV) (p1 : Int32)  : ConI l T b0 yX0_takes wsX0_takes rmX0_takes [.ref t, .int p1] (wTx T t c k v u) ((F_X0_takes u p1).1) (wTx T t c k v ((F_X0_takes u p1).2)) := by
  refine conI_of (cc := cX0_takes) (maxL := 2) (ret := (some .boolean)) (lv0 := [(0, .ref t), (1, .int p1)]) (by decide +kernel) rfl (Nat.le_of_ble_eq_true rfl) rfl (fun X hX => ?_)
  refine g_aload_n hX dX0_takes_0 rfl 0 rfl ?_
  refine g_get hX 0 h_X0_takes_X0 0 rfl rfl 5 (by decide) k_X0_takes_0 rfl (v := .int (u.1 2)) rfl dX0_takes_1 ?_
  refine g_iconst hX (v := (-1)) dX0_takes_4 (by decide) ?_
  refine g_icmp_ne hX 30 dX0_takes_5 (by decide) (fun c_5 => ?_) (fun c_5 => ?_)
  · skip
    refine g_iload_n hX dX0_takes_30 rfl 1 rfl ?_
    refine g_bipush hX (v := 44) dX0_takes_31 (by decide) ?_
    refine g_icmp_ne hX 49 dX0_takes_33 (by decide) (fun c_33 => ?_) (fun c_33 => ?_)
    · skip
      refine g_iload_n hX dX0_takes_49 rfl 1 rfl ?_
      refine g_bipush hX (v := 48) dX0_takes_50 (by decide) ?_
      refine g_icmp_lt hX 76 dX0_takes_52 (by decide) (fun c_52 => ?_) (fun c_52 => ?_)
      · skip
        refine g_iconst hX (v := 0) dX0_takes_76 (by decide) ?_
        have e9 : F_X0_takes u p1 = (0, u) := by simp only [F_X0_takes, eq_false c_5, eq_false c_33, eq_true c_52, if_true, if_false]
        rw [e9]
        exact g_zret hX dX0_takes_77 rfl rfl rfl
      · skip
        refine g_iload_n hX dX0_takes_55 rfl 1 rfl ?_
        refine g_bipush hX (v := 57) dX0_takes_56 (by decide) ?_
        refine g_icmp_gt hX 76 dX0_takes_58 (by decide) (fun c_58 => ?_) (fun c_58 => ?_)
        · skip
          refine g_iconst hX (v := 0) dX0_takes_76 (by decide) ?_
          have e9 : F_X0_takes u p1 = (0, u) := by simp only [F_X0_takes, eq_false c_5, eq_false c_33, eq_false c_52, eq_true c_58, if_true, if_false]
          rw [e9]
          exact g_zret hX dX0_takes_77 rfl rfl rfl
        · skip
          refine g_aload_n hX dX0_takes_61 rfl 0 rfl ?_
          refine g_iload_n hX dX0_takes_62 rfl 1 rfl ?_
          refine g_bipush hX (v := 48) dX0_takes_63 (by decide) ?_
          refine g_isub hX dX0_takes_65 ?_
          obtain ⟨z_66, hz_66⟩ : ∃ z : Int32 × TV, z = F_X0_takesDigit u (p1 - 48) := ⟨_, rfl⟩
          refine g_cV_I hX (n := 1) (As := [.int (p1 - 48)]) (wc := wTx T t c k v u) (w1 := wTx T t c k v z_66.2) (rv := z_66.1) (st := []) 0 rfl rfl (by rw [hz_66]; exact (c_X0_takesDigit (xL X) T (xB X) t c k v u (p1 - 48))) gX0_takes_X0_takesDigit rfl rfl rfl ⟨Nat.le_of_ble_eq_true rfl, Nat.le_of_ble_eq_true rfl⟩ ⟨Nat.zero_le _, Nat.zero_le _⟩ ⟨by decide +kernel, by decide +kernel, by decide +kernel⟩ rfl [0, 1, 2, 3] rfl rfl (by decide) rfl (Nat.le_of_ble_eq_true rfl) dX0_takes_66 (ws' := wTx T t c k v z_66.2) rfl ?_
          refine g_if_eq hX 76 dX0_takes_69 (by decide) (fun c_69 => ?_) (fun c_69 => ?_)
          · skip
            refine g_iconst hX (v := 0) dX0_takes_76 (by decide) ?_
            have e9 : F_X0_takes u p1 = (0, z_66.2) := by simp only [F_X0_takes, ← hz_66, eq_false c_5, eq_false c_33, eq_false c_52, eq_false c_58, eq_true c_69, if_true, if_false]
            rw [e9]
            exact g_zret hX dX0_takes_77 rfl rfl rfl
          · skip
            refine g_iconst hX (v := 1) dX0_takes_72 (by decide) ?_
            refine g_goto hX 77 dX0_takes_73 (by decide) ?_
            have e9 : F_X0_takes u p1 = (1, z_66.2) := by simp only [F_X0_takes, ← hz_66, eq_false c_5, eq_false c_33, eq_false c_52, eq_false c_58, eq_false c_69, if_true, if_false]
            rw [e9]
            exact g_zret hX dX0_takes_77 rfl rfl rfl
    · skip
      refine g_aload_n hX dX0_takes_36 rfl 0 rfl ?_
      refine g_cV_I hX (n := 0) (As := []) (wc := wTx T t c k v u) (w1 := wTx T t c k v u) (rv := (F_X0_isComplete u)) (st := []) 0 rfl rfl (c_X0_isComplete (xL X) T (xB X) t c k v u) gX0_takes_X0_isComplete rfl rfl rfl ⟨Nat.le_of_ble_eq_true rfl, Nat.le_of_ble_eq_true rfl⟩ ⟨Nat.zero_le _, Nat.zero_le _⟩ ⟨by decide +kernel, by decide +kernel, by decide +kernel⟩ rfl [0, 1, 2, 3] rfl rfl (by decide) rfl (Nat.le_of_ble_eq_true rfl) dX0_takes_37 (ws' := wTx T t c k v u) rfl ?_
      refine g_if_eq hX 49 dX0_takes_40 (by decide) (fun c_40 => ?_) (fun c_40 => ?_)
      · skip
        refine g_iload_n hX dX0_takes_49 rfl 1 rfl ?_
        refine g_bipush hX (v := 48) dX0_takes_50 (by decide) ?_
        refine g_icmp_lt hX 76 dX0_takes_52 (by decide) (fun c_52 => ?_) (fun c_52 => ?_)
        · skip
          refine g_iconst hX (v := 0) dX0_takes_76 (by decide) ?_
          have e9 : F_X0_takes u p1 = (0, u) := by simp only [F_X0_takes, eq_false c_5, eq_true c_33, eq_true c_40, eq_true c_52, if_true, if_false]
          rw [e9]
          exact g_zret hX dX0_takes_77 rfl rfl rfl
        · skip
          refine g_iload_n hX dX0_takes_55 rfl 1 rfl ?_
          refine g_bipush hX (v := 57) dX0_takes_56 (by decide) ?_
          refine g_icmp_gt hX 76 dX0_takes_58 (by decide) (fun c_58 => ?_) (fun c_58 => ?_)
          · skip
            refine g_iconst hX (v := 0) dX0_takes_76 (by decide) ?_
            have e9 : F_X0_takes u p1 = (0, u) := by simp only [F_X0_takes, eq_false c_5, eq_true c_33, eq_true c_40, eq_false c_52, eq_true c_58, if_true, if_false]
            rw [e9]
            exact g_zret hX dX0_takes_77 rfl rfl rfl
          · skip
            refine g_aload_n hX dX0_takes_61 rfl 0 rfl ?_
            refine g_iload_n hX dX0_takes_62 rfl 1 rfl ?_
            refine g_bipush hX (v := 48) dX0_takes_63 (by decide) ?_
            refine g_isub hX dX0_takes_65 ?_
            obtain ⟨z_66, hz_66⟩ : ∃ z : Int32 × TV, z = F_X0_takesDigit u (p1 - 48) := ⟨_, rfl⟩
            refine g_cV_I hX (n := 1) (As := [.int (p1 - 48)]) (wc := wTx T t c k v u) (w1 := wTx T t c k v z_66.2) (rv := z_66.1) (st := []) 0 rfl rfl (by rw [hz_66]; exact (c_X0_takesDigit (xL X) T (xB X) t c k v u (p1 - 48))) gX0_takes_X0_takesDigit rfl rfl rfl ⟨Nat.le_of_ble_eq_true rfl, Nat.le_of_ble_eq_true rfl⟩ ⟨Nat.zero_le _, Nat.zero_le _⟩ ⟨by decide +kernel, by decide +kernel, by decide +kernel⟩ rfl [0, 1, 2, 3] rfl rfl (by decide) rfl (Nat.le_of_ble_eq_true rfl) dX0_takes_66 (ws' := wTx T t c k v z_66.2) rfl ?_
            refine g_if_eq hX 76 dX0_takes_69 (by decide) (fun c_69 => ?_) (fun c_69 => ?_)
            · skip
              refine g_iconst hX (v := 0) dX0_takes_76 (by decide) ?_
              have e9 : F_X0_takes u p1 = (0, z_66.2) := by simp only [F_X0_takes, ← hz_66, eq_false c_5, eq_true c_33, eq_true c_40, eq_false c_52, eq_false c_58, eq_true c_69, if_true, if_false]
              rw [e9]
              exact g_zret hX dX0_takes_77 rfl rfl rfl
            · skip
              refine g_iconst hX (v := 1) dX0_takes_72 (by decide) ?_
              refine g_goto hX 77 dX0_takes_73 (by decide) ?_
              have e9 : F_X0_takes u p1 = (1, z_66.2) := by simp only [F_X0_takes, ← hz_66, eq_false c_5, eq_true c_33, eq_true c_40, eq_false c_52, eq_false c_58, eq_false c_69, if_true, if_false]
              rw [e9]
              exact g_zret hX dX0_takes_77 rfl rfl rfl
      · skip
        refine g_aload_n hX dX0_takes_43 rfl 0 rfl ?_
        obtain ⟨z_44, hz_44⟩ : ∃ z : TV, z = F_X0_addCommand u := ⟨_, rfl⟩
        refine g_cV_V hX (n := 0) (As := []) (wc := wTx T t c k v u) (w1 := wTx T t c k v z_44) (st := []) 0 rfl rfl (by rw [hz_44]; exact (c_X0_addCommand (xL X) T (xB X) t c k v u)) gX0_takes_X0_addCommand rfl rfl rfl ⟨Nat.le_of_ble_eq_true rfl, Nat.le_of_ble_eq_true rfl⟩ ⟨Nat.zero_le _, Nat.zero_le _⟩ ⟨by decide +kernel, by decide +kernel, by decide +kernel⟩ rfl [0, 1, 2, 3] rfl rfl (by decide) rfl (Nat.le_of_ble_eq_true rfl) dX0_takes_44 (ws' := wTx T t c k v z_44) rfl ?_
        refine g_iconst hX (v := 1) dX0_takes_47 (by decide) ?_
        have e9 : F_X0_takes u p1 = (1, z_44) := by simp only [F_X0_takes, ← hz_44, eq_false c_5, eq_true c_33, eq_false c_40, if_true, if_false]
        rw [e9]
        exact g_zret hX dX0_takes_48 rfl rfl rfl
  · skip
    refine g_aload_n hX dX0_takes_8 rfl 0 rfl ?_
    refine g_iload_n hX dX0_takes_9 rfl 1 rfl ?_
    refine g_cS_I hX (n := 1) (As := [.int p1]) (wc := []) (w1 := []) (rv := (F_X0_kindOf p1)) (st := [.ref t]) (c_X0_kindOf (xL X) T (xB X) p1) gX0_takes_X0_kindOf rfl rfl rfl ⟨Nat.le_of_ble_eq_true rfl, Nat.le_of_ble_eq_true rfl⟩ ⟨Nat.zero_le _, Nat.zero_le _⟩ ⟨by decide +kernel, by decide +kernel, by decide +kernel⟩ rfl [] rfl rfl (by decide) rfl (Nat.le_of_ble_eq_true rfl) dX0_takes_10 (ws' := wTx T t c k v u) rfl ?_
    refine g_put hX 0 h_X0_takes_X0 0 rfl rfl 5 (by decide) tyX0 tyX0_ok nmX0 k_X0_takes_0 rfl rfl rfl rfl rfl (Nat.le_of_ble_eq_true rfl) dX0_takes_13 (ws' := wTx T t c k v (upd u.1 2 (F_X0_kindOf p1), u.2.1, u.2.2.1, u.2.2.2)) rfl ?_
    refine g_aload_n hX dX0_takes_16 rfl 0 rfl ?_
    refine g_get hX 0 h_X0_takes_X0 0 rfl rfl 5 (by decide) k_X0_takes_0 rfl (v := .int (F_X0_kindOf p1)) rfl dX0_takes_17 ?_
    refine g_iconst hX (v := (-1)) dX0_takes_20 (by decide) ?_
    refine g_icmp_eq hX 28 dX0_takes_21 (by decide) (fun c_21 => ?_) (fun c_21 => ?_)
    · skip
      refine g_iconst hX (v := 0) dX0_takes_28 (by decide) ?_
      have e9 : F_X0_takes u p1 = (0, (upd u.1 2 (F_X0_kindOf p1), u.2.1, u.2.2.1, u.2.2.2)) := by simp only [F_X0_takes, eq_true c_5, eq_true c_21, if_true, if_false]
      rw [e9]
      exact g_zret hX dX0_takes_29 rfl rfl rfl
    · skip
      refine g_iconst hX (v := 1) dX0_takes_24 (by decide) ?_
      refine g_goto hX 29 dX0_takes_25 (by decide) ?_
      have e9 : F_X0_takes u p1 = (1, (upd u.1 2 (F_X0_kindOf p1), u.2.1, u.2.2.1, u.2.2.2)) := by simp only [F_X0_takes, eq_true c_5, eq_false c_21, if_true, if_false]
      rw [e9]
      exact g_zret hX dX0_takes_29 rfl rfl rfl
/-! X0_read -/
def rmX0_read : Room := { frames := 3, cells := 0, slots := 0, locals := 64 }
theorem k_X0_read_0 : Cond.fieldLink RX0 26 RX0 (TX0 4).2.1 (TX0 4).2.2.1 ∈ wsX0_read := List.mem_of_getElem? (i := 1) rfl
theorem h_X0_read_X0 : ∀ w ∈ u_ws RX0 TX0 7, w ∈ wsX0_read := fun w h => List.mem_cons_of_mem _ (List.mem_append_right _ h)
theorem k_X0_read_1 : Cond.fieldLink RX0 29 RX0 (TX0 5).2.1 (TX0 5).2.2.1 ∈ wsX0_read := List.mem_of_getElem? (i := 2) rfl
theorem k_X0_read_2 : Cond.fieldLink RX0 32 RX0 (TX0 6).2.1 (TX0 6).2.2.1 ∈ wsX0_read := List.mem_of_getElem? (i := 3) rfl
theorem k_X0_read_3 : Cond.fieldLink RX0 22 RX0 (TX0 3).2.1 (TX0 3).2.2.1 ∈ wsX0_read := List.mem_of_getElem? (i := 4) rfl
theorem k_X0_read_4 : Cond.fieldLink RX0 9 RX0 (TX0 0).2.1 (TX0 0).2.2.1 ∈ wsX0_read := List.mem_of_getElem? (i := 5) rfl
def K_X0_read_17 : Nat → TV → Nat → Int32 × TV
  | 0, u, j => (0, u)
  | n + 1, u, j => (if (u.1 0) ≤ (nI j) then (if (F_X0_isComplete u) = 0 then ((u.1 0), u) else (let z_68 := F_X0_addCommand u
  ((-1), z_68))) else (if 60 ≤ (nI j) then (if (F_X0_isComplete u) = 0 then ((u.1 0), u) else (let z_68 := F_X0_addCommand u
  ((-1), z_68))) else (let z_41 := F_X0_takes u (u.2.1 j)
  (if z_41.1 = 0 then ((nI j), z_41.2) else K_X0_read_17 n z_41.2 (j + 1)))))
def F_X0_read (u : TV) : Int32 × TV :=
  K_X0_read_17 61 (upd (upd (upd u.1 1 0) 2 (-1)) 3 (-1), u.2.1, u.2.2.1, u.2.2.2) 0
set_option maxHeartbeats 4000000 in
set_option maxRecDepth 100000 in
theorem k_X0_read_17 {T : TT} {X : CX} (hX : Fit T X (yX0_read).cls 2 wsX0_read cX0_read (some .int) rmX0_read) (t c k v : Nat) : ∀ (n : Nat) (u : TV) (j : Nat) (hn : j + n = 61) (hj : j ≤ 60), G T X (QI T X 0 0 ((K_X0_read_17 n u j).1) (wTx T t c k v ((K_X0_read_17 n u j).2))) 0 0 (wTx T t c k v u) [(1, .int (nI j)), (0, .ref t)] 17 [] := by
  intro n
  induction n with
  | zero =>
    intro u j hn hj
    exact absurd hn (by omega)
  | succ n ih =>
    intro u j hn hj
    refine g_iload_n hX dX0_read_17 rfl 0 rfl ?_
    refine g_aload_n hX dX0_read_18 rfl 1 rfl ?_
    refine g_get hX 0 h_X0_read_X0 0 rfl rfl 3 (by decide) k_X0_read_3 rfl (v := .int (u.1 0)) rfl dX0_read_19 ?_
    refine g_icmp_ge hX 55 dX0_read_22 (by decide) (fun c_22 => ?_) (fun c_22 => ?_)
    · skip
      refine g_aload_n hX dX0_read_55 rfl 1 rfl ?_
      refine g_cV_I hX (n := 0) (As := []) (wc := wTx T t c k v u) (w1 := wTx T t c k v u) (rv := (F_X0_isComplete u)) (st := []) 0 rfl rfl (c_X0_isComplete (xL X) T (xB X) t c k v u) gX0_read_X0_isComplete rfl rfl rfl ⟨Nat.le_of_ble_eq_true rfl, Nat.le_of_ble_eq_true rfl⟩ ⟨Nat.zero_le _, Nat.zero_le _⟩ ⟨by decide +kernel, by decide +kernel, by decide +kernel⟩ rfl [0, 1, 2, 3] rfl rfl (by decide) rfl (Nat.le_of_ble_eq_true rfl) dX0_read_56 (ws' := wTx T t c k v u) rfl ?_
      refine g_if_ne hX 67 dX0_read_59 (by decide) (fun c_59 => ?_) (fun c_59 => ?_)
      · skip
        refine g_aload_n hX dX0_read_67 rfl 1 rfl ?_
        obtain ⟨z_68, hz_68⟩ : ∃ z : TV, z = F_X0_addCommand u := ⟨_, rfl⟩
        refine g_cV_V hX (n := 0) (As := []) (wc := wTx T t c k v u) (w1 := wTx T t c k v z_68) (st := []) 0 rfl rfl (by rw [hz_68]; exact (c_X0_addCommand (xL X) T (xB X) t c k v u)) gX0_read_X0_addCommand rfl rfl rfl ⟨Nat.le_of_ble_eq_true rfl, Nat.le_of_ble_eq_true rfl⟩ ⟨Nat.zero_le _, Nat.zero_le _⟩ ⟨by decide +kernel, by decide +kernel, by decide +kernel⟩ rfl [0, 1, 2, 3] rfl rfl (by decide) rfl (Nat.le_of_ble_eq_true rfl) dX0_read_68 (ws' := wTx T t c k v z_68) rfl ?_
        refine g_iconst hX (v := (-1)) dX0_read_71 (by decide) ?_
        have e9 : K_X0_read_17 (n + 1) u j = ((-1), z_68) := by simp only [K_X0_read_17, ← hz_68, eq_true c_22, eq_false c_59, if_true, if_false]
        rw [e9]
        exact g_iret hX dX0_read_72 rfl rfl
      · skip
        refine g_aload_n hX dX0_read_62 rfl 1 rfl ?_
        refine g_get hX 0 h_X0_read_X0 0 rfl rfl 3 (by decide) k_X0_read_3 rfl (v := .int (u.1 0)) rfl dX0_read_63 ?_
        have e9 : K_X0_read_17 (n + 1) u j = ((u.1 0), u) := by simp only [K_X0_read_17, eq_true c_22, eq_true c_59, if_true, if_false]
        rw [e9]
        exact g_iret hX dX0_read_66 rfl rfl
    · skip
      refine g_iload_n hX dX0_read_25 rfl 0 rfl ?_
      refine g_aload_n hX dX0_read_26 rfl 1 rfl ?_
      refine g_get hX 0 h_X0_read_X0 0 rfl rfl 0 (by decide) k_X0_read_4 rfl (v := .ref c) rfl dX0_read_27 ?_
      refine g_alen hX 1 1 rfl rfl (v := 60) rfl dX0_read_30 ?_
      refine g_icmp_ge hX 55 dX0_read_31 (by decide) (fun c_31 => ?_) (fun c_31 => ?_)
      · skip
        refine g_aload_n hX dX0_read_55 rfl 1 rfl ?_
        refine g_cV_I hX (n := 0) (As := []) (wc := wTx T t c k v u) (w1 := wTx T t c k v u) (rv := (F_X0_isComplete u)) (st := []) 0 rfl rfl (c_X0_isComplete (xL X) T (xB X) t c k v u) gX0_read_X0_isComplete rfl rfl rfl ⟨Nat.le_of_ble_eq_true rfl, Nat.le_of_ble_eq_true rfl⟩ ⟨Nat.zero_le _, Nat.zero_le _⟩ ⟨by decide +kernel, by decide +kernel, by decide +kernel⟩ rfl [0, 1, 2, 3] rfl rfl (by decide) rfl (Nat.le_of_ble_eq_true rfl) dX0_read_56 (ws' := wTx T t c k v u) rfl ?_
        refine g_if_ne hX 67 dX0_read_59 (by decide) (fun c_59 => ?_) (fun c_59 => ?_)
        · skip
          refine g_aload_n hX dX0_read_67 rfl 1 rfl ?_
          obtain ⟨z_68, hz_68⟩ : ∃ z : TV, z = F_X0_addCommand u := ⟨_, rfl⟩
          refine g_cV_V hX (n := 0) (As := []) (wc := wTx T t c k v u) (w1 := wTx T t c k v z_68) (st := []) 0 rfl rfl (by rw [hz_68]; exact (c_X0_addCommand (xL X) T (xB X) t c k v u)) gX0_read_X0_addCommand rfl rfl rfl ⟨Nat.le_of_ble_eq_true rfl, Nat.le_of_ble_eq_true rfl⟩ ⟨Nat.zero_le _, Nat.zero_le _⟩ ⟨by decide +kernel, by decide +kernel, by decide +kernel⟩ rfl [0, 1, 2, 3] rfl rfl (by decide) rfl (Nat.le_of_ble_eq_true rfl) dX0_read_68 (ws' := wTx T t c k v z_68) rfl ?_
          refine g_iconst hX (v := (-1)) dX0_read_71 (by decide) ?_
          have e9 : K_X0_read_17 (n + 1) u j = ((-1), z_68) := by simp only [K_X0_read_17, ← hz_68, eq_false c_22, eq_true c_31, eq_false c_59, if_true, if_false]
          rw [e9]
          exact g_iret hX dX0_read_72 rfl rfl
        · skip
          refine g_aload_n hX dX0_read_62 rfl 1 rfl ?_
          refine g_get hX 0 h_X0_read_X0 0 rfl rfl 3 (by decide) k_X0_read_3 rfl (v := .int (u.1 0)) rfl dX0_read_63 ?_
          have e9 : K_X0_read_17 (n + 1) u j = ((u.1 0), u) := by simp only [K_X0_read_17, eq_false c_22, eq_true c_31, eq_true c_59, if_true, if_false]
          rw [e9]
          exact g_iret hX dX0_read_66 rfl rfl
      · skip
        have hlt_31 : j < 60 := nlt_of c_31 (by decide) (by omega)
        refine g_aload_n hX dX0_read_34 rfl 1 rfl ?_
        refine g_aload_n hX dX0_read_35 rfl 1 rfl ?_
        refine g_get hX 0 h_X0_read_X0 0 rfl rfl 0 (by decide) k_X0_read_4 rfl (v := .ref c) rfl dX0_read_36 ?_
        refine g_iload_n hX dX0_read_39 rfl 0 rfl ?_
        refine g_cald hX 1 rfl (vp_in_nI (by omega) (by omega)) (v := (u.2.1 j)) (congrArg _ (nI_clamp (by omega))) dX0_read_40 ?_
        obtain ⟨z_41, hz_41⟩ : ∃ z : Int32 × TV, z = F_X0_takes u (u.2.1 j) := ⟨_, rfl⟩
        refine g_cV_I hX (n := 1) (As := [.int (u.2.1 j)]) (wc := wTx T t c k v u) (w1 := wTx T t c k v z_41.2) (rv := z_41.1) (st := []) 0 rfl rfl (by rw [hz_41]; exact (c_X0_takes (xL X) T (xB X) t c k v u (u.2.1 j))) gX0_read_X0_takes rfl rfl rfl ⟨Nat.le_of_ble_eq_true rfl, Nat.le_of_ble_eq_true rfl⟩ ⟨Nat.zero_le _, Nat.zero_le _⟩ ⟨by decide +kernel, by decide +kernel, by decide +kernel⟩ rfl [0, 1, 2, 3] rfl rfl (by decide) rfl (Nat.le_of_ble_eq_true rfl) dX0_read_41 (ws' := wTx T t c k v z_41.2) rfl ?_
        refine g_if_ne hX 49 dX0_read_44 (by decide) (fun c_44 => ?_) (fun c_44 => ?_)
        · skip
          refine g_iinc hX (lv' := [(1, .int (nI (j + 1))), (0, .ref t)]) (v := (nI (j + 1))) 0 dX0_read_49 rfl (nI_1 _) (by decide) rfl ?_
          refine g_goto hX 17 dX0_read_52 (by decide) ?_
          have e9 : K_X0_read_17 (n + 1) u j = K_X0_read_17 n z_41.2 (j + 1) := by simp only [K_X0_read_17, ← hz_41, eq_false c_22, eq_false c_31, eq_false c_44, if_true, if_false]
          rw [e9]
          refine g_lv (lv' := [(1, .int (nI (j + 1))), (0, .ref t)]) [0, 1] rfl ?_
          exact ih z_41.2 (j + 1) (by omega) (by omega)
        · skip
          refine g_iload_n hX dX0_read_47 rfl 0 rfl ?_
          have e9 : K_X0_read_17 (n + 1) u j = ((nI j), z_41.2) := by simp only [K_X0_read_17, ← hz_41, eq_false c_22, eq_false c_31, eq_true c_44, if_true, if_false]
          rw [e9]
          exact g_iret hX dX0_read_48 rfl rfl
set_option maxHeartbeats 4000000 in
set_option maxRecDepth 100000 in
theorem c_X0_read (l : Launch) (T : TT) (b0 : Nat) (t c k v : Nat) (u : TV)  : ConI l T b0 yX0_read wsX0_read rmX0_read [.ref t] (wTx T t c k v u) ((F_X0_read u).1) (wTx T t c k v ((F_X0_read u).2)) := by
  refine conI_of (cc := cX0_read) (maxL := 2) (ret := (some .int)) (lv0 := [(0, .ref t)]) (by decide +kernel) rfl (Nat.le_of_ble_eq_true rfl) rfl (fun X hX => ?_)
  refine g_aload_n hX dX0_read_0 rfl 0 rfl ?_
  refine g_iconst hX (v := 0) dX0_read_1 (by decide) ?_
  refine g_put hX 0 h_X0_read_X0 0 rfl rfl 4 (by decide) tyX0 tyX0_ok nmX0 k_X0_read_0 rfl rfl rfl rfl rfl (Nat.le_of_ble_eq_true rfl) dX0_read_2 (ws' := wTx T t c k v (upd u.1 1 0, u.2.1, u.2.2.1, u.2.2.2)) rfl ?_
  refine g_aload_n hX dX0_read_5 rfl 0 rfl ?_
  refine g_iconst hX (v := (-1)) dX0_read_6 (by decide) ?_
  refine g_put hX 0 h_X0_read_X0 0 rfl rfl 5 (by decide) tyX0 tyX0_ok nmX0 k_X0_read_1 rfl rfl rfl rfl rfl (Nat.le_of_ble_eq_true rfl) dX0_read_7 (ws' := wTx T t c k v (upd (upd u.1 1 0) 2 (-1), u.2.1, u.2.2.1, u.2.2.2)) rfl ?_
  refine g_aload_n hX dX0_read_10 rfl 0 rfl ?_
  refine g_iconst hX (v := (-1)) dX0_read_11 (by decide) ?_
  refine g_put hX 0 h_X0_read_X0 0 rfl rfl 6 (by decide) tyX0 tyX0_ok nmX0 k_X0_read_2 rfl rfl rfl rfl rfl (Nat.le_of_ble_eq_true rfl) dX0_read_12 (ws' := wTx T t c k v (upd (upd (upd u.1 1 0) 2 (-1)) 3 (-1), u.2.1, u.2.2.1, u.2.2.2)) rfl ?_
  refine g_iconst hX (v := 0) dX0_read_15 (by decide) ?_
  refine g_istore_n hX (lv' := [(1, .int 0), (0, .ref t)]) dX0_read_16 rfl (by decide) rfl ?_
  have e9 : F_X0_read u = K_X0_read_17 61 (upd (upd (upd u.1 1 0) 2 (-1)) 3 (-1), u.2.1, u.2.2.1, u.2.2.2) 0 := by simp only [F_X0_read, if_true, if_false]
  rw [e9]
  refine g_lv (lv' := [(1, .int (nI 0)), (0, .ref t)]) [0, 1] rfl ?_
  exact k_X0_read_17 hX t c k v 61 (upd (upd (upd u.1 1 0) 2 (-1)) 3 (-1), u.2.1, u.2.2.1, u.2.2.2) 0 (by omega) (by omega)
