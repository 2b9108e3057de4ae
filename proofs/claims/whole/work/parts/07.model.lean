def F_X5_copy (A B : Nat → Int32) : Nat → Int32 := A
def rmX5_copy : Room := { frames := 0, cells := 0, slots := 0, locals := 0 }
set_option maxHeartbeats 4000000 in
set_option maxRecDepth 100000 in
theorem k_X5_copy_loop {T : TT} {X : CX} (hX : Fit T X (yX5_copy).cls 3 wsX5_copy cX5_copy none rmX5_copy) (s1 s2 : Nat) (A : Nat → Int32) : ∀ (n : Nat) (B : Nat → Int32) (j : Nat) (hn : j + n = 38) (hj : j ≤ 37) (hB : ∀ i, i < j → B i = A i), G T X (QV T X 0 0 (wAr T s1 37 A ++ wAr T s2 37 A)) 0 0 (wAr T s1 37 A ++ wAr T s2 37 B) [(2, .int (nI j)), (0, .ref s1), (1, .ref s2)] 2 [] := by
  intro n
  induction n with
  | zero =>
    intro B j hn hj hB
    exact absurd hn (by omega)
  | succ n ih =>
    intro B j hn hj hB
    refine g_iload_n hX dX5_copy_2 rfl 0 rfl ?_
    refine g_bipush hX (v := 37) dX5_copy_3 (by decide) ?_
    refine g_icmp_ge hX 20 dX5_copy_5 (by decide) (fun c_5 => ?_) (fun c_5 => ?_)
    · have hjN : ¬ j < 37 := fun q => absurd (show nI 37 ≤ nI j from c_5) (nI_ge q (by omega))
      refine g_same 1 A rfl (fun i hi => hB i (by omega)) (ws' := wAr T s1 37 A ++ wAr T s2 37 A) rfl ?_
      exact g_vret hX dX5_copy_20 rfl
    · have hjN : j < 37 := nlt_of c_5 (by decide) (by omega)
      refine g_aload_n hX dX5_copy_8 rfl 2 rfl ?_
      refine g_iload_n hX dX5_copy_9 rfl 0 rfl ?_
      refine g_aload_n hX dX5_copy_10 rfl 1 rfl ?_
      refine g_iload_n hX dX5_copy_11 rfl 0 rfl ?_
      refine g_iald hX 0 rfl (vp_in_nI hjN (by omega)) (v := A j) (congrArg _ (nI_clamp (by omega))) dX5_copy_12 ?_
      refine g_iast hX 1 rfl (vp_in_nI hjN (by omega)) dX5_copy_13 (ws' := wAr T s1 37 A ++ wAr T s2 37 (upd B j (A j))) (by rw [show Int32.toNatClampNeg (nI j) = j from nI_clamp (by omega)] <;> rfl) ?_
      refine g_iinc hX (lv' := [(2, .int (nI (j + 1))), (0, .ref s1), (1, .ref s2)]) (v := (nI (j + 1))) 0 dX5_copy_14 rfl (nI_1 _) (by decide) rfl ?_
      refine g_goto hX 2 dX5_copy_17 (by decide) ?_
      refine ih (upd B j (A j)) (j + 1) (by omega) (by omega) (fun i hi => ?_)
      by_cases hij : i = j
      · simp [upd, hij]
      · simp only [upd, if_neg hij]
        exact hB i (by omega)
set_option maxHeartbeats 4000000 in
set_option maxRecDepth 100000 in
theorem c_X5_copy (l : Launch) (T : TT) (b0 : Nat) (s1 s2 : Nat) (A B : Nat → Int32) : ConV l T b0 yX5_copy wsX5_copy rmX5_copy [.ref s1, .ref s2] (wAr T s1 37 A ++ wAr T s2 37 B) (wAr T s1 37 A ++ wAr T s2 37 (F_X5_copy A B)) := by
  refine conV_of (cc := cX5_copy) (maxL := 3) (ret := none) (lv0 := [(0, .ref s1), (1, .ref s2)]) (by decide +kernel) rfl (Nat.le_of_ble_eq_true rfl) rfl (fun X hX => ?_)
  refine g_iconst hX (v := 0) dX5_copy_0 (by decide) ?_
  refine g_istore_n hX (lv' := [(2, .int 0), (0, .ref s1), (1, .ref s2)]) dX5_copy_1 rfl (by decide) rfl ?_
  refine g_lv (lv' := [(2, .int (nI 0)), (0, .ref s1), (1, .ref s2)]) [0, 1, 2] rfl ?_
  exact k_X5_copy_loop hX s1 s2 A 38 B 0 (by omega) (by omega) (fun i hi => absurd hi (by omega))
/-! X5_in -/
def rmX5_in : Room := { frames := 0, cells := 0, slots := 0, locals := 0 }
def F_X5_in (p1 : Int64) (p2 : Int64) (p3 : Int64) : Int32 :=
  (if (lg_cmp p1 p2) < 0 then 0 else (if 0 < (lg_cmp p1 p3) then 0 else 1))
set_option maxHeartbeats 4000000 in
set_option maxRecDepth 100000 in
theorem c_X5_in (l : Launch) (T : TT) (b0 : Nat) (p1 : Int64) (p2 : Int64) (p3 : Int64)  : ConI l T b0 yX5_in wsX5_in rmX5_in [.long p1, .long p2, .long p3] ([]) (F_X5_in p1 p2 p3) ([]) := by
  refine conI_of (cc := cX5_in) (maxL := 6) (ret := (some .boolean)) (lv0 := [(0, .long p1), (2, .long p2), (4, .long p3)]) (by decide +kernel) rfl (Nat.le_of_ble_eq_true rfl) rfl (fun X hX => ?_)
  refine g_lload_n hX dX5_in_0 rfl 0 rfl ?_
  refine g_lload_n hX dX5_in_1 rfl 1 rfl ?_
  refine g_lcmp hX dX5_in_2 ?_
  refine g_if_lt hX 17 dX5_in_3 (by decide) (fun c_3 => ?_) (fun c_3 => ?_)
  · skip
    refine g_iconst hX (v := 0) dX5_in_17 (by decide) ?_
    have e9 : F_X5_in p1 p2 p3 = 0 := by simp only [F_X5_in, eq_true c_3, if_true, if_false]
    rw [e9]
    exact g_zret hX dX5_in_18 rfl rfl rfl
  · skip
    refine g_lload_n hX dX5_in_6 rfl 0 rfl ?_
    refine g_lload hX dX5_in_7 2 rfl ?_
    refine g_lcmp hX dX5_in_9 ?_
    refine g_if_gt hX 17 dX5_in_10 (by decide) (fun c_10 => ?_) (fun c_10 => ?_)
    · skip
      refine g_iconst hX (v := 0) dX5_in_17 (by decide) ?_
      have e9 : F_X5_in p1 p2 p3 = 0 := by simp only [F_X5_in, eq_false c_3, eq_true c_10, if_true, if_false]
      rw [e9]
      exact g_zret hX dX5_in_18 rfl rfl rfl
    · skip
      refine g_iconst hX (v := 1) dX5_in_13 (by decide) ?_
      refine g_goto hX 18 dX5_in_14 (by decide) ?_
      have e9 : F_X5_in p1 p2 p3 = 1 := by simp only [F_X5_in, eq_false c_3, eq_false c_10, if_true, if_false]
      rw [e9]
      exact g_zret hX dX5_in_18 rfl rfl rfl
theorem in_b (p1 p2 p3 : Int64) : F_X5_in p1 p2 p3 = 0 ∨ F_X5_in p1 p2 p3 = 1 := by
  unfold F_X5_in
  split
  · exact Or.inl rfl
  · split
    · exact Or.inl rfl
    · exact Or.inr rfl
/-! X5_placeOn -/
def rmX5_placeOn : Room := { frames := 0, cells := 0, slots := 0, locals := 0 }
def F_X5_placeOn (p1 : Int32) : Int32 :=
  (if 11 < p1 then (22 - p1) else p1)
set_option maxHeartbeats 4000000 in
set_option maxRecDepth 100000 in
theorem c_X5_placeOn (l : Launch) (T : TT) (b0 : Nat) (p1 : Int32)  : ConI l T b0 yX5_placeOn wsX5_placeOn rmX5_placeOn [.int p1] ([]) (F_X5_placeOn p1) ([]) := by
  refine conI_of (cc := cX5_placeOn) (maxL := 1) (ret := (some .int)) (lv0 := [(0, .int p1)]) (by decide +kernel) rfl (Nat.le_of_ble_eq_true rfl) rfl (fun X hX => ?_)
  refine g_iload_n hX dX5_placeOn_0 rfl 0 rfl ?_
  refine g_bipush hX (v := 11) dX5_placeOn_1 (by decide) ?_
  refine g_icmp_gt hX 10 dX5_placeOn_3 (by decide) (fun c_3 => ?_) (fun c_3 => ?_)
  · skip
    refine g_bipush hX (v := 22) dX5_placeOn_10 (by decide) ?_
    refine g_iload_n hX dX5_placeOn_12 rfl 0 rfl ?_
    refine g_isub hX dX5_placeOn_13 ?_
    have e9 : F_X5_placeOn p1 = (22 - p1) := by simp only [F_X5_placeOn, eq_true c_3, if_true, if_false]
    rw [e9]
    exact g_iret hX dX5_placeOn_14 rfl rfl
  · skip
    refine g_iload_n hX dX5_placeOn_6 rfl 0 rfl ?_
    refine g_goto hX 14 dX5_placeOn_7 (by decide) ?_
    have e9 : F_X5_placeOn p1 = p1 := by simp only [F_X5_placeOn, eq_false c_3, if_true, if_false]
    rw [e9]
    exact g_iret hX dX5_placeOn_14 rfl rfl
/-! X5_isNumber -/
def rmX5_isNumber : Room := { frames := 1, cells := 0, slots := 0, locals := 25 }
theorem k_X5_isNumber_0 : Cond.constantLong RX5 61 (11) ∈ wsX5_isNumber := List.mem_of_getElem? (i := 1) rfl
theorem k_X5_isNumber_1 : Cond.constantLong RX5 67 (9) ∈ wsX5_isNumber := List.mem_of_getElem? (i := 2) rfl
theorem k_X5_isNumber_2 : Cond.constantLong RX5 69 (5) ∈ wsX5_isNumber := List.mem_of_getElem? (i := 3) rfl
theorem k_X5_isNumber_3 : Cond.constantLong RX5 71 (50) ∈ wsX5_isNumber := List.mem_of_getElem? (i := 4) rfl
theorem k_X5_isNumber_4 : Cond.constantLong RX5 73 (10) ∈ wsX5_isNumber := List.mem_of_getElem? (i := 5) rfl
theorem k_X5_isNumber_5 : Cond.constantLong RX5 75 (99) ∈ wsX5_isNumber := List.mem_of_getElem? (i := 6) rfl
def F_X5_isNumber (p1 : Int32) (p2 : Int32) : Int32 :=
  (if p1 = 0 then (F_X5_in (Int32.toInt64 p2) 1 11) else (if p1 = 1 then (F_X5_in (Int32.toInt64 p2) 0 9) else (if p1 = 2 then (F_X5_in (Int32.toInt64 p2) 0 5) else (if p1 = 3 then (F_X5_in (Int32.toInt64 p2) 5 50) else (F_X5_in (Int32.toInt64 p2) 10 99)))))
set_option maxHeartbeats 4000000 in
set_option maxRecDepth 100000 in
theorem c_X5_isNumber (l : Launch) (T : TT) (b0 : Nat) (p1 : Int32) (p2 : Int32)  : ConI l T b0 yX5_isNumber wsX5_isNumber rmX5_isNumber [.int p1, .int p2] ([]) (F_X5_isNumber p1 p2) ([]) := by
  refine conI_of (cc := cX5_isNumber) (maxL := 2) (ret := (some .boolean)) (lv0 := [(0, .int p1), (1, .int p2)]) (by decide +kernel) rfl (Nat.le_of_ble_eq_true rfl) rfl (fun X hX => ?_)
  refine g_iload_n hX dX5_isNumber_0 rfl 0 rfl ?_
  by_cases c_1_0 : p1 = 0
  · skip
    refine g_tabIn hX (off := 31) 32 dX5_isNumber_1 (by rw [c_1_0]; decide) (by rw [c_1_0]; decide) (by rw [c_1_0]; decide) (by decide) ?_
    refine g_iload_n hX dX5_isNumber_32 rfl 1 rfl ?_
    refine g_i2l hX dX5_isNumber_33 rfl ?_
    refine g_lconst hX (v := 1) dX5_isNumber_34 (by decide) ?_
    refine g_ldc2 hX (v := 11) k_X5_isNumber_0 dX5_isNumber_35 ?_
    refine g_cS_I hX (n := 3) (As := [.long (Int32.toInt64 p2), .long 1, .long 11]) (wc := []) (w1 := []) (rv := (F_X5_in (Int32.toInt64 p2) 1 11)) (st := []) (c_X5_in (xL X) T (xB X) (Int32.toInt64 p2) 1 11) gX5_isNumber_X5_in rfl rfl rfl ⟨Nat.le_of_ble_eq_true rfl, Nat.le_of_ble_eq_true rfl⟩ ⟨Nat.zero_le _, Nat.zero_le _⟩ ⟨by decide +kernel, by decide +kernel, by decide +kernel⟩ rfl [] rfl rfl (by decide) rfl (Nat.le_of_ble_eq_true rfl) dX5_isNumber_38 (ws' := []) rfl ?_
    have e9 : F_X5_isNumber p1 p2 = (F_X5_in (Int32.toInt64 p2) 1 11) := by simp only [F_X5_isNumber, eq_true c_1_0, if_true, if_false]
    rw [e9]
    exact g_zret hX dX5_isNumber_41 (narrow_b (in_b _ _ _)) rfl rfl
  · skip
    by_cases c_1_1 : p1 = 1
    · skip
      refine g_tabIn hX (off := 41) 42 dX5_isNumber_1 (by rw [c_1_1]; decide) (by rw [c_1_1]; decide) (by rw [c_1_1]; decide) (by decide) ?_
      refine g_iload_n hX dX5_isNumber_42 rfl 1 rfl ?_
      refine g_i2l hX dX5_isNumber_43 rfl ?_
      refine g_lconst hX (v := 0) dX5_isNumber_44 (by decide) ?_
      refine g_ldc2 hX (v := 9) k_X5_isNumber_1 dX5_isNumber_45 ?_
      refine g_cS_I hX (n := 3) (As := [.long (Int32.toInt64 p2), .long 0, .long 9]) (wc := []) (w1 := []) (rv := (F_X5_in (Int32.toInt64 p2) 0 9)) (st := []) (c_X5_in (xL X) T (xB X) (Int32.toInt64 p2) 0 9) gX5_isNumber_X5_in rfl rfl rfl ⟨Nat.le_of_ble_eq_true rfl, Nat.le_of_ble_eq_true rfl⟩ ⟨Nat.zero_le _, Nat.zero_le _⟩ ⟨by decide +kernel, by decide +kernel, by decide +kernel⟩ rfl [] rfl rfl (by decide) rfl (Nat.le_of_ble_eq_true rfl) dX5_isNumber_48 (ws' := []) rfl ?_
      have e9 : F_X5_isNumber p1 p2 = (F_X5_in (Int32.toInt64 p2) 0 9) := by simp only [F_X5_isNumber, eq_false c_1_0, eq_true c_1_1, if_true, if_false]
      rw [e9]
      exact g_zret hX dX5_isNumber_51 (narrow_b (in_b _ _ _)) rfl rfl
    · skip
      by_cases c_1_2 : p1 = 2
      · skip
        refine g_tabIn hX (off := 51) 52 dX5_isNumber_1 (by rw [c_1_2]; decide) (by rw [c_1_2]; decide) (by rw [c_1_2]; decide) (by decide) ?_
        refine g_iload_n hX dX5_isNumber_52 rfl 1 rfl ?_
        refine g_i2l hX dX5_isNumber_53 rfl ?_
        refine g_lconst hX (v := 0) dX5_isNumber_54 (by decide) ?_
        refine g_ldc2 hX (v := 5) k_X5_isNumber_2 dX5_isNumber_55 ?_
        refine g_cS_I hX (n := 3) (As := [.long (Int32.toInt64 p2), .long 0, .long 5]) (wc := []) (w1 := []) (rv := (F_X5_in (Int32.toInt64 p2) 0 5)) (st := []) (c_X5_in (xL X) T (xB X) (Int32.toInt64 p2) 0 5) gX5_isNumber_X5_in rfl rfl rfl ⟨Nat.le_of_ble_eq_true rfl, Nat.le_of_ble_eq_true rfl⟩ ⟨Nat.zero_le _, Nat.zero_le _⟩ ⟨by decide +kernel, by decide +kernel, by decide +kernel⟩ rfl [] rfl rfl (by decide) rfl (Nat.le_of_ble_eq_true rfl) dX5_isNumber_58 (ws' := []) rfl ?_
        have e9 : F_X5_isNumber p1 p2 = (F_X5_in (Int32.toInt64 p2) 0 5) := by simp only [F_X5_isNumber, eq_false c_1_0, eq_false c_1_1, eq_true c_1_2, if_true, if_false]
        rw [e9]
        exact g_zret hX dX5_isNumber_61 (narrow_b (in_b _ _ _)) rfl rfl
      · skip
        by_cases c_1_3 : p1 = 3
        · skip
          refine g_tabIn hX (off := 61) 62 dX5_isNumber_1 (by rw [c_1_3]; decide) (by rw [c_1_3]; decide) (by rw [c_1_3]; decide) (by decide) ?_
          refine g_iload_n hX dX5_isNumber_62 rfl 1 rfl ?_
          refine g_i2l hX dX5_isNumber_63 rfl ?_
          refine g_ldc2 hX (v := 5) k_X5_isNumber_2 dX5_isNumber_64 ?_
          refine g_ldc2 hX (v := 50) k_X5_isNumber_3 dX5_isNumber_67 ?_
          refine g_cS_I hX (n := 3) (As := [.long (Int32.toInt64 p2), .long 5, .long 50]) (wc := []) (w1 := []) (rv := (F_X5_in (Int32.toInt64 p2) 5 50)) (st := []) (c_X5_in (xL X) T (xB X) (Int32.toInt64 p2) 5 50) gX5_isNumber_X5_in rfl rfl rfl ⟨Nat.le_of_ble_eq_true rfl, Nat.le_of_ble_eq_true rfl⟩ ⟨Nat.zero_le _, Nat.zero_le _⟩ ⟨by decide +kernel, by decide +kernel, by decide +kernel⟩ rfl [] rfl rfl (by decide) rfl (Nat.le_of_ble_eq_true rfl) dX5_isNumber_70 (ws' := []) rfl ?_
          have e9 : F_X5_isNumber p1 p2 = (F_X5_in (Int32.toInt64 p2) 5 50) := by simp only [F_X5_isNumber, eq_false c_1_0, eq_false c_1_1, eq_false c_1_2, eq_true c_1_3, if_true, if_false]
          rw [e9]
          exact g_zret hX dX5_isNumber_73 (narrow_b (in_b _ _ _)) rfl rfl
        · skip
          have tc_1_0 : ¬ Int32.toInt p1 = 0 := lv_neT c_1_0 (by decide)
          have tc_1_1 : ¬ Int32.toInt p1 = 1 := lv_neT c_1_1 (by decide)
          have tc_1_2 : ¬ Int32.toInt p1 = 2 := lv_neT c_1_2 (by decide)
          have tc_1_3 : ¬ Int32.toInt p1 = 3 := lv_neT c_1_3 (by decide)
          refine g_tabOut hX 74 dX5_isNumber_1 (by omega) (by decide) ?_
          refine g_iload_n hX dX5_isNumber_74 rfl 1 rfl ?_
          refine g_i2l hX dX5_isNumber_75 rfl ?_
          refine g_ldc2 hX (v := 10) k_X5_isNumber_4 dX5_isNumber_76 ?_
          refine g_ldc2 hX (v := 99) k_X5_isNumber_5 dX5_isNumber_79 ?_
          refine g_cS_I hX (n := 3) (As := [.long (Int32.toInt64 p2), .long 10, .long 99]) (wc := []) (w1 := []) (rv := (F_X5_in (Int32.toInt64 p2) 10 99)) (st := []) (c_X5_in (xL X) T (xB X) (Int32.toInt64 p2) 10 99) gX5_isNumber_X5_in rfl rfl rfl ⟨Nat.le_of_ble_eq_true rfl, Nat.le_of_ble_eq_true rfl⟩ ⟨Nat.zero_le _, Nat.zero_le _⟩ ⟨by decide +kernel, by decide +kernel, by decide +kernel⟩ rfl [] rfl rfl (by decide) rfl (Nat.le_of_ble_eq_true rfl) dX5_isNumber_82 (ws' := []) rfl ?_
          have e9 : F_X5_isNumber p1 p2 = (F_X5_in (Int32.toInt64 p2) 10 99) := by simp only [F_X5_isNumber, eq_false c_1_0, eq_false c_1_1, eq_false c_1_2, eq_false c_1_3, if_true, if_false]
          rw [e9]
          exact g_zret hX dX5_isNumber_85 (narrow_b (in_b _ _ _)) rfl rfl
/-! X5_whichOf -/
def rmX5_whichOf : Room := { frames := 0, cells := 0, slots := 0, locals := 0 }
def F_X5_whichOf (p1 : Int32) : Int32 :=
  (if p1 = 116 then 0 else (if p1 = 100 then 1 else (if p1 = 119 then 2 else (if p1 = 107 then 3 else (if p1 = 115 then 4 else (-5))))))
set_option maxHeartbeats 4000000 in
set_option maxRecDepth 100000 in
theorem c_X5_whichOf (l : Launch) (T : TT) (b0 : Nat) (p1 : Int32)  : ConI l T b0 yX5_whichOf wsX5_whichOf rmX5_whichOf [.int p1] ([]) (F_X5_whichOf p1) ([]) := by
  refine conI_of (cc := cX5_whichOf) (maxL := 1) (ret := (some .int)) (lv0 := [(0, .int p1)]) (by decide +kernel) rfl (Nat.le_of_ble_eq_true rfl) rfl (fun X hX => ?_)
  refine g_iload_n hX dX5_whichOf_0 rfl 0 rfl ?_
  refine g_bipush hX (v := 116) dX5_whichOf_1 (by decide) ?_
  refine g_icmp_ne hX 10 dX5_whichOf_3 (by decide) (fun c_3 => ?_) (fun c_3 => ?_)
  · skip
    refine g_iload_n hX dX5_whichOf_10 rfl 0 rfl ?_
    refine g_bipush hX (v := 100) dX5_whichOf_11 (by decide) ?_
    refine g_icmp_ne hX 20 dX5_whichOf_13 (by decide) (fun c_13 => ?_) (fun c_13 => ?_)
    · skip
      refine g_iload_n hX dX5_whichOf_20 rfl 0 rfl ?_
      refine g_bipush hX (v := 119) dX5_whichOf_21 (by decide) ?_
      refine g_icmp_ne hX 30 dX5_whichOf_23 (by decide) (fun c_23 => ?_) (fun c_23 => ?_)
      · skip
        refine g_iload_n hX dX5_whichOf_30 rfl 0 rfl ?_
        refine g_bipush hX (v := 107) dX5_whichOf_31 (by decide) ?_
        refine g_icmp_ne hX 40 dX5_whichOf_33 (by decide) (fun c_33 => ?_) (fun c_33 => ?_)
        · skip
          refine g_iload_n hX dX5_whichOf_40 rfl 0 rfl ?_
          refine g_bipush hX (v := 115) dX5_whichOf_41 (by decide) ?_
          refine g_icmp_ne hX 50 dX5_whichOf_43 (by decide) (fun c_43 => ?_) (fun c_43 => ?_)
          · skip
            refine g_bipush hX (v := (-5)) dX5_whichOf_50 (by decide) ?_
            have e9 : F_X5_whichOf p1 = (-5) := by simp only [F_X5_whichOf, eq_false c_3, eq_false c_13, eq_false c_23, eq_false c_33, eq_false c_43, if_true, if_false]
            rw [e9]
            exact g_iret hX dX5_whichOf_52 rfl rfl
          · skip
            refine g_iconst hX (v := 4) dX5_whichOf_46 (by decide) ?_
            refine g_goto hX 52 dX5_whichOf_47 (by decide) ?_
            have e9 : F_X5_whichOf p1 = 4 := by simp only [F_X5_whichOf, eq_false c_3, eq_false c_13, eq_false c_23, eq_false c_33, eq_true c_43, if_true, if_false]
            rw [e9]
            exact g_iret hX dX5_whichOf_52 rfl rfl
        · skip
          refine g_iconst hX (v := 3) dX5_whichOf_36 (by decide) ?_
          refine g_goto hX 52 dX5_whichOf_37 (by decide) ?_
          have e9 : F_X5_whichOf p1 = 3 := by simp only [F_X5_whichOf, eq_false c_3, eq_false c_13, eq_false c_23, eq_true c_33, if_true, if_false]
          rw [e9]
          exact g_iret hX dX5_whichOf_52 rfl rfl
      · skip
        refine g_iconst hX (v := 2) dX5_whichOf_26 (by decide) ?_
        refine g_goto hX 52 dX5_whichOf_27 (by decide) ?_
        have e9 : F_X5_whichOf p1 = 2 := by simp only [F_X5_whichOf, eq_false c_3, eq_false c_13, eq_true c_23, if_true, if_false]
        rw [e9]
        exact g_iret hX dX5_whichOf_52 rfl rfl
    · skip
      refine g_iconst hX (v := 1) dX5_whichOf_16 (by decide) ?_
      refine g_goto hX 52 dX5_whichOf_17 (by decide) ?_
      have e9 : F_X5_whichOf p1 = 1 := by simp only [F_X5_whichOf, eq_false c_3, eq_true c_13, if_true, if_false]
      rw [e9]
      exact g_iret hX dX5_whichOf_52 rfl rfl
  · skip
    refine g_iconst hX (v := 0) dX5_whichOf_6 (by decide) ?_
    refine g_goto hX 52 dX5_whichOf_7 (by decide) ?_
    have e9 : F_X5_whichOf p1 = 0 := by simp only [F_X5_whichOf, eq_true c_3, if_true, if_false]
    rw [e9]
    exact g_iret hX dX5_whichOf_52 rfl rfl
/-! X5_breaks -/
def rmX5_breaks : Room := { frames := 0, cells := 0, slots := 0, locals := 0 }
theorem k_X5_breaks_0 : Cond.fieldLink RX5 7 RX5 (TX5 0).2.1 (TX5 0).2.2.1 ∈ wsX5_breaks := List.mem_of_getElem? (i := 1) rfl
theorem h_X5_breaks_X5 : ∀ w ∈ u_ws RX5 TX5 12, w ∈ wsX5_breaks := fun w h => List.mem_cons_of_mem _ (List.mem_append_right _ h)
theorem k_X5_breaks_1 : Cond.constant RX5 39 (1048576) ∈ wsX5_breaks := List.mem_of_getElem? (i := 2) rfl
def F_X5_breaks (a : (Nat → Int32)) : Int32 :=
  ((a 36) - (a 36) / 1048576 * 1048576)
set_option maxHeartbeats 4000000 in
set_option maxRecDepth 100000 in
theorem c_X5_breaks (l : Launch) (T : TT) (b0 : Nat) (x al : Nat) (rs : List Value) (a : (Nat → Int32))  : ConI l T b0 yX5_breaks wsX5_breaks rmX5_breaks [.ref x] (wMa T x al rs a) (F_X5_breaks a) (wMa T x al rs a) := by
  refine conI_of (cc := cX5_breaks) (maxL := 1) (ret := (some .int)) (lv0 := [(0, .ref x)]) (by decide +kernel) rfl (Nat.le_of_ble_eq_true rfl) rfl (fun X hX => ?_)
  refine g_aload_n hX dX5_breaks_0 rfl 0 rfl ?_
  refine g_get hX 5 h_X5_breaks_X5 0 rfl rfl 0 (by decide) k_X5_breaks_0 rfl (v := .ref al) rfl dX5_breaks_1 ?_
  refine g_bipush hX (v := 36) dX5_breaks_4 (by decide) ?_
  refine g_iald hX (f := a) 1 rfl (vin_c (by decide)) (v := (a 36)) (congrArg a (show Int32.toNatClampNeg 36 = 36 from by decide)) dX5_breaks_6 ?_
  refine g_ldc hX (v := 1048576) k_X5_breaks_1 dX5_breaks_7 ?_
  refine g_irem hX dX5_breaks_9 (by decide) ?_
  have e9 : F_X5_breaks a = ((a 36) - (a 36) / 1048576 * 1048576) := by simp only [F_X5_breaks, if_true, if_false]
  rw [e9]
  exact g_iret hX dX5_breaks_10 rfl rfl
/-! X5_doffs -/
def rmX5_doffs : Room := { frames := 0, cells := 0, slots := 0, locals := 0 }
theorem k_X5_doffs_0 : Cond.fieldLink RX5 7 RX5 (TX5 0).2.1 (TX5 0).2.2.1 ∈ wsX5_doffs := List.mem_of_getElem? (i := 1) rfl
theorem h_X5_doffs_X5 : ∀ w ∈ u_ws RX5 TX5 12, w ∈ wsX5_doffs := fun w h => List.mem_cons_of_mem _ (List.mem_append_right _ h)
theorem k_X5_doffs_1 : Cond.constant RX5 39 (1048576) ∈ wsX5_doffs := List.mem_of_getElem? (i := 2) rfl
def F_X5_doffs (a : (Nat → Int32)) : Int32 :=
  ((a 36) / 1048576)
set_option maxHeartbeats 4000000 in
set_option maxRecDepth 100000 in
theorem c_X5_doffs (l : Launch) (T : TT) (b0 : Nat) (x al : Nat) (rs : List Value) (a : (Nat → Int32))  : ConI l T b0 yX5_doffs wsX5_doffs rmX5_doffs [.ref x] (wMa T x al rs a) (F_X5_doffs a) (wMa T x al rs a) := by
  refine conI_of (cc := cX5_doffs) (maxL := 1) (ret := (some .int)) (lv0 := [(0, .ref x)]) (by decide +kernel) rfl (Nat.le_of_ble_eq_true rfl) rfl (fun X hX => ?_)
  refine g_aload_n hX dX5_doffs_0 rfl 0 rfl ?_
  refine g_get hX 5 h_X5_doffs_X5 0 rfl rfl 0 (by decide) k_X5_doffs_0 rfl (v := .ref al) rfl dX5_doffs_1 ?_
  refine g_bipush hX (v := 36) dX5_doffs_4 (by decide) ?_
  refine g_iald hX (f := a) 1 rfl (vin_c (by decide)) (v := (a 36)) (congrArg a (show Int32.toNatClampNeg 36 = 36 from by decide)) dX5_doffs_6 ?_
  refine g_ldc hX (v := 1048576) k_X5_doffs_1 dX5_doffs_7 ?_
  refine g_idiv hX dX5_doffs_9 (by decide) ?_
  have e9 : F_X5_doffs a = ((a 36) / 1048576) := by simp only [F_X5_doffs, if_true, if_false]
  rw [e9]
  exact g_iret hX dX5_doffs_10 rfl rfl
/-! X5_place -/
def rmX5_place : Room := { frames := 1, cells := 0, slots := 0, locals := 20 }
theorem k_X5_place_0 : Cond.fieldLink RX5 7 RX5 (TX5 0).2.1 (TX5 0).2.2.1 ∈ wsX5_place := List.mem_of_getElem? (i := 1) rfl
theorem h_X5_place_X5 : ∀ w ∈ u_ws RX5 TX5 12, w ∈ wsX5_place := fun w h => List.mem_cons_of_mem _ (List.mem_append_right _ h)
def F_X5_place (a : (Nat → Int32)) : Int32 :=
  (F_X5_placeOn (a 29))
set_option maxHeartbeats 4000000 in
set_option maxRecDepth 100000 in
theorem c_X5_place (l : Launch) (T : TT) (b0 : Nat) (x al : Nat) (rs : List Value) (a : (Nat → Int32))  : ConI l T b0 yX5_place wsX5_place rmX5_place [.ref x] (wMa T x al rs a) (F_X5_place a) (wMa T x al rs a) := by
  refine conI_of (cc := cX5_place) (maxL := 1) (ret := (some .int)) (lv0 := [(0, .ref x)]) (by decide +kernel) rfl (Nat.le_of_ble_eq_true rfl) rfl (fun X hX => ?_)
  refine g_aload_n hX dX5_place_0 rfl 0 rfl ?_
  refine g_get hX 5 h_X5_place_X5 0 rfl rfl 0 (by decide) k_X5_place_0 rfl (v := .ref al) rfl dX5_place_1 ?_
  refine g_bipush hX (v := 29) dX5_place_4 (by decide) ?_
  refine g_iald hX (f := a) 1 rfl (vin_c (by decide)) (v := (a 29)) (congrArg a (show Int32.toNatClampNeg 29 = 29 from by decide)) dX5_place_6 ?_
  refine g_cS_I hX (n := 1) (As := [.int (a 29)]) (wc := []) (w1 := []) (rv := (F_X5_placeOn (a 29))) (st := []) (c_X5_placeOn (xL X) T (xB X) (a 29)) gX5_place_X5_placeOn rfl rfl rfl ⟨Nat.le_of_ble_eq_true rfl, Nat.le_of_ble_eq_true rfl⟩ ⟨Nat.zero_le _, Nat.zero_le _⟩ ⟨by decide +kernel, by decide +kernel, by decide +kernel⟩ rfl [] rfl rfl (by decide) rfl (Nat.le_of_ble_eq_true rfl) dX5_place_7 (ws' := wMa T x al rs a) rfl ?_
  have e9 : F_X5_place a = (F_X5_placeOn (a 29)) := by simp only [F_X5_place, if_true, if_false]
  rw [e9]
  exact g_iret hX dX5_place_10 rfl rfl
/-! X5_wraps -/
def rmX5_wraps : Room := { frames := 0, cells := 0, slots := 0, locals := 0 }
theorem k_X5_wraps_0 : Cond.fieldLink RX5 7 RX5 (TX5 0).2.1 (TX5 0).2.2.1 ∈ wsX5_wraps := List.mem_of_getElem? (i := 1) rfl
theorem h_X5_wraps_X5 : ∀ w ∈ u_ws RX5 TX5 12, w ∈ wsX5_wraps := fun w h => List.mem_cons_of_mem _ (List.mem_append_right _ h)
def K_X5_wraps_4 : Nat → (Nat → Int32) → Nat → Int32 → Int32
  | 0, a, j, e => 0
  | n + 1, a, j, e => (if 12 ≤ (nI j) then e else K_X5_wraps_4 n a (j + 1) (e + (a j)))
def F_X5_wraps (a : (Nat → Int32)) : Int32 :=
  K_X5_wraps_4 13 a 0 0
set_option maxHeartbeats 4000000 in
set_option maxRecDepth 100000 in
theorem k_X5_wraps_4 {T : TT} {X : CX} (hX : Fit T X (yX5_wraps).cls 3 wsX5_wraps cX5_wraps (some .int) rmX5_wraps) (x al : Nat) (rs : List Value) : ∀ (n : Nat) (a : (Nat → Int32)) (j : Nat) (e : Int32) (hn : j + n = 13) (hj : j ≤ 12), G T X (QI T X 0 0 (K_X5_wraps_4 n a j e) (wMa T x al rs a)) 0 0 (wMa T x al rs a) [(2, .int (nI j)), (1, .int e), (0, .ref x)] 4 [] := by
  intro n
  induction n with
  | zero =>
    intro a j e hn hj
    exact absurd hn (by omega)
  | succ n ih =>
    intro a j e hn hj
    refine g_iload_n hX dX5_wraps_4 rfl 0 rfl ?_
    refine g_bipush hX (v := 12) dX5_wraps_5 (by decide) ?_
    refine g_icmp_ge hX 27 dX5_wraps_7 (by decide) (fun c_7 => ?_) (fun c_7 => ?_)
    · skip
      refine g_iload_n hX dX5_wraps_27 rfl 1 rfl ?_
      have e9 : K_X5_wraps_4 (n + 1) a j e = e := by simp only [K_X5_wraps_4, eq_true c_7, if_true, if_false]
      rw [e9]
      exact g_iret hX dX5_wraps_28 rfl rfl
    · skip
      have hlt_7 : j < 12 := nlt_of c_7 (by decide) (by omega)
      refine g_iload_n hX dX5_wraps_10 rfl 1 rfl ?_
      refine g_aload_n hX dX5_wraps_11 rfl 2 rfl ?_
      refine g_get hX 5 h_X5_wraps_X5 0 rfl rfl 0 (by decide) k_X5_wraps_0 rfl (v := .ref al) rfl dX5_wraps_12 ?_
      refine g_iconst hX (v := 0) dX5_wraps_15 (by decide) ?_
      refine g_iload_n hX dX5_wraps_16 rfl 0 rfl ?_
      refine g_iadd hX dX5_wraps_17 ?_
      refine g_iald hX (f := a) 1 rfl (vinc 0 j 37 (by omega) (by omega)) (v := (a j)) (congrArg a (ix0 j (by omega))) dX5_wraps_18 ?_
      refine g_iadd hX dX5_wraps_19 ?_
      refine g_istore_n hX (lv' := [(1, .int (e + (a j))), (2, .int (nI j)), (0, .ref x)]) dX5_wraps_20 rfl (by decide) rfl ?_
      refine g_iinc hX (lv' := [(2, .int (nI (j + 1))), (1, .int (e + (a j))), (0, .ref x)]) (v := (nI (j + 1))) 1 dX5_wraps_21 rfl (nI_1 _) (by decide) rfl ?_
      refine g_goto hX 4 dX5_wraps_24 (by decide) ?_
      have e9 : K_X5_wraps_4 (n + 1) a j e = K_X5_wraps_4 n a (j + 1) (e + (a j)) := by simp only [K_X5_wraps_4, eq_false c_7, if_true, if_false]
      rw [e9]
      refine g_lv (lv' := [(2, .int (nI (j + 1))), (1, .int (e + (a j))), (0, .ref x)]) [0, 1, 2] rfl ?_
      exact ih a (j + 1) (e + (a j)) (by omega) (by omega)
set_option maxHeartbeats 4000000 in
set_option maxRecDepth 100000 in
theorem c_X5_wraps (l : Launch) (T : TT) (b0 : Nat) (x al : Nat) (rs : List Value) (a : (Nat → Int32))  : ConI l T b0 yX5_wraps wsX5_wraps rmX5_wraps [.ref x] (wMa T x al rs a) (F_X5_wraps a) (wMa T x al rs a) := by
  refine conI_of (cc := cX5_wraps) (maxL := 3) (ret := (some .int)) (lv0 := [(0, .ref x)]) (by decide +kernel) rfl (Nat.le_of_ble_eq_true rfl) rfl (fun X hX => ?_)
  refine g_iconst hX (v := 0) dX5_wraps_0 (by decide) ?_
  refine g_istore_n hX (lv' := [(1, .int 0), (0, .ref x)]) dX5_wraps_1 rfl (by decide) rfl ?_
  refine g_iconst hX (v := 0) dX5_wraps_2 (by decide) ?_
  refine g_istore_n hX (lv' := [(2, .int 0), (1, .int 0), (0, .ref x)]) dX5_wraps_3 rfl (by decide) rfl ?_
  have e9 : F_X5_wraps a = K_X5_wraps_4 13 a 0 0 := by simp only [F_X5_wraps, if_true, if_false]
  rw [e9]
  refine g_lv (lv' := [(2, .int (nI 0)), (1, .int 0), (0, .ref x)]) [0, 1, 2] rfl ?_
  exact k_X5_wraps_4 hX x al rs 13 a 0 0 (by omega) (by omega)
/-! X5_greatest -/
def rmX5_greatest : Room := { frames := 0, cells := 0, slots := 0, locals := 0 }
theorem k_X5_greatest_0 : Cond.fieldLink RX5 7 RX5 (TX5 0).2.1 (TX5 0).2.2.1 ∈ wsX5_greatest := List.mem_of_getElem? (i := 1) rfl
theorem h_X5_greatest_X5 : ∀ w ∈ u_ws RX5 TX5 12, w ∈ wsX5_greatest := fun w h => List.mem_cons_of_mem _ (List.mem_append_right _ h)
def K_X5_greatest_4 : Nat → (Nat → Int32) → Nat → Int32 → Int32
  | 0, a, j, e => 0
  | n + 1, a, j, e => (if 12 ≤ (nI j) then e else (if (a j) ≤ e then K_X5_greatest_4 n a (j + 1) e else K_X5_greatest_4 n a (j + 1) (a j)))
def F_X5_greatest (a : (Nat → Int32)) : Int32 :=
  K_X5_greatest_4 13 a 0 0
set_option maxHeartbeats 4000000 in
set_option maxRecDepth 100000 in
theorem k_X5_greatest_4 {T : TT} {X : CX} (hX : Fit T X (yX5_greatest).cls 3 wsX5_greatest cX5_greatest (some .int) rmX5_greatest) (x al : Nat) (rs : List Value) : ∀ (n : Nat) (a : (Nat → Int32)) (j : Nat) (e : Int32) (hn : j + n = 13) (hj : j ≤ 12), G T X (QI T X 0 0 (K_X5_greatest_4 n a j e) (wMa T x al rs a)) 0 0 (wMa T x al rs a) [(2, .int (nI j)), (1, .int e), (0, .ref x)] 4 [] := by
  intro n
  induction n with
  | zero =>
    intro a j e hn hj
    exact absurd hn (by omega)
  | succ n ih =>
    intro a j e hn hj
    refine g_iload_n hX dX5_greatest_4 rfl 0 rfl ?_
    refine g_bipush hX (v := 12) dX5_greatest_5 (by decide) ?_
    refine g_icmp_ge hX 41 dX5_greatest_7 (by decide) (fun c_7 => ?_) (fun c_7 => ?_)
    · skip
      refine g_iload_n hX dX5_greatest_41 rfl 1 rfl ?_
      have e9 : K_X5_greatest_4 (n + 1) a j e = e := by simp only [K_X5_greatest_4, eq_true c_7, if_true, if_false]
      rw [e9]
      exact g_iret hX dX5_greatest_42 rfl rfl
    · skip
      have hlt_7 : j < 12 := nlt_of c_7 (by decide) (by omega)
      refine g_aload_n hX dX5_greatest_10 rfl 2 rfl ?_
      refine g_get hX 5 h_X5_greatest_X5 0 rfl rfl 0 (by decide) k_X5_greatest_0 rfl (v := .ref al) rfl dX5_greatest_11 ?_
      refine g_iconst hX (v := 0) dX5_greatest_14 (by decide) ?_
      refine g_iload_n hX dX5_greatest_15 rfl 0 rfl ?_
      refine g_iadd hX dX5_greatest_16 ?_
      refine g_iald hX (f := a) 1 rfl (vinc 0 j 37 (by omega) (by omega)) (v := (a j)) (congrArg a (ix0 j (by omega))) dX5_greatest_17 ?_
      refine g_iload_n hX dX5_greatest_18 rfl 1 rfl ?_
      refine g_icmp_le hX 33 dX5_greatest_19 (by decide) (fun c_19 => ?_) (fun c_19 => ?_)
      · skip
        refine g_iload_n hX dX5_greatest_33 rfl 1 rfl ?_
        refine g_istore_n hX (lv' := [(1, .int e), (2, .int (nI j)), (0, .ref x)]) dX5_greatest_34 rfl (by decide) rfl ?_
        refine g_iinc hX (lv' := [(2, .int (nI (j + 1))), (1, .int e), (0, .ref x)]) (v := (nI (j + 1))) 1 dX5_greatest_35 rfl (nI_1 _) (by decide) rfl ?_
        refine g_goto hX 4 dX5_greatest_38 (by decide) ?_
        have e9 : K_X5_greatest_4 (n + 1) a j e = K_X5_greatest_4 n a (j + 1) e := by simp only [K_X5_greatest_4, eq_false c_7, eq_true c_19, if_true, if_false]
        rw [e9]
        refine g_lv (lv' := [(2, .int (nI (j + 1))), (1, .int e), (0, .ref x)]) [0, 1, 2] rfl ?_
        exact ih a (j + 1) e (by omega) (by omega)
      · skip
        refine g_aload_n hX dX5_greatest_22 rfl 2 rfl ?_
        refine g_get hX 5 h_X5_greatest_X5 0 rfl rfl 0 (by decide) k_X5_greatest_0 rfl (v := .ref al) rfl dX5_greatest_23 ?_
        refine g_iconst hX (v := 0) dX5_greatest_26 (by decide) ?_
        refine g_iload_n hX dX5_greatest_27 rfl 0 rfl ?_
        refine g_iadd hX dX5_greatest_28 ?_
        refine g_iald hX (f := a) 1 rfl (vinc 0 j 37 (by omega) (by omega)) (v := (a j)) (congrArg a (ix0 j (by omega))) dX5_greatest_29 ?_
        refine g_goto hX 34 dX5_greatest_30 (by decide) ?_
        refine g_istore_n hX (lv' := [(1, .int (a j)), (2, .int (nI j)), (0, .ref x)]) dX5_greatest_34 rfl (by decide) rfl ?_
        refine g_iinc hX (lv' := [(2, .int (nI (j + 1))), (1, .int (a j)), (0, .ref x)]) (v := (nI (j + 1))) 1 dX5_greatest_35 rfl (nI_1 _) (by decide) rfl ?_
        refine g_goto hX 4 dX5_greatest_38 (by decide) ?_
        have e9 : K_X5_greatest_4 (n + 1) a j e = K_X5_greatest_4 n a (j + 1) (a j) := by simp only [K_X5_greatest_4, eq_false c_7, eq_false c_19, if_true, if_false]
        rw [e9]
        refine g_lv (lv' := [(2, .int (nI (j + 1))), (1, .int (a j)), (0, .ref x)]) [0, 1, 2] rfl ?_
        exact ih a (j + 1) (a j) (by omega) (by omega)
set_option maxHeartbeats 4000000 in
set_option maxRecDepth 100000 in
theorem c_X5_greatest (l : Launch) (T : TT) (b0 : Nat) (x al : Nat) (rs : List Value) (a : (Nat → Int32))  : ConI l T b0 yX5_greatest wsX5_greatest rmX5_greatest [.ref x] (wMa T x al rs a) (F_X5_greatest a) (wMa T x al rs a) := by
  refine conI_of (cc := cX5_greatest) (maxL := 3) (ret := (some .int)) (lv0 := [(0, .ref x)]) (by decide +kernel) rfl (Nat.le_of_ble_eq_true rfl) rfl (fun X hX => ?_)
  refine g_iconst hX (v := 0) dX5_greatest_0 (by decide) ?_
  refine g_istore_n hX (lv' := [(1, .int 0), (0, .ref x)]) dX5_greatest_1 rfl (by decide) rfl ?_
  refine g_iconst hX (v := 0) dX5_greatest_2 (by decide) ?_
  refine g_istore_n hX (lv' := [(2, .int 0), (1, .int 0), (0, .ref x)]) dX5_greatest_3 rfl (by decide) rfl ?_
  have e9 : F_X5_greatest a = K_X5_greatest_4 13 a 0 0 := by simp only [F_X5_greatest, if_true, if_false]
  rw [e9]
  refine g_lv (lv' := [(2, .int (nI 0)), (1, .int 0), (0, .ref x)]) [0, 1, 2] rfl ?_
  exact k_X5_greatest_4 hX x al rs 13 a 0 0 (by omega) (by omega)
/-! X5_evenness -/
def rmX5_evenness : Room := { frames := 1, cells := 0, slots := 0, locals := 22 }
theorem k_X5_evenness_0 : Cond.fieldLink RX5 7 RX5 (TX5 0).2.1 (TX5 0).2.2.1 ∈ wsX5_evenness := List.mem_of_getElem? (i := 1) rfl
theorem h_X5_evenness_X5 : ∀ w ∈ u_ws RX5 TX5 12, w ∈ wsX5_evenness := fun w h => List.mem_cons_of_mem _ (List.mem_append_right _ h)
def K_X5_evenness_6 : Nat → (Nat → Int32) → Nat → Int32 → Int32
  | 0, a, j, e => 0
  | n + 1, a, j, e => (if 12 ≤ (nI j) then ((F_X5_greatest a) - e) else (if e ≤ (a j) then K_X5_evenness_6 n a (j + 1) e else K_X5_evenness_6 n a (j + 1) (a j)))
def F_X5_evenness (a : (Nat → Int32)) : Int32 :=
  K_X5_evenness_6 13 a 0 200
set_option maxHeartbeats 4000000 in
set_option maxRecDepth 100000 in
theorem k_X5_evenness_6 {T : TT} {X : CX} (hX : Fit T X (yX5_evenness).cls 3 wsX5_evenness cX5_evenness (some .int) rmX5_evenness) (x al : Nat) (rs : List Value) : ∀ (n : Nat) (a : (Nat → Int32)) (j : Nat) (e : Int32) (hn : j + n = 13) (hj : j ≤ 12), G T X (QI T X 0 0 (K_X5_evenness_6 n a j e) (wMa T x al rs a)) 0 0 (wMa T x al rs a) [(2, .int (nI j)), (1, .int e), (0, .ref x)] 6 [] := by
  intro n
  induction n with
  | zero =>
    intro a j e hn hj
    exact absurd hn (by omega)
  | succ n ih =>
    intro a j e hn hj
    refine g_iload_n hX dX5_evenness_6 rfl 0 rfl ?_
    refine g_bipush hX (v := 12) dX5_evenness_7 (by decide) ?_
    refine g_icmp_ge hX 43 dX5_evenness_9 (by decide) (fun c_9 => ?_) (fun c_9 => ?_)
    · skip
      refine g_aload_n hX dX5_evenness_43 rfl 2 rfl ?_
      refine g_cV_I hX (n := 0) (As := []) (wc := wMa T x al rs a) (w1 := wMa T x al rs a) (rv := (F_X5_greatest a)) (st := []) 0 rfl rfl (c_X5_greatest (xL X) T (xB X) x al rs a) gX5_evenness_X5_greatest rfl rfl rfl ⟨Nat.le_of_ble_eq_true rfl, Nat.le_of_ble_eq_true rfl⟩ ⟨Nat.zero_le _, Nat.zero_le _⟩ ⟨by decide +kernel, by decide +kernel, by decide +kernel⟩ rfl [0, 1] rfl rfl (by decide) rfl (Nat.le_of_ble_eq_true rfl) dX5_evenness_44 (ws' := wMa T x al rs a) rfl ?_
      refine g_iload_n hX dX5_evenness_47 rfl 1 rfl ?_
      refine g_isub hX dX5_evenness_48 ?_
      have e9 : K_X5_evenness_6 (n + 1) a j e = ((F_X5_greatest a) - e) := by simp only [K_X5_evenness_6, eq_true c_9, if_true, if_false]
      rw [e9]
      exact g_iret hX dX5_evenness_49 rfl rfl
    · skip
      have hlt_9 : j < 12 := nlt_of c_9 (by decide) (by omega)
      refine g_aload_n hX dX5_evenness_12 rfl 2 rfl ?_
      refine g_get hX 5 h_X5_evenness_X5 0 rfl rfl 0 (by decide) k_X5_evenness_0 rfl (v := .ref al) rfl dX5_evenness_13 ?_
      refine g_iconst hX (v := 0) dX5_evenness_16 (by decide) ?_
      refine g_iload_n hX dX5_evenness_17 rfl 0 rfl ?_
      refine g_iadd hX dX5_evenness_18 ?_
      refine g_iald hX (f := a) 1 rfl (vinc 0 j 37 (by omega) (by omega)) (v := (a j)) (congrArg a (ix0 j (by omega))) dX5_evenness_19 ?_
      refine g_iload_n hX dX5_evenness_20 rfl 1 rfl ?_
      refine g_icmp_ge hX 35 dX5_evenness_21 (by decide) (fun c_21 => ?_) (fun c_21 => ?_)
      · skip
        refine g_iload_n hX dX5_evenness_35 rfl 1 rfl ?_
        refine g_istore_n hX (lv' := [(1, .int e), (2, .int (nI j)), (0, .ref x)]) dX5_evenness_36 rfl (by decide) rfl ?_
        refine g_iinc hX (lv' := [(2, .int (nI (j + 1))), (1, .int e), (0, .ref x)]) (v := (nI (j + 1))) 1 dX5_evenness_37 rfl (nI_1 _) (by decide) rfl ?_
        refine g_goto hX 6 dX5_evenness_40 (by decide) ?_
        have e9 : K_X5_evenness_6 (n + 1) a j e = K_X5_evenness_6 n a (j + 1) e := by simp only [K_X5_evenness_6, eq_false c_9, eq_true c_21, if_true, if_false]
        rw [e9]
        refine g_lv (lv' := [(2, .int (nI (j + 1))), (1, .int e), (0, .ref x)]) [0, 1, 2] rfl ?_
        exact ih a (j + 1) e (by omega) (by omega)
      · skip
        refine g_aload_n hX dX5_evenness_24 rfl 2 rfl ?_
        refine g_get hX 5 h_X5_evenness_X5 0 rfl rfl 0 (by decide) k_X5_evenness_0 rfl (v := .ref al) rfl dX5_evenness_25 ?_
        refine g_iconst hX (v := 0) dX5_evenness_28 (by decide) ?_
        refine g_iload_n hX dX5_evenness_29 rfl 0 rfl ?_
        refine g_iadd hX dX5_evenness_30 ?_
        refine g_iald hX (f := a) 1 rfl (vinc 0 j 37 (by omega) (by omega)) (v := (a j)) (congrArg a (ix0 j (by omega))) dX5_evenness_31 ?_
        refine g_goto hX 36 dX5_evenness_32 (by decide) ?_
        refine g_istore_n hX (lv' := [(1, .int (a j)), (2, .int (nI j)), (0, .ref x)]) dX5_evenness_36 rfl (by decide) rfl ?_
        refine g_iinc hX (lv' := [(2, .int (nI (j + 1))), (1, .int (a j)), (0, .ref x)]) (v := (nI (j + 1))) 1 dX5_evenness_37 rfl (nI_1 _) (by decide) rfl ?_
        refine g_goto hX 6 dX5_evenness_40 (by decide) ?_
        have e9 : K_X5_evenness_6 (n + 1) a j e = K_X5_evenness_6 n a (j + 1) (a j) := by simp only [K_X5_evenness_6, eq_false c_9, eq_false c_21, if_true, if_false]
        rw [e9]
        refine g_lv (lv' := [(2, .int (nI (j + 1))), (1, .int (a j)), (0, .ref x)]) [0, 1, 2] rfl ?_
        exact ih a (j + 1) (a j) (by omega) (by omega)
set_option maxHeartbeats 4000000 in
set_option maxRecDepth 100000 in
theorem c_X5_evenness (l : Launch) (T : TT) (b0 : Nat) (x al : Nat) (rs : List Value) (a : (Nat → Int32))  : ConI l T b0 yX5_evenness wsX5_evenness rmX5_evenness [.ref x] (wMa T x al rs a) (F_X5_evenness a) (wMa T x al rs a) := by
  refine conI_of (cc := cX5_evenness) (maxL := 3) (ret := (some .int)) (lv0 := [(0, .ref x)]) (by decide +kernel) rfl (Nat.le_of_ble_eq_true rfl) rfl (fun X hX => ?_)
  refine g_sipush hX (v := 200) dX5_evenness_0 (by decide) ?_
  refine g_istore_n hX (lv' := [(1, .int 200), (0, .ref x)]) dX5_evenness_3 rfl (by decide) rfl ?_
  refine g_iconst hX (v := 0) dX5_evenness_4 (by decide) ?_
  refine g_istore_n hX (lv' := [(2, .int 0), (1, .int 200), (0, .ref x)]) dX5_evenness_5 rfl (by decide) rfl ?_
  have e9 : F_X5_evenness a = K_X5_evenness_6 13 a 0 200 := by simp only [F_X5_evenness, if_true, if_false]
  rw [e9]
  refine g_lv (lv' := [(2, .int (nI 0)), (1, .int 200), (0, .ref x)]) [0, 1, 2] rfl ?_
  exact k_X5_evenness_6 hX x al rs 13 a 0 200 (by omega) (by omega)
/-! X5_isFull -/
def rmX5_isFull : Room := { frames := 1, cells := 0, slots := 0, locals := 22 }
def F_X5_isFull (a : (Nat → Int32)) : Int32 :=
  (if (F_X5_greatest a) = 200 then 1 else 0)
set_option maxHeartbeats 4000000 in
set_option maxRecDepth 100000 in
theorem c_X5_isFull (l : Launch) (T : TT) (b0 : Nat) (x al : Nat) (rs : List Value) (a : (Nat → Int32))  : ConI l T b0 yX5_isFull wsX5_isFull rmX5_isFull [.ref x] (wMa T x al rs a) (F_X5_isFull a) (wMa T x al rs a) := by
  refine conI_of (cc := cX5_isFull) (maxL := 1) (ret := (some .boolean)) (lv0 := [(0, .ref x)]) (by decide +kernel) rfl (Nat.le_of_ble_eq_true rfl) rfl (fun X hX => ?_)
  refine g_aload_n hX dX5_isFull_0 rfl 0 rfl ?_
  refine g_cV_I hX (n := 0) (As := []) (wc := wMa T x al rs a) (w1 := wMa T x al rs a) (rv := (F_X5_greatest a)) (st := []) 0 rfl rfl (c_X5_greatest (xL X) T (xB X) x al rs a) gX5_isFull_X5_greatest rfl rfl rfl ⟨Nat.le_of_ble_eq_true rfl, Nat.le_of_ble_eq_true rfl⟩ ⟨Nat.zero_le _, Nat.zero_le _⟩ ⟨by decide +kernel, by decide +kernel, by decide +kernel⟩ rfl [0, 1] rfl rfl (by decide) rfl (Nat.le_of_ble_eq_true rfl) dX5_isFull_1 (ws' := wMa T x al rs a) rfl ?_
  refine g_sipush hX (v := 200) dX5_isFull_4 (by decide) ?_
  refine g_icmp_ne hX 14 dX5_isFull_7 (by decide) (fun c_7 => ?_) (fun c_7 => ?_)
  · skip
    refine g_iconst hX (v := 0) dX5_isFull_14 (by decide) ?_
    have e9 : F_X5_isFull a = 0 := by simp only [F_X5_isFull, eq_false c_7, if_true, if_false]
    rw [e9]
    exact g_zret hX dX5_isFull_15 rfl rfl rfl
  · skip
    refine g_iconst hX (v := 1) dX5_isFull_10 (by decide) ?_
    refine g_goto hX 15 dX5_isFull_11 (by decide) ?_
    have e9 : F_X5_isFull a = 1 := by simp only [F_X5_isFull, eq_true c_7, if_true, if_false]
    rw [e9]
    exact g_zret hX dX5_isFull_15 rfl rfl rfl
/-! X5_isIdle -/
def rmX5_isIdle : Room := { frames := 2, cells := 0, slots := 0, locals := 42 }
theorem k_X5_isIdle_0 : Cond.fieldLink RX5 7 RX5 (TX5 0).2.1 (TX5 0).2.2.1 ∈ wsX5_isIdle := List.mem_of_getElem? (i := 1) rfl
theorem h_X5_isIdle_X5 : ∀ w ∈ u_ws RX5 TX5 12, w ∈ wsX5_isIdle := fun w h => List.mem_cons_of_mem _ (List.mem_append_right _ h)
def F_X5_isIdle (a : (Nat → Int32)) : Int32 :=
  (if (a 33) = 1 then 1 else (if (a 30) = 0 then 1 else (if (F_X5_isFull a) = 0 then 0 else 1)))
set_option maxHeartbeats 4000000 in
set_option maxRecDepth 100000 in
theorem c_X5_isIdle (l : Launch) (T : TT) (b0 : Nat) (x al : Nat) (rs : List Value) (a : (Nat → Int32))  : ConI l T b0 yX5_isIdle wsX5_isIdle rmX5_isIdle [.ref x] (wMa T x al rs a) (F_X5_isIdle a) (wMa T x al rs a) := by
  refine conI_of (cc := cX5_isIdle) (maxL := 1) (ret := (some .boolean)) (lv0 := [(0, .ref x)]) (by decide +kernel) rfl (Nat.le_of_ble_eq_true rfl) rfl (fun X hX => ?_)
  refine g_aload_n hX dX5_isIdle_0 rfl 0 rfl ?_
  refine g_get hX 5 h_X5_isIdle_X5 0 rfl rfl 0 (by decide) k_X5_isIdle_0 rfl (v := .ref al) rfl dX5_isIdle_1 ?_
  refine g_bipush hX (v := 33) dX5_isIdle_4 (by decide) ?_
  refine g_iald hX (f := a) 1 rfl (vin_c (by decide)) (v := (a 33)) (congrArg a (show Int32.toNatClampNeg 33 = 33 from by decide)) dX5_isIdle_6 ?_
  refine g_iconst hX (v := 1) dX5_isIdle_7 (by decide) ?_
  refine g_icmp_eq hX 28 dX5_isIdle_8 (by decide) (fun c_8 => ?_) (fun c_8 => ?_)
  · skip
    refine g_iconst hX (v := 1) dX5_isIdle_28 (by decide) ?_
    refine g_goto hX 33 dX5_isIdle_29 (by decide) ?_
    have e9 : F_X5_isIdle a = 1 := by simp only [F_X5_isIdle, eq_true c_8, if_true, if_false]
    rw [e9]
    exact g_zret hX dX5_isIdle_33 rfl rfl rfl
  · skip
    refine g_aload_n hX dX5_isIdle_11 rfl 0 rfl ?_
    refine g_get hX 5 h_X5_isIdle_X5 0 rfl rfl 0 (by decide) k_X5_isIdle_0 rfl (v := .ref al) rfl dX5_isIdle_12 ?_
    refine g_bipush hX (v := 30) dX5_isIdle_15 (by decide) ?_
    refine g_iald hX (f := a) 1 rfl (vin_c (by decide)) (v := (a 30)) (congrArg a (show Int32.toNatClampNeg 30 = 30 from by decide)) dX5_isIdle_17 ?_
    refine g_if_eq hX 28 dX5_isIdle_18 (by decide) (fun c_18 => ?_) (fun c_18 => ?_)
    · skip
      refine g_iconst hX (v := 1) dX5_isIdle_28 (by decide) ?_
      refine g_goto hX 33 dX5_isIdle_29 (by decide) ?_
      have e9 : F_X5_isIdle a = 1 := by simp only [F_X5_isIdle, eq_false c_8, eq_true c_18, if_true, if_false]
      rw [e9]
      exact g_zret hX dX5_isIdle_33 rfl rfl rfl
    · skip
      refine g_aload_n hX dX5_isIdle_21 rfl 0 rfl ?_
      refine g_cV_I hX (n := 0) (As := []) (wc := wMa T x al rs a) (w1 := wMa T x al rs a) (rv := (F_X5_isFull a)) (st := []) 0 rfl rfl (c_X5_isFull (xL X) T (xB X) x al rs a) gX5_isIdle_X5_isFull rfl rfl rfl ⟨Nat.le_of_ble_eq_true rfl, Nat.le_of_ble_eq_true rfl⟩ ⟨Nat.zero_le _, Nat.zero_le _⟩ ⟨by decide +kernel, by decide +kernel, by decide +kernel⟩ rfl [0, 1] rfl rfl (by decide) rfl (Nat.le_of_ble_eq_true rfl) dX5_isIdle_22 (ws' := wMa T x al rs a) rfl ?_
      refine g_if_eq hX 32 dX5_isIdle_25 (by decide) (fun c_25 => ?_) (fun c_25 => ?_)
      · skip
        refine g_iconst hX (v := 0) dX5_isIdle_32 (by decide) ?_
        have e9 : F_X5_isIdle a = 0 := by simp only [F_X5_isIdle, eq_false c_8, eq_false c_18, eq_true c_25, if_true, if_false]
        rw [e9]
        exact g_zret hX dX5_isIdle_33 rfl rfl rfl
      · skip
        refine g_iconst hX (v := 1) dX5_isIdle_28 (by decide) ?_
        refine g_goto hX 33 dX5_isIdle_29 (by decide) ?_
        have e9 : F_X5_isIdle a = 1 := by simp only [F_X5_isIdle, eq_false c_8, eq_false c_18, eq_false c_25, if_true, if_false]
        rw [e9]
        exact g_zret hX dX5_isIdle_33 rfl rfl rfl
