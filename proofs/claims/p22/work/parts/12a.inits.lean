def rmX1_init : Room := { frames := 3, cells := 21, slots := 180, locals := 54 }
theorem k_X1_init_0 : Cond.methodLink RX1 3 objectInit ∈ wsX1_init := List.mem_of_getElem? (i := 1) rfl
theorem k_X1_init_1 : Cond.instanceMethod objectInit ∈ wsX1_init := List.mem_of_getElem? (i := 2) rfl
theorem k_X1_init_2 : Cond.code objectInit ⟨#[0xb1]⟩ 1 none ∈ wsX1_init := List.mem_of_getElem? (i := 3) rfl
theorem k_X1_init_3 : Cond.classLink RX1 9 RX2 ∈ wsX1_init := List.mem_of_getElem? (i := 4) rfl
theorem k_X1_init_4 : Cond.fieldLink RX1 11 RX1 (TX1 0).2.1 (TX1 0).2.2.1 ∈ wsX1_init := List.mem_of_getElem? (i := 5) rfl
theorem h_X1_init_X1 : ∀ w ∈ u_ws RX1 TX1 3, w ∈ wsX1_init := fun w h => List.mem_cons_of_mem _ (List.mem_append_left _ (List.mem_append_left _ (List.mem_append_right _ h)))
theorem k_X1_init_5 : Cond.fieldLink RX1 17 RX1 (TX1 1).2.1 (TX1 1).2.2.1 ∈ wsX1_init := List.mem_of_getElem? (i := 6) rfl
theorem k_X1_init_6 : Cond.fieldLink RX1 21 RX1 (TX1 2).2.1 (TX1 2).2.2.1 ∈ wsX1_init := List.mem_of_getElem? (i := 7) rfl
theorem h_X1_init_X2 : ∀ w ∈ u_ws RX2 TX2 11, w ∈ wsX1_init := fun w h => List.mem_cons_of_mem _ (List.mem_append_left _ (List.mem_append_right _ h))
theorem k_X1_init_7 : Cond.instantiable RX2 11 ∈ wsX1_init := List.mem_of_getElem? (i := 8) rfl
theorem k_X1_init_8 : Cond.initialized RX2 ∈ wsX1_init := List.mem_of_getElem? (i := 9) rfl
theorem k_X1_init_9 : Cond.instanceMethod yX2_init ∈ wsX1_init := List.mem_of_getElem? (i := 10) rfl
set_option maxHeartbeats 4000000 in
set_option maxRecDepth 100000 in
theorem c_X1_init (l : Launch) (T : TT) (b0 : Nat) (s0 : Nat) : ConC l T b0 yX1_init wsX1_init rmX1_init [.ref s0] [(s0, .inr (1, [.null, .int 0, .int 0]))] (Nat → Nat) (fun (ad : Nat → Nat) (w : va_W) => s0 = ad 18 ∧ w = wHi T ad h0V) 21 180 := by
  refine conC_of (cc := cX1_init) (maxL := 2) (ret := none) (lv0 := [(0, .ref s0)]) (by decide +kernel) rfl rfl (Nat.le_of_ble_eq_true rfl) rfl (fun X hX hin => ?_)
  refine g_aload_n hX dX1_init_0 rfl 0 rfl ?_
  refine g_objInit hX k_X1_init_0 k_X1_init_1 k_X1_init_2 (Nat.le_of_ble_eq_true rfl) (Nat.le_of_ble_eq_true rfl) dX1_init_1 ?_
  refine g_aload_n hX dX1_init_4 rfl 0 rfl ?_
  refine g_iconst hX (v := 4) dX1_init_5 (by decide) ?_
  refine g_newS hX 4 (by decide) (by decide) (by decide) k_X1_init_3 (Nat.le_of_ble_eq_true rfl) (Nat.le_of_ble_eq_true rfl) dX1_init_6 (fun q6 => ?_)
  refine g_putF hX 1 h_X1_init_X1 0 rfl rfl 0 (by decide) tyX1 tyX1_ok nmX1 k_X1_init_4 rfl rfl hin rfl rfl rfl rfl (Nat.le_of_ble_eq_true rfl) dX1_init_9 (ws' := [(s0, .inr (1, [.ref q6, .int 0, .int 0]))] ++ [(q6, .inl (T.2.2.2, 4, .inr (.inr (.inr (.inr (fun _ => none))))))]) rfl ?_
  refine g_aload_n hX dX1_init_12 rfl 0 rfl ?_
  refine g_iconst hX (v := 0) dX1_init_13 (by decide) ?_
  refine g_put hX 1 h_X1_init_X1 0 rfl rfl 1 (by decide) tyX1 tyX1_ok nmX1 k_X1_init_5 rfl rfl  rfl rfl rfl (Nat.le_of_ble_eq_true rfl) dX1_init_14 (ws' := [(s0, .inr (1, [.ref q6, .int 0, .int 0]))] ++ [(q6, .inl (T.2.2.2, 4, .inr (.inr (.inr (.inr (fun _ => none))))))]) rfl ?_
  refine g_aload_n hX dX1_init_17 rfl 0 rfl ?_
  refine g_iconst hX (v := 0) dX1_init_18 (by decide) ?_
  refine g_put hX 1 h_X1_init_X1 0 rfl rfl 2 (by decide) tyX1 tyX1_ok nmX1 k_X1_init_6 rfl rfl  rfl rfl rfl (Nat.le_of_ble_eq_true rfl) dX1_init_19 (ws' := [(s0, .inr (1, [.ref q6, .int 0, .int 0]))] ++ [(q6, .inl (T.2.2.2, 4, .inr (.inr (.inr (.inr (fun _ => none))))))]) rfl ?_
  refine g_iconst hX (v := 0) dX1_init_22 (by decide) ?_
  refine g_istore_n hX (lv' := [(1, .int 0), (0, .ref s0)]) dX1_init_23 rfl (by decide) rfl ?_
  refine g_iload_n hX dX1_init_24 rfl 0 rfl ?_
  refine g_aload_n hX dX1_init_25 rfl 1 rfl ?_
  refine g_get hX 1 h_X1_init_X1 0 rfl rfl 0 (by decide) k_X1_init_4 rfl (v := .ref q6) rfl dX1_init_26 ?_
  refine g_alen hX 1 2 rfl rfl (v := 4) rfl dX1_init_29 ?_
  refine g_icmp_ge hX 52 dX1_init_30 (by decide) (fun c0 => absurd c0 (by decide)) (fun _ => ?_)
  refine g_aload_n hX dX1_init_33 rfl 1 rfl ?_
  refine g_get hX 1 h_X1_init_X1 0 rfl rfl 0 (by decide) k_X1_init_4 rfl (v := .ref q6) rfl dX1_init_34 ?_
  refine g_iload_n hX dX1_init_37 rfl 0 rfl ?_
  refine g_new hX 2 (fs := [.null, .null, .null, .int 0, .int 0, .int 0, .int 0, .int 0, .int 0, .int 0, .int 0]) h_X1_init_X2 tyX2 tyX2_ok k_X1_init_3 k_X1_init_7 k_X1_init_8 rfl (fun j hj => by rcases (show j = 0 ∨ j = 1 ∨ j = 2 ∨ j = 3 ∨ j = 4 ∨ j = 5 ∨ j = 6 ∨ j = 7 ∨ j = 8 ∨ j = 9 ∨ j = 10 by omega) with rfl | rfl | rfl | rfl | rfl | rfl | rfl | rfl | rfl | rfl | rfl <;> rfl) (Nat.le_of_ble_eq_true rfl) (Nat.le_of_ble_eq_true rfl) dX1_init_38 (fun q38_0 => ?_)
  refine g_dup hX dX1_init_41 rfl ?_
  refine g_cIN hX (cells := 2) (slots := 15) (n := 0) (As := []) (st := [.ref q38_0, .int 0, .ref q6]) (wr := [(s0, .inr (1, [.ref q6, .int 0, .int 0]))] ++ [(q6, .inl (T.2.2.2, 4, .inr (.inr (.inr (.inr (fun _ => none))))))]) (c_X2_init (xL X) T (xB X) q38_0) ggX1_init_X2_init 18 rfl k_X1_init_8 k_X1_init_9 rfl rfl rfl rfl ⟨Nat.le_of_ble_eq_true rfl, Nat.le_of_ble_eq_true rfl⟩ ⟨Nat.le_of_ble_eq_true rfl, Nat.le_of_ble_eq_true rfl⟩ ⟨by decide +kernel, by decide +kernel, by decide +kernel⟩ rfl rfl (Nat.le_of_ble_eq_true rfl) dX1_init_42 (fun u42_1 w1 hp1 => ?_)
  subst hp1
  refine g_aast hX 1 2 rfl rfl (vin_c (by decide)) dX1_init_45 (ws' := [(s0, .inr (1, [.ref q6, .int 0, .int 0]))] ++ [(q6, .inl (T.2.2.2, 4, .inr (.inr (.inr (.inr (va_up (fun _ => none) 0 (some q38_0)))))))] ++ wSt T q38_0 u42_1.1 u42_1.2.1 u42_1.2.2.1 u42_1.2.2.2 u0) (by rw [show Int32.toNatClampNeg 0 = 0 from by decide] <;> rfl) ?_
  refine g_iinc hX (lv' := [(1, .int 1), (0, .ref s0)]) (v := 1) 0 dX1_init_46 rfl (by decide) (by decide) rfl ?_
  refine g_goto hX 24 dX1_init_49 (by decide) ?_
  refine g_iload_n hX dX1_init_24 rfl 0 rfl ?_
  refine g_aload_n hX dX1_init_25 rfl 1 rfl ?_
  refine g_get hX 1 h_X1_init_X1 0 rfl rfl 0 (by decide) k_X1_init_4 rfl (v := .ref q6) rfl dX1_init_26 ?_
  refine g_alen hX 1 2 rfl rfl (v := 4) rfl dX1_init_29 ?_
  refine g_icmp_ge hX 52 dX1_init_30 (by decide) (fun c0 => absurd c0 (by decide)) (fun _ => ?_)
  refine g_aload_n hX dX1_init_33 rfl 1 rfl ?_
  refine g_get hX 1 h_X1_init_X1 0 rfl rfl 0 (by decide) k_X1_init_4 rfl (v := .ref q6) rfl dX1_init_34 ?_
  refine g_iload_n hX dX1_init_37 rfl 0 rfl ?_
  refine g_new hX 2 (fs := [.null, .null, .null, .int 0, .int 0, .int 0, .int 0, .int 0, .int 0, .int 0, .int 0]) h_X1_init_X2 tyX2 tyX2_ok k_X1_init_3 k_X1_init_7 k_X1_init_8 rfl (fun j hj => by rcases (show j = 0 ∨ j = 1 ∨ j = 2 ∨ j = 3 ∨ j = 4 ∨ j = 5 ∨ j = 6 ∨ j = 7 ∨ j = 8 ∨ j = 9 ∨ j = 10 by omega) with rfl | rfl | rfl | rfl | rfl | rfl | rfl | rfl | rfl | rfl | rfl <;> rfl) (Nat.le_of_ble_eq_true rfl) (Nat.le_of_ble_eq_true rfl) dX1_init_38 (fun q38_2 => ?_)
  refine g_dup hX dX1_init_41 rfl ?_
  refine g_cIN hX (cells := 7) (slots := 59) (n := 0) (As := []) (st := [.ref q38_2, .int 1, .ref q6]) (wr := [(s0, .inr (1, [.ref q6, .int 0, .int 0]))] ++ [(q6, .inl (T.2.2.2, 4, .inr (.inr (.inr (.inr (va_up (fun _ => none) 0 (some q38_0)))))))] ++ wSt T q38_0 u42_1.1 u42_1.2.1 u42_1.2.2.1 u42_1.2.2.2 u0) (c_X2_init (xL X) T (xB X) q38_2) ggX1_init_X2_init 18 rfl k_X1_init_8 k_X1_init_9 rfl rfl rfl rfl ⟨Nat.le_of_ble_eq_true rfl, Nat.le_of_ble_eq_true rfl⟩ ⟨Nat.le_of_ble_eq_true rfl, Nat.le_of_ble_eq_true rfl⟩ ⟨by decide +kernel, by decide +kernel, by decide +kernel⟩ rfl rfl (Nat.le_of_ble_eq_true rfl) dX1_init_42 (fun u42_3 w1 hp1 => ?_)
  subst hp1
  refine g_aast hX 1 7 rfl rfl (vin_c (by decide)) dX1_init_45 (ws' := [(s0, .inr (1, [.ref q6, .int 0, .int 0]))] ++ [(q6, .inl (T.2.2.2, 4, .inr (.inr (.inr (.inr (va_up (va_up (fun _ => none) 0 (some q38_0)) 1 (some q38_2)))))))] ++ wSt T q38_0 u42_1.1 u42_1.2.1 u42_1.2.2.1 u42_1.2.2.2 u0 ++ wSt T q38_2 u42_3.1 u42_3.2.1 u42_3.2.2.1 u42_3.2.2.2 u0) (by rw [show Int32.toNatClampNeg 1 = 1 from by decide] <;> rfl) ?_
  refine g_iinc hX (lv' := [(1, .int 2), (0, .ref s0)]) (v := 2) 0 dX1_init_46 rfl (by decide) (by decide) rfl ?_
  refine g_goto hX 24 dX1_init_49 (by decide) ?_
  refine g_iload_n hX dX1_init_24 rfl 0 rfl ?_
  refine g_aload_n hX dX1_init_25 rfl 1 rfl ?_
  refine g_get hX 1 h_X1_init_X1 0 rfl rfl 0 (by decide) k_X1_init_4 rfl (v := .ref q6) rfl dX1_init_26 ?_
  refine g_alen hX 1 2 rfl rfl (v := 4) rfl dX1_init_29 ?_
  refine g_icmp_ge hX 52 dX1_init_30 (by decide) (fun c0 => absurd c0 (by decide)) (fun _ => ?_)
  refine g_aload_n hX dX1_init_33 rfl 1 rfl ?_
  refine g_get hX 1 h_X1_init_X1 0 rfl rfl 0 (by decide) k_X1_init_4 rfl (v := .ref q6) rfl dX1_init_34 ?_
  refine g_iload_n hX dX1_init_37 rfl 0 rfl ?_
  refine g_new hX 2 (fs := [.null, .null, .null, .int 0, .int 0, .int 0, .int 0, .int 0, .int 0, .int 0, .int 0]) h_X1_init_X2 tyX2 tyX2_ok k_X1_init_3 k_X1_init_7 k_X1_init_8 rfl (fun j hj => by rcases (show j = 0 ∨ j = 1 ∨ j = 2 ∨ j = 3 ∨ j = 4 ∨ j = 5 ∨ j = 6 ∨ j = 7 ∨ j = 8 ∨ j = 9 ∨ j = 10 by omega) with rfl | rfl | rfl | rfl | rfl | rfl | rfl | rfl | rfl | rfl | rfl <;> rfl) (Nat.le_of_ble_eq_true rfl) (Nat.le_of_ble_eq_true rfl) dX1_init_38 (fun q38_4 => ?_)
  refine g_dup hX dX1_init_41 rfl ?_
  refine g_cIN hX (cells := 12) (slots := 103) (n := 0) (As := []) (st := [.ref q38_4, .int 2, .ref q6]) (wr := [(s0, .inr (1, [.ref q6, .int 0, .int 0]))] ++ [(q6, .inl (T.2.2.2, 4, .inr (.inr (.inr (.inr (va_up (va_up (fun _ => none) 0 (some q38_0)) 1 (some q38_2)))))))] ++ wSt T q38_0 u42_1.1 u42_1.2.1 u42_1.2.2.1 u42_1.2.2.2 u0 ++ wSt T q38_2 u42_3.1 u42_3.2.1 u42_3.2.2.1 u42_3.2.2.2 u0) (c_X2_init (xL X) T (xB X) q38_4) ggX1_init_X2_init 18 rfl k_X1_init_8 k_X1_init_9 rfl rfl rfl rfl ⟨Nat.le_of_ble_eq_true rfl, Nat.le_of_ble_eq_true rfl⟩ ⟨Nat.le_of_ble_eq_true rfl, Nat.le_of_ble_eq_true rfl⟩ ⟨by decide +kernel, by decide +kernel, by decide +kernel⟩ rfl rfl (Nat.le_of_ble_eq_true rfl) dX1_init_42 (fun u42_5 w1 hp1 => ?_)
  subst hp1
  refine g_aast hX 1 12 rfl rfl (vin_c (by decide)) dX1_init_45 (ws' := [(s0, .inr (1, [.ref q6, .int 0, .int 0]))] ++ [(q6, .inl (T.2.2.2, 4, .inr (.inr (.inr (.inr (va_up (va_up (va_up (fun _ => none) 0 (some q38_0)) 1 (some q38_2)) 2 (some q38_4)))))))] ++ wSt T q38_0 u42_1.1 u42_1.2.1 u42_1.2.2.1 u42_1.2.2.2 u0 ++ wSt T q38_2 u42_3.1 u42_3.2.1 u42_3.2.2.1 u42_3.2.2.2 u0 ++ wSt T q38_4 u42_5.1 u42_5.2.1 u42_5.2.2.1 u42_5.2.2.2 u0) (by rw [show Int32.toNatClampNeg 2 = 2 from by decide] <;> rfl) ?_
  refine g_iinc hX (lv' := [(1, .int 3), (0, .ref s0)]) (v := 3) 0 dX1_init_46 rfl (by decide) (by decide) rfl ?_
  refine g_goto hX 24 dX1_init_49 (by decide) ?_
  refine g_iload_n hX dX1_init_24 rfl 0 rfl ?_
  refine g_aload_n hX dX1_init_25 rfl 1 rfl ?_
  refine g_get hX 1 h_X1_init_X1 0 rfl rfl 0 (by decide) k_X1_init_4 rfl (v := .ref q6) rfl dX1_init_26 ?_
  refine g_alen hX 1 2 rfl rfl (v := 4) rfl dX1_init_29 ?_
  refine g_icmp_ge hX 52 dX1_init_30 (by decide) (fun c0 => absurd c0 (by decide)) (fun _ => ?_)
  refine g_aload_n hX dX1_init_33 rfl 1 rfl ?_
  refine g_get hX 1 h_X1_init_X1 0 rfl rfl 0 (by decide) k_X1_init_4 rfl (v := .ref q6) rfl dX1_init_34 ?_
  refine g_iload_n hX dX1_init_37 rfl 0 rfl ?_
  refine g_new hX 2 (fs := [.null, .null, .null, .int 0, .int 0, .int 0, .int 0, .int 0, .int 0, .int 0, .int 0]) h_X1_init_X2 tyX2 tyX2_ok k_X1_init_3 k_X1_init_7 k_X1_init_8 rfl (fun j hj => by rcases (show j = 0 ∨ j = 1 ∨ j = 2 ∨ j = 3 ∨ j = 4 ∨ j = 5 ∨ j = 6 ∨ j = 7 ∨ j = 8 ∨ j = 9 ∨ j = 10 by omega) with rfl | rfl | rfl | rfl | rfl | rfl | rfl | rfl | rfl | rfl | rfl <;> rfl) (Nat.le_of_ble_eq_true rfl) (Nat.le_of_ble_eq_true rfl) dX1_init_38 (fun q38_6 => ?_)
  refine g_dup hX dX1_init_41 rfl ?_
  refine g_cIN hX (cells := 17) (slots := 147) (n := 0) (As := []) (st := [.ref q38_6, .int 3, .ref q6]) (wr := [(s0, .inr (1, [.ref q6, .int 0, .int 0]))] ++ [(q6, .inl (T.2.2.2, 4, .inr (.inr (.inr (.inr (va_up (va_up (va_up (fun _ => none) 0 (some q38_0)) 1 (some q38_2)) 2 (some q38_4)))))))] ++ wSt T q38_0 u42_1.1 u42_1.2.1 u42_1.2.2.1 u42_1.2.2.2 u0 ++ wSt T q38_2 u42_3.1 u42_3.2.1 u42_3.2.2.1 u42_3.2.2.2 u0 ++ wSt T q38_4 u42_5.1 u42_5.2.1 u42_5.2.2.1 u42_5.2.2.2 u0) (c_X2_init (xL X) T (xB X) q38_6) ggX1_init_X2_init 18 rfl k_X1_init_8 k_X1_init_9 rfl rfl rfl rfl ⟨Nat.le_of_ble_eq_true rfl, Nat.le_of_ble_eq_true rfl⟩ ⟨Nat.le_of_ble_eq_true rfl, Nat.le_of_ble_eq_true rfl⟩ ⟨by decide +kernel, by decide +kernel, by decide +kernel⟩ rfl rfl (Nat.le_of_ble_eq_true rfl) dX1_init_42 (fun u42_7 w1 hp1 => ?_)
  subst hp1
  refine g_aast hX 1 17 rfl rfl (vin_c (by decide)) dX1_init_45 (ws' := [(s0, .inr (1, [.ref q6, .int 0, .int 0]))] ++ [(q6, .inl (T.2.2.2, 4, .inr (.inr (.inr (.inr (va_up (va_up (va_up (va_up (fun _ => none) 0 (some q38_0)) 1 (some q38_2)) 2 (some q38_4)) 3 (some q38_6)))))))] ++ wSt T q38_0 u42_1.1 u42_1.2.1 u42_1.2.2.1 u42_1.2.2.2 u0 ++ wSt T q38_2 u42_3.1 u42_3.2.1 u42_3.2.2.1 u42_3.2.2.2 u0 ++ wSt T q38_4 u42_5.1 u42_5.2.1 u42_5.2.2.1 u42_5.2.2.2 u0 ++ wSt T q38_6 u42_7.1 u42_7.2.1 u42_7.2.2.1 u42_7.2.2.2 u0) (by rw [show Int32.toNatClampNeg 3 = 3 from by decide] <;> rfl) ?_
  refine g_iinc hX (lv' := [(1, .int 4), (0, .ref s0)]) (v := 4) 0 dX1_init_46 rfl (by decide) (by decide) rfl ?_
  refine g_goto hX 24 dX1_init_49 (by decide) ?_
  refine g_iload_n hX dX1_init_24 rfl 0 rfl ?_
  refine g_aload_n hX dX1_init_25 rfl 1 rfl ?_
  refine g_get hX 1 h_X1_init_X1 0 rfl rfl 0 (by decide) k_X1_init_4 rfl (v := .ref q6) rfl dX1_init_26 ?_
  refine g_alen hX 1 2 rfl rfl (v := 4) rfl dX1_init_29 ?_
  refine g_icmp_ge hX 52 dX1_init_30 (by decide) (fun _ => ?_) (fun c0 => absurd c0 (by decide))
  refine g_sameq 1 (fSt (fun j => [s0, q6, q38_0, u42_1.1, u42_1.2.1, u42_1.2.2.1, u42_1.2.2.2, q38_2, u42_3.1, u42_3.2.1, u42_3.2.2.1, u42_3.2.2.2, q38_4, u42_5.1, u42_5.2.1, u42_5.2.2.1, u42_5.2.2.2, q38_6, u42_7.1, u42_7.2.1, u42_7.2.2.1, u42_7.2.2.2].getD (j - 18) 0)) rfl (fun j hj => by rcases (show j = 0 ∨ j = 1 ∨ j = 2 ∨ j = 3 by omega) with rfl | rfl | rfl | rfl <;> rfl) (ws' := wHi T (fun j => [s0, q6, q38_0, u42_1.1, u42_1.2.1, u42_1.2.2.1, u42_1.2.2.2, q38_2, u42_3.1, u42_3.2.1, u42_3.2.2.1, u42_3.2.2.2, q38_4, u42_5.1, u42_5.2.1, u42_5.2.2.1, u42_5.2.2.2, q38_6, u42_7.1, u42_7.2.1, u42_7.2.2.1, u42_7.2.2.2].getD (j - 18) 0) h0V) rfl ?_
  exact g_vretC hX dX1_init_52 (fun j => [s0, q6, q38_0, u42_1.1, u42_1.2.1, u42_1.2.2.1, u42_1.2.2.2, q38_2, u42_3.1, u42_3.2.1, u42_3.2.2.1, u42_3.2.2.2, q38_4, u42_5.1, u42_5.2.1, u42_5.2.2.1, u42_5.2.2.2, q38_6, u42_7.1, u42_7.2.1, u42_7.2.2.1, u42_7.2.2.2].getD (j - 18) 0) ⟨rfl, rfl⟩
