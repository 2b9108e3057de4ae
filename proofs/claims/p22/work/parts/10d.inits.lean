def rmX5_init : Room := { frames := 1, cells := 6, slots := 356, locals := 14 }
theorem k_X5_init_0 : Cond.methodLink RX5 1 objectInit ∈ wsX5_init := List.mem_of_getElem? (i := 1) rfl
theorem k_X5_init_1 : Cond.instanceMethod objectInit ∈ wsX5_init := List.mem_of_getElem? (i := 2) rfl
theorem k_X5_init_2 : Cond.code objectInit ⟨#[0xb1]⟩ 1 none ∈ wsX5_init := List.mem_of_getElem? (i := 3) rfl
theorem k_X5_init_3 : Cond.arrayClass .int ∈ wsX5_init := List.mem_of_getElem? (i := 4) rfl
theorem k_X5_init_4 : Cond.fieldLink RX5 7 RX5 (TX5 0).2.1 (TX5 0).2.2.1 ∈ wsX5_init := List.mem_of_getElem? (i := 5) rfl
theorem h_X5_init_X5 : ∀ w ∈ u_ws RX5 TX5 12, w ∈ wsX5_init := fun w h => List.mem_cons_of_mem _ (List.mem_append_right _ h)
theorem k_X5_init_5 : Cond.fieldLink RX5 13 RX5 (TX5 1).2.1 (TX5 1).2.2.1 ∈ wsX5_init := List.mem_of_getElem? (i := 6) rfl
theorem k_X5_init_6 : Cond.fieldLink RX5 16 RX5 (TX5 2).2.1 (TX5 2).2.2.1 ∈ wsX5_init := List.mem_of_getElem? (i := 7) rfl
theorem k_X5_init_7 : Cond.fieldLink RX5 19 RX5 (TX5 3).2.1 (TX5 3).2.2.1 ∈ wsX5_init := List.mem_of_getElem? (i := 8) rfl
theorem k_X5_init_8 : Cond.fieldLink RX5 22 RX5 (TX5 5).2.1 (TX5 5).2.2.1 ∈ wsX5_init := List.mem_of_getElem? (i := 9) rfl
theorem k_X5_init_9 : Cond.fieldLink RX5 25 RX5 (TX5 7).2.1 (TX5 7).2.2.1 ∈ wsX5_init := List.mem_of_getElem? (i := 10) rfl
theorem k_X5_init_10 : Cond.fieldLink RX5 28 RX5 (TX5 11).2.1 (TX5 11).2.2.1 ∈ wsX5_init := List.mem_of_getElem? (i := 11) rfl
set_option maxHeartbeats 4000000 in
set_option maxRecDepth 100000 in
theorem c_X5_init (l : Launch) (T : TT) (b0 : Nat) (s0 : Nat) : ConC l T b0 yX5_init wsX5_init rmX5_init [.ref s0] [(s0, .inr (5, [.null, .null, .null, .null, .int 0, .null, .int 0, .null, .int 0, .int 0, .int 0, .int 0]))] (Nat × Nat × Nat × Nat × Nat × Nat) (fun (h : Nat × Nat × Nat × Nat × Nat × Nat) (w : va_W) => w = wMo T s0 h.1 h.2.1 h.2.2.1 h.2.2.2.1 h.2.2.2.2.1 h.2.2.2.2.2 mv0) 6 356 := by
  refine conC_of (cc := cX5_init) (maxL := 1) (ret := none) (lv0 := [(0, .ref s0)]) (by decide +kernel) rfl rfl (Nat.le_of_ble_eq_true rfl) rfl (fun X hX hin => ?_)
  refine g_aload_n hX dX5_init_0 rfl 0 rfl ?_
  refine g_objInit hX k_X5_init_0 k_X5_init_1 k_X5_init_2 (Nat.le_of_ble_eq_true rfl) (Nat.le_of_ble_eq_true rfl) dX5_init_1 ?_
  refine g_aload_n hX dX5_init_4 rfl 0 rfl ?_
  refine g_bipush hX (v := 37) dX5_init_5 (by decide) ?_
  refine g_newI hX 37 (by decide) (by decide) (by decide) k_X5_init_3 (Nat.le_of_ble_eq_true rfl) (Nat.le_of_ble_eq_true rfl) dX5_init_7 (fun q7 => ?_)
  refine g_putF hX 5 h_X5_init_X5 0 rfl rfl 0 (by decide) tyX5 tyX5_ok nmX5 k_X5_init_4 rfl rfl hin rfl rfl rfl rfl (Nat.le_of_ble_eq_true rfl) dX5_init_9 (ws' := [(s0, .inr (5, [.ref q7, .null, .null, .null, .int 0, .null, .int 0, .null, .int 0, .int 0, .int 0, .int 0]))] ++ [(q7, .inl (T.2.1, 37, .inl (fun _ => 0)))]) rfl ?_
  refine g_aload_n hX dX5_init_12 rfl 0 rfl ?_
  refine g_bipush hX (v := 37) dX5_init_13 (by decide) ?_
  refine g_newI hX 37 (by decide) (by decide) (by decide) k_X5_init_3 (Nat.le_of_ble_eq_true rfl) (Nat.le_of_ble_eq_true rfl) dX5_init_15 (fun q15 => ?_)
  refine g_putF hX 5 h_X5_init_X5 0 rfl rfl 1 (by decide) tyX5 tyX5_ok nmX5 k_X5_init_5 rfl rfl hin rfl rfl rfl rfl (Nat.le_of_ble_eq_true rfl) dX5_init_17 (ws' := [(s0, .inr (5, [.ref q7, .ref q15, .null, .null, .int 0, .null, .int 0, .null, .int 0, .int 0, .int 0, .int 0]))] ++ [(q7, .inl (T.2.1, 37, .inl (fun _ => 0)))] ++ [(q15, .inl (T.2.1, 37, .inl (fun _ => 0)))]) rfl ?_
  refine g_aload_n hX dX5_init_20 rfl 0 rfl ?_
  refine g_bipush hX (v := 37) dX5_init_21 (by decide) ?_
  refine g_newI hX 37 (by decide) (by decide) (by decide) k_X5_init_3 (Nat.le_of_ble_eq_true rfl) (Nat.le_of_ble_eq_true rfl) dX5_init_23 (fun q23 => ?_)
  refine g_putF hX 5 h_X5_init_X5 0 rfl rfl 2 (by decide) tyX5 tyX5_ok nmX5 k_X5_init_6 rfl rfl hin rfl rfl rfl rfl (Nat.le_of_ble_eq_true rfl) dX5_init_25 (ws' := [(s0, .inr (5, [.ref q7, .ref q15, .ref q23, .null, .int 0, .null, .int 0, .null, .int 0, .int 0, .int 0, .int 0]))] ++ [(q7, .inl (T.2.1, 37, .inl (fun _ => 0)))] ++ [(q15, .inl (T.2.1, 37, .inl (fun _ => 0)))] ++ [(q23, .inl (T.2.1, 37, .inl (fun _ => 0)))]) rfl ?_
  refine g_aload_n hX dX5_init_28 rfl 0 rfl ?_
  refine g_sipush hX (v := 148) dX5_init_29 (by decide) ?_
  refine g_newI hX 148 (by decide) (by decide) (by decide) k_X5_init_3 (Nat.le_of_ble_eq_true rfl) (Nat.le_of_ble_eq_true rfl) dX5_init_32 (fun q32 => ?_)
  refine g_putF hX 5 h_X5_init_X5 0 rfl rfl 3 (by decide) tyX5 tyX5_ok nmX5 k_X5_init_7 rfl rfl hin rfl rfl rfl rfl (Nat.le_of_ble_eq_true rfl) dX5_init_34 (ws' := [(s0, .inr (5, [.ref q7, .ref q15, .ref q23, .ref q32, .int 0, .null, .int 0, .null, .int 0, .int 0, .int 0, .int 0]))] ++ [(q7, .inl (T.2.1, 37, .inl (fun _ => 0)))] ++ [(q15, .inl (T.2.1, 37, .inl (fun _ => 0)))] ++ [(q23, .inl (T.2.1, 37, .inl (fun _ => 0)))] ++ [(q32, .inl (T.2.1, 148, .inl (fun _ => 0)))]) rfl ?_
  refine g_aload_n hX dX5_init_37 rfl 0 rfl ?_
  refine g_bipush hX (v := 37) dX5_init_38 (by decide) ?_
  refine g_newI hX 37 (by decide) (by decide) (by decide) k_X5_init_3 (Nat.le_of_ble_eq_true rfl) (Nat.le_of_ble_eq_true rfl) dX5_init_40 (fun q40 => ?_)
  refine g_putF hX 5 h_X5_init_X5 0 rfl rfl 5 (by decide) tyX5 tyX5_ok nmX5 k_X5_init_8 rfl rfl hin rfl rfl rfl rfl (Nat.le_of_ble_eq_true rfl) dX5_init_42 (ws' := [(s0, .inr (5, [.ref q7, .ref q15, .ref q23, .ref q32, .int 0, .ref q40, .int 0, .null, .int 0, .int 0, .int 0, .int 0]))] ++ [(q7, .inl (T.2.1, 37, .inl (fun _ => 0)))] ++ [(q15, .inl (T.2.1, 37, .inl (fun _ => 0)))] ++ [(q23, .inl (T.2.1, 37, .inl (fun _ => 0)))] ++ [(q32, .inl (T.2.1, 148, .inl (fun _ => 0)))] ++ [(q40, .inl (T.2.1, 37, .inl (fun _ => 0)))]) rfl ?_
  refine g_aload_n hX dX5_init_45 rfl 0 rfl ?_
  refine g_bipush hX (v := 60) dX5_init_46 (by decide) ?_
  refine g_newI hX 60 (by decide) (by decide) (by decide) k_X5_init_3 (Nat.le_of_ble_eq_true rfl) (Nat.le_of_ble_eq_true rfl) dX5_init_48 (fun q48 => ?_)
  refine g_putF hX 5 h_X5_init_X5 0 rfl rfl 7 (by decide) tyX5 tyX5_ok nmX5 k_X5_init_9 rfl rfl hin rfl rfl rfl rfl (Nat.le_of_ble_eq_true rfl) dX5_init_50 (ws' := [(s0, .inr (5, [.ref q7, .ref q15, .ref q23, .ref q32, .int 0, .ref q40, .int 0, .ref q48, .int 0, .int 0, .int 0, .int 0]))] ++ [(q7, .inl (T.2.1, 37, .inl (fun _ => 0)))] ++ [(q15, .inl (T.2.1, 37, .inl (fun _ => 0)))] ++ [(q23, .inl (T.2.1, 37, .inl (fun _ => 0)))] ++ [(q32, .inl (T.2.1, 148, .inl (fun _ => 0)))] ++ [(q40, .inl (T.2.1, 37, .inl (fun _ => 0)))] ++ [(q48, .inl (T.2.1, 60, .inl (fun _ => 0)))]) rfl ?_
  refine g_aload_n hX dX5_init_53 rfl 0 rfl ?_
  refine g_bipush hX (v := (-5)) dX5_init_54 (by decide) ?_
  refine g_put hX 5 h_X5_init_X5 0 rfl rfl 11 (by decide) tyX5 tyX5_ok nmX5 k_X5_init_10 rfl rfl  rfl rfl rfl (Nat.le_of_ble_eq_true rfl) dX5_init_56 (ws' := [(s0, .inr (5, [.ref q7, .ref q15, .ref q23, .ref q32, .int 0, .ref q40, .int 0, .ref q48, .int 0, .int 0, .int 0, .int (-5)]))] ++ [(q7, .inl (T.2.1, 37, .inl (fun _ => 0)))] ++ [(q15, .inl (T.2.1, 37, .inl (fun _ => 0)))] ++ [(q23, .inl (T.2.1, 37, .inl (fun _ => 0)))] ++ [(q32, .inl (T.2.1, 148, .inl (fun _ => 0)))] ++ [(q40, .inl (T.2.1, 37, .inl (fun _ => 0)))] ++ [(q48, .inl (T.2.1, 60, .inl (fun _ => 0)))]) rfl ?_
  refine g_aload_n hX dX5_init_59 rfl 0 rfl ?_
  refine g_get hX 5 h_X5_init_X5 0 rfl rfl 0 (by decide) k_X5_init_4 rfl (v := .ref q7) rfl dX5_init_60 ?_
  refine g_bipush hX (v := 24) dX5_init_63 (by decide) ?_
  refine g_iconst hX (v := 5) dX5_init_65 (by decide) ?_
  refine g_iast hX 1 rfl (vin_c (by decide)) dX5_init_66 (ws' := [(s0, .inr (5, [.ref q7, .ref q15, .ref q23, .ref q32, .int 0, .ref q40, .int 0, .ref q48, .int 0, .int 0, .int 0, .int (-5)]))] ++ [(q7, .inl (T.2.1, 37, .inl (upd (fun _ => 0) 24 5)))] ++ [(q15, .inl (T.2.1, 37, .inl (fun _ => 0)))] ++ [(q23, .inl (T.2.1, 37, .inl (fun _ => 0)))] ++ [(q32, .inl (T.2.1, 148, .inl (fun _ => 0)))] ++ [(q40, .inl (T.2.1, 37, .inl (fun _ => 0)))] ++ [(q48, .inl (T.2.1, 60, .inl (fun _ => 0)))]) (by rw [show Int32.toNatClampNeg 24 = 24 from by decide] <;> rfl) ?_
  refine g_aload_n hX dX5_init_67 rfl 0 rfl ?_
  refine g_get hX 5 h_X5_init_X5 0 rfl rfl 0 (by decide) k_X5_init_4 rfl (v := .ref q7) rfl dX5_init_68 ?_
  refine g_bipush hX (v := 25) dX5_init_71 (by decide) ?_
  refine g_iconst hX (v := 3) dX5_init_73 (by decide) ?_
  refine g_iast hX 1 rfl (vin_c (by decide)) dX5_init_74 (ws' := [(s0, .inr (5, [.ref q7, .ref q15, .ref q23, .ref q32, .int 0, .ref q40, .int 0, .ref q48, .int 0, .int 0, .int 0, .int (-5)]))] ++ [(q7, .inl (T.2.1, 37, .inl (upd (upd (fun _ => 0) 24 5) 25 3)))] ++ [(q15, .inl (T.2.1, 37, .inl (fun _ => 0)))] ++ [(q23, .inl (T.2.1, 37, .inl (fun _ => 0)))] ++ [(q32, .inl (T.2.1, 148, .inl (fun _ => 0)))] ++ [(q40, .inl (T.2.1, 37, .inl (fun _ => 0)))] ++ [(q48, .inl (T.2.1, 60, .inl (fun _ => 0)))]) (by rw [show Int32.toNatClampNeg 25 = 25 from by decide] <;> rfl) ?_
  refine g_aload_n hX dX5_init_75 rfl 0 rfl ?_
  refine g_get hX 5 h_X5_init_X5 0 rfl rfl 0 (by decide) k_X5_init_4 rfl (v := .ref q7) rfl dX5_init_76 ?_
  refine g_bipush hX (v := 27) dX5_init_79 (by decide) ?_
  refine g_bipush hX (v := 10) dX5_init_81 (by decide) ?_
  refine g_iast hX 1 rfl (vin_c (by decide)) dX5_init_83 (ws' := [(s0, .inr (5, [.ref q7, .ref q15, .ref q23, .ref q32, .int 0, .ref q40, .int 0, .ref q48, .int 0, .int 0, .int 0, .int (-5)]))] ++ [(q7, .inl (T.2.1, 37, .inl (upd (upd (upd (fun _ => 0) 24 5) 25 3) 27 10)))] ++ [(q15, .inl (T.2.1, 37, .inl (fun _ => 0)))] ++ [(q23, .inl (T.2.1, 37, .inl (fun _ => 0)))] ++ [(q32, .inl (T.2.1, 148, .inl (fun _ => 0)))] ++ [(q40, .inl (T.2.1, 37, .inl (fun _ => 0)))] ++ [(q48, .inl (T.2.1, 60, .inl (fun _ => 0)))]) (by rw [show Int32.toNatClampNeg 27 = 27 from by decide] <;> rfl) ?_
  refine g_aload_n hX dX5_init_84 rfl 0 rfl ?_
  refine g_get hX 5 h_X5_init_X5 0 rfl rfl 0 (by decide) k_X5_init_4 rfl (v := .ref q7) rfl dX5_init_85 ?_
  refine g_bipush hX (v := 28) dX5_init_88 (by decide) ?_
  refine g_bipush hX (v := 60) dX5_init_90 (by decide) ?_
  refine g_iast hX 1 rfl (vin_c (by decide)) dX5_init_92 (ws' := [(s0, .inr (5, [.ref q7, .ref q15, .ref q23, .ref q32, .int 0, .ref q40, .int 0, .ref q48, .int 0, .int 0, .int 0, .int (-5)]))] ++ [(q7, .inl (T.2.1, 37, .inl (upd (upd (upd (upd (fun _ => 0) 24 5) 25 3) 27 10) 28 60)))] ++ [(q15, .inl (T.2.1, 37, .inl (fun _ => 0)))] ++ [(q23, .inl (T.2.1, 37, .inl (fun _ => 0)))] ++ [(q32, .inl (T.2.1, 148, .inl (fun _ => 0)))] ++ [(q40, .inl (T.2.1, 37, .inl (fun _ => 0)))] ++ [(q48, .inl (T.2.1, 60, .inl (fun _ => 0)))]) (by rw [show Int32.toNatClampNeg 28 = 28 from by decide] <;> rfl) ?_
  refine g_aload_n hX dX5_init_93 rfl 0 rfl ?_
  refine g_get hX 5 h_X5_init_X5 0 rfl rfl 0 (by decide) k_X5_init_4 rfl (v := .ref q7) rfl dX5_init_94 ?_
  refine g_bipush hX (v := 30) dX5_init_97 (by decide) ?_
  refine g_sipush hX (v := 5000) dX5_init_99 (by decide) ?_
  refine g_iast hX 1 rfl (vin_c (by decide)) dX5_init_102 (ws' := [(s0, .inr (5, [.ref q7, .ref q15, .ref q23, .ref q32, .int 0, .ref q40, .int 0, .ref q48, .int 0, .int 0, .int 0, .int (-5)]))] ++ [(q7, .inl (T.2.1, 37, .inl (upd (upd (upd (upd (upd (fun _ => 0) 24 5) 25 3) 27 10) 28 60) 30 5000)))] ++ [(q15, .inl (T.2.1, 37, .inl (fun _ => 0)))] ++ [(q23, .inl (T.2.1, 37, .inl (fun _ => 0)))] ++ [(q32, .inl (T.2.1, 148, .inl (fun _ => 0)))] ++ [(q40, .inl (T.2.1, 37, .inl (fun _ => 0)))] ++ [(q48, .inl (T.2.1, 60, .inl (fun _ => 0)))]) (by rw [show Int32.toNatClampNeg 30 = 30 from by decide] <;> rfl) ?_
  refine g_aload_n hX dX5_init_103 rfl 0 rfl ?_
  refine g_get hX 5 h_X5_init_X5 0 rfl rfl 0 (by decide) k_X5_init_4 rfl (v := .ref q7) rfl dX5_init_104 ?_
  refine g_bipush hX (v := 34) dX5_init_107 (by decide) ?_
  refine g_bipush hX (v := (-5)) dX5_init_109 (by decide) ?_
  refine g_iast hX 1 rfl (vin_c (by decide)) dX5_init_111 (ws' := [(s0, .inr (5, [.ref q7, .ref q15, .ref q23, .ref q32, .int 0, .ref q40, .int 0, .ref q48, .int 0, .int 0, .int 0, .int (-5)]))] ++ [(q7, .inl (T.2.1, 37, .inl (upd (upd (upd (upd (upd (upd (fun _ => 0) 24 5) 25 3) 27 10) 28 60) 30 5000) 34 (-5))))] ++ [(q15, .inl (T.2.1, 37, .inl (fun _ => 0)))] ++ [(q23, .inl (T.2.1, 37, .inl (fun _ => 0)))] ++ [(q32, .inl (T.2.1, 148, .inl (fun _ => 0)))] ++ [(q40, .inl (T.2.1, 37, .inl (fun _ => 0)))] ++ [(q48, .inl (T.2.1, 60, .inl (fun _ => 0)))]) (by rw [show Int32.toNatClampNeg 34 = 34 from by decide] <;> rfl) ?_
  refine g_same 1 a0V rfl (fun j hj => (show ∀ j : Fin 37, (upd (upd (upd (upd (upd (upd (fun _ => 0) 24 5) 25 3) 27 10) 28 60) 30 5000) 34 (-5)) j.val = a0V j.val from by decide +kernel) ⟨j, hj⟩) (ws' := wMo T s0 q7 q15 q23 q32 q40 q48 mv0) rfl ?_
  exact g_vretC hX dX5_init_112 (q7, q15, q23, q32, q40, q48) rfl
