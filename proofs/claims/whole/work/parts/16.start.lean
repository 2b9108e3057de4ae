/-! The law's walk from its entry -/
set_option maxHeartbeats 4000000 in
set_option maxRecDepth 100000 in
theorem law_body {T : TT} {X : CX} (hX : Fit T X RL 4 wsL_law cL_law (some .boolean) room_1) {Q : State → Prop} {b L : Nat} {xs : Nat → Int32} (hs : Scr X b L xs) (hL : L ≤ 2048) (kend : ∀ (ws : va_W) (lv : List (Nat × Value)), G T X Q 51 894 ws lv 510 [.int 1]) : G T X Q 0 0 [] [(0, .ref b)] 0 [] := by
  refine g_new hX 4 (fs := [.null, .null, .null, .null, .null, .null, .int 0, .int 0]) inlX4 tyX4 tyX4_ok kL_0 kL_1 kL_2 rfl (fun j hj => by rcases (show j = 0 ∨ j = 1 ∨ j = 2 ∨ j = 3 ∨ j = 4 ∨ j = 5 ∨ j = 6 ∨ j = 7 by omega) with rfl | rfl | rfl | rfl | rfl | rfl | rfl | rfl <;> rfl) (Nat.le_of_ble_eq_true rfl) (Nat.le_of_ble_eq_true rfl) dL_law_0 (fun x0 => ?_)
  refine g_dup hX dL_law_3 rfl ?_
  refine g_cI hX (cells := 1) (slots := 8) (n := 0) (As := []) (st := [.ref x0]) (wr := []) (c_X4_init (xL X) T (xB X) x0) gL_law_X4_init kL_6 kL_2 kL_7 rfl rfl rfl rfl ⟨Nat.le_of_ble_eq_true rfl, Nat.le_of_ble_eq_true rfl⟩ ⟨Nat.le_of_ble_eq_true rfl, Nat.le_of_ble_eq_true rfl⟩ ⟨by decide +kernel, by decide +kernel, by decide +kernel⟩ rfl rfl (Nat.le_of_ble_eq_true rfl) dL_law_4 (fun ad w1 hp1 => ?_)
  obtain ⟨e0, rfl⟩ := hp1
  subst e0
  refine g_astore_n hX (lv' := [(1, .ref (ad 0)), (0, .ref b)]) dL_law_7 rfl (by decide) rfl ?_
  refine g_new hX (cells := 44) (slots := 526) (ws := wXX T ad xv0) 5 (fs := [.null, .null, .null, .null, .int 0, .null, .int 0, .null, .int 0, .int 0, .int 0, .int 0]) inlX5 tyX5 tyX5_ok kL_3 kL_4 kL_5 rfl (fun j hj => by rcases (show j = 0 ∨ j = 1 ∨ j = 2 ∨ j = 3 ∨ j = 4 ∨ j = 5 ∨ j = 6 ∨ j = 7 ∨ j = 8 ∨ j = 9 ∨ j = 10 ∨ j = 11 by omega) with rfl | rfl | rfl | rfl | rfl | rfl | rfl | rfl | rfl | rfl | rfl | rfl <;> rfl) (Nat.le_of_ble_eq_true rfl) (Nat.le_of_ble_eq_true rfl) dL_law_8 (fun x1 => ?_)
  refine g_dup hX dL_law_11 rfl ?_
  refine g_cI hX (cells := 45) (slots := 538) (n := 0) (As := []) (st := [.ref x1]) (wr := wXX T ad xv0) (c_X5_init (xL X) T (xB X) x1) gL_law_X5_init kL_79 kL_5 kL_80 rfl rfl rfl rfl ⟨Nat.le_of_ble_eq_true rfl, Nat.le_of_ble_eq_true rfl⟩ ⟨Nat.le_of_ble_eq_true rfl, Nat.le_of_ble_eq_true rfl⟩ ⟨by decide +kernel, by decide +kernel, by decide +kernel⟩ rfl rfl (Nat.le_of_ble_eq_true rfl) dL_law_12 (fun h w1 hp1 => ?_)
  subst hp1
  refine g_astore_n hX (lv' := [(2, .ref x1), (1, .ref (ad 0)), (0, .ref b)]) dL_law_15 rfl (by decide) rfl ?_
  refine g_iconst hX (v := nI (4 * 0)) dL_law_16 (by decide +kernel) ?_
  refine g_istore_n hX (lv' := [(3, .int (nI (4 * 0))), (2, .ref x1), (1, .ref (ad 0)), (0, .ref b)]) dL_law_17 rfl (by decide) rfl ?_
  exact law_loop hX hs hL (fun xv mv lv => kend _ lv) 513 0 xv0 mv0 rfl (by omega) (by omega) RX_new
