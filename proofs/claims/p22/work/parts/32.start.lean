/-! The law's walk from its entry -/
theorem rem5 {k : Nat} (hk : k < 2 ^ 31) : ¬ (5 : Int32) = 0 := by decide
set_option maxHeartbeats 4000000 in
set_option maxRecDepth 100000 in
theorem law_end {T : TT} {X : CX} (hX : Fit T X RL 5 wsTL cL_law (some .boolean) room_1) {Q : State → Prop} {b : Nat} {ad bd : Nat → Nat} (kend : ∀ (ws : va_W) (lv : List (Nat × Value)), G T X Q 88 1052 ws lv 96 [.int 1]) {xv yv : XV} {B : Nat} (hB : B < 2 ^ 20) (H : Inv B xv yv) (k9 : Value) : G T X Q 88 1052 (wXX T ad xv ++ wXX T bd yv) [(4, k9), (3, .int 1), (2, .ref (bd 0)), (1, .ref (ad 0)), (0, .ref b)] 72 [] := by
  obtain ⟨hx, hy, he, hw⟩ := H
  obtain ⟨v, e, hv⟩ := isWell_w hx hw hB
  refine g_iload_n hX dL_law_72 rfl 1 rfl ?_
  refine g_if_eq hX 95 dL_law_73 (by decide) (fun z => absurd z (by decide)) (fun _ => ?_)
  refine g_aload_n hX dL_law_76 rfl 3 rfl ?_
  refine g_pS_I hX (rest := wXX T bd yv) (n := 1) (As := [.ref (ad 0)]) (wc := wXX T ad xv) (w1 := wXX T ad (F_L_isWell xv).2) (rv := (F_L_isWell xv).1) (st := []) (c_L_isWell (xL X) T (xB X) ad xv hx) gT_isWell rfl rfl rfl ⟨Nat.le_of_ble_eq_true rfl, Nat.le_of_ble_eq_true rfl⟩ ⟨Nat.le_of_ble_eq_true rfl, Nat.le_of_ble_eq_true rfl⟩ ⟨by decide +kernel, by decide +kernel, by decide +kernel⟩ rfl rfl (wXX_map T ad _ _) rfl (Nat.le_of_ble_eq_true rfl) dL_law_77 rfl ?_
  rw [e]
  refine g_if_eq hX 95 dL_law_80 (by decide) (fun z => absurd z (show ¬ (1 : Int32) = 0 by decide)) (fun _ => ?_)
  refine g_aload_n hX dL_law_83 rfl 3 rfl ?_
  refine g_aload_n hX dL_law_84 rfl 2 rfl ?_
  refine g_pS_I hX (rest := []) (n := 2) (As := [.ref (ad 0), .ref (bd 0)]) (wc := wXX T ad (wTr xv v) ++ wXX T bd yv) (w1 := wXX T ad (F_L_areAlike (wTr xv v) yv).2.1 ++ wXX T bd (F_L_areAlike (wTr xv v) yv).2.2) (rv := (F_L_areAlike (wTr xv v) yv).1) (st := []) (c_L_areAlike (xL X) T (xB X) ad bd (wTr xv v) yv hv hy) gT_areAlike rfl rfl rfl ⟨Nat.le_of_ble_eq_true rfl, Nat.le_of_ble_eq_true rfl⟩ ⟨Nat.le_of_ble_eq_true rfl, Nat.le_of_ble_eq_true rfl⟩ ⟨by decide +kernel, by decide +kernel, by decide +kernel⟩ rfl (List.append_nil _).symm (wXX2_map T ad bd _ _ _ _) rfl (Nat.le_of_ble_eq_true rfl) dL_law_85 (List.append_nil _) ?_
  have ea : (F_L_areAlike (wTr xv v) yv).1 = 1 := alike_w hv hy he
  rw [ea]
  refine g_if_eq hX 95 dL_law_88 (by decide) (fun z => absurd z (show ¬ (1 : Int32) = 0 by decide)) (fun _ => ?_)
  refine g_iconst hX (v := 1) dL_law_91 (by decide) ?_
  refine g_goto hX 96 dL_law_92 (by decide) ?_
  exact kend _ _
set_option maxHeartbeats 4000000 in
set_option maxRecDepth 100000 in
theorem law_loop {T : TT} {X : CX} (hX : Fit T X RL 5 wsTL cL_law (some .boolean) room_1) {Q : State → Prop} {b L : Nat} {ad bd : Nat → Nat} {xs : Nat → Int32} (hs : Scr X b L xs) (hL : L ≤ 260) (kend : ∀ (ws : va_W) (lv : List (Nat × Value)), G T X Q 88 1052 ws lv 96 [.int 1]) : ∀ (r k : Nat) (xv yv : XV), k + r = 53 → k ≤ 52 → Inv k xv yv → G T X Q 88 1052 (wXX T ad xv ++ wXX T bd yv) [(4, .int (nI k)), (3, .int 1), (2, .ref (bd 0)), (1, .ref (ad 0)), (0, .ref b)] 21 [] := by
  intro r
  induction r with
  | zero => intro k xv yv h1 h2; omega
  | succ r ih =>
    intro k xv yv h1 h2 H
    have c52 : ((52 : Int32) ≤ nI k) ↔ 52 ≤ k := nI_leI (a := 52) (by omega) (by omega)
    refine g_iload hX dL_law_21 0 rfl ?_
    refine g_bipush hX (v := 52) dL_law_23 (by decide) ?_
    refine g_icmp_ge hX 72 dL_law_25 (by decide) (fun c => ?_) (fun c => ?_)
    · exact law_end hX kend (by omega) H _
    · have hk : k < 52 := by
        rw [c52] at c
        omega
      refine g_iload_n hX dL_law_28 rfl 1 rfl ?_
      refine g_if_eq hX 72 dL_law_29 (by decide) (fun z => absurd z (by decide)) (fun _ => ?_)
      refine g_aload_n hX dL_law_32 rfl 3 rfl ?_
      refine g_aload_n hX dL_law_33 rfl 2 rfl ?_
      refine g_aload_n hX dL_law_34 rfl 4 rfl ?_
      refine g_iload hX dL_law_35 0 rfl ?_
      refine g_cell hX hs (by omega) (by omega) gT_cell ⟨Nat.le_of_ble_eq_true rfl, Nat.le_of_ble_eq_true rfl⟩ ⟨Nat.le_of_ble_eq_true rfl, Nat.le_of_ble_eq_true rfl⟩ (Nat.le_of_ble_eq_true rfl) dL_law_37 (fun x => ?_)
      have H2 := step_w H (by omega) x
      refine g_pS_I hX (rest := []) (n := 3) (As := [.ref (ad 0), .ref (bd 0), .int x]) (wc := wXX T ad xv ++ wXX T bd yv) (w1 := wXX T ad (F_L_isStep xv yv x).2.1 ++ wXX T bd (F_L_isStep xv yv x).2.2) (rv := (F_L_isStep xv yv x).1) (st := []) (c_L_isStep (xL X) T (xB X) ad bd xv yv x H.1 H.2.1) gT_isStep rfl rfl rfl ⟨Nat.le_of_ble_eq_true rfl, Nat.le_of_ble_eq_true rfl⟩ ⟨Nat.le_of_ble_eq_true rfl, Nat.le_of_ble_eq_true rfl⟩ ⟨by decide +kernel, by decide +kernel, by decide +kernel⟩ rfl (List.append_nil _).symm (wXX2_map T ad bd _ _ _ _) rfl (Nat.le_of_ble_eq_true rfl) dL_law_40 (List.append_nil _) ?_
      obtain ⟨e1, H3⟩ := H2
      rw [e1]
      generalize (F_L_isStep xv yv x).2.1 = xw at H3 ⊢
      generalize (F_L_isStep xv yv x).2.2 = yw at H3 ⊢
      refine g_if_eq hX 64 dL_law_43 (by decide) (fun z => absurd z (show ¬ (1 : Int32) = 0 by decide)) (fun _ => ?_)
      have tail : ∀ xu : XV, Inv (k + 1) xu yw → G T X Q 88 1052 (wXX T ad xu ++ wXX T bd yw) [(4, .int (nI k)), (3, .int 1), (2, .ref (bd 0)), (1, .ref (ad 0)), (0, .ref b)] 60 [] := fun xu Hu => by
        refine g_iconst hX (v := 1) dL_law_60 (by decide) ?_
        refine g_goto hX 65 dL_law_61 (by decide) ?_
        refine g_istore_n hX (lv' := [(3, .int 1), (4, .int (nI k)), (2, .ref (bd 0)), (1, .ref (ad 0)), (0, .ref b)]) dL_law_65 rfl (by decide) rfl ?_
        refine g_iinc hX (lv' := [(4, .int (nI (k + 1))), (3, .int 1), (2, .ref (bd 0)), (1, .ref (ad 0)), (0, .ref b)]) (v := nI (k + 1)) 1 dL_law_66 rfl (nI_1 _) (by decide) rfl ?_
        refine g_goto hX 21 dL_law_69 (by decide) ?_
        exact ih (k + 1) xu yw (by omega) (by omega) Hu
      refine g_iload hX dL_law_46 0 rfl ?_
      refine g_iconst hX (v := 5) dL_law_48 (by decide) ?_
      refine g_irem hX dL_law_49 (by decide) ?_
      refine g_if_gt hX 60 dL_law_50 (by decide) (fun _ => tail xw H3) (fun _ => ?_)
      obtain ⟨v, e, hv⟩ := isWell_w H3.1 H3.2.2.2 (by omega)
      refine g_aload_n hX dL_law_53 rfl 3 rfl ?_
      refine g_pS_I hX (rest := wXX T bd yw) (n := 1) (As := [.ref (ad 0)]) (wc := wXX T ad xw) (w1 := wXX T ad (F_L_isWell xw).2) (rv := (F_L_isWell xw).1) (st := []) (c_L_isWell (xL X) T (xB X) ad xw H3.1) gT_isWell rfl rfl rfl ⟨Nat.le_of_ble_eq_true rfl, Nat.le_of_ble_eq_true rfl⟩ ⟨Nat.le_of_ble_eq_true rfl, Nat.le_of_ble_eq_true rfl⟩ ⟨by decide +kernel, by decide +kernel, by decide +kernel⟩ rfl rfl (wXX_map T ad _ _) rfl (Nat.le_of_ble_eq_true rfl) dL_law_54 rfl ?_
      rw [e]
      refine g_if_eq hX 64 dL_law_57 (by decide) (fun z => absurd z (show ¬ (1 : Int32) = 0 by decide)) (fun _ => ?_)
      exact tail (wTr xw v) ⟨hv, H3.2.1, H3.2.2.1, H3.2.2.2⟩
set_option maxHeartbeats 4000000 in
set_option maxRecDepth 100000 in
theorem law_body {T : TT} {X : CX} (hX : Fit T X RL 5 wsTL cL_law (some .boolean) room_1) {Q : State → Prop} {b L : Nat} {xs : Nat → Int32} (hs : Scr X b L xs) (hL : L ≤ 260) (kend : ∀ (ws : va_W) (lv : List (Nat × Value)), G T X Q 88 1052 ws lv 96 [.int 1]) : G T X Q 0 0 [] [(0, .ref b)] 0 [] := by
  refine g_new hX 4 (fs := [.null, .null, .null, .null, .null, .null, .int 0, .int 0]) inTX4 tyX4 tyX4_ok kT_0 kT_1 kT_2 rfl (fun j hj => by rcases (show j = 0 ∨ j = 1 ∨ j = 2 ∨ j = 3 ∨ j = 4 ∨ j = 5 ∨ j = 6 ∨ j = 7 by omega) with rfl | rfl | rfl | rfl | rfl | rfl | rfl | rfl <;> rfl) (Nat.le_of_ble_eq_true rfl) (Nat.le_of_ble_eq_true rfl) dL_law_0 (fun x0 => ?_)
  refine g_dup hX dL_law_3 rfl ?_
  refine g_cI hX (cells := 1) (slots := 8) (n := 0) (As := []) (st := [.ref x0]) (wr := []) (c_X4_init (xL X) T (xB X) x0) ggT_X4_init kT_3 kT_2 kT_4 rfl rfl rfl rfl ⟨Nat.le_of_ble_eq_true rfl, Nat.le_of_ble_eq_true rfl⟩ ⟨Nat.le_of_ble_eq_true rfl, Nat.le_of_ble_eq_true rfl⟩ ⟨by decide +kernel, by decide +kernel, by decide +kernel⟩ rfl rfl (Nat.le_of_ble_eq_true rfl) dL_law_4 (fun ad w1 hp1 => ?_)
  obtain ⟨e0, rfl⟩ := hp1
  subst e0
  refine g_astore_n hX (lv' := [(1, .ref (ad 0)), (0, .ref b)]) dL_law_7 rfl (by decide) rfl ?_
  refine g_new hX (cells := 44) (slots := 526) (ws := wXX T ad xv0) 4 (fs := [.null, .null, .null, .null, .null, .null, .int 0, .int 0]) inTX4 tyX4 tyX4_ok kT_0 kT_1 kT_2 rfl (fun j hj => by rcases (show j = 0 ∨ j = 1 ∨ j = 2 ∨ j = 3 ∨ j = 4 ∨ j = 5 ∨ j = 6 ∨ j = 7 by omega) with rfl | rfl | rfl | rfl | rfl | rfl | rfl | rfl <;> rfl) (Nat.le_of_ble_eq_true rfl) (Nat.le_of_ble_eq_true rfl) dL_law_8 (fun x1 => ?_)
  refine g_dup hX dL_law_11 rfl ?_
  refine g_cI hX (cells := 45) (slots := 534) (n := 0) (As := []) (st := [.ref x1]) (wr := wXX T ad xv0) (c_X4_init (xL X) T (xB X) x1) ggT_X4_init kT_3 kT_2 kT_4 rfl rfl rfl rfl ⟨Nat.le_of_ble_eq_true rfl, Nat.le_of_ble_eq_true rfl⟩ ⟨Nat.le_of_ble_eq_true rfl, Nat.le_of_ble_eq_true rfl⟩ ⟨by decide +kernel, by decide +kernel, by decide +kernel⟩ rfl rfl (Nat.le_of_ble_eq_true rfl) dL_law_12 (fun bd w1 hp1 => ?_)
  obtain ⟨e0, rfl⟩ := hp1
  subst e0
  refine g_astore_n hX (lv' := [(2, .ref (bd 0)), (1, .ref (ad 0)), (0, .ref b)]) dL_law_15 rfl (by decide) rfl ?_
  refine g_iconst hX (v := 1) dL_law_16 (by decide) ?_
  refine g_istore_n hX (lv' := [(3, .int 1), (2, .ref (bd 0)), (1, .ref (ad 0)), (0, .ref b)]) dL_law_17 rfl (by decide) rfl ?_
  refine g_iconst hX (v := nI 0) dL_law_18 (by decide +kernel) ?_
  refine g_istore hX (lv' := [(4, .int (nI 0)), (3, .int 1), (2, .ref (bd 0)), (1, .ref (ad 0)), (0, .ref b)]) dL_law_19 (by decide) rfl ?_
  exact law_loop hX hs hL kend 53 0 xv0 xv0 (by omega) (by omega) Inv_new
