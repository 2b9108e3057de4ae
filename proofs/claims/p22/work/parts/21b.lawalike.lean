/-! L_areAlike -/
def rmL_areAlike : Room := { frames := 5, cells := 0, slots := 0, locals := 109 }
def K_L_areAlike_79 : Nat → XV → XV → Nat → Int32 → Int32 × XV × XV
  | 0, xv, yv, j, e => (0, xv, yv)
  | n + 1, xv, yv, j, e => (if 12 ≤ (nI j) then (e, xv, yv) else (let b_120_1 : Int32 := (if e = 0 then 0 else (if (F_X4_place xv (nI j) 0) = (F_X4_place yv (nI j) 0) then 1 else 0))
  (let b_120_2 : Int32 := (if b_120_1 = 0 then 0 else (if (F_X4_place xv (nI j) 1) = (F_X4_place yv (nI j) 1) then 1 else 0))
  (let b_120_3 : Int32 := (if b_120_2 = 0 then 0 else (if (F_X4_place xv (nI j) 2) = (F_X4_place yv (nI j) 2) then 1 else 0))
  (let b_120_4 : Int32 := (if b_120_3 = 0 then 0 else (if (F_X4_place xv (nI j) 3) = (F_X4_place yv (nI j) 3) then 1 else 0))
  K_L_areAlike_79 n xv yv (j + 1) b_120_4)))))
def K_L_areAlike_30 : Nat → XV → XV → Nat → Int32 → Int32 × XV × XV
  | 0, xv, yv, j, e => (0, xv, yv)
  | n + 1, xv, yv, j, e => (if 25 ≤ (nI j) then K_L_areAlike_79 14 xv yv 0 e else (let b_70_5 : Int32 := (if e = 0 then 0 else (if (nI j) = 15 then 1 else (if (nI j) = 16 then 1 else (if (F_X4_count xv (nI j)) = (F_X4_count yv (nI j)) then 1 else 0))))
  K_L_areAlike_30 n xv yv (j + 1) b_70_5))
def K_L_areAlike_28 (xv : XV) (yv : XV) (e : Int32) : Int32 × XV × XV :=
  K_L_areAlike_30 27 xv yv 0 e
def F_L_areAlike (xv : XV) (yv : XV) : Int32 × XV × XV :=
  (if (F_X4_wrong xv) = (F_X4_wrong yv) then (let z_12 := F_X4_breaksIn xv
  (let z_16 := F_X4_breaksIn yv
  (if z_12.1 = z_16.1 then K_L_areAlike_28 z_12.2 z_16.2 1 else K_L_areAlike_28 z_12.2 z_16.2 0))) else K_L_areAlike_28 xv yv 0)
set_option maxHeartbeats 4000000 in
set_option maxRecDepth 100000 in
theorem k_L_areAlike_79 {T : TT} {X : CX} (hX : Fit T X (yL_areAlike).cls 5 wsL_areAlike cL_areAlike (some .boolean) rmL_areAlike) (ad bd : Nat → Nat) : ∀ (n : Nat) (xv : XV) (yv : XV) (j : Nat) (e : Int32) (hn : j + n = 14) (hj : j ≤ 13) (he : e = 0 ∨ e = 1), G T X (QI T X 0 0 ((K_L_areAlike_79 n xv yv j e).1) (wXX T ad ((K_L_areAlike_79 n xv yv j e).2.1) ++ wXX T bd ((K_L_areAlike_79 n xv yv j e).2.2))) 0 0 (wXX T ad xv ++ wXX T bd yv) [(3, .int (nI j)), (2, .int e), (0, .ref (ad 0)), (1, .ref (bd 0))] 79 [] := by
  intro n
  induction n with
  | zero =>
    intro xv yv j e hn hj he
    exact absurd hn (by omega)
  | succ n ih =>
    intro xv yv j e hn hj he
    refine g_iload_n hX dL_areAlike_79 rfl 0 rfl ?_
    refine g_bipush hX (v := 12) dL_areAlike_80 (by decide) ?_
    refine g_icmp_ge hX 133 dL_areAlike_82 (by decide) (fun c_82 => ?_) (fun c_82 => ?_)
    · skip
      refine g_iload_n hX dL_areAlike_133 rfl 1 rfl ?_
      have e9 : K_L_areAlike_79 (n + 1) xv yv j e = (e, xv, yv) := by simp only [K_L_areAlike_79, eq_true c_82, if_true, if_false]
      rw [e9]
      exact g_zret hX dL_areAlike_134 (narrow_b he) rfl rfl
    · skip
      have hlt_82 : j < 12 := nlt_of c_82 (by decide) (by omega)
      refine g_iconst hX (v := 0) dL_areAlike_85 (by decide) ?_
      refine g_istore hX (lv' := [(4, .int 0), (3, .int (nI j)), (2, .int e), (0, .ref (ad 0)), (1, .ref (bd 0))]) dL_areAlike_86 (by decide) rfl ?_
      refine g_iload hX dL_areAlike_88 0 rfl ?_
      refine g_iconst hX (v := 4) dL_areAlike_90 (by decide) ?_
      refine g_icmp_ge hX 127 dL_areAlike_91 (by decide) (fun c0 => absurd c0 (by decide)) (fun _ => ?_)
      obtain ⟨b_120_1, hb_120_1⟩ : ∃ z : Int32, z = (if e = 0 then 0 else (if (F_X4_place xv (nI j) 0) = (F_X4_place yv (nI j) 0) then 1 else 0)) := ⟨_, rfl⟩
      refine g_join 120 (.int b_120_1 :: []) (fun hJ => ?_) ?_
      · skip
        refine g_iload_n hX dL_areAlike_94 rfl 2 rfl ?_
        refine g_if_eq hX 119 dL_areAlike_95 (by decide) (fun c_95 => ?_) (fun c_95 => ?_)
        · skip
          refine g_iconst hX (v := 0) dL_areAlike_119 (by decide) ?_
          have e8 : b_120_1 = 0 := by rw [hb_120_1]; simp only [eq_true c_95, if_true, if_false]
          rw [e8] at hJ
          exact hJ
        · skip
          refine g_aload_n hX dL_areAlike_98 rfl 3 rfl ?_
          refine g_iload_n hX dL_areAlike_99 rfl 1 rfl ?_
          refine g_iload hX dL_areAlike_100 0 rfl ?_
          refine g_pV_I hX (rest := wXX T bd yv) (n := 2) (As := [.int (nI j), .int 0]) (wc := wXX T ad xv) (w1 := wXX T ad xv) (rv := (F_X4_place xv (nI j) 0)) (st := []) 0 rfl rfl (c_X4_place (xL X) T (xB X) ad xv (nI j) 0) gL_areAlike_X4_place rfl rfl rfl ⟨Nat.le_of_ble_eq_true rfl, Nat.le_of_ble_eq_true rfl⟩ ⟨Nat.zero_le _, Nat.zero_le _⟩ ⟨by decide +kernel, by decide +kernel, by decide +kernel⟩ rfl rfl (wXX_map T ad _ _) rfl (Nat.le_of_ble_eq_true rfl) dL_areAlike_102 rfl ?_
          refine g_aload_n hX dL_areAlike_105 rfl 4 rfl ?_
          refine g_iload_n hX dL_areAlike_106 rfl 1 rfl ?_
          refine g_iload hX dL_areAlike_107 0 rfl ?_
          refine g_sV_I hX (rest := wXX T ad xv) (n := 2) (As := [.int (nI j), .int 0]) (wc := wXX T bd yv) (w1 := wXX T bd yv) (rv := (F_X4_place yv (nI j) 0)) (st := [.int (F_X4_place xv (nI j) 0)]) rfl rfl (c_X4_place (xL X) T (xB X) bd yv (nI j) 0) gL_areAlike_X4_place rfl rfl rfl ⟨Nat.le_of_ble_eq_true rfl, Nat.le_of_ble_eq_true rfl⟩ ⟨Nat.zero_le _, Nat.zero_le _⟩ ⟨by decide +kernel, by decide +kernel, by decide +kernel⟩ rfl (wXX_map T bd _ _) rfl (Nat.le_of_ble_eq_true rfl) dL_areAlike_109 ?_
          refine g_icmp_ne hX 119 dL_areAlike_112 (by decide) (fun c_112 => ?_) (fun c_112 => ?_)
          · skip
            refine g_iconst hX (v := 0) dL_areAlike_119 (by decide) ?_
            have e8 : b_120_1 = 0 := by rw [hb_120_1]; simp only [eq_false c_95, eq_false c_112, if_true, if_false]
            rw [e8] at hJ
            exact hJ
          · skip
            refine g_iconst hX (v := 1) dL_areAlike_115 (by decide) ?_
            refine g_goto hX 120 dL_areAlike_116 (by decide) ?_
            have e8 : b_120_1 = 1 := by rw [hb_120_1]; simp only [eq_false c_95, eq_true c_112, if_true, if_false]
            rw [e8] at hJ
            exact hJ
      refine g_istore_n hX (lv' := [(2, .int b_120_1), (4, .int 0), (3, .int (nI j)), (0, .ref (ad 0)), (1, .ref (bd 0))]) dL_areAlike_120 rfl (by decide) rfl ?_
      refine g_iinc hX (lv' := [(4, .int 1), (2, .int b_120_1), (3, .int (nI j)), (0, .ref (ad 0)), (1, .ref (bd 0))]) (v := 1) 1 dL_areAlike_121 rfl (by decide) (by decide) rfl ?_
      refine g_goto hX 88 dL_areAlike_124 (by decide) ?_
      refine g_iload hX dL_areAlike_88 0 rfl ?_
      refine g_iconst hX (v := 4) dL_areAlike_90 (by decide) ?_
      refine g_icmp_ge hX 127 dL_areAlike_91 (by decide) (fun c0 => absurd c0 (by decide)) (fun _ => ?_)
      obtain ⟨b_120_2, hb_120_2⟩ : ∃ z : Int32, z = (if b_120_1 = 0 then 0 else (if (F_X4_place xv (nI j) 1) = (F_X4_place yv (nI j) 1) then 1 else 0)) := ⟨_, rfl⟩
      refine g_join 120 (.int b_120_2 :: []) (fun hJ => ?_) ?_
      · skip
        refine g_iload_n hX dL_areAlike_94 rfl 1 rfl ?_
        refine g_if_eq hX 119 dL_areAlike_95 (by decide) (fun c_95 => ?_) (fun c_95 => ?_)
        · skip
          refine g_iconst hX (v := 0) dL_areAlike_119 (by decide) ?_
          have e8 : b_120_2 = 0 := by rw [hb_120_2]; simp only [eq_true c_95, if_true, if_false]
          rw [e8] at hJ
          exact hJ
        · skip
          refine g_aload_n hX dL_areAlike_98 rfl 3 rfl ?_
          refine g_iload_n hX dL_areAlike_99 rfl 2 rfl ?_
          refine g_iload hX dL_areAlike_100 0 rfl ?_
          refine g_pV_I hX (rest := wXX T bd yv) (n := 2) (As := [.int (nI j), .int 1]) (wc := wXX T ad xv) (w1 := wXX T ad xv) (rv := (F_X4_place xv (nI j) 1)) (st := []) 0 rfl rfl (c_X4_place (xL X) T (xB X) ad xv (nI j) 1) gL_areAlike_X4_place rfl rfl rfl ⟨Nat.le_of_ble_eq_true rfl, Nat.le_of_ble_eq_true rfl⟩ ⟨Nat.zero_le _, Nat.zero_le _⟩ ⟨by decide +kernel, by decide +kernel, by decide +kernel⟩ rfl rfl (wXX_map T ad _ _) rfl (Nat.le_of_ble_eq_true rfl) dL_areAlike_102 rfl ?_
          refine g_aload_n hX dL_areAlike_105 rfl 4 rfl ?_
          refine g_iload_n hX dL_areAlike_106 rfl 2 rfl ?_
          refine g_iload hX dL_areAlike_107 0 rfl ?_
          refine g_sV_I hX (rest := wXX T ad xv) (n := 2) (As := [.int (nI j), .int 1]) (wc := wXX T bd yv) (w1 := wXX T bd yv) (rv := (F_X4_place yv (nI j) 1)) (st := [.int (F_X4_place xv (nI j) 1)]) rfl rfl (c_X4_place (xL X) T (xB X) bd yv (nI j) 1) gL_areAlike_X4_place rfl rfl rfl ⟨Nat.le_of_ble_eq_true rfl, Nat.le_of_ble_eq_true rfl⟩ ⟨Nat.zero_le _, Nat.zero_le _⟩ ⟨by decide +kernel, by decide +kernel, by decide +kernel⟩ rfl (wXX_map T bd _ _) rfl (Nat.le_of_ble_eq_true rfl) dL_areAlike_109 ?_
          refine g_icmp_ne hX 119 dL_areAlike_112 (by decide) (fun c_112 => ?_) (fun c_112 => ?_)
          · skip
            refine g_iconst hX (v := 0) dL_areAlike_119 (by decide) ?_
            have e8 : b_120_2 = 0 := by rw [hb_120_2]; simp only [eq_false c_95, eq_false c_112, if_true, if_false]
            rw [e8] at hJ
            exact hJ
          · skip
            refine g_iconst hX (v := 1) dL_areAlike_115 (by decide) ?_
            refine g_goto hX 120 dL_areAlike_116 (by decide) ?_
            have e8 : b_120_2 = 1 := by rw [hb_120_2]; simp only [eq_false c_95, eq_true c_112, if_true, if_false]
            rw [e8] at hJ
            exact hJ
      refine g_istore_n hX (lv' := [(2, .int b_120_2), (4, .int 1), (3, .int (nI j)), (0, .ref (ad 0)), (1, .ref (bd 0))]) dL_areAlike_120 rfl (by decide) rfl ?_
      refine g_iinc hX (lv' := [(4, .int 2), (2, .int b_120_2), (3, .int (nI j)), (0, .ref (ad 0)), (1, .ref (bd 0))]) (v := 2) 1 dL_areAlike_121 rfl (by decide) (by decide) rfl ?_
      refine g_goto hX 88 dL_areAlike_124 (by decide) ?_
      refine g_iload hX dL_areAlike_88 0 rfl ?_
      refine g_iconst hX (v := 4) dL_areAlike_90 (by decide) ?_
      refine g_icmp_ge hX 127 dL_areAlike_91 (by decide) (fun c0 => absurd c0 (by decide)) (fun _ => ?_)
      obtain ⟨b_120_3, hb_120_3⟩ : ∃ z : Int32, z = (if b_120_2 = 0 then 0 else (if (F_X4_place xv (nI j) 2) = (F_X4_place yv (nI j) 2) then 1 else 0)) := ⟨_, rfl⟩
      refine g_join 120 (.int b_120_3 :: []) (fun hJ => ?_) ?_
      · skip
        refine g_iload_n hX dL_areAlike_94 rfl 1 rfl ?_
        refine g_if_eq hX 119 dL_areAlike_95 (by decide) (fun c_95 => ?_) (fun c_95 => ?_)
        · skip
          refine g_iconst hX (v := 0) dL_areAlike_119 (by decide) ?_
          have e8 : b_120_3 = 0 := by rw [hb_120_3]; simp only [eq_true c_95, if_true, if_false]
          rw [e8] at hJ
          exact hJ
        · skip
          refine g_aload_n hX dL_areAlike_98 rfl 3 rfl ?_
          refine g_iload_n hX dL_areAlike_99 rfl 2 rfl ?_
          refine g_iload hX dL_areAlike_100 0 rfl ?_
          refine g_pV_I hX (rest := wXX T bd yv) (n := 2) (As := [.int (nI j), .int 2]) (wc := wXX T ad xv) (w1 := wXX T ad xv) (rv := (F_X4_place xv (nI j) 2)) (st := []) 0 rfl rfl (c_X4_place (xL X) T (xB X) ad xv (nI j) 2) gL_areAlike_X4_place rfl rfl rfl ⟨Nat.le_of_ble_eq_true rfl, Nat.le_of_ble_eq_true rfl⟩ ⟨Nat.zero_le _, Nat.zero_le _⟩ ⟨by decide +kernel, by decide +kernel, by decide +kernel⟩ rfl rfl (wXX_map T ad _ _) rfl (Nat.le_of_ble_eq_true rfl) dL_areAlike_102 rfl ?_
          refine g_aload_n hX dL_areAlike_105 rfl 4 rfl ?_
          refine g_iload_n hX dL_areAlike_106 rfl 2 rfl ?_
          refine g_iload hX dL_areAlike_107 0 rfl ?_
          refine g_sV_I hX (rest := wXX T ad xv) (n := 2) (As := [.int (nI j), .int 2]) (wc := wXX T bd yv) (w1 := wXX T bd yv) (rv := (F_X4_place yv (nI j) 2)) (st := [.int (F_X4_place xv (nI j) 2)]) rfl rfl (c_X4_place (xL X) T (xB X) bd yv (nI j) 2) gL_areAlike_X4_place rfl rfl rfl ⟨Nat.le_of_ble_eq_true rfl, Nat.le_of_ble_eq_true rfl⟩ ⟨Nat.zero_le _, Nat.zero_le _⟩ ⟨by decide +kernel, by decide +kernel, by decide +kernel⟩ rfl (wXX_map T bd _ _) rfl (Nat.le_of_ble_eq_true rfl) dL_areAlike_109 ?_
          refine g_icmp_ne hX 119 dL_areAlike_112 (by decide) (fun c_112 => ?_) (fun c_112 => ?_)
          · skip
            refine g_iconst hX (v := 0) dL_areAlike_119 (by decide) ?_
            have e8 : b_120_3 = 0 := by rw [hb_120_3]; simp only [eq_false c_95, eq_false c_112, if_true, if_false]
            rw [e8] at hJ
            exact hJ
          · skip
            refine g_iconst hX (v := 1) dL_areAlike_115 (by decide) ?_
            refine g_goto hX 120 dL_areAlike_116 (by decide) ?_
            have e8 : b_120_3 = 1 := by rw [hb_120_3]; simp only [eq_false c_95, eq_true c_112, if_true, if_false]
            rw [e8] at hJ
            exact hJ
      refine g_istore_n hX (lv' := [(2, .int b_120_3), (4, .int 2), (3, .int (nI j)), (0, .ref (ad 0)), (1, .ref (bd 0))]) dL_areAlike_120 rfl (by decide) rfl ?_
      refine g_iinc hX (lv' := [(4, .int 3), (2, .int b_120_3), (3, .int (nI j)), (0, .ref (ad 0)), (1, .ref (bd 0))]) (v := 3) 1 dL_areAlike_121 rfl (by decide) (by decide) rfl ?_
      refine g_goto hX 88 dL_areAlike_124 (by decide) ?_
      refine g_iload hX dL_areAlike_88 0 rfl ?_
      refine g_iconst hX (v := 4) dL_areAlike_90 (by decide) ?_
      refine g_icmp_ge hX 127 dL_areAlike_91 (by decide) (fun c0 => absurd c0 (by decide)) (fun _ => ?_)
      obtain ⟨b_120_4, hb_120_4⟩ : ∃ z : Int32, z = (if b_120_3 = 0 then 0 else (if (F_X4_place xv (nI j) 3) = (F_X4_place yv (nI j) 3) then 1 else 0)) := ⟨_, rfl⟩
      refine g_join 120 (.int b_120_4 :: []) (fun hJ => ?_) ?_
      · skip
        refine g_iload_n hX dL_areAlike_94 rfl 1 rfl ?_
        refine g_if_eq hX 119 dL_areAlike_95 (by decide) (fun c_95 => ?_) (fun c_95 => ?_)
        · skip
          refine g_iconst hX (v := 0) dL_areAlike_119 (by decide) ?_
          have e8 : b_120_4 = 0 := by rw [hb_120_4]; simp only [eq_true c_95, if_true, if_false]
          rw [e8] at hJ
          exact hJ
        · skip
          refine g_aload_n hX dL_areAlike_98 rfl 3 rfl ?_
          refine g_iload_n hX dL_areAlike_99 rfl 2 rfl ?_
          refine g_iload hX dL_areAlike_100 0 rfl ?_
          refine g_pV_I hX (rest := wXX T bd yv) (n := 2) (As := [.int (nI j), .int 3]) (wc := wXX T ad xv) (w1 := wXX T ad xv) (rv := (F_X4_place xv (nI j) 3)) (st := []) 0 rfl rfl (c_X4_place (xL X) T (xB X) ad xv (nI j) 3) gL_areAlike_X4_place rfl rfl rfl ⟨Nat.le_of_ble_eq_true rfl, Nat.le_of_ble_eq_true rfl⟩ ⟨Nat.zero_le _, Nat.zero_le _⟩ ⟨by decide +kernel, by decide +kernel, by decide +kernel⟩ rfl rfl (wXX_map T ad _ _) rfl (Nat.le_of_ble_eq_true rfl) dL_areAlike_102 rfl ?_
          refine g_aload_n hX dL_areAlike_105 rfl 4 rfl ?_
          refine g_iload_n hX dL_areAlike_106 rfl 2 rfl ?_
          refine g_iload hX dL_areAlike_107 0 rfl ?_
          refine g_sV_I hX (rest := wXX T ad xv) (n := 2) (As := [.int (nI j), .int 3]) (wc := wXX T bd yv) (w1 := wXX T bd yv) (rv := (F_X4_place yv (nI j) 3)) (st := [.int (F_X4_place xv (nI j) 3)]) rfl rfl (c_X4_place (xL X) T (xB X) bd yv (nI j) 3) gL_areAlike_X4_place rfl rfl rfl ⟨Nat.le_of_ble_eq_true rfl, Nat.le_of_ble_eq_true rfl⟩ ⟨Nat.zero_le _, Nat.zero_le _⟩ ⟨by decide +kernel, by decide +kernel, by decide +kernel⟩ rfl (wXX_map T bd _ _) rfl (Nat.le_of_ble_eq_true rfl) dL_areAlike_109 ?_
          refine g_icmp_ne hX 119 dL_areAlike_112 (by decide) (fun c_112 => ?_) (fun c_112 => ?_)
          · skip
            refine g_iconst hX (v := 0) dL_areAlike_119 (by decide) ?_
            have e8 : b_120_4 = 0 := by rw [hb_120_4]; simp only [eq_false c_95, eq_false c_112, if_true, if_false]
            rw [e8] at hJ
            exact hJ
          · skip
            refine g_iconst hX (v := 1) dL_areAlike_115 (by decide) ?_
            refine g_goto hX 120 dL_areAlike_116 (by decide) ?_
            have e8 : b_120_4 = 1 := by rw [hb_120_4]; simp only [eq_false c_95, eq_true c_112, if_true, if_false]
            rw [e8] at hJ
            exact hJ
      refine g_istore_n hX (lv' := [(2, .int b_120_4), (4, .int 3), (3, .int (nI j)), (0, .ref (ad 0)), (1, .ref (bd 0))]) dL_areAlike_120 rfl (by decide) rfl ?_
      refine g_iinc hX (lv' := [(4, .int 4), (2, .int b_120_4), (3, .int (nI j)), (0, .ref (ad 0)), (1, .ref (bd 0))]) (v := 4) 1 dL_areAlike_121 rfl (by decide) (by decide) rfl ?_
      refine g_goto hX 88 dL_areAlike_124 (by decide) ?_
      refine g_iload hX dL_areAlike_88 0 rfl ?_
      refine g_iconst hX (v := 4) dL_areAlike_90 (by decide) ?_
      refine g_icmp_ge hX 127 dL_areAlike_91 (by decide) (fun _ => ?_) (fun c0 => absurd c0 (by decide))
      refine g_iinc hX (lv' := [(3, .int (nI (j + 1))), (4, .int 4), (2, .int b_120_4), (0, .ref (ad 0)), (1, .ref (bd 0))]) (v := (nI (j + 1))) 2 dL_areAlike_127 rfl (nI_1 _) (by decide) rfl ?_
      refine g_goto hX 79 dL_areAlike_130 (by decide) ?_
      have e9 : K_L_areAlike_79 (n + 1) xv yv j e = K_L_areAlike_79 n xv yv (j + 1) b_120_4 := by first | (simp only [K_L_areAlike_79, ← hb_120_1, ← hb_120_2, ← hb_120_3, ← hb_120_4, eq_false c_82, if_true, if_false]; done) | (subst hb_120_1 hb_120_2 hb_120_3 hb_120_4; simp only [K_L_areAlike_79, eq_false c_82, if_true, if_false] <;> rfl)
      rw [e9]
      refine g_lv (lv' := [(3, .int (nI (j + 1))), (2, .int b_120_4), (0, .ref (ad 0)), (1, .ref (bd 0))]) [0, 2, 3, 4] rfl ?_
      exact ih xv yv (j + 1) b_120_4 (by omega) (by omega) (by rw [hb_120_4]; exact c01 _ _)
set_option maxHeartbeats 4000000 in
set_option maxRecDepth 100000 in
theorem k_L_areAlike_30 {T : TT} {X : CX} (hX : Fit T X (yL_areAlike).cls 5 wsL_areAlike cL_areAlike (some .boolean) rmL_areAlike) (ad bd : Nat → Nat) : ∀ (n : Nat) (xv : XV) (yv : XV) (j : Nat) (e : Int32) (hn : j + n = 27) (hj : j ≤ 26) (he : e = 0 ∨ e = 1), G T X (QI T X 0 0 ((K_L_areAlike_30 n xv yv j e).1) (wXX T ad ((K_L_areAlike_30 n xv yv j e).2.1) ++ wXX T bd ((K_L_areAlike_30 n xv yv j e).2.2))) 0 0 (wXX T ad xv ++ wXX T bd yv) [(3, .int (nI j)), (2, .int e), (0, .ref (ad 0)), (1, .ref (bd 0))] 30 [] := by
  intro n
  induction n with
  | zero =>
    intro xv yv j e hn hj he
    exact absurd hn (by omega)
  | succ n ih =>
    intro xv yv j e hn hj he
    refine g_iload_n hX dL_areAlike_30 rfl 0 rfl ?_
    refine g_bipush hX (v := 25) dL_areAlike_31 (by decide) ?_
    refine g_icmp_ge hX 77 dL_areAlike_33 (by decide) (fun c_33 => ?_) (fun c_33 => ?_)
    · skip
      refine g_iconst hX (v := 0) dL_areAlike_77 (by decide) ?_
      refine g_istore_n hX (lv' := [(3, .int 0), (2, .int e), (0, .ref (ad 0)), (1, .ref (bd 0))]) dL_areAlike_78 rfl (by decide) rfl ?_
      have e9 : K_L_areAlike_30 (n + 1) xv yv j e = K_L_areAlike_79 14 xv yv 0 e := by simp only [K_L_areAlike_30, eq_true c_33, if_true, if_false]
      rw [e9]
      refine g_lv (lv' := [(3, .int (nI 0)), (2, .int e), (0, .ref (ad 0)), (1, .ref (bd 0))]) [0, 1, 2, 3] rfl ?_
      exact k_L_areAlike_79 hX ad bd 14 xv yv 0 e (by omega) (by omega) he
    · skip
      have hlt_33 : j < 25 := nlt_of c_33 (by decide) (by omega)
      obtain ⟨b_70_5, hb_70_5⟩ : ∃ z : Int32, z = (if e = 0 then 0 else (if (nI j) = 15 then 1 else (if (nI j) = 16 then 1 else (if (F_X4_count xv (nI j)) = (F_X4_count yv (nI j)) then 1 else 0)))) := ⟨_, rfl⟩
      refine g_join 70 (.int b_70_5 :: []) (fun hJ => ?_) ?_
      · skip
        refine g_iload_n hX dL_areAlike_36 rfl 1 rfl ?_
        refine g_if_eq hX 69 dL_areAlike_37 (by decide) (fun c_37 => ?_) (fun c_37 => ?_)
        · skip
          refine g_iconst hX (v := 0) dL_areAlike_69 (by decide) ?_
          have e8 : b_70_5 = 0 := by rw [hb_70_5]; simp only [eq_true c_37, if_true, if_false]
          rw [e8] at hJ
          exact hJ
        · skip
          refine g_iload_n hX dL_areAlike_40 rfl 0 rfl ?_
          refine g_bipush hX (v := 15) dL_areAlike_41 (by decide) ?_
          refine g_icmp_eq hX 65 dL_areAlike_43 (by decide) (fun c_43 => ?_) (fun c_43 => ?_)
          · skip
            refine g_iconst hX (v := 1) dL_areAlike_65 (by decide) ?_
            refine g_goto hX 70 dL_areAlike_66 (by decide) ?_
            have e8 : b_70_5 = 1 := by rw [hb_70_5]; simp only [eq_false c_37, eq_true c_43, if_true, if_false]
            rw [e8] at hJ
            exact hJ
          · skip
            refine g_iload_n hX dL_areAlike_46 rfl 0 rfl ?_
            refine g_bipush hX (v := 16) dL_areAlike_47 (by decide) ?_
            refine g_icmp_eq hX 65 dL_areAlike_49 (by decide) (fun c_49 => ?_) (fun c_49 => ?_)
            · skip
              refine g_iconst hX (v := 1) dL_areAlike_65 (by decide) ?_
              refine g_goto hX 70 dL_areAlike_66 (by decide) ?_
              have e8 : b_70_5 = 1 := by rw [hb_70_5]; simp only [eq_false c_37, eq_false c_43, eq_true c_49, if_true, if_false]
              rw [e8] at hJ
              exact hJ
            · skip
              refine g_aload_n hX dL_areAlike_52 rfl 2 rfl ?_
              refine g_iload_n hX dL_areAlike_53 rfl 0 rfl ?_
              refine g_pV_I hX (rest := wXX T bd yv) (n := 1) (As := [.int (nI j)]) (wc := wXX T ad xv) (w1 := wXX T ad xv) (rv := (F_X4_count xv (nI j))) (st := []) 0 rfl rfl (c_X4_count (xL X) T (xB X) ad xv (nI j)) gL_areAlike_X4_count rfl rfl rfl ⟨Nat.le_of_ble_eq_true rfl, Nat.le_of_ble_eq_true rfl⟩ ⟨Nat.zero_le _, Nat.zero_le _⟩ ⟨by decide +kernel, by decide +kernel, by decide +kernel⟩ rfl rfl (wXX_map T ad _ _) rfl (Nat.le_of_ble_eq_true rfl) dL_areAlike_54 rfl ?_
              refine g_aload_n hX dL_areAlike_57 rfl 3 rfl ?_
              refine g_iload_n hX dL_areAlike_58 rfl 0 rfl ?_
              refine g_sV_I hX (rest := wXX T ad xv) (n := 1) (As := [.int (nI j)]) (wc := wXX T bd yv) (w1 := wXX T bd yv) (rv := (F_X4_count yv (nI j))) (st := [.int (F_X4_count xv (nI j))]) rfl rfl (c_X4_count (xL X) T (xB X) bd yv (nI j)) gL_areAlike_X4_count rfl rfl rfl ⟨Nat.le_of_ble_eq_true rfl, Nat.le_of_ble_eq_true rfl⟩ ⟨Nat.zero_le _, Nat.zero_le _⟩ ⟨by decide +kernel, by decide +kernel, by decide +kernel⟩ rfl (wXX_map T bd _ _) rfl (Nat.le_of_ble_eq_true rfl) dL_areAlike_59 ?_
              refine g_icmp_ne hX 69 dL_areAlike_62 (by decide) (fun c_62 => ?_) (fun c_62 => ?_)
              · skip
                refine g_iconst hX (v := 0) dL_areAlike_69 (by decide) ?_
                have e8 : b_70_5 = 0 := by rw [hb_70_5]; simp only [eq_false c_37, eq_false c_43, eq_false c_49, eq_false c_62, if_true, if_false]
                rw [e8] at hJ
                exact hJ
              · skip
                refine g_iconst hX (v := 1) dL_areAlike_65 (by decide) ?_
                refine g_goto hX 70 dL_areAlike_66 (by decide) ?_
                have e8 : b_70_5 = 1 := by rw [hb_70_5]; simp only [eq_false c_37, eq_false c_43, eq_false c_49, eq_true c_62, if_true, if_false]
                rw [e8] at hJ
                exact hJ
      refine g_istore_n hX (lv' := [(2, .int b_70_5), (3, .int (nI j)), (0, .ref (ad 0)), (1, .ref (bd 0))]) dL_areAlike_70 rfl (by decide) rfl ?_
      refine g_iinc hX (lv' := [(3, .int (nI (j + 1))), (2, .int b_70_5), (0, .ref (ad 0)), (1, .ref (bd 0))]) (v := (nI (j + 1))) 1 dL_areAlike_71 rfl (nI_1 _) (by decide) rfl ?_
      refine g_goto hX 30 dL_areAlike_74 (by decide) ?_
      have e9 : K_L_areAlike_30 (n + 1) xv yv j e = K_L_areAlike_30 n xv yv (j + 1) b_70_5 := by first | (simp only [K_L_areAlike_30, ← hb_70_5, eq_false c_33, if_true, if_false]; done) | (subst hb_70_5; simp only [K_L_areAlike_30, eq_false c_33, if_true, if_false] <;> rfl)
      rw [e9]
      refine g_lv (lv' := [(3, .int (nI (j + 1))), (2, .int b_70_5), (0, .ref (ad 0)), (1, .ref (bd 0))]) [0, 1, 2, 3] rfl ?_
      exact ih xv yv (j + 1) b_70_5 (by omega) (by omega) (by rw [hb_70_5]; exact b01 _ _ _ _)
set_option maxHeartbeats 4000000 in
set_option maxRecDepth 100000 in
theorem k_L_areAlike_28 {T : TT} {X : CX} (hX : Fit T X (yL_areAlike).cls 5 wsL_areAlike cL_areAlike (some .boolean) rmL_areAlike) (ad bd : Nat → Nat) (xv : XV) (yv : XV) (e : Int32) (he : e = 0 ∨ e = 1) : G T X (QI T X 0 0 ((K_L_areAlike_28 xv yv e).1) (wXX T ad ((K_L_areAlike_28 xv yv e).2.1) ++ wXX T bd ((K_L_areAlike_28 xv yv e).2.2))) 0 0 (wXX T ad xv ++ wXX T bd yv) [(0, .ref (ad 0)), (1, .ref (bd 0)), (2, .int e)] 28 [] := by
  refine g_iconst hX (v := 0) dL_areAlike_28 (by decide) ?_
  refine g_istore_n hX (lv' := [(3, .int 0), (0, .ref (ad 0)), (1, .ref (bd 0)), (2, .int e)]) dL_areAlike_29 rfl (by decide) rfl ?_
  have e9 : K_L_areAlike_28 xv yv e = K_L_areAlike_30 27 xv yv 0 e := by simp only [K_L_areAlike_28, if_true, if_false]
  rw [e9]
  refine g_lv (lv' := [(3, .int (nI 0)), (2, .int e), (0, .ref (ad 0)), (1, .ref (bd 0))]) [0, 3, 1, 2] rfl ?_
  exact k_L_areAlike_30 hX ad bd 27 xv yv 0 e (by omega) (by omega) he
set_option maxHeartbeats 4000000 in
set_option maxRecDepth 100000 in
theorem c_L_areAlike (l : Launch) (T : TT) (b0 : Nat) (ad bd : Nat → Nat) (xv : XV) (yv : XV) (hx : xWF xv) (hy : xWF yv) : ConI l T b0 yL_areAlike wsL_areAlike rmL_areAlike [.ref (ad 0), .ref (bd 0)] (wXX T ad xv ++ wXX T bd yv) ((F_L_areAlike xv yv).1) (wXX T ad ((F_L_areAlike xv yv).2.1) ++ wXX T bd ((F_L_areAlike xv yv).2.2)) := by
  refine conI_of (cc := cL_areAlike) (maxL := 5) (ret := (some .boolean)) (lv0 := [(0, .ref (ad 0)), (1, .ref (bd 0))]) (by decide +kernel) rfl (Nat.le_of_ble_eq_true rfl) rfl (fun X hX => ?_)
  refine g_aload_n hX dL_areAlike_0 rfl 0 rfl ?_
  refine g_pV_I hX (rest := wXX T bd yv) (n := 0) (As := []) (wc := wXX T ad xv) (w1 := wXX T ad xv) (rv := (F_X4_wrong xv)) (st := []) 0 rfl rfl (c_X4_wrong (xL X) T (xB X) ad xv) gL_areAlike_X4_wrong rfl rfl rfl ⟨Nat.le_of_ble_eq_true rfl, Nat.le_of_ble_eq_true rfl⟩ ⟨Nat.zero_le _, Nat.zero_le _⟩ ⟨by decide +kernel, by decide +kernel, by decide +kernel⟩ rfl rfl (wXX_map T ad _ _) rfl (Nat.le_of_ble_eq_true rfl) dL_areAlike_1 rfl ?_
  refine g_aload_n hX dL_areAlike_4 rfl 1 rfl ?_
  refine g_sV_I hX (rest := wXX T ad xv) (n := 0) (As := []) (wc := wXX T bd yv) (w1 := wXX T bd yv) (rv := (F_X4_wrong yv)) (st := [.int (F_X4_wrong xv)]) rfl rfl (c_X4_wrong (xL X) T (xB X) bd yv) gL_areAlike_X4_wrong rfl rfl rfl ⟨Nat.le_of_ble_eq_true rfl, Nat.le_of_ble_eq_true rfl⟩ ⟨Nat.zero_le _, Nat.zero_le _⟩ ⟨by decide +kernel, by decide +kernel, by decide +kernel⟩ rfl (wXX_map T bd _ _) rfl (Nat.le_of_ble_eq_true rfl) dL_areAlike_5 ?_
  refine g_icmp_ne hX 26 dL_areAlike_8 (by decide) (fun c_8 => ?_) (fun c_8 => ?_)
  · skip
    refine g_iconst hX (v := 0) dL_areAlike_26 (by decide) ?_
    refine g_istore_n hX (lv' := [(2, .int 0), (0, .ref (ad 0)), (1, .ref (bd 0))]) dL_areAlike_27 rfl (by decide) rfl ?_
    have e9 : F_L_areAlike xv yv = K_L_areAlike_28 xv yv 0 := by simp only [F_L_areAlike, eq_false c_8, if_true, if_false]
    rw [e9]
    refine g_lv (lv' := [(0, .ref (ad 0)), (1, .ref (bd 0)), (2, .int 0)]) [1, 2, 0] rfl ?_
    exact k_L_areAlike_28 hX ad bd xv yv 0 (by first | exact Or.inl rfl | exact Or.inr rfl)
  · skip
    refine g_aload_n hX dL_areAlike_11 rfl 0 rfl ?_
    obtain ⟨z_12, hz_12⟩ : ∃ z : Int32 × XV, z = F_X4_breaksIn xv := ⟨_, rfl⟩
    refine g_pV_I hX (rest := wXX T bd yv) (n := 0) (As := []) (wc := wXX T ad xv) (w1 := wXX T ad z_12.2) (rv := z_12.1) (st := []) 0 rfl rfl (by rw [hz_12]; exact (c_X4_breaksIn (xL X) T (xB X) ad xv hx)) gL_areAlike_X4_breaksIn rfl rfl rfl ⟨Nat.le_of_ble_eq_true rfl, Nat.le_of_ble_eq_true rfl⟩ ⟨Nat.zero_le _, Nat.zero_le _⟩ ⟨by decide +kernel, by decide +kernel, by decide +kernel⟩ rfl rfl (wXX_map T ad _ _) rfl (Nat.le_of_ble_eq_true rfl) dL_areAlike_12 rfl ?_
    refine g_aload_n hX dL_areAlike_15 rfl 1 rfl ?_
    obtain ⟨z_16, hz_16⟩ : ∃ z : Int32 × XV, z = F_X4_breaksIn yv := ⟨_, rfl⟩
    refine g_sV_I hX (rest := wXX T ad z_12.2) (n := 0) (As := []) (wc := wXX T bd yv) (w1 := wXX T bd z_16.2) (rv := z_16.1) (st := [.int z_12.1]) rfl rfl (by rw [hz_16]; exact (c_X4_breaksIn (xL X) T (xB X) bd yv hy)) gL_areAlike_X4_breaksIn rfl rfl rfl ⟨Nat.le_of_ble_eq_true rfl, Nat.le_of_ble_eq_true rfl⟩ ⟨Nat.zero_le _, Nat.zero_le _⟩ ⟨by decide +kernel, by decide +kernel, by decide +kernel⟩ rfl (wXX_map T bd _ _) rfl (Nat.le_of_ble_eq_true rfl) dL_areAlike_16 ?_
    refine g_icmp_ne hX 26 dL_areAlike_19 (by decide) (fun c_19 => ?_) (fun c_19 => ?_)
    · skip
      refine g_iconst hX (v := 0) dL_areAlike_26 (by decide) ?_
      refine g_istore_n hX (lv' := [(2, .int 0), (0, .ref (ad 0)), (1, .ref (bd 0))]) dL_areAlike_27 rfl (by decide) rfl ?_
      have e9 : F_L_areAlike xv yv = K_L_areAlike_28 z_12.2 z_16.2 0 := by simp only [F_L_areAlike, ← hz_12, ← hz_16, eq_true c_8, eq_false c_19, if_true, if_false]
      rw [e9]
      refine g_lv (lv' := [(0, .ref (ad 0)), (1, .ref (bd 0)), (2, .int 0)]) [1, 2, 0] rfl ?_
      exact k_L_areAlike_28 hX ad bd z_12.2 z_16.2 0 (by first | exact Or.inl rfl | exact Or.inr rfl)
    · skip
      refine g_iconst hX (v := 1) dL_areAlike_22 (by decide) ?_
      refine g_goto hX 27 dL_areAlike_23 (by decide) ?_
      refine g_istore_n hX (lv' := [(2, .int 1), (0, .ref (ad 0)), (1, .ref (bd 0))]) dL_areAlike_27 rfl (by decide) rfl ?_
      have e9 : F_L_areAlike xv yv = K_L_areAlike_28 z_12.2 z_16.2 1 := by simp only [F_L_areAlike, ← hz_12, ← hz_16, eq_true c_8, eq_true c_19, if_true, if_false]
      rw [e9]
      refine g_lv (lv' := [(0, .ref (ad 0)), (1, .ref (bd 0)), (2, .int 1)]) [1, 2, 0] rfl ?_
      exact k_L_areAlike_28 hX ad bd z_12.2 z_16.2 1 (by first | exact Or.inl rfl | exact Or.inr rfl)
