/-! L_up -/
def rmL_up : Room := { frames := 0, cells := 0, slots := 0, locals := 0 }
theorem k_L_up_0 : Cond.constant RL 8 (2147483647) ∈ wsL_up := List.mem_of_getElem? (i := 1) rfl
def F_L_up (p1 : Int32) (p2 : Int32) : Int32 :=
  ((p1 &&& 2147483647) - (p1 &&& 2147483647) / p2 * p2)
set_option maxHeartbeats 4000000 in
set_option maxRecDepth 100000 in
theorem c_L_up (l : Launch) (T : TT) (b0 : Nat) (p1 : Int32) (p2 : Int32) (hn : ¬ p2 = 0) : ConI l T b0 yL_up wsL_up rmL_up [.int p1, .int p2] ([]) (F_L_up p1 p2) ([]) := by
  refine conI_of (cc := cL_up) (maxL := 2) (ret := (some .int)) (lv0 := [(0, .int p1), (1, .int p2)]) (by decide +kernel) rfl (Nat.le_of_ble_eq_true rfl) rfl (fun X hX => ?_)
  refine g_iload_n hX dL_up_0 rfl 0 rfl ?_
  refine g_ldc hX (v := 2147483647) k_L_up_0 dL_up_1 ?_
  refine g_iand hX dL_up_3 ?_
  refine g_iload_n hX dL_up_4 rfl 1 rfl ?_
  refine g_irem hX dL_up_5 hn ?_
  have e9 : F_L_up p1 p2 = ((p1 &&& 2147483647) - (p1 &&& 2147483647) / p2 * p2) := by simp only [F_L_up, if_true, if_false]
  rw [e9]
  exact g_iret hX dL_up_6 rfl rfl
/-! L_isRound -/
def rmL_isRound : Room := { frames := 5, cells := 0, slots := 0, locals := 111 }
def K_L_isRound_120 (xv : XV) (p1 : Int32) (e : Int32) : Int32 × XV :=
  (let z_123 := F_X4_bestTraverse xv 22
  (if e = 0 then (0, z_123.2) else (let z_138 := F_X4_ifTraverse z_123.2 z_123.1 22 0
  (let z_146 := F_X4_ifTraverse z_138.2 p1 22 0
  (if z_146.1 < z_138.1 then (0, z_146.2) else (let z_157 := F_X4_ifTraverse z_146.2 p1 12 2
  (if 0 < z_157.1 then (1, z_157.2) else (let z_168 := F_X4_ifTraverse z_157.2 p1 12 0
  (if z_168.1 = 0 then (1, z_168.2) else (0, z_168.2))))))))))
def F_L_isRound (xv : XV) (p1 : Int32) : Int32 × XV :=
  (let b_43_1 : Int32 := (if (22 - 22 / (F_X4_period xv p1) * (F_X4_period xv p1)) = 0 then (if (((F_X4_period xv p1) * p1) - ((F_X4_period xv p1) * p1) / 22 * 22) = 0 then (if (F_X4_period xv p1) = 1 then 1 else (if ((p1 * ((F_X4_period xv p1) - 1)) - (p1 * ((F_X4_period xv p1) - 1)) / 22 * 22) = 0 then 0 else 1)) else 0) else 0)
  (if (F_X4_count xv 22) = 0 then (if b_43_1 = 0 then K_L_isRound_120 xv p1 0 else (if 22 ≤ (F_X4_period xv p1) then (let z_84 := F_X4_ifTraverse xv p1 22 0
  (if z_84.1 = 1 then (let z_96 := F_X4_ifTraverse z_84.2 p1 44 0
  (if z_96.1 = 2 then (let z_108 := F_X4_ifTraverse z_96.2 p1 22 2
  (if z_108.1 = 0 then K_L_isRound_120 z_108.2 p1 1 else K_L_isRound_120 z_108.2 p1 0)) else K_L_isRound_120 z_96.2 p1 0)) else K_L_isRound_120 z_84.2 p1 0)) else (let z_70 := F_X4_ifTraverse xv p1 (11 * (F_X4_period xv p1)) 2
  (if z_70.1 < 0 then K_L_isRound_120 z_70.2 p1 0 else K_L_isRound_120 z_70.2 p1 1)))) else K_L_isRound_120 xv p1 b_43_1))
set_option maxHeartbeats 4000000 in
set_option maxRecDepth 100000 in
theorem k_L_isRound_120 {T : TT} {X : CX} (hX : Fit T X (yL_isRound).cls 5 wsL_isRound cL_isRound (some .boolean) rmL_isRound) (ad : Nat → Nat) (xv : XV) (p1 : Int32) (e : Int32)  : G T X (QI T X 0 0 ((K_L_isRound_120 xv p1 e).1) (wXX T ad ((K_L_isRound_120 xv p1 e).2))) 0 0 (wXX T ad xv) [(0, .ref (ad 0)), (1, .int p1), (3, .int e)] 120 [] := by
  refine g_aload_n hX dL_isRound_120 rfl 0 rfl ?_
  refine g_bipush hX (v := 22) dL_isRound_121 (by decide) ?_
  obtain ⟨z_123, hz_123⟩ : ∃ z : Int32 × XV, z = F_X4_bestTraverse xv 22 := ⟨_, rfl⟩
  refine g_pV_I hX (rest := []) (n := 1) (As := [.int 22]) (wc := wXX T ad xv) (w1 := wXX T ad z_123.2) (rv := z_123.1) (st := []) 0 rfl rfl (by rw [hz_123]; exact (c_X4_bestTraverse (xL X) T (xB X) ad xv 22)) gL_isRound_X4_bestTraverse rfl rfl rfl ⟨Nat.le_of_ble_eq_true rfl, Nat.le_of_ble_eq_true rfl⟩ ⟨Nat.zero_le _, Nat.zero_le _⟩ ⟨by decide +kernel, by decide +kernel, by decide +kernel⟩ rfl (List.append_nil _).symm rfl rfl (Nat.le_of_ble_eq_true rfl) dL_isRound_123 (List.append_nil _) ?_
  refine g_istore hX (lv' := [(4, .int z_123.1), (0, .ref (ad 0)), (1, .int p1), (3, .int e)]) dL_isRound_126 (by decide) rfl ?_
  refine g_iload_n hX dL_isRound_128 rfl 3 rfl ?_
  refine g_if_eq hX 178 dL_isRound_129 (by decide) (fun c_129 => ?_) (fun c_129 => ?_)
  · skip
    refine g_iconst hX (v := 0) dL_isRound_178 (by decide) ?_
    have e9 : K_L_isRound_120 xv p1 e = (0, z_123.2) := by simp only [K_L_isRound_120, ← hz_123, eq_true c_129, if_true, if_false]
    rw [e9]
    exact g_zret hX dL_isRound_179 rfl rfl rfl
  · skip
    refine g_aload_n hX dL_isRound_132 rfl 1 rfl ?_
    refine g_iload hX dL_isRound_133 0 rfl ?_
    refine g_bipush hX (v := 22) dL_isRound_135 (by decide) ?_
    refine g_iconst hX (v := 0) dL_isRound_137 (by decide) ?_
    obtain ⟨z_138, hz_138⟩ : ∃ z : Int32 × XV, z = F_X4_ifTraverse z_123.2 z_123.1 22 0 := ⟨_, rfl⟩
    refine g_pV_I hX (rest := []) (n := 3) (As := [.int z_123.1, .int 22, .int 0]) (wc := wXX T ad z_123.2) (w1 := wXX T ad z_138.2) (rv := z_138.1) (st := []) 0 rfl rfl (by rw [hz_138]; exact (c_X4_ifTraverse (xL X) T (xB X) ad z_123.2 z_123.1 22 0)) gL_isRound_X4_ifTraverse rfl rfl rfl ⟨Nat.le_of_ble_eq_true rfl, Nat.le_of_ble_eq_true rfl⟩ ⟨Nat.zero_le _, Nat.zero_le _⟩ ⟨by decide +kernel, by decide +kernel, by decide +kernel⟩ rfl (List.append_nil _).symm rfl rfl (Nat.le_of_ble_eq_true rfl) dL_isRound_138 (List.append_nil _) ?_
    refine g_aload_n hX dL_isRound_141 rfl 1 rfl ?_
    refine g_iload_n hX dL_isRound_142 rfl 2 rfl ?_
    refine g_bipush hX (v := 22) dL_isRound_143 (by decide) ?_
    refine g_iconst hX (v := 0) dL_isRound_145 (by decide) ?_
    obtain ⟨z_146, hz_146⟩ : ∃ z : Int32 × XV, z = F_X4_ifTraverse z_138.2 p1 22 0 := ⟨_, rfl⟩
    refine g_pV_I hX (rest := []) (n := 3) (As := [.int p1, .int 22, .int 0]) (wc := wXX T ad z_138.2) (w1 := wXX T ad z_146.2) (rv := z_146.1) (st := [.int z_138.1]) 0 rfl rfl (by rw [hz_146]; exact (c_X4_ifTraverse (xL X) T (xB X) ad z_138.2 p1 22 0)) gL_isRound_X4_ifTraverse rfl rfl rfl ⟨Nat.le_of_ble_eq_true rfl, Nat.le_of_ble_eq_true rfl⟩ ⟨Nat.zero_le _, Nat.zero_le _⟩ ⟨by decide +kernel, by decide +kernel, by decide +kernel⟩ rfl (List.append_nil _).symm rfl rfl (Nat.le_of_ble_eq_true rfl) dL_isRound_146 (List.append_nil _) ?_
    refine g_icmp_gt hX 178 dL_isRound_149 (by decide) (fun c_149 => ?_) (fun c_149 => ?_)
    · skip
      refine g_iconst hX (v := 0) dL_isRound_178 (by decide) ?_
      have e9 : K_L_isRound_120 xv p1 e = (0, z_146.2) := by simp only [K_L_isRound_120, ← hz_123, ← hz_138, ← hz_146, eq_false c_129, eq_true c_149, if_true, if_false]
      rw [e9]
      exact g_zret hX dL_isRound_179 rfl rfl rfl
    · skip
      refine g_aload_n hX dL_isRound_152 rfl 1 rfl ?_
      refine g_iload_n hX dL_isRound_153 rfl 2 rfl ?_
      refine g_bipush hX (v := 12) dL_isRound_154 (by decide) ?_
      refine g_iconst hX (v := 2) dL_isRound_156 (by decide) ?_
      obtain ⟨z_157, hz_157⟩ : ∃ z : Int32 × XV, z = F_X4_ifTraverse z_146.2 p1 12 2 := ⟨_, rfl⟩
      refine g_pV_I hX (rest := []) (n := 3) (As := [.int p1, .int 12, .int 2]) (wc := wXX T ad z_146.2) (w1 := wXX T ad z_157.2) (rv := z_157.1) (st := []) 0 rfl rfl (by rw [hz_157]; exact (c_X4_ifTraverse (xL X) T (xB X) ad z_146.2 p1 12 2)) gL_isRound_X4_ifTraverse rfl rfl rfl ⟨Nat.le_of_ble_eq_true rfl, Nat.le_of_ble_eq_true rfl⟩ ⟨Nat.zero_le _, Nat.zero_le _⟩ ⟨by decide +kernel, by decide +kernel, by decide +kernel⟩ rfl (List.append_nil _).symm rfl rfl (Nat.le_of_ble_eq_true rfl) dL_isRound_157 (List.append_nil _) ?_
      refine g_if_gt hX 174 dL_isRound_160 (by decide) (fun c_160 => ?_) (fun c_160 => ?_)
      · skip
        refine g_iconst hX (v := 1) dL_isRound_174 (by decide) ?_
        refine g_goto hX 179 dL_isRound_175 (by decide) ?_
        have e9 : K_L_isRound_120 xv p1 e = (1, z_157.2) := by simp only [K_L_isRound_120, ← hz_123, ← hz_138, ← hz_146, ← hz_157, eq_false c_129, eq_false c_149, eq_true c_160, if_true, if_false]
        rw [e9]
        exact g_zret hX dL_isRound_179 rfl rfl rfl
      · skip
        refine g_aload_n hX dL_isRound_163 rfl 1 rfl ?_
        refine g_iload_n hX dL_isRound_164 rfl 2 rfl ?_
        refine g_bipush hX (v := 12) dL_isRound_165 (by decide) ?_
        refine g_iconst hX (v := 0) dL_isRound_167 (by decide) ?_
        obtain ⟨z_168, hz_168⟩ : ∃ z : Int32 × XV, z = F_X4_ifTraverse z_157.2 p1 12 0 := ⟨_, rfl⟩
        refine g_pV_I hX (rest := []) (n := 3) (As := [.int p1, .int 12, .int 0]) (wc := wXX T ad z_157.2) (w1 := wXX T ad z_168.2) (rv := z_168.1) (st := []) 0 rfl rfl (by rw [hz_168]; exact (c_X4_ifTraverse (xL X) T (xB X) ad z_157.2 p1 12 0)) gL_isRound_X4_ifTraverse rfl rfl rfl ⟨Nat.le_of_ble_eq_true rfl, Nat.le_of_ble_eq_true rfl⟩ ⟨Nat.zero_le _, Nat.zero_le _⟩ ⟨by decide +kernel, by decide +kernel, by decide +kernel⟩ rfl (List.append_nil _).symm rfl rfl (Nat.le_of_ble_eq_true rfl) dL_isRound_168 (List.append_nil _) ?_
        refine g_if_ne hX 178 dL_isRound_171 (by decide) (fun c_171 => ?_) (fun c_171 => ?_)
        · skip
          refine g_iconst hX (v := 0) dL_isRound_178 (by decide) ?_
          have e9 : K_L_isRound_120 xv p1 e = (0, z_168.2) := by simp only [K_L_isRound_120, ← hz_123, ← hz_138, ← hz_146, ← hz_157, ← hz_168, eq_false c_129, eq_false c_149, eq_false c_160, eq_false c_171, if_true, if_false]
          rw [e9]
          exact g_zret hX dL_isRound_179 rfl rfl rfl
        · skip
          refine g_iconst hX (v := 1) dL_isRound_174 (by decide) ?_
          refine g_goto hX 179 dL_isRound_175 (by decide) ?_
          have e9 : K_L_isRound_120 xv p1 e = (1, z_168.2) := by simp only [K_L_isRound_120, ← hz_123, ← hz_138, ← hz_146, ← hz_157, ← hz_168, eq_false c_129, eq_false c_149, eq_false c_160, eq_true c_171, if_true, if_false]
          rw [e9]
          exact g_zret hX dL_isRound_179 rfl rfl rfl
set_option maxHeartbeats 4000000 in
set_option maxRecDepth 100000 in
theorem c_L_isRound (l : Launch) (T : TT) (b0 : Nat) (ad : Nat → Nat) (xv : XV) (p1 : Int32)  : ConI l T b0 yL_isRound wsL_isRound rmL_isRound [.ref (ad 0), .int p1] (wXX T ad xv) ((F_L_isRound xv p1).1) (wXX T ad ((F_L_isRound xv p1).2)) := by
  refine conI_of (cc := cL_isRound) (maxL := 5) (ret := (some .boolean)) (lv0 := [(0, .ref (ad 0)), (1, .int p1)]) (by decide +kernel) rfl (Nat.le_of_ble_eq_true rfl) rfl (fun X hX => ?_)
  refine g_aload_n hX dL_isRound_0 rfl 0 rfl ?_
  refine g_iload_n hX dL_isRound_1 rfl 1 rfl ?_
  refine g_pV_I hX (rest := []) (n := 1) (As := [.int p1]) (wc := wXX T ad xv) (w1 := wXX T ad xv) (rv := (F_X4_period xv p1)) (st := []) 0 rfl rfl (c_X4_period (xL X) T (xB X) ad xv p1) gL_isRound_X4_period rfl rfl rfl ⟨Nat.le_of_ble_eq_true rfl, Nat.le_of_ble_eq_true rfl⟩ ⟨Nat.zero_le _, Nat.zero_le _⟩ ⟨by decide +kernel, by decide +kernel, by decide +kernel⟩ rfl (List.append_nil _).symm rfl rfl (Nat.le_of_ble_eq_true rfl) dL_isRound_2 (List.append_nil _) ?_
  refine g_istore_n hX (lv' := [(2, .int (F_X4_period xv p1)), (0, .ref (ad 0)), (1, .int p1)]) dL_isRound_5 rfl (by decide) rfl ?_
  obtain ⟨b_43_1, hb_43_1⟩ : ∃ z : Int32, z = (if (22 - 22 / (F_X4_period xv p1) * (F_X4_period xv p1)) = 0 then (if (((F_X4_period xv p1) * p1) - ((F_X4_period xv p1) * p1) / 22 * 22) = 0 then (if (F_X4_period xv p1) = 1 then 1 else (if ((p1 * ((F_X4_period xv p1) - 1)) - (p1 * ((F_X4_period xv p1) - 1)) / 22 * 22) = 0 then 0 else 1)) else 0) else 0) := ⟨_, rfl⟩
  refine g_join 43 (.int b_43_1 :: []) (fun hJ => ?_) ?_
  · skip
    refine g_bipush hX (v := 22) dL_isRound_6 (by decide) ?_
    refine g_iload_n hX dL_isRound_8 rfl 0 rfl ?_
    refine g_irem hX dL_isRound_9 (per_ne _ _) ?_
    refine g_if_ne hX 42 dL_isRound_10 (by decide) (fun c_10 => ?_) (fun c_10 => ?_)
    · skip
      refine g_iconst hX (v := 0) dL_isRound_42 (by decide) ?_
      have e8 : b_43_1 = 0 := by rw [hb_43_1]; simp only [eq_false c_10, if_true, if_false]
      rw [e8] at hJ
      exact hJ
    · skip
      refine g_iload_n hX dL_isRound_13 rfl 0 rfl ?_
      refine g_iload_n hX dL_isRound_14 rfl 2 rfl ?_
      refine g_imul hX dL_isRound_15 ?_
      refine g_bipush hX (v := 22) dL_isRound_16 (by decide) ?_
      refine g_irem hX dL_isRound_18 (by decide) ?_
      refine g_if_ne hX 42 dL_isRound_19 (by decide) (fun c_19 => ?_) (fun c_19 => ?_)
      · skip
        refine g_iconst hX (v := 0) dL_isRound_42 (by decide) ?_
        have e8 : b_43_1 = 0 := by rw [hb_43_1]; simp only [eq_true c_10, eq_false c_19, if_true, if_false]
        rw [e8] at hJ
        exact hJ
      · skip
        refine g_iload_n hX dL_isRound_22 rfl 0 rfl ?_
        refine g_iconst hX (v := 1) dL_isRound_23 (by decide) ?_
        refine g_icmp_eq hX 38 dL_isRound_24 (by decide) (fun c_24 => ?_) (fun c_24 => ?_)
        · skip
          refine g_iconst hX (v := 1) dL_isRound_38 (by decide) ?_
          refine g_goto hX 43 dL_isRound_39 (by decide) ?_
          have e8 : b_43_1 = 1 := by rw [hb_43_1]; simp only [eq_true c_10, eq_true c_19, eq_true c_24, if_true, if_false]
          rw [e8] at hJ
          exact hJ
        · skip
          refine g_iload_n hX dL_isRound_27 rfl 2 rfl ?_
          refine g_iload_n hX dL_isRound_28 rfl 0 rfl ?_
          refine g_iconst hX (v := 1) dL_isRound_29 (by decide) ?_
          refine g_isub hX dL_isRound_30 ?_
          refine g_imul hX dL_isRound_31 ?_
          refine g_bipush hX (v := 22) dL_isRound_32 (by decide) ?_
          refine g_irem hX dL_isRound_34 (by decide) ?_
          refine g_if_eq hX 42 dL_isRound_35 (by decide) (fun c_35 => ?_) (fun c_35 => ?_)
          · skip
            refine g_iconst hX (v := 0) dL_isRound_42 (by decide) ?_
            have e8 : b_43_1 = 0 := by rw [hb_43_1]; simp only [eq_true c_10, eq_true c_19, eq_false c_24, eq_true c_35, if_true, if_false]
            rw [e8] at hJ
            exact hJ
          · skip
            refine g_iconst hX (v := 1) dL_isRound_38 (by decide) ?_
            refine g_goto hX 43 dL_isRound_39 (by decide) ?_
            have e8 : b_43_1 = 1 := by rw [hb_43_1]; simp only [eq_true c_10, eq_true c_19, eq_false c_24, eq_false c_35, if_true, if_false]
            rw [e8] at hJ
            exact hJ
  refine g_istore_n hX (lv' := [(3, .int b_43_1), (2, .int (F_X4_period xv p1)), (0, .ref (ad 0)), (1, .int p1)]) dL_isRound_43 rfl (by decide) rfl ?_
  refine g_aload_n hX dL_isRound_44 rfl 2 rfl ?_
  refine g_bipush hX (v := 22) dL_isRound_45 (by decide) ?_
  refine g_pV_I hX (rest := []) (n := 1) (As := [.int 22]) (wc := wXX T ad xv) (w1 := wXX T ad xv) (rv := (F_X4_count xv 22)) (st := []) 0 rfl rfl (c_X4_count (xL X) T (xB X) ad xv 22) gL_isRound_X4_count rfl rfl rfl ⟨Nat.le_of_ble_eq_true rfl, Nat.le_of_ble_eq_true rfl⟩ ⟨Nat.zero_le _, Nat.zero_le _⟩ ⟨by decide +kernel, by decide +kernel, by decide +kernel⟩ rfl (List.append_nil _).symm rfl rfl (Nat.le_of_ble_eq_true rfl) dL_isRound_47 (List.append_nil _) ?_
  refine g_if_ne hX 120 dL_isRound_50 (by decide) (fun c_50 => ?_) (fun c_50 => ?_)
  · skip
    have e9 : F_L_isRound xv p1 = K_L_isRound_120 xv p1 b_43_1 := by first | (simp only [F_L_isRound, ← hb_43_1, eq_false c_50, if_true, if_false]; done) | (subst hb_43_1; simp only [F_L_isRound, eq_false c_50, if_true, if_false] <;> rfl)
    rw [e9]
    refine g_lv (lv' := [(0, .ref (ad 0)), (1, .int p1), (3, .int b_43_1)]) [2, 3, 0] rfl ?_
    exact k_L_isRound_120 hX ad xv p1 b_43_1 
  · skip
    refine g_iload_n hX dL_isRound_53 rfl 0 rfl ?_
    refine g_if_eq hX 118 dL_isRound_54 (by decide) (fun c_54 => ?_) (fun c_54 => ?_)
    · skip
      refine g_iconst hX (v := 0) dL_isRound_118 (by decide) ?_
      refine g_istore_n hX (lv' := [(3, .int 0), (2, .int (F_X4_period xv p1)), (0, .ref (ad 0)), (1, .int p1)]) dL_isRound_119 rfl (by decide) rfl ?_
      have e9 : F_L_isRound xv p1 = K_L_isRound_120 xv p1 0 := by first | (simp only [F_L_isRound, ← hb_43_1, eq_true c_50, eq_true c_54, if_true, if_false]; done) | (subst hb_43_1; simp only [F_L_isRound, eq_true c_50, eq_true c_54, if_true, if_false] <;> rfl)
      rw [e9]
      refine g_lv (lv' := [(0, .ref (ad 0)), (1, .int p1), (3, .int 0)]) [2, 3, 0] rfl ?_
      exact k_L_isRound_120 hX ad xv p1 0 
    · skip
      refine g_iload_n hX dL_isRound_57 rfl 1 rfl ?_
      refine g_bipush hX (v := 22) dL_isRound_58 (by decide) ?_
      refine g_icmp_ge hX 79 dL_isRound_60 (by decide) (fun c_60 => ?_) (fun c_60 => ?_)
      · skip
        refine g_aload_n hX dL_isRound_79 rfl 2 rfl ?_
        refine g_iload_n hX dL_isRound_80 rfl 3 rfl ?_
        refine g_bipush hX (v := 22) dL_isRound_81 (by decide) ?_
        refine g_iconst hX (v := 0) dL_isRound_83 (by decide) ?_
        obtain ⟨z_84, hz_84⟩ : ∃ z : Int32 × XV, z = F_X4_ifTraverse xv p1 22 0 := ⟨_, rfl⟩
        refine g_pV_I hX (rest := []) (n := 3) (As := [.int p1, .int 22, .int 0]) (wc := wXX T ad xv) (w1 := wXX T ad z_84.2) (rv := z_84.1) (st := []) 0 rfl rfl (by rw [hz_84]; exact (c_X4_ifTraverse (xL X) T (xB X) ad xv p1 22 0)) gL_isRound_X4_ifTraverse rfl rfl rfl ⟨Nat.le_of_ble_eq_true rfl, Nat.le_of_ble_eq_true rfl⟩ ⟨Nat.zero_le _, Nat.zero_le _⟩ ⟨by decide +kernel, by decide +kernel, by decide +kernel⟩ rfl (List.append_nil _).symm rfl rfl (Nat.le_of_ble_eq_true rfl) dL_isRound_84 (List.append_nil _) ?_
        refine g_iconst hX (v := 1) dL_isRound_87 (by decide) ?_
        refine g_icmp_ne hX 118 dL_isRound_88 (by decide) (fun c_88 => ?_) (fun c_88 => ?_)
        · skip
          refine g_iconst hX (v := 0) dL_isRound_118 (by decide) ?_
          refine g_istore_n hX (lv' := [(3, .int 0), (2, .int (F_X4_period xv p1)), (0, .ref (ad 0)), (1, .int p1)]) dL_isRound_119 rfl (by decide) rfl ?_
          have e9 : F_L_isRound xv p1 = K_L_isRound_120 z_84.2 p1 0 := by first | (simp only [F_L_isRound, ← hb_43_1, ← hz_84, eq_true c_50, eq_false c_54, eq_true c_60, eq_false c_88, if_true, if_false]; done) | (subst hb_43_1; simp only [F_L_isRound, ← hz_84, eq_true c_50, eq_false c_54, eq_true c_60, eq_false c_88, if_true, if_false] <;> rfl)
          rw [e9]
          refine g_lv (lv' := [(0, .ref (ad 0)), (1, .int p1), (3, .int 0)]) [2, 3, 0] rfl ?_
          exact k_L_isRound_120 hX ad z_84.2 p1 0 
        · skip
          refine g_aload_n hX dL_isRound_91 rfl 2 rfl ?_
          refine g_iload_n hX dL_isRound_92 rfl 3 rfl ?_
          refine g_bipush hX (v := 44) dL_isRound_93 (by decide) ?_
          refine g_iconst hX (v := 0) dL_isRound_95 (by decide) ?_
          obtain ⟨z_96, hz_96⟩ : ∃ z : Int32 × XV, z = F_X4_ifTraverse z_84.2 p1 44 0 := ⟨_, rfl⟩
          refine g_pV_I hX (rest := []) (n := 3) (As := [.int p1, .int 44, .int 0]) (wc := wXX T ad z_84.2) (w1 := wXX T ad z_96.2) (rv := z_96.1) (st := []) 0 rfl rfl (by rw [hz_96]; exact (c_X4_ifTraverse (xL X) T (xB X) ad z_84.2 p1 44 0)) gL_isRound_X4_ifTraverse rfl rfl rfl ⟨Nat.le_of_ble_eq_true rfl, Nat.le_of_ble_eq_true rfl⟩ ⟨Nat.zero_le _, Nat.zero_le _⟩ ⟨by decide +kernel, by decide +kernel, by decide +kernel⟩ rfl (List.append_nil _).symm rfl rfl (Nat.le_of_ble_eq_true rfl) dL_isRound_96 (List.append_nil _) ?_
          refine g_iconst hX (v := 2) dL_isRound_99 (by decide) ?_
          refine g_icmp_ne hX 118 dL_isRound_100 (by decide) (fun c_100 => ?_) (fun c_100 => ?_)
          · skip
            refine g_iconst hX (v := 0) dL_isRound_118 (by decide) ?_
            refine g_istore_n hX (lv' := [(3, .int 0), (2, .int (F_X4_period xv p1)), (0, .ref (ad 0)), (1, .int p1)]) dL_isRound_119 rfl (by decide) rfl ?_
            have e9 : F_L_isRound xv p1 = K_L_isRound_120 z_96.2 p1 0 := by first | (simp only [F_L_isRound, ← hb_43_1, ← hz_84, ← hz_96, eq_true c_50, eq_false c_54, eq_true c_60, eq_true c_88, eq_false c_100, if_true, if_false]; done) | (subst hb_43_1; simp only [F_L_isRound, ← hz_84, ← hz_96, eq_true c_50, eq_false c_54, eq_true c_60, eq_true c_88, eq_false c_100, if_true, if_false] <;> rfl)
            rw [e9]
            refine g_lv (lv' := [(0, .ref (ad 0)), (1, .int p1), (3, .int 0)]) [2, 3, 0] rfl ?_
            exact k_L_isRound_120 hX ad z_96.2 p1 0 
          · skip
            refine g_aload_n hX dL_isRound_103 rfl 2 rfl ?_
            refine g_iload_n hX dL_isRound_104 rfl 3 rfl ?_
            refine g_bipush hX (v := 22) dL_isRound_105 (by decide) ?_
            refine g_iconst hX (v := 2) dL_isRound_107 (by decide) ?_
            obtain ⟨z_108, hz_108⟩ : ∃ z : Int32 × XV, z = F_X4_ifTraverse z_96.2 p1 22 2 := ⟨_, rfl⟩
            refine g_pV_I hX (rest := []) (n := 3) (As := [.int p1, .int 22, .int 2]) (wc := wXX T ad z_96.2) (w1 := wXX T ad z_108.2) (rv := z_108.1) (st := []) 0 rfl rfl (by rw [hz_108]; exact (c_X4_ifTraverse (xL X) T (xB X) ad z_96.2 p1 22 2)) gL_isRound_X4_ifTraverse rfl rfl rfl ⟨Nat.le_of_ble_eq_true rfl, Nat.le_of_ble_eq_true rfl⟩ ⟨Nat.zero_le _, Nat.zero_le _⟩ ⟨by decide +kernel, by decide +kernel, by decide +kernel⟩ rfl (List.append_nil _).symm rfl rfl (Nat.le_of_ble_eq_true rfl) dL_isRound_108 (List.append_nil _) ?_
            refine g_if_ne hX 118 dL_isRound_111 (by decide) (fun c_111 => ?_) (fun c_111 => ?_)
            · skip
              refine g_iconst hX (v := 0) dL_isRound_118 (by decide) ?_
              refine g_istore_n hX (lv' := [(3, .int 0), (2, .int (F_X4_period xv p1)), (0, .ref (ad 0)), (1, .int p1)]) dL_isRound_119 rfl (by decide) rfl ?_
              have e9 : F_L_isRound xv p1 = K_L_isRound_120 z_108.2 p1 0 := by first | (simp only [F_L_isRound, ← hb_43_1, ← hz_84, ← hz_96, ← hz_108, eq_true c_50, eq_false c_54, eq_true c_60, eq_true c_88, eq_true c_100, eq_false c_111, if_true, if_false]; done) | (subst hb_43_1; simp only [F_L_isRound, ← hz_84, ← hz_96, ← hz_108, eq_true c_50, eq_false c_54, eq_true c_60, eq_true c_88, eq_true c_100, eq_false c_111, if_true, if_false] <;> rfl)
              rw [e9]
              refine g_lv (lv' := [(0, .ref (ad 0)), (1, .int p1), (3, .int 0)]) [2, 3, 0] rfl ?_
              exact k_L_isRound_120 hX ad z_108.2 p1 0 
            · skip
              refine g_iconst hX (v := 1) dL_isRound_114 (by decide) ?_
              refine g_goto hX 119 dL_isRound_115 (by decide) ?_
              refine g_istore_n hX (lv' := [(3, .int 1), (2, .int (F_X4_period xv p1)), (0, .ref (ad 0)), (1, .int p1)]) dL_isRound_119 rfl (by decide) rfl ?_
              have e9 : F_L_isRound xv p1 = K_L_isRound_120 z_108.2 p1 1 := by first | (simp only [F_L_isRound, ← hb_43_1, ← hz_84, ← hz_96, ← hz_108, eq_true c_50, eq_false c_54, eq_true c_60, eq_true c_88, eq_true c_100, eq_true c_111, if_true, if_false]; done) | (subst hb_43_1; simp only [F_L_isRound, ← hz_84, ← hz_96, ← hz_108, eq_true c_50, eq_false c_54, eq_true c_60, eq_true c_88, eq_true c_100, eq_true c_111, if_true, if_false] <;> rfl)
              rw [e9]
              refine g_lv (lv' := [(0, .ref (ad 0)), (1, .int p1), (3, .int 1)]) [2, 3, 0] rfl ?_
              exact k_L_isRound_120 hX ad z_108.2 p1 1 
      · skip
        refine g_aload_n hX dL_isRound_63 rfl 2 rfl ?_
        refine g_iload_n hX dL_isRound_64 rfl 3 rfl ?_
        refine g_bipush hX (v := 11) dL_isRound_65 (by decide) ?_
        refine g_iload_n hX dL_isRound_67 rfl 1 rfl ?_
        refine g_imul hX dL_isRound_68 ?_
        refine g_iconst hX (v := 2) dL_isRound_69 (by decide) ?_
        obtain ⟨z_70, hz_70⟩ : ∃ z : Int32 × XV, z = F_X4_ifTraverse xv p1 (11 * (F_X4_period xv p1)) 2 := ⟨_, rfl⟩
        refine g_pV_I hX (rest := []) (n := 3) (As := [.int p1, .int (11 * (F_X4_period xv p1)), .int 2]) (wc := wXX T ad xv) (w1 := wXX T ad z_70.2) (rv := z_70.1) (st := []) 0 rfl rfl (by rw [hz_70]; exact (c_X4_ifTraverse (xL X) T (xB X) ad xv p1 (11 * (F_X4_period xv p1)) 2)) gL_isRound_X4_ifTraverse rfl rfl rfl ⟨Nat.le_of_ble_eq_true rfl, Nat.le_of_ble_eq_true rfl⟩ ⟨Nat.zero_le _, Nat.zero_le _⟩ ⟨by decide +kernel, by decide +kernel, by decide +kernel⟩ rfl (List.append_nil _).symm rfl rfl (Nat.le_of_ble_eq_true rfl) dL_isRound_70 (List.append_nil _) ?_
        refine g_if_lt hX 118 dL_isRound_73 (by decide) (fun c_73 => ?_) (fun c_73 => ?_)
        · skip
          refine g_iconst hX (v := 0) dL_isRound_118 (by decide) ?_
          refine g_istore_n hX (lv' := [(3, .int 0), (2, .int (F_X4_period xv p1)), (0, .ref (ad 0)), (1, .int p1)]) dL_isRound_119 rfl (by decide) rfl ?_
          have e9 : F_L_isRound xv p1 = K_L_isRound_120 z_70.2 p1 0 := by first | (simp only [F_L_isRound, ← hb_43_1, ← hz_70, eq_true c_50, eq_false c_54, eq_false c_60, eq_true c_73, if_true, if_false]; done) | (subst hb_43_1; simp only [F_L_isRound, ← hz_70, eq_true c_50, eq_false c_54, eq_false c_60, eq_true c_73, if_true, if_false] <;> rfl)
          rw [e9]
          refine g_lv (lv' := [(0, .ref (ad 0)), (1, .int p1), (3, .int 0)]) [2, 3, 0] rfl ?_
          exact k_L_isRound_120 hX ad z_70.2 p1 0 
        · skip
          refine g_goto hX 114 dL_isRound_76 (by decide) ?_
          refine g_iconst hX (v := 1) dL_isRound_114 (by decide) ?_
          refine g_goto hX 119 dL_isRound_115 (by decide) ?_
          refine g_istore_n hX (lv' := [(3, .int 1), (2, .int (F_X4_period xv p1)), (0, .ref (ad 0)), (1, .int p1)]) dL_isRound_119 rfl (by decide) rfl ?_
          have e9 : F_L_isRound xv p1 = K_L_isRound_120 z_70.2 p1 1 := by first | (simp only [F_L_isRound, ← hb_43_1, ← hz_70, eq_true c_50, eq_false c_54, eq_false c_60, eq_false c_73, if_true, if_false]; done) | (subst hb_43_1; simp only [F_L_isRound, ← hz_70, eq_true c_50, eq_false c_54, eq_false c_60, eq_false c_73, if_true, if_false] <;> rfl)
          rw [e9]
          refine g_lv (lv' := [(0, .ref (ad 0)), (1, .int p1), (3, .int 1)]) [2, 3, 0] rfl ?_
          exact k_L_isRound_120 hX ad z_70.2 p1 1 
