/-- what the reference's row of numbers keeps to, for its walks -/
def mWF (a : Nat → Int32) : Prop := (∃ g : Nat, g < 22 ∧ a 29 = nI g) ∧ (a 34 = -5 ∨ ∃ q : Nat, q < 12 ∧ a 34 = nI q) ∧ (∃ w : Nat, w < 6 ∧ a 26 = nI w) ∧ (∃ t : Nat, 1 ≤ t ∧ t < 12 ∧ a 24 = nI t) ∧ (¬ a 33 = 0 → ¬ a 34 = -5)
theorem mWF_congr {a b : Nat → Int32} (h24 : b 24 = a 24) (h26 : b 26 = a 26) (h29 : b 29 = a 29) (h33 : b 33 = a 33) (h34 : b 34 = a 34) (h : mWF a) : mWF b := by
  unfold mWF at h ⊢
  rw [h24, h26, h29, h33, h34]
  exact h
def plN (g : Nat) : Nat := if g ≤ 11 then g else 22 - g
theorem placeOn_nI : ∀ g : Fin 22, F_X5_placeOn (nI g.val) = nI (plN g.val) := by decide +kernel
theorem plN_lt {g : Nat} (h : g < 22) : plN g < 12 := by unfold plN; split <;> omega
theorem place_ex {a : Nat → Int32} (h : mWF a) : ∃ q : Nat, q < 12 ∧ F_X5_place a = nI q := by
  obtain ⟨⟨g, hg, e⟩, -⟩ := h
  refine ⟨plN g, plN_lt hg, ?_⟩
  show F_X5_placeOn (a 29) = _
  rw [e]
  exact placeOn_nI ⟨g, hg⟩
theorem vin_place {a : Nat → Int32} (h : mWF a) : vp_in (0 + F_X5_place a) 37 := by
  obtain ⟨q, hq, e⟩ := place_ex h
  rw [e, Int32.zero_add]
  exact vp_in_nI (by omega) (by omega)
theorem place_ix {a : Nat → Int32} (h : mWF a) : Int32.toNatClampNeg (0 + F_X5_place a) < 12 := by
  obtain ⟨q, hq, e⟩ := place_ex h
  rw [e, Int32.zero_add, nI_clamp (by omega)]
  exact hq
theorem vin_last {a : Nat → Int32} (h : mWF a) (h1 : ¬ a 34 = -5) : vp_in (0 + a 34) 37 := by
  obtain ⟨-, h2, -⟩ := h
  rcases h2 with h2 | ⟨q, hq, e⟩
  · exact absurd h2 h1
  · rw [e, Int32.zero_add]
    exact vp_in_nI (by omega) (by omega)
theorem vin_kn {a : Nat → Int32} (h : mWF a) (h1 : ¬ a 33 = 0) : vp_in (12 + a 34) 37 := by
  obtain ⟨-, h2, -, -, h5⟩ := h
  rcases h2 with h2 | ⟨q, hq, e⟩
  · exact absurd h2 (h5 h1)
  · rw [e]
    exact vinc 12 q 37 (by omega) (by omega)
theorem vin_num {p : Int32} (h : vp_in p 5) : vp_in (24 + p) 37 := by
  obtain ⟨q, hq, e⟩ := vp_in_of h (by omega)
  rw [e]
  exact vinc 24 q 37 (by omega) (by omega)
theorem wob_ne {a : Nat → Int32} (h : mWF a) : ¬ (8 : Int32) - a 26 = 0 := by
  obtain ⟨-, -, ⟨w, hw, e⟩, -⟩ := h
  rw [e]
  have : ∀ w : Fin 6, ¬ (8 : Int32) - nI w.val = 0 := by decide +kernel
  exact this ⟨w, hw⟩
theorem upd_ne {f : Nat → Int32} {i j : Nat} {x : Int32} (h : j ≠ i) : upd f i x j = f j := by simp [upd, h]
theorem upd_eq {f : Nat → Int32} {i : Nat} {x : Int32} : upd f i x i = x := by simp [upd]
theorem mWF_lay {a : Nat → Int32} (h : mWF a) (y z w : Int32) : mWF (upd (upd (upd a 35 y) 30 z) (Int32.toNatClampNeg (0 + F_X5_place (upd (upd a 35 y) 30 z))) w) := by
  have hb : mWF (upd (upd a 35 y) 30 z) := mWF_congr rfl rfl rfl rfl rfl h
  have hi := place_ix hb
  exact mWF_congr (upd_ne (by omega)) (upd_ne (by omega)) (upd_ne (by omega)) (upd_ne (by omega)) (upd_ne (by omega)) hb
/-! X5_guideGoes -/
def rmX5_guideGoes : Room := { frames := 0, cells := 0, slots := 0, locals := 0 }
theorem k_X5_guideGoes_0 : Cond.fieldLink RX5 7 RX5 (TX5 0).2.1 (TX5 0).2.2.1 ∈ wsX5_guideGoes := List.mem_of_getElem? (i := 1) rfl
theorem h_X5_guideGoes_X5 : ∀ w ∈ u_ws RX5 TX5 12, w ∈ wsX5_guideGoes := fun w h => List.mem_cons_of_mem _ (List.mem_append_right _ h)
def K_X5_guideGoes_37 (a : (Nat → Int32)) (x1 : Int32) : (Nat → Int32) :=
  (upd a 29 ((((a 29) + (a 24)) + x1) - (((a 29) + (a 24)) + x1) / 22 * 22))
def F_X5_guideGoes (a : (Nat → Int32)) : (Nat → Int32) :=
  (if (a 26) ≤ 0 then K_X5_guideGoes_37 a 0 else (if ((a 35) - (a 35) / (8 - (a 26)) * (8 - (a 26))) = 0 then K_X5_guideGoes_37 a 1 else K_X5_guideGoes_37 a 0))
set_option maxHeartbeats 4000000 in
set_option maxRecDepth 100000 in
theorem k_X5_guideGoes_37 {T : TT} {X : CX} (hX : Fit T X (yX5_guideGoes).cls 2 wsX5_guideGoes cX5_guideGoes none rmX5_guideGoes) (x al : Nat) (rs : List Value) (a : (Nat → Int32)) (x1 : Int32)  : G T X (QV T X 0 0 (wMa T x al rs (K_X5_guideGoes_37 a x1))) 0 0 (wMa T x al rs a) [(1, .int x1), (0, .ref x)] 37 [] := by
  refine g_aload_n hX dX5_guideGoes_37 rfl 1 rfl ?_
  refine g_get hX 5 h_X5_guideGoes_X5 0 rfl rfl 0 (by decide) k_X5_guideGoes_0 rfl (v := .ref al) rfl dX5_guideGoes_38 ?_
  refine g_bipush hX (v := 29) dX5_guideGoes_41 (by decide) ?_
  refine g_aload_n hX dX5_guideGoes_43 rfl 1 rfl ?_
  refine g_get hX 5 h_X5_guideGoes_X5 0 rfl rfl 0 (by decide) k_X5_guideGoes_0 rfl (v := .ref al) rfl dX5_guideGoes_44 ?_
  refine g_bipush hX (v := 29) dX5_guideGoes_47 (by decide) ?_
  refine g_iald hX (f := a) 1 rfl (vin_c (by decide)) (v := (a 29)) (congrArg a (show Int32.toNatClampNeg 29 = 29 from by decide)) dX5_guideGoes_49 ?_
  refine g_aload_n hX dX5_guideGoes_50 rfl 1 rfl ?_
  refine g_get hX 5 h_X5_guideGoes_X5 0 rfl rfl 0 (by decide) k_X5_guideGoes_0 rfl (v := .ref al) rfl dX5_guideGoes_51 ?_
  refine g_bipush hX (v := 24) dX5_guideGoes_54 (by decide) ?_
  refine g_iald hX (f := a) 1 rfl (vin_c (by decide)) (v := (a 24)) (congrArg a (show Int32.toNatClampNeg 24 = 24 from by decide)) dX5_guideGoes_56 ?_
  refine g_iadd hX dX5_guideGoes_57 ?_
  refine g_iload_n hX dX5_guideGoes_58 rfl 0 rfl ?_
  refine g_iadd hX dX5_guideGoes_59 ?_
  refine g_bipush hX (v := 22) dX5_guideGoes_60 (by decide) ?_
  refine g_irem hX dX5_guideGoes_62 (by decide) ?_
  refine g_iast hX 1 rfl (vin_c (by decide)) dX5_guideGoes_63 (ws' := wMa T x al rs (upd a 29 ((((a 29) + (a 24)) + x1) - (((a 29) + (a 24)) + x1) / 22 * 22))) (by rw [show Int32.toNatClampNeg 29 = 29 from (show Int32.toNatClampNeg 29 = 29 from by decide)] <;> rfl) ?_
  have e9 : K_X5_guideGoes_37 a x1 = (upd a 29 ((((a 29) + (a 24)) + x1) - (((a 29) + (a 24)) + x1) / 22 * 22)) := by simp only [K_X5_guideGoes_37, if_true, if_false]
  rw [e9]
  exact g_vret hX dX5_guideGoes_64 rfl
set_option maxHeartbeats 4000000 in
set_option maxRecDepth 100000 in
theorem c_X5_guideGoes (l : Launch) (T : TT) (b0 : Nat) (x al : Nat) (rs : List Value) (a : (Nat → Int32)) (hw : mWF a) : ConV l T b0 yX5_guideGoes wsX5_guideGoes rmX5_guideGoes [.ref x] (wMa T x al rs a) (wMa T x al rs (F_X5_guideGoes a)) := by
  refine conV_of (cc := cX5_guideGoes) (maxL := 2) (ret := none) (lv0 := [(0, .ref x)]) (by decide +kernel) rfl (Nat.le_of_ble_eq_true rfl) rfl (fun X hX => ?_)
  refine g_aload_n hX dX5_guideGoes_0 rfl 0 rfl ?_
  refine g_get hX 5 h_X5_guideGoes_X5 0 rfl rfl 0 (by decide) k_X5_guideGoes_0 rfl (v := .ref al) rfl dX5_guideGoes_1 ?_
  refine g_bipush hX (v := 26) dX5_guideGoes_4 (by decide) ?_
  refine g_iald hX (f := a) 1 rfl (vin_c (by decide)) (v := (a 26)) (congrArg a (show Int32.toNatClampNeg 26 = 26 from by decide)) dX5_guideGoes_6 ?_
  refine g_if_le hX 35 dX5_guideGoes_7 (by decide) (fun c_7 => ?_) (fun c_7 => ?_)
  · skip
    refine g_iconst hX (v := 0) dX5_guideGoes_35 (by decide) ?_
    refine g_istore_n hX (lv' := [(1, .int 0), (0, .ref x)]) dX5_guideGoes_36 rfl (by decide) rfl ?_
    have e9 : F_X5_guideGoes a = K_X5_guideGoes_37 a 0 := by simp only [F_X5_guideGoes, eq_true c_7, if_true, if_false]
    rw [e9]
    refine g_lv (lv' := [(1, .int 0), (0, .ref x)]) [0, 1] rfl ?_
    exact k_X5_guideGoes_37 hX x al rs a 0 
  · skip
    refine g_aload_n hX dX5_guideGoes_10 rfl 0 rfl ?_
    refine g_get hX 5 h_X5_guideGoes_X5 0 rfl rfl 0 (by decide) k_X5_guideGoes_0 rfl (v := .ref al) rfl dX5_guideGoes_11 ?_
    refine g_bipush hX (v := 35) dX5_guideGoes_14 (by decide) ?_
    refine g_iald hX (f := a) 1 rfl (vin_c (by decide)) (v := (a 35)) (congrArg a (show Int32.toNatClampNeg 35 = 35 from by decide)) dX5_guideGoes_16 ?_
    refine g_bipush hX (v := 8) dX5_guideGoes_17 (by decide) ?_
    refine g_aload_n hX dX5_guideGoes_19 rfl 0 rfl ?_
    refine g_get hX 5 h_X5_guideGoes_X5 0 rfl rfl 0 (by decide) k_X5_guideGoes_0 rfl (v := .ref al) rfl dX5_guideGoes_20 ?_
    refine g_bipush hX (v := 26) dX5_guideGoes_23 (by decide) ?_
    refine g_iald hX (f := a) 1 rfl (vin_c (by decide)) (v := (a 26)) (congrArg a (show Int32.toNatClampNeg 26 = 26 from by decide)) dX5_guideGoes_25 ?_
    refine g_isub hX dX5_guideGoes_26 ?_
    refine g_irem hX dX5_guideGoes_27 (wob_ne hw) ?_
    refine g_if_ne hX 35 dX5_guideGoes_28 (by decide) (fun c_28 => ?_) (fun c_28 => ?_)
    · skip
      refine g_iconst hX (v := 0) dX5_guideGoes_35 (by decide) ?_
      refine g_istore_n hX (lv' := [(1, .int 0), (0, .ref x)]) dX5_guideGoes_36 rfl (by decide) rfl ?_
      have e9 : F_X5_guideGoes a = K_X5_guideGoes_37 a 0 := by simp only [F_X5_guideGoes, eq_false c_7, eq_false c_28, if_true, if_false]
      rw [e9]
      refine g_lv (lv' := [(1, .int 0), (0, .ref x)]) [0, 1] rfl ?_
      exact k_X5_guideGoes_37 hX x al rs a 0 
    · skip
      refine g_iconst hX (v := 1) dX5_guideGoes_31 (by decide) ?_
      refine g_goto hX 36 dX5_guideGoes_32 (by decide) ?_
      refine g_istore_n hX (lv' := [(1, .int 1), (0, .ref x)]) dX5_guideGoes_36 rfl (by decide) rfl ?_
      have e9 : F_X5_guideGoes a = K_X5_guideGoes_37 a 1 := by simp only [F_X5_guideGoes, eq_false c_7, eq_true c_28, if_true, if_false]
      rw [e9]
      refine g_lv (lv' := [(1, .int 1), (0, .ref x)]) [0, 1] rfl ?_
      exact k_X5_guideGoes_37 hX x al rs a 1 
theorem rem22 : ∀ n : Fin 40, nI n.val - nI n.val / 22 * 22 = nI (n.val % 22) := by decide +kernel
theorem mWF_go {a : Nat → Int32} (h : mWF a) : mWF (F_X5_guideGoes a) := by
  have key : ∀ x1 : Int32, (x1 = 0 ∨ x1 = 1) → mWF (K_X5_guideGoes_37 a x1) := by
    intro x1 hx
    obtain ⟨⟨g, hg, e⟩, h2, h3, ⟨t, ht1, ht2, et⟩, h5⟩ := h
    refine ⟨?_, h2, h3, ⟨t, ht1, ht2, et⟩, h5⟩
    have hs : ∃ m : Nat, m < 40 ∧ a 29 + a 24 + x1 = nI m := by
      rcases hx with hx | hx
      · exact ⟨g + t, by omega, by rw [e, et, hx, nI_add, Int32.add_zero]⟩
      · exact ⟨g + t + 1, by omega, by rw [e, et, hx, nI_add, nI_1]⟩
    obtain ⟨m, hm, em⟩ := hs
    refine ⟨m % 22, Nat.mod_lt _ (by omega), ?_⟩
    show a 29 + a 24 + x1 - (a 29 + a 24 + x1) / 22 * 22 = _
    rw [em]
    exact rem22 ⟨m, hm⟩
  unfold F_X5_guideGoes
  split
  · exact key 0 (Or.inl rfl)
  · split
    · exact key 1 (Or.inr rfl)
    · exact key 0 (Or.inl rfl)
/-! X5_pulls -/
def rmX5_pulls : Room := { frames := 2, cells := 0, slots := 0, locals := 40 }
theorem k_X5_pulls_0 : Cond.fieldLink RX5 7 RX5 (TX5 0).2.1 (TX5 0).2.2.1 ∈ wsX5_pulls := List.mem_of_getElem? (i := 1) rfl
theorem h_X5_pulls_X5 : ∀ w ∈ u_ws RX5 TX5 12, w ∈ wsX5_pulls := fun w h => List.mem_cons_of_mem _ (List.mem_append_right _ h)
def K_X5_pulls_139 (a : (Nat → Int32)) (y : Int32) : (Nat → Int32) :=
  (if (a 32) ≤ (a 28) then (upd a 31 y) else (upd (upd (upd a 31 y) 33 1) 36 ((a 36) + 1)))
def K_X5_pulls_82 (a : (Nat → Int32)) (x1 : Int32) (y : Int32) (s1 : Int32) : (Nat → Int32) :=
  (if 0 ≤ (((a 31) + (a 25)) - 1) then (if 300 ≤ (((a 31) + (a 25)) - 1) then K_X5_pulls_139 (upd (upd a 32 (s1 + (2 * y))) 34 x1) 300 else K_X5_pulls_139 (upd (upd a 32 (s1 + (2 * y))) 34 x1) (((a 31) + (a 25)) - 1)) else K_X5_pulls_139 (upd (upd a 32 (s1 + (2 * y))) 34 x1) 0)
def K_X5_pulls_45 (a : (Nat → Int32)) (x1 : Int32) (x2 : Int32) : (Nat → Int32) :=
  (if 0 ≤ x2 then K_X5_pulls_82 a x1 x2 ((4 * (a 25)) + ((a 31) / 10)) else K_X5_pulls_82 a x1 (0 - x2) ((4 * (a 25)) + ((a 31) / 10)))
def F_X5_pulls (a : (Nat → Int32)) : (Nat → Int32) :=
  (if (a 34) = (-5) then K_X5_pulls_45 a (F_X5_place a) 0 else K_X5_pulls_45 a (F_X5_place a) ((a (Int32.toNatClampNeg (0 + (F_X5_place a)))) - (a (Int32.toNatClampNeg (0 + (a 34))))))
set_option maxHeartbeats 4000000 in
set_option maxRecDepth 100000 in
theorem k_X5_pulls_139 {T : TT} {X : CX} (hX : Fit T X (yX5_pulls).cls 4 wsX5_pulls cX5_pulls none rmX5_pulls) (x al : Nat) (rs : List Value) (a : (Nat → Int32)) (y : Int32)  : G T X (QV T X 0 0 (wMa T x al rs (K_X5_pulls_139 a y))) 0 0 (wMa T x al rs a) [(0, .ref x)] 139 [.int y, .int 31, .ref al] := by
  refine g_iast hX 1 rfl (vin_c (by decide)) dX5_pulls_139 (ws' := wMa T x al rs (upd a 31 y)) (by rw [show Int32.toNatClampNeg 31 = 31 from (show Int32.toNatClampNeg 31 = 31 from by decide)] <;> rfl) ?_
  refine g_aload_n hX dX5_pulls_140 rfl 0 rfl ?_
  refine g_get hX 5 h_X5_pulls_X5 0 rfl rfl 0 (by decide) k_X5_pulls_0 rfl (v := .ref al) rfl dX5_pulls_141 ?_
  refine g_bipush hX (v := 32) dX5_pulls_144 (by decide) ?_
  refine g_iald hX (f := (upd a 31 y)) 1 rfl (vin_c (by decide)) (v := (a 32)) (congrArg (upd a 31 y) (show Int32.toNatClampNeg 32 = 32 from by decide)) dX5_pulls_146 ?_
  refine g_aload_n hX dX5_pulls_147 rfl 0 rfl ?_
  refine g_get hX 5 h_X5_pulls_X5 0 rfl rfl 0 (by decide) k_X5_pulls_0 rfl (v := .ref al) rfl dX5_pulls_148 ?_
  refine g_bipush hX (v := 28) dX5_pulls_151 (by decide) ?_
  refine g_iald hX (f := (upd a 31 y)) 1 rfl (vin_c (by decide)) (v := (a 28)) (congrArg (upd a 31 y) (show Int32.toNatClampNeg 28 = 28 from by decide)) dX5_pulls_153 ?_
  refine g_icmp_le hX 176 dX5_pulls_154 (by decide) (fun c_154 => ?_) (fun c_154 => ?_)
  · skip
    have e9 : K_X5_pulls_139 a y = (upd a 31 y) := by simp only [K_X5_pulls_139, eq_true c_154, if_true, if_false]
    rw [e9]
    exact g_vret hX dX5_pulls_176 rfl
  · skip
    refine g_aload_n hX dX5_pulls_157 rfl 0 rfl ?_
    refine g_get hX 5 h_X5_pulls_X5 0 rfl rfl 0 (by decide) k_X5_pulls_0 rfl (v := .ref al) rfl dX5_pulls_158 ?_
    refine g_bipush hX (v := 33) dX5_pulls_161 (by decide) ?_
    refine g_iconst hX (v := 1) dX5_pulls_163 (by decide) ?_
    refine g_iast hX 1 rfl (vin_c (by decide)) dX5_pulls_164 (ws' := wMa T x al rs (upd (upd a 31 y) 33 1)) (by rw [show Int32.toNatClampNeg 33 = 33 from (show Int32.toNatClampNeg 33 = 33 from by decide)] <;> rfl) ?_
    refine g_aload_n hX dX5_pulls_165 rfl 0 rfl ?_
    refine g_get hX 5 h_X5_pulls_X5 0 rfl rfl 0 (by decide) k_X5_pulls_0 rfl (v := .ref al) rfl dX5_pulls_166 ?_
    refine g_bipush hX (v := 36) dX5_pulls_169 (by decide) ?_
    refine g_dup2 hX dX5_pulls_171 rfl rfl ?_
    refine g_iald hX (f := (upd (upd a 31 y) 33 1)) 1 rfl (vin_c (by decide)) (v := (a 36)) (congrArg (upd (upd a 31 y) 33 1) (show Int32.toNatClampNeg 36 = 36 from by decide)) dX5_pulls_172 ?_
    refine g_iconst hX (v := 1) dX5_pulls_173 (by decide) ?_
    refine g_iadd hX dX5_pulls_174 ?_
    refine g_iast hX 1 rfl (vin_c (by decide)) dX5_pulls_175 (ws' := wMa T x al rs (upd (upd (upd a 31 y) 33 1) 36 ((a 36) + 1))) (by rw [show Int32.toNatClampNeg 36 = 36 from (show Int32.toNatClampNeg 36 = 36 from by decide)] <;> rfl) ?_
    have e9 : K_X5_pulls_139 a y = (upd (upd (upd a 31 y) 33 1) 36 ((a 36) + 1)) := by simp only [K_X5_pulls_139, eq_false c_154, if_true, if_false]
    rw [e9]
    exact g_vret hX dX5_pulls_176 rfl
set_option maxHeartbeats 4000000 in
set_option maxRecDepth 100000 in
theorem k_X5_pulls_82 {T : TT} {X : CX} (hX : Fit T X (yX5_pulls).cls 4 wsX5_pulls cX5_pulls none rmX5_pulls) (x al : Nat) (rs : List Value) (a : (Nat → Int32)) (x1 : Int32) (y : Int32) (s1 : Int32)  : G T X (QV T X 0 0 (wMa T x al rs (K_X5_pulls_82 a x1 y s1))) 0 0 (wMa T x al rs a) [(1, .int x1), (0, .ref x)] 82 [.int y, .int 2, .int s1, .int 32, .ref al] := by
  refine g_imul hX dX5_pulls_82 ?_
  refine g_iadd hX dX5_pulls_83 ?_
  refine g_iast hX 1 rfl (vin_c (by decide)) dX5_pulls_84 (ws' := wMa T x al rs (upd a 32 (s1 + (2 * y)))) (by rw [show Int32.toNatClampNeg 32 = 32 from (show Int32.toNatClampNeg 32 = 32 from by decide)] <;> rfl) ?_
  refine g_aload_n hX dX5_pulls_85 rfl 1 rfl ?_
  refine g_get hX 5 h_X5_pulls_X5 0 rfl rfl 0 (by decide) k_X5_pulls_0 rfl (v := .ref al) rfl dX5_pulls_86 ?_
  refine g_bipush hX (v := 34) dX5_pulls_89 (by decide) ?_
  refine g_iload_n hX dX5_pulls_91 rfl 0 rfl ?_
  refine g_iast hX 1 rfl (vin_c (by decide)) dX5_pulls_92 (ws' := wMa T x al rs (upd (upd a 32 (s1 + (2 * y))) 34 x1)) (by rw [show Int32.toNatClampNeg 34 = 34 from (show Int32.toNatClampNeg 34 = 34 from by decide)] <;> rfl) ?_
  refine g_aload_n hX dX5_pulls_93 rfl 1 rfl ?_
  refine g_get hX 5 h_X5_pulls_X5 0 rfl rfl 0 (by decide) k_X5_pulls_0 rfl (v := .ref al) rfl dX5_pulls_94 ?_
  refine g_bipush hX (v := 31) dX5_pulls_97 (by decide) ?_
  refine g_iald hX (f := (upd (upd a 32 (s1 + (2 * y))) 34 x1)) 1 rfl (vin_c (by decide)) (v := (a 31)) (congrArg (upd (upd a 32 (s1 + (2 * y))) 34 x1) (show Int32.toNatClampNeg 31 = 31 from by decide)) dX5_pulls_99 ?_
  refine g_aload_n hX dX5_pulls_100 rfl 1 rfl ?_
  refine g_get hX 5 h_X5_pulls_X5 0 rfl rfl 0 (by decide) k_X5_pulls_0 rfl (v := .ref al) rfl dX5_pulls_101 ?_
  refine g_bipush hX (v := 25) dX5_pulls_104 (by decide) ?_
  refine g_iald hX (f := (upd (upd a 32 (s1 + (2 * y))) 34 x1)) 1 rfl (vin_c (by decide)) (v := (a 25)) (congrArg (upd (upd a 32 (s1 + (2 * y))) 34 x1) (show Int32.toNatClampNeg 25 = 25 from by decide)) dX5_pulls_106 ?_
  refine g_iadd hX dX5_pulls_107 ?_
  refine g_iconst hX (v := 1) dX5_pulls_108 (by decide) ?_
  refine g_isub hX dX5_pulls_109 ?_
  refine g_istore_n hX (lv' := [(3, .int (((a 31) + (a 25)) - 1)), (1, .int x1), (0, .ref x)]) dX5_pulls_110 rfl (by decide) rfl ?_
  refine g_aload_n hX dX5_pulls_111 rfl 2 rfl ?_
  refine g_get hX 5 h_X5_pulls_X5 0 rfl rfl 0 (by decide) k_X5_pulls_0 rfl (v := .ref al) rfl dX5_pulls_112 ?_
  refine g_bipush hX (v := 31) dX5_pulls_115 (by decide) ?_
  refine g_iload_n hX dX5_pulls_117 rfl 0 rfl ?_
  refine g_if_ge hX 125 dX5_pulls_118 (by decide) (fun c_118 => ?_) (fun c_118 => ?_)
  · skip
    refine g_iload_n hX dX5_pulls_125 rfl 0 rfl ?_
    refine g_sipush hX (v := 300) dX5_pulls_126 (by decide) ?_
    refine g_icmp_ge hX 136 dX5_pulls_129 (by decide) (fun c_129 => ?_) (fun c_129 => ?_)
    · skip
      refine g_sipush hX (v := 300) dX5_pulls_136 (by decide) ?_
      have e9 : K_X5_pulls_82 a x1 y s1 = K_X5_pulls_139 (upd (upd a 32 (s1 + (2 * y))) 34 x1) 300 := by simp only [K_X5_pulls_82, eq_true c_118, eq_true c_129, if_true, if_false]
      rw [e9]
      refine g_lv (lv' := [(0, .ref x)]) [2] rfl ?_
      exact k_X5_pulls_139 hX x al rs (upd (upd a 32 (s1 + (2 * y))) 34 x1) 300 
    · skip
      refine g_iload_n hX dX5_pulls_132 rfl 0 rfl ?_
      refine g_goto hX 139 dX5_pulls_133 (by decide) ?_
      have e9 : K_X5_pulls_82 a x1 y s1 = K_X5_pulls_139 (upd (upd a 32 (s1 + (2 * y))) 34 x1) (((a 31) + (a 25)) - 1) := by simp only [K_X5_pulls_82, eq_true c_118, eq_false c_129, if_true, if_false]
      rw [e9]
      refine g_lv (lv' := [(0, .ref x)]) [2] rfl ?_
      exact k_X5_pulls_139 hX x al rs (upd (upd a 32 (s1 + (2 * y))) 34 x1) (((a 31) + (a 25)) - 1) 
  · skip
    refine g_iconst hX (v := 0) dX5_pulls_121 (by decide) ?_
    refine g_goto hX 139 dX5_pulls_122 (by decide) ?_
    have e9 : K_X5_pulls_82 a x1 y s1 = K_X5_pulls_139 (upd (upd a 32 (s1 + (2 * y))) 34 x1) 0 := by simp only [K_X5_pulls_82, eq_false c_118, if_true, if_false]
    rw [e9]
    refine g_lv (lv' := [(0, .ref x)]) [2] rfl ?_
    exact k_X5_pulls_139 hX x al rs (upd (upd a 32 (s1 + (2 * y))) 34 x1) 0 
set_option maxHeartbeats 4000000 in
set_option maxRecDepth 100000 in
theorem k_X5_pulls_45 {T : TT} {X : CX} (hX : Fit T X (yX5_pulls).cls 4 wsX5_pulls cX5_pulls none rmX5_pulls) (x al : Nat) (rs : List Value) (a : (Nat → Int32)) (x1 : Int32) (x2 : Int32)  : G T X (QV T X 0 0 (wMa T x al rs (K_X5_pulls_45 a x1 x2))) 0 0 (wMa T x al rs a) [(1, .int x1), (2, .int x2), (0, .ref x)] 45 [] := by
  refine g_aload_n hX dX5_pulls_45 rfl 2 rfl ?_
  refine g_get hX 5 h_X5_pulls_X5 0 rfl rfl 0 (by decide) k_X5_pulls_0 rfl (v := .ref al) rfl dX5_pulls_46 ?_
  refine g_bipush hX (v := 32) dX5_pulls_49 (by decide) ?_
  refine g_iconst hX (v := 4) dX5_pulls_51 (by decide) ?_
  refine g_aload_n hX dX5_pulls_52 rfl 2 rfl ?_
  refine g_get hX 5 h_X5_pulls_X5 0 rfl rfl 0 (by decide) k_X5_pulls_0 rfl (v := .ref al) rfl dX5_pulls_53 ?_
  refine g_bipush hX (v := 25) dX5_pulls_56 (by decide) ?_
  refine g_iald hX (f := a) 1 rfl (vin_c (by decide)) (v := (a 25)) (congrArg a (show Int32.toNatClampNeg 25 = 25 from by decide)) dX5_pulls_58 ?_
  refine g_imul hX dX5_pulls_59 ?_
  refine g_aload_n hX dX5_pulls_60 rfl 2 rfl ?_
  refine g_get hX 5 h_X5_pulls_X5 0 rfl rfl 0 (by decide) k_X5_pulls_0 rfl (v := .ref al) rfl dX5_pulls_61 ?_
  refine g_bipush hX (v := 31) dX5_pulls_64 (by decide) ?_
  refine g_iald hX (f := a) 1 rfl (vin_c (by decide)) (v := (a 31)) (congrArg a (show Int32.toNatClampNeg 31 = 31 from by decide)) dX5_pulls_66 ?_
  refine g_bipush hX (v := 10) dX5_pulls_67 (by decide) ?_
  refine g_idiv hX dX5_pulls_69 (by decide) ?_
  refine g_iadd hX dX5_pulls_70 ?_
  refine g_iconst hX (v := 2) dX5_pulls_71 (by decide) ?_
  refine g_iload_n hX dX5_pulls_72 rfl 1 rfl ?_
  refine g_if_ge hX 81 dX5_pulls_73 (by decide) (fun c_73 => ?_) (fun c_73 => ?_)
  · skip
    refine g_iload_n hX dX5_pulls_81 rfl 1 rfl ?_
    have e9 : K_X5_pulls_45 a x1 x2 = K_X5_pulls_82 a x1 x2 ((4 * (a 25)) + ((a 31) / 10)) := by simp only [K_X5_pulls_45, eq_true c_73, if_true, if_false]
    rw [e9]
    refine g_lv (lv' := [(1, .int x1), (0, .ref x)]) [0, 2] rfl ?_
    exact k_X5_pulls_82 hX x al rs a x1 x2 ((4 * (a 25)) + ((a 31) / 10)) 
  · skip
    refine g_iload_n hX dX5_pulls_76 rfl 1 rfl ?_
    refine g_ineg hX dX5_pulls_77 ?_
    refine g_goto hX 82 dX5_pulls_78 (by decide) ?_
    have e9 : K_X5_pulls_45 a x1 x2 = K_X5_pulls_82 a x1 (0 - x2) ((4 * (a 25)) + ((a 31) / 10)) := by simp only [K_X5_pulls_45, eq_false c_73, if_true, if_false]
    rw [e9]
    refine g_lv (lv' := [(1, .int x1), (0, .ref x)]) [0, 2] rfl ?_
    exact k_X5_pulls_82 hX x al rs a x1 (0 - x2) ((4 * (a 25)) + ((a 31) / 10)) 
set_option maxHeartbeats 4000000 in
set_option maxRecDepth 100000 in
theorem c_X5_pulls (l : Launch) (T : TT) (b0 : Nat) (x al : Nat) (rs : List Value) (a : (Nat → Int32)) (hw : mWF a) : ConV l T b0 yX5_pulls wsX5_pulls rmX5_pulls [.ref x] (wMa T x al rs a) (wMa T x al rs (F_X5_pulls a)) := by
  refine conV_of (cc := cX5_pulls) (maxL := 4) (ret := none) (lv0 := [(0, .ref x)]) (by decide +kernel) rfl (Nat.le_of_ble_eq_true rfl) rfl (fun X hX => ?_)
  refine g_aload_n hX dX5_pulls_0 rfl 0 rfl ?_
  refine g_cV_I hX (n := 0) (As := []) (wc := wMa T x al rs a) (w1 := wMa T x al rs a) (rv := (F_X5_place a)) (st := []) 0 rfl rfl (c_X5_place (xL X) T (xB X) x al rs a) gX5_pulls_X5_place rfl rfl rfl ⟨Nat.le_of_ble_eq_true rfl, Nat.le_of_ble_eq_true rfl⟩ ⟨Nat.zero_le _, Nat.zero_le _⟩ ⟨by decide +kernel, by decide +kernel, by decide +kernel⟩ rfl [0, 1] rfl rfl (by decide) rfl (Nat.le_of_ble_eq_true rfl) dX5_pulls_1 (ws' := wMa T x al rs a) rfl ?_
  refine g_istore_n hX (lv' := [(1, .int (F_X5_place a)), (0, .ref x)]) dX5_pulls_4 rfl (by decide) rfl ?_
  refine g_aload_n hX dX5_pulls_5 rfl 1 rfl ?_
  refine g_get hX 5 h_X5_pulls_X5 0 rfl rfl 0 (by decide) k_X5_pulls_0 rfl (v := .ref al) rfl dX5_pulls_6 ?_
  refine g_bipush hX (v := 34) dX5_pulls_9 (by decide) ?_
  refine g_iald hX (f := a) 1 rfl (vin_c (by decide)) (v := (a 34)) (congrArg a (show Int32.toNatClampNeg 34 = 34 from by decide)) dX5_pulls_11 ?_
  refine g_bipush hX (v := (-5)) dX5_pulls_12 (by decide) ?_
  refine g_icmp_ne hX 21 dX5_pulls_14 (by decide) (fun c_14 => ?_) (fun c_14 => ?_)
  · skip
    refine g_aload_n hX dX5_pulls_21 rfl 1 rfl ?_
    refine g_get hX 5 h_X5_pulls_X5 0 rfl rfl 0 (by decide) k_X5_pulls_0 rfl (v := .ref al) rfl dX5_pulls_22 ?_
    refine g_iconst hX (v := 0) dX5_pulls_25 (by decide) ?_
    refine g_iload_n hX dX5_pulls_26 rfl 0 rfl ?_
    refine g_iadd hX dX5_pulls_27 ?_
    refine g_iald hX (f := a) 1 rfl (vin_place hw) (v := (a (Int32.toNatClampNeg (0 + (F_X5_place a))))) (congrArg a rfl) dX5_pulls_28 ?_
    refine g_aload_n hX dX5_pulls_29 rfl 1 rfl ?_
    refine g_get hX 5 h_X5_pulls_X5 0 rfl rfl 0 (by decide) k_X5_pulls_0 rfl (v := .ref al) rfl dX5_pulls_30 ?_
    refine g_iconst hX (v := 0) dX5_pulls_33 (by decide) ?_
    refine g_aload_n hX dX5_pulls_34 rfl 1 rfl ?_
    refine g_get hX 5 h_X5_pulls_X5 0 rfl rfl 0 (by decide) k_X5_pulls_0 rfl (v := .ref al) rfl dX5_pulls_35 ?_
    refine g_bipush hX (v := 34) dX5_pulls_38 (by decide) ?_
    refine g_iald hX (f := a) 1 rfl (vin_c (by decide)) (v := (a 34)) (congrArg a (show Int32.toNatClampNeg 34 = 34 from by decide)) dX5_pulls_40 ?_
    refine g_iadd hX dX5_pulls_41 ?_
    refine g_iald hX (f := a) 1 rfl (vin_last hw c_14) (v := (a (Int32.toNatClampNeg (0 + (a 34))))) (congrArg a rfl) dX5_pulls_42 ?_
    refine g_isub hX dX5_pulls_43 ?_
    refine g_istore_n hX (lv' := [(2, .int ((a (Int32.toNatClampNeg (0 + (F_X5_place a)))) - (a (Int32.toNatClampNeg (0 + (a 34)))))), (1, .int (F_X5_place a)), (0, .ref x)]) dX5_pulls_44 rfl (by decide) rfl ?_
    have e9 : F_X5_pulls a = K_X5_pulls_45 a (F_X5_place a) ((a (Int32.toNatClampNeg (0 + (F_X5_place a)))) - (a (Int32.toNatClampNeg (0 + (a 34))))) := by simp only [F_X5_pulls, eq_false c_14, if_true, if_false]
    rw [e9]
    refine g_lv (lv' := [(1, .int (F_X5_place a)), (2, .int ((a (Int32.toNatClampNeg (0 + (F_X5_place a)))) - (a (Int32.toNatClampNeg (0 + (a 34)))))), (0, .ref x)]) [1, 0, 2] rfl ?_
    exact k_X5_pulls_45 hX x al rs a (F_X5_place a) ((a (Int32.toNatClampNeg (0 + (F_X5_place a)))) - (a (Int32.toNatClampNeg (0 + (a 34))))) 
  · skip
    refine g_iconst hX (v := 0) dX5_pulls_17 (by decide) ?_
    refine g_goto hX 44 dX5_pulls_18 (by decide) ?_
    refine g_istore_n hX (lv' := [(2, .int 0), (1, .int (F_X5_place a)), (0, .ref x)]) dX5_pulls_44 rfl (by decide) rfl ?_
    have e9 : F_X5_pulls a = K_X5_pulls_45 a (F_X5_place a) 0 := by simp only [F_X5_pulls, eq_true c_14, if_true, if_false]
    rw [e9]
    refine g_lv (lv' := [(1, .int (F_X5_place a)), (2, .int 0), (0, .ref x)]) [1, 0, 2] rfl ?_
    exact k_X5_pulls_45 hX x al rs a (F_X5_place a) 0 
theorem mWF_p3 {a : Nat → Int32} (h : mWF a) (hl : ¬ a 34 = -5) (w : Int32) : mWF (K_X5_pulls_139 a w) := by
  unfold K_X5_pulls_139
  split
  · exact mWF_congr rfl rfl rfl rfl rfl h
  · exact ⟨h.1, h.2.1, h.2.2.1, h.2.2.2.1, fun _ => hl⟩
theorem mWF_p2 {a : Nat → Int32} (h : mWF a) (x1 : Int32) (hx : ∃ q : Nat, q < 12 ∧ x1 = nI q) (s y : Int32) : mWF (K_X5_pulls_82 a x1 s y) := by
  have hb : ∀ v : Int32, mWF (upd (upd a 32 v) 34 x1) := fun v => ⟨h.1, Or.inr hx, h.2.2.1, h.2.2.2.1, fun _ => by
    obtain ⟨q, hq, e⟩ := hx
    show ¬ x1 = -5
    rw [e]
    have : ∀ q : Fin 12, ¬ nI q.val = -5 := by decide +kernel
    exact this ⟨q, hq⟩⟩
  have hl : ¬ x1 = -5 := by
    obtain ⟨q, hq, e⟩ := hx
    rw [e]
    have : ∀ q : Fin 12, ¬ nI q.val = -5 := by decide +kernel
    exact this ⟨q, hq⟩
  unfold K_X5_pulls_82
  split
  · split
    · exact mWF_p3 (a := upd (upd a 32 _) 34 x1) (hb _) hl _
    · exact mWF_p3 (a := upd (upd a 32 _) 34 x1) (hb _) hl _
  · exact mWF_p3 (a := upd (upd a 32 _) 34 x1) (hb _) hl _
theorem mWF_p1 {a : Nat → Int32} (h : mWF a) (x1 : Int32) (hx : ∃ q : Nat, q < 12 ∧ x1 = nI q) (y : Int32) : mWF (K_X5_pulls_45 a x1 y) := by
  unfold K_X5_pulls_45
  split
  · exact mWF_p2 h x1 hx _ _
  · exact mWF_p2 h x1 hx _ _
theorem mWF_pulls {a : Nat → Int32} (h : mWF a) : mWF (F_X5_pulls a) := by
  unfold F_X5_pulls
  split
  · exact mWF_p1 h _ (place_ex h) _
  · exact mWF_p1 h _ (place_ex h) _
/-! X5_turns -/
def rmX5_turns : Room := { frames := 3, cells := 0, slots := 0, locals := 63 }
theorem k_X5_turns_0 : Cond.fieldLink RX5 7 RX5 (TX5 0).2.1 (TX5 0).2.2.1 ∈ wsX5_turns := List.mem_of_getElem? (i := 1) rfl
theorem h_X5_turns_X5 : ∀ w ∈ u_ws RX5 TX5 12, w ∈ wsX5_turns := fun w h => List.mem_cons_of_mem _ (List.mem_append_right _ h)
def F_X5_turns (a : (Nat → Int32)) : Int32 × (Nat → Int32) :=
  (if (10 + (a (Int32.toNatClampNeg (0 + (F_X5_place a))))) ≤ (a 30) then (let z_74 := F_X5_pulls (upd (upd (upd a 35 ((a 35) + 1)) 30 ((a 30) - (10 + (a (Int32.toNatClampNeg (0 + (F_X5_place a))))))) (Int32.toNatClampNeg (0 + (F_X5_place (upd (upd a 35 ((a 35) + 1)) 30 ((a 30) - (10 + (a (Int32.toNatClampNeg (0 + (F_X5_place a)))))))))) (((upd (upd a 35 ((a 35) + 1)) 30 ((a 30) - (10 + (a (Int32.toNatClampNeg (0 + (F_X5_place a))))))) (Int32.toNatClampNeg (0 + (F_X5_place (upd (upd a 35 ((a 35) + 1)) 30 ((a 30) - (10 + (a (Int32.toNatClampNeg (0 + (F_X5_place a))))))))))) + 1))
  (let z_78 := F_X5_guideGoes z_74
  (1, z_78))) else (0, (upd (upd a 35 ((a 35) + 1)) 30 0)))
set_option maxHeartbeats 4000000 in
set_option maxRecDepth 100000 in
theorem c_X5_turns (l : Launch) (T : TT) (b0 : Nat) (x al : Nat) (rs : List Value) (a : (Nat → Int32)) (hw : mWF a) : ConI l T b0 yX5_turns wsX5_turns rmX5_turns [.ref x] (wMa T x al rs a) ((F_X5_turns a).1) (wMa T x al rs ((F_X5_turns a).2)) := by
  refine conI_of (cc := cX5_turns) (maxL := 2) (ret := (some .boolean)) (lv0 := [(0, .ref x)]) (by decide +kernel) rfl (Nat.le_of_ble_eq_true rfl) rfl (fun X hX => ?_)
  refine g_bipush hX (v := 10) dX5_turns_0 (by decide) ?_
  refine g_aload_n hX dX5_turns_2 rfl 0 rfl ?_
  refine g_get hX 5 h_X5_turns_X5 0 rfl rfl 0 (by decide) k_X5_turns_0 rfl (v := .ref al) rfl dX5_turns_3 ?_
  refine g_iconst hX (v := 0) dX5_turns_6 (by decide) ?_
  refine g_aload_n hX dX5_turns_7 rfl 0 rfl ?_
  refine g_cV_I hX (n := 0) (As := []) (wc := wMa T x al rs a) (w1 := wMa T x al rs a) (rv := (F_X5_place a)) (st := [.int 0, .ref al, .int 10]) 0 rfl rfl (c_X5_place (xL X) T (xB X) x al rs a) gX5_turns_X5_place rfl rfl rfl ⟨Nat.le_of_ble_eq_true rfl, Nat.le_of_ble_eq_true rfl⟩ ⟨Nat.zero_le _, Nat.zero_le _⟩ ⟨by decide +kernel, by decide +kernel, by decide +kernel⟩ rfl [0, 1] rfl rfl (by decide) rfl (Nat.le_of_ble_eq_true rfl) dX5_turns_8 (ws' := wMa T x al rs a) rfl ?_
  refine g_iadd hX dX5_turns_11 ?_
  refine g_iald hX (f := a) 1 rfl (vin_place hw) (v := (a (Int32.toNatClampNeg (0 + (F_X5_place a))))) (congrArg a rfl) dX5_turns_12 ?_
  refine g_iadd hX dX5_turns_13 ?_
  refine g_istore_n hX (lv' := [(1, .int (10 + (a (Int32.toNatClampNeg (0 + (F_X5_place a)))))), (0, .ref x)]) dX5_turns_14 rfl (by decide) rfl ?_
  refine g_aload_n hX dX5_turns_15 rfl 1 rfl ?_
  refine g_get hX 5 h_X5_turns_X5 0 rfl rfl 0 (by decide) k_X5_turns_0 rfl (v := .ref al) rfl dX5_turns_16 ?_
  refine g_bipush hX (v := 35) dX5_turns_19 (by decide) ?_
  refine g_dup2 hX dX5_turns_21 rfl rfl ?_
  refine g_iald hX (f := a) 1 rfl (vin_c (by decide)) (v := (a 35)) (congrArg a (show Int32.toNatClampNeg 35 = 35 from by decide)) dX5_turns_22 ?_
  refine g_iconst hX (v := 1) dX5_turns_23 (by decide) ?_
  refine g_iadd hX dX5_turns_24 ?_
  refine g_iast hX 1 rfl (vin_c (by decide)) dX5_turns_25 (ws' := wMa T x al rs (upd a 35 ((a 35) + 1))) (by rw [show Int32.toNatClampNeg 35 = 35 from (show Int32.toNatClampNeg 35 = 35 from by decide)] <;> rfl) ?_
  refine g_aload_n hX dX5_turns_26 rfl 1 rfl ?_
  refine g_get hX 5 h_X5_turns_X5 0 rfl rfl 0 (by decide) k_X5_turns_0 rfl (v := .ref al) rfl dX5_turns_27 ?_
  refine g_bipush hX (v := 30) dX5_turns_30 (by decide) ?_
  refine g_iald hX (f := (upd a 35 ((a 35) + 1))) 1 rfl (vin_c (by decide)) (v := (a 30)) (congrArg (upd a 35 ((a 35) + 1)) (show Int32.toNatClampNeg 30 = 30 from by decide)) dX5_turns_32 ?_
  refine g_iload_n hX dX5_turns_33 rfl 0 rfl ?_
  refine g_icmp_ge hX 47 dX5_turns_34 (by decide) (fun c_34 => ?_) (fun c_34 => ?_)
  · skip
    refine g_aload_n hX dX5_turns_47 rfl 1 rfl ?_
    refine g_get hX 5 h_X5_turns_X5 0 rfl rfl 0 (by decide) k_X5_turns_0 rfl (v := .ref al) rfl dX5_turns_48 ?_
    refine g_bipush hX (v := 30) dX5_turns_51 (by decide) ?_
    refine g_dup2 hX dX5_turns_53 rfl rfl ?_
    refine g_iald hX (f := (upd a 35 ((a 35) + 1))) 1 rfl (vin_c (by decide)) (v := (a 30)) (congrArg (upd a 35 ((a 35) + 1)) (show Int32.toNatClampNeg 30 = 30 from by decide)) dX5_turns_54 ?_
    refine g_iload_n hX dX5_turns_55 rfl 0 rfl ?_
    refine g_isub hX dX5_turns_56 ?_
    refine g_iast hX 1 rfl (vin_c (by decide)) dX5_turns_57 (ws' := wMa T x al rs (upd (upd a 35 ((a 35) + 1)) 30 ((a 30) - (10 + (a (Int32.toNatClampNeg (0 + (F_X5_place a)))))))) (by rw [show Int32.toNatClampNeg 30 = 30 from (show Int32.toNatClampNeg 30 = 30 from by decide)] <;> rfl) ?_
    refine g_aload_n hX dX5_turns_58 rfl 1 rfl ?_
    refine g_get hX 5 h_X5_turns_X5 0 rfl rfl 0 (by decide) k_X5_turns_0 rfl (v := .ref al) rfl dX5_turns_59 ?_
    refine g_iconst hX (v := 0) dX5_turns_62 (by decide) ?_
    refine g_aload_n hX dX5_turns_63 rfl 1 rfl ?_
    refine g_cV_I hX (n := 0) (As := []) (wc := wMa T x al rs (upd (upd a 35 ((a 35) + 1)) 30 ((a 30) - (10 + (a (Int32.toNatClampNeg (0 + (F_X5_place a)))))))) (w1 := wMa T x al rs (upd (upd a 35 ((a 35) + 1)) 30 ((a 30) - (10 + (a (Int32.toNatClampNeg (0 + (F_X5_place a)))))))) (rv := (F_X5_place (upd (upd a 35 ((a 35) + 1)) 30 ((a 30) - (10 + (a (Int32.toNatClampNeg (0 + (F_X5_place a))))))))) (st := [.int 0, .ref al]) 0 rfl rfl (c_X5_place (xL X) T (xB X) x al rs (upd (upd a 35 ((a 35) + 1)) 30 ((a 30) - (10 + (a (Int32.toNatClampNeg (0 + (F_X5_place a)))))))) gX5_turns_X5_place rfl rfl rfl ⟨Nat.le_of_ble_eq_true rfl, Nat.le_of_ble_eq_true rfl⟩ ⟨Nat.zero_le _, Nat.zero_le _⟩ ⟨by decide +kernel, by decide +kernel, by decide +kernel⟩ rfl [0, 1] rfl rfl (by decide) rfl (Nat.le_of_ble_eq_true rfl) dX5_turns_64 (ws' := wMa T x al rs (upd (upd a 35 ((a 35) + 1)) 30 ((a 30) - (10 + (a (Int32.toNatClampNeg (0 + (F_X5_place a)))))))) rfl ?_
    refine g_iadd hX dX5_turns_67 ?_
    refine g_dup2 hX dX5_turns_68 rfl rfl ?_
    refine g_iald hX (f := (upd (upd a 35 ((a 35) + 1)) 30 ((a 30) - (10 + (a (Int32.toNatClampNeg (0 + (F_X5_place a)))))))) 1 rfl (vin_place (a := a) hw) (v := ((upd (upd a 35 ((a 35) + 1)) 30 ((a 30) - (10 + (a (Int32.toNatClampNeg (0 + (F_X5_place a))))))) (Int32.toNatClampNeg (0 + (F_X5_place (upd (upd a 35 ((a 35) + 1)) 30 ((a 30) - (10 + (a (Int32.toNatClampNeg (0 + (F_X5_place a)))))))))))) (congrArg (upd (upd a 35 ((a 35) + 1)) 30 ((a 30) - (10 + (a (Int32.toNatClampNeg (0 + (F_X5_place a))))))) rfl) dX5_turns_69 ?_
    refine g_iconst hX (v := 1) dX5_turns_70 (by decide) ?_
    refine g_iadd hX dX5_turns_71 ?_
    refine g_iast hX 1 rfl (vin_place (a := a) hw) dX5_turns_72 (ws' := wMa T x al rs (upd (upd (upd a 35 ((a 35) + 1)) 30 ((a 30) - (10 + (a (Int32.toNatClampNeg (0 + (F_X5_place a))))))) (Int32.toNatClampNeg (0 + (F_X5_place (upd (upd a 35 ((a 35) + 1)) 30 ((a 30) - (10 + (a (Int32.toNatClampNeg (0 + (F_X5_place a)))))))))) (((upd (upd a 35 ((a 35) + 1)) 30 ((a 30) - (10 + (a (Int32.toNatClampNeg (0 + (F_X5_place a))))))) (Int32.toNatClampNeg (0 + (F_X5_place (upd (upd a 35 ((a 35) + 1)) 30 ((a 30) - (10 + (a (Int32.toNatClampNeg (0 + (F_X5_place a))))))))))) + 1))) rfl ?_
    refine g_aload_n hX dX5_turns_73 rfl 1 rfl ?_
    obtain ⟨z_74, hz_74⟩ : ∃ z : (Nat → Int32), z = F_X5_pulls (upd (upd (upd a 35 ((a 35) + 1)) 30 ((a 30) - (10 + (a (Int32.toNatClampNeg (0 + (F_X5_place a))))))) (Int32.toNatClampNeg (0 + (F_X5_place (upd (upd a 35 ((a 35) + 1)) 30 ((a 30) - (10 + (a (Int32.toNatClampNeg (0 + (F_X5_place a)))))))))) (((upd (upd a 35 ((a 35) + 1)) 30 ((a 30) - (10 + (a (Int32.toNatClampNeg (0 + (F_X5_place a))))))) (Int32.toNatClampNeg (0 + (F_X5_place (upd (upd a 35 ((a 35) + 1)) 30 ((a 30) - (10 + (a (Int32.toNatClampNeg (0 + (F_X5_place a))))))))))) + 1)) := ⟨_, rfl⟩
    refine g_cV_V hX (n := 0) (As := []) (wc := wMa T x al rs (upd (upd (upd a 35 ((a 35) + 1)) 30 ((a 30) - (10 + (a (Int32.toNatClampNeg (0 + (F_X5_place a))))))) (Int32.toNatClampNeg (0 + (F_X5_place (upd (upd a 35 ((a 35) + 1)) 30 ((a 30) - (10 + (a (Int32.toNatClampNeg (0 + (F_X5_place a)))))))))) (((upd (upd a 35 ((a 35) + 1)) 30 ((a 30) - (10 + (a (Int32.toNatClampNeg (0 + (F_X5_place a))))))) (Int32.toNatClampNeg (0 + (F_X5_place (upd (upd a 35 ((a 35) + 1)) 30 ((a 30) - (10 + (a (Int32.toNatClampNeg (0 + (F_X5_place a))))))))))) + 1))) (w1 := wMa T x al rs z_74) (st := []) 0 rfl rfl (by rw [hz_74]; exact (c_X5_pulls (xL X) T (xB X) x al rs (upd (upd (upd a 35 ((a 35) + 1)) 30 ((a 30) - (10 + (a (Int32.toNatClampNeg (0 + (F_X5_place a))))))) (Int32.toNatClampNeg (0 + (F_X5_place (upd (upd a 35 ((a 35) + 1)) 30 ((a 30) - (10 + (a (Int32.toNatClampNeg (0 + (F_X5_place a)))))))))) (((upd (upd a 35 ((a 35) + 1)) 30 ((a 30) - (10 + (a (Int32.toNatClampNeg (0 + (F_X5_place a))))))) (Int32.toNatClampNeg (0 + (F_X5_place (upd (upd a 35 ((a 35) + 1)) 30 ((a 30) - (10 + (a (Int32.toNatClampNeg (0 + (F_X5_place a))))))))))) + 1)) (mWF_lay hw _ _ _))) gX5_turns_X5_pulls rfl rfl rfl ⟨Nat.le_of_ble_eq_true rfl, Nat.le_of_ble_eq_true rfl⟩ ⟨Nat.zero_le _, Nat.zero_le _⟩ ⟨by decide +kernel, by decide +kernel, by decide +kernel⟩ rfl [0, 1] rfl rfl (by decide) rfl (Nat.le_of_ble_eq_true rfl) dX5_turns_74 (ws' := wMa T x al rs z_74) rfl ?_
    refine g_aload_n hX dX5_turns_77 rfl 1 rfl ?_
    obtain ⟨z_78, hz_78⟩ : ∃ z : (Nat → Int32), z = F_X5_guideGoes z_74 := ⟨_, rfl⟩
    refine g_cV_V hX (n := 0) (As := []) (wc := wMa T x al rs z_74) (w1 := wMa T x al rs z_78) (st := []) 0 rfl rfl (by rw [hz_78]; exact (c_X5_guideGoes (xL X) T (xB X) x al rs z_74 (by rw [hz_74]; exact mWF_pulls (mWF_lay hw _ _ _)))) gX5_turns_X5_guideGoes rfl rfl rfl ⟨Nat.le_of_ble_eq_true rfl, Nat.le_of_ble_eq_true rfl⟩ ⟨Nat.zero_le _, Nat.zero_le _⟩ ⟨by decide +kernel, by decide +kernel, by decide +kernel⟩ rfl [0, 1] rfl rfl (by decide) rfl (Nat.le_of_ble_eq_true rfl) dX5_turns_78 (ws' := wMa T x al rs z_78) rfl ?_
    refine g_iconst hX (v := 1) dX5_turns_81 (by decide) ?_
    have e9 : F_X5_turns a = (1, z_78) := by simp only [F_X5_turns, ← hz_74, ← hz_78, eq_true c_34, if_true, if_false]
    rw [e9]
    exact g_zret hX dX5_turns_82 rfl rfl rfl
  · skip
    refine g_aload_n hX dX5_turns_37 rfl 1 rfl ?_
    refine g_get hX 5 h_X5_turns_X5 0 rfl rfl 0 (by decide) k_X5_turns_0 rfl (v := .ref al) rfl dX5_turns_38 ?_
    refine g_bipush hX (v := 30) dX5_turns_41 (by decide) ?_
    refine g_iconst hX (v := 0) dX5_turns_43 (by decide) ?_
    refine g_iast hX 1 rfl (vin_c (by decide)) dX5_turns_44 (ws' := wMa T x al rs (upd (upd a 35 ((a 35) + 1)) 30 0)) (by rw [show Int32.toNatClampNeg 30 = 30 from (show Int32.toNatClampNeg 30 = 30 from by decide)] <;> rfl) ?_
    refine g_iconst hX (v := 0) dX5_turns_45 (by decide) ?_
    have e9 : F_X5_turns a = (0, (upd (upd a 35 ((a 35) + 1)) 30 0)) := by simp only [F_X5_turns, eq_false c_34, if_true, if_false]
    rw [e9]
    exact g_zret hX dX5_turns_46 rfl rfl rfl
theorem mWF_turns {a : Nat → Int32} (h : mWF a) : mWF (F_X5_turns a).2 := by
  unfold F_X5_turns
  split
  · dsimp only
    exact mWF_go (mWF_pulls (mWF_lay h _ _ _))
  · exact mWF_congr rfl rfl rfl rfl rfl h
theorem kn_ix {a : Nat → Int32} (h : mWF a) (h1 : ¬ a 33 = 0) : 12 ≤ Int32.toNatClampNeg (12 + a 34) ∧ Int32.toNatClampNeg (12 + a 34) < 24 := by
  obtain ⟨-, h2, -, -, h5⟩ := h
  rcases h2 with h2 | ⟨q, hq, e⟩
  · exact absurd h2 (h5 h1)
  · rw [e, show Int32.toNatClampNeg (12 + nI q) = 12 + q from ixc 12 q (by omega)]
    omega
theorem vin_kn2 {a : Nat → Int32} (h : mWF a) (h1 : ¬ a 33 = 0) (y : Int32) : vp_in (12 + upd (upd (upd a 30 (a 30 - a 27)) 33 0) (Int32.toNatClampNeg (12 + a 34)) y 34) 37 := by
  have hi := kn_ix h h1
  rw [upd_ne (by omega)]
  show vp_in (12 + a 34) 37
  exact vin_kn h h1
/-! X5_doWind -/
def rmX5_doWind : Room := { frames := 4, cells := 0, slots := 0, locals := 84 }
def K_X5_doWind_14 : Nat → (Nat → Int32) → Int32 → Nat → Int32 → Int32 × (Nat → Int32)
  | 0, a, p1, j, e => (0, a)
  | n + 1, a, p1, j, e => (if p1 ≤ (nI j) then (e, a) else (if (F_X5_isIdle a) = 0 then (let z_28 := F_X5_turns a
  (if z_28.1 = 0 then K_X5_doWind_14 n z_28.2 p1 (j + 1) (e + 0) else K_X5_doWind_14 n z_28.2 p1 (j + 1) (e + 1))) else (e, a)))
def F_X5_doWind (a : (Nat → Int32)) (p1 : Int32) : Int32 × (Nat → Int32) :=
  (if (F_X5_isIdle a) = 0 then K_X5_doWind_14 501 a p1 0 0 else ((-5), a))
set_option maxHeartbeats 4000000 in
set_option maxRecDepth 100000 in
theorem k_X5_doWind_14 {T : TT} {X : CX} (hX : Fit T X (yX5_doWind).cls 4 wsX5_doWind cX5_doWind (some .int) rmX5_doWind) (x al : Nat) (rs : List Value) : ∀ (n : Nat) (a : (Nat → Int32)) (p1 : Int32) (j : Nat) (e : Int32) (hn : j + n = 501) (hj : j ≤ 500) (hp : p1.toInt ≤ 500) (hw : mWF a), G T X (QI T X 0 0 ((K_X5_doWind_14 n a p1 j e).1) (wMa T x al rs ((K_X5_doWind_14 n a p1 j e).2))) 0 0 (wMa T x al rs a) [(3, .int (nI j)), (2, .int e), (0, .ref x), (1, .int p1)] 14 [] := by
  intro n
  induction n with
  | zero =>
    intro a p1 j e hn hj hp hw
    exact absurd hn (by omega)
  | succ n ih =>
    intro a p1 j e hn hj hp hw
    refine g_iload_n hX dX5_doWind_14 rfl 0 rfl ?_
    refine g_iload_n hX dX5_doWind_15 rfl 3 rfl ?_
    refine g_icmp_ge hX 47 dX5_doWind_16 (by decide) (fun c_16 => ?_) (fun c_16 => ?_)
    · skip
      refine g_iload_n hX dX5_doWind_47 rfl 1 rfl ?_
      have e9 : K_X5_doWind_14 (n + 1) a p1 j e = (e, a) := by simp only [K_X5_doWind_14, eq_true c_16, if_true, if_false]
      rw [e9]
      exact g_iret hX dX5_doWind_48 rfl rfl
    · skip
      have hlt : j < 500 := nlt_p c_16 hp (by omega)
      refine g_aload_n hX dX5_doWind_19 rfl 2 rfl ?_
      refine g_cV_I hX (n := 0) (As := []) (wc := wMa T x al rs a) (w1 := wMa T x al rs a) (rv := (F_X5_isIdle a)) (st := []) 0 rfl rfl (c_X5_isIdle (xL X) T (xB X) x al rs a) gX5_doWind_X5_isIdle rfl rfl rfl ⟨Nat.le_of_ble_eq_true rfl, Nat.le_of_ble_eq_true rfl⟩ ⟨Nat.zero_le _, Nat.zero_le _⟩ ⟨by decide +kernel, by decide +kernel, by decide +kernel⟩ rfl [0, 1] rfl rfl (by decide) rfl (Nat.le_of_ble_eq_true rfl) dX5_doWind_20 (ws' := wMa T x al rs a) rfl ?_
      refine g_if_ne hX 47 dX5_doWind_23 (by decide) (fun c_23 => ?_) (fun c_23 => ?_)
      · skip
        refine g_iload_n hX dX5_doWind_47 rfl 1 rfl ?_
        have e9 : K_X5_doWind_14 (n + 1) a p1 j e = (e, a) := by simp only [K_X5_doWind_14, eq_false c_16, eq_false c_23, if_true, if_false]
        rw [e9]
        exact g_iret hX dX5_doWind_48 rfl rfl
      · skip
        refine g_iload_n hX dX5_doWind_26 rfl 1 rfl ?_
        refine g_aload_n hX dX5_doWind_27 rfl 2 rfl ?_
        obtain ⟨z_28, hz_28⟩ : ∃ z : Int32 × (Nat → Int32), z = F_X5_turns a := ⟨_, rfl⟩
        refine g_cV_I hX (n := 0) (As := []) (wc := wMa T x al rs a) (w1 := wMa T x al rs z_28.2) (rv := z_28.1) (st := [.int e]) 0 rfl rfl (by rw [hz_28]; exact (c_X5_turns (xL X) T (xB X) x al rs a hw)) gX5_doWind_X5_turns rfl rfl rfl ⟨Nat.le_of_ble_eq_true rfl, Nat.le_of_ble_eq_true rfl⟩ ⟨Nat.zero_le _, Nat.zero_le _⟩ ⟨by decide +kernel, by decide +kernel, by decide +kernel⟩ rfl [0, 1] rfl rfl (by decide) rfl (Nat.le_of_ble_eq_true rfl) dX5_doWind_28 (ws' := wMa T x al rs z_28.2) rfl ?_
        refine g_if_eq hX 38 dX5_doWind_31 (by decide) (fun c_31 => ?_) (fun c_31 => ?_)
        · skip
          refine g_iconst hX (v := 0) dX5_doWind_38 (by decide) ?_
          refine g_iadd hX dX5_doWind_39 ?_
          refine g_istore_n hX (lv' := [(2, .int (e + 0)), (3, .int (nI j)), (0, .ref x), (1, .int p1)]) dX5_doWind_40 rfl (by decide) rfl ?_
          refine g_iinc hX (lv' := [(3, .int (nI (j + 1))), (2, .int (e + 0)), (0, .ref x), (1, .int p1)]) (v := (nI (j + 1))) 1 dX5_doWind_41 rfl (nI_1 _) (by decide) rfl ?_
          refine g_goto hX 14 dX5_doWind_44 (by decide) ?_
          have e9 : K_X5_doWind_14 (n + 1) a p1 j e = K_X5_doWind_14 n z_28.2 p1 (j + 1) (e + 0) := by simp only [K_X5_doWind_14, ← hz_28, eq_false c_16, eq_true c_23, eq_true c_31, if_true, if_false]
          rw [e9]
          refine g_lv (lv' := [(3, .int (nI (j + 1))), (2, .int (e + 0)), (0, .ref x), (1, .int p1)]) [0, 1, 2, 3] rfl ?_
          exact ih z_28.2 p1 (j + 1) (e + 0) (by omega) (by omega) hp (by rw [hz_28]; exact mWF_turns hw)
        · skip
          refine g_iconst hX (v := 1) dX5_doWind_34 (by decide) ?_
          refine g_goto hX 39 dX5_doWind_35 (by decide) ?_
          refine g_iadd hX dX5_doWind_39 ?_
          refine g_istore_n hX (lv' := [(2, .int (e + 1)), (3, .int (nI j)), (0, .ref x), (1, .int p1)]) dX5_doWind_40 rfl (by decide) rfl ?_
          refine g_iinc hX (lv' := [(3, .int (nI (j + 1))), (2, .int (e + 1)), (0, .ref x), (1, .int p1)]) (v := (nI (j + 1))) 1 dX5_doWind_41 rfl (nI_1 _) (by decide) rfl ?_
          refine g_goto hX 14 dX5_doWind_44 (by decide) ?_
          have e9 : K_X5_doWind_14 (n + 1) a p1 j e = K_X5_doWind_14 n z_28.2 p1 (j + 1) (e + 1) := by simp only [K_X5_doWind_14, ← hz_28, eq_false c_16, eq_true c_23, eq_false c_31, if_true, if_false]
          rw [e9]
          refine g_lv (lv' := [(3, .int (nI (j + 1))), (2, .int (e + 1)), (0, .ref x), (1, .int p1)]) [0, 1, 2, 3] rfl ?_
          exact ih z_28.2 p1 (j + 1) (e + 1) (by omega) (by omega) hp (by rw [hz_28]; exact mWF_turns hw)
set_option maxHeartbeats 4000000 in
set_option maxRecDepth 100000 in
theorem c_X5_doWind (l : Launch) (T : TT) (b0 : Nat) (x al : Nat) (rs : List Value) (a : (Nat → Int32)) (p1 : Int32) (hw : mWF a) (hp : p1.toInt ≤ 500) : ConI l T b0 yX5_doWind wsX5_doWind rmX5_doWind [.ref x, .int p1] (wMa T x al rs a) ((F_X5_doWind a p1).1) (wMa T x al rs ((F_X5_doWind a p1).2)) := by
  refine conI_of (cc := cX5_doWind) (maxL := 4) (ret := (some .int)) (lv0 := [(0, .ref x), (1, .int p1)]) (by decide +kernel) rfl (Nat.le_of_ble_eq_true rfl) rfl (fun X hX => ?_)
  refine g_aload_n hX dX5_doWind_0 rfl 0 rfl ?_
  refine g_cV_I hX (n := 0) (As := []) (wc := wMa T x al rs a) (w1 := wMa T x al rs a) (rv := (F_X5_isIdle a)) (st := []) 0 rfl rfl (c_X5_isIdle (xL X) T (xB X) x al rs a) gX5_doWind_X5_isIdle rfl rfl rfl ⟨Nat.le_of_ble_eq_true rfl, Nat.le_of_ble_eq_true rfl⟩ ⟨Nat.zero_le _, Nat.zero_le _⟩ ⟨by decide +kernel, by decide +kernel, by decide +kernel⟩ rfl [0, 1] rfl rfl (by decide) rfl (Nat.le_of_ble_eq_true rfl) dX5_doWind_1 (ws' := wMa T x al rs a) rfl ?_
  refine g_if_eq hX 10 dX5_doWind_4 (by decide) (fun c_4 => ?_) (fun c_4 => ?_)
  · skip
    refine g_iconst hX (v := 0) dX5_doWind_10 (by decide) ?_
    refine g_istore_n hX (lv' := [(2, .int 0), (0, .ref x), (1, .int p1)]) dX5_doWind_11 rfl (by decide) rfl ?_
    refine g_iconst hX (v := 0) dX5_doWind_12 (by decide) ?_
    refine g_istore_n hX (lv' := [(3, .int 0), (2, .int 0), (0, .ref x), (1, .int p1)]) dX5_doWind_13 rfl (by decide) rfl ?_
    have e9 : F_X5_doWind a p1 = K_X5_doWind_14 501 a p1 0 0 := by simp only [F_X5_doWind, eq_true c_4, if_true, if_false]
    rw [e9]
    refine g_lv (lv' := [(3, .int (nI 0)), (2, .int 0), (0, .ref x), (1, .int p1)]) [0, 1, 2, 3] rfl ?_
    exact k_X5_doWind_14 hX x al rs 501 a p1 0 0 (by omega) (by omega) hp hw
  · skip
    refine g_bipush hX (v := (-5)) dX5_doWind_7 (by decide) ?_
    have e9 : F_X5_doWind a p1 = ((-5), a) := by simp only [F_X5_doWind, eq_false c_4, if_true, if_false]
    rw [e9]
    exact g_iret hX dX5_doWind_9 rfl rfl
/-! X5_doSet -/
def rmX5_doSet : Room := { frames := 0, cells := 0, slots := 0, locals := 0 }
theorem k_X5_doSet_0 : Cond.fieldLink RX5 7 RX5 (TX5 0).2.1 (TX5 0).2.2.1 ∈ wsX5_doSet := List.mem_of_getElem? (i := 1) rfl
theorem h_X5_doSet_X5 : ∀ w ∈ u_ws RX5 TX5 12, w ∈ wsX5_doSet := fun w h => List.mem_cons_of_mem _ (List.mem_append_right _ h)
def F_X5_doSet (a : (Nat → Int32)) (p1 : Int32) (p2 : Int32) : Int32 × (Nat → Int32) :=
  (if (a (Int32.toNatClampNeg (24 + p1))) = p2 then ((-5), (upd a (Int32.toNatClampNeg (24 + p1)) p2)) else ((a (Int32.toNatClampNeg (24 + p1))), (upd a (Int32.toNatClampNeg (24 + p1)) p2)))
set_option maxHeartbeats 4000000 in
set_option maxRecDepth 100000 in
theorem c_X5_doSet (l : Launch) (T : TT) (b0 : Nat) (x al : Nat) (rs : List Value) (a : (Nat → Int32)) (p1 : Int32) (p2 : Int32) (hp : vp_in p1 5) : ConI l T b0 yX5_doSet wsX5_doSet rmX5_doSet [.ref x, .int p1, .int p2] (wMa T x al rs a) ((F_X5_doSet a p1 p2).1) (wMa T x al rs ((F_X5_doSet a p1 p2).2)) := by
  refine conI_of (cc := cX5_doSet) (maxL := 4) (ret := (some .int)) (lv0 := [(0, .ref x), (1, .int p1), (2, .int p2)]) (by decide +kernel) rfl (Nat.le_of_ble_eq_true rfl) rfl (fun X hX => ?_)
  refine g_aload_n hX dX5_doSet_0 rfl 0 rfl ?_
  refine g_get hX 5 h_X5_doSet_X5 0 rfl rfl 0 (by decide) k_X5_doSet_0 rfl (v := .ref al) rfl dX5_doSet_1 ?_
  refine g_bipush hX (v := 24) dX5_doSet_4 (by decide) ?_
  refine g_iload_n hX dX5_doSet_6 rfl 1 rfl ?_
  refine g_iadd hX dX5_doSet_7 ?_
  refine g_iald hX (f := a) 1 rfl (vin_num hp) (v := (a (Int32.toNatClampNeg (24 + p1)))) (congrArg a rfl) dX5_doSet_8 ?_
  refine g_istore_n hX (lv' := [(3, .int (a (Int32.toNatClampNeg (24 + p1)))), (0, .ref x), (1, .int p1), (2, .int p2)]) dX5_doSet_9 rfl (by decide) rfl ?_
  refine g_aload_n hX dX5_doSet_10 rfl 1 rfl ?_
  refine g_get hX 5 h_X5_doSet_X5 0 rfl rfl 0 (by decide) k_X5_doSet_0 rfl (v := .ref al) rfl dX5_doSet_11 ?_
  refine g_bipush hX (v := 24) dX5_doSet_14 (by decide) ?_
  refine g_iload_n hX dX5_doSet_16 rfl 2 rfl ?_
  refine g_iadd hX dX5_doSet_17 ?_
  refine g_iload_n hX dX5_doSet_18 rfl 3 rfl ?_
  refine g_iast hX 1 rfl (vin_num hp) dX5_doSet_19 (ws' := wMa T x al rs (upd a (Int32.toNatClampNeg (24 + p1)) p2)) rfl ?_
  refine g_iload_n hX dX5_doSet_20 rfl 0 rfl ?_
  refine g_iload_n hX dX5_doSet_21 rfl 3 rfl ?_
  refine g_icmp_ne hX 30 dX5_doSet_22 (by decide) (fun c_22 => ?_) (fun c_22 => ?_)
  · skip
    refine g_iload_n hX dX5_doSet_30 rfl 0 rfl ?_
    have e9 : F_X5_doSet a p1 p2 = ((a (Int32.toNatClampNeg (24 + p1))), (upd a (Int32.toNatClampNeg (24 + p1)) p2)) := by simp only [F_X5_doSet, eq_false c_22, if_true, if_false]
    rw [e9]
    exact g_iret hX dX5_doSet_31 rfl rfl
  · skip
    refine g_bipush hX (v := (-5)) dX5_doSet_25 (by decide) ?_
    refine g_goto hX 31 dX5_doSet_27 (by decide) ?_
    have e9 : F_X5_doSet a p1 p2 = ((-5), (upd a (Int32.toNatClampNeg (24 + p1)) p2)) := by simp only [F_X5_doSet, eq_true c_22, if_true, if_false]
    rw [e9]
    exact g_iret hX dX5_doSet_31 rfl rfl
/-! X5_doKnot -/
def rmX5_doKnot : Room := { frames := 0, cells := 0, slots := 0, locals := 0 }
theorem k_X5_doKnot_0 : Cond.fieldLink RX5 7 RX5 (TX5 0).2.1 (TX5 0).2.2.1 ∈ wsX5_doKnot := List.mem_of_getElem? (i := 1) rfl
theorem h_X5_doKnot_X5 : ∀ w ∈ u_ws RX5 TX5 12, w ∈ wsX5_doKnot := fun w h => List.mem_cons_of_mem _ (List.mem_append_right _ h)
def F_X5_doKnot (a : (Nat → Int32)) : Int32 × (Nat → Int32) :=
  (if (a 27) ≤ (a 30) then (if (a 33) = 0 then ((-5), a) else (((upd (upd (upd a 30 ((a 30) - (a 27))) 33 0) (Int32.toNatClampNeg (12 + (a 34))) (((upd (upd a 30 ((a 30) - (a 27))) 33 0) (Int32.toNatClampNeg (12 + (a 34)))) + 1)) (Int32.toNatClampNeg (12 + ((upd (upd (upd a 30 ((a 30) - (a 27))) 33 0) (Int32.toNatClampNeg (12 + (a 34))) (((upd (upd a 30 ((a 30) - (a 27))) 33 0) (Int32.toNatClampNeg (12 + (a 34)))) + 1)) 34)))), (upd (upd (upd a 30 ((a 30) - (a 27))) 33 0) (Int32.toNatClampNeg (12 + (a 34))) (((upd (upd a 30 ((a 30) - (a 27))) 33 0) (Int32.toNatClampNeg (12 + (a 34)))) + 1)))) else ((-4), a))
set_option maxHeartbeats 4000000 in
set_option maxRecDepth 100000 in
theorem c_X5_doKnot (l : Launch) (T : TT) (b0 : Nat) (x al : Nat) (rs : List Value) (a : (Nat → Int32)) (hw : mWF a) : ConI l T b0 yX5_doKnot wsX5_doKnot rmX5_doKnot [.ref x] (wMa T x al rs a) ((F_X5_doKnot a).1) (wMa T x al rs ((F_X5_doKnot a).2)) := by
  refine conI_of (cc := cX5_doKnot) (maxL := 1) (ret := (some .int)) (lv0 := [(0, .ref x)]) (by decide +kernel) rfl (Nat.le_of_ble_eq_true rfl) rfl (fun X hX => ?_)
  refine g_aload_n hX dX5_doKnot_0 rfl 0 rfl ?_
  refine g_get hX 5 h_X5_doKnot_X5 0 rfl rfl 0 (by decide) k_X5_doKnot_0 rfl (v := .ref al) rfl dX5_doKnot_1 ?_
  refine g_bipush hX (v := 30) dX5_doKnot_4 (by decide) ?_
  refine g_iald hX (f := a) 1 rfl (vin_c (by decide)) (v := (a 30)) (congrArg a (show Int32.toNatClampNeg 30 = 30 from by decide)) dX5_doKnot_6 ?_
  refine g_aload_n hX dX5_doKnot_7 rfl 0 rfl ?_
  refine g_get hX 5 h_X5_doKnot_X5 0 rfl rfl 0 (by decide) k_X5_doKnot_0 rfl (v := .ref al) rfl dX5_doKnot_8 ?_
  refine g_bipush hX (v := 27) dX5_doKnot_11 (by decide) ?_
  refine g_iald hX (f := a) 1 rfl (vin_c (by decide)) (v := (a 27)) (congrArg a (show Int32.toNatClampNeg 27 = 27 from by decide)) dX5_doKnot_13 ?_
  refine g_icmp_ge hX 20 dX5_doKnot_14 (by decide) (fun c_14 => ?_) (fun c_14 => ?_)
  · skip
    refine g_aload_n hX dX5_doKnot_20 rfl 0 rfl ?_
    refine g_get hX 5 h_X5_doKnot_X5 0 rfl rfl 0 (by decide) k_X5_doKnot_0 rfl (v := .ref al) rfl dX5_doKnot_21 ?_
    refine g_bipush hX (v := 33) dX5_doKnot_24 (by decide) ?_
    refine g_iald hX (f := a) 1 rfl (vin_c (by decide)) (v := (a 33)) (congrArg a (show Int32.toNatClampNeg 33 = 33 from by decide)) dX5_doKnot_26 ?_
    refine g_if_ne hX 33 dX5_doKnot_27 (by decide) (fun c_27 => ?_) (fun c_27 => ?_)
    · skip
      refine g_aload_n hX dX5_doKnot_33 rfl 0 rfl ?_
      refine g_get hX 5 h_X5_doKnot_X5 0 rfl rfl 0 (by decide) k_X5_doKnot_0 rfl (v := .ref al) rfl dX5_doKnot_34 ?_
      refine g_bipush hX (v := 30) dX5_doKnot_37 (by decide) ?_
      refine g_dup2 hX dX5_doKnot_39 rfl rfl ?_
      refine g_iald hX (f := a) 1 rfl (vin_c (by decide)) (v := (a 30)) (congrArg a (show Int32.toNatClampNeg 30 = 30 from by decide)) dX5_doKnot_40 ?_
      refine g_aload_n hX dX5_doKnot_41 rfl 0 rfl ?_
      refine g_get hX 5 h_X5_doKnot_X5 0 rfl rfl 0 (by decide) k_X5_doKnot_0 rfl (v := .ref al) rfl dX5_doKnot_42 ?_
      refine g_bipush hX (v := 27) dX5_doKnot_45 (by decide) ?_
      refine g_iald hX (f := a) 1 rfl (vin_c (by decide)) (v := (a 27)) (congrArg a (show Int32.toNatClampNeg 27 = 27 from by decide)) dX5_doKnot_47 ?_
      refine g_isub hX dX5_doKnot_48 ?_
      refine g_iast hX 1 rfl (vin_c (by decide)) dX5_doKnot_49 (ws' := wMa T x al rs (upd a 30 ((a 30) - (a 27)))) (by rw [show Int32.toNatClampNeg 30 = 30 from (show Int32.toNatClampNeg 30 = 30 from by decide)] <;> rfl) ?_
      refine g_aload_n hX dX5_doKnot_50 rfl 0 rfl ?_
      refine g_get hX 5 h_X5_doKnot_X5 0 rfl rfl 0 (by decide) k_X5_doKnot_0 rfl (v := .ref al) rfl dX5_doKnot_51 ?_
      refine g_bipush hX (v := 33) dX5_doKnot_54 (by decide) ?_
      refine g_iconst hX (v := 0) dX5_doKnot_56 (by decide) ?_
      refine g_iast hX 1 rfl (vin_c (by decide)) dX5_doKnot_57 (ws' := wMa T x al rs (upd (upd a 30 ((a 30) - (a 27))) 33 0)) (by rw [show Int32.toNatClampNeg 33 = 33 from (show Int32.toNatClampNeg 33 = 33 from by decide)] <;> rfl) ?_
      refine g_aload_n hX dX5_doKnot_58 rfl 0 rfl ?_
      refine g_get hX 5 h_X5_doKnot_X5 0 rfl rfl 0 (by decide) k_X5_doKnot_0 rfl (v := .ref al) rfl dX5_doKnot_59 ?_
      refine g_bipush hX (v := 12) dX5_doKnot_62 (by decide) ?_
      refine g_aload_n hX dX5_doKnot_64 rfl 0 rfl ?_
      refine g_get hX 5 h_X5_doKnot_X5 0 rfl rfl 0 (by decide) k_X5_doKnot_0 rfl (v := .ref al) rfl dX5_doKnot_65 ?_
      refine g_bipush hX (v := 34) dX5_doKnot_68 (by decide) ?_
      refine g_iald hX (f := (upd (upd a 30 ((a 30) - (a 27))) 33 0)) 1 rfl (vin_c (by decide)) (v := (a 34)) (congrArg (upd (upd a 30 ((a 30) - (a 27))) 33 0) (show Int32.toNatClampNeg 34 = 34 from by decide)) dX5_doKnot_70 ?_
      refine g_iadd hX dX5_doKnot_71 ?_
      refine g_dup2 hX dX5_doKnot_72 rfl rfl ?_
      refine g_iald hX (f := (upd (upd a 30 ((a 30) - (a 27))) 33 0)) 1 rfl (vin_kn (a := a) hw c_27) (v := ((upd (upd a 30 ((a 30) - (a 27))) 33 0) (Int32.toNatClampNeg (12 + (a 34))))) (congrArg (upd (upd a 30 ((a 30) - (a 27))) 33 0) rfl) dX5_doKnot_73 ?_
      refine g_iconst hX (v := 1) dX5_doKnot_74 (by decide) ?_
      refine g_iadd hX dX5_doKnot_75 ?_
      refine g_iast hX 1 rfl (vin_kn (a := a) hw c_27) dX5_doKnot_76 (ws' := wMa T x al rs (upd (upd (upd a 30 ((a 30) - (a 27))) 33 0) (Int32.toNatClampNeg (12 + (a 34))) (((upd (upd a 30 ((a 30) - (a 27))) 33 0) (Int32.toNatClampNeg (12 + (a 34)))) + 1))) rfl ?_
      refine g_aload_n hX dX5_doKnot_77 rfl 0 rfl ?_
      refine g_get hX 5 h_X5_doKnot_X5 0 rfl rfl 0 (by decide) k_X5_doKnot_0 rfl (v := .ref al) rfl dX5_doKnot_78 ?_
      refine g_bipush hX (v := 12) dX5_doKnot_81 (by decide) ?_
      refine g_aload_n hX dX5_doKnot_83 rfl 0 rfl ?_
      refine g_get hX 5 h_X5_doKnot_X5 0 rfl rfl 0 (by decide) k_X5_doKnot_0 rfl (v := .ref al) rfl dX5_doKnot_84 ?_
      refine g_bipush hX (v := 34) dX5_doKnot_87 (by decide) ?_
      refine g_iald hX (f := (upd (upd (upd a 30 ((a 30) - (a 27))) 33 0) (Int32.toNatClampNeg (12 + (a 34))) (((upd (upd a 30 ((a 30) - (a 27))) 33 0) (Int32.toNatClampNeg (12 + (a 34)))) + 1))) 1 rfl (vin_c (by decide)) (v := ((upd (upd (upd a 30 ((a 30) - (a 27))) 33 0) (Int32.toNatClampNeg (12 + (a 34))) (((upd (upd a 30 ((a 30) - (a 27))) 33 0) (Int32.toNatClampNeg (12 + (a 34)))) + 1)) 34)) (congrArg (upd (upd (upd a 30 ((a 30) - (a 27))) 33 0) (Int32.toNatClampNeg (12 + (a 34))) (((upd (upd a 30 ((a 30) - (a 27))) 33 0) (Int32.toNatClampNeg (12 + (a 34)))) + 1)) (show Int32.toNatClampNeg 34 = 34 from by decide)) dX5_doKnot_89 ?_
      refine g_iadd hX dX5_doKnot_90 ?_
      refine g_iald hX (f := (upd (upd (upd a 30 ((a 30) - (a 27))) 33 0) (Int32.toNatClampNeg (12 + (a 34))) (((upd (upd a 30 ((a 30) - (a 27))) 33 0) (Int32.toNatClampNeg (12 + (a 34)))) + 1))) 1 rfl (vin_kn2 hw c_27 _) (v := ((upd (upd (upd a 30 ((a 30) - (a 27))) 33 0) (Int32.toNatClampNeg (12 + (a 34))) (((upd (upd a 30 ((a 30) - (a 27))) 33 0) (Int32.toNatClampNeg (12 + (a 34)))) + 1)) (Int32.toNatClampNeg (12 + ((upd (upd (upd a 30 ((a 30) - (a 27))) 33 0) (Int32.toNatClampNeg (12 + (a 34))) (((upd (upd a 30 ((a 30) - (a 27))) 33 0) (Int32.toNatClampNeg (12 + (a 34)))) + 1)) 34))))) (congrArg (upd (upd (upd a 30 ((a 30) - (a 27))) 33 0) (Int32.toNatClampNeg (12 + (a 34))) (((upd (upd a 30 ((a 30) - (a 27))) 33 0) (Int32.toNatClampNeg (12 + (a 34)))) + 1)) rfl) dX5_doKnot_91 ?_
      have e9 : F_X5_doKnot a = (((upd (upd (upd a 30 ((a 30) - (a 27))) 33 0) (Int32.toNatClampNeg (12 + (a 34))) (((upd (upd a 30 ((a 30) - (a 27))) 33 0) (Int32.toNatClampNeg (12 + (a 34)))) + 1)) (Int32.toNatClampNeg (12 + ((upd (upd (upd a 30 ((a 30) - (a 27))) 33 0) (Int32.toNatClampNeg (12 + (a 34))) (((upd (upd a 30 ((a 30) - (a 27))) 33 0) (Int32.toNatClampNeg (12 + (a 34)))) + 1)) 34)))), (upd (upd (upd a 30 ((a 30) - (a 27))) 33 0) (Int32.toNatClampNeg (12 + (a 34))) (((upd (upd a 30 ((a 30) - (a 27))) 33 0) (Int32.toNatClampNeg (12 + (a 34)))) + 1))) := by simp only [F_X5_doKnot, eq_true c_14, eq_false c_27, if_true, if_false]
      rw [e9]
      exact g_iret hX dX5_doKnot_92 rfl rfl
    · skip
      refine g_bipush hX (v := (-5)) dX5_doKnot_30 (by decide) ?_
      have e9 : F_X5_doKnot a = ((-5), a) := by simp only [F_X5_doKnot, eq_true c_14, eq_true c_27, if_true, if_false]
      rw [e9]
      exact g_iret hX dX5_doKnot_32 rfl rfl
  · skip
    refine g_bipush hX (v := (-4)) dX5_doKnot_17 (by decide) ?_
    have e9 : F_X5_doKnot a = ((-4), a) := by simp only [F_X5_doKnot, eq_false c_14, if_true, if_false]
    rw [e9]
    exact g_iret hX dX5_doKnot_19 rfl rfl
/-! X5_doCone -/
def rmX5_doCone : Room := { frames := 0, cells := 0, slots := 0, locals := 0 }
theorem k_X5_doCone_0 : Cond.fieldLink RX5 7 RX5 (TX5 0).2.1 (TX5 0).2.2.1 ∈ wsX5_doCone := List.mem_of_getElem? (i := 1) rfl
theorem h_X5_doCone_X5 : ∀ w ∈ u_ws RX5 TX5 12, w ∈ wsX5_doCone := fun w h => List.mem_cons_of_mem _ (List.mem_append_right _ h)
def F_X5_doCone (a : (Nat → Int32)) (p1 : Int32) : Int32 × (Nat → Int32) :=
  (if (a 34) = (-5) then ((a 30), (upd (upd a 30 p1) 33 (a 33))) else ((a 30), (upd (upd a 30 p1) 33 1)))
set_option maxHeartbeats 4000000 in
set_option maxRecDepth 100000 in
theorem c_X5_doCone (l : Launch) (T : TT) (b0 : Nat) (x al : Nat) (rs : List Value) (a : (Nat → Int32)) (p1 : Int32)  : ConI l T b0 yX5_doCone wsX5_doCone rmX5_doCone [.ref x, .int p1] (wMa T x al rs a) ((F_X5_doCone a p1).1) (wMa T x al rs ((F_X5_doCone a p1).2)) := by
  refine conI_of (cc := cX5_doCone) (maxL := 3) (ret := (some .int)) (lv0 := [(0, .ref x), (1, .int p1)]) (by decide +kernel) rfl (Nat.le_of_ble_eq_true rfl) rfl (fun X hX => ?_)
  refine g_aload_n hX dX5_doCone_0 rfl 0 rfl ?_
  refine g_get hX 5 h_X5_doCone_X5 0 rfl rfl 0 (by decide) k_X5_doCone_0 rfl (v := .ref al) rfl dX5_doCone_1 ?_
  refine g_bipush hX (v := 30) dX5_doCone_4 (by decide) ?_
  refine g_iald hX (f := a) 1 rfl (vin_c (by decide)) (v := (a 30)) (congrArg a (show Int32.toNatClampNeg 30 = 30 from by decide)) dX5_doCone_6 ?_
  refine g_istore_n hX (lv' := [(2, .int (a 30)), (0, .ref x), (1, .int p1)]) dX5_doCone_7 rfl (by decide) rfl ?_
  refine g_aload_n hX dX5_doCone_8 rfl 1 rfl ?_
  refine g_get hX 5 h_X5_doCone_X5 0 rfl rfl 0 (by decide) k_X5_doCone_0 rfl (v := .ref al) rfl dX5_doCone_9 ?_
  refine g_bipush hX (v := 30) dX5_doCone_12 (by decide) ?_
  refine g_iload_n hX dX5_doCone_14 rfl 2 rfl ?_
  refine g_iast hX 1 rfl (vin_c (by decide)) dX5_doCone_15 (ws' := wMa T x al rs (upd a 30 p1)) (by rw [show Int32.toNatClampNeg 30 = 30 from (show Int32.toNatClampNeg 30 = 30 from by decide)] <;> rfl) ?_
  refine g_aload_n hX dX5_doCone_16 rfl 1 rfl ?_
  refine g_get hX 5 h_X5_doCone_X5 0 rfl rfl 0 (by decide) k_X5_doCone_0 rfl (v := .ref al) rfl dX5_doCone_17 ?_
  refine g_bipush hX (v := 33) dX5_doCone_20 (by decide) ?_
  refine g_aload_n hX dX5_doCone_22 rfl 1 rfl ?_
  refine g_get hX 5 h_X5_doCone_X5 0 rfl rfl 0 (by decide) k_X5_doCone_0 rfl (v := .ref al) rfl dX5_doCone_23 ?_
  refine g_bipush hX (v := 34) dX5_doCone_26 (by decide) ?_
  refine g_iald hX (f := (upd a 30 p1)) 1 rfl (vin_c (by decide)) (v := (a 34)) (congrArg (upd a 30 p1) (show Int32.toNatClampNeg 34 = 34 from by decide)) dX5_doCone_28 ?_
  refine g_bipush hX (v := (-5)) dX5_doCone_29 (by decide) ?_
  refine g_icmp_ne hX 44 dX5_doCone_31 (by decide) (fun c_31 => ?_) (fun c_31 => ?_)
  · skip
    refine g_iconst hX (v := 1) dX5_doCone_44 (by decide) ?_
    refine g_iast hX 1 rfl (vin_c (by decide)) dX5_doCone_45 (ws' := wMa T x al rs (upd (upd a 30 p1) 33 1)) (by rw [show Int32.toNatClampNeg 33 = 33 from (show Int32.toNatClampNeg 33 = 33 from by decide)] <;> rfl) ?_
    refine g_iload_n hX dX5_doCone_46 rfl 0 rfl ?_
    have e9 : F_X5_doCone a p1 = ((a 30), (upd (upd a 30 p1) 33 1)) := by simp only [F_X5_doCone, eq_false c_31, if_true, if_false]
    rw [e9]
    exact g_iret hX dX5_doCone_47 rfl rfl
  · skip
    refine g_aload_n hX dX5_doCone_34 rfl 1 rfl ?_
    refine g_get hX 5 h_X5_doCone_X5 0 rfl rfl 0 (by decide) k_X5_doCone_0 rfl (v := .ref al) rfl dX5_doCone_35 ?_
    refine g_bipush hX (v := 33) dX5_doCone_38 (by decide) ?_
    refine g_iald hX (f := (upd a 30 p1)) 1 rfl (vin_c (by decide)) (v := (a 33)) (congrArg (upd a 30 p1) (show Int32.toNatClampNeg 33 = 33 from by decide)) dX5_doCone_40 ?_
    refine g_goto hX 45 dX5_doCone_41 (by decide) ?_
    refine g_iast hX 1 rfl (vin_c (by decide)) dX5_doCone_45 (ws' := wMa T x al rs (upd (upd a 30 p1) 33 (a 33))) (by rw [show Int32.toNatClampNeg 33 = 33 from (show Int32.toNatClampNeg 33 = 33 from by decide)] <;> rfl) ?_
    refine g_iload_n hX dX5_doCone_46 rfl 0 rfl ?_
    have e9 : F_X5_doCone a p1 = ((a 30), (upd (upd a 30 p1) 33 (a 33))) := by simp only [F_X5_doCone, eq_true c_31, if_true, if_false]
    rw [e9]
    exact g_iret hX dX5_doCone_47 rfl rfl
