theorem in_iff {p lo hi : Int64} (h : ¬ F_X5_in p lo hi = 0) : lo.toInt ≤ p.toInt ∧ p.toInt ≤ hi.toInt := by
  unfold F_X5_in at h
  split at h
  · exact absurd rfl h
  · split at h
    · exact absurd rfl h
    · rename_i h1 h2
      rw [lg_cmp_lt, Int64.lt_iff_toInt_lt] at h1
      rw [lg_cmp_gt, Int64.lt_iff_toInt_lt] at h2
      omega
theorem in32 {p : Int32} {lo hi : Int64} {a b : Int} (h : ¬ F_X5_in (Int32.toInt64 p) lo hi = 0) (h1 : lo.toInt = a) (h2 : hi.toInt = b) : a ≤ p.toInt ∧ p.toInt ≤ b := by
  have := in_iff h
  rw [Int32.toInt_toInt64, h1, h2] at this
  exact this
theorem in12 {p : Int32} (h : ¬ F_X5_in (Int32.toInt64 p) 0 11 = 0) : vp_in p 12 := by
  have := in32 (a := 0) (b := 11) h (by decide) (by decide)
  rw [vp_in_iff]
  omega
theorem in5 {p : Int32} (h : ¬ F_X5_in (Int32.toInt64 p) 0 4 = 0) : vp_in p 5 := by
  have := in32 (a := 0) (b := 4) h (by decide) (by decide)
  rw [vp_in_iff]
  omega
theorem in500 {p : Int32} (h : ¬ F_X5_in (Int32.toInt64 p) 1 500 = 0) : p.toInt ≤ 500 := (in32 (a := 1) (b := 500) h (by decide) (by decide)).2
theorem in11 {p : Int32} (h : ¬ F_X5_in (Int32.toInt64 p) 1 11 = 0) : ∃ t : Nat, 1 ≤ t ∧ t < 12 ∧ p = nI t := by
  have h1 := in32 (a := 1) (b := 11) h (by decide) (by decide)
  obtain ⟨t, ht, e⟩ := vp_in_of (x := p) (n := 12) (by rw [vp_in_iff]; omega) (by omega)
  refine ⟨t, ?_, ht, e⟩
  rw [e, nI_toInt (by omega)] at h1
  omega
theorem vin_0 {p : Int32} (h : vp_in p 12) : vp_in (0 + p) 37 := by
  obtain ⟨q, hq, e⟩ := vp_in_of h (by omega)
  rw [e]
  exact vinc 0 q 37 (by omega) (by omega)
theorem vin_12 {p : Int32} (h : vp_in p 12) : vp_in (12 + p) 37 := by
  obtain ⟨q, hq, e⟩ := vp_in_of h (by omega)
  rw [e]
  exact vinc 12 q 37 (by omega) (by omega)
theorem mWF_low {a : Nat → Int32} (h : mWF a) {i : Nat} (hi : i < 24) (x : Int32) : mWF (upd a i x) := mWF_congr (upd_ne (by omega)) (upd_ne (by omega)) (upd_ne (by omega)) (upd_ne (by omega)) (upd_ne (by omega)) h
theorem ixr (j c : Nat) (h : j + c < 2 ^ 31) : (nI j + nI c).toNatClampNeg = j + c := by rw [nI_add]; exact nI_clamp h
theorem vinr (j c n : Nat) (h : j + c < n) (hn : n < 2 ^ 31) : vp_in (nI j + nI c) n := by rw [nI_add]; exact vp_in_nI h hn
theorem nI_mul (a b : Nat) : nI a * nI b = nI (a * b) := (Int32.ofNat_mul a b).symm
theorem vin_hist {y : Int32} {m j : Nat} (h : y = nI m) (hm : m ≤ 3) (hj : j < 37) : vp_in (37 * y + nI j) 148 := by
  rw [h, show (37 : Int32) * nI m = nI (37 * m) from nI_mul 37 m, nI_add]
  exact vp_in_nI (by omega) (by omega)
theorem hist3 {y : Int32} (hh : ∃ m : Nat, m ≤ 4 ∧ y = nI m) (h : ¬ y = 4) : ∃ m : Nat, m ≤ 3 ∧ y = nI m := by
  obtain ⟨m, hm, e⟩ := hh
  refine ⟨m, ?_, e⟩
  rcases Nat.lt_or_ge m 4 with q | q
  · omega
  · have : m = 4 := by omega
    rw [this] at e
    exact absurd e h
theorem hist_dec {y : Int32} (hh : ∃ m : Nat, m ≤ 4 ∧ y = nI m) (h : ¬ y = 0) : ∃ m : Nat, m ≤ 3 ∧ y - 1 = nI m := by
  obtain ⟨m, hm, e⟩ := hh
  cases m with
  | zero => exact absurd e h
  | succ k => exact ⟨k, by omega, by rw [e, nI_pred]⟩
theorem hist_inc {y : Int32} (hh : ∃ m : Nat, m ≤ 3 ∧ y = nI m) : ∃ m : Nat, m ≤ 4 ∧ y + 1 = nI m := by
  obtain ⟨m, hm, e⟩ := hh
  exact ⟨m + 1, by omega, by rw [e, nI_1]⟩
theorem vin_cnt {p : Int32} (h : p = 20 ∨ p = 21 ∨ p = 22 ∨ p = 23 ∨ p = 24) : vp_in (24 + p - 20) 37 := by
  rcases h with h | h | h | h | h <;> rw [h] <;> exact vin_c (by decide)
theorem isRib_b : True := trivial
/-- the text's place -/
def tWF (n s : Int32) : Prop := ∃ m q : Nat, m ≤ 60 ∧ q ≤ m ∧ n = nI m ∧ s = nI q
theorem vin_txt {n s : Int32} (h : tWF n s) (h1 : ¬ n ≤ s) : vp_in s 60 := by
  obtain ⟨m, q, hm, hq, e1, e2⟩ := h
  rw [e1, e2] at h1
  rw [e2]
  have : q < m := Nat.lt_of_not_le (fun z => h1 (nI_le z (by omega)))
  exact vp_in_nI (by omega) (by omega)
theorem vin_type {n : Int32} (h : ∃ m : Nat, m ≤ 60 ∧ n = nI m) (h1 : ¬ n = 60) : vp_in n 60 := by
  obtain ⟨m, hm, e⟩ := h
  rcases Nat.lt_or_ge m 60 with q | q
  · rw [e]
    exact vp_in_nI q (by omega)
  · have : m = 60 := by omega
    rw [this] at e
    exact absurd e h1
/-! X5_isAbove -/
def rmX5_isAbove : Room := { frames := 1, cells := 0, slots := 0, locals := 25 }
theorem k_X5_isAbove_0 : Cond.constantLong RX5 61 (11) ∈ wsX5_isAbove := List.mem_of_getElem? (i := 1) rfl
theorem k_X5_isAbove_1 : Cond.fieldLink RX5 7 RX5 (TX5 0).2.1 (TX5 0).2.2.1 ∈ wsX5_isAbove := List.mem_of_getElem? (i := 2) rfl
theorem h_X5_isAbove_X5 : ∀ w ∈ u_ws RX5 TX5 12, w ∈ wsX5_isAbove := fun w h => List.mem_cons_of_mem _ (List.mem_append_right _ h)
def F_X5_isAbove (a : (Nat → Int32)) (p1 : Int32) (p2 : Int32) : Int32 :=
  (if (F_X5_in (Int32.toInt64 p2) 0 11) = 0 then 1 else (if ((a (Int32.toNatClampNeg (0 + p1))) - (a (Int32.toNatClampNeg (0 + p2)))) < 6 then 0 else 1))
set_option maxHeartbeats 4000000 in
set_option maxRecDepth 100000 in
theorem c_X5_isAbove (l : Launch) (T : TT) (b0 : Nat) (x al : Nat) (rs : List Value) (a : (Nat → Int32)) (p1 : Int32) (p2 : Int32) (hp : vp_in p1 12) : ConI l T b0 yX5_isAbove wsX5_isAbove rmX5_isAbove [.ref x, .int p1, .int p2] (wMa T x al rs a) (F_X5_isAbove a p1 p2) (wMa T x al rs a) := by
  refine conI_of (cc := cX5_isAbove) (maxL := 3) (ret := (some .boolean)) (lv0 := [(0, .ref x), (1, .int p1), (2, .int p2)]) (by decide +kernel) rfl (Nat.le_of_ble_eq_true rfl) rfl (fun X hX => ?_)
  refine g_iload_n hX dX5_isAbove_0 rfl 2 rfl ?_
  refine g_i2l hX dX5_isAbove_1 rfl ?_
  refine g_lconst hX (v := 0) dX5_isAbove_2 (by decide) ?_
  refine g_ldc2 hX (v := 11) k_X5_isAbove_0 dX5_isAbove_3 ?_
  refine g_cS_I hX (n := 3) (As := [.long (Int32.toInt64 p2), .long 0, .long 11]) (wc := []) (w1 := []) (rv := (F_X5_in (Int32.toInt64 p2) 0 11)) (st := []) (c_X5_in (xL X) T (xB X) (Int32.toInt64 p2) 0 11) gX5_isAbove_X5_in rfl rfl rfl ⟨Nat.le_of_ble_eq_true rfl, Nat.le_of_ble_eq_true rfl⟩ ⟨Nat.zero_le _, Nat.zero_le _⟩ ⟨by decide +kernel, by decide +kernel, by decide +kernel⟩ rfl [] rfl rfl (by decide) rfl (Nat.le_of_ble_eq_true rfl) dX5_isAbove_6 (ws' := wMa T x al rs a) rfl ?_
  refine g_if_eq hX 34 dX5_isAbove_9 (by decide) (fun c_9 => ?_) (fun c_9 => ?_)
  · skip
    refine g_iconst hX (v := 1) dX5_isAbove_34 (by decide) ?_
    refine g_goto hX 39 dX5_isAbove_35 (by decide) ?_
    have e9 : F_X5_isAbove a p1 p2 = 1 := by simp only [F_X5_isAbove, eq_true c_9, if_true, if_false]
    rw [e9]
    exact g_zret hX dX5_isAbove_39 rfl rfl rfl
  · skip
    refine g_aload_n hX dX5_isAbove_12 rfl 0 rfl ?_
    refine g_get hX 5 h_X5_isAbove_X5 0 rfl rfl 0 (by decide) k_X5_isAbove_1 rfl (v := .ref al) rfl dX5_isAbove_13 ?_
    refine g_iconst hX (v := 0) dX5_isAbove_16 (by decide) ?_
    refine g_iload_n hX dX5_isAbove_17 rfl 1 rfl ?_
    refine g_iadd hX dX5_isAbove_18 ?_
    refine g_iald hX (f := a) 1 rfl (vin_0 hp) (v := (a (Int32.toNatClampNeg (0 + p1)))) (congrArg a rfl) dX5_isAbove_19 ?_
    refine g_aload_n hX dX5_isAbove_20 rfl 0 rfl ?_
    refine g_get hX 5 h_X5_isAbove_X5 0 rfl rfl 0 (by decide) k_X5_isAbove_1 rfl (v := .ref al) rfl dX5_isAbove_21 ?_
    refine g_iconst hX (v := 0) dX5_isAbove_24 (by decide) ?_
    refine g_iload_n hX dX5_isAbove_25 rfl 2 rfl ?_
    refine g_iadd hX dX5_isAbove_26 ?_
    refine g_iald hX (f := a) 1 rfl (vin_0 (in12 c_9)) (v := (a (Int32.toNatClampNeg (0 + p2)))) (congrArg a rfl) dX5_isAbove_27 ?_
    refine g_isub hX dX5_isAbove_28 ?_
    refine g_bipush hX (v := 6) dX5_isAbove_29 (by decide) ?_
    refine g_icmp_lt hX 38 dX5_isAbove_31 (by decide) (fun c_31 => ?_) (fun c_31 => ?_)
    · skip
      refine g_iconst hX (v := 0) dX5_isAbove_38 (by decide) ?_
      have e9 : F_X5_isAbove a p1 p2 = 0 := by simp only [F_X5_isAbove, eq_false c_9, eq_true c_31, if_true, if_false]
      rw [e9]
      exact g_zret hX dX5_isAbove_39 rfl rfl rfl
    · skip
      refine g_iconst hX (v := 1) dX5_isAbove_34 (by decide) ?_
      refine g_goto hX 39 dX5_isAbove_35 (by decide) ?_
      have e9 : F_X5_isAbove a p1 p2 = 1 := by simp only [F_X5_isAbove, eq_false c_9, eq_false c_31, if_true, if_false]
      rw [e9]
      exact g_zret hX dX5_isAbove_39 rfl rfl rfl
/-! X5_isRibbon -/
def rmX5_isRibbon : Room := { frames := 2, cells := 0, slots := 0, locals := 47 }
def F_X5_isRibbon (a : (Nat → Int32)) (p1 : Int32) : Int32 :=
  (if (F_X5_isAbove a p1 (p1 - 1)) = 0 then 0 else (if (F_X5_isAbove a p1 (p1 + 1)) = 0 then 0 else 1))
set_option maxHeartbeats 4000000 in
set_option maxRecDepth 100000 in
theorem c_X5_isRibbon (l : Launch) (T : TT) (b0 : Nat) (x al : Nat) (rs : List Value) (a : (Nat → Int32)) (p1 : Int32) (hp : vp_in p1 12) : ConI l T b0 yX5_isRibbon wsX5_isRibbon rmX5_isRibbon [.ref x, .int p1] (wMa T x al rs a) (F_X5_isRibbon a p1) (wMa T x al rs a) := by
  refine conI_of (cc := cX5_isRibbon) (maxL := 2) (ret := (some .boolean)) (lv0 := [(0, .ref x), (1, .int p1)]) (by decide +kernel) rfl (Nat.le_of_ble_eq_true rfl) rfl (fun X hX => ?_)
  refine g_aload_n hX dX5_isRibbon_0 rfl 0 rfl ?_
  refine g_iload_n hX dX5_isRibbon_1 rfl 1 rfl ?_
  refine g_iload_n hX dX5_isRibbon_2 rfl 1 rfl ?_
  refine g_iconst hX (v := 1) dX5_isRibbon_3 (by decide) ?_
  refine g_isub hX dX5_isRibbon_4 ?_
  refine g_cV_I hX (n := 2) (As := [.int p1, .int (p1 - 1)]) (wc := wMa T x al rs a) (w1 := wMa T x al rs a) (rv := (F_X5_isAbove a p1 (p1 - 1))) (st := []) 0 rfl rfl (c_X5_isAbove (xL X) T (xB X) x al rs a p1 (p1 - 1) hp) gX5_isRibbon_X5_isAbove rfl rfl rfl ⟨Nat.le_of_ble_eq_true rfl, Nat.le_of_ble_eq_true rfl⟩ ⟨Nat.zero_le _, Nat.zero_le _⟩ ⟨by decide +kernel, by decide +kernel, by decide +kernel⟩ rfl [0, 1] rfl rfl (by decide) rfl (Nat.le_of_ble_eq_true rfl) dX5_isRibbon_5 (ws' := wMa T x al rs a) rfl ?_
  refine g_if_eq hX 26 dX5_isRibbon_8 (by decide) (fun c_8 => ?_) (fun c_8 => ?_)
  · skip
    refine g_iconst hX (v := 0) dX5_isRibbon_26 (by decide) ?_
    have e9 : F_X5_isRibbon a p1 = 0 := by simp only [F_X5_isRibbon, eq_true c_8, if_true, if_false]
    rw [e9]
    exact g_zret hX dX5_isRibbon_27 rfl rfl rfl
  · skip
    refine g_aload_n hX dX5_isRibbon_11 rfl 0 rfl ?_
    refine g_iload_n hX dX5_isRibbon_12 rfl 1 rfl ?_
    refine g_iload_n hX dX5_isRibbon_13 rfl 1 rfl ?_
    refine g_iconst hX (v := 1) dX5_isRibbon_14 (by decide) ?_
    refine g_iadd hX dX5_isRibbon_15 ?_
    refine g_cV_I hX (n := 2) (As := [.int p1, .int (p1 + 1)]) (wc := wMa T x al rs a) (w1 := wMa T x al rs a) (rv := (F_X5_isAbove a p1 (p1 + 1))) (st := []) 0 rfl rfl (c_X5_isAbove (xL X) T (xB X) x al rs a p1 (p1 + 1) hp) gX5_isRibbon_X5_isAbove rfl rfl rfl ⟨Nat.le_of_ble_eq_true rfl, Nat.le_of_ble_eq_true rfl⟩ ⟨Nat.zero_le _, Nat.zero_le _⟩ ⟨by decide +kernel, by decide +kernel, by decide +kernel⟩ rfl [0, 1] rfl rfl (by decide) rfl (Nat.le_of_ble_eq_true rfl) dX5_isRibbon_16 (ws' := wMa T x al rs a) rfl ?_
    refine g_if_eq hX 26 dX5_isRibbon_19 (by decide) (fun c_19 => ?_) (fun c_19 => ?_)
    · skip
      refine g_iconst hX (v := 0) dX5_isRibbon_26 (by decide) ?_
      have e9 : F_X5_isRibbon a p1 = 0 := by simp only [F_X5_isRibbon, eq_false c_8, eq_true c_19, if_true, if_false]
      rw [e9]
      exact g_zret hX dX5_isRibbon_27 rfl rfl rfl
    · skip
      refine g_iconst hX (v := 1) dX5_isRibbon_22 (by decide) ?_
      refine g_goto hX 27 dX5_isRibbon_23 (by decide) ?_
      have e9 : F_X5_isRibbon a p1 = 1 := by simp only [F_X5_isRibbon, eq_false c_8, eq_false c_19, if_true, if_false]
      rw [e9]
      exact g_zret hX dX5_isRibbon_27 rfl rfl rfl
/-! X5_isBad -/
def rmX5_isBad : Room := { frames := 0, cells := 0, slots := 0, locals := 0 }
theorem k_X5_isBad_0 : Cond.fieldLink RX5 7 RX5 (TX5 0).2.1 (TX5 0).2.2.1 ∈ wsX5_isBad := List.mem_of_getElem? (i := 1) rfl
theorem h_X5_isBad_X5 : ∀ w ∈ u_ws RX5 TX5 12, w ∈ wsX5_isBad := fun w h => List.mem_cons_of_mem _ (List.mem_append_right _ h)
def F_X5_isBad (a : (Nat → Int32)) (p1 : Int32) : Int32 :=
  (if (a (Int32.toNatClampNeg (12 + p1))) ≤ 2 then 0 else 1)
set_option maxHeartbeats 4000000 in
set_option maxRecDepth 100000 in
theorem c_X5_isBad (l : Launch) (T : TT) (b0 : Nat) (x al : Nat) (rs : List Value) (a : (Nat → Int32)) (p1 : Int32) (hp : vp_in p1 12) : ConI l T b0 yX5_isBad wsX5_isBad rmX5_isBad [.ref x, .int p1] (wMa T x al rs a) (F_X5_isBad a p1) (wMa T x al rs a) := by
  refine conI_of (cc := cX5_isBad) (maxL := 2) (ret := (some .boolean)) (lv0 := [(0, .ref x), (1, .int p1)]) (by decide +kernel) rfl (Nat.le_of_ble_eq_true rfl) rfl (fun X hX => ?_)
  refine g_aload_n hX dX5_isBad_0 rfl 0 rfl ?_
  refine g_get hX 5 h_X5_isBad_X5 0 rfl rfl 0 (by decide) k_X5_isBad_0 rfl (v := .ref al) rfl dX5_isBad_1 ?_
  refine g_bipush hX (v := 12) dX5_isBad_4 (by decide) ?_
  refine g_iload_n hX dX5_isBad_6 rfl 1 rfl ?_
  refine g_iadd hX dX5_isBad_7 ?_
  refine g_iald hX (f := a) 1 rfl (vin_12 hp) (v := (a (Int32.toNatClampNeg (12 + p1)))) (congrArg a rfl) dX5_isBad_8 ?_
  refine g_iconst hX (v := 2) dX5_isBad_9 (by decide) ?_
  refine g_icmp_le hX 17 dX5_isBad_10 (by decide) (fun c_10 => ?_) (fun c_10 => ?_)
  · skip
    refine g_iconst hX (v := 0) dX5_isBad_17 (by decide) ?_
    have e9 : F_X5_isBad a p1 = 0 := by simp only [F_X5_isBad, eq_true c_10, if_true, if_false]
    rw [e9]
    exact g_zret hX dX5_isBad_18 rfl rfl rfl
  · skip
    refine g_iconst hX (v := 1) dX5_isBad_13 (by decide) ?_
    refine g_goto hX 18 dX5_isBad_14 (by decide) ?_
    have e9 : F_X5_isBad a p1 = 1 := by simp only [F_X5_isBad, eq_false c_10, if_true, if_false]
    rw [e9]
    exact g_zret hX dX5_isBad_18 rfl rfl rfl
/-! X5_ribbons -/
def rmX5_ribbons : Room := { frames := 3, cells := 0, slots := 0, locals := 68 }
def K_X5_ribbons_4 : Nat → (Nat → Int32) → Nat → Int32 → Int32
  | 0, a, j, e => 0
  | n + 1, a, j, e => (if 12 ≤ (nI j) then e else (if (F_X5_isRibbon a (nI j)) = 0 then K_X5_ribbons_4 n a (j + 1) (e + 0) else K_X5_ribbons_4 n a (j + 1) (e + 1)))
def F_X5_ribbons (a : (Nat → Int32)) : Int32 :=
  K_X5_ribbons_4 13 a 0 0
set_option maxHeartbeats 4000000 in
set_option maxRecDepth 100000 in
theorem k_X5_ribbons_4 {T : TT} {X : CX} (hX : Fit T X (yX5_ribbons).cls 3 wsX5_ribbons cX5_ribbons (some .int) rmX5_ribbons) (x al : Nat) (rs : List Value) : ∀ (n : Nat) (a : (Nat → Int32)) (j : Nat) (e : Int32) (hn : j + n = 13) (hj : j ≤ 12), G T X (QI T X 0 0 (K_X5_ribbons_4 n a j e) (wMa T x al rs a)) 0 0 (wMa T x al rs a) [(2, .int (nI j)), (1, .int e), (0, .ref x)] 4 [] := by
  intro n
  induction n with
  | zero =>
    intro a j e hn hj
    exact absurd hn (by omega)
  | succ n ih =>
    intro a j e hn hj
    refine g_iload_n hX dX5_ribbons_4 rfl 0 rfl ?_
    refine g_bipush hX (v := 12) dX5_ribbons_5 (by decide) ?_
    refine g_icmp_ge hX 32 dX5_ribbons_7 (by decide) (fun c_7 => ?_) (fun c_7 => ?_)
    · skip
      refine g_iload_n hX dX5_ribbons_32 rfl 1 rfl ?_
      have e9 : K_X5_ribbons_4 (n + 1) a j e = e := by simp only [K_X5_ribbons_4, eq_true c_7, if_true, if_false]
      rw [e9]
      exact g_iret hX dX5_ribbons_33 rfl rfl
    · skip
      have hlt_7 : j < 12 := nlt_of c_7 (by decide) (by omega)
      refine g_iload_n hX dX5_ribbons_10 rfl 1 rfl ?_
      refine g_aload_n hX dX5_ribbons_11 rfl 2 rfl ?_
      refine g_iload_n hX dX5_ribbons_12 rfl 0 rfl ?_
      refine g_cV_I hX (n := 1) (As := [.int (nI j)]) (wc := wMa T x al rs a) (w1 := wMa T x al rs a) (rv := (F_X5_isRibbon a (nI j))) (st := [.int e]) 0 rfl rfl (c_X5_isRibbon (xL X) T (xB X) x al rs a (nI j) (vp_in_nI (by omega) (by omega))) gX5_ribbons_X5_isRibbon rfl rfl rfl ⟨Nat.le_of_ble_eq_true rfl, Nat.le_of_ble_eq_true rfl⟩ ⟨Nat.zero_le _, Nat.zero_le _⟩ ⟨by decide +kernel, by decide +kernel, by decide +kernel⟩ rfl [0, 1] rfl rfl (by decide) rfl (Nat.le_of_ble_eq_true rfl) dX5_ribbons_13 (ws' := wMa T x al rs a) rfl ?_
      refine g_if_eq hX 23 dX5_ribbons_16 (by decide) (fun c_16 => ?_) (fun c_16 => ?_)
      · skip
        refine g_iconst hX (v := 0) dX5_ribbons_23 (by decide) ?_
        refine g_iadd hX dX5_ribbons_24 ?_
        refine g_istore_n hX (lv' := [(1, .int (e + 0)), (2, .int (nI j)), (0, .ref x)]) dX5_ribbons_25 rfl (by decide) rfl ?_
        refine g_iinc hX (lv' := [(2, .int (nI (j + 1))), (1, .int (e + 0)), (0, .ref x)]) (v := (nI (j + 1))) 1 dX5_ribbons_26 rfl (nI_1 _) (by decide) rfl ?_
        refine g_goto hX 4 dX5_ribbons_29 (by decide) ?_
        have e9 : K_X5_ribbons_4 (n + 1) a j e = K_X5_ribbons_4 n a (j + 1) (e + 0) := by simp only [K_X5_ribbons_4, eq_false c_7, eq_true c_16, if_true, if_false]
        rw [e9]
        refine g_lv (lv' := [(2, .int (nI (j + 1))), (1, .int (e + 0)), (0, .ref x)]) [0, 1, 2] rfl ?_
        exact ih a (j + 1) (e + 0) (by omega) (by omega)
      · skip
        refine g_iconst hX (v := 1) dX5_ribbons_19 (by decide) ?_
        refine g_goto hX 24 dX5_ribbons_20 (by decide) ?_
        refine g_iadd hX dX5_ribbons_24 ?_
        refine g_istore_n hX (lv' := [(1, .int (e + 1)), (2, .int (nI j)), (0, .ref x)]) dX5_ribbons_25 rfl (by decide) rfl ?_
        refine g_iinc hX (lv' := [(2, .int (nI (j + 1))), (1, .int (e + 1)), (0, .ref x)]) (v := (nI (j + 1))) 1 dX5_ribbons_26 rfl (nI_1 _) (by decide) rfl ?_
        refine g_goto hX 4 dX5_ribbons_29 (by decide) ?_
        have e9 : K_X5_ribbons_4 (n + 1) a j e = K_X5_ribbons_4 n a (j + 1) (e + 1) := by simp only [K_X5_ribbons_4, eq_false c_7, eq_false c_16, if_true, if_false]
        rw [e9]
        refine g_lv (lv' := [(2, .int (nI (j + 1))), (1, .int (e + 1)), (0, .ref x)]) [0, 1, 2] rfl ?_
        exact ih a (j + 1) (e + 1) (by omega) (by omega)
set_option maxHeartbeats 4000000 in
set_option maxRecDepth 100000 in
theorem c_X5_ribbons (l : Launch) (T : TT) (b0 : Nat) (x al : Nat) (rs : List Value) (a : (Nat → Int32))  : ConI l T b0 yX5_ribbons wsX5_ribbons rmX5_ribbons [.ref x] (wMa T x al rs a) (F_X5_ribbons a) (wMa T x al rs a) := by
  refine conI_of (cc := cX5_ribbons) (maxL := 3) (ret := (some .int)) (lv0 := [(0, .ref x)]) (by decide +kernel) rfl (Nat.le_of_ble_eq_true rfl) rfl (fun X hX => ?_)
  refine g_iconst hX (v := 0) dX5_ribbons_0 (by decide) ?_
  refine g_istore_n hX (lv' := [(1, .int 0), (0, .ref x)]) dX5_ribbons_1 rfl (by decide) rfl ?_
  refine g_iconst hX (v := 0) dX5_ribbons_2 (by decide) ?_
  refine g_istore_n hX (lv' := [(2, .int 0), (1, .int 0), (0, .ref x)]) dX5_ribbons_3 rfl (by decide) rfl ?_
  have e9 : F_X5_ribbons a = K_X5_ribbons_4 13 a 0 0 := by simp only [F_X5_ribbons, if_true, if_false]
  rw [e9]
  refine g_lv (lv' := [(2, .int (nI 0)), (1, .int 0), (0, .ref x)]) [0, 1, 2] rfl ?_
  exact k_X5_ribbons_4 hX x al rs 13 a 0 0 (by omega) (by omega)
/-! X5_isAnyBad -/
def rmX5_isAnyBad : Room := { frames := 1, cells := 0, slots := 0, locals := 21 }
def K_X5_isAnyBad_4 : Nat → (Nat → Int32) → Nat → Int32 → Int32
  | 0, a, j, e => 0
  | n + 1, a, j, e => (if 12 ≤ (nI j) then e else (if e = 0 then (if (F_X5_isBad a (nI j)) = 0 then K_X5_isAnyBad_4 n a (j + 1) 0 else K_X5_isAnyBad_4 n a (j + 1) 1) else K_X5_isAnyBad_4 n a (j + 1) 1))
def F_X5_isAnyBad (a : (Nat → Int32)) : Int32 :=
  K_X5_isAnyBad_4 13 a 0 0
set_option maxHeartbeats 4000000 in
set_option maxRecDepth 100000 in
theorem k_X5_isAnyBad_4 {T : TT} {X : CX} (hX : Fit T X (yX5_isAnyBad).cls 3 wsX5_isAnyBad cX5_isAnyBad (some .boolean) rmX5_isAnyBad) (x al : Nat) (rs : List Value) : ∀ (n : Nat) (a : (Nat → Int32)) (j : Nat) (e : Int32) (hn : j + n = 13) (hj : j ≤ 12) (he : e = 0 ∨ e = 1), G T X (QI T X 0 0 (K_X5_isAnyBad_4 n a j e) (wMa T x al rs a)) 0 0 (wMa T x al rs a) [(2, .int (nI j)), (1, .int e), (0, .ref x)] 4 [] := by
  intro n
  induction n with
  | zero =>
    intro a j e hn hj he
    exact absurd hn (by omega)
  | succ n ih =>
    intro a j e hn hj he
    refine g_iload_n hX dX5_isAnyBad_4 rfl 0 rfl ?_
    refine g_bipush hX (v := 12) dX5_isAnyBad_5 (by decide) ?_
    refine g_icmp_ge hX 34 dX5_isAnyBad_7 (by decide) (fun c_7 => ?_) (fun c_7 => ?_)
    · skip
      refine g_iload_n hX dX5_isAnyBad_34 rfl 1 rfl ?_
      have e9 : K_X5_isAnyBad_4 (n + 1) a j e = e := by simp only [K_X5_isAnyBad_4, eq_true c_7, if_true, if_false]
      rw [e9]
      exact g_zret hX dX5_isAnyBad_35 (narrow_b he) rfl rfl
    · skip
      have hlt_7 : j < 12 := nlt_of c_7 (by decide) (by omega)
      refine g_iload_n hX dX5_isAnyBad_10 rfl 1 rfl ?_
      refine g_if_ne hX 22 dX5_isAnyBad_11 (by decide) (fun c_11 => ?_) (fun c_11 => ?_)
      · skip
        refine g_iconst hX (v := 1) dX5_isAnyBad_22 (by decide) ?_
        refine g_goto hX 27 dX5_isAnyBad_23 (by decide) ?_
        refine g_istore_n hX (lv' := [(1, .int 1), (2, .int (nI j)), (0, .ref x)]) dX5_isAnyBad_27 rfl (by decide) rfl ?_
        refine g_iinc hX (lv' := [(2, .int (nI (j + 1))), (1, .int 1), (0, .ref x)]) (v := (nI (j + 1))) 1 dX5_isAnyBad_28 rfl (nI_1 _) (by decide) rfl ?_
        refine g_goto hX 4 dX5_isAnyBad_31 (by decide) ?_
        have e9 : K_X5_isAnyBad_4 (n + 1) a j e = K_X5_isAnyBad_4 n a (j + 1) 1 := by simp only [K_X5_isAnyBad_4, eq_false c_7, eq_false c_11, if_true, if_false]
        rw [e9]
        refine g_lv (lv' := [(2, .int (nI (j + 1))), (1, .int 1), (0, .ref x)]) [0, 1, 2] rfl ?_
        exact ih a (j + 1) 1 (by omega) (by omega) (by first | exact Or.inl rfl | exact Or.inr rfl)
      · skip
        refine g_aload_n hX dX5_isAnyBad_14 rfl 2 rfl ?_
        refine g_iload_n hX dX5_isAnyBad_15 rfl 0 rfl ?_
        refine g_cV_I hX (n := 1) (As := [.int (nI j)]) (wc := wMa T x al rs a) (w1 := wMa T x al rs a) (rv := (F_X5_isBad a (nI j))) (st := []) 0 rfl rfl (c_X5_isBad (xL X) T (xB X) x al rs a (nI j) (vp_in_nI (by omega) (by omega))) gX5_isAnyBad_X5_isBad rfl rfl rfl ⟨Nat.le_of_ble_eq_true rfl, Nat.le_of_ble_eq_true rfl⟩ ⟨Nat.zero_le _, Nat.zero_le _⟩ ⟨by decide +kernel, by decide +kernel, by decide +kernel⟩ rfl [0, 1] rfl rfl (by decide) rfl (Nat.le_of_ble_eq_true rfl) dX5_isAnyBad_16 (ws' := wMa T x al rs a) rfl ?_
        refine g_if_eq hX 26 dX5_isAnyBad_19 (by decide) (fun c_19 => ?_) (fun c_19 => ?_)
        · skip
          refine g_iconst hX (v := 0) dX5_isAnyBad_26 (by decide) ?_
          refine g_istore_n hX (lv' := [(1, .int 0), (2, .int (nI j)), (0, .ref x)]) dX5_isAnyBad_27 rfl (by decide) rfl ?_
          refine g_iinc hX (lv' := [(2, .int (nI (j + 1))), (1, .int 0), (0, .ref x)]) (v := (nI (j + 1))) 1 dX5_isAnyBad_28 rfl (nI_1 _) (by decide) rfl ?_
          refine g_goto hX 4 dX5_isAnyBad_31 (by decide) ?_
          have e9 : K_X5_isAnyBad_4 (n + 1) a j e = K_X5_isAnyBad_4 n a (j + 1) 0 := by simp only [K_X5_isAnyBad_4, eq_false c_7, eq_true c_11, eq_true c_19, if_true, if_false]
          rw [e9]
          refine g_lv (lv' := [(2, .int (nI (j + 1))), (1, .int 0), (0, .ref x)]) [0, 1, 2] rfl ?_
          exact ih a (j + 1) 0 (by omega) (by omega) (by first | exact Or.inl rfl | exact Or.inr rfl)
        · skip
          refine g_iconst hX (v := 1) dX5_isAnyBad_22 (by decide) ?_
          refine g_goto hX 27 dX5_isAnyBad_23 (by decide) ?_
          refine g_istore_n hX (lv' := [(1, .int 1), (2, .int (nI j)), (0, .ref x)]) dX5_isAnyBad_27 rfl (by decide) rfl ?_
          refine g_iinc hX (lv' := [(2, .int (nI (j + 1))), (1, .int 1), (0, .ref x)]) (v := (nI (j + 1))) 1 dX5_isAnyBad_28 rfl (nI_1 _) (by decide) rfl ?_
          refine g_goto hX 4 dX5_isAnyBad_31 (by decide) ?_
          have e9 : K_X5_isAnyBad_4 (n + 1) a j e = K_X5_isAnyBad_4 n a (j + 1) 1 := by simp only [K_X5_isAnyBad_4, eq_false c_7, eq_true c_11, eq_false c_19, if_true, if_false]
          rw [e9]
          refine g_lv (lv' := [(2, .int (nI (j + 1))), (1, .int 1), (0, .ref x)]) [0, 1, 2] rfl ?_
          exact ih a (j + 1) 1 (by omega) (by omega) (by first | exact Or.inl rfl | exact Or.inr rfl)
set_option maxHeartbeats 4000000 in
set_option maxRecDepth 100000 in
theorem c_X5_isAnyBad (l : Launch) (T : TT) (b0 : Nat) (x al : Nat) (rs : List Value) (a : (Nat → Int32))  : ConI l T b0 yX5_isAnyBad wsX5_isAnyBad rmX5_isAnyBad [.ref x] (wMa T x al rs a) (F_X5_isAnyBad a) (wMa T x al rs a) := by
  refine conI_of (cc := cX5_isAnyBad) (maxL := 3) (ret := (some .boolean)) (lv0 := [(0, .ref x)]) (by decide +kernel) rfl (Nat.le_of_ble_eq_true rfl) rfl (fun X hX => ?_)
  refine g_iconst hX (v := 0) dX5_isAnyBad_0 (by decide) ?_
  refine g_istore_n hX (lv' := [(1, .int 0), (0, .ref x)]) dX5_isAnyBad_1 rfl (by decide) rfl ?_
  refine g_iconst hX (v := 0) dX5_isAnyBad_2 (by decide) ?_
  refine g_istore_n hX (lv' := [(2, .int 0), (1, .int 0), (0, .ref x)]) dX5_isAnyBad_3 rfl (by decide) rfl ?_
  have e9 : F_X5_isAnyBad a = K_X5_isAnyBad_4 13 a 0 0 := by simp only [F_X5_isAnyBad, if_true, if_false]
  rw [e9]
  refine g_lv (lv' := [(2, .int (nI 0)), (1, .int 0), (0, .ref x)]) [0, 1, 2] rfl ?_
  exact k_X5_isAnyBad_4 hX x al rs 13 a 0 0 (by omega) (by omega) (Or.inl rfl)
/-! X5_bare -/
def rmX5_bare : Room := { frames := 0, cells := 0, slots := 0, locals := 0 }
theorem k_X5_bare_0 : Cond.fieldLink RX5 7 RX5 (TX5 0).2.1 (TX5 0).2.2.1 ∈ wsX5_bare := List.mem_of_getElem? (i := 1) rfl
theorem h_X5_bare_X5 : ∀ w ∈ u_ws RX5 TX5 12, w ∈ wsX5_bare := fun w h => List.mem_cons_of_mem _ (List.mem_append_right _ h)
def K_X5_bare_4 : Nat → (Nat → Int32) → Nat → Int32 → Int32
  | 0, a, j, e => 0
  | n + 1, a, j, e => (if 12 ≤ (nI j) then e else (if (a j) = 0 then K_X5_bare_4 n a (j + 1) (e + 1) else K_X5_bare_4 n a (j + 1) (e + 0)))
def F_X5_bare (a : (Nat → Int32)) : Int32 :=
  K_X5_bare_4 13 a 0 0
set_option maxHeartbeats 4000000 in
set_option maxRecDepth 100000 in
theorem k_X5_bare_4 {T : TT} {X : CX} (hX : Fit T X (yX5_bare).cls 3 wsX5_bare cX5_bare (some .int) rmX5_bare) (x al : Nat) (rs : List Value) : ∀ (n : Nat) (a : (Nat → Int32)) (j : Nat) (e : Int32) (hn : j + n = 13) (hj : j ≤ 12), G T X (QI T X 0 0 (K_X5_bare_4 n a j e) (wMa T x al rs a)) 0 0 (wMa T x al rs a) [(2, .int (nI j)), (1, .int e), (0, .ref x)] 4 [] := by
  intro n
  induction n with
  | zero =>
    intro a j e hn hj
    exact absurd hn (by omega)
  | succ n ih =>
    intro a j e hn hj
    refine g_iload_n hX dX5_bare_4 rfl 0 rfl ?_
    refine g_bipush hX (v := 12) dX5_bare_5 (by decide) ?_
    refine g_icmp_ge hX 35 dX5_bare_7 (by decide) (fun c_7 => ?_) (fun c_7 => ?_)
    · skip
      refine g_iload_n hX dX5_bare_35 rfl 1 rfl ?_
      have e9 : K_X5_bare_4 (n + 1) a j e = e := by simp only [K_X5_bare_4, eq_true c_7, if_true, if_false]
      rw [e9]
      exact g_iret hX dX5_bare_36 rfl rfl
    · skip
      have hlt_7 : j < 12 := nlt_of c_7 (by decide) (by omega)
      refine g_iload_n hX dX5_bare_10 rfl 1 rfl ?_
      refine g_aload_n hX dX5_bare_11 rfl 2 rfl ?_
      refine g_get hX 5 h_X5_bare_X5 0 rfl rfl 0 (by decide) k_X5_bare_0 rfl (v := .ref al) rfl dX5_bare_12 ?_
      refine g_iconst hX (v := 0) dX5_bare_15 (by decide) ?_
      refine g_iload_n hX dX5_bare_16 rfl 0 rfl ?_
      refine g_iadd hX dX5_bare_17 ?_
      refine g_iald hX (f := a) 1 rfl (vinc 0 j 37 (by omega) (by omega)) (v := (a j)) (congrArg a (ix0 j (by omega))) dX5_bare_18 ?_
      refine g_if_ne hX 26 dX5_bare_19 (by decide) (fun c_19 => ?_) (fun c_19 => ?_)
      · skip
        refine g_iconst hX (v := 0) dX5_bare_26 (by decide) ?_
        refine g_iadd hX dX5_bare_27 ?_
        refine g_istore_n hX (lv' := [(1, .int (e + 0)), (2, .int (nI j)), (0, .ref x)]) dX5_bare_28 rfl (by decide) rfl ?_
        refine g_iinc hX (lv' := [(2, .int (nI (j + 1))), (1, .int (e + 0)), (0, .ref x)]) (v := (nI (j + 1))) 1 dX5_bare_29 rfl (nI_1 _) (by decide) rfl ?_
        refine g_goto hX 4 dX5_bare_32 (by decide) ?_
        have e9 : K_X5_bare_4 (n + 1) a j e = K_X5_bare_4 n a (j + 1) (e + 0) := by simp only [K_X5_bare_4, eq_false c_7, eq_false c_19, if_true, if_false]
        rw [e9]
        refine g_lv (lv' := [(2, .int (nI (j + 1))), (1, .int (e + 0)), (0, .ref x)]) [0, 1, 2] rfl ?_
        exact ih a (j + 1) (e + 0) (by omega) (by omega)
      · skip
        refine g_iconst hX (v := 1) dX5_bare_22 (by decide) ?_
        refine g_goto hX 27 dX5_bare_23 (by decide) ?_
        refine g_iadd hX dX5_bare_27 ?_
        refine g_istore_n hX (lv' := [(1, .int (e + 1)), (2, .int (nI j)), (0, .ref x)]) dX5_bare_28 rfl (by decide) rfl ?_
        refine g_iinc hX (lv' := [(2, .int (nI (j + 1))), (1, .int (e + 1)), (0, .ref x)]) (v := (nI (j + 1))) 1 dX5_bare_29 rfl (nI_1 _) (by decide) rfl ?_
        refine g_goto hX 4 dX5_bare_32 (by decide) ?_
        have e9 : K_X5_bare_4 (n + 1) a j e = K_X5_bare_4 n a (j + 1) (e + 1) := by simp only [K_X5_bare_4, eq_false c_7, eq_true c_19, if_true, if_false]
        rw [e9]
        refine g_lv (lv' := [(2, .int (nI (j + 1))), (1, .int (e + 1)), (0, .ref x)]) [0, 1, 2] rfl ?_
        exact ih a (j + 1) (e + 1) (by omega) (by omega)
set_option maxHeartbeats 4000000 in
set_option maxRecDepth 100000 in
theorem c_X5_bare (l : Launch) (T : TT) (b0 : Nat) (x al : Nat) (rs : List Value) (a : (Nat → Int32))  : ConI l T b0 yX5_bare wsX5_bare rmX5_bare [.ref x] (wMa T x al rs a) (F_X5_bare a) (wMa T x al rs a) := by
  refine conI_of (cc := cX5_bare) (maxL := 3) (ret := (some .int)) (lv0 := [(0, .ref x)]) (by decide +kernel) rfl (Nat.le_of_ble_eq_true rfl) rfl (fun X hX => ?_)
  refine g_iconst hX (v := 0) dX5_bare_0 (by decide) ?_
  refine g_istore_n hX (lv' := [(1, .int 0), (0, .ref x)]) dX5_bare_1 rfl (by decide) rfl ?_
  refine g_iconst hX (v := 0) dX5_bare_2 (by decide) ?_
  refine g_istore_n hX (lv' := [(2, .int 0), (1, .int 0), (0, .ref x)]) dX5_bare_3 rfl (by decide) rfl ?_
  have e9 : F_X5_bare a = K_X5_bare_4 13 a 0 0 := by simp only [F_X5_bare, if_true, if_false]
  rw [e9]
  refine g_lv (lv' := [(2, .int (nI 0)), (1, .int 0), (0, .ref x)]) [0, 1, 2] rfl ?_
  exact k_X5_bare_4 hX x al rs 13 a 0 0 (by omega) (by omega)
/-! X5_allKnots -/
def rmX5_allKnots : Room := { frames := 0, cells := 0, slots := 0, locals := 0 }
theorem k_X5_allKnots_0 : Cond.fieldLink RX5 7 RX5 (TX5 0).2.1 (TX5 0).2.2.1 ∈ wsX5_allKnots := List.mem_of_getElem? (i := 1) rfl
theorem h_X5_allKnots_X5 : ∀ w ∈ u_ws RX5 TX5 12, w ∈ wsX5_allKnots := fun w h => List.mem_cons_of_mem _ (List.mem_append_right _ h)
def K_X5_allKnots_4 : Nat → (Nat → Int32) → Nat → Int32 → Int32
  | 0, a, j, e => 0
  | n + 1, a, j, e => (if 12 ≤ (nI j) then e else K_X5_allKnots_4 n a (j + 1) (e + (a (12 + j))))
def F_X5_allKnots (a : (Nat → Int32)) : Int32 :=
  K_X5_allKnots_4 13 a 0 0
set_option maxHeartbeats 4000000 in
set_option maxRecDepth 100000 in
theorem k_X5_allKnots_4 {T : TT} {X : CX} (hX : Fit T X (yX5_allKnots).cls 3 wsX5_allKnots cX5_allKnots (some .int) rmX5_allKnots) (x al : Nat) (rs : List Value) : ∀ (n : Nat) (a : (Nat → Int32)) (j : Nat) (e : Int32) (hn : j + n = 13) (hj : j ≤ 12), G T X (QI T X 0 0 (K_X5_allKnots_4 n a j e) (wMa T x al rs a)) 0 0 (wMa T x al rs a) [(2, .int (nI j)), (1, .int e), (0, .ref x)] 4 [] := by
  intro n
  induction n with
  | zero =>
    intro a j e hn hj
    exact absurd hn (by omega)
  | succ n ih =>
    intro a j e hn hj
    refine g_iload_n hX dX5_allKnots_4 rfl 0 rfl ?_
    refine g_bipush hX (v := 12) dX5_allKnots_5 (by decide) ?_
    refine g_icmp_ge hX 28 dX5_allKnots_7 (by decide) (fun c_7 => ?_) (fun c_7 => ?_)
    · skip
      refine g_iload_n hX dX5_allKnots_28 rfl 1 rfl ?_
      have e9 : K_X5_allKnots_4 (n + 1) a j e = e := by simp only [K_X5_allKnots_4, eq_true c_7, if_true, if_false]
      rw [e9]
      exact g_iret hX dX5_allKnots_29 rfl rfl
    · skip
      have hlt_7 : j < 12 := nlt_of c_7 (by decide) (by omega)
      refine g_iload_n hX dX5_allKnots_10 rfl 1 rfl ?_
      refine g_aload_n hX dX5_allKnots_11 rfl 2 rfl ?_
      refine g_get hX 5 h_X5_allKnots_X5 0 rfl rfl 0 (by decide) k_X5_allKnots_0 rfl (v := .ref al) rfl dX5_allKnots_12 ?_
      refine g_bipush hX (v := 12) dX5_allKnots_15 (by decide) ?_
      refine g_iload_n hX dX5_allKnots_17 rfl 0 rfl ?_
      refine g_iadd hX dX5_allKnots_18 ?_
      refine g_iald hX (f := a) 1 rfl (vinc 12 j 37 (by omega) (by omega)) (v := (a (12 + j))) (congrArg a (ixc 12 j (by omega))) dX5_allKnots_19 ?_
      refine g_iadd hX dX5_allKnots_20 ?_
      refine g_istore_n hX (lv' := [(1, .int (e + (a (12 + j)))), (2, .int (nI j)), (0, .ref x)]) dX5_allKnots_21 rfl (by decide) rfl ?_
      refine g_iinc hX (lv' := [(2, .int (nI (j + 1))), (1, .int (e + (a (12 + j)))), (0, .ref x)]) (v := (nI (j + 1))) 1 dX5_allKnots_22 rfl (nI_1 _) (by decide) rfl ?_
      refine g_goto hX 4 dX5_allKnots_25 (by decide) ?_
      have e9 : K_X5_allKnots_4 (n + 1) a j e = K_X5_allKnots_4 n a (j + 1) (e + (a (12 + j))) := by simp only [K_X5_allKnots_4, eq_false c_7, if_true, if_false]
      rw [e9]
      refine g_lv (lv' := [(2, .int (nI (j + 1))), (1, .int (e + (a (12 + j)))), (0, .ref x)]) [0, 1, 2] rfl ?_
      exact ih a (j + 1) (e + (a (12 + j))) (by omega) (by omega)
set_option maxHeartbeats 4000000 in
set_option maxRecDepth 100000 in
theorem c_X5_allKnots (l : Launch) (T : TT) (b0 : Nat) (x al : Nat) (rs : List Value) (a : (Nat → Int32))  : ConI l T b0 yX5_allKnots wsX5_allKnots rmX5_allKnots [.ref x] (wMa T x al rs a) (F_X5_allKnots a) (wMa T x al rs a) := by
  refine conI_of (cc := cX5_allKnots) (maxL := 3) (ret := (some .int)) (lv0 := [(0, .ref x)]) (by decide +kernel) rfl (Nat.le_of_ble_eq_true rfl) rfl (fun X hX => ?_)
  refine g_iconst hX (v := 0) dX5_allKnots_0 (by decide) ?_
  refine g_istore_n hX (lv' := [(1, .int 0), (0, .ref x)]) dX5_allKnots_1 rfl (by decide) rfl ?_
  refine g_iconst hX (v := 0) dX5_allKnots_2 (by decide) ?_
  refine g_istore_n hX (lv' := [(2, .int 0), (1, .int 0), (0, .ref x)]) dX5_allKnots_3 rfl (by decide) rfl ?_
  have e9 : F_X5_allKnots a = K_X5_allKnots_4 13 a 0 0 := by simp only [F_X5_allKnots, if_true, if_false]
  rw [e9]
  refine g_lv (lv' := [(2, .int (nI 0)), (1, .int 0), (0, .ref x)]) [0, 1, 2] rfl ?_
  exact k_X5_allKnots_4 hX x al rs 13 a 0 0 (by omega) (by omega)
/-! X5_place_ -/
def rmX5_place_ : Room := { frames := 3, cells := 0, slots := 0, locals := 68 }
theorem k_X5_place__0 : Cond.constantLong RX5 61 (11) ∈ wsX5_place_ := List.mem_of_getElem? (i := 1) rfl
theorem k_X5_place__1 : Cond.fieldLink RX5 7 RX5 (TX5 0).2.1 (TX5 0).2.2.1 ∈ wsX5_place_ := List.mem_of_getElem? (i := 2) rfl
theorem h_X5_place__X5 : ∀ w ∈ u_ws RX5 TX5 12, w ∈ wsX5_place_ := fun w h => List.mem_cons_of_mem _ (List.mem_append_right _ h)
def F_X5_place_ (u : MV) (p1 : Int32) (p2 : Int32) : Int32 :=
  (if (F_X5_in (Int32.toInt64 p1) 0 11) = 0 then (-1) else (if p2 = 0 then (u.2.1 (Int32.toNatClampNeg (0 + p1))) else (if p2 = 1 then (u.2.1 (Int32.toNatClampNeg (12 + p1))) else (if p2 = 2 then (if (F_X5_isRibbon u.2.1 p1) = 0 then 0 else 1) else (if p2 = 3 then (if (F_X5_isBad u.2.1 p1) = 0 then 0 else 1) else (-2))))))
set_option maxHeartbeats 4000000 in
set_option maxRecDepth 100000 in
theorem c_X5_place_ (l : Launch) (T : TT) (b0 : Nat) (x al ke tr hi sn te : Nat) (u : MV) (p1 : Int32) (p2 : Int32)  : ConI l T b0 yX5_place_ wsX5_place_ rmX5_place_ [.ref x, .int p1, .int p2] (wMo T x al ke tr hi sn te u) (F_X5_place_ u p1 p2) (wMo T x al ke tr hi sn te u) := by
  refine conI_of (cc := cX5_place_) (maxL := 3) (ret := (some .int)) (lv0 := [(0, .ref x), (1, .int p1), (2, .int p2)]) (by decide +kernel) rfl (Nat.le_of_ble_eq_true rfl) rfl (fun X hX => ?_)
  refine g_iload_n hX dX5_place__0 rfl 1 rfl ?_
  refine g_i2l hX dX5_place__1 rfl ?_
  refine g_lconst hX (v := 0) dX5_place__2 (by decide) ?_
  refine g_ldc2 hX (v := 11) k_X5_place__0 dX5_place__3 ?_
  refine g_cS_I hX (n := 3) (As := [.long (Int32.toInt64 p1), .long 0, .long 11]) (wc := []) (w1 := []) (rv := (F_X5_in (Int32.toInt64 p1) 0 11)) (st := []) (c_X5_in (xL X) T (xB X) (Int32.toInt64 p1) 0 11) gX5_place__X5_in rfl rfl rfl ⟨Nat.le_of_ble_eq_true rfl, Nat.le_of_ble_eq_true rfl⟩ ⟨Nat.zero_le _, Nat.zero_le _⟩ ⟨by decide +kernel, by decide +kernel, by decide +kernel⟩ rfl [] rfl rfl (by decide) rfl (Nat.le_of_ble_eq_true rfl) dX5_place__6 (ws' := wMo T x al ke tr hi sn te u) rfl ?_
  refine g_if_ne hX 14 dX5_place__9 (by decide) (fun c_9 => ?_) (fun c_9 => ?_)
  · skip
    refine g_iload_n hX dX5_place__14 rfl 2 rfl ?_
    by_cases c_15_0 : p2 = 0
    · skip
      refine g_tabIn hX (off := 29) 44 dX5_place__15 (by rw [c_15_0]; decide) (by rw [c_15_0]; decide) (by rw [c_15_0]; decide) (by decide) ?_
      refine g_aload_n hX dX5_place__44 rfl 0 rfl ?_
      refine g_get hX 5 h_X5_place__X5 0 rfl rfl 0 (by decide) k_X5_place__1 rfl (v := .ref al) rfl dX5_place__45 ?_
      refine g_iconst hX (v := 0) dX5_place__48 (by decide) ?_
      refine g_iload_n hX dX5_place__49 rfl 1 rfl ?_
      refine g_iadd hX dX5_place__50 ?_
      refine g_iald hX (f := u.2.1) 1 rfl (vin_0 (in12 c_9)) (v := (u.2.1 (Int32.toNatClampNeg (0 + p1)))) (congrArg u.2.1 rfl) dX5_place__51 ?_
      have e9 : F_X5_place_ u p1 p2 = (u.2.1 (Int32.toNatClampNeg (0 + p1))) := by simp only [F_X5_place_, eq_false c_9, eq_true c_15_0, if_true, if_false]
      rw [e9]
      exact g_iret hX dX5_place__52 rfl rfl
    · skip
      by_cases c_15_1 : p2 = 1
      · skip
        refine g_tabIn hX (off := 38) 53 dX5_place__15 (by rw [c_15_1]; decide) (by rw [c_15_1]; decide) (by rw [c_15_1]; decide) (by decide) ?_
        refine g_aload_n hX dX5_place__53 rfl 0 rfl ?_
        refine g_get hX 5 h_X5_place__X5 0 rfl rfl 0 (by decide) k_X5_place__1 rfl (v := .ref al) rfl dX5_place__54 ?_
        refine g_bipush hX (v := 12) dX5_place__57 (by decide) ?_
        refine g_iload_n hX dX5_place__59 rfl 1 rfl ?_
        refine g_iadd hX dX5_place__60 ?_
        refine g_iald hX (f := u.2.1) 1 rfl (vin_12 (in12 c_9)) (v := (u.2.1 (Int32.toNatClampNeg (12 + p1)))) (congrArg u.2.1 rfl) dX5_place__61 ?_
        have e9 : F_X5_place_ u p1 p2 = (u.2.1 (Int32.toNatClampNeg (12 + p1))) := by simp only [F_X5_place_, eq_false c_9, eq_false c_15_0, eq_true c_15_1, if_true, if_false]
        rw [e9]
        exact g_iret hX dX5_place__62 rfl rfl
      · skip
        by_cases c_15_2 : p2 = 2
        · skip
          refine g_tabIn hX (off := 48) 63 dX5_place__15 (by rw [c_15_2]; decide) (by rw [c_15_2]; decide) (by rw [c_15_2]; decide) (by decide) ?_
          refine g_aload_n hX dX5_place__63 rfl 0 rfl ?_
          refine g_iload_n hX dX5_place__64 rfl 1 rfl ?_
          refine g_cV_I hX (n := 1) (As := [.int p1]) (wc := wMa T x al ([.ref ke, .ref tr, .ref hi, .int (u.1 0), .ref sn, .int (u.1 1), .ref te, .int (u.1 2), .int (u.1 3), .int (u.1 4), .int (u.1 5)]) u.2.1) (w1 := wMa T x al ([.ref ke, .ref tr, .ref hi, .int (u.1 0), .ref sn, .int (u.1 1), .ref te, .int (u.1 2), .int (u.1 3), .int (u.1 4), .int (u.1 5)]) u.2.1) (rv := (F_X5_isRibbon u.2.1 p1)) (st := []) 0 rfl rfl (c_X5_isRibbon (xL X) T (xB X) x al ([.ref ke, .ref tr, .ref hi, .int (u.1 0), .ref sn, .int (u.1 1), .ref te, .int (u.1 2), .int (u.1 3), .int (u.1 4), .int (u.1 5)]) u.2.1 p1 (in12 c_9)) gX5_place__X5_isRibbon rfl rfl rfl ⟨Nat.le_of_ble_eq_true rfl, Nat.le_of_ble_eq_true rfl⟩ ⟨Nat.zero_le _, Nat.zero_le _⟩ ⟨by decide +kernel, by decide +kernel, by decide +kernel⟩ rfl [0, 1] rfl rfl (by decide) rfl (Nat.le_of_ble_eq_true rfl) dX5_place__65 (ws' := wMo T x al ke tr hi sn te u) rfl ?_
          refine g_if_eq hX 75 dX5_place__68 (by decide) (fun c_68 => ?_) (fun c_68 => ?_)
          · skip
            refine g_iconst hX (v := 0) dX5_place__75 (by decide) ?_
            have e9 : F_X5_place_ u p1 p2 = 0 := by simp only [F_X5_place_, eq_false c_9, eq_false c_15_0, eq_false c_15_1, eq_true c_15_2, eq_true c_68, if_true, if_false]
            rw [e9]
            exact g_iret hX dX5_place__76 rfl rfl
          · skip
            refine g_iconst hX (v := 1) dX5_place__71 (by decide) ?_
            refine g_goto hX 76 dX5_place__72 (by decide) ?_
            have e9 : F_X5_place_ u p1 p2 = 1 := by simp only [F_X5_place_, eq_false c_9, eq_false c_15_0, eq_false c_15_1, eq_true c_15_2, eq_false c_68, if_true, if_false]
            rw [e9]
            exact g_iret hX dX5_place__76 rfl rfl
        · skip
          by_cases c_15_3 : p2 = 3
          · skip
            refine g_tabIn hX (off := 62) 77 dX5_place__15 (by rw [c_15_3]; decide) (by rw [c_15_3]; decide) (by rw [c_15_3]; decide) (by decide) ?_
            refine g_aload_n hX dX5_place__77 rfl 0 rfl ?_
            refine g_iload_n hX dX5_place__78 rfl 1 rfl ?_
            refine g_cV_I hX (n := 1) (As := [.int p1]) (wc := wMa T x al ([.ref ke, .ref tr, .ref hi, .int (u.1 0), .ref sn, .int (u.1 1), .ref te, .int (u.1 2), .int (u.1 3), .int (u.1 4), .int (u.1 5)]) u.2.1) (w1 := wMa T x al ([.ref ke, .ref tr, .ref hi, .int (u.1 0), .ref sn, .int (u.1 1), .ref te, .int (u.1 2), .int (u.1 3), .int (u.1 4), .int (u.1 5)]) u.2.1) (rv := (F_X5_isBad u.2.1 p1)) (st := []) 0 rfl rfl (c_X5_isBad (xL X) T (xB X) x al ([.ref ke, .ref tr, .ref hi, .int (u.1 0), .ref sn, .int (u.1 1), .ref te, .int (u.1 2), .int (u.1 3), .int (u.1 4), .int (u.1 5)]) u.2.1 p1 (in12 c_9)) gX5_place__X5_isBad rfl rfl rfl ⟨Nat.le_of_ble_eq_true rfl, Nat.le_of_ble_eq_true rfl⟩ ⟨Nat.zero_le _, Nat.zero_le _⟩ ⟨by decide +kernel, by decide +kernel, by decide +kernel⟩ rfl [0, 1] rfl rfl (by decide) rfl (Nat.le_of_ble_eq_true rfl) dX5_place__79 (ws' := wMo T x al ke tr hi sn te u) rfl ?_
            refine g_if_eq hX 89 dX5_place__82 (by decide) (fun c_82 => ?_) (fun c_82 => ?_)
            · skip
              refine g_iconst hX (v := 0) dX5_place__89 (by decide) ?_
              have e9 : F_X5_place_ u p1 p2 = 0 := by simp only [F_X5_place_, eq_false c_9, eq_false c_15_0, eq_false c_15_1, eq_false c_15_2, eq_true c_15_3, eq_true c_82, if_true, if_false]
              rw [e9]
              exact g_iret hX dX5_place__90 rfl rfl
            · skip
              refine g_iconst hX (v := 1) dX5_place__85 (by decide) ?_
              refine g_goto hX 90 dX5_place__86 (by decide) ?_
              have e9 : F_X5_place_ u p1 p2 = 1 := by simp only [F_X5_place_, eq_false c_9, eq_false c_15_0, eq_false c_15_1, eq_false c_15_2, eq_true c_15_3, eq_false c_82, if_true, if_false]
              rw [e9]
              exact g_iret hX dX5_place__90 rfl rfl
          · skip
            have tc_15_0 : ¬ Int32.toInt p2 = 0 := lv_neT c_15_0 (by decide)
            have tc_15_1 : ¬ Int32.toInt p2 = 1 := lv_neT c_15_1 (by decide)
            have tc_15_2 : ¬ Int32.toInt p2 = 2 := lv_neT c_15_2 (by decide)
            have tc_15_3 : ¬ Int32.toInt p2 = 3 := lv_neT c_15_3 (by decide)
            refine g_tabOut hX 91 dX5_place__15 (by omega) (by decide) ?_
            refine g_bipush hX (v := (-2)) dX5_place__91 (by decide) ?_
            have e9 : F_X5_place_ u p1 p2 = (-2) := by simp only [F_X5_place_, eq_false c_9, eq_false c_15_0, eq_false c_15_1, eq_false c_15_2, eq_false c_15_3, if_true, if_false]
            rw [e9]
            exact g_iret hX dX5_place__93 rfl rfl
  · skip
    refine g_iconst hX (v := (-1)) dX5_place__12 (by decide) ?_
    have e9 : F_X5_place_ u p1 p2 = (-1) := by simp only [F_X5_place_, eq_true c_9, if_true, if_false]
    rw [e9]
    exact g_iret hX dX5_place__13 rfl rfl
/-! X5_wrong -/
def rmX5_wrong : Room := { frames := 4, cells := 0, slots := 0, locals := 90 }
theorem k_X5_wrong_0 : Cond.fieldLink RX5 7 RX5 (TX5 0).2.1 (TX5 0).2.2.1 ∈ wsX5_wrong := List.mem_of_getElem? (i := 1) rfl
theorem h_X5_wrong_X5 : ∀ w ∈ u_ws RX5 TX5 12, w ∈ wsX5_wrong := fun w h => List.mem_cons_of_mem _ (List.mem_append_right _ h)
def F_X5_wrong (u : MV) : Int32 :=
  (if (u.2.1 33) = 1 then 1 else (if (u.2.1 30) = 0 then 2 else (if (F_X5_isAnyBad u.2.1) = 0 then (if (F_X5_ribbons u.2.1) ≤ 0 then (if (F_X5_evenness u.2.1) < 10 then 0 else 5) else 4) else 3)))
set_option maxHeartbeats 4000000 in
set_option maxRecDepth 100000 in
theorem c_X5_wrong (l : Launch) (T : TT) (b0 : Nat) (x al ke tr hi sn te : Nat) (u : MV)  : ConI l T b0 yX5_wrong wsX5_wrong rmX5_wrong [.ref x] (wMo T x al ke tr hi sn te u) (F_X5_wrong u) (wMo T x al ke tr hi sn te u) := by
  refine conI_of (cc := cX5_wrong) (maxL := 1) (ret := (some .int)) (lv0 := [(0, .ref x)]) (by decide +kernel) rfl (Nat.le_of_ble_eq_true rfl) rfl (fun X hX => ?_)
  refine g_aload_n hX dX5_wrong_0 rfl 0 rfl ?_
  refine g_get hX 5 h_X5_wrong_X5 0 rfl rfl 0 (by decide) k_X5_wrong_0 rfl (v := .ref al) rfl dX5_wrong_1 ?_
  refine g_bipush hX (v := 33) dX5_wrong_4 (by decide) ?_
  refine g_iald hX (f := u.2.1) 1 rfl (vin_c (by decide)) (v := (u.2.1 33)) (congrArg u.2.1 (show Int32.toNatClampNeg 33 = 33 from by decide)) dX5_wrong_6 ?_
  refine g_iconst hX (v := 1) dX5_wrong_7 (by decide) ?_
  refine g_icmp_ne hX 15 dX5_wrong_8 (by decide) (fun c_8 => ?_) (fun c_8 => ?_)
  · skip
    refine g_aload_n hX dX5_wrong_15 rfl 0 rfl ?_
    refine g_get hX 5 h_X5_wrong_X5 0 rfl rfl 0 (by decide) k_X5_wrong_0 rfl (v := .ref al) rfl dX5_wrong_16 ?_
    refine g_bipush hX (v := 30) dX5_wrong_19 (by decide) ?_
    refine g_iald hX (f := u.2.1) 1 rfl (vin_c (by decide)) (v := (u.2.1 30)) (congrArg u.2.1 (show Int32.toNatClampNeg 30 = 30 from by decide)) dX5_wrong_21 ?_
    refine g_if_ne hX 29 dX5_wrong_22 (by decide) (fun c_22 => ?_) (fun c_22 => ?_)
    · skip
      refine g_aload_n hX dX5_wrong_29 rfl 0 rfl ?_
      refine g_cV_I hX (n := 0) (As := []) (wc := wMa T x al ([.ref ke, .ref tr, .ref hi, .int (u.1 0), .ref sn, .int (u.1 1), .ref te, .int (u.1 2), .int (u.1 3), .int (u.1 4), .int (u.1 5)]) u.2.1) (w1 := wMa T x al ([.ref ke, .ref tr, .ref hi, .int (u.1 0), .ref sn, .int (u.1 1), .ref te, .int (u.1 2), .int (u.1 3), .int (u.1 4), .int (u.1 5)]) u.2.1) (rv := (F_X5_isAnyBad u.2.1)) (st := []) 0 rfl rfl (c_X5_isAnyBad (xL X) T (xB X) x al ([.ref ke, .ref tr, .ref hi, .int (u.1 0), .ref sn, .int (u.1 1), .ref te, .int (u.1 2), .int (u.1 3), .int (u.1 4), .int (u.1 5)]) u.2.1) gX5_wrong_X5_isAnyBad rfl rfl rfl ⟨Nat.le_of_ble_eq_true rfl, Nat.le_of_ble_eq_true rfl⟩ ⟨Nat.zero_le _, Nat.zero_le _⟩ ⟨by decide +kernel, by decide +kernel, by decide +kernel⟩ rfl [0, 1] rfl rfl (by decide) rfl (Nat.le_of_ble_eq_true rfl) dX5_wrong_30 (ws' := wMo T x al ke tr hi sn te u) rfl ?_
      refine g_if_eq hX 40 dX5_wrong_33 (by decide) (fun c_33 => ?_) (fun c_33 => ?_)
      · skip
        refine g_aload_n hX dX5_wrong_40 rfl 0 rfl ?_
        refine g_cV_I hX (n := 0) (As := []) (wc := wMa T x al ([.ref ke, .ref tr, .ref hi, .int (u.1 0), .ref sn, .int (u.1 1), .ref te, .int (u.1 2), .int (u.1 3), .int (u.1 4), .int (u.1 5)]) u.2.1) (w1 := wMa T x al ([.ref ke, .ref tr, .ref hi, .int (u.1 0), .ref sn, .int (u.1 1), .ref te, .int (u.1 2), .int (u.1 3), .int (u.1 4), .int (u.1 5)]) u.2.1) (rv := (F_X5_ribbons u.2.1)) (st := []) 0 rfl rfl (c_X5_ribbons (xL X) T (xB X) x al ([.ref ke, .ref tr, .ref hi, .int (u.1 0), .ref sn, .int (u.1 1), .ref te, .int (u.1 2), .int (u.1 3), .int (u.1 4), .int (u.1 5)]) u.2.1) gX5_wrong_X5_ribbons rfl rfl rfl ⟨Nat.le_of_ble_eq_true rfl, Nat.le_of_ble_eq_true rfl⟩ ⟨Nat.zero_le _, Nat.zero_le _⟩ ⟨by decide +kernel, by decide +kernel, by decide +kernel⟩ rfl [0, 1] rfl rfl (by decide) rfl (Nat.le_of_ble_eq_true rfl) dX5_wrong_41 (ws' := wMo T x al ke tr hi sn te u) rfl ?_
        refine g_if_le hX 51 dX5_wrong_44 (by decide) (fun c_44 => ?_) (fun c_44 => ?_)
        · skip
          refine g_aload_n hX dX5_wrong_51 rfl 0 rfl ?_
          refine g_cV_I hX (n := 0) (As := []) (wc := wMa T x al ([.ref ke, .ref tr, .ref hi, .int (u.1 0), .ref sn, .int (u.1 1), .ref te, .int (u.1 2), .int (u.1 3), .int (u.1 4), .int (u.1 5)]) u.2.1) (w1 := wMa T x al ([.ref ke, .ref tr, .ref hi, .int (u.1 0), .ref sn, .int (u.1 1), .ref te, .int (u.1 2), .int (u.1 3), .int (u.1 4), .int (u.1 5)]) u.2.1) (rv := (F_X5_evenness u.2.1)) (st := []) 0 rfl rfl (c_X5_evenness (xL X) T (xB X) x al ([.ref ke, .ref tr, .ref hi, .int (u.1 0), .ref sn, .int (u.1 1), .ref te, .int (u.1 2), .int (u.1 3), .int (u.1 4), .int (u.1 5)]) u.2.1) gX5_wrong_X5_evenness rfl rfl rfl ⟨Nat.le_of_ble_eq_true rfl, Nat.le_of_ble_eq_true rfl⟩ ⟨Nat.zero_le _, Nat.zero_le _⟩ ⟨by decide +kernel, by decide +kernel, by decide +kernel⟩ rfl [0, 1] rfl rfl (by decide) rfl (Nat.le_of_ble_eq_true rfl) dX5_wrong_52 (ws' := wMo T x al ke tr hi sn te u) rfl ?_
          refine g_bipush hX (v := 10) dX5_wrong_55 (by decide) ?_
          refine g_icmp_lt hX 64 dX5_wrong_57 (by decide) (fun c_57 => ?_) (fun c_57 => ?_)
          · skip
            refine g_iconst hX (v := 0) dX5_wrong_64 (by decide) ?_
            have e9 : F_X5_wrong u = 0 := by simp only [F_X5_wrong, eq_false c_8, eq_false c_22, eq_true c_33, eq_true c_44, eq_true c_57, if_true, if_false]
            rw [e9]
            exact g_iret hX dX5_wrong_65 rfl rfl
          · skip
            refine g_iconst hX (v := 5) dX5_wrong_60 (by decide) ?_
            refine g_goto hX 65 dX5_wrong_61 (by decide) ?_
            have e9 : F_X5_wrong u = 5 := by simp only [F_X5_wrong, eq_false c_8, eq_false c_22, eq_true c_33, eq_true c_44, eq_false c_57, if_true, if_false]
            rw [e9]
            exact g_iret hX dX5_wrong_65 rfl rfl
        · skip
          refine g_iconst hX (v := 4) dX5_wrong_47 (by decide) ?_
          refine g_goto hX 65 dX5_wrong_48 (by decide) ?_
          have e9 : F_X5_wrong u = 4 := by simp only [F_X5_wrong, eq_false c_8, eq_false c_22, eq_true c_33, eq_false c_44, if_true, if_false]
          rw [e9]
          exact g_iret hX dX5_wrong_65 rfl rfl
      · skip
        refine g_iconst hX (v := 3) dX5_wrong_36 (by decide) ?_
        refine g_goto hX 65 dX5_wrong_37 (by decide) ?_
        have e9 : F_X5_wrong u = 3 := by simp only [F_X5_wrong, eq_false c_8, eq_false c_22, eq_false c_33, if_true, if_false]
        rw [e9]
        exact g_iret hX dX5_wrong_65 rfl rfl
    · skip
      refine g_iconst hX (v := 2) dX5_wrong_25 (by decide) ?_
      refine g_goto hX 65 dX5_wrong_26 (by decide) ?_
      have e9 : F_X5_wrong u = 2 := by simp only [F_X5_wrong, eq_false c_8, eq_true c_22, if_true, if_false]
      rw [e9]
      exact g_iret hX dX5_wrong_65 rfl rfl
  · skip
    refine g_iconst hX (v := 1) dX5_wrong_11 (by decide) ?_
    refine g_goto hX 65 dX5_wrong_12 (by decide) ?_
    have e9 : F_X5_wrong u = 1 := by simp only [F_X5_wrong, eq_true c_8, if_true, if_false]
    rw [e9]
    exact g_iret hX dX5_wrong_65 rfl rfl
/-! X5_count -/
def rmX5_count : Room := { frames := 4, cells := 0, slots := 0, locals := 90 }
theorem k_X5_count_0 : Cond.fieldLink RX5 7 RX5 (TX5 0).2.1 (TX5 0).2.2.1 ∈ wsX5_count := List.mem_of_getElem? (i := 1) rfl
theorem h_X5_count_X5 : ∀ w ∈ u_ws RX5 TX5 12, w ∈ wsX5_count := fun w h => List.mem_cons_of_mem _ (List.mem_append_right _ h)
theorem k_X5_count_1 : Cond.fieldLink RX5 36 RX5 (TX5 4).2.1 (TX5 4).2.2.1 ∈ wsX5_count := List.mem_of_getElem? (i := 2) rfl
theorem k_X5_count_2 : Cond.fieldLink RX5 115 RX5 (TX5 8).2.1 (TX5 8).2.2.1 ∈ wsX5_count := List.mem_of_getElem? (i := 3) rfl
def F_X5_count (u : MV) (p1 : Int32) : Int32 :=
  (if p1 = 0 then (F_X5_wraps u.2.1) else (if p1 = 1 then (u.2.1 30) else (if p1 = 2 then (F_X5_place u.2.1) else (if p1 = 3 then (if (u.2.1 29) < 11 then 0 else 1) else (if p1 = 4 then (u.2.1 31) else (if p1 = 5 then (u.2.1 32) else (if p1 = 6 then (u.2.1 33) else (if p1 = 7 then (if (u.2.1 30) = 0 then 1 else 0) else (if p1 = 8 then (if (F_X5_isFull u.2.1) = 0 then 0 else 1) else (if p1 = 9 then (F_X5_evenness u.2.1) else (if p1 = 10 then (F_X5_ribbons u.2.1) else (if p1 = 11 then (F_X5_allKnots u.2.1) else (if p1 = 12 then (u.2.1 35) else (if p1 = 13 then (F_X5_breaks u.2.1) else (if p1 = 14 then (F_X5_doffs u.2.1) else (if p1 = 15 then (u.1 0) else (if p1 = 16 then (u.1 2) else (if p1 = 20 then (u.2.1 (Int32.toNatClampNeg ((24 + p1) - 20))) else (if p1 = 21 then (u.2.1 (Int32.toNatClampNeg ((24 + p1) - 20))) else (if p1 = 22 then (u.2.1 (Int32.toNatClampNeg ((24 + p1) - 20))) else (if p1 = 23 then (u.2.1 (Int32.toNatClampNeg ((24 + p1) - 20))) else (if p1 = 24 then (u.2.1 (Int32.toNatClampNeg ((24 + p1) - 20))) else (-2)))))))))))))))))))))))
set_option maxHeartbeats 4000000 in
set_option maxRecDepth 100000 in
theorem c_X5_count (l : Launch) (T : TT) (b0 : Nat) (x al ke tr hi sn te : Nat) (u : MV) (p1 : Int32)  : ConI l T b0 yX5_count wsX5_count rmX5_count [.ref x, .int p1] (wMo T x al ke tr hi sn te u) (F_X5_count u p1) (wMo T x al ke tr hi sn te u) := by
  refine conI_of (cc := cX5_count) (maxL := 2) (ret := (some .int)) (lv0 := [(0, .ref x), (1, .int p1)]) (by decide +kernel) rfl (Nat.le_of_ble_eq_true rfl) rfl (fun X hX => ?_)
  refine g_iload_n hX dX5_count_0 rfl 1 rfl ?_
  by_cases c_1_0 : p1 = 0
  · skip
    refine g_tabIn hX (off := 115) 116 dX5_count_1 (by rw [c_1_0]; decide) (by rw [c_1_0]; decide) (by rw [c_1_0]; decide) (by decide) ?_
    refine g_aload_n hX dX5_count_116 rfl 0 rfl ?_
    refine g_cV_I hX (n := 0) (As := []) (wc := wMa T x al ([.ref ke, .ref tr, .ref hi, .int (u.1 0), .ref sn, .int (u.1 1), .ref te, .int (u.1 2), .int (u.1 3), .int (u.1 4), .int (u.1 5)]) u.2.1) (w1 := wMa T x al ([.ref ke, .ref tr, .ref hi, .int (u.1 0), .ref sn, .int (u.1 1), .ref te, .int (u.1 2), .int (u.1 3), .int (u.1 4), .int (u.1 5)]) u.2.1) (rv := (F_X5_wraps u.2.1)) (st := []) 0 rfl rfl (c_X5_wraps (xL X) T (xB X) x al ([.ref ke, .ref tr, .ref hi, .int (u.1 0), .ref sn, .int (u.1 1), .ref te, .int (u.1 2), .int (u.1 3), .int (u.1 4), .int (u.1 5)]) u.2.1) gX5_count_X5_wraps rfl rfl rfl ⟨Nat.le_of_ble_eq_true rfl, Nat.le_of_ble_eq_true rfl⟩ ⟨Nat.zero_le _, Nat.zero_le _⟩ ⟨by decide +kernel, by decide +kernel, by decide +kernel⟩ rfl [0, 1] rfl rfl (by decide) rfl (Nat.le_of_ble_eq_true rfl) dX5_count_117 (ws' := wMo T x al ke tr hi sn te u) rfl ?_
    have e9 : F_X5_count u p1 = (F_X5_wraps u.2.1) := by simp only [F_X5_count, eq_true c_1_0, if_true, if_false]
    rw [e9]
    exact g_iret hX dX5_count_120 rfl rfl
  · skip
    by_cases c_1_1 : p1 = 1
    · skip
      refine g_tabIn hX (off := 120) 121 dX5_count_1 (by rw [c_1_1]; decide) (by rw [c_1_1]; decide) (by rw [c_1_1]; decide) (by decide) ?_
      refine g_aload_n hX dX5_count_121 rfl 0 rfl ?_
      refine g_get hX 5 h_X5_count_X5 0 rfl rfl 0 (by decide) k_X5_count_0 rfl (v := .ref al) rfl dX5_count_122 ?_
      refine g_bipush hX (v := 30) dX5_count_125 (by decide) ?_
      refine g_iald hX (f := u.2.1) 1 rfl (vin_c (by decide)) (v := (u.2.1 30)) (congrArg u.2.1 (show Int32.toNatClampNeg 30 = 30 from by decide)) dX5_count_127 ?_
      have e9 : F_X5_count u p1 = (u.2.1 30) := by simp only [F_X5_count, eq_false c_1_0, eq_true c_1_1, if_true, if_false]
      rw [e9]
      exact g_iret hX dX5_count_128 rfl rfl
    · skip
      by_cases c_1_2 : p1 = 2
      · skip
        refine g_tabIn hX (off := 128) 129 dX5_count_1 (by rw [c_1_2]; decide) (by rw [c_1_2]; decide) (by rw [c_1_2]; decide) (by decide) ?_
        refine g_aload_n hX dX5_count_129 rfl 0 rfl ?_
        refine g_cV_I hX (n := 0) (As := []) (wc := wMa T x al ([.ref ke, .ref tr, .ref hi, .int (u.1 0), .ref sn, .int (u.1 1), .ref te, .int (u.1 2), .int (u.1 3), .int (u.1 4), .int (u.1 5)]) u.2.1) (w1 := wMa T x al ([.ref ke, .ref tr, .ref hi, .int (u.1 0), .ref sn, .int (u.1 1), .ref te, .int (u.1 2), .int (u.1 3), .int (u.1 4), .int (u.1 5)]) u.2.1) (rv := (F_X5_place u.2.1)) (st := []) 0 rfl rfl (c_X5_place (xL X) T (xB X) x al ([.ref ke, .ref tr, .ref hi, .int (u.1 0), .ref sn, .int (u.1 1), .ref te, .int (u.1 2), .int (u.1 3), .int (u.1 4), .int (u.1 5)]) u.2.1) gX5_count_X5_place rfl rfl rfl ⟨Nat.le_of_ble_eq_true rfl, Nat.le_of_ble_eq_true rfl⟩ ⟨Nat.zero_le _, Nat.zero_le _⟩ ⟨by decide +kernel, by decide +kernel, by decide +kernel⟩ rfl [0, 1] rfl rfl (by decide) rfl (Nat.le_of_ble_eq_true rfl) dX5_count_130 (ws' := wMo T x al ke tr hi sn te u) rfl ?_
        have e9 : F_X5_count u p1 = (F_X5_place u.2.1) := by simp only [F_X5_count, eq_false c_1_0, eq_false c_1_1, eq_true c_1_2, if_true, if_false]
        rw [e9]
        exact g_iret hX dX5_count_133 rfl rfl
      · skip
        by_cases c_1_3 : p1 = 3
        · skip
          refine g_tabIn hX (off := 133) 134 dX5_count_1 (by rw [c_1_3]; decide) (by rw [c_1_3]; decide) (by rw [c_1_3]; decide) (by decide) ?_
          refine g_aload_n hX dX5_count_134 rfl 0 rfl ?_
          refine g_get hX 5 h_X5_count_X5 0 rfl rfl 0 (by decide) k_X5_count_0 rfl (v := .ref al) rfl dX5_count_135 ?_
          refine g_bipush hX (v := 29) dX5_count_138 (by decide) ?_
          refine g_iald hX (f := u.2.1) 1 rfl (vin_c (by decide)) (v := (u.2.1 29)) (congrArg u.2.1 (show Int32.toNatClampNeg 29 = 29 from by decide)) dX5_count_140 ?_
          refine g_bipush hX (v := 11) dX5_count_141 (by decide) ?_
          refine g_icmp_lt hX 150 dX5_count_143 (by decide) (fun c_143 => ?_) (fun c_143 => ?_)
          · skip
            refine g_iconst hX (v := 0) dX5_count_150 (by decide) ?_
            have e9 : F_X5_count u p1 = 0 := by simp only [F_X5_count, eq_false c_1_0, eq_false c_1_1, eq_false c_1_2, eq_true c_1_3, eq_true c_143, if_true, if_false]
            rw [e9]
            exact g_iret hX dX5_count_151 rfl rfl
          · skip
            refine g_iconst hX (v := 1) dX5_count_146 (by decide) ?_
            refine g_goto hX 151 dX5_count_147 (by decide) ?_
            have e9 : F_X5_count u p1 = 1 := by simp only [F_X5_count, eq_false c_1_0, eq_false c_1_1, eq_false c_1_2, eq_true c_1_3, eq_false c_143, if_true, if_false]
            rw [e9]
            exact g_iret hX dX5_count_151 rfl rfl
        · skip
          by_cases c_1_4 : p1 = 4
          · skip
            refine g_tabIn hX (off := 151) 152 dX5_count_1 (by rw [c_1_4]; decide) (by rw [c_1_4]; decide) (by rw [c_1_4]; decide) (by decide) ?_
            refine g_aload_n hX dX5_count_152 rfl 0 rfl ?_
            refine g_get hX 5 h_X5_count_X5 0 rfl rfl 0 (by decide) k_X5_count_0 rfl (v := .ref al) rfl dX5_count_153 ?_
            refine g_bipush hX (v := 31) dX5_count_156 (by decide) ?_
            refine g_iald hX (f := u.2.1) 1 rfl (vin_c (by decide)) (v := (u.2.1 31)) (congrArg u.2.1 (show Int32.toNatClampNeg 31 = 31 from by decide)) dX5_count_158 ?_
            have e9 : F_X5_count u p1 = (u.2.1 31) := by simp only [F_X5_count, eq_false c_1_0, eq_false c_1_1, eq_false c_1_2, eq_false c_1_3, eq_true c_1_4, if_true, if_false]
            rw [e9]
            exact g_iret hX dX5_count_159 rfl rfl
          · skip
            by_cases c_1_5 : p1 = 5
            · skip
              refine g_tabIn hX (off := 159) 160 dX5_count_1 (by rw [c_1_5]; decide) (by rw [c_1_5]; decide) (by rw [c_1_5]; decide) (by decide) ?_
              refine g_aload_n hX dX5_count_160 rfl 0 rfl ?_
              refine g_get hX 5 h_X5_count_X5 0 rfl rfl 0 (by decide) k_X5_count_0 rfl (v := .ref al) rfl dX5_count_161 ?_
              refine g_bipush hX (v := 32) dX5_count_164 (by decide) ?_
              refine g_iald hX (f := u.2.1) 1 rfl (vin_c (by decide)) (v := (u.2.1 32)) (congrArg u.2.1 (show Int32.toNatClampNeg 32 = 32 from by decide)) dX5_count_166 ?_
              have e9 : F_X5_count u p1 = (u.2.1 32) := by simp only [F_X5_count, eq_false c_1_0, eq_false c_1_1, eq_false c_1_2, eq_false c_1_3, eq_false c_1_4, eq_true c_1_5, if_true, if_false]
              rw [e9]
              exact g_iret hX dX5_count_167 rfl rfl
            · skip
              by_cases c_1_6 : p1 = 6
              · skip
                refine g_tabIn hX (off := 167) 168 dX5_count_1 (by rw [c_1_6]; decide) (by rw [c_1_6]; decide) (by rw [c_1_6]; decide) (by decide) ?_
                refine g_aload_n hX dX5_count_168 rfl 0 rfl ?_
                refine g_get hX 5 h_X5_count_X5 0 rfl rfl 0 (by decide) k_X5_count_0 rfl (v := .ref al) rfl dX5_count_169 ?_
                refine g_bipush hX (v := 33) dX5_count_172 (by decide) ?_
                refine g_iald hX (f := u.2.1) 1 rfl (vin_c (by decide)) (v := (u.2.1 33)) (congrArg u.2.1 (show Int32.toNatClampNeg 33 = 33 from by decide)) dX5_count_174 ?_
                have e9 : F_X5_count u p1 = (u.2.1 33) := by simp only [F_X5_count, eq_false c_1_0, eq_false c_1_1, eq_false c_1_2, eq_false c_1_3, eq_false c_1_4, eq_false c_1_5, eq_true c_1_6, if_true, if_false]
                rw [e9]
                exact g_iret hX dX5_count_175 rfl rfl
              · skip
                by_cases c_1_7 : p1 = 7
                · skip
                  refine g_tabIn hX (off := 175) 176 dX5_count_1 (by rw [c_1_7]; decide) (by rw [c_1_7]; decide) (by rw [c_1_7]; decide) (by decide) ?_
                  refine g_aload_n hX dX5_count_176 rfl 0 rfl ?_
                  refine g_get hX 5 h_X5_count_X5 0 rfl rfl 0 (by decide) k_X5_count_0 rfl (v := .ref al) rfl dX5_count_177 ?_
                  refine g_bipush hX (v := 30) dX5_count_180 (by decide) ?_
                  refine g_iald hX (f := u.2.1) 1 rfl (vin_c (by decide)) (v := (u.2.1 30)) (congrArg u.2.1 (show Int32.toNatClampNeg 30 = 30 from by decide)) dX5_count_182 ?_
                  refine g_if_ne hX 190 dX5_count_183 (by decide) (fun c_183 => ?_) (fun c_183 => ?_)
                  · skip
                    refine g_iconst hX (v := 0) dX5_count_190 (by decide) ?_
                    have e9 : F_X5_count u p1 = 0 := by simp only [F_X5_count, eq_false c_1_0, eq_false c_1_1, eq_false c_1_2, eq_false c_1_3, eq_false c_1_4, eq_false c_1_5, eq_false c_1_6, eq_true c_1_7, eq_false c_183, if_true, if_false]
                    rw [e9]
                    exact g_iret hX dX5_count_191 rfl rfl
                  · skip
                    refine g_iconst hX (v := 1) dX5_count_186 (by decide) ?_
                    refine g_goto hX 191 dX5_count_187 (by decide) ?_
                    have e9 : F_X5_count u p1 = 1 := by simp only [F_X5_count, eq_false c_1_0, eq_false c_1_1, eq_false c_1_2, eq_false c_1_3, eq_false c_1_4, eq_false c_1_5, eq_false c_1_6, eq_true c_1_7, eq_true c_183, if_true, if_false]
                    rw [e9]
                    exact g_iret hX dX5_count_191 rfl rfl
                · skip
                  by_cases c_1_8 : p1 = 8
                  · skip
                    refine g_tabIn hX (off := 191) 192 dX5_count_1 (by rw [c_1_8]; decide) (by rw [c_1_8]; decide) (by rw [c_1_8]; decide) (by decide) ?_
                    refine g_aload_n hX dX5_count_192 rfl 0 rfl ?_
                    refine g_cV_I hX (n := 0) (As := []) (wc := wMa T x al ([.ref ke, .ref tr, .ref hi, .int (u.1 0), .ref sn, .int (u.1 1), .ref te, .int (u.1 2), .int (u.1 3), .int (u.1 4), .int (u.1 5)]) u.2.1) (w1 := wMa T x al ([.ref ke, .ref tr, .ref hi, .int (u.1 0), .ref sn, .int (u.1 1), .ref te, .int (u.1 2), .int (u.1 3), .int (u.1 4), .int (u.1 5)]) u.2.1) (rv := (F_X5_isFull u.2.1)) (st := []) 0 rfl rfl (c_X5_isFull (xL X) T (xB X) x al ([.ref ke, .ref tr, .ref hi, .int (u.1 0), .ref sn, .int (u.1 1), .ref te, .int (u.1 2), .int (u.1 3), .int (u.1 4), .int (u.1 5)]) u.2.1) gX5_count_X5_isFull rfl rfl rfl ⟨Nat.le_of_ble_eq_true rfl, Nat.le_of_ble_eq_true rfl⟩ ⟨Nat.zero_le _, Nat.zero_le _⟩ ⟨by decide +kernel, by decide +kernel, by decide +kernel⟩ rfl [0, 1] rfl rfl (by decide) rfl (Nat.le_of_ble_eq_true rfl) dX5_count_193 (ws' := wMo T x al ke tr hi sn te u) rfl ?_
                    refine g_if_eq hX 203 dX5_count_196 (by decide) (fun c_196 => ?_) (fun c_196 => ?_)
                    · skip
                      refine g_iconst hX (v := 0) dX5_count_203 (by decide) ?_
                      have e9 : F_X5_count u p1 = 0 := by simp only [F_X5_count, eq_false c_1_0, eq_false c_1_1, eq_false c_1_2, eq_false c_1_3, eq_false c_1_4, eq_false c_1_5, eq_false c_1_6, eq_false c_1_7, eq_true c_1_8, eq_true c_196, if_true, if_false]
                      rw [e9]
                      exact g_iret hX dX5_count_204 rfl rfl
                    · skip
                      refine g_iconst hX (v := 1) dX5_count_199 (by decide) ?_
                      refine g_goto hX 204 dX5_count_200 (by decide) ?_
                      have e9 : F_X5_count u p1 = 1 := by simp only [F_X5_count, eq_false c_1_0, eq_false c_1_1, eq_false c_1_2, eq_false c_1_3, eq_false c_1_4, eq_false c_1_5, eq_false c_1_6, eq_false c_1_7, eq_true c_1_8, eq_false c_196, if_true, if_false]
                      rw [e9]
                      exact g_iret hX dX5_count_204 rfl rfl
                  · skip
                    by_cases c_1_9 : p1 = 9
                    · skip
                      refine g_tabIn hX (off := 204) 205 dX5_count_1 (by rw [c_1_9]; decide) (by rw [c_1_9]; decide) (by rw [c_1_9]; decide) (by decide) ?_
                      refine g_aload_n hX dX5_count_205 rfl 0 rfl ?_
                      refine g_cV_I hX (n := 0) (As := []) (wc := wMa T x al ([.ref ke, .ref tr, .ref hi, .int (u.1 0), .ref sn, .int (u.1 1), .ref te, .int (u.1 2), .int (u.1 3), .int (u.1 4), .int (u.1 5)]) u.2.1) (w1 := wMa T x al ([.ref ke, .ref tr, .ref hi, .int (u.1 0), .ref sn, .int (u.1 1), .ref te, .int (u.1 2), .int (u.1 3), .int (u.1 4), .int (u.1 5)]) u.2.1) (rv := (F_X5_evenness u.2.1)) (st := []) 0 rfl rfl (c_X5_evenness (xL X) T (xB X) x al ([.ref ke, .ref tr, .ref hi, .int (u.1 0), .ref sn, .int (u.1 1), .ref te, .int (u.1 2), .int (u.1 3), .int (u.1 4), .int (u.1 5)]) u.2.1) gX5_count_X5_evenness rfl rfl rfl ⟨Nat.le_of_ble_eq_true rfl, Nat.le_of_ble_eq_true rfl⟩ ⟨Nat.zero_le _, Nat.zero_le _⟩ ⟨by decide +kernel, by decide +kernel, by decide +kernel⟩ rfl [0, 1] rfl rfl (by decide) rfl (Nat.le_of_ble_eq_true rfl) dX5_count_206 (ws' := wMo T x al ke tr hi sn te u) rfl ?_
                      have e9 : F_X5_count u p1 = (F_X5_evenness u.2.1) := by simp only [F_X5_count, eq_false c_1_0, eq_false c_1_1, eq_false c_1_2, eq_false c_1_3, eq_false c_1_4, eq_false c_1_5, eq_false c_1_6, eq_false c_1_7, eq_false c_1_8, eq_true c_1_9, if_true, if_false]
                      rw [e9]
                      exact g_iret hX dX5_count_209 rfl rfl
                    · skip
                      by_cases c_1_10 : p1 = 10
                      · skip
                        refine g_tabIn hX (off := 209) 210 dX5_count_1 (by rw [c_1_10]; decide) (by rw [c_1_10]; decide) (by rw [c_1_10]; decide) (by decide) ?_
                        refine g_aload_n hX dX5_count_210 rfl 0 rfl ?_
                        refine g_cV_I hX (n := 0) (As := []) (wc := wMa T x al ([.ref ke, .ref tr, .ref hi, .int (u.1 0), .ref sn, .int (u.1 1), .ref te, .int (u.1 2), .int (u.1 3), .int (u.1 4), .int (u.1 5)]) u.2.1) (w1 := wMa T x al ([.ref ke, .ref tr, .ref hi, .int (u.1 0), .ref sn, .int (u.1 1), .ref te, .int (u.1 2), .int (u.1 3), .int (u.1 4), .int (u.1 5)]) u.2.1) (rv := (F_X5_ribbons u.2.1)) (st := []) 0 rfl rfl (c_X5_ribbons (xL X) T (xB X) x al ([.ref ke, .ref tr, .ref hi, .int (u.1 0), .ref sn, .int (u.1 1), .ref te, .int (u.1 2), .int (u.1 3), .int (u.1 4), .int (u.1 5)]) u.2.1) gX5_count_X5_ribbons rfl rfl rfl ⟨Nat.le_of_ble_eq_true rfl, Nat.le_of_ble_eq_true rfl⟩ ⟨Nat.zero_le _, Nat.zero_le _⟩ ⟨by decide +kernel, by decide +kernel, by decide +kernel⟩ rfl [0, 1] rfl rfl (by decide) rfl (Nat.le_of_ble_eq_true rfl) dX5_count_211 (ws' := wMo T x al ke tr hi sn te u) rfl ?_
                        have e9 : F_X5_count u p1 = (F_X5_ribbons u.2.1) := by simp only [F_X5_count, eq_false c_1_0, eq_false c_1_1, eq_false c_1_2, eq_false c_1_3, eq_false c_1_4, eq_false c_1_5, eq_false c_1_6, eq_false c_1_7, eq_false c_1_8, eq_false c_1_9, eq_true c_1_10, if_true, if_false]
                        rw [e9]
                        exact g_iret hX dX5_count_214 rfl rfl
                      · skip
                        by_cases c_1_11 : p1 = 11
                        · skip
                          refine g_tabIn hX (off := 214) 215 dX5_count_1 (by rw [c_1_11]; decide) (by rw [c_1_11]; decide) (by rw [c_1_11]; decide) (by decide) ?_
                          refine g_aload_n hX dX5_count_215 rfl 0 rfl ?_
                          refine g_cV_I hX (n := 0) (As := []) (wc := wMa T x al ([.ref ke, .ref tr, .ref hi, .int (u.1 0), .ref sn, .int (u.1 1), .ref te, .int (u.1 2), .int (u.1 3), .int (u.1 4), .int (u.1 5)]) u.2.1) (w1 := wMa T x al ([.ref ke, .ref tr, .ref hi, .int (u.1 0), .ref sn, .int (u.1 1), .ref te, .int (u.1 2), .int (u.1 3), .int (u.1 4), .int (u.1 5)]) u.2.1) (rv := (F_X5_allKnots u.2.1)) (st := []) 0 rfl rfl (c_X5_allKnots (xL X) T (xB X) x al ([.ref ke, .ref tr, .ref hi, .int (u.1 0), .ref sn, .int (u.1 1), .ref te, .int (u.1 2), .int (u.1 3), .int (u.1 4), .int (u.1 5)]) u.2.1) gX5_count_X5_allKnots rfl rfl rfl ⟨Nat.le_of_ble_eq_true rfl, Nat.le_of_ble_eq_true rfl⟩ ⟨Nat.zero_le _, Nat.zero_le _⟩ ⟨by decide +kernel, by decide +kernel, by decide +kernel⟩ rfl [0, 1] rfl rfl (by decide) rfl (Nat.le_of_ble_eq_true rfl) dX5_count_216 (ws' := wMo T x al ke tr hi sn te u) rfl ?_
                          have e9 : F_X5_count u p1 = (F_X5_allKnots u.2.1) := by simp only [F_X5_count, eq_false c_1_0, eq_false c_1_1, eq_false c_1_2, eq_false c_1_3, eq_false c_1_4, eq_false c_1_5, eq_false c_1_6, eq_false c_1_7, eq_false c_1_8, eq_false c_1_9, eq_false c_1_10, eq_true c_1_11, if_true, if_false]
                          rw [e9]
                          exact g_iret hX dX5_count_219 rfl rfl
                        · skip
                          by_cases c_1_12 : p1 = 12
                          · skip
                            refine g_tabIn hX (off := 219) 220 dX5_count_1 (by rw [c_1_12]; decide) (by rw [c_1_12]; decide) (by rw [c_1_12]; decide) (by decide) ?_
                            refine g_aload_n hX dX5_count_220 rfl 0 rfl ?_
                            refine g_get hX 5 h_X5_count_X5 0 rfl rfl 0 (by decide) k_X5_count_0 rfl (v := .ref al) rfl dX5_count_221 ?_
                            refine g_bipush hX (v := 35) dX5_count_224 (by decide) ?_
                            refine g_iald hX (f := u.2.1) 1 rfl (vin_c (by decide)) (v := (u.2.1 35)) (congrArg u.2.1 (show Int32.toNatClampNeg 35 = 35 from by decide)) dX5_count_226 ?_
                            have e9 : F_X5_count u p1 = (u.2.1 35) := by simp only [F_X5_count, eq_false c_1_0, eq_false c_1_1, eq_false c_1_2, eq_false c_1_3, eq_false c_1_4, eq_false c_1_5, eq_false c_1_6, eq_false c_1_7, eq_false c_1_8, eq_false c_1_9, eq_false c_1_10, eq_false c_1_11, eq_true c_1_12, if_true, if_false]
                            rw [e9]
                            exact g_iret hX dX5_count_227 rfl rfl
                          · skip
                            by_cases c_1_13 : p1 = 13
                            · skip
                              refine g_tabIn hX (off := 227) 228 dX5_count_1 (by rw [c_1_13]; decide) (by rw [c_1_13]; decide) (by rw [c_1_13]; decide) (by decide) ?_
                              refine g_aload_n hX dX5_count_228 rfl 0 rfl ?_
                              refine g_cV_I hX (n := 0) (As := []) (wc := wMa T x al ([.ref ke, .ref tr, .ref hi, .int (u.1 0), .ref sn, .int (u.1 1), .ref te, .int (u.1 2), .int (u.1 3), .int (u.1 4), .int (u.1 5)]) u.2.1) (w1 := wMa T x al ([.ref ke, .ref tr, .ref hi, .int (u.1 0), .ref sn, .int (u.1 1), .ref te, .int (u.1 2), .int (u.1 3), .int (u.1 4), .int (u.1 5)]) u.2.1) (rv := (F_X5_breaks u.2.1)) (st := []) 0 rfl rfl (c_X5_breaks (xL X) T (xB X) x al ([.ref ke, .ref tr, .ref hi, .int (u.1 0), .ref sn, .int (u.1 1), .ref te, .int (u.1 2), .int (u.1 3), .int (u.1 4), .int (u.1 5)]) u.2.1) gX5_count_X5_breaks rfl rfl rfl ⟨Nat.le_of_ble_eq_true rfl, Nat.le_of_ble_eq_true rfl⟩ ⟨Nat.zero_le _, Nat.zero_le _⟩ ⟨by decide +kernel, by decide +kernel, by decide +kernel⟩ rfl [0, 1] rfl rfl (by decide) rfl (Nat.le_of_ble_eq_true rfl) dX5_count_229 (ws' := wMo T x al ke tr hi sn te u) rfl ?_
                              have e9 : F_X5_count u p1 = (F_X5_breaks u.2.1) := by simp only [F_X5_count, eq_false c_1_0, eq_false c_1_1, eq_false c_1_2, eq_false c_1_3, eq_false c_1_4, eq_false c_1_5, eq_false c_1_6, eq_false c_1_7, eq_false c_1_8, eq_false c_1_9, eq_false c_1_10, eq_false c_1_11, eq_false c_1_12, eq_true c_1_13, if_true, if_false]
                              rw [e9]
                              exact g_iret hX dX5_count_232 rfl rfl
                            · skip
                              by_cases c_1_14 : p1 = 14
                              · skip
                                refine g_tabIn hX (off := 232) 233 dX5_count_1 (by rw [c_1_14]; decide) (by rw [c_1_14]; decide) (by rw [c_1_14]; decide) (by decide) ?_
                                refine g_aload_n hX dX5_count_233 rfl 0 rfl ?_
                                refine g_cV_I hX (n := 0) (As := []) (wc := wMa T x al ([.ref ke, .ref tr, .ref hi, .int (u.1 0), .ref sn, .int (u.1 1), .ref te, .int (u.1 2), .int (u.1 3), .int (u.1 4), .int (u.1 5)]) u.2.1) (w1 := wMa T x al ([.ref ke, .ref tr, .ref hi, .int (u.1 0), .ref sn, .int (u.1 1), .ref te, .int (u.1 2), .int (u.1 3), .int (u.1 4), .int (u.1 5)]) u.2.1) (rv := (F_X5_doffs u.2.1)) (st := []) 0 rfl rfl (c_X5_doffs (xL X) T (xB X) x al ([.ref ke, .ref tr, .ref hi, .int (u.1 0), .ref sn, .int (u.1 1), .ref te, .int (u.1 2), .int (u.1 3), .int (u.1 4), .int (u.1 5)]) u.2.1) gX5_count_X5_doffs rfl rfl rfl ⟨Nat.le_of_ble_eq_true rfl, Nat.le_of_ble_eq_true rfl⟩ ⟨Nat.zero_le _, Nat.zero_le _⟩ ⟨by decide +kernel, by decide +kernel, by decide +kernel⟩ rfl [0, 1] rfl rfl (by decide) rfl (Nat.le_of_ble_eq_true rfl) dX5_count_234 (ws' := wMo T x al ke tr hi sn te u) rfl ?_
                                have e9 : F_X5_count u p1 = (F_X5_doffs u.2.1) := by simp only [F_X5_count, eq_false c_1_0, eq_false c_1_1, eq_false c_1_2, eq_false c_1_3, eq_false c_1_4, eq_false c_1_5, eq_false c_1_6, eq_false c_1_7, eq_false c_1_8, eq_false c_1_9, eq_false c_1_10, eq_false c_1_11, eq_false c_1_12, eq_false c_1_13, eq_true c_1_14, if_true, if_false]
                                rw [e9]
                                exact g_iret hX dX5_count_237 rfl rfl
                              · skip
                                by_cases c_1_15 : p1 = 15
                                · skip
                                  refine g_tabIn hX (off := 237) 238 dX5_count_1 (by rw [c_1_15]; decide) (by rw [c_1_15]; decide) (by rw [c_1_15]; decide) (by decide) ?_
                                  refine g_aload_n hX dX5_count_238 rfl 0 rfl ?_
                                  refine g_get hX 5 h_X5_count_X5 0 rfl rfl 4 (by decide) k_X5_count_1 rfl (v := .int (u.1 0)) rfl dX5_count_239 ?_
                                  have e9 : F_X5_count u p1 = (u.1 0) := by simp only [F_X5_count, eq_false c_1_0, eq_false c_1_1, eq_false c_1_2, eq_false c_1_3, eq_false c_1_4, eq_false c_1_5, eq_false c_1_6, eq_false c_1_7, eq_false c_1_8, eq_false c_1_9, eq_false c_1_10, eq_false c_1_11, eq_false c_1_12, eq_false c_1_13, eq_false c_1_14, eq_true c_1_15, if_true, if_false]
                                  rw [e9]
                                  exact g_iret hX dX5_count_242 rfl rfl
                                · skip
                                  by_cases c_1_16 : p1 = 16
                                  · skip
                                    refine g_tabIn hX (off := 242) 243 dX5_count_1 (by rw [c_1_16]; decide) (by rw [c_1_16]; decide) (by rw [c_1_16]; decide) (by decide) ?_
                                    refine g_aload_n hX dX5_count_243 rfl 0 rfl ?_
                                    refine g_get hX 5 h_X5_count_X5 0 rfl rfl 8 (by decide) k_X5_count_2 rfl (v := .int (u.1 2)) rfl dX5_count_244 ?_
                                    have e9 : F_X5_count u p1 = (u.1 2) := by simp only [F_X5_count, eq_false c_1_0, eq_false c_1_1, eq_false c_1_2, eq_false c_1_3, eq_false c_1_4, eq_false c_1_5, eq_false c_1_6, eq_false c_1_7, eq_false c_1_8, eq_false c_1_9, eq_false c_1_10, eq_false c_1_11, eq_false c_1_12, eq_false c_1_13, eq_false c_1_14, eq_false c_1_15, eq_true c_1_16, if_true, if_false]
                                    rw [e9]
                                    exact g_iret hX dX5_count_247 rfl rfl
                                  · skip
                                    by_cases c_1_20 : p1 = 20
                                    · skip
                                      refine g_tabIn hX (off := 247) 248 dX5_count_1 (by rw [c_1_20]; decide) (by rw [c_1_20]; decide) (by rw [c_1_20]; decide) (by decide) ?_
                                      refine g_aload_n hX dX5_count_248 rfl 0 rfl ?_
                                      refine g_get hX 5 h_X5_count_X5 0 rfl rfl 0 (by decide) k_X5_count_0 rfl (v := .ref al) rfl dX5_count_249 ?_
                                      refine g_bipush hX (v := 24) dX5_count_252 (by decide) ?_
                                      refine g_iload_n hX dX5_count_254 rfl 1 rfl ?_
                                      refine g_iadd hX dX5_count_255 ?_
                                      refine g_bipush hX (v := 20) dX5_count_256 (by decide) ?_
                                      refine g_isub hX dX5_count_258 ?_
                                      refine g_iald hX (f := u.2.1) 1 rfl (vin_cnt (by first | exact Or.inl c_1_20 | exact Or.inr (Or.inl c_1_21) | exact Or.inr (Or.inr (Or.inl c_1_22)) | exact Or.inr (Or.inr (Or.inr (Or.inl c_1_23))) | exact Or.inr (Or.inr (Or.inr (Or.inr c_1_24))))) (v := (u.2.1 (Int32.toNatClampNeg ((24 + p1) - 20)))) (congrArg u.2.1 rfl) dX5_count_259 ?_
                                      have e9 : F_X5_count u p1 = (u.2.1 (Int32.toNatClampNeg ((24 + p1) - 20))) := by simp only [F_X5_count, eq_false c_1_0, eq_false c_1_1, eq_false c_1_2, eq_false c_1_3, eq_false c_1_4, eq_false c_1_5, eq_false c_1_6, eq_false c_1_7, eq_false c_1_8, eq_false c_1_9, eq_false c_1_10, eq_false c_1_11, eq_false c_1_12, eq_false c_1_13, eq_false c_1_14, eq_false c_1_15, eq_false c_1_16, eq_true c_1_20, if_true, if_false]
                                      rw [e9]
                                      exact g_iret hX dX5_count_260 rfl rfl
                                    · skip
                                      by_cases c_1_21 : p1 = 21
                                      · skip
                                        refine g_tabIn hX (off := 247) 248 dX5_count_1 (by rw [c_1_21]; decide) (by rw [c_1_21]; decide) (by rw [c_1_21]; decide) (by decide) ?_
                                        refine g_aload_n hX dX5_count_248 rfl 0 rfl ?_
                                        refine g_get hX 5 h_X5_count_X5 0 rfl rfl 0 (by decide) k_X5_count_0 rfl (v := .ref al) rfl dX5_count_249 ?_
                                        refine g_bipush hX (v := 24) dX5_count_252 (by decide) ?_
                                        refine g_iload_n hX dX5_count_254 rfl 1 rfl ?_
                                        refine g_iadd hX dX5_count_255 ?_
                                        refine g_bipush hX (v := 20) dX5_count_256 (by decide) ?_
                                        refine g_isub hX dX5_count_258 ?_
                                        refine g_iald hX (f := u.2.1) 1 rfl (vin_cnt (by first | exact Or.inl c_1_20 | exact Or.inr (Or.inl c_1_21) | exact Or.inr (Or.inr (Or.inl c_1_22)) | exact Or.inr (Or.inr (Or.inr (Or.inl c_1_23))) | exact Or.inr (Or.inr (Or.inr (Or.inr c_1_24))))) (v := (u.2.1 (Int32.toNatClampNeg ((24 + p1) - 20)))) (congrArg u.2.1 rfl) dX5_count_259 ?_
                                        have e9 : F_X5_count u p1 = (u.2.1 (Int32.toNatClampNeg ((24 + p1) - 20))) := by simp only [F_X5_count, eq_false c_1_0, eq_false c_1_1, eq_false c_1_2, eq_false c_1_3, eq_false c_1_4, eq_false c_1_5, eq_false c_1_6, eq_false c_1_7, eq_false c_1_8, eq_false c_1_9, eq_false c_1_10, eq_false c_1_11, eq_false c_1_12, eq_false c_1_13, eq_false c_1_14, eq_false c_1_15, eq_false c_1_16, eq_false c_1_20, eq_true c_1_21, if_true, if_false]
                                        rw [e9]
                                        exact g_iret hX dX5_count_260 rfl rfl
                                      · skip
                                        by_cases c_1_22 : p1 = 22
                                        · skip
                                          refine g_tabIn hX (off := 247) 248 dX5_count_1 (by rw [c_1_22]; decide) (by rw [c_1_22]; decide) (by rw [c_1_22]; decide) (by decide) ?_
                                          refine g_aload_n hX dX5_count_248 rfl 0 rfl ?_
                                          refine g_get hX 5 h_X5_count_X5 0 rfl rfl 0 (by decide) k_X5_count_0 rfl (v := .ref al) rfl dX5_count_249 ?_
                                          refine g_bipush hX (v := 24) dX5_count_252 (by decide) ?_
                                          refine g_iload_n hX dX5_count_254 rfl 1 rfl ?_
                                          refine g_iadd hX dX5_count_255 ?_
                                          refine g_bipush hX (v := 20) dX5_count_256 (by decide) ?_
                                          refine g_isub hX dX5_count_258 ?_
                                          refine g_iald hX (f := u.2.1) 1 rfl (vin_cnt (by first | exact Or.inl c_1_20 | exact Or.inr (Or.inl c_1_21) | exact Or.inr (Or.inr (Or.inl c_1_22)) | exact Or.inr (Or.inr (Or.inr (Or.inl c_1_23))) | exact Or.inr (Or.inr (Or.inr (Or.inr c_1_24))))) (v := (u.2.1 (Int32.toNatClampNeg ((24 + p1) - 20)))) (congrArg u.2.1 rfl) dX5_count_259 ?_
                                          have e9 : F_X5_count u p1 = (u.2.1 (Int32.toNatClampNeg ((24 + p1) - 20))) := by simp only [F_X5_count, eq_false c_1_0, eq_false c_1_1, eq_false c_1_2, eq_false c_1_3, eq_false c_1_4, eq_false c_1_5, eq_false c_1_6, eq_false c_1_7, eq_false c_1_8, eq_false c_1_9, eq_false c_1_10, eq_false c_1_11, eq_false c_1_12, eq_false c_1_13, eq_false c_1_14, eq_false c_1_15, eq_false c_1_16, eq_false c_1_20, eq_false c_1_21, eq_true c_1_22, if_true, if_false]
                                          rw [e9]
                                          exact g_iret hX dX5_count_260 rfl rfl
                                        · skip
                                          by_cases c_1_23 : p1 = 23
                                          · skip
                                            refine g_tabIn hX (off := 247) 248 dX5_count_1 (by rw [c_1_23]; decide) (by rw [c_1_23]; decide) (by rw [c_1_23]; decide) (by decide) ?_
                                            refine g_aload_n hX dX5_count_248 rfl 0 rfl ?_
                                            refine g_get hX 5 h_X5_count_X5 0 rfl rfl 0 (by decide) k_X5_count_0 rfl (v := .ref al) rfl dX5_count_249 ?_
                                            refine g_bipush hX (v := 24) dX5_count_252 (by decide) ?_
                                            refine g_iload_n hX dX5_count_254 rfl 1 rfl ?_
                                            refine g_iadd hX dX5_count_255 ?_
                                            refine g_bipush hX (v := 20) dX5_count_256 (by decide) ?_
                                            refine g_isub hX dX5_count_258 ?_
                                            refine g_iald hX (f := u.2.1) 1 rfl (vin_cnt (by first | exact Or.inl c_1_20 | exact Or.inr (Or.inl c_1_21) | exact Or.inr (Or.inr (Or.inl c_1_22)) | exact Or.inr (Or.inr (Or.inr (Or.inl c_1_23))) | exact Or.inr (Or.inr (Or.inr (Or.inr c_1_24))))) (v := (u.2.1 (Int32.toNatClampNeg ((24 + p1) - 20)))) (congrArg u.2.1 rfl) dX5_count_259 ?_
                                            have e9 : F_X5_count u p1 = (u.2.1 (Int32.toNatClampNeg ((24 + p1) - 20))) := by simp only [F_X5_count, eq_false c_1_0, eq_false c_1_1, eq_false c_1_2, eq_false c_1_3, eq_false c_1_4, eq_false c_1_5, eq_false c_1_6, eq_false c_1_7, eq_false c_1_8, eq_false c_1_9, eq_false c_1_10, eq_false c_1_11, eq_false c_1_12, eq_false c_1_13, eq_false c_1_14, eq_false c_1_15, eq_false c_1_16, eq_false c_1_20, eq_false c_1_21, eq_false c_1_22, eq_true c_1_23, if_true, if_false]
                                            rw [e9]
                                            exact g_iret hX dX5_count_260 rfl rfl
                                          · skip
                                            by_cases c_1_24 : p1 = 24
                                            · skip
                                              refine g_tabIn hX (off := 247) 248 dX5_count_1 (by rw [c_1_24]; decide) (by rw [c_1_24]; decide) (by rw [c_1_24]; decide) (by decide) ?_
                                              refine g_aload_n hX dX5_count_248 rfl 0 rfl ?_
                                              refine g_get hX 5 h_X5_count_X5 0 rfl rfl 0 (by decide) k_X5_count_0 rfl (v := .ref al) rfl dX5_count_249 ?_
                                              refine g_bipush hX (v := 24) dX5_count_252 (by decide) ?_
                                              refine g_iload_n hX dX5_count_254 rfl 1 rfl ?_
                                              refine g_iadd hX dX5_count_255 ?_
                                              refine g_bipush hX (v := 20) dX5_count_256 (by decide) ?_
                                              refine g_isub hX dX5_count_258 ?_
                                              refine g_iald hX (f := u.2.1) 1 rfl (vin_cnt (by first | exact Or.inl c_1_20 | exact Or.inr (Or.inl c_1_21) | exact Or.inr (Or.inr (Or.inl c_1_22)) | exact Or.inr (Or.inr (Or.inr (Or.inl c_1_23))) | exact Or.inr (Or.inr (Or.inr (Or.inr c_1_24))))) (v := (u.2.1 (Int32.toNatClampNeg ((24 + p1) - 20)))) (congrArg u.2.1 rfl) dX5_count_259 ?_
                                              have e9 : F_X5_count u p1 = (u.2.1 (Int32.toNatClampNeg ((24 + p1) - 20))) := by simp only [F_X5_count, eq_false c_1_0, eq_false c_1_1, eq_false c_1_2, eq_false c_1_3, eq_false c_1_4, eq_false c_1_5, eq_false c_1_6, eq_false c_1_7, eq_false c_1_8, eq_false c_1_9, eq_false c_1_10, eq_false c_1_11, eq_false c_1_12, eq_false c_1_13, eq_false c_1_14, eq_false c_1_15, eq_false c_1_16, eq_false c_1_20, eq_false c_1_21, eq_false c_1_22, eq_false c_1_23, eq_true c_1_24, if_true, if_false]
                                              rw [e9]
                                              exact g_iret hX dX5_count_260 rfl rfl
                                            · skip
                                              have tc_1_0 : ¬ Int32.toInt p1 = 0 := lv_neT c_1_0 (by decide)
                                              have tc_1_1 : ¬ Int32.toInt p1 = 1 := lv_neT c_1_1 (by decide)
                                              have tc_1_2 : ¬ Int32.toInt p1 = 2 := lv_neT c_1_2 (by decide)
                                              have tc_1_3 : ¬ Int32.toInt p1 = 3 := lv_neT c_1_3 (by decide)
                                              have tc_1_4 : ¬ Int32.toInt p1 = 4 := lv_neT c_1_4 (by decide)
                                              have tc_1_5 : ¬ Int32.toInt p1 = 5 := lv_neT c_1_5 (by decide)
                                              have tc_1_6 : ¬ Int32.toInt p1 = 6 := lv_neT c_1_6 (by decide)
                                              have tc_1_7 : ¬ Int32.toInt p1 = 7 := lv_neT c_1_7 (by decide)
                                              have tc_1_8 : ¬ Int32.toInt p1 = 8 := lv_neT c_1_8 (by decide)
                                              have tc_1_9 : ¬ Int32.toInt p1 = 9 := lv_neT c_1_9 (by decide)
                                              have tc_1_10 : ¬ Int32.toInt p1 = 10 := lv_neT c_1_10 (by decide)
                                              have tc_1_11 : ¬ Int32.toInt p1 = 11 := lv_neT c_1_11 (by decide)
                                              have tc_1_12 : ¬ Int32.toInt p1 = 12 := lv_neT c_1_12 (by decide)
                                              have tc_1_13 : ¬ Int32.toInt p1 = 13 := lv_neT c_1_13 (by decide)
                                              have tc_1_14 : ¬ Int32.toInt p1 = 14 := lv_neT c_1_14 (by decide)
                                              have tc_1_15 : ¬ Int32.toInt p1 = 15 := lv_neT c_1_15 (by decide)
                                              have tc_1_16 : ¬ Int32.toInt p1 = 16 := lv_neT c_1_16 (by decide)
                                              have tc_1_20 : ¬ Int32.toInt p1 = 20 := lv_neT c_1_20 (by decide)
                                              have tc_1_21 : ¬ Int32.toInt p1 = 21 := lv_neT c_1_21 (by decide)
                                              have tc_1_22 : ¬ Int32.toInt p1 = 22 := lv_neT c_1_22 (by decide)
                                              have tc_1_23 : ¬ Int32.toInt p1 = 23 := lv_neT c_1_23 (by decide)
                                              have tc_1_24 : ¬ Int32.toInt p1 = 24 := lv_neT c_1_24 (by decide)
                                              have hg_1 : Int32.toInt p1 < 0 ∨ 24 < Int32.toInt p1 ∨ Int32.toInt p1 = 17 ∨ Int32.toInt p1 = 18 ∨ Int32.toInt p1 = 19 := by omega
                                              refine g_tabDef hX 261 dX5_count_1 (by rcases hg_1 with hg | hg | hg | hg | hg; exact Or.inl hg; exact Or.inr (Or.inl hg); all_goals (exact Or.inr (Or.inr (by rw [hg]; decide)))) (by decide) ?_
                                              refine g_bipush hX (v := (-2)) dX5_count_261 (by decide) ?_
                                              have e9 : F_X5_count u p1 = (-2) := by simp only [F_X5_count, eq_false c_1_0, eq_false c_1_1, eq_false c_1_2, eq_false c_1_3, eq_false c_1_4, eq_false c_1_5, eq_false c_1_6, eq_false c_1_7, eq_false c_1_8, eq_false c_1_9, eq_false c_1_10, eq_false c_1_11, eq_false c_1_12, eq_false c_1_13, eq_false c_1_14, eq_false c_1_15, eq_false c_1_16, eq_false c_1_20, eq_false c_1_21, eq_false c_1_22, eq_false c_1_23, eq_false c_1_24, if_true, if_false]
                                              rw [e9]
                                              exact g_iret hX dX5_count_263 rfl rfl
/-! X5_stopped -/
def rmX5_stopped : Room := { frames := 0, cells := 0, slots := 0, locals := 0 }
theorem k_X5_stopped_0 : Cond.fieldLink RX5 28 RX5 (TX5 11).2.1 (TX5 11).2.2.1 ∈ wsX5_stopped := List.mem_of_getElem? (i := 1) rfl
theorem h_X5_stopped_X5 : ∀ w ∈ u_ws RX5 TX5 12, w ∈ wsX5_stopped := fun w h => List.mem_cons_of_mem _ (List.mem_append_right _ h)
def F_X5_stopped (u : MV) : Int32 :=
  (u.1 5)
set_option maxHeartbeats 4000000 in
set_option maxRecDepth 100000 in
theorem c_X5_stopped (l : Launch) (T : TT) (b0 : Nat) (x al ke tr hi sn te : Nat) (u : MV)  : ConI l T b0 yX5_stopped wsX5_stopped rmX5_stopped [.ref x] (wMo T x al ke tr hi sn te u) (F_X5_stopped u) (wMo T x al ke tr hi sn te u) := by
  refine conI_of (cc := cX5_stopped) (maxL := 1) (ret := (some .int)) (lv0 := [(0, .ref x)]) (by decide +kernel) rfl (Nat.le_of_ble_eq_true rfl) rfl (fun X hX => ?_)
  refine g_aload_n hX dX5_stopped_0 rfl 0 rfl ?_
  refine g_get hX 5 h_X5_stopped_X5 0 rfl rfl 11 (by decide) k_X5_stopped_0 rfl (v := .int (u.1 5)) rfl dX5_stopped_1 ?_
  have e9 : F_X5_stopped u = (u.1 5) := by simp only [F_X5_stopped, if_true, if_false]
  rw [e9]
  exact g_iret hX dX5_stopped_4 rfl rfl
/-! X5_type -/
def rmX5_type : Room := { frames := 0, cells := 0, slots := 0, locals := 0 }
theorem k_X5_type_0 : Cond.fieldLink RX5 115 RX5 (TX5 8).2.1 (TX5 8).2.2.1 ∈ wsX5_type := List.mem_of_getElem? (i := 1) rfl
theorem h_X5_type_X5 : ∀ w ∈ u_ws RX5 TX5 12, w ∈ wsX5_type := fun w h => List.mem_cons_of_mem _ (List.mem_append_right _ h)
theorem k_X5_type_1 : Cond.fieldLink RX5 25 RX5 (TX5 7).2.1 (TX5 7).2.2.1 ∈ wsX5_type := List.mem_of_getElem? (i := 2) rfl
def F_X5_type (u : MV) (p1 : Int32) : Int32 × MV :=
  (if (u.1 2) = 60 then ((-3), u) else (((u.1 2) + 1), (upd u.1 2 ((u.1 2) + 1), u.2.1, u.2.2.1, u.2.2.2.1, u.2.2.2.2.1, u.2.2.2.2.2.1, (upd u.2.2.2.2.2.2 (Int32.toNatClampNeg (u.1 2)) p1))))
set_option maxHeartbeats 4000000 in
set_option maxRecDepth 100000 in
theorem c_X5_type (l : Launch) (T : TT) (b0 : Nat) (x al ke tr hi sn te : Nat) (u : MV) (p1 : Int32) (ht : ∃ m : Nat, m ≤ 60 ∧ u.1 2 = nI m) : ConI l T b0 yX5_type wsX5_type rmX5_type [.ref x, .int p1] (wMo T x al ke tr hi sn te u) ((F_X5_type u p1).1) (wMo T x al ke tr hi sn te ((F_X5_type u p1).2)) := by
  refine conI_of (cc := cX5_type) (maxL := 2) (ret := (some .int)) (lv0 := [(0, .ref x), (1, .int p1)]) (by decide +kernel) rfl (Nat.le_of_ble_eq_true rfl) rfl (fun X hX => ?_)
  refine g_aload_n hX dX5_type_0 rfl 0 rfl ?_
  refine g_get hX 5 h_X5_type_X5 0 rfl rfl 8 (by decide) k_X5_type_0 rfl (v := .int (u.1 2)) rfl dX5_type_1 ?_
  refine g_bipush hX (v := 60) dX5_type_4 (by decide) ?_
  refine g_icmp_ne hX 12 dX5_type_6 (by decide) (fun c_6 => ?_) (fun c_6 => ?_)
  · skip
    refine g_aload_n hX dX5_type_12 rfl 0 rfl ?_
    refine g_get hX 5 h_X5_type_X5 0 rfl rfl 7 (by decide) k_X5_type_1 rfl (v := .ref te) rfl dX5_type_13 ?_
    refine g_aload_n hX dX5_type_16 rfl 0 rfl ?_
    refine g_get hX 5 h_X5_type_X5 0 rfl rfl 8 (by decide) k_X5_type_0 rfl (v := .int (u.1 2)) rfl dX5_type_17 ?_
    refine g_iload_n hX dX5_type_20 rfl 1 rfl ?_
    refine g_iast hX 6 rfl (vin_type ht c_6) dX5_type_21 (ws' := wMo T x al ke tr hi sn te (u.1, u.2.1, u.2.2.1, u.2.2.2.1, u.2.2.2.2.1, u.2.2.2.2.2.1, (upd u.2.2.2.2.2.2 (Int32.toNatClampNeg (u.1 2)) p1))) rfl ?_
    refine g_aload_n hX dX5_type_22 rfl 0 rfl ?_
    refine g_dup hX dX5_type_23 rfl ?_
    refine g_get hX 5 h_X5_type_X5 0 rfl rfl 8 (by decide) k_X5_type_0 rfl (v := .int (u.1 2)) rfl dX5_type_24 ?_
    refine g_iconst hX (v := 1) dX5_type_27 (by decide) ?_
    refine g_iadd hX dX5_type_28 ?_
    refine g_put hX 5 h_X5_type_X5 0 rfl rfl 8 (by decide) tyX5 tyX5_ok nmX5 k_X5_type_0 rfl rfl rfl rfl rfl (Nat.le_of_ble_eq_true rfl) dX5_type_29 (ws' := wMo T x al ke tr hi sn te (upd u.1 2 ((u.1 2) + 1), u.2.1, u.2.2.1, u.2.2.2.1, u.2.2.2.2.1, u.2.2.2.2.2.1, (upd u.2.2.2.2.2.2 (Int32.toNatClampNeg (u.1 2)) p1))) rfl ?_
    refine g_aload_n hX dX5_type_32 rfl 0 rfl ?_
    refine g_get hX 5 h_X5_type_X5 0 rfl rfl 8 (by decide) k_X5_type_0 rfl (v := .int ((u.1 2) + 1)) rfl dX5_type_33 ?_
    have e9 : F_X5_type u p1 = (((u.1 2) + 1), (upd u.1 2 ((u.1 2) + 1), u.2.1, u.2.2.1, u.2.2.2.1, u.2.2.2.2.1, u.2.2.2.2.2.1, (upd u.2.2.2.2.2.2 (Int32.toNatClampNeg (u.1 2)) p1))) := by simp only [F_X5_type, eq_false c_6, if_true, if_false]
    rw [e9]
    exact g_iret hX dX5_type_36 rfl rfl
  · skip
    refine g_bipush hX (v := (-3)) dX5_type_9 (by decide) ?_
    have e9 : F_X5_type u p1 = ((-3), u) := by simp only [F_X5_type, eq_true c_6, if_true, if_false]
    rw [e9]
    exact g_iret hX dX5_type_11 rfl rfl
/-! X5_clearText -/
def rmX5_clearText : Room := { frames := 0, cells := 0, slots := 0, locals := 0 }
theorem k_X5_clearText_0 : Cond.fieldLink RX5 115 RX5 (TX5 8).2.1 (TX5 8).2.2.1 ∈ wsX5_clearText := List.mem_of_getElem? (i := 1) rfl
theorem h_X5_clearText_X5 : ∀ w ∈ u_ws RX5 TX5 12, w ∈ wsX5_clearText := fun w h => List.mem_cons_of_mem _ (List.mem_append_right _ h)
def F_X5_clearText (u : MV) : Int32 × MV :=
  ((u.1 2), (upd u.1 2 0, u.2.1, u.2.2.1, u.2.2.2.1, u.2.2.2.2.1, u.2.2.2.2.2.1, u.2.2.2.2.2.2))
set_option maxHeartbeats 4000000 in
set_option maxRecDepth 100000 in
theorem c_X5_clearText (l : Launch) (T : TT) (b0 : Nat) (x al ke tr hi sn te : Nat) (u : MV)  : ConI l T b0 yX5_clearText wsX5_clearText rmX5_clearText [.ref x] (wMo T x al ke tr hi sn te u) ((F_X5_clearText u).1) (wMo T x al ke tr hi sn te ((F_X5_clearText u).2)) := by
  refine conI_of (cc := cX5_clearText) (maxL := 2) (ret := (some .int)) (lv0 := [(0, .ref x)]) (by decide +kernel) rfl (Nat.le_of_ble_eq_true rfl) rfl (fun X hX => ?_)
  refine g_aload_n hX dX5_clearText_0 rfl 0 rfl ?_
  refine g_get hX 5 h_X5_clearText_X5 0 rfl rfl 8 (by decide) k_X5_clearText_0 rfl (v := .int (u.1 2)) rfl dX5_clearText_1 ?_
  refine g_istore_n hX (lv' := [(1, .int (u.1 2)), (0, .ref x)]) dX5_clearText_4 rfl (by decide) rfl ?_
  refine g_aload_n hX dX5_clearText_5 rfl 1 rfl ?_
  refine g_iconst hX (v := 0) dX5_clearText_6 (by decide) ?_
  refine g_put hX 5 h_X5_clearText_X5 0 rfl rfl 8 (by decide) tyX5 tyX5_ok nmX5 k_X5_clearText_0 rfl rfl rfl rfl rfl (Nat.le_of_ble_eq_true rfl) dX5_clearText_7 (ws' := wMo T x al ke tr hi sn te (upd u.1 2 0, u.2.1, u.2.2.1, u.2.2.2.1, u.2.2.2.2.1, u.2.2.2.2.2.1, u.2.2.2.2.2.2)) rfl ?_
  refine g_iload_n hX dX5_clearText_10 rfl 0 rfl ?_
  have e9 : F_X5_clearText u = ((u.1 2), (upd u.1 2 0, u.2.1, u.2.2.1, u.2.2.2.1, u.2.2.2.2.1, u.2.2.2.2.2.1, u.2.2.2.2.2.2)) := by simp only [F_X5_clearText, if_true, if_false]
  rw [e9]
  exact g_iret hX dX5_clearText_11 rfl rfl
/-! X5_remember -/
def rmX5_remember : Room := { frames := 1, cells := 0, slots := 0, locals := 22 }
theorem k_X5_remember_0 : Cond.fieldLink RX5 7 RX5 (TX5 0).2.1 (TX5 0).2.2.1 ∈ wsX5_remember := List.mem_of_getElem? (i := 1) rfl
theorem h_X5_remember_X5 : ∀ w ∈ u_ws RX5 TX5 12, w ∈ wsX5_remember := fun w h => List.mem_cons_of_mem _ (List.mem_append_right _ h)
theorem k_X5_remember_1 : Cond.fieldLink RX5 13 RX5 (TX5 1).2.1 (TX5 1).2.2.1 ∈ wsX5_remember := List.mem_of_getElem? (i := 2) rfl
def F_X5_remember (u : MV) : MV :=
  (u.1, u.2.1, u.2.1, u.2.2.2.1, u.2.2.2.2.1, u.2.2.2.2.2.1, u.2.2.2.2.2.2)
set_option maxHeartbeats 4000000 in
set_option maxRecDepth 100000 in
theorem c_X5_remember (l : Launch) (T : TT) (b0 : Nat) (x al ke tr hi sn te : Nat) (u : MV)  : ConV l T b0 yX5_remember wsX5_remember rmX5_remember [.ref x] (wMo T x al ke tr hi sn te u) (wMo T x al ke tr hi sn te (F_X5_remember u)) := by
  refine conV_of (cc := cX5_remember) (maxL := 1) (ret := none) (lv0 := [(0, .ref x)]) (by decide +kernel) rfl (Nat.le_of_ble_eq_true rfl) rfl (fun X hX => ?_)
  refine g_aload_n hX dX5_remember_0 rfl 0 rfl ?_
  refine g_get hX 5 h_X5_remember_X5 0 rfl rfl 0 (by decide) k_X5_remember_0 rfl (v := .ref al) rfl dX5_remember_1 ?_
  refine g_aload_n hX dX5_remember_4 rfl 0 rfl ?_
  refine g_get hX 5 h_X5_remember_X5 0 rfl rfl 1 (by decide) k_X5_remember_1 rfl (v := .ref ke) rfl dX5_remember_5 ?_
  refine g_cS_V hX (n := 2) (As := [.ref al, .ref ke]) (wc := wAr T al 37 u.2.1 ++ wAr T ke 37 u.2.2.1) (w1 := wAr T al 37 u.2.1 ++ wAr T ke 37 u.2.1) (st := []) (c_X5_copy (xL X) T (xB X) al ke u.2.1 u.2.2.1) gX5_remember_X5_copy rfl rfl rfl ⟨Nat.le_of_ble_eq_true rfl, Nat.le_of_ble_eq_true rfl⟩ ⟨Nat.zero_le _, Nat.zero_le _⟩ ⟨by decide +kernel, by decide +kernel, by decide +kernel⟩ rfl [1, 2] rfl rfl (by decide) rfl (Nat.le_of_ble_eq_true rfl) dX5_remember_8 (ws' := wMo T x al ke tr hi sn te (u.1, u.2.1, u.2.1, u.2.2.2.1, u.2.2.2.2.1, u.2.2.2.2.2.1, u.2.2.2.2.2.2)) rfl ?_
  have e9 : F_X5_remember u = (u.1, u.2.1, u.2.1, u.2.2.2.1, u.2.2.2.2.1, u.2.2.2.2.2.1, u.2.2.2.2.2.2) := by simp only [F_X5_remember, if_true, if_false]
  rw [e9]
  exact g_vret hX dX5_remember_11 rfl
/-! X5_acted -/
def rmX5_acted : Room := { frames := 0, cells := 0, slots := 0, locals := 0 }
theorem k_X5_acted_0 : Cond.fieldLink RX5 36 RX5 (TX5 4).2.1 (TX5 4).2.2.1 ∈ wsX5_acted := List.mem_of_getElem? (i := 1) rfl
theorem h_X5_acted_X5 : ∀ w ∈ u_ws RX5 TX5 12, w ∈ wsX5_acted := fun w h => List.mem_cons_of_mem _ (List.mem_append_right _ h)
theorem k_X5_acted_1 : Cond.fieldLink RX5 19 RX5 (TX5 3).2.1 (TX5 3).2.2.1 ∈ wsX5_acted := List.mem_of_getElem? (i := 2) rfl
theorem k_X5_acted_2 : Cond.fieldLink RX5 13 RX5 (TX5 1).2.1 (TX5 1).2.2.1 ∈ wsX5_acted := List.mem_of_getElem? (i := 3) rfl
def K_X5_acted_49 : Nat → MV → Int32 → Nat → Int32 × MV
  | 0, u, p1, j => (0, u)
  | n + 1, u, p1, j => (if 37 ≤ (nI j) then (p1, (upd u.1 0 ((u.1 0) + 1), u.2.1, u.2.2.1, u.2.2.2.1, u.2.2.2.2.1, u.2.2.2.2.2.1, u.2.2.2.2.2.2)) else K_X5_acted_49 n (u.1, u.2.1, u.2.2.1, u.2.2.2.1, (upd u.2.2.2.2.1 (Int32.toNatClampNeg ((37 * (u.1 0)) + (nI j))) (u.2.2.1 j)), u.2.2.2.2.2.1, u.2.2.2.2.2.2) p1 (j + 1))
def K_X5_acted_10 : Nat → MV → Int32 → Nat → Int32 × MV
  | 0, u, p1, j => (0, u)
  | n + 1, u, p1, j => (if 111 ≤ (nI j) then K_X5_acted_49 38 (upd u.1 0 ((u.1 0) - 1), u.2.1, u.2.2.1, u.2.2.2.1, u.2.2.2.2.1, u.2.2.2.2.2.1, u.2.2.2.2.2.2) p1 0 else K_X5_acted_10 n (u.1, u.2.1, u.2.2.1, u.2.2.2.1, (upd u.2.2.2.2.1 j (u.2.2.2.2.1 (j + 37))), u.2.2.2.2.2.1, u.2.2.2.2.2.2) p1 (j + 1))
def F_X5_acted (u : MV) (p1 : Int32) : Int32 × MV :=
  (if (u.1 0) = 4 then K_X5_acted_10 112 u p1 0 else K_X5_acted_49 38 u p1 0)
set_option maxHeartbeats 4000000 in
set_option maxRecDepth 100000 in
theorem k_X5_acted_49 {T : TT} {X : CX} (hX : Fit T X (yX5_acted).cls 3 wsX5_acted cX5_acted (some .int) rmX5_acted) (x al ke tr hi sn te : Nat) : ∀ (n : Nat) (u : MV) (p1 : Int32) (j : Nat) (hn : j + n = 38) (hj : j ≤ 37) (hm : ∃ m : Nat, m ≤ 3 ∧ u.1 0 = nI m), G T X (QI T X 0 0 ((K_X5_acted_49 n u p1 j).1) (wMo T x al ke tr hi sn te ((K_X5_acted_49 n u p1 j).2))) 0 0 (wMo T x al ke tr hi sn te u) [(2, .int (nI j)), (0, .ref x), (1, .int p1)] 49 [] := by
  intro n
  induction n with
  | zero =>
    intro u p1 j hn hj hm
    exact absurd hn (by omega)
  | succ n ih =>
    intro u p1 j hn hj hm
    obtain ⟨m, hm3, hme⟩ := hm
    refine g_iload_n hX dX5_acted_49 rfl 0 rfl ?_
    refine g_bipush hX (v := 37) dX5_acted_50 (by decide) ?_
    refine g_icmp_ge hX 81 dX5_acted_52 (by decide) (fun c_52 => ?_) (fun c_52 => ?_)
    · skip
      refine g_aload_n hX dX5_acted_81 rfl 1 rfl ?_
      refine g_dup hX dX5_acted_82 rfl ?_
      refine g_get hX 5 h_X5_acted_X5 0 rfl rfl 4 (by decide) k_X5_acted_0 rfl (v := .int (u.1 0)) rfl dX5_acted_83 ?_
      refine g_iconst hX (v := 1) dX5_acted_86 (by decide) ?_
      refine g_iadd hX dX5_acted_87 ?_
      refine g_put hX 5 h_X5_acted_X5 0 rfl rfl 4 (by decide) tyX5 tyX5_ok nmX5 k_X5_acted_0 rfl rfl rfl rfl rfl (Nat.le_of_ble_eq_true rfl) dX5_acted_88 (ws' := wMo T x al ke tr hi sn te (upd u.1 0 ((u.1 0) + 1), u.2.1, u.2.2.1, u.2.2.2.1, u.2.2.2.2.1, u.2.2.2.2.2.1, u.2.2.2.2.2.2)) rfl ?_
      refine g_iload_n hX dX5_acted_91 rfl 2 rfl ?_
      have e9 : K_X5_acted_49 (n + 1) u p1 j = (p1, (upd u.1 0 ((u.1 0) + 1), u.2.1, u.2.2.1, u.2.2.2.1, u.2.2.2.2.1, u.2.2.2.2.2.1, u.2.2.2.2.2.2)) := by simp only [K_X5_acted_49, eq_true c_52, if_true, if_false]
      rw [e9]
      exact g_iret hX dX5_acted_92 rfl rfl
    · skip
      have hlt_52 : j < 37 := nlt_of c_52 (by decide) (by omega)
      refine g_aload_n hX dX5_acted_55 rfl 1 rfl ?_
      refine g_get hX 5 h_X5_acted_X5 0 rfl rfl 3 (by decide) k_X5_acted_1 rfl (v := .ref hi) rfl dX5_acted_56 ?_
      refine g_bipush hX (v := 37) dX5_acted_59 (by decide) ?_
      refine g_aload_n hX dX5_acted_61 rfl 1 rfl ?_
      refine g_get hX 5 h_X5_acted_X5 0 rfl rfl 4 (by decide) k_X5_acted_0 rfl (v := .int (u.1 0)) rfl dX5_acted_62 ?_
      refine g_imul hX dX5_acted_65 ?_
      refine g_iload_n hX dX5_acted_66 rfl 0 rfl ?_
      refine g_iadd hX dX5_acted_67 ?_
      refine g_aload_n hX dX5_acted_68 rfl 1 rfl ?_
      refine g_get hX 5 h_X5_acted_X5 0 rfl rfl 1 (by decide) k_X5_acted_2 rfl (v := .ref ke) rfl dX5_acted_69 ?_
      refine g_iload_n hX dX5_acted_72 rfl 0 rfl ?_
      refine g_iald hX (f := u.2.2.1) 2 rfl (vp_in_nI (by omega) (by omega)) (v := (u.2.2.1 j)) (congrArg u.2.2.1 (nI_clamp (by omega))) dX5_acted_73 ?_
      refine g_iast hX 4 rfl (vin_hist hme hm3 hlt_52) dX5_acted_74 (ws' := wMo T x al ke tr hi sn te (u.1, u.2.1, u.2.2.1, u.2.2.2.1, (upd u.2.2.2.2.1 (Int32.toNatClampNeg ((37 * (u.1 0)) + (nI j))) (u.2.2.1 j)), u.2.2.2.2.2.1, u.2.2.2.2.2.2)) rfl ?_
      refine g_iinc hX (lv' := [(2, .int (nI (j + 1))), (0, .ref x), (1, .int p1)]) (v := (nI (j + 1))) 0 dX5_acted_75 rfl (nI_1 _) (by decide) rfl ?_
      refine g_goto hX 49 dX5_acted_78 (by decide) ?_
      have e9 : K_X5_acted_49 (n + 1) u p1 j = K_X5_acted_49 n (u.1, u.2.1, u.2.2.1, u.2.2.2.1, (upd u.2.2.2.2.1 (Int32.toNatClampNeg ((37 * (u.1 0)) + (nI j))) (u.2.2.1 j)), u.2.2.2.2.2.1, u.2.2.2.2.2.2) p1 (j + 1) := by simp only [K_X5_acted_49, eq_false c_52, if_true, if_false]
      rw [e9]
      refine g_lv (lv' := [(2, .int (nI (j + 1))), (0, .ref x), (1, .int p1)]) [0, 1, 2] rfl ?_
      exact ih (u.1, u.2.1, u.2.2.1, u.2.2.2.1, (upd u.2.2.2.2.1 (Int32.toNatClampNeg ((37 * (u.1 0)) + (nI j))) (u.2.2.1 j)), u.2.2.2.2.2.1, u.2.2.2.2.2.2) p1 (j + 1) (by omega) (by omega) ⟨m, hm3, hme⟩
set_option maxHeartbeats 4000000 in
set_option maxRecDepth 100000 in
theorem k_X5_acted_10 {T : TT} {X : CX} (hX : Fit T X (yX5_acted).cls 3 wsX5_acted cX5_acted (some .int) rmX5_acted) (x al ke tr hi sn te : Nat) : ∀ (n : Nat) (u : MV) (p1 : Int32) (j : Nat) (hn : j + n = 112) (hj : j ≤ 111) (h4 : u.1 0 = 4), G T X (QI T X 0 0 ((K_X5_acted_10 n u p1 j).1) (wMo T x al ke tr hi sn te ((K_X5_acted_10 n u p1 j).2))) 0 0 (wMo T x al ke tr hi sn te u) [(2, .int (nI j)), (0, .ref x), (1, .int p1)] 10 [] := by
  intro n
  induction n with
  | zero =>
    intro u p1 j hn hj h4
    exact absurd hn (by omega)
  | succ n ih =>
    intro u p1 j hn hj h4
    refine g_iload_n hX dX5_acted_10 rfl 0 rfl ?_
    refine g_bipush hX (v := 111) dX5_acted_11 (by decide) ?_
    refine g_icmp_ge hX 37 dX5_acted_13 (by decide) (fun c_13 => ?_) (fun c_13 => ?_)
    · skip
      refine g_aload_n hX dX5_acted_37 rfl 1 rfl ?_
      refine g_dup hX dX5_acted_38 rfl ?_
      refine g_get hX 5 h_X5_acted_X5 0 rfl rfl 4 (by decide) k_X5_acted_0 rfl (v := .int (u.1 0)) rfl dX5_acted_39 ?_
      refine g_iconst hX (v := 1) dX5_acted_42 (by decide) ?_
      refine g_isub hX dX5_acted_43 ?_
      refine g_put hX 5 h_X5_acted_X5 0 rfl rfl 4 (by decide) tyX5 tyX5_ok nmX5 k_X5_acted_0 rfl rfl rfl rfl rfl (Nat.le_of_ble_eq_true rfl) dX5_acted_44 (ws' := wMo T x al ke tr hi sn te (upd u.1 0 ((u.1 0) - 1), u.2.1, u.2.2.1, u.2.2.2.1, u.2.2.2.2.1, u.2.2.2.2.2.1, u.2.2.2.2.2.2)) rfl ?_
      refine g_iconst hX (v := 0) dX5_acted_47 (by decide) ?_
      refine g_istore_n hX (lv' := [(2, .int 0), (0, .ref x), (1, .int p1)]) dX5_acted_48 rfl (by decide) rfl ?_
      have e9 : K_X5_acted_10 (n + 1) u p1 j = K_X5_acted_49 38 (upd u.1 0 ((u.1 0) - 1), u.2.1, u.2.2.1, u.2.2.2.1, u.2.2.2.2.1, u.2.2.2.2.2.1, u.2.2.2.2.2.2) p1 0 := by simp only [K_X5_acted_10, eq_true c_13, if_true, if_false]
      rw [e9]
      refine g_lv (lv' := [(2, .int (nI 0)), (0, .ref x), (1, .int p1)]) [0, 1, 2] rfl ?_
      exact k_X5_acted_49 hX x al ke tr hi sn te 38 (upd u.1 0 ((u.1 0) - 1), u.2.1, u.2.2.1, u.2.2.2.1, u.2.2.2.2.1, u.2.2.2.2.2.1, u.2.2.2.2.2.2) p1 0 (by omega) (by omega) ⟨3, by omega, (by show u.1 0 - 1 = nI 3; rw [h4]; rfl)⟩
    · skip
      have hlt_13 : j < 111 := nlt_of c_13 (by decide) (by omega)
      refine g_aload_n hX dX5_acted_16 rfl 1 rfl ?_
      refine g_get hX 5 h_X5_acted_X5 0 rfl rfl 3 (by decide) k_X5_acted_1 rfl (v := .ref hi) rfl dX5_acted_17 ?_
      refine g_iload_n hX dX5_acted_20 rfl 0 rfl ?_
      refine g_aload_n hX dX5_acted_21 rfl 1 rfl ?_
      refine g_get hX 5 h_X5_acted_X5 0 rfl rfl 3 (by decide) k_X5_acted_1 rfl (v := .ref hi) rfl dX5_acted_22 ?_
      refine g_iload_n hX dX5_acted_25 rfl 0 rfl ?_
      refine g_bipush hX (v := 37) dX5_acted_26 (by decide) ?_
      refine g_iadd hX dX5_acted_28 ?_
      refine g_iald hX (f := u.2.2.2.2.1) 4 rfl (vinr j 37 148 (by omega) (by omega)) (v := (u.2.2.2.2.1 (j + 37))) (congrArg u.2.2.2.2.1 (ixr j 37 (by omega))) dX5_acted_29 ?_
      refine g_iast hX 4 rfl (vp_in_nI (by omega) (by omega)) dX5_acted_30 (ws' := wMo T x al ke tr hi sn te (u.1, u.2.1, u.2.2.1, u.2.2.2.1, (upd u.2.2.2.2.1 j (u.2.2.2.2.1 (j + 37))), u.2.2.2.2.2.1, u.2.2.2.2.2.2)) (by rw [show Int32.toNatClampNeg (nI j) = j from (nI_clamp (by omega))] <;> rfl) ?_
      refine g_iinc hX (lv' := [(2, .int (nI (j + 1))), (0, .ref x), (1, .int p1)]) (v := (nI (j + 1))) 0 dX5_acted_31 rfl (nI_1 _) (by decide) rfl ?_
      refine g_goto hX 10 dX5_acted_34 (by decide) ?_
      have e9 : K_X5_acted_10 (n + 1) u p1 j = K_X5_acted_10 n (u.1, u.2.1, u.2.2.1, u.2.2.2.1, (upd u.2.2.2.2.1 j (u.2.2.2.2.1 (j + 37))), u.2.2.2.2.2.1, u.2.2.2.2.2.2) p1 (j + 1) := by simp only [K_X5_acted_10, eq_false c_13, if_true, if_false]
      rw [e9]
      refine g_lv (lv' := [(2, .int (nI (j + 1))), (0, .ref x), (1, .int p1)]) [0, 1, 2] rfl ?_
      exact ih (u.1, u.2.1, u.2.2.1, u.2.2.2.1, (upd u.2.2.2.2.1 j (u.2.2.2.2.1 (j + 37))), u.2.2.2.2.2.1, u.2.2.2.2.2.2) p1 (j + 1) (by omega) (by omega) h4
set_option maxHeartbeats 4000000 in
set_option maxRecDepth 100000 in
theorem c_X5_acted (l : Launch) (T : TT) (b0 : Nat) (x al ke tr hi sn te : Nat) (u : MV) (p1 : Int32) (hh : ∃ m : Nat, m ≤ 4 ∧ u.1 0 = nI m) : ConI l T b0 yX5_acted wsX5_acted rmX5_acted [.ref x, .int p1] (wMo T x al ke tr hi sn te u) ((F_X5_acted u p1).1) (wMo T x al ke tr hi sn te ((F_X5_acted u p1).2)) := by
  refine conI_of (cc := cX5_acted) (maxL := 3) (ret := (some .int)) (lv0 := [(0, .ref x), (1, .int p1)]) (by decide +kernel) rfl (Nat.le_of_ble_eq_true rfl) rfl (fun X hX => ?_)
  refine g_aload_n hX dX5_acted_0 rfl 0 rfl ?_
  refine g_get hX 5 h_X5_acted_X5 0 rfl rfl 4 (by decide) k_X5_acted_0 rfl (v := .int (u.1 0)) rfl dX5_acted_1 ?_
  refine g_iconst hX (v := 4) dX5_acted_4 (by decide) ?_
  refine g_icmp_ne hX 47 dX5_acted_5 (by decide) (fun c_5 => ?_) (fun c_5 => ?_)
  · skip
    refine g_iconst hX (v := 0) dX5_acted_47 (by decide) ?_
    refine g_istore_n hX (lv' := [(2, .int 0), (0, .ref x), (1, .int p1)]) dX5_acted_48 rfl (by decide) rfl ?_
    have e9 : F_X5_acted u p1 = K_X5_acted_49 38 u p1 0 := by simp only [F_X5_acted, eq_false c_5, if_true, if_false]
    rw [e9]
    refine g_lv (lv' := [(2, .int (nI 0)), (0, .ref x), (1, .int p1)]) [0, 1, 2] rfl ?_
    exact k_X5_acted_49 hX x al ke tr hi sn te 38 u p1 0 (by omega) (by omega) (hist3 hh c_5)
  · skip
    refine g_iconst hX (v := 0) dX5_acted_8 (by decide) ?_
    refine g_istore_n hX (lv' := [(2, .int 0), (0, .ref x), (1, .int p1)]) dX5_acted_9 rfl (by decide) rfl ?_
    have e9 : F_X5_acted u p1 = K_X5_acted_10 112 u p1 0 := by simp only [F_X5_acted, eq_true c_5, if_true, if_false]
    rw [e9]
    refine g_lv (lv' := [(2, .int (nI 0)), (0, .ref x), (1, .int p1)]) [0, 1, 2] rfl ?_
    exact k_X5_acted_10 hX x al ke tr hi sn te 112 u p1 0 (by omega) (by omega) c_5
/-! X5_set -/
def rmX5_set : Room := { frames := 2, cells := 0, slots := 0, locals := 46 }
theorem k_X5_set_0 : Cond.constantLong RX5 77 (4) ∈ wsX5_set := List.mem_of_getElem? (i := 1) rfl
def F_X5_set (u : MV) (p1 : Int32) (p2 : Int32) : Int32 × MV :=
  (if (F_X5_in (Int32.toInt64 p1) 0 4) = 0 then ((-1), u) else (if (F_X5_isNumber p1 p2) = 0 then ((-2), u) else (let z_32 := F_X5_doSet u.2.1 p1 p2
  (if 0 ≤ z_32.1 then (let z_46 := F_X5_acted (u.1, z_32.2, u.2.1, u.2.2.2.1, u.2.2.2.2.1, u.2.2.2.2.2.1, u.2.2.2.2.2.2) z_32.1
  (z_46.1, z_46.2)) else (z_32.1, (u.1, z_32.2, u.2.1, u.2.2.2.1, u.2.2.2.2.1, u.2.2.2.2.2.1, u.2.2.2.2.2.2))))))
set_option maxHeartbeats 4000000 in
set_option maxRecDepth 100000 in
theorem c_X5_set (l : Launch) (T : TT) (b0 : Nat) (x al ke tr hi sn te : Nat) (u : MV) (p1 : Int32) (p2 : Int32) (hh : ∃ m : Nat, m ≤ 4 ∧ u.1 0 = nI m) : ConI l T b0 yX5_set wsX5_set rmX5_set [.ref x, .int p1, .int p2] (wMo T x al ke tr hi sn te u) ((F_X5_set u p1 p2).1) (wMo T x al ke tr hi sn te ((F_X5_set u p1 p2).2)) := by
  refine conI_of (cc := cX5_set) (maxL := 4) (ret := (some .int)) (lv0 := [(0, .ref x), (1, .int p1), (2, .int p2)]) (by decide +kernel) rfl (Nat.le_of_ble_eq_true rfl) rfl (fun X hX => ?_)
  refine g_iload_n hX dX5_set_0 rfl 1 rfl ?_
  refine g_i2l hX dX5_set_1 rfl ?_
  refine g_lconst hX (v := 0) dX5_set_2 (by decide) ?_
  refine g_ldc2 hX (v := 4) k_X5_set_0 dX5_set_3 ?_
  refine g_cS_I hX (n := 3) (As := [.long (Int32.toInt64 p1), .long 0, .long 4]) (wc := []) (w1 := []) (rv := (F_X5_in (Int32.toInt64 p1) 0 4)) (st := []) (c_X5_in (xL X) T (xB X) (Int32.toInt64 p1) 0 4) gX5_set_X5_in rfl rfl rfl ⟨Nat.le_of_ble_eq_true rfl, Nat.le_of_ble_eq_true rfl⟩ ⟨Nat.zero_le _, Nat.zero_le _⟩ ⟨by decide +kernel, by decide +kernel, by decide +kernel⟩ rfl [] rfl rfl (by decide) rfl (Nat.le_of_ble_eq_true rfl) dX5_set_6 (ws' := wMo T x al ke tr hi sn te u) rfl ?_
  refine g_if_ne hX 14 dX5_set_9 (by decide) (fun c_9 => ?_) (fun c_9 => ?_)
  · skip
    refine g_iload_n hX dX5_set_14 rfl 1 rfl ?_
    refine g_iload_n hX dX5_set_15 rfl 2 rfl ?_
    refine g_cS_I hX (n := 2) (As := [.int p1, .int p2]) (wc := []) (w1 := []) (rv := (F_X5_isNumber p1 p2)) (st := []) (c_X5_isNumber (xL X) T (xB X) p1 p2) gX5_set_X5_isNumber rfl rfl rfl ⟨Nat.le_of_ble_eq_true rfl, Nat.le_of_ble_eq_true rfl⟩ ⟨Nat.zero_le _, Nat.zero_le _⟩ ⟨by decide +kernel, by decide +kernel, by decide +kernel⟩ rfl [] rfl rfl (by decide) rfl (Nat.le_of_ble_eq_true rfl) dX5_set_16 (ws' := wMo T x al ke tr hi sn te u) rfl ?_
    refine g_if_ne hX 25 dX5_set_19 (by decide) (fun c_19 => ?_) (fun c_19 => ?_)
    · skip
      refine g_aload_n hX dX5_set_25 rfl 0 rfl ?_
      refine g_cV_V hX (n := 0) (As := []) (wc := wMo T x al ke tr hi sn te u) (w1 := wMo T x al ke tr hi sn te (F_X5_remember u)) (st := []) 0 rfl rfl (c_X5_remember (xL X) T (xB X) x al ke tr hi sn te u) gX5_set_X5_remember rfl rfl rfl ⟨Nat.le_of_ble_eq_true rfl, Nat.le_of_ble_eq_true rfl⟩ ⟨Nat.zero_le _, Nat.zero_le _⟩ ⟨by decide +kernel, by decide +kernel, by decide +kernel⟩ rfl [0, 1, 2, 3, 4, 5, 6] rfl rfl (by decide) rfl (Nat.le_of_ble_eq_true rfl) dX5_set_26 (ws' := wMo T x al ke tr hi sn te (u.1, u.2.1, u.2.1, u.2.2.2.1, u.2.2.2.2.1, u.2.2.2.2.2.1, u.2.2.2.2.2.2)) rfl ?_
      refine g_aload_n hX dX5_set_29 rfl 0 rfl ?_
      refine g_iload_n hX dX5_set_30 rfl 1 rfl ?_
      refine g_iload_n hX dX5_set_31 rfl 2 rfl ?_
      obtain ⟨z_32, hz_32⟩ : ∃ z : Int32 × (Nat → Int32), z = F_X5_doSet u.2.1 p1 p2 := ⟨_, rfl⟩
      refine g_cV_I hX (n := 2) (As := [.int p1, .int p2]) (wc := wMa T x al ([.ref ke, .ref tr, .ref hi, .int (u.1 0), .ref sn, .int (u.1 1), .ref te, .int (u.1 2), .int (u.1 3), .int (u.1 4), .int (u.1 5)]) u.2.1) (w1 := wMa T x al ([.ref ke, .ref tr, .ref hi, .int (u.1 0), .ref sn, .int (u.1 1), .ref te, .int (u.1 2), .int (u.1 3), .int (u.1 4), .int (u.1 5)]) z_32.2) (rv := z_32.1) (st := []) 0 rfl rfl (by rw [hz_32]; exact (c_X5_doSet (xL X) T (xB X) x al ([.ref ke, .ref tr, .ref hi, .int (u.1 0), .ref sn, .int (u.1 1), .ref te, .int (u.1 2), .int (u.1 3), .int (u.1 4), .int (u.1 5)]) u.2.1 p1 p2 (in5 c_9))) gX5_set_X5_doSet rfl rfl rfl ⟨Nat.le_of_ble_eq_true rfl, Nat.le_of_ble_eq_true rfl⟩ ⟨Nat.zero_le _, Nat.zero_le _⟩ ⟨by decide +kernel, by decide +kernel, by decide +kernel⟩ rfl [0, 1] rfl rfl (by decide) rfl (Nat.le_of_ble_eq_true rfl) dX5_set_32 (ws' := wMo T x al ke tr hi sn te (u.1, z_32.2, u.2.1, u.2.2.2.1, u.2.2.2.2.1, u.2.2.2.2.2.1, u.2.2.2.2.2.2)) rfl ?_
      refine g_istore_n hX (lv' := [(3, .int z_32.1), (0, .ref x), (1, .int p1), (2, .int p2)]) dX5_set_35 rfl (by decide) rfl ?_
      refine g_iload_n hX dX5_set_36 rfl 0 rfl ?_
      refine g_if_ge hX 44 dX5_set_37 (by decide) (fun c_37 => ?_) (fun c_37 => ?_)
      · skip
        refine g_aload_n hX dX5_set_44 rfl 1 rfl ?_
        refine g_iload_n hX dX5_set_45 rfl 0 rfl ?_
        obtain ⟨z_46, hz_46⟩ : ∃ z : Int32 × MV, z = F_X5_acted (u.1, z_32.2, u.2.1, u.2.2.2.1, u.2.2.2.2.1, u.2.2.2.2.2.1, u.2.2.2.2.2.2) z_32.1 := ⟨_, rfl⟩
        refine g_cV_I hX (n := 1) (As := [.int z_32.1]) (wc := wMo T x al ke tr hi sn te (u.1, z_32.2, u.2.1, u.2.2.2.1, u.2.2.2.2.1, u.2.2.2.2.2.1, u.2.2.2.2.2.2)) (w1 := wMo T x al ke tr hi sn te z_46.2) (rv := z_46.1) (st := []) 0 rfl rfl (by rw [hz_46]; exact (c_X5_acted (xL X) T (xB X) x al ke tr hi sn te (u.1, z_32.2, u.2.1, u.2.2.2.1, u.2.2.2.2.1, u.2.2.2.2.2.1, u.2.2.2.2.2.2) z_32.1 hh)) gX5_set_X5_acted rfl rfl rfl ⟨Nat.le_of_ble_eq_true rfl, Nat.le_of_ble_eq_true rfl⟩ ⟨Nat.zero_le _, Nat.zero_le _⟩ ⟨by decide +kernel, by decide +kernel, by decide +kernel⟩ rfl [0, 1, 2, 3, 4, 5, 6] rfl rfl (by decide) rfl (Nat.le_of_ble_eq_true rfl) dX5_set_46 (ws' := wMo T x al ke tr hi sn te z_46.2) rfl ?_
        have e9 : F_X5_set u p1 p2 = (z_46.1, z_46.2) := by simp only [F_X5_set, ← hz_32, ← hz_46, eq_false c_9, eq_false c_19, eq_true c_37, if_true, if_false]
        rw [e9]
        exact g_iret hX dX5_set_49 rfl rfl
      · skip
        refine g_iload_n hX dX5_set_40 rfl 0 rfl ?_
        refine g_goto hX 49 dX5_set_41 (by decide) ?_
        have e9 : F_X5_set u p1 p2 = (z_32.1, (u.1, z_32.2, u.2.1, u.2.2.2.1, u.2.2.2.2.1, u.2.2.2.2.2.1, u.2.2.2.2.2.2)) := by simp only [F_X5_set, ← hz_32, eq_false c_9, eq_false c_19, eq_false c_37, if_true, if_false]
        rw [e9]
        exact g_iret hX dX5_set_49 rfl rfl
    · skip
      refine g_bipush hX (v := (-2)) dX5_set_22 (by decide) ?_
      have e9 : F_X5_set u p1 p2 = ((-2), u) := by simp only [F_X5_set, eq_false c_9, eq_true c_19, if_true, if_false]
      rw [e9]
      exact g_iret hX dX5_set_24 rfl rfl
  · skip
    refine g_iconst hX (v := (-1)) dX5_set_12 (by decide) ?_
    have e9 : F_X5_set u p1 p2 = ((-1), u) := by simp only [F_X5_set, eq_true c_9, if_true, if_false]
    rw [e9]
    exact g_iret hX dX5_set_13 rfl rfl
/-! X5_wind -/
def rmX5_wind : Room := { frames := 5, cells := 0, slots := 0, locals := 107 }
theorem k_X5_wind_0 : Cond.constantLong RX5 99 (500) ∈ wsX5_wind := List.mem_of_getElem? (i := 1) rfl
def F_X5_wind (u : MV) (p1 : Int32) : Int32 × MV :=
  (if (F_X5_in (Int32.toInt64 p1) 1 500) = 0 then ((-2), u) else (let z_21 := F_X5_doWind u.2.1 p1
  (if 0 ≤ z_21.1 then (let z_35 := F_X5_acted (u.1, z_21.2, u.2.1, u.2.2.2.1, u.2.2.2.2.1, u.2.2.2.2.2.1, u.2.2.2.2.2.2) z_21.1
  (z_35.1, z_35.2)) else (z_21.1, (u.1, z_21.2, u.2.1, u.2.2.2.1, u.2.2.2.2.1, u.2.2.2.2.2.1, u.2.2.2.2.2.2)))))
set_option maxHeartbeats 4000000 in
set_option maxRecDepth 100000 in
theorem c_X5_wind (l : Launch) (T : TT) (b0 : Nat) (x al ke tr hi sn te : Nat) (u : MV) (p1 : Int32) (hh : ∃ m : Nat, m ≤ 4 ∧ u.1 0 = nI m) (hw : mWF u.2.1) : ConI l T b0 yX5_wind wsX5_wind rmX5_wind [.ref x, .int p1] (wMo T x al ke tr hi sn te u) ((F_X5_wind u p1).1) (wMo T x al ke tr hi sn te ((F_X5_wind u p1).2)) := by
  refine conI_of (cc := cX5_wind) (maxL := 3) (ret := (some .int)) (lv0 := [(0, .ref x), (1, .int p1)]) (by decide +kernel) rfl (Nat.le_of_ble_eq_true rfl) rfl (fun X hX => ?_)
  refine g_iload_n hX dX5_wind_0 rfl 1 rfl ?_
  refine g_i2l hX dX5_wind_1 rfl ?_
  refine g_lconst hX (v := 1) dX5_wind_2 (by decide) ?_
  refine g_ldc2 hX (v := 500) k_X5_wind_0 dX5_wind_3 ?_
  refine g_cS_I hX (n := 3) (As := [.long (Int32.toInt64 p1), .long 1, .long 500]) (wc := []) (w1 := []) (rv := (F_X5_in (Int32.toInt64 p1) 1 500)) (st := []) (c_X5_in (xL X) T (xB X) (Int32.toInt64 p1) 1 500) gX5_wind_X5_in rfl rfl rfl ⟨Nat.le_of_ble_eq_true rfl, Nat.le_of_ble_eq_true rfl⟩ ⟨Nat.zero_le _, Nat.zero_le _⟩ ⟨by decide +kernel, by decide +kernel, by decide +kernel⟩ rfl [] rfl rfl (by decide) rfl (Nat.le_of_ble_eq_true rfl) dX5_wind_6 (ws' := wMo T x al ke tr hi sn te u) rfl ?_
  refine g_if_ne hX 15 dX5_wind_9 (by decide) (fun c_9 => ?_) (fun c_9 => ?_)
  · skip
    refine g_aload_n hX dX5_wind_15 rfl 0 rfl ?_
    refine g_cV_V hX (n := 0) (As := []) (wc := wMo T x al ke tr hi sn te u) (w1 := wMo T x al ke tr hi sn te (F_X5_remember u)) (st := []) 0 rfl rfl (c_X5_remember (xL X) T (xB X) x al ke tr hi sn te u) gX5_wind_X5_remember rfl rfl rfl ⟨Nat.le_of_ble_eq_true rfl, Nat.le_of_ble_eq_true rfl⟩ ⟨Nat.zero_le _, Nat.zero_le _⟩ ⟨by decide +kernel, by decide +kernel, by decide +kernel⟩ rfl [0, 1, 2, 3, 4, 5, 6] rfl rfl (by decide) rfl (Nat.le_of_ble_eq_true rfl) dX5_wind_16 (ws' := wMo T x al ke tr hi sn te (u.1, u.2.1, u.2.1, u.2.2.2.1, u.2.2.2.2.1, u.2.2.2.2.2.1, u.2.2.2.2.2.2)) rfl ?_
    refine g_aload_n hX dX5_wind_19 rfl 0 rfl ?_
    refine g_iload_n hX dX5_wind_20 rfl 1 rfl ?_
    obtain ⟨z_21, hz_21⟩ : ∃ z : Int32 × (Nat → Int32), z = F_X5_doWind u.2.1 p1 := ⟨_, rfl⟩
    refine g_cV_I hX (n := 1) (As := [.int p1]) (wc := wMa T x al ([.ref ke, .ref tr, .ref hi, .int (u.1 0), .ref sn, .int (u.1 1), .ref te, .int (u.1 2), .int (u.1 3), .int (u.1 4), .int (u.1 5)]) u.2.1) (w1 := wMa T x al ([.ref ke, .ref tr, .ref hi, .int (u.1 0), .ref sn, .int (u.1 1), .ref te, .int (u.1 2), .int (u.1 3), .int (u.1 4), .int (u.1 5)]) z_21.2) (rv := z_21.1) (st := []) 0 rfl rfl (by rw [hz_21]; exact (c_X5_doWind (xL X) T (xB X) x al ([.ref ke, .ref tr, .ref hi, .int (u.1 0), .ref sn, .int (u.1 1), .ref te, .int (u.1 2), .int (u.1 3), .int (u.1 4), .int (u.1 5)]) u.2.1 p1 hw (in500 c_9))) gX5_wind_X5_doWind rfl rfl rfl ⟨Nat.le_of_ble_eq_true rfl, Nat.le_of_ble_eq_true rfl⟩ ⟨Nat.zero_le _, Nat.zero_le _⟩ ⟨by decide +kernel, by decide +kernel, by decide +kernel⟩ rfl [0, 1] rfl rfl (by decide) rfl (Nat.le_of_ble_eq_true rfl) dX5_wind_21 (ws' := wMo T x al ke tr hi sn te (u.1, z_21.2, u.2.1, u.2.2.2.1, u.2.2.2.2.1, u.2.2.2.2.2.1, u.2.2.2.2.2.2)) rfl ?_
    refine g_istore_n hX (lv' := [(2, .int z_21.1), (0, .ref x), (1, .int p1)]) dX5_wind_24 rfl (by decide) rfl ?_
    refine g_iload_n hX dX5_wind_25 rfl 0 rfl ?_
    refine g_if_ge hX 33 dX5_wind_26 (by decide) (fun c_26 => ?_) (fun c_26 => ?_)
    · skip
      refine g_aload_n hX dX5_wind_33 rfl 1 rfl ?_
      refine g_iload_n hX dX5_wind_34 rfl 0 rfl ?_
      obtain ⟨z_35, hz_35⟩ : ∃ z : Int32 × MV, z = F_X5_acted (u.1, z_21.2, u.2.1, u.2.2.2.1, u.2.2.2.2.1, u.2.2.2.2.2.1, u.2.2.2.2.2.2) z_21.1 := ⟨_, rfl⟩
      refine g_cV_I hX (n := 1) (As := [.int z_21.1]) (wc := wMo T x al ke tr hi sn te (u.1, z_21.2, u.2.1, u.2.2.2.1, u.2.2.2.2.1, u.2.2.2.2.2.1, u.2.2.2.2.2.2)) (w1 := wMo T x al ke tr hi sn te z_35.2) (rv := z_35.1) (st := []) 0 rfl rfl (by rw [hz_35]; exact (c_X5_acted (xL X) T (xB X) x al ke tr hi sn te (u.1, z_21.2, u.2.1, u.2.2.2.1, u.2.2.2.2.1, u.2.2.2.2.2.1, u.2.2.2.2.2.2) z_21.1 hh)) gX5_wind_X5_acted rfl rfl rfl ⟨Nat.le_of_ble_eq_true rfl, Nat.le_of_ble_eq_true rfl⟩ ⟨Nat.zero_le _, Nat.zero_le _⟩ ⟨by decide +kernel, by decide +kernel, by decide +kernel⟩ rfl [0, 1, 2, 3, 4, 5, 6] rfl rfl (by decide) rfl (Nat.le_of_ble_eq_true rfl) dX5_wind_35 (ws' := wMo T x al ke tr hi sn te z_35.2) rfl ?_
      have e9 : F_X5_wind u p1 = (z_35.1, z_35.2) := by simp only [F_X5_wind, ← hz_21, ← hz_35, eq_false c_9, eq_true c_26, if_true, if_false]
      rw [e9]
      exact g_iret hX dX5_wind_38 rfl rfl
    · skip
      refine g_iload_n hX dX5_wind_29 rfl 0 rfl ?_
      refine g_goto hX 38 dX5_wind_30 (by decide) ?_
      have e9 : F_X5_wind u p1 = (z_21.1, (u.1, z_21.2, u.2.1, u.2.2.2.1, u.2.2.2.2.1, u.2.2.2.2.2.1, u.2.2.2.2.2.2)) := by simp only [F_X5_wind, ← hz_21, eq_false c_9, eq_false c_26, if_true, if_false]
      rw [e9]
      exact g_iret hX dX5_wind_38 rfl rfl
  · skip
    refine g_bipush hX (v := (-2)) dX5_wind_12 (by decide) ?_
    have e9 : F_X5_wind u p1 = ((-2), u) := by simp only [F_X5_wind, eq_true c_9, if_true, if_false]
    rw [e9]
    exact g_iret hX dX5_wind_14 rfl rfl
/-! X5_knot -/
def rmX5_knot : Room := { frames := 2, cells := 0, slots := 0, locals := 42 }
def F_X5_knot (u : MV) : Int32 × MV :=
  (let z_5 := F_X5_doKnot u.2.1
  (if 0 ≤ z_5.1 then (let z_19 := F_X5_acted (u.1, z_5.2, u.2.1, u.2.2.2.1, u.2.2.2.2.1, u.2.2.2.2.2.1, u.2.2.2.2.2.2) z_5.1
  (z_19.1, z_19.2)) else (z_5.1, (u.1, z_5.2, u.2.1, u.2.2.2.1, u.2.2.2.2.1, u.2.2.2.2.2.1, u.2.2.2.2.2.2))))
set_option maxHeartbeats 4000000 in
set_option maxRecDepth 100000 in
theorem c_X5_knot (l : Launch) (T : TT) (b0 : Nat) (x al ke tr hi sn te : Nat) (u : MV) (hh : ∃ m : Nat, m ≤ 4 ∧ u.1 0 = nI m) (hw : mWF u.2.1) : ConI l T b0 yX5_knot wsX5_knot rmX5_knot [.ref x] (wMo T x al ke tr hi sn te u) ((F_X5_knot u).1) (wMo T x al ke tr hi sn te ((F_X5_knot u).2)) := by
  refine conI_of (cc := cX5_knot) (maxL := 2) (ret := (some .int)) (lv0 := [(0, .ref x)]) (by decide +kernel) rfl (Nat.le_of_ble_eq_true rfl) rfl (fun X hX => ?_)
  refine g_aload_n hX dX5_knot_0 rfl 0 rfl ?_
  refine g_cV_V hX (n := 0) (As := []) (wc := wMo T x al ke tr hi sn te u) (w1 := wMo T x al ke tr hi sn te (F_X5_remember u)) (st := []) 0 rfl rfl (c_X5_remember (xL X) T (xB X) x al ke tr hi sn te u) gX5_knot_X5_remember rfl rfl rfl ⟨Nat.le_of_ble_eq_true rfl, Nat.le_of_ble_eq_true rfl⟩ ⟨Nat.zero_le _, Nat.zero_le _⟩ ⟨by decide +kernel, by decide +kernel, by decide +kernel⟩ rfl [0, 1, 2, 3, 4, 5, 6] rfl rfl (by decide) rfl (Nat.le_of_ble_eq_true rfl) dX5_knot_1 (ws' := wMo T x al ke tr hi sn te (u.1, u.2.1, u.2.1, u.2.2.2.1, u.2.2.2.2.1, u.2.2.2.2.2.1, u.2.2.2.2.2.2)) rfl ?_
  refine g_aload_n hX dX5_knot_4 rfl 0 rfl ?_
  obtain ⟨z_5, hz_5⟩ : ∃ z : Int32 × (Nat → Int32), z = F_X5_doKnot u.2.1 := ⟨_, rfl⟩
  refine g_cV_I hX (n := 0) (As := []) (wc := wMa T x al ([.ref ke, .ref tr, .ref hi, .int (u.1 0), .ref sn, .int (u.1 1), .ref te, .int (u.1 2), .int (u.1 3), .int (u.1 4), .int (u.1 5)]) u.2.1) (w1 := wMa T x al ([.ref ke, .ref tr, .ref hi, .int (u.1 0), .ref sn, .int (u.1 1), .ref te, .int (u.1 2), .int (u.1 3), .int (u.1 4), .int (u.1 5)]) z_5.2) (rv := z_5.1) (st := []) 0 rfl rfl (by rw [hz_5]; exact (c_X5_doKnot (xL X) T (xB X) x al ([.ref ke, .ref tr, .ref hi, .int (u.1 0), .ref sn, .int (u.1 1), .ref te, .int (u.1 2), .int (u.1 3), .int (u.1 4), .int (u.1 5)]) u.2.1 hw)) gX5_knot_X5_doKnot rfl rfl rfl ⟨Nat.le_of_ble_eq_true rfl, Nat.le_of_ble_eq_true rfl⟩ ⟨Nat.zero_le _, Nat.zero_le _⟩ ⟨by decide +kernel, by decide +kernel, by decide +kernel⟩ rfl [0, 1] rfl rfl (by decide) rfl (Nat.le_of_ble_eq_true rfl) dX5_knot_5 (ws' := wMo T x al ke tr hi sn te (u.1, z_5.2, u.2.1, u.2.2.2.1, u.2.2.2.2.1, u.2.2.2.2.2.1, u.2.2.2.2.2.2)) rfl ?_
  refine g_istore_n hX (lv' := [(1, .int z_5.1), (0, .ref x)]) dX5_knot_8 rfl (by decide) rfl ?_
  refine g_iload_n hX dX5_knot_9 rfl 0 rfl ?_
  refine g_if_ge hX 17 dX5_knot_10 (by decide) (fun c_10 => ?_) (fun c_10 => ?_)
  · skip
    refine g_aload_n hX dX5_knot_17 rfl 1 rfl ?_
    refine g_iload_n hX dX5_knot_18 rfl 0 rfl ?_
    obtain ⟨z_19, hz_19⟩ : ∃ z : Int32 × MV, z = F_X5_acted (u.1, z_5.2, u.2.1, u.2.2.2.1, u.2.2.2.2.1, u.2.2.2.2.2.1, u.2.2.2.2.2.2) z_5.1 := ⟨_, rfl⟩
    refine g_cV_I hX (n := 1) (As := [.int z_5.1]) (wc := wMo T x al ke tr hi sn te (u.1, z_5.2, u.2.1, u.2.2.2.1, u.2.2.2.2.1, u.2.2.2.2.2.1, u.2.2.2.2.2.2)) (w1 := wMo T x al ke tr hi sn te z_19.2) (rv := z_19.1) (st := []) 0 rfl rfl (by rw [hz_19]; exact (c_X5_acted (xL X) T (xB X) x al ke tr hi sn te (u.1, z_5.2, u.2.1, u.2.2.2.1, u.2.2.2.2.1, u.2.2.2.2.2.1, u.2.2.2.2.2.2) z_5.1 hh)) gX5_knot_X5_acted rfl rfl rfl ⟨Nat.le_of_ble_eq_true rfl, Nat.le_of_ble_eq_true rfl⟩ ⟨Nat.zero_le _, Nat.zero_le _⟩ ⟨by decide +kernel, by decide +kernel, by decide +kernel⟩ rfl [0, 1, 2, 3, 4, 5, 6] rfl rfl (by decide) rfl (Nat.le_of_ble_eq_true rfl) dX5_knot_19 (ws' := wMo T x al ke tr hi sn te z_19.2) rfl ?_
    have e9 : F_X5_knot u = (z_19.1, z_19.2) := by simp only [F_X5_knot, ← hz_5, ← hz_19, eq_true c_10, if_true, if_false]
    rw [e9]
    exact g_iret hX dX5_knot_22 rfl rfl
  · skip
    refine g_iload_n hX dX5_knot_13 rfl 0 rfl ?_
    refine g_goto hX 22 dX5_knot_14 (by decide) ?_
    have e9 : F_X5_knot u = (z_5.1, (u.1, z_5.2, u.2.1, u.2.2.2.1, u.2.2.2.2.1, u.2.2.2.2.2.1, u.2.2.2.2.2.2)) := by simp only [F_X5_knot, ← hz_5, eq_false c_10, if_true, if_false]
    rw [e9]
    exact g_iret hX dX5_knot_22 rfl rfl
/-! X5_cone -/
def rmX5_cone : Room := { frames := 2, cells := 0, slots := 0, locals := 42 }
theorem k_X5_cone_0 : Cond.constantLong RX5 107 (9999) ∈ wsX5_cone := List.mem_of_getElem? (i := 1) rfl
def F_X5_cone (u : MV) (p1 : Int32) : Int32 × MV :=
  (if (F_X5_in (Int32.toInt64 p1) 1 9999) = 0 then ((-2), u) else (let z_22 := F_X5_doCone u.2.1 p1
  (let z_25 := F_X5_acted (u.1, z_22.2, u.2.1, u.2.2.2.1, u.2.2.2.2.1, u.2.2.2.2.2.1, u.2.2.2.2.2.2) z_22.1
  (z_25.1, z_25.2))))
set_option maxHeartbeats 4000000 in
set_option maxRecDepth 100000 in
theorem c_X5_cone (l : Launch) (T : TT) (b0 : Nat) (x al ke tr hi sn te : Nat) (u : MV) (p1 : Int32) (hh : ∃ m : Nat, m ≤ 4 ∧ u.1 0 = nI m) : ConI l T b0 yX5_cone wsX5_cone rmX5_cone [.ref x, .int p1] (wMo T x al ke tr hi sn te u) ((F_X5_cone u p1).1) (wMo T x al ke tr hi sn te ((F_X5_cone u p1).2)) := by
  refine conI_of (cc := cX5_cone) (maxL := 2) (ret := (some .int)) (lv0 := [(0, .ref x), (1, .int p1)]) (by decide +kernel) rfl (Nat.le_of_ble_eq_true rfl) rfl (fun X hX => ?_)
  refine g_iload_n hX dX5_cone_0 rfl 1 rfl ?_
  refine g_i2l hX dX5_cone_1 rfl ?_
  refine g_lconst hX (v := 1) dX5_cone_2 (by decide) ?_
  refine g_ldc2 hX (v := 9999) k_X5_cone_0 dX5_cone_3 ?_
  refine g_cS_I hX (n := 3) (As := [.long (Int32.toInt64 p1), .long 1, .long 9999]) (wc := []) (w1 := []) (rv := (F_X5_in (Int32.toInt64 p1) 1 9999)) (st := []) (c_X5_in (xL X) T (xB X) (Int32.toInt64 p1) 1 9999) gX5_cone_X5_in rfl rfl rfl ⟨Nat.le_of_ble_eq_true rfl, Nat.le_of_ble_eq_true rfl⟩ ⟨Nat.zero_le _, Nat.zero_le _⟩ ⟨by decide +kernel, by decide +kernel, by decide +kernel⟩ rfl [] rfl rfl (by decide) rfl (Nat.le_of_ble_eq_true rfl) dX5_cone_6 (ws' := wMo T x al ke tr hi sn te u) rfl ?_
  refine g_if_ne hX 15 dX5_cone_9 (by decide) (fun c_9 => ?_) (fun c_9 => ?_)
  · skip
    refine g_aload_n hX dX5_cone_15 rfl 0 rfl ?_
    refine g_cV_V hX (n := 0) (As := []) (wc := wMo T x al ke tr hi sn te u) (w1 := wMo T x al ke tr hi sn te (F_X5_remember u)) (st := []) 0 rfl rfl (c_X5_remember (xL X) T (xB X) x al ke tr hi sn te u) gX5_cone_X5_remember rfl rfl rfl ⟨Nat.le_of_ble_eq_true rfl, Nat.le_of_ble_eq_true rfl⟩ ⟨Nat.zero_le _, Nat.zero_le _⟩ ⟨by decide +kernel, by decide +kernel, by decide +kernel⟩ rfl [0, 1, 2, 3, 4, 5, 6] rfl rfl (by decide) rfl (Nat.le_of_ble_eq_true rfl) dX5_cone_16 (ws' := wMo T x al ke tr hi sn te (u.1, u.2.1, u.2.1, u.2.2.2.1, u.2.2.2.2.1, u.2.2.2.2.2.1, u.2.2.2.2.2.2)) rfl ?_
    refine g_aload_n hX dX5_cone_19 rfl 0 rfl ?_
    refine g_aload_n hX dX5_cone_20 rfl 0 rfl ?_
    refine g_iload_n hX dX5_cone_21 rfl 1 rfl ?_
    obtain ⟨z_22, hz_22⟩ : ∃ z : Int32 × (Nat → Int32), z = F_X5_doCone u.2.1 p1 := ⟨_, rfl⟩
    refine g_cV_I hX (n := 1) (As := [.int p1]) (wc := wMa T x al ([.ref ke, .ref tr, .ref hi, .int (u.1 0), .ref sn, .int (u.1 1), .ref te, .int (u.1 2), .int (u.1 3), .int (u.1 4), .int (u.1 5)]) u.2.1) (w1 := wMa T x al ([.ref ke, .ref tr, .ref hi, .int (u.1 0), .ref sn, .int (u.1 1), .ref te, .int (u.1 2), .int (u.1 3), .int (u.1 4), .int (u.1 5)]) z_22.2) (rv := z_22.1) (st := [.ref x]) 0 rfl rfl (by rw [hz_22]; exact (c_X5_doCone (xL X) T (xB X) x al ([.ref ke, .ref tr, .ref hi, .int (u.1 0), .ref sn, .int (u.1 1), .ref te, .int (u.1 2), .int (u.1 3), .int (u.1 4), .int (u.1 5)]) u.2.1 p1)) gX5_cone_X5_doCone rfl rfl rfl ⟨Nat.le_of_ble_eq_true rfl, Nat.le_of_ble_eq_true rfl⟩ ⟨Nat.zero_le _, Nat.zero_le _⟩ ⟨by decide +kernel, by decide +kernel, by decide +kernel⟩ rfl [0, 1] rfl rfl (by decide) rfl (Nat.le_of_ble_eq_true rfl) dX5_cone_22 (ws' := wMo T x al ke tr hi sn te (u.1, z_22.2, u.2.1, u.2.2.2.1, u.2.2.2.2.1, u.2.2.2.2.2.1, u.2.2.2.2.2.2)) rfl ?_
    obtain ⟨z_25, hz_25⟩ : ∃ z : Int32 × MV, z = F_X5_acted (u.1, z_22.2, u.2.1, u.2.2.2.1, u.2.2.2.2.1, u.2.2.2.2.2.1, u.2.2.2.2.2.2) z_22.1 := ⟨_, rfl⟩
    refine g_cV_I hX (n := 1) (As := [.int z_22.1]) (wc := wMo T x al ke tr hi sn te (u.1, z_22.2, u.2.1, u.2.2.2.1, u.2.2.2.2.1, u.2.2.2.2.2.1, u.2.2.2.2.2.2)) (w1 := wMo T x al ke tr hi sn te z_25.2) (rv := z_25.1) (st := []) 0 rfl rfl (by rw [hz_25]; exact (c_X5_acted (xL X) T (xB X) x al ke tr hi sn te (u.1, z_22.2, u.2.1, u.2.2.2.1, u.2.2.2.2.1, u.2.2.2.2.2.1, u.2.2.2.2.2.2) z_22.1 hh)) gX5_cone_X5_acted rfl rfl rfl ⟨Nat.le_of_ble_eq_true rfl, Nat.le_of_ble_eq_true rfl⟩ ⟨Nat.zero_le _, Nat.zero_le _⟩ ⟨by decide +kernel, by decide +kernel, by decide +kernel⟩ rfl [0, 1, 2, 3, 4, 5, 6] rfl rfl (by decide) rfl (Nat.le_of_ble_eq_true rfl) dX5_cone_25 (ws' := wMo T x al ke tr hi sn te z_25.2) rfl ?_
    have e9 : F_X5_cone u p1 = (z_25.1, z_25.2) := by simp only [F_X5_cone, ← hz_22, ← hz_25, eq_false c_9, if_true, if_false]
    rw [e9]
    exact g_iret hX dX5_cone_28 rfl rfl
  · skip
    refine g_bipush hX (v := (-2)) dX5_cone_12 (by decide) ?_
    have e9 : F_X5_cone u p1 = ((-2), u) := by simp only [F_X5_cone, eq_true c_9, if_true, if_false]
    rw [e9]
    exact g_iret hX dX5_cone_14 rfl rfl
/-! X5_doff -/
def rmX5_doff : Room := { frames := 2, cells := 0, slots := 0, locals := 42 }
theorem k_X5_doff_0 : Cond.fieldLink RX5 7 RX5 (TX5 0).2.1 (TX5 0).2.2.1 ∈ wsX5_doff := List.mem_of_getElem? (i := 1) rfl
theorem h_X5_doff_X5 : ∀ w ∈ u_ws RX5 TX5 12, w ∈ wsX5_doff := fun w h => List.mem_cons_of_mem _ (List.mem_append_right _ h)
theorem k_X5_doff_1 : Cond.constant RX5 39 (1048576) ∈ wsX5_doff := List.mem_of_getElem? (i := 2) rfl
def K_X5_doff_18 : Nat → MV → Nat → Int32 → Int32 × MV
  | 0, u, j, e => (0, u)
  | n + 1, u, j, e => (if 12 ≤ (nI j) then (let z_96 := F_X5_acted (u.1, (upd (upd (upd (upd (upd u.2.1 29 0) 32 0) 33 0) 34 (-5)) 36 ((u.2.1 36) + 1048576)), u.2.2.1, u.2.2.2.1, u.2.2.2.2.1, u.2.2.2.2.2.1, u.2.2.2.2.2.2) e
  (z_96.1, z_96.2)) else K_X5_doff_18 n (u.1, (upd (upd u.2.1 j 0) (12 + j) 0), u.2.2.1, u.2.2.2.1, u.2.2.2.2.1, u.2.2.2.2.2.1, u.2.2.2.2.2.2) (j + 1) e)
def F_X5_doff (u : MV) : Int32 × MV :=
  (if (F_X5_wraps u.2.1) = 0 then ((-5), u) else K_X5_doff_18 13 (u.1, u.2.1, u.2.1, u.2.2.2.1, u.2.2.2.2.1, u.2.2.2.2.2.1, u.2.2.2.2.2.2) 0 (F_X5_wraps u.2.1))
set_option maxHeartbeats 4000000 in
set_option maxRecDepth 100000 in
theorem k_X5_doff_18 {T : TT} {X : CX} (hX : Fit T X (yX5_doff).cls 3 wsX5_doff cX5_doff (some .int) rmX5_doff) (x al ke tr hi sn te : Nat) : ∀ (n : Nat) (u : MV) (j : Nat) (e : Int32) (hn : j + n = 13) (hj : j ≤ 12) (hh : ∃ m : Nat, m ≤ 4 ∧ u.1 0 = nI m), G T X (QI T X 0 0 ((K_X5_doff_18 n u j e).1) (wMo T x al ke tr hi sn te ((K_X5_doff_18 n u j e).2))) 0 0 (wMo T x al ke tr hi sn te u) [(2, .int (nI j)), (1, .int e), (0, .ref x)] 18 [] := by
  intro n
  induction n with
  | zero =>
    intro u j e hn hj hh
    exact absurd hn (by omega)
  | succ n ih =>
    intro u j e hn hj hh
    refine g_iload_n hX dX5_doff_18 rfl 0 rfl ?_
    refine g_bipush hX (v := 12) dX5_doff_19 (by decide) ?_
    refine g_icmp_ge hX 49 dX5_doff_21 (by decide) (fun c_21 => ?_) (fun c_21 => ?_)
    · skip
      refine g_aload_n hX dX5_doff_49 rfl 2 rfl ?_
      refine g_get hX 5 h_X5_doff_X5 0 rfl rfl 0 (by decide) k_X5_doff_0 rfl (v := .ref al) rfl dX5_doff_50 ?_
      refine g_bipush hX (v := 29) dX5_doff_53 (by decide) ?_
      refine g_iconst hX (v := 0) dX5_doff_55 (by decide) ?_
      refine g_iast hX 1 rfl (vin_c (by decide)) dX5_doff_56 (ws' := wMo T x al ke tr hi sn te (u.1, (upd u.2.1 29 0), u.2.2.1, u.2.2.2.1, u.2.2.2.2.1, u.2.2.2.2.2.1, u.2.2.2.2.2.2)) (by rw [show Int32.toNatClampNeg 29 = 29 from (show Int32.toNatClampNeg 29 = 29 from by decide)] <;> rfl) ?_
      refine g_aload_n hX dX5_doff_57 rfl 2 rfl ?_
      refine g_get hX 5 h_X5_doff_X5 0 rfl rfl 0 (by decide) k_X5_doff_0 rfl (v := .ref al) rfl dX5_doff_58 ?_
      refine g_bipush hX (v := 32) dX5_doff_61 (by decide) ?_
      refine g_iconst hX (v := 0) dX5_doff_63 (by decide) ?_
      refine g_iast hX 1 rfl (vin_c (by decide)) dX5_doff_64 (ws' := wMo T x al ke tr hi sn te (u.1, (upd (upd u.2.1 29 0) 32 0), u.2.2.1, u.2.2.2.1, u.2.2.2.2.1, u.2.2.2.2.2.1, u.2.2.2.2.2.2)) (by rw [show Int32.toNatClampNeg 32 = 32 from (show Int32.toNatClampNeg 32 = 32 from by decide)] <;> rfl) ?_
      refine g_aload_n hX dX5_doff_65 rfl 2 rfl ?_
      refine g_get hX 5 h_X5_doff_X5 0 rfl rfl 0 (by decide) k_X5_doff_0 rfl (v := .ref al) rfl dX5_doff_66 ?_
      refine g_bipush hX (v := 33) dX5_doff_69 (by decide) ?_
      refine g_iconst hX (v := 0) dX5_doff_71 (by decide) ?_
      refine g_iast hX 1 rfl (vin_c (by decide)) dX5_doff_72 (ws' := wMo T x al ke tr hi sn te (u.1, (upd (upd (upd u.2.1 29 0) 32 0) 33 0), u.2.2.1, u.2.2.2.1, u.2.2.2.2.1, u.2.2.2.2.2.1, u.2.2.2.2.2.2)) (by rw [show Int32.toNatClampNeg 33 = 33 from (show Int32.toNatClampNeg 33 = 33 from by decide)] <;> rfl) ?_
      refine g_aload_n hX dX5_doff_73 rfl 2 rfl ?_
      refine g_get hX 5 h_X5_doff_X5 0 rfl rfl 0 (by decide) k_X5_doff_0 rfl (v := .ref al) rfl dX5_doff_74 ?_
      refine g_bipush hX (v := 34) dX5_doff_77 (by decide) ?_
      refine g_bipush hX (v := (-5)) dX5_doff_79 (by decide) ?_
      refine g_iast hX 1 rfl (vin_c (by decide)) dX5_doff_81 (ws' := wMo T x al ke tr hi sn te (u.1, (upd (upd (upd (upd u.2.1 29 0) 32 0) 33 0) 34 (-5)), u.2.2.1, u.2.2.2.1, u.2.2.2.2.1, u.2.2.2.2.2.1, u.2.2.2.2.2.2)) (by rw [show Int32.toNatClampNeg 34 = 34 from (show Int32.toNatClampNeg 34 = 34 from by decide)] <;> rfl) ?_
      refine g_aload_n hX dX5_doff_82 rfl 2 rfl ?_
      refine g_get hX 5 h_X5_doff_X5 0 rfl rfl 0 (by decide) k_X5_doff_0 rfl (v := .ref al) rfl dX5_doff_83 ?_
      refine g_bipush hX (v := 36) dX5_doff_86 (by decide) ?_
      refine g_dup2 hX dX5_doff_88 rfl rfl ?_
      refine g_iald hX (f := (upd (upd (upd (upd u.2.1 29 0) 32 0) 33 0) 34 (-5))) 1 rfl (vin_c (by decide)) (v := (u.2.1 36)) (congrArg (upd (upd (upd (upd u.2.1 29 0) 32 0) 33 0) 34 (-5)) (show Int32.toNatClampNeg 36 = 36 from by decide)) dX5_doff_89 ?_
      refine g_ldc hX (v := 1048576) k_X5_doff_1 dX5_doff_90 ?_
      refine g_iadd hX dX5_doff_92 ?_
      refine g_iast hX 1 rfl (vin_c (by decide)) dX5_doff_93 (ws' := wMo T x al ke tr hi sn te (u.1, (upd (upd (upd (upd (upd u.2.1 29 0) 32 0) 33 0) 34 (-5)) 36 ((u.2.1 36) + 1048576)), u.2.2.1, u.2.2.2.1, u.2.2.2.2.1, u.2.2.2.2.2.1, u.2.2.2.2.2.2)) (by rw [show Int32.toNatClampNeg 36 = 36 from (show Int32.toNatClampNeg 36 = 36 from by decide)] <;> rfl) ?_
      refine g_aload_n hX dX5_doff_94 rfl 2 rfl ?_
      refine g_iload_n hX dX5_doff_95 rfl 1 rfl ?_
      obtain ⟨z_96, hz_96⟩ : ∃ z : Int32 × MV, z = F_X5_acted (u.1, (upd (upd (upd (upd (upd u.2.1 29 0) 32 0) 33 0) 34 (-5)) 36 ((u.2.1 36) + 1048576)), u.2.2.1, u.2.2.2.1, u.2.2.2.2.1, u.2.2.2.2.2.1, u.2.2.2.2.2.2) e := ⟨_, rfl⟩
      refine g_cV_I hX (n := 1) (As := [.int e]) (wc := wMo T x al ke tr hi sn te (u.1, (upd (upd (upd (upd (upd u.2.1 29 0) 32 0) 33 0) 34 (-5)) 36 ((u.2.1 36) + 1048576)), u.2.2.1, u.2.2.2.1, u.2.2.2.2.1, u.2.2.2.2.2.1, u.2.2.2.2.2.2)) (w1 := wMo T x al ke tr hi sn te z_96.2) (rv := z_96.1) (st := []) 0 rfl rfl (by rw [hz_96]; exact (c_X5_acted (xL X) T (xB X) x al ke tr hi sn te (u.1, (upd (upd (upd (upd (upd u.2.1 29 0) 32 0) 33 0) 34 (-5)) 36 ((u.2.1 36) + 1048576)), u.2.2.1, u.2.2.2.1, u.2.2.2.2.1, u.2.2.2.2.2.1, u.2.2.2.2.2.2) e hh)) gX5_doff_X5_acted rfl rfl rfl ⟨Nat.le_of_ble_eq_true rfl, Nat.le_of_ble_eq_true rfl⟩ ⟨Nat.zero_le _, Nat.zero_le _⟩ ⟨by decide +kernel, by decide +kernel, by decide +kernel⟩ rfl [0, 1, 2, 3, 4, 5, 6] rfl rfl (by decide) rfl (Nat.le_of_ble_eq_true rfl) dX5_doff_96 (ws' := wMo T x al ke tr hi sn te z_96.2) rfl ?_
      have e9 : K_X5_doff_18 (n + 1) u j e = (z_96.1, z_96.2) := by simp only [K_X5_doff_18, ← hz_96, eq_true c_21, if_true, if_false]
      rw [e9]
      exact g_iret hX dX5_doff_99 rfl rfl
    · skip
      have hlt_21 : j < 12 := nlt_of c_21 (by decide) (by omega)
      refine g_aload_n hX dX5_doff_24 rfl 2 rfl ?_
      refine g_get hX 5 h_X5_doff_X5 0 rfl rfl 0 (by decide) k_X5_doff_0 rfl (v := .ref al) rfl dX5_doff_25 ?_
      refine g_iconst hX (v := 0) dX5_doff_28 (by decide) ?_
      refine g_iload_n hX dX5_doff_29 rfl 0 rfl ?_
      refine g_iadd hX dX5_doff_30 ?_
      refine g_iconst hX (v := 0) dX5_doff_31 (by decide) ?_
      refine g_iast hX 1 rfl (vinc 0 j 37 (by omega) (by omega)) dX5_doff_32 (ws' := wMo T x al ke tr hi sn te (u.1, (upd u.2.1 j 0), u.2.2.1, u.2.2.2.1, u.2.2.2.2.1, u.2.2.2.2.2.1, u.2.2.2.2.2.2)) (by rw [show Int32.toNatClampNeg (0 + (nI j)) = j from (ix0 j (by omega))] <;> rfl) ?_
      refine g_aload_n hX dX5_doff_33 rfl 2 rfl ?_
      refine g_get hX 5 h_X5_doff_X5 0 rfl rfl 0 (by decide) k_X5_doff_0 rfl (v := .ref al) rfl dX5_doff_34 ?_
      refine g_bipush hX (v := 12) dX5_doff_37 (by decide) ?_
      refine g_iload_n hX dX5_doff_39 rfl 0 rfl ?_
      refine g_iadd hX dX5_doff_40 ?_
      refine g_iconst hX (v := 0) dX5_doff_41 (by decide) ?_
      refine g_iast hX 1 rfl (vinc 12 j 37 (by omega) (by omega)) dX5_doff_42 (ws' := wMo T x al ke tr hi sn te (u.1, (upd (upd u.2.1 j 0) (12 + j) 0), u.2.2.1, u.2.2.2.1, u.2.2.2.2.1, u.2.2.2.2.2.1, u.2.2.2.2.2.2)) (by rw [show Int32.toNatClampNeg (12 + (nI j)) = (12 + j) from (ixc 12 j (by omega))] <;> rfl) ?_
      refine g_iinc hX (lv' := [(2, .int (nI (j + 1))), (1, .int e), (0, .ref x)]) (v := (nI (j + 1))) 0 dX5_doff_43 rfl (nI_1 _) (by decide) rfl ?_
      refine g_goto hX 18 dX5_doff_46 (by decide) ?_
      have e9 : K_X5_doff_18 (n + 1) u j e = K_X5_doff_18 n (u.1, (upd (upd u.2.1 j 0) (12 + j) 0), u.2.2.1, u.2.2.2.1, u.2.2.2.2.1, u.2.2.2.2.2.1, u.2.2.2.2.2.2) (j + 1) e := by simp only [K_X5_doff_18, eq_false c_21, if_true, if_false]
      rw [e9]
      refine g_lv (lv' := [(2, .int (nI (j + 1))), (1, .int e), (0, .ref x)]) [0, 1, 2] rfl ?_
      exact ih (u.1, (upd (upd u.2.1 j 0) (12 + j) 0), u.2.2.1, u.2.2.2.1, u.2.2.2.2.1, u.2.2.2.2.2.1, u.2.2.2.2.2.2) (j + 1) e (by omega) (by omega) hh
set_option maxHeartbeats 4000000 in
set_option maxRecDepth 100000 in
theorem c_X5_doff (l : Launch) (T : TT) (b0 : Nat) (x al ke tr hi sn te : Nat) (u : MV) (hh : ∃ m : Nat, m ≤ 4 ∧ u.1 0 = nI m) : ConI l T b0 yX5_doff wsX5_doff rmX5_doff [.ref x] (wMo T x al ke tr hi sn te u) ((F_X5_doff u).1) (wMo T x al ke tr hi sn te ((F_X5_doff u).2)) := by
  refine conI_of (cc := cX5_doff) (maxL := 3) (ret := (some .int)) (lv0 := [(0, .ref x)]) (by decide +kernel) rfl (Nat.le_of_ble_eq_true rfl) rfl (fun X hX => ?_)
  refine g_aload_n hX dX5_doff_0 rfl 0 rfl ?_
  refine g_cV_I hX (n := 0) (As := []) (wc := wMa T x al ([.ref ke, .ref tr, .ref hi, .int (u.1 0), .ref sn, .int (u.1 1), .ref te, .int (u.1 2), .int (u.1 3), .int (u.1 4), .int (u.1 5)]) u.2.1) (w1 := wMa T x al ([.ref ke, .ref tr, .ref hi, .int (u.1 0), .ref sn, .int (u.1 1), .ref te, .int (u.1 2), .int (u.1 3), .int (u.1 4), .int (u.1 5)]) u.2.1) (rv := (F_X5_wraps u.2.1)) (st := []) 0 rfl rfl (c_X5_wraps (xL X) T (xB X) x al ([.ref ke, .ref tr, .ref hi, .int (u.1 0), .ref sn, .int (u.1 1), .ref te, .int (u.1 2), .int (u.1 3), .int (u.1 4), .int (u.1 5)]) u.2.1) gX5_doff_X5_wraps rfl rfl rfl ⟨Nat.le_of_ble_eq_true rfl, Nat.le_of_ble_eq_true rfl⟩ ⟨Nat.zero_le _, Nat.zero_le _⟩ ⟨by decide +kernel, by decide +kernel, by decide +kernel⟩ rfl [0, 1] rfl rfl (by decide) rfl (Nat.le_of_ble_eq_true rfl) dX5_doff_1 (ws' := wMo T x al ke tr hi sn te u) rfl ?_
  refine g_istore_n hX (lv' := [(1, .int (F_X5_wraps u.2.1)), (0, .ref x)]) dX5_doff_4 rfl (by decide) rfl ?_
  refine g_iload_n hX dX5_doff_5 rfl 0 rfl ?_
  refine g_if_ne hX 12 dX5_doff_6 (by decide) (fun c_6 => ?_) (fun c_6 => ?_)
  · skip
    refine g_aload_n hX dX5_doff_12 rfl 1 rfl ?_
    refine g_cV_V hX (n := 0) (As := []) (wc := wMo T x al ke tr hi sn te u) (w1 := wMo T x al ke tr hi sn te (F_X5_remember u)) (st := []) 0 rfl rfl (c_X5_remember (xL X) T (xB X) x al ke tr hi sn te u) gX5_doff_X5_remember rfl rfl rfl ⟨Nat.le_of_ble_eq_true rfl, Nat.le_of_ble_eq_true rfl⟩ ⟨Nat.zero_le _, Nat.zero_le _⟩ ⟨by decide +kernel, by decide +kernel, by decide +kernel⟩ rfl [0, 1, 2, 3, 4, 5, 6] rfl rfl (by decide) rfl (Nat.le_of_ble_eq_true rfl) dX5_doff_13 (ws' := wMo T x al ke tr hi sn te (u.1, u.2.1, u.2.1, u.2.2.2.1, u.2.2.2.2.1, u.2.2.2.2.2.1, u.2.2.2.2.2.2)) rfl ?_
    refine g_iconst hX (v := 0) dX5_doff_16 (by decide) ?_
    refine g_istore_n hX (lv' := [(2, .int 0), (1, .int (F_X5_wraps u.2.1)), (0, .ref x)]) dX5_doff_17 rfl (by decide) rfl ?_
    have e9 : F_X5_doff u = K_X5_doff_18 13 (u.1, u.2.1, u.2.1, u.2.2.2.1, u.2.2.2.2.1, u.2.2.2.2.2.1, u.2.2.2.2.2.2) 0 (F_X5_wraps u.2.1) := by simp only [F_X5_doff, eq_false c_6, if_true, if_false]
    rw [e9]
    refine g_lv (lv' := [(2, .int (nI 0)), (1, .int (F_X5_wraps u.2.1)), (0, .ref x)]) [0, 1, 2] rfl ?_
    exact k_X5_doff_18 hX x al ke tr hi sn te 13 (u.1, u.2.1, u.2.1, u.2.2.2.1, u.2.2.2.2.1, u.2.2.2.2.2.1, u.2.2.2.2.2.2) 0 (F_X5_wraps u.2.1) (by omega) (by omega) hh
  · skip
    refine g_bipush hX (v := (-5)) dX5_doff_9 (by decide) ?_
    have e9 : F_X5_doff u = ((-5), u) := by simp only [F_X5_doff, eq_true c_6, if_true, if_false]
    rw [e9]
    exact g_iret hX dX5_doff_11 rfl rfl
/-! X5_undo -/
def rmX5_undo : Room := { frames := 0, cells := 0, slots := 0, locals := 0 }
theorem k_X5_undo_0 : Cond.fieldLink RX5 36 RX5 (TX5 4).2.1 (TX5 4).2.2.1 ∈ wsX5_undo := List.mem_of_getElem? (i := 1) rfl
theorem h_X5_undo_X5 : ∀ w ∈ u_ws RX5 TX5 12, w ∈ wsX5_undo := fun w h => List.mem_cons_of_mem _ (List.mem_append_right _ h)
theorem k_X5_undo_1 : Cond.fieldLink RX5 7 RX5 (TX5 0).2.1 (TX5 0).2.2.1 ∈ wsX5_undo := List.mem_of_getElem? (i := 2) rfl
theorem k_X5_undo_2 : Cond.fieldLink RX5 19 RX5 (TX5 3).2.1 (TX5 3).2.2.1 ∈ wsX5_undo := List.mem_of_getElem? (i := 3) rfl
def K_X5_undo_22 : Nat → MV → Nat → Int32 × MV
  | 0, u, j => (0, u)
  | n + 1, u, j => (if 37 ≤ (nI j) then ((u.1 0), u) else K_X5_undo_22 n (u.1, (upd u.2.1 j (u.2.2.2.2.1 (Int32.toNatClampNeg ((37 * (u.1 0)) + (nI j))))), u.2.2.1, u.2.2.2.1, u.2.2.2.2.1, u.2.2.2.2.2.1, u.2.2.2.2.2.2) (j + 1))
def F_X5_undo (u : MV) : Int32 × MV :=
  (if (u.1 0) = 0 then ((-5), u) else K_X5_undo_22 38 (upd u.1 0 ((u.1 0) - 1), u.2.1, u.2.2.1, u.2.2.2.1, u.2.2.2.2.1, u.2.2.2.2.2.1, u.2.2.2.2.2.2) 0)
set_option maxHeartbeats 4000000 in
set_option maxRecDepth 100000 in
theorem k_X5_undo_22 {T : TT} {X : CX} (hX : Fit T X (yX5_undo).cls 2 wsX5_undo cX5_undo (some .int) rmX5_undo) (x al ke tr hi sn te : Nat) : ∀ (n : Nat) (u : MV) (j : Nat) (hn : j + n = 38) (hj : j ≤ 37) (hm : ∃ m : Nat, m ≤ 3 ∧ u.1 0 = nI m), G T X (QI T X 0 0 ((K_X5_undo_22 n u j).1) (wMo T x al ke tr hi sn te ((K_X5_undo_22 n u j).2))) 0 0 (wMo T x al ke tr hi sn te u) [(1, .int (nI j)), (0, .ref x)] 22 [] := by
  intro n
  induction n with
  | zero =>
    intro u j hn hj hm
    exact absurd hn (by omega)
  | succ n ih =>
    intro u j hn hj hm
    obtain ⟨m, hm3, hme⟩ := hm
    refine g_iload_n hX dX5_undo_22 rfl 0 rfl ?_
    refine g_bipush hX (v := 37) dX5_undo_23 (by decide) ?_
    refine g_icmp_ge hX 54 dX5_undo_25 (by decide) (fun c_25 => ?_) (fun c_25 => ?_)
    · skip
      refine g_aload_n hX dX5_undo_54 rfl 1 rfl ?_
      refine g_get hX 5 h_X5_undo_X5 0 rfl rfl 4 (by decide) k_X5_undo_0 rfl (v := .int (u.1 0)) rfl dX5_undo_55 ?_
      have e9 : K_X5_undo_22 (n + 1) u j = ((u.1 0), u) := by simp only [K_X5_undo_22, eq_true c_25, if_true, if_false]
      rw [e9]
      exact g_iret hX dX5_undo_58 rfl rfl
    · skip
      have hlt_25 : j < 37 := nlt_of c_25 (by decide) (by omega)
      refine g_aload_n hX dX5_undo_28 rfl 1 rfl ?_
      refine g_get hX 5 h_X5_undo_X5 0 rfl rfl 0 (by decide) k_X5_undo_1 rfl (v := .ref al) rfl dX5_undo_29 ?_
      refine g_iload_n hX dX5_undo_32 rfl 0 rfl ?_
      refine g_aload_n hX dX5_undo_33 rfl 1 rfl ?_
      refine g_get hX 5 h_X5_undo_X5 0 rfl rfl 3 (by decide) k_X5_undo_2 rfl (v := .ref hi) rfl dX5_undo_34 ?_
      refine g_bipush hX (v := 37) dX5_undo_37 (by decide) ?_
      refine g_aload_n hX dX5_undo_39 rfl 1 rfl ?_
      refine g_get hX 5 h_X5_undo_X5 0 rfl rfl 4 (by decide) k_X5_undo_0 rfl (v := .int (u.1 0)) rfl dX5_undo_40 ?_
      refine g_imul hX dX5_undo_43 ?_
      refine g_iload_n hX dX5_undo_44 rfl 0 rfl ?_
      refine g_iadd hX dX5_undo_45 ?_
      refine g_iald hX (f := u.2.2.2.2.1) 4 rfl (vin_hist hme hm3 hlt_25) (v := (u.2.2.2.2.1 (Int32.toNatClampNeg ((37 * (u.1 0)) + (nI j))))) (congrArg u.2.2.2.2.1 rfl) dX5_undo_46 ?_
      refine g_iast hX 1 rfl (vp_in_nI (by omega) (by omega)) dX5_undo_47 (ws' := wMo T x al ke tr hi sn te (u.1, (upd u.2.1 j (u.2.2.2.2.1 (Int32.toNatClampNeg ((37 * (u.1 0)) + (nI j))))), u.2.2.1, u.2.2.2.1, u.2.2.2.2.1, u.2.2.2.2.2.1, u.2.2.2.2.2.2)) (by rw [show Int32.toNatClampNeg (nI j) = j from (nI_clamp (by omega))] <;> rfl) ?_
      refine g_iinc hX (lv' := [(1, .int (nI (j + 1))), (0, .ref x)]) (v := (nI (j + 1))) 0 dX5_undo_48 rfl (nI_1 _) (by decide) rfl ?_
      refine g_goto hX 22 dX5_undo_51 (by decide) ?_
      have e9 : K_X5_undo_22 (n + 1) u j = K_X5_undo_22 n (u.1, (upd u.2.1 j (u.2.2.2.2.1 (Int32.toNatClampNeg ((37 * (u.1 0)) + (nI j))))), u.2.2.1, u.2.2.2.1, u.2.2.2.2.1, u.2.2.2.2.2.1, u.2.2.2.2.2.2) (j + 1) := by simp only [K_X5_undo_22, eq_false c_25, if_true, if_false]
      rw [e9]
      refine g_lv (lv' := [(1, .int (nI (j + 1))), (0, .ref x)]) [0, 1] rfl ?_
      exact ih (u.1, (upd u.2.1 j (u.2.2.2.2.1 (Int32.toNatClampNeg ((37 * (u.1 0)) + (nI j))))), u.2.2.1, u.2.2.2.1, u.2.2.2.2.1, u.2.2.2.2.2.1, u.2.2.2.2.2.2) (j + 1) (by omega) (by omega) ⟨m, hm3, hme⟩
set_option maxHeartbeats 4000000 in
set_option maxRecDepth 100000 in
theorem c_X5_undo (l : Launch) (T : TT) (b0 : Nat) (x al ke tr hi sn te : Nat) (u : MV) (hh : ∃ m : Nat, m ≤ 4 ∧ u.1 0 = nI m) : ConI l T b0 yX5_undo wsX5_undo rmX5_undo [.ref x] (wMo T x al ke tr hi sn te u) ((F_X5_undo u).1) (wMo T x al ke tr hi sn te ((F_X5_undo u).2)) := by
  refine conI_of (cc := cX5_undo) (maxL := 2) (ret := (some .int)) (lv0 := [(0, .ref x)]) (by decide +kernel) rfl (Nat.le_of_ble_eq_true rfl) rfl (fun X hX => ?_)
  refine g_aload_n hX dX5_undo_0 rfl 0 rfl ?_
  refine g_get hX 5 h_X5_undo_X5 0 rfl rfl 4 (by decide) k_X5_undo_0 rfl (v := .int (u.1 0)) rfl dX5_undo_1 ?_
  refine g_if_ne hX 10 dX5_undo_4 (by decide) (fun c_4 => ?_) (fun c_4 => ?_)
  · skip
    refine g_aload_n hX dX5_undo_10 rfl 0 rfl ?_
    refine g_dup hX dX5_undo_11 rfl ?_
    refine g_get hX 5 h_X5_undo_X5 0 rfl rfl 4 (by decide) k_X5_undo_0 rfl (v := .int (u.1 0)) rfl dX5_undo_12 ?_
    refine g_iconst hX (v := 1) dX5_undo_15 (by decide) ?_
    refine g_isub hX dX5_undo_16 ?_
    refine g_put hX 5 h_X5_undo_X5 0 rfl rfl 4 (by decide) tyX5 tyX5_ok nmX5 k_X5_undo_0 rfl rfl rfl rfl rfl (Nat.le_of_ble_eq_true rfl) dX5_undo_17 (ws' := wMo T x al ke tr hi sn te (upd u.1 0 ((u.1 0) - 1), u.2.1, u.2.2.1, u.2.2.2.1, u.2.2.2.2.1, u.2.2.2.2.2.1, u.2.2.2.2.2.2)) rfl ?_
    refine g_iconst hX (v := 0) dX5_undo_20 (by decide) ?_
    refine g_istore_n hX (lv' := [(1, .int 0), (0, .ref x)]) dX5_undo_21 rfl (by decide) rfl ?_
    have e9 : F_X5_undo u = K_X5_undo_22 38 (upd u.1 0 ((u.1 0) - 1), u.2.1, u.2.2.1, u.2.2.2.1, u.2.2.2.2.1, u.2.2.2.2.2.1, u.2.2.2.2.2.2) 0 := by simp only [F_X5_undo, eq_false c_4, if_true, if_false]
    rw [e9]
    refine g_lv (lv' := [(1, .int (nI 0)), (0, .ref x)]) [0, 1] rfl ?_
    exact k_X5_undo_22 hX x al ke tr hi sn te 38 (upd u.1 0 ((u.1 0) - 1), u.2.1, u.2.2.1, u.2.2.2.1, u.2.2.2.2.1, u.2.2.2.2.2.1, u.2.2.2.2.2.2) 0 (by omega) (by omega) (hist_dec hh c_4)
  · skip
    refine g_bipush hX (v := (-5)) dX5_undo_7 (by decide) ?_
    have e9 : F_X5_undo u = ((-5), u) := by simp only [F_X5_undo, eq_true c_4, if_true, if_false]
    rw [e9]
    exact g_iret hX dX5_undo_9 rfl rfl
/-! X5_keep -/
def rmX5_keep : Room := { frames := 1, cells := 0, slots := 0, locals := 22 }
theorem k_X5_keep_0 : Cond.fieldLink RX5 7 RX5 (TX5 0).2.1 (TX5 0).2.2.1 ∈ wsX5_keep := List.mem_of_getElem? (i := 1) rfl
theorem h_X5_keep_X5 : ∀ w ∈ u_ws RX5 TX5 12, w ∈ wsX5_keep := fun w h => List.mem_cons_of_mem _ (List.mem_append_right _ h)
theorem k_X5_keep_1 : Cond.fieldLink RX5 22 RX5 (TX5 5).2.1 (TX5 5).2.2.1 ∈ wsX5_keep := List.mem_of_getElem? (i := 2) rfl
theorem k_X5_keep_2 : Cond.fieldLink RX5 144 RX5 (TX5 6).2.1 (TX5 6).2.2.1 ∈ wsX5_keep := List.mem_of_getElem? (i := 3) rfl
def F_X5_keep (u : MV) : Int32 × MV :=
  ((F_X5_wraps u.2.1), (upd u.1 1 1, u.2.1, u.2.2.1, u.2.2.2.1, u.2.2.2.2.1, u.2.1, u.2.2.2.2.2.2))
set_option maxHeartbeats 4000000 in
set_option maxRecDepth 100000 in
theorem c_X5_keep (l : Launch) (T : TT) (b0 : Nat) (x al ke tr hi sn te : Nat) (u : MV)  : ConI l T b0 yX5_keep wsX5_keep rmX5_keep [.ref x] (wMo T x al ke tr hi sn te u) ((F_X5_keep u).1) (wMo T x al ke tr hi sn te ((F_X5_keep u).2)) := by
  refine conI_of (cc := cX5_keep) (maxL := 1) (ret := (some .int)) (lv0 := [(0, .ref x)]) (by decide +kernel) rfl (Nat.le_of_ble_eq_true rfl) rfl (fun X hX => ?_)
  refine g_aload_n hX dX5_keep_0 rfl 0 rfl ?_
  refine g_get hX 5 h_X5_keep_X5 0 rfl rfl 0 (by decide) k_X5_keep_0 rfl (v := .ref al) rfl dX5_keep_1 ?_
  refine g_aload_n hX dX5_keep_4 rfl 0 rfl ?_
  refine g_get hX 5 h_X5_keep_X5 0 rfl rfl 5 (by decide) k_X5_keep_1 rfl (v := .ref sn) rfl dX5_keep_5 ?_
  refine g_cS_V hX (n := 2) (As := [.ref al, .ref sn]) (wc := wAr T al 37 u.2.1 ++ wAr T sn 37 u.2.2.2.2.2.1) (w1 := wAr T al 37 u.2.1 ++ wAr T sn 37 u.2.1) (st := []) (c_X5_copy (xL X) T (xB X) al sn u.2.1 u.2.2.2.2.2.1) gX5_keep_X5_copy rfl rfl rfl ⟨Nat.le_of_ble_eq_true rfl, Nat.le_of_ble_eq_true rfl⟩ ⟨Nat.zero_le _, Nat.zero_le _⟩ ⟨by decide +kernel, by decide +kernel, by decide +kernel⟩ rfl [1, 5] rfl rfl (by decide) rfl (Nat.le_of_ble_eq_true rfl) dX5_keep_8 (ws' := wMo T x al ke tr hi sn te (u.1, u.2.1, u.2.2.1, u.2.2.2.1, u.2.2.2.2.1, u.2.1, u.2.2.2.2.2.2)) rfl ?_
  refine g_aload_n hX dX5_keep_11 rfl 0 rfl ?_
  refine g_iconst hX (v := 1) dX5_keep_12 (by decide) ?_
  refine g_put hX 5 h_X5_keep_X5 0 rfl rfl 6 (by decide) tyX5 tyX5_ok nmX5 k_X5_keep_2 rfl rfl rfl rfl rfl (Nat.le_of_ble_eq_true rfl) dX5_keep_13 (ws' := wMo T x al ke tr hi sn te (upd u.1 1 1, u.2.1, u.2.2.1, u.2.2.2.1, u.2.2.2.2.1, u.2.1, u.2.2.2.2.2.2)) rfl ?_
  refine g_aload_n hX dX5_keep_16 rfl 0 rfl ?_
  refine g_cV_I hX (n := 0) (As := []) (wc := wMa T x al ([.ref ke, .ref tr, .ref hi, .int (u.1 0), .ref sn, .int 1, .ref te, .int (u.1 2), .int (u.1 3), .int (u.1 4), .int (u.1 5)]) u.2.1) (w1 := wMa T x al ([.ref ke, .ref tr, .ref hi, .int (u.1 0), .ref sn, .int 1, .ref te, .int (u.1 2), .int (u.1 3), .int (u.1 4), .int (u.1 5)]) u.2.1) (rv := (F_X5_wraps u.2.1)) (st := []) 0 rfl rfl (c_X5_wraps (xL X) T (xB X) x al ([.ref ke, .ref tr, .ref hi, .int (u.1 0), .ref sn, .int 1, .ref te, .int (u.1 2), .int (u.1 3), .int (u.1 4), .int (u.1 5)]) u.2.1) gX5_keep_X5_wraps rfl rfl rfl ⟨Nat.le_of_ble_eq_true rfl, Nat.le_of_ble_eq_true rfl⟩ ⟨Nat.zero_le _, Nat.zero_le _⟩ ⟨by decide +kernel, by decide +kernel, by decide +kernel⟩ rfl [0, 1] rfl rfl (by decide) rfl (Nat.le_of_ble_eq_true rfl) dX5_keep_17 (ws' := wMo T x al ke tr hi sn te (upd u.1 1 1, u.2.1, u.2.2.1, u.2.2.2.1, u.2.2.2.2.1, u.2.1, u.2.2.2.2.2.2)) rfl ?_
  have e9 : F_X5_keep u = ((F_X5_wraps u.2.1), (upd u.1 1 1, u.2.1, u.2.2.1, u.2.2.2.1, u.2.2.2.2.1, u.2.1, u.2.2.2.2.2.2)) := by simp only [F_X5_keep, if_true, if_false]
  rw [e9]
  exact g_iret hX dX5_keep_20 rfl rfl
/-! X5_restore -/
def rmX5_restore : Room := { frames := 2, cells := 0, slots := 0, locals := 42 }
theorem k_X5_restore_0 : Cond.fieldLink RX5 144 RX5 (TX5 6).2.1 (TX5 6).2.2.1 ∈ wsX5_restore := List.mem_of_getElem? (i := 1) rfl
theorem h_X5_restore_X5 : ∀ w ∈ u_ws RX5 TX5 12, w ∈ wsX5_restore := fun w h => List.mem_cons_of_mem _ (List.mem_append_right _ h)
theorem k_X5_restore_1 : Cond.fieldLink RX5 22 RX5 (TX5 5).2.1 (TX5 5).2.2.1 ∈ wsX5_restore := List.mem_of_getElem? (i := 2) rfl
theorem k_X5_restore_2 : Cond.fieldLink RX5 7 RX5 (TX5 0).2.1 (TX5 0).2.2.1 ∈ wsX5_restore := List.mem_of_getElem? (i := 3) rfl
def F_X5_restore (u : MV) : Int32 × MV :=
  (if (u.1 1) = 0 then ((-5), u) else (let z_30 := F_X5_acted (u.1, u.2.2.2.2.2.1, u.2.1, u.2.2.2.1, u.2.2.2.2.1, u.2.2.2.2.2.1, u.2.2.2.2.2.2) (F_X5_wraps u.2.2.2.2.2.1)
  (z_30.1, z_30.2)))
set_option maxHeartbeats 4000000 in
set_option maxRecDepth 100000 in
theorem c_X5_restore (l : Launch) (T : TT) (b0 : Nat) (x al ke tr hi sn te : Nat) (u : MV) (hh : ∃ m : Nat, m ≤ 4 ∧ u.1 0 = nI m) : ConI l T b0 yX5_restore wsX5_restore rmX5_restore [.ref x] (wMo T x al ke tr hi sn te u) ((F_X5_restore u).1) (wMo T x al ke tr hi sn te ((F_X5_restore u).2)) := by
  refine conI_of (cc := cX5_restore) (maxL := 1) (ret := (some .int)) (lv0 := [(0, .ref x)]) (by decide +kernel) rfl (Nat.le_of_ble_eq_true rfl) rfl (fun X hX => ?_)
  refine g_aload_n hX dX5_restore_0 rfl 0 rfl ?_
  refine g_get hX 5 h_X5_restore_X5 0 rfl rfl 6 (by decide) k_X5_restore_0 rfl (v := .int (u.1 1)) rfl dX5_restore_1 ?_
  refine g_if_ne hX 10 dX5_restore_4 (by decide) (fun c_4 => ?_) (fun c_4 => ?_)
  · skip
    refine g_aload_n hX dX5_restore_10 rfl 0 rfl ?_
    refine g_cV_V hX (n := 0) (As := []) (wc := wMo T x al ke tr hi sn te u) (w1 := wMo T x al ke tr hi sn te (F_X5_remember u)) (st := []) 0 rfl rfl (c_X5_remember (xL X) T (xB X) x al ke tr hi sn te u) gX5_restore_X5_remember rfl rfl rfl ⟨Nat.le_of_ble_eq_true rfl, Nat.le_of_ble_eq_true rfl⟩ ⟨Nat.zero_le _, Nat.zero_le _⟩ ⟨by decide +kernel, by decide +kernel, by decide +kernel⟩ rfl [0, 1, 2, 3, 4, 5, 6] rfl rfl (by decide) rfl (Nat.le_of_ble_eq_true rfl) dX5_restore_11 (ws' := wMo T x al ke tr hi sn te (u.1, u.2.1, u.2.1, u.2.2.2.1, u.2.2.2.2.1, u.2.2.2.2.2.1, u.2.2.2.2.2.2)) rfl ?_
    refine g_aload_n hX dX5_restore_14 rfl 0 rfl ?_
    refine g_get hX 5 h_X5_restore_X5 0 rfl rfl 5 (by decide) k_X5_restore_1 rfl (v := .ref sn) rfl dX5_restore_15 ?_
    refine g_aload_n hX dX5_restore_18 rfl 0 rfl ?_
    refine g_get hX 5 h_X5_restore_X5 0 rfl rfl 0 (by decide) k_X5_restore_2 rfl (v := .ref al) rfl dX5_restore_19 ?_
    refine g_cS_V hX (n := 2) (As := [.ref sn, .ref al]) (wc := wAr T sn 37 u.2.2.2.2.2.1 ++ wAr T al 37 u.2.1) (w1 := wAr T sn 37 u.2.2.2.2.2.1 ++ wAr T al 37 u.2.2.2.2.2.1) (st := []) (c_X5_copy (xL X) T (xB X) sn al u.2.2.2.2.2.1 u.2.1) gX5_restore_X5_copy rfl rfl rfl ⟨Nat.le_of_ble_eq_true rfl, Nat.le_of_ble_eq_true rfl⟩ ⟨Nat.zero_le _, Nat.zero_le _⟩ ⟨by decide +kernel, by decide +kernel, by decide +kernel⟩ rfl [5, 1] rfl rfl (by decide) rfl (Nat.le_of_ble_eq_true rfl) dX5_restore_22 (ws' := wMo T x al ke tr hi sn te (u.1, u.2.2.2.2.2.1, u.2.1, u.2.2.2.1, u.2.2.2.2.1, u.2.2.2.2.2.1, u.2.2.2.2.2.2)) rfl ?_
    refine g_aload_n hX dX5_restore_25 rfl 0 rfl ?_
    refine g_aload_n hX dX5_restore_26 rfl 0 rfl ?_
    refine g_cV_I hX (n := 0) (As := []) (wc := wMa T x al ([.ref ke, .ref tr, .ref hi, .int (u.1 0), .ref sn, .int (u.1 1), .ref te, .int (u.1 2), .int (u.1 3), .int (u.1 4), .int (u.1 5)]) u.2.2.2.2.2.1) (w1 := wMa T x al ([.ref ke, .ref tr, .ref hi, .int (u.1 0), .ref sn, .int (u.1 1), .ref te, .int (u.1 2), .int (u.1 3), .int (u.1 4), .int (u.1 5)]) u.2.2.2.2.2.1) (rv := (F_X5_wraps u.2.2.2.2.2.1)) (st := [.ref x]) 0 rfl rfl (c_X5_wraps (xL X) T (xB X) x al ([.ref ke, .ref tr, .ref hi, .int (u.1 0), .ref sn, .int (u.1 1), .ref te, .int (u.1 2), .int (u.1 3), .int (u.1 4), .int (u.1 5)]) u.2.2.2.2.2.1) gX5_restore_X5_wraps rfl rfl rfl ⟨Nat.le_of_ble_eq_true rfl, Nat.le_of_ble_eq_true rfl⟩ ⟨Nat.zero_le _, Nat.zero_le _⟩ ⟨by decide +kernel, by decide +kernel, by decide +kernel⟩ rfl [0, 1] rfl rfl (by decide) rfl (Nat.le_of_ble_eq_true rfl) dX5_restore_27 (ws' := wMo T x al ke tr hi sn te (u.1, u.2.2.2.2.2.1, u.2.1, u.2.2.2.1, u.2.2.2.2.1, u.2.2.2.2.2.1, u.2.2.2.2.2.2)) rfl ?_
    obtain ⟨z_30, hz_30⟩ : ∃ z : Int32 × MV, z = F_X5_acted (u.1, u.2.2.2.2.2.1, u.2.1, u.2.2.2.1, u.2.2.2.2.1, u.2.2.2.2.2.1, u.2.2.2.2.2.2) (F_X5_wraps u.2.2.2.2.2.1) := ⟨_, rfl⟩
    refine g_cV_I hX (n := 1) (As := [.int (F_X5_wraps u.2.2.2.2.2.1)]) (wc := wMo T x al ke tr hi sn te (u.1, u.2.2.2.2.2.1, u.2.1, u.2.2.2.1, u.2.2.2.2.1, u.2.2.2.2.2.1, u.2.2.2.2.2.2)) (w1 := wMo T x al ke tr hi sn te z_30.2) (rv := z_30.1) (st := []) 0 rfl rfl (by rw [hz_30]; exact (c_X5_acted (xL X) T (xB X) x al ke tr hi sn te (u.1, u.2.2.2.2.2.1, u.2.1, u.2.2.2.1, u.2.2.2.2.1, u.2.2.2.2.2.1, u.2.2.2.2.2.2) (F_X5_wraps u.2.2.2.2.2.1) hh)) gX5_restore_X5_acted rfl rfl rfl ⟨Nat.le_of_ble_eq_true rfl, Nat.le_of_ble_eq_true rfl⟩ ⟨Nat.zero_le _, Nat.zero_le _⟩ ⟨by decide +kernel, by decide +kernel, by decide +kernel⟩ rfl [0, 1, 2, 3, 4, 5, 6] rfl rfl (by decide) rfl (Nat.le_of_ble_eq_true rfl) dX5_restore_30 (ws' := wMo T x al ke tr hi sn te z_30.2) rfl ?_
    have e9 : F_X5_restore u = (z_30.1, z_30.2) := by simp only [F_X5_restore, ← hz_30, eq_false c_4, if_true, if_false]
    rw [e9]
    exact g_iret hX dX5_restore_33 rfl rfl
  · skip
    refine g_bipush hX (v := (-5)) dX5_restore_7 (by decide) ?_
    have e9 : F_X5_restore u = ((-5), u) := by simp only [F_X5_restore, eq_true c_4, if_true, if_false]
    rw [e9]
    exact g_iret hX dX5_restore_9 rfl rfl
