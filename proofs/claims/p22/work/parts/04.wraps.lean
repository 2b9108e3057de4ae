/-! X4_oneIf -/
def rmX4_oneIf : Room := { frames := 0, cells := 0, slots := 0, locals := 0 }
def F_X4_oneIf (p1 : Int32) : Int32 :=
  (if p1 = 0 then 0 else 1)
set_option maxHeartbeats 4000000 in
set_option maxRecDepth 100000 in
theorem c_X4_oneIf (l : Launch) (T : TT) (b0 : Nat) (p1 : Int32)  : ConI l T b0 yX4_oneIf wsX4_oneIf rmX4_oneIf [.int p1] ([]) (F_X4_oneIf p1) ([]) := by
  refine conI_of (cc := cX4_oneIf) (maxL := 1) (ret := (some .int)) (lv0 := [(0, .int p1)]) (by decide +kernel) rfl (Nat.le_of_ble_eq_true rfl) rfl (fun X hX => ?_)
  refine g_iload_n hX dX4_oneIf_0 rfl 0 rfl ?_
  refine g_if_eq hX 8 dX4_oneIf_1 (by decide) (fun c_1 => ?_) (fun c_1 => ?_)
  · skip
    refine g_iconst hX (v := 0) dX4_oneIf_8 (by decide) ?_
    have e9 : F_X4_oneIf p1 = 0 := by simp only [F_X4_oneIf, eq_true c_1, if_true, if_false]
    rw [e9]
    exact g_iret hX dX4_oneIf_9 rfl rfl
  · skip
    refine g_iconst hX (v := 1) dX4_oneIf_4 (by decide) ?_
    refine g_goto hX 9 dX4_oneIf_5 (by decide) ?_
    have e9 : F_X4_oneIf p1 = 1 := by simp only [F_X4_oneIf, eq_false c_1, if_true, if_false]
    rw [e9]
    exact g_iret hX dX4_oneIf_9 rfl rfl
/-! X4_lowest -/
def rmX4_lowest : Room := { frames := 0, cells := 0, slots := 0, locals := 0 }
theorem k_X4_lowest_0 : Cond.fieldLink RX4 216 RX4 "LOWEST" "[I" ∈ wsX4_lowest := List.mem_of_getElem? (i := 1) rfl
def F_X4_lowest (p1 : Int32) : Int32 :=
  (if p1 < 0 then 0 else (if 7 ≤ p1 then 0 else (fLowI (Int32.toNatClampNeg p1))))
set_option maxHeartbeats 4000000 in
set_option maxRecDepth 100000 in
theorem c_X4_lowest (l : Launch) (T : TT) (b0 : Nat) (p1 : Int32)  : ConI l T b0 yX4_lowest wsX4_lowest rmX4_lowest [.int p1] ([]) (F_X4_lowest p1) ([]) := by
  refine conI_of (cc := cX4_lowest) (maxL := 1) (ret := (some .int)) (lv0 := [(0, .int p1)]) (by decide +kernel) rfl (Nat.le_of_ble_eq_true rfl) rfl (fun X hX => ?_)
  refine g_iload_n hX dX4_lowest_0 rfl 0 rfl ?_
  refine g_if_lt hX 20 dX4_lowest_1 (by decide) (fun c_1 => ?_) (fun c_1 => ?_)
  · skip
    refine g_iconst hX (v := 0) dX4_lowest_20 (by decide) ?_
    have e9 : F_X4_lowest p1 = 0 := by simp only [F_X4_lowest, eq_true c_1, if_true, if_false]
    rw [e9]
    exact g_iret hX dX4_lowest_21 rfl rfl
  · skip
    refine g_iload_n hX dX4_lowest_4 rfl 0 rfl ?_
    refine g_tab hX (fit_low_tab hX) k_X4_lowest_0 dX4_lowest_5 (fun t_5 hT_5 => ?_)
    refine g_tlen hX hT_5 (v := 7) (by decide) dX4_lowest_8 ?_
    refine g_icmp_ge hX 20 dX4_lowest_9 (by decide) (fun c_9 => ?_) (fun c_9 => ?_)
    · skip
      refine g_iconst hX (v := 0) dX4_lowest_20 (by decide) ?_
      have e9 : F_X4_lowest p1 = 0 := by simp only [F_X4_lowest, eq_false c_1, eq_true c_9, if_true, if_false]
      rw [e9]
      exact g_iret hX dX4_lowest_21 rfl rfl
    · skip
      refine g_tab hX (fit_low_tab hX) k_X4_lowest_0 dX4_lowest_12 (fun t_12 hT_12 => ?_)
      refine g_iload_n hX dX4_lowest_15 rfl 0 rfl ?_
      refine g_tld hX hT_12 (vin_of c_1 c_9 (by decide)) (v := .int (fLowI (Int32.toNatClampNeg p1))) rfl dX4_lowest_16 ?_
      refine g_goto hX 21 dX4_lowest_17 (by decide) ?_
      have e9 : F_X4_lowest p1 = (fLowI (Int32.toNatClampNeg p1)) := by simp only [F_X4_lowest, eq_false c_1, eq_false c_9, if_true, if_false]
      rw [e9]
      exact g_iret hX dX4_lowest_21 rfl rfl
/-! X4_highest -/
def rmX4_highest : Room := { frames := 0, cells := 0, slots := 0, locals := 0 }
theorem k_X4_highest_0 : Cond.fieldLink RX4 220 RX4 "HIGHEST" "[I" ∈ wsX4_highest := List.mem_of_getElem? (i := 1) rfl
def F_X4_highest (p1 : Int32) : Int32 :=
  (if p1 < 0 then (-1) else (if 7 ≤ p1 then (-1) else (fHighI (Int32.toNatClampNeg p1))))
set_option maxHeartbeats 4000000 in
set_option maxRecDepth 100000 in
theorem c_X4_highest (l : Launch) (T : TT) (b0 : Nat) (p1 : Int32)  : ConI l T b0 yX4_highest wsX4_highest rmX4_highest [.int p1] ([]) (F_X4_highest p1) ([]) := by
  refine conI_of (cc := cX4_highest) (maxL := 1) (ret := (some .int)) (lv0 := [(0, .int p1)]) (by decide +kernel) rfl (Nat.le_of_ble_eq_true rfl) rfl (fun X hX => ?_)
  refine g_iload_n hX dX4_highest_0 rfl 0 rfl ?_
  refine g_if_lt hX 20 dX4_highest_1 (by decide) (fun c_1 => ?_) (fun c_1 => ?_)
  · skip
    refine g_iconst hX (v := (-1)) dX4_highest_20 (by decide) ?_
    have e9 : F_X4_highest p1 = (-1) := by simp only [F_X4_highest, eq_true c_1, if_true, if_false]
    rw [e9]
    exact g_iret hX dX4_highest_21 rfl rfl
  · skip
    refine g_iload_n hX dX4_highest_4 rfl 0 rfl ?_
    refine g_tab hX (fit_high_tab hX) k_X4_highest_0 dX4_highest_5 (fun t_5 hT_5 => ?_)
    refine g_tlen hX hT_5 (v := 7) (by decide) dX4_highest_8 ?_
    refine g_icmp_ge hX 20 dX4_highest_9 (by decide) (fun c_9 => ?_) (fun c_9 => ?_)
    · skip
      refine g_iconst hX (v := (-1)) dX4_highest_20 (by decide) ?_
      have e9 : F_X4_highest p1 = (-1) := by simp only [F_X4_highest, eq_false c_1, eq_true c_9, if_true, if_false]
      rw [e9]
      exact g_iret hX dX4_highest_21 rfl rfl
    · skip
      refine g_tab hX (fit_high_tab hX) k_X4_highest_0 dX4_highest_12 (fun t_12 hT_12 => ?_)
      refine g_iload_n hX dX4_highest_15 rfl 0 rfl ?_
      refine g_tld hX hT_12 (vin_of c_1 c_9 (by decide)) (v := .int (fHighI (Int32.toNatClampNeg p1))) rfl dX4_highest_16 ?_
      refine g_goto hX 21 dX4_highest_17 (by decide) ?_
      have e9 : F_X4_highest p1 = (fHighI (Int32.toNatClampNeg p1)) := by simp only [F_X4_highest, eq_false c_1, eq_false c_9, if_true, if_false]
      rw [e9]
      exact g_iret hX dX4_highest_21 rfl rfl
/-! X4_inRange -/
def rmX4_inRange : Room := { frames := 1, cells := 0, slots := 0, locals := 20 }
def F_X4_inRange (p1 : Int32) (p2 : Int32) : Int32 :=
  (if p2 < (F_X4_lowest p1) then 0 else (if (F_X4_highest p1) < p2 then 0 else 1))
set_option maxHeartbeats 4000000 in
set_option maxRecDepth 100000 in
theorem c_X4_inRange (l : Launch) (T : TT) (b0 : Nat) (p1 : Int32) (p2 : Int32)  : ConI l T b0 yX4_inRange wsX4_inRange rmX4_inRange [.int p1, .int p2] ([]) (F_X4_inRange p1 p2) ([]) := by
  refine conI_of (cc := cX4_inRange) (maxL := 2) (ret := (some .boolean)) (lv0 := [(0, .int p1), (1, .int p2)]) (by decide +kernel) rfl (Nat.le_of_ble_eq_true rfl) rfl (fun X hX => ?_)
  refine g_iload_n hX dX4_inRange_0 rfl 1 rfl ?_
  refine g_iload_n hX dX4_inRange_1 rfl 0 rfl ?_
  refine g_cS_I hX (n := 1) (As := [.int p1]) (wc := []) (w1 := []) (rv := (F_X4_lowest p1)) (st := [.int p2]) (c_X4_lowest (xL X) T (xB X) p1) gX4_inRange_X4_lowest rfl rfl rfl ⟨Nat.le_of_ble_eq_true rfl, Nat.le_of_ble_eq_true rfl⟩ ⟨Nat.zero_le _, Nat.zero_le _⟩ ⟨by decide +kernel, by decide +kernel, by decide +kernel⟩ rfl [] rfl rfl (by decide) rfl (Nat.le_of_ble_eq_true rfl) dX4_inRange_2 (ws' := []) rfl ?_
  refine g_icmp_lt hX 20 dX4_inRange_5 (by decide) (fun c_5 => ?_) (fun c_5 => ?_)
  · skip
    refine g_iconst hX (v := 0) dX4_inRange_20 (by decide) ?_
    have e9 : F_X4_inRange p1 p2 = 0 := by simp only [F_X4_inRange, eq_true c_5, if_true, if_false]
    rw [e9]
    exact g_zret hX dX4_inRange_21 rfl rfl rfl
  · skip
    refine g_iload_n hX dX4_inRange_8 rfl 1 rfl ?_
    refine g_iload_n hX dX4_inRange_9 rfl 0 rfl ?_
    refine g_cS_I hX (n := 1) (As := [.int p1]) (wc := []) (w1 := []) (rv := (F_X4_highest p1)) (st := [.int p2]) (c_X4_highest (xL X) T (xB X) p1) gX4_inRange_X4_highest rfl rfl rfl ⟨Nat.le_of_ble_eq_true rfl, Nat.le_of_ble_eq_true rfl⟩ ⟨Nat.zero_le _, Nat.zero_le _⟩ ⟨by decide +kernel, by decide +kernel, by decide +kernel⟩ rfl [] rfl rfl (by decide) rfl (Nat.le_of_ble_eq_true rfl) dX4_inRange_10 (ws' := []) rfl ?_
    refine g_icmp_gt hX 20 dX4_inRange_13 (by decide) (fun c_13 => ?_) (fun c_13 => ?_)
    · skip
      refine g_iconst hX (v := 0) dX4_inRange_20 (by decide) ?_
      have e9 : F_X4_inRange p1 p2 = 0 := by simp only [F_X4_inRange, eq_false c_5, eq_true c_13, if_true, if_false]
      rw [e9]
      exact g_zret hX dX4_inRange_21 rfl rfl rfl
    · skip
      refine g_iconst hX (v := 1) dX4_inRange_16 (by decide) ?_
      refine g_goto hX 21 dX4_inRange_17 (by decide) ?_
      have e9 : F_X4_inRange p1 p2 = 1 := by simp only [F_X4_inRange, eq_false c_5, eq_false c_13, if_true, if_false]
      rw [e9]
      exact g_zret hX dX4_inRange_21 rfl rfl rfl
/-! X3_guidePlace -/
def rmX3_guidePlace : Room := { frames := 0, cells := 0, slots := 0, locals := 0 }
theorem k_X3_guidePlace_0 : Cond.fieldLink RX3 22 RX3 (TX3 3).2.1 (TX3 3).2.2.1 ∈ wsX3_guidePlace := List.mem_of_getElem? (i := 1) rfl
theorem h_X3_guidePlace_X3 : ∀ w ∈ u_ws RX3 TX3 4, w ∈ wsX3_guidePlace := fun w h => List.mem_cons_of_mem _ (List.mem_append_right _ h)
def F_X3_guidePlace (u : WV) : Int32 :=
  (if 11 < (u.1 2) then (22 - (u.1 2)) else (u.1 2))
set_option maxHeartbeats 4000000 in
set_option maxRecDepth 100000 in
theorem c_X3_guidePlace (l : Launch) (T : TT) (b0 : Nat) (w h : Nat) (u : WV)  : ConI l T b0 yX3_guidePlace wsX3_guidePlace rmX3_guidePlace [.ref w] (wWr T w h u) (F_X3_guidePlace u) (wWr T w h u) := by
  refine conI_of (cc := cX3_guidePlace) (maxL := 1) (ret := (some .int)) (lv0 := [(0, .ref w)]) (by decide +kernel) rfl (Nat.le_of_ble_eq_true rfl) rfl (fun X hX => ?_)
  refine g_aload_n hX dX3_guidePlace_0 rfl 0 rfl ?_
  refine g_get hX 3 h_X3_guidePlace_X3 0 rfl rfl 3 (by decide) k_X3_guidePlace_0 rfl (v := .int (u.1 2)) rfl dX3_guidePlace_1 ?_
  refine g_bipush hX (v := 11) dX3_guidePlace_4 (by decide) ?_
  refine g_icmp_gt hX 16 dX3_guidePlace_6 (by decide) (fun c_6 => ?_) (fun c_6 => ?_)
  · skip
    refine g_bipush hX (v := 22) dX3_guidePlace_16 (by decide) ?_
    refine g_aload_n hX dX3_guidePlace_18 rfl 0 rfl ?_
    refine g_get hX 3 h_X3_guidePlace_X3 0 rfl rfl 3 (by decide) k_X3_guidePlace_0 rfl (v := .int (u.1 2)) rfl dX3_guidePlace_19 ?_
    refine g_isub hX dX3_guidePlace_22 ?_
    have e9 : F_X3_guidePlace u = (22 - (u.1 2)) := by simp only [F_X3_guidePlace, eq_true c_6, if_true, if_false]
    rw [e9]
    exact g_iret hX dX3_guidePlace_23 rfl rfl
  · skip
    refine g_aload_n hX dX3_guidePlace_9 rfl 0 rfl ?_
    refine g_get hX 3 h_X3_guidePlace_X3 0 rfl rfl 3 (by decide) k_X3_guidePlace_0 rfl (v := .int (u.1 2)) rfl dX3_guidePlace_10 ?_
    refine g_goto hX 23 dX3_guidePlace_13 (by decide) ?_
    have e9 : F_X3_guidePlace u = (u.1 2) := by simp only [F_X3_guidePlace, eq_false c_6, if_true, if_false]
    rw [e9]
    exact g_iret hX dX3_guidePlace_23 rfl rfl
/-! X3_guideGoesBack -/
def rmX3_guideGoesBack : Room := { frames := 0, cells := 0, slots := 0, locals := 0 }
theorem k_X3_guideGoesBack_0 : Cond.fieldLink RX3 22 RX3 (TX3 3).2.1 (TX3 3).2.2.1 ∈ wsX3_guideGoesBack := List.mem_of_getElem? (i := 1) rfl
theorem h_X3_guideGoesBack_X3 : ∀ w ∈ u_ws RX3 TX3 4, w ∈ wsX3_guideGoesBack := fun w h => List.mem_cons_of_mem _ (List.mem_append_right _ h)
def F_X3_guideGoesBack (u : WV) : Int32 :=
  (if (u.1 2) < 11 then 0 else 1)
set_option maxHeartbeats 4000000 in
set_option maxRecDepth 100000 in
theorem c_X3_guideGoesBack (l : Launch) (T : TT) (b0 : Nat) (w h : Nat) (u : WV)  : ConI l T b0 yX3_guideGoesBack wsX3_guideGoesBack rmX3_guideGoesBack [.ref w] (wWr T w h u) (F_X3_guideGoesBack u) (wWr T w h u) := by
  refine conI_of (cc := cX3_guideGoesBack) (maxL := 1) (ret := (some .boolean)) (lv0 := [(0, .ref w)]) (by decide +kernel) rfl (Nat.le_of_ble_eq_true rfl) rfl (fun X hX => ?_)
  refine g_aload_n hX dX3_guideGoesBack_0 rfl 0 rfl ?_
  refine g_get hX 3 h_X3_guideGoesBack_X3 0 rfl rfl 3 (by decide) k_X3_guideGoesBack_0 rfl (v := .int (u.1 2)) rfl dX3_guideGoesBack_1 ?_
  refine g_bipush hX (v := 11) dX3_guideGoesBack_4 (by decide) ?_
  refine g_icmp_lt hX 13 dX3_guideGoesBack_6 (by decide) (fun c_6 => ?_) (fun c_6 => ?_)
  · skip
    refine g_iconst hX (v := 0) dX3_guideGoesBack_13 (by decide) ?_
    have e9 : F_X3_guideGoesBack u = 0 := by simp only [F_X3_guideGoesBack, eq_true c_6, if_true, if_false]
    rw [e9]
    exact g_zret hX dX3_guideGoesBack_14 rfl rfl rfl
  · skip
    refine g_iconst hX (v := 1) dX3_guideGoesBack_9 (by decide) ?_
    refine g_goto hX 14 dX3_guideGoesBack_10 (by decide) ?_
    have e9 : F_X3_guideGoesBack u = 1 := by simp only [F_X3_guideGoesBack, eq_false c_6, if_true, if_false]
    rw [e9]
    exact g_zret hX dX3_guideGoesBack_14 rfl rfl rfl
/-! X3_heightAt -/
def rmX3_heightAt : Room := { frames := 0, cells := 0, slots := 0, locals := 0 }
theorem k_X3_heightAt_0 : Cond.fieldLink RX3 9 RX3 (TX3 0).2.1 (TX3 0).2.2.1 ∈ wsX3_heightAt := List.mem_of_getElem? (i := 1) rfl
theorem h_X3_heightAt_X3 : ∀ w ∈ u_ws RX3 TX3 4, w ∈ wsX3_heightAt := fun w h => List.mem_cons_of_mem _ (List.mem_append_right _ h)
def F_X3_heightAt (u : WV) (p1 : Int32) : Int32 :=
  (if p1 < 0 then 0 else (if 12 ≤ p1 then 0 else (u.2 (Int32.toNatClampNeg p1))))
set_option maxHeartbeats 4000000 in
set_option maxRecDepth 100000 in
theorem c_X3_heightAt (l : Launch) (T : TT) (b0 : Nat) (w h : Nat) (u : WV) (p1 : Int32)  : ConI l T b0 yX3_heightAt wsX3_heightAt rmX3_heightAt [.ref w, .int p1] (wWr T w h u) (F_X3_heightAt u p1) (wWr T w h u) := by
  refine conI_of (cc := cX3_heightAt) (maxL := 2) (ret := (some .int)) (lv0 := [(0, .ref w), (1, .int p1)]) (by decide +kernel) rfl (Nat.le_of_ble_eq_true rfl) rfl (fun X hX => ?_)
  refine g_iload_n hX dX3_heightAt_0 rfl 1 rfl ?_
  refine g_if_lt hX 22 dX3_heightAt_1 (by decide) (fun c_1 => ?_) (fun c_1 => ?_)
  · skip
    refine g_iconst hX (v := 0) dX3_heightAt_22 (by decide) ?_
    have e9 : F_X3_heightAt u p1 = 0 := by simp only [F_X3_heightAt, eq_true c_1, if_true, if_false]
    rw [e9]
    exact g_iret hX dX3_heightAt_23 rfl rfl
  · skip
    refine g_iload_n hX dX3_heightAt_4 rfl 1 rfl ?_
    refine g_aload_n hX dX3_heightAt_5 rfl 0 rfl ?_
    refine g_get hX 3 h_X3_heightAt_X3 0 rfl rfl 0 (by decide) k_X3_heightAt_0 rfl (v := .ref h) rfl dX3_heightAt_6 ?_
    refine g_alen hX 1 0 rfl rfl (v := 12) rfl dX3_heightAt_9 ?_
    refine g_icmp_ge hX 22 dX3_heightAt_10 (by decide) (fun c_10 => ?_) (fun c_10 => ?_)
    · skip
      refine g_iconst hX (v := 0) dX3_heightAt_22 (by decide) ?_
      have e9 : F_X3_heightAt u p1 = 0 := by simp only [F_X3_heightAt, eq_false c_1, eq_true c_10, if_true, if_false]
      rw [e9]
      exact g_iret hX dX3_heightAt_23 rfl rfl
    · skip
      refine g_aload_n hX dX3_heightAt_13 rfl 0 rfl ?_
      refine g_get hX 3 h_X3_heightAt_X3 0 rfl rfl 0 (by decide) k_X3_heightAt_0 rfl (v := .ref h) rfl dX3_heightAt_14 ?_
      refine g_iload_n hX dX3_heightAt_17 rfl 1 rfl ?_
      refine g_iald hX 1 rfl (vin_of c_1 c_10 (by decide)) (v := (u.2 (Int32.toNatClampNeg p1))) (congrArg _ rfl) dX3_heightAt_18 ?_
      refine g_goto hX 23 dX3_heightAt_19 (by decide) ?_
      have e9 : F_X3_heightAt u p1 = (u.2 (Int32.toNatClampNeg p1)) := by simp only [F_X3_heightAt, eq_false c_1, eq_false c_10, if_true, if_false]
      rw [e9]
      exact g_iret hX dX3_heightAt_23 rfl rfl
/-! X3_isFull -/
def rmX3_isFull : Room := { frames := 0, cells := 0, slots := 0, locals := 0 }
theorem k_X3_isFull_0 : Cond.fieldLink RX3 19 RX3 (TX3 2).2.1 (TX3 2).2.2.1 ∈ wsX3_isFull := List.mem_of_getElem? (i := 1) rfl
theorem h_X3_isFull_X3 : ∀ w ∈ u_ws RX3 TX3 4, w ∈ wsX3_isFull := fun w h => List.mem_cons_of_mem _ (List.mem_append_right _ h)
def F_X3_isFull (u : WV) : Int32 :=
  (if (u.1 1) < 200 then 0 else 1)
set_option maxHeartbeats 4000000 in
set_option maxRecDepth 100000 in
theorem c_X3_isFull (l : Launch) (T : TT) (b0 : Nat) (w h : Nat) (u : WV)  : ConI l T b0 yX3_isFull wsX3_isFull rmX3_isFull [.ref w] (wWr T w h u) (F_X3_isFull u) (wWr T w h u) := by
  refine conI_of (cc := cX3_isFull) (maxL := 1) (ret := (some .boolean)) (lv0 := [(0, .ref w)]) (by decide +kernel) rfl (Nat.le_of_ble_eq_true rfl) rfl (fun X hX => ?_)
  refine g_aload_n hX dX3_isFull_0 rfl 0 rfl ?_
  refine g_get hX 3 h_X3_isFull_X3 0 rfl rfl 2 (by decide) k_X3_isFull_0 rfl (v := .int (u.1 1)) rfl dX3_isFull_1 ?_
  refine g_sipush hX (v := 200) dX3_isFull_4 (by decide) ?_
  refine g_icmp_lt hX 14 dX3_isFull_7 (by decide) (fun c_7 => ?_) (fun c_7 => ?_)
  · skip
    refine g_iconst hX (v := 0) dX3_isFull_14 (by decide) ?_
    have e9 : F_X3_isFull u = 0 := by simp only [F_X3_isFull, eq_true c_7, if_true, if_false]
    rw [e9]
    exact g_zret hX dX3_isFull_15 rfl rfl rfl
  · skip
    refine g_iconst hX (v := 1) dX3_isFull_10 (by decide) ?_
    refine g_goto hX 15 dX3_isFull_11 (by decide) ?_
    have e9 : F_X3_isFull u = 1 := by simp only [F_X3_isFull, eq_false c_7, if_true, if_false]
    rw [e9]
    exact g_zret hX dX3_isFull_15 rfl rfl rfl
/-! X3_isRibbonOver -/
def rmX3_isRibbonOver : Room := { frames := 1, cells := 0, slots := 0, locals := 21 }
def F_X3_isRibbonOver (u : WV) (p1 : Int32) (p2 : Int32) : Int32 :=
  (if ((F_X3_heightAt u p1) - (F_X3_heightAt u p2)) < 6 then 0 else 1)
set_option maxHeartbeats 4000000 in
set_option maxRecDepth 100000 in
theorem c_X3_isRibbonOver (l : Launch) (T : TT) (b0 : Nat) (w h : Nat) (u : WV) (p1 : Int32) (p2 : Int32)  : ConI l T b0 yX3_isRibbonOver wsX3_isRibbonOver rmX3_isRibbonOver [.ref w, .int p1, .int p2] (wWr T w h u) (F_X3_isRibbonOver u p1 p2) (wWr T w h u) := by
  refine conI_of (cc := cX3_isRibbonOver) (maxL := 3) (ret := (some .boolean)) (lv0 := [(0, .ref w), (1, .int p1), (2, .int p2)]) (by decide +kernel) rfl (Nat.le_of_ble_eq_true rfl) rfl (fun X hX => ?_)
  refine g_aload_n hX dX3_isRibbonOver_0 rfl 0 rfl ?_
  refine g_iload_n hX dX3_isRibbonOver_1 rfl 1 rfl ?_
  refine g_cV_I hX (n := 1) (As := [.int p1]) (wc := wWr T w h u) (w1 := wWr T w h u) (rv := (F_X3_heightAt u p1)) (st := []) 0 rfl rfl (c_X3_heightAt (xL X) T (xB X) w h u p1) gX3_isRibbonOver_X3_heightAt rfl rfl rfl ⟨Nat.le_of_ble_eq_true rfl, Nat.le_of_ble_eq_true rfl⟩ ⟨Nat.zero_le _, Nat.zero_le _⟩ ⟨by decide +kernel, by decide +kernel, by decide +kernel⟩ rfl [0, 1] rfl rfl (by decide) rfl (Nat.le_of_ble_eq_true rfl) dX3_isRibbonOver_2 (ws' := wWr T w h u) rfl ?_
  refine g_aload_n hX dX3_isRibbonOver_5 rfl 0 rfl ?_
  refine g_iload_n hX dX3_isRibbonOver_6 rfl 2 rfl ?_
  refine g_cV_I hX (n := 1) (As := [.int p2]) (wc := wWr T w h u) (w1 := wWr T w h u) (rv := (F_X3_heightAt u p2)) (st := [.int (F_X3_heightAt u p1)]) 0 rfl rfl (c_X3_heightAt (xL X) T (xB X) w h u p2) gX3_isRibbonOver_X3_heightAt rfl rfl rfl ⟨Nat.le_of_ble_eq_true rfl, Nat.le_of_ble_eq_true rfl⟩ ⟨Nat.zero_le _, Nat.zero_le _⟩ ⟨by decide +kernel, by decide +kernel, by decide +kernel⟩ rfl [0, 1] rfl rfl (by decide) rfl (Nat.le_of_ble_eq_true rfl) dX3_isRibbonOver_7 (ws' := wWr T w h u) rfl ?_
  refine g_isub hX dX3_isRibbonOver_10 ?_
  refine g_bipush hX (v := 6) dX3_isRibbonOver_11 (by decide) ?_
  refine g_icmp_lt hX 20 dX3_isRibbonOver_13 (by decide) (fun c_13 => ?_) (fun c_13 => ?_)
  · skip
    refine g_iconst hX (v := 0) dX3_isRibbonOver_20 (by decide) ?_
    have e9 : F_X3_isRibbonOver u p1 p2 = 0 := by simp only [F_X3_isRibbonOver, eq_true c_13, if_true, if_false]
    rw [e9]
    exact g_zret hX dX3_isRibbonOver_21 rfl rfl rfl
  · skip
    refine g_iconst hX (v := 1) dX3_isRibbonOver_16 (by decide) ?_
    refine g_goto hX 21 dX3_isRibbonOver_17 (by decide) ?_
    have e9 : F_X3_isRibbonOver u p1 p2 = 1 := by simp only [F_X3_isRibbonOver, eq_false c_13, if_true, if_false]
    rw [e9]
    exact g_zret hX dX3_isRibbonOver_21 rfl rfl rfl
/-! X3_isRibbon -/
def rmX3_isRibbon : Room := { frames := 2, cells := 0, slots := 0, locals := 43 }
def F_X3_isRibbon (u : WV) (p1 : Int32) : Int32 :=
  (if p1 = 0 then (if p1 = 11 then 1 else (if (F_X3_isRibbonOver u p1 (p1 + 1)) = 0 then 0 else 1)) else (if (F_X3_isRibbonOver u p1 (p1 - 1)) = 0 then (if p1 = 11 then 0 else (if (F_X3_isRibbonOver u p1 (p1 + 1)) = 0 then 0 else 0)) else (if p1 = 11 then 1 else (if (F_X3_isRibbonOver u p1 (p1 + 1)) = 0 then 0 else 1))))
set_option maxHeartbeats 4000000 in
set_option maxRecDepth 100000 in
theorem c_X3_isRibbon (l : Launch) (T : TT) (b0 : Nat) (w h : Nat) (u : WV) (p1 : Int32)  : ConI l T b0 yX3_isRibbon wsX3_isRibbon rmX3_isRibbon [.ref w, .int p1] (wWr T w h u) (F_X3_isRibbon u p1) (wWr T w h u) := by
  refine conI_of (cc := cX3_isRibbon) (maxL := 4) (ret := (some .boolean)) (lv0 := [(0, .ref w), (1, .int p1)]) (by decide +kernel) rfl (Nat.le_of_ble_eq_true rfl) rfl (fun X hX => ?_)
  refine g_iload_n hX dX3_isRibbon_0 rfl 1 rfl ?_
  refine g_if_eq hX 15 dX3_isRibbon_1 (by decide) (fun c_1 => ?_) (fun c_1 => ?_)
  · skip
    refine g_iconst hX (v := 1) dX3_isRibbon_15 (by decide) ?_
    refine g_goto hX 20 dX3_isRibbon_16 (by decide) ?_
    refine g_istore_n hX (lv' := [(2, .int 1), (0, .ref w), (1, .int p1)]) dX3_isRibbon_20 rfl (by decide) rfl ?_
    refine g_iload_n hX dX3_isRibbon_21 rfl 2 rfl ?_
    refine g_bipush hX (v := 11) dX3_isRibbon_22 (by decide) ?_
    refine g_icmp_eq hX 38 dX3_isRibbon_24 (by decide) (fun c_24 => ?_) (fun c_24 => ?_)
    · skip
      refine g_iconst hX (v := 1) dX3_isRibbon_38 (by decide) ?_
      refine g_goto hX 43 dX3_isRibbon_39 (by decide) ?_
      refine g_istore_n hX (lv' := [(3, .int 1), (2, .int 1), (0, .ref w), (1, .int p1)]) dX3_isRibbon_43 rfl (by decide) rfl ?_
      refine g_iload_n hX dX3_isRibbon_44 rfl 1 rfl ?_
      refine g_if_eq hX 56 dX3_isRibbon_45 (by decide) (fun c0 => absurd c0 (by decide)) (fun _ => ?_)
      refine g_iload_n hX dX3_isRibbon_48 rfl 0 rfl ?_
      refine g_if_eq hX 56 dX3_isRibbon_49 (by decide) (fun c0 => absurd c0 (by decide)) (fun _ => ?_)
      refine g_iconst hX (v := 1) dX3_isRibbon_52 (by decide) ?_
      refine g_goto hX 57 dX3_isRibbon_53 (by decide) ?_
      have e9 : F_X3_isRibbon u p1 = 1 := by simp only [F_X3_isRibbon, eq_true c_1, eq_true c_24, if_true, if_false]
      rw [e9]
      exact g_zret hX dX3_isRibbon_57 rfl rfl rfl
    · skip
      refine g_aload_n hX dX3_isRibbon_27 rfl 1 rfl ?_
      refine g_iload_n hX dX3_isRibbon_28 rfl 2 rfl ?_
      refine g_iload_n hX dX3_isRibbon_29 rfl 2 rfl ?_
      refine g_iconst hX (v := 1) dX3_isRibbon_30 (by decide) ?_
      refine g_iadd hX dX3_isRibbon_31 ?_
      refine g_cV_I hX (n := 2) (As := [.int p1, .int (p1 + 1)]) (wc := wWr T w h u) (w1 := wWr T w h u) (rv := (F_X3_isRibbonOver u p1 (p1 + 1))) (st := []) 0 rfl rfl (c_X3_isRibbonOver (xL X) T (xB X) w h u p1 (p1 + 1)) gX3_isRibbon_X3_isRibbonOver rfl rfl rfl ⟨Nat.le_of_ble_eq_true rfl, Nat.le_of_ble_eq_true rfl⟩ ⟨Nat.zero_le _, Nat.zero_le _⟩ ⟨by decide +kernel, by decide +kernel, by decide +kernel⟩ rfl [0, 1] rfl rfl (by decide) rfl (Nat.le_of_ble_eq_true rfl) dX3_isRibbon_32 (ws' := wWr T w h u) rfl ?_
      refine g_if_eq hX 42 dX3_isRibbon_35 (by decide) (fun c_35 => ?_) (fun c_35 => ?_)
      · skip
        refine g_iconst hX (v := 0) dX3_isRibbon_42 (by decide) ?_
        refine g_istore_n hX (lv' := [(3, .int 0), (2, .int 1), (0, .ref w), (1, .int p1)]) dX3_isRibbon_43 rfl (by decide) rfl ?_
        refine g_iload_n hX dX3_isRibbon_44 rfl 1 rfl ?_
        refine g_if_eq hX 56 dX3_isRibbon_45 (by decide) (fun c0 => absurd c0 (by decide)) (fun _ => ?_)
        refine g_iload_n hX dX3_isRibbon_48 rfl 0 rfl ?_
        refine g_if_eq hX 56 dX3_isRibbon_49 (by decide) (fun _ => ?_) (fun c0 => absurd c0 (by decide))
        refine g_iconst hX (v := 0) dX3_isRibbon_56 (by decide) ?_
        have e9 : F_X3_isRibbon u p1 = 0 := by simp only [F_X3_isRibbon, eq_true c_1, eq_false c_24, eq_true c_35, if_true, if_false]
        rw [e9]
        exact g_zret hX dX3_isRibbon_57 rfl rfl rfl
      · skip
        refine g_iconst hX (v := 1) dX3_isRibbon_38 (by decide) ?_
        refine g_goto hX 43 dX3_isRibbon_39 (by decide) ?_
        refine g_istore_n hX (lv' := [(3, .int 1), (2, .int 1), (0, .ref w), (1, .int p1)]) dX3_isRibbon_43 rfl (by decide) rfl ?_
        refine g_iload_n hX dX3_isRibbon_44 rfl 1 rfl ?_
        refine g_if_eq hX 56 dX3_isRibbon_45 (by decide) (fun c0 => absurd c0 (by decide)) (fun _ => ?_)
        refine g_iload_n hX dX3_isRibbon_48 rfl 0 rfl ?_
        refine g_if_eq hX 56 dX3_isRibbon_49 (by decide) (fun c0 => absurd c0 (by decide)) (fun _ => ?_)
        refine g_iconst hX (v := 1) dX3_isRibbon_52 (by decide) ?_
        refine g_goto hX 57 dX3_isRibbon_53 (by decide) ?_
        have e9 : F_X3_isRibbon u p1 = 1 := by simp only [F_X3_isRibbon, eq_true c_1, eq_false c_24, eq_false c_35, if_true, if_false]
        rw [e9]
        exact g_zret hX dX3_isRibbon_57 rfl rfl rfl
  · skip
    refine g_aload_n hX dX3_isRibbon_4 rfl 0 rfl ?_
    refine g_iload_n hX dX3_isRibbon_5 rfl 1 rfl ?_
    refine g_iload_n hX dX3_isRibbon_6 rfl 1 rfl ?_
    refine g_iconst hX (v := 1) dX3_isRibbon_7 (by decide) ?_
    refine g_isub hX dX3_isRibbon_8 ?_
    refine g_cV_I hX (n := 2) (As := [.int p1, .int (p1 - 1)]) (wc := wWr T w h u) (w1 := wWr T w h u) (rv := (F_X3_isRibbonOver u p1 (p1 - 1))) (st := []) 0 rfl rfl (c_X3_isRibbonOver (xL X) T (xB X) w h u p1 (p1 - 1)) gX3_isRibbon_X3_isRibbonOver rfl rfl rfl ⟨Nat.le_of_ble_eq_true rfl, Nat.le_of_ble_eq_true rfl⟩ ⟨Nat.zero_le _, Nat.zero_le _⟩ ⟨by decide +kernel, by decide +kernel, by decide +kernel⟩ rfl [0, 1] rfl rfl (by decide) rfl (Nat.le_of_ble_eq_true rfl) dX3_isRibbon_9 (ws' := wWr T w h u) rfl ?_
    refine g_if_eq hX 19 dX3_isRibbon_12 (by decide) (fun c_12 => ?_) (fun c_12 => ?_)
    · skip
      refine g_iconst hX (v := 0) dX3_isRibbon_19 (by decide) ?_
      refine g_istore_n hX (lv' := [(2, .int 0), (0, .ref w), (1, .int p1)]) dX3_isRibbon_20 rfl (by decide) rfl ?_
      refine g_iload_n hX dX3_isRibbon_21 rfl 2 rfl ?_
      refine g_bipush hX (v := 11) dX3_isRibbon_22 (by decide) ?_
      refine g_icmp_eq hX 38 dX3_isRibbon_24 (by decide) (fun c_24 => ?_) (fun c_24 => ?_)
      · skip
        refine g_iconst hX (v := 1) dX3_isRibbon_38 (by decide) ?_
        refine g_goto hX 43 dX3_isRibbon_39 (by decide) ?_
        refine g_istore_n hX (lv' := [(3, .int 1), (2, .int 0), (0, .ref w), (1, .int p1)]) dX3_isRibbon_43 rfl (by decide) rfl ?_
        refine g_iload_n hX dX3_isRibbon_44 rfl 1 rfl ?_
        refine g_if_eq hX 56 dX3_isRibbon_45 (by decide) (fun _ => ?_) (fun c0 => absurd c0 (by decide))
        refine g_iconst hX (v := 0) dX3_isRibbon_56 (by decide) ?_
        have e9 : F_X3_isRibbon u p1 = 0 := by simp only [F_X3_isRibbon, eq_false c_1, eq_true c_12, eq_true c_24, if_true, if_false]
        rw [e9]
        exact g_zret hX dX3_isRibbon_57 rfl rfl rfl
      · skip
        refine g_aload_n hX dX3_isRibbon_27 rfl 1 rfl ?_
        refine g_iload_n hX dX3_isRibbon_28 rfl 2 rfl ?_
        refine g_iload_n hX dX3_isRibbon_29 rfl 2 rfl ?_
        refine g_iconst hX (v := 1) dX3_isRibbon_30 (by decide) ?_
        refine g_iadd hX dX3_isRibbon_31 ?_
        refine g_cV_I hX (n := 2) (As := [.int p1, .int (p1 + 1)]) (wc := wWr T w h u) (w1 := wWr T w h u) (rv := (F_X3_isRibbonOver u p1 (p1 + 1))) (st := []) 0 rfl rfl (c_X3_isRibbonOver (xL X) T (xB X) w h u p1 (p1 + 1)) gX3_isRibbon_X3_isRibbonOver rfl rfl rfl ⟨Nat.le_of_ble_eq_true rfl, Nat.le_of_ble_eq_true rfl⟩ ⟨Nat.zero_le _, Nat.zero_le _⟩ ⟨by decide +kernel, by decide +kernel, by decide +kernel⟩ rfl [0, 1] rfl rfl (by decide) rfl (Nat.le_of_ble_eq_true rfl) dX3_isRibbon_32 (ws' := wWr T w h u) rfl ?_
        refine g_if_eq hX 42 dX3_isRibbon_35 (by decide) (fun c_35 => ?_) (fun c_35 => ?_)
        · skip
          refine g_iconst hX (v := 0) dX3_isRibbon_42 (by decide) ?_
          refine g_istore_n hX (lv' := [(3, .int 0), (2, .int 0), (0, .ref w), (1, .int p1)]) dX3_isRibbon_43 rfl (by decide) rfl ?_
          refine g_iload_n hX dX3_isRibbon_44 rfl 1 rfl ?_
          refine g_if_eq hX 56 dX3_isRibbon_45 (by decide) (fun _ => ?_) (fun c0 => absurd c0 (by decide))
          refine g_iconst hX (v := 0) dX3_isRibbon_56 (by decide) ?_
          have e9 : F_X3_isRibbon u p1 = 0 := by simp only [F_X3_isRibbon, eq_false c_1, eq_true c_12, eq_false c_24, eq_true c_35, if_true, if_false]
          rw [e9]
          exact g_zret hX dX3_isRibbon_57 rfl rfl rfl
        · skip
          refine g_iconst hX (v := 1) dX3_isRibbon_38 (by decide) ?_
          refine g_goto hX 43 dX3_isRibbon_39 (by decide) ?_
          refine g_istore_n hX (lv' := [(3, .int 1), (2, .int 0), (0, .ref w), (1, .int p1)]) dX3_isRibbon_43 rfl (by decide) rfl ?_
          refine g_iload_n hX dX3_isRibbon_44 rfl 1 rfl ?_
          refine g_if_eq hX 56 dX3_isRibbon_45 (by decide) (fun _ => ?_) (fun c0 => absurd c0 (by decide))
          refine g_iconst hX (v := 0) dX3_isRibbon_56 (by decide) ?_
          have e9 : F_X3_isRibbon u p1 = 0 := by simp only [F_X3_isRibbon, eq_false c_1, eq_true c_12, eq_false c_24, eq_false c_35, if_true, if_false]
          rw [e9]
          exact g_zret hX dX3_isRibbon_57 rfl rfl rfl
    · skip
      refine g_iconst hX (v := 1) dX3_isRibbon_15 (by decide) ?_
      refine g_goto hX 20 dX3_isRibbon_16 (by decide) ?_
      refine g_istore_n hX (lv' := [(2, .int 1), (0, .ref w), (1, .int p1)]) dX3_isRibbon_20 rfl (by decide) rfl ?_
      refine g_iload_n hX dX3_isRibbon_21 rfl 2 rfl ?_
      refine g_bipush hX (v := 11) dX3_isRibbon_22 (by decide) ?_
      refine g_icmp_eq hX 38 dX3_isRibbon_24 (by decide) (fun c_24 => ?_) (fun c_24 => ?_)
      · skip
        refine g_iconst hX (v := 1) dX3_isRibbon_38 (by decide) ?_
        refine g_goto hX 43 dX3_isRibbon_39 (by decide) ?_
        refine g_istore_n hX (lv' := [(3, .int 1), (2, .int 1), (0, .ref w), (1, .int p1)]) dX3_isRibbon_43 rfl (by decide) rfl ?_
        refine g_iload_n hX dX3_isRibbon_44 rfl 1 rfl ?_
        refine g_if_eq hX 56 dX3_isRibbon_45 (by decide) (fun c0 => absurd c0 (by decide)) (fun _ => ?_)
        refine g_iload_n hX dX3_isRibbon_48 rfl 0 rfl ?_
        refine g_if_eq hX 56 dX3_isRibbon_49 (by decide) (fun c0 => absurd c0 (by decide)) (fun _ => ?_)
        refine g_iconst hX (v := 1) dX3_isRibbon_52 (by decide) ?_
        refine g_goto hX 57 dX3_isRibbon_53 (by decide) ?_
        have e9 : F_X3_isRibbon u p1 = 1 := by simp only [F_X3_isRibbon, eq_false c_1, eq_false c_12, eq_true c_24, if_true, if_false]
        rw [e9]
        exact g_zret hX dX3_isRibbon_57 rfl rfl rfl
      · skip
        refine g_aload_n hX dX3_isRibbon_27 rfl 1 rfl ?_
        refine g_iload_n hX dX3_isRibbon_28 rfl 2 rfl ?_
        refine g_iload_n hX dX3_isRibbon_29 rfl 2 rfl ?_
        refine g_iconst hX (v := 1) dX3_isRibbon_30 (by decide) ?_
        refine g_iadd hX dX3_isRibbon_31 ?_
        refine g_cV_I hX (n := 2) (As := [.int p1, .int (p1 + 1)]) (wc := wWr T w h u) (w1 := wWr T w h u) (rv := (F_X3_isRibbonOver u p1 (p1 + 1))) (st := []) 0 rfl rfl (c_X3_isRibbonOver (xL X) T (xB X) w h u p1 (p1 + 1)) gX3_isRibbon_X3_isRibbonOver rfl rfl rfl ⟨Nat.le_of_ble_eq_true rfl, Nat.le_of_ble_eq_true rfl⟩ ⟨Nat.zero_le _, Nat.zero_le _⟩ ⟨by decide +kernel, by decide +kernel, by decide +kernel⟩ rfl [0, 1] rfl rfl (by decide) rfl (Nat.le_of_ble_eq_true rfl) dX3_isRibbon_32 (ws' := wWr T w h u) rfl ?_
        refine g_if_eq hX 42 dX3_isRibbon_35 (by decide) (fun c_35 => ?_) (fun c_35 => ?_)
        · skip
          refine g_iconst hX (v := 0) dX3_isRibbon_42 (by decide) ?_
          refine g_istore_n hX (lv' := [(3, .int 0), (2, .int 1), (0, .ref w), (1, .int p1)]) dX3_isRibbon_43 rfl (by decide) rfl ?_
          refine g_iload_n hX dX3_isRibbon_44 rfl 1 rfl ?_
          refine g_if_eq hX 56 dX3_isRibbon_45 (by decide) (fun c0 => absurd c0 (by decide)) (fun _ => ?_)
          refine g_iload_n hX dX3_isRibbon_48 rfl 0 rfl ?_
          refine g_if_eq hX 56 dX3_isRibbon_49 (by decide) (fun _ => ?_) (fun c0 => absurd c0 (by decide))
          refine g_iconst hX (v := 0) dX3_isRibbon_56 (by decide) ?_
          have e9 : F_X3_isRibbon u p1 = 0 := by simp only [F_X3_isRibbon, eq_false c_1, eq_false c_12, eq_false c_24, eq_true c_35, if_true, if_false]
          rw [e9]
          exact g_zret hX dX3_isRibbon_57 rfl rfl rfl
        · skip
          refine g_iconst hX (v := 1) dX3_isRibbon_38 (by decide) ?_
          refine g_goto hX 43 dX3_isRibbon_39 (by decide) ?_
          refine g_istore_n hX (lv' := [(3, .int 1), (2, .int 1), (0, .ref w), (1, .int p1)]) dX3_isRibbon_43 rfl (by decide) rfl ?_
          refine g_iload_n hX dX3_isRibbon_44 rfl 1 rfl ?_
          refine g_if_eq hX 56 dX3_isRibbon_45 (by decide) (fun c0 => absurd c0 (by decide)) (fun _ => ?_)
          refine g_iload_n hX dX3_isRibbon_48 rfl 0 rfl ?_
          refine g_if_eq hX 56 dX3_isRibbon_49 (by decide) (fun c0 => absurd c0 (by decide)) (fun _ => ?_)
          refine g_iconst hX (v := 1) dX3_isRibbon_52 (by decide) ?_
          refine g_goto hX 57 dX3_isRibbon_53 (by decide) ?_
          have e9 : F_X3_isRibbon u p1 = 1 := by simp only [F_X3_isRibbon, eq_false c_1, eq_false c_12, eq_false c_24, eq_false c_35, if_true, if_false]
          rw [e9]
          exact g_zret hX dX3_isRibbon_57 rfl rfl rfl
/-! X3_layWrap -/
def rmX3_layWrap : Room := { frames := 1, cells := 0, slots := 0, locals := 20 }
theorem k_X3_layWrap_0 : Cond.fieldLink RX3 9 RX3 (TX3 0).2.1 (TX3 0).2.2.1 ∈ wsX3_layWrap := List.mem_of_getElem? (i := 1) rfl
theorem h_X3_layWrap_X3 : ∀ w ∈ u_ws RX3 TX3 4, w ∈ wsX3_layWrap := fun w h => List.mem_cons_of_mem _ (List.mem_append_right _ h)
theorem k_X3_layWrap_1 : Cond.fieldLink RX3 15 RX3 (TX3 1).2.1 (TX3 1).2.2.1 ∈ wsX3_layWrap := List.mem_of_getElem? (i := 2) rfl
theorem k_X3_layWrap_2 : Cond.fieldLink RX3 19 RX3 (TX3 2).2.1 (TX3 2).2.2.1 ∈ wsX3_layWrap := List.mem_of_getElem? (i := 3) rfl
theorem k_X3_layWrap_3 : Cond.methodLink RX3 45 Lib.Math.max.name ∈ wsX3_layWrap := List.mem_of_getElem? (i := 4) rfl
theorem k_X3_layWrap_4 : Cond.static Lib.Math.max.name ∈ wsX3_layWrap := List.mem_of_getElem? (i := 5) rfl
theorem k_X3_layWrap_5 : Cond.initialized "java/lang/Math" ∈ wsX3_layWrap := List.mem_of_getElem? (i := 6) rfl
theorem k_X3_layWrap_6 : Cond.code Lib.Math.max.name Lib.Math.max.code 2 (some .int) ∈ wsX3_layWrap := List.mem_of_getElem? (i := 7) rfl
def F_X3_layWrap (u : WV) : WV :=
  (if (F_X3_guidePlace u) < 0 then u else (if 12 ≤ (F_X3_guidePlace u) then u else (upd (upd u.1 0 ((u.1 0) + 1)) 1 (if (u.1 1) < ((upd u.2 (Int32.toNatClampNeg (F_X3_guidePlace u)) ((u.2 (Int32.toNatClampNeg (F_X3_guidePlace u))) + 1)) (Int32.toNatClampNeg (F_X3_guidePlace u))) then ((upd u.2 (Int32.toNatClampNeg (F_X3_guidePlace u)) ((u.2 (Int32.toNatClampNeg (F_X3_guidePlace u))) + 1)) (Int32.toNatClampNeg (F_X3_guidePlace u))) else (u.1 1)), (upd u.2 (Int32.toNatClampNeg (F_X3_guidePlace u)) ((u.2 (Int32.toNatClampNeg (F_X3_guidePlace u))) + 1)))))
set_option maxHeartbeats 4000000 in
set_option maxRecDepth 100000 in
theorem c_X3_layWrap (l : Launch) (T : TT) (b0 : Nat) (w h : Nat) (u : WV)  : ConV l T b0 yX3_layWrap wsX3_layWrap rmX3_layWrap [.ref w] (wWr T w h u) (wWr T w h (F_X3_layWrap u)) := by
  refine conV_of (cc := cX3_layWrap) (maxL := 2) (ret := none) (lv0 := [(0, .ref w)]) (by decide +kernel) rfl (Nat.le_of_ble_eq_true rfl) rfl (fun X hX => ?_)
  refine g_aload_n hX dX3_layWrap_0 rfl 0 rfl ?_
  refine g_cV_I hX (n := 0) (As := []) (wc := wWr T w h u) (w1 := wWr T w h u) (rv := (F_X3_guidePlace u)) (st := []) 0 rfl rfl (c_X3_guidePlace (xL X) T (xB X) w h u) gX3_layWrap_X3_guidePlace rfl rfl rfl ⟨Nat.le_of_ble_eq_true rfl, Nat.le_of_ble_eq_true rfl⟩ ⟨Nat.zero_le _, Nat.zero_le _⟩ ⟨by decide +kernel, by decide +kernel, by decide +kernel⟩ rfl [0, 1] rfl rfl (by decide) rfl (Nat.le_of_ble_eq_true rfl) dX3_layWrap_1 (ws' := wWr T w h u) rfl ?_
  refine g_istore_n hX (lv' := [(1, .int (F_X3_guidePlace u)), (0, .ref w)]) dX3_layWrap_4 rfl (by decide) rfl ?_
  refine g_iload_n hX dX3_layWrap_5 rfl 0 rfl ?_
  refine g_if_lt hX 55 dX3_layWrap_6 (by decide) (fun c_6 => ?_) (fun c_6 => ?_)
  · skip
    have e9 : F_X3_layWrap u = u := by simp only [F_X3_layWrap, eq_true c_6, if_true, if_false]
    rw [e9]
    exact g_vret hX dX3_layWrap_55 rfl
  · skip
    refine g_iload_n hX dX3_layWrap_9 rfl 0 rfl ?_
    refine g_aload_n hX dX3_layWrap_10 rfl 1 rfl ?_
    refine g_get hX 3 h_X3_layWrap_X3 0 rfl rfl 0 (by decide) k_X3_layWrap_0 rfl (v := .ref h) rfl dX3_layWrap_11 ?_
    refine g_alen hX 1 0 rfl rfl (v := 12) rfl dX3_layWrap_14 ?_
    refine g_icmp_ge hX 55 dX3_layWrap_15 (by decide) (fun c_15 => ?_) (fun c_15 => ?_)
    · skip
      have e9 : F_X3_layWrap u = u := by simp only [F_X3_layWrap, eq_false c_6, eq_true c_15, if_true, if_false]
      rw [e9]
      exact g_vret hX dX3_layWrap_55 rfl
    · skip
      refine g_aload_n hX dX3_layWrap_18 rfl 1 rfl ?_
      refine g_get hX 3 h_X3_layWrap_X3 0 rfl rfl 0 (by decide) k_X3_layWrap_0 rfl (v := .ref h) rfl dX3_layWrap_19 ?_
      refine g_iload_n hX dX3_layWrap_22 rfl 0 rfl ?_
      refine g_dup2 hX dX3_layWrap_23 rfl rfl ?_
      refine g_iald hX 1 rfl (vin_of c_6 c_15 (by decide)) (v := (u.2 (Int32.toNatClampNeg (F_X3_guidePlace u)))) (congrArg _ rfl) dX3_layWrap_24 ?_
      refine g_iconst hX (v := 1) dX3_layWrap_25 (by decide) ?_
      refine g_iadd hX dX3_layWrap_26 ?_
      refine g_iast hX 1 rfl (vin_of c_6 c_15 (by decide)) dX3_layWrap_27 (ws' := wWr T w h (u.1, (upd u.2 (Int32.toNatClampNeg (F_X3_guidePlace u)) ((u.2 (Int32.toNatClampNeg (F_X3_guidePlace u))) + 1)))) rfl ?_
      refine g_aload_n hX dX3_layWrap_28 rfl 1 rfl ?_
      refine g_dup hX dX3_layWrap_29 rfl ?_
      refine g_get hX 3 h_X3_layWrap_X3 0 rfl rfl 1 (by decide) k_X3_layWrap_1 rfl (v := .int (u.1 0)) rfl dX3_layWrap_30 ?_
      refine g_iconst hX (v := 1) dX3_layWrap_33 (by decide) ?_
      refine g_iadd hX dX3_layWrap_34 ?_
      refine g_put hX 3 h_X3_layWrap_X3 0 rfl rfl 1 (by decide) tyX3 tyX3_ok nmX3 k_X3_layWrap_1 rfl rfl rfl rfl rfl (Nat.le_of_ble_eq_true rfl) dX3_layWrap_35 (ws' := wWr T w h (upd u.1 0 ((u.1 0) + 1), (upd u.2 (Int32.toNatClampNeg (F_X3_guidePlace u)) ((u.2 (Int32.toNatClampNeg (F_X3_guidePlace u))) + 1)))) rfl ?_
      refine g_aload_n hX dX3_layWrap_38 rfl 1 rfl ?_
      refine g_aload_n hX dX3_layWrap_39 rfl 1 rfl ?_
      refine g_get hX 3 h_X3_layWrap_X3 0 rfl rfl 2 (by decide) k_X3_layWrap_2 rfl (v := .int (u.1 1)) rfl dX3_layWrap_40 ?_
      refine g_aload_n hX dX3_layWrap_43 rfl 1 rfl ?_
      refine g_get hX 3 h_X3_layWrap_X3 0 rfl rfl 0 (by decide) k_X3_layWrap_0 rfl (v := .ref h) rfl dX3_layWrap_44 ?_
      refine g_iload_n hX dX3_layWrap_47 rfl 0 rfl ?_
      refine g_iald hX 1 rfl (vin_of c_6 c_15 (by decide)) (v := ((upd u.2 (Int32.toNatClampNeg (F_X3_guidePlace u)) ((u.2 (Int32.toNatClampNeg (F_X3_guidePlace u))) + 1)) (Int32.toNatClampNeg (F_X3_guidePlace u)))) (congrArg _ rfl) dX3_layWrap_48 ?_
      refine g_mmax hX k_X3_layWrap_3 k_X3_layWrap_4 k_X3_layWrap_5 k_X3_layWrap_6 (Nat.le_of_ble_eq_true rfl) (Nat.le_of_ble_eq_true rfl) (Nat.zero_le _) (Nat.zero_le _) dX3_layWrap_49 ?_
      refine g_put hX 3 h_X3_layWrap_X3 0 rfl rfl 2 (by decide) tyX3 tyX3_ok nmX3 k_X3_layWrap_2 rfl rfl rfl rfl rfl (Nat.le_of_ble_eq_true rfl) dX3_layWrap_52 (ws' := wWr T w h (upd (upd u.1 0 ((u.1 0) + 1)) 1 (if (u.1 1) < ((upd u.2 (Int32.toNatClampNeg (F_X3_guidePlace u)) ((u.2 (Int32.toNatClampNeg (F_X3_guidePlace u))) + 1)) (Int32.toNatClampNeg (F_X3_guidePlace u))) then ((upd u.2 (Int32.toNatClampNeg (F_X3_guidePlace u)) ((u.2 (Int32.toNatClampNeg (F_X3_guidePlace u))) + 1)) (Int32.toNatClampNeg (F_X3_guidePlace u))) else (u.1 1)), (upd u.2 (Int32.toNatClampNeg (F_X3_guidePlace u)) ((u.2 (Int32.toNatClampNeg (F_X3_guidePlace u))) + 1)))) rfl ?_
      have e9 : F_X3_layWrap u = (upd (upd u.1 0 ((u.1 0) + 1)) 1 (if (u.1 1) < ((upd u.2 (Int32.toNatClampNeg (F_X3_guidePlace u)) ((u.2 (Int32.toNatClampNeg (F_X3_guidePlace u))) + 1)) (Int32.toNatClampNeg (F_X3_guidePlace u))) then ((upd u.2 (Int32.toNatClampNeg (F_X3_guidePlace u)) ((u.2 (Int32.toNatClampNeg (F_X3_guidePlace u))) + 1)) (Int32.toNatClampNeg (F_X3_guidePlace u))) else (u.1 1)), (upd u.2 (Int32.toNatClampNeg (F_X3_guidePlace u)) ((u.2 (Int32.toNatClampNeg (F_X3_guidePlace u))) + 1))) := by simp only [F_X3_layWrap, eq_false c_6, eq_false c_15, if_true, if_false]
      rw [e9]
      exact g_vret hX dX3_layWrap_55 rfl
/-! X3_moveGuide -/
def rmX3_moveGuide : Room := { frames := 1, cells := 0, slots := 0, locals := 20 }
theorem k_X3_moveGuide_0 : Cond.fieldLink RX3 22 RX3 (TX3 3).2.1 (TX3 3).2.2.1 ∈ wsX3_moveGuide := List.mem_of_getElem? (i := 1) rfl
theorem h_X3_moveGuide_X3 : ∀ w ∈ u_ws RX3 TX3 4, w ∈ wsX3_moveGuide := fun w h => List.mem_cons_of_mem _ (List.mem_append_right _ h)
theorem k_X3_moveGuide_2 : Cond.initialized RX4 ∈ wsX3_moveGuide := List.mem_of_getElem? (i := 3) rfl
theorem k_X3_moveGuide_1 : Cond.static yX4_oneIf ∈ wsX3_moveGuide := List.mem_of_getElem? (i := 2) rfl
def F_X3_moveGuide (u : WV) (p1 : Int32) (p2 : Int32) (p3 : Int32) : WV :=
  (if p2 ≤ 0 then (upd u.1 2 ((((u.1 2) + p1) + (F_X4_oneIf 0)) - (((u.1 2) + p1) + (F_X4_oneIf 0)) / 22 * 22), u.2) else (if (8 - p2) ≤ 0 then (upd u.1 2 ((((u.1 2) + p1) + (F_X4_oneIf 0)) - (((u.1 2) + p1) + (F_X4_oneIf 0)) / 22 * 22), u.2) else (if (p3 - p3 / (8 - p2) * (8 - p2)) = 0 then (upd u.1 2 ((((u.1 2) + p1) + (F_X4_oneIf 1)) - (((u.1 2) + p1) + (F_X4_oneIf 1)) / 22 * 22), u.2) else (upd u.1 2 ((((u.1 2) + p1) + (F_X4_oneIf 0)) - (((u.1 2) + p1) + (F_X4_oneIf 0)) / 22 * 22), u.2))))
set_option maxHeartbeats 4000000 in
set_option maxRecDepth 100000 in
theorem c_X3_moveGuide (l : Launch) (T : TT) (b0 : Nat) (w h : Nat) (u : WV) (p1 : Int32) (p2 : Int32) (p3 : Int32)  : ConV l T b0 yX3_moveGuide wsX3_moveGuide rmX3_moveGuide [.ref w, .int p1, .int p2, .int p3] (wWr T w h u) (wWr T w h (F_X3_moveGuide u p1 p2 p3)) := by
  refine conV_of (cc := cX3_moveGuide) (maxL := 6) (ret := none) (lv0 := [(0, .ref w), (1, .int p1), (2, .int p2), (3, .int p3)]) (by decide +kernel) rfl (Nat.le_of_ble_eq_true rfl) rfl (fun X hX => ?_)
  refine g_bipush hX (v := 8) dX3_moveGuide_0 (by decide) ?_
  refine g_iload_n hX dX3_moveGuide_2 rfl 2 rfl ?_
  refine g_isub hX dX3_moveGuide_3 ?_
  refine g_istore hX (lv' := [(4, .int (8 - p2)), (0, .ref w), (1, .int p1), (2, .int p2), (3, .int p3)]) dX3_moveGuide_4 (by decide) rfl ?_
  refine g_iload_n hX dX3_moveGuide_6 rfl 3 rfl ?_
  refine g_if_le hX 26 dX3_moveGuide_7 (by decide) (fun c_7 => ?_) (fun c_7 => ?_)
  · skip
    refine g_iconst hX (v := 0) dX3_moveGuide_26 (by decide) ?_
    refine g_istore hX (lv' := [(5, .int 0), (4, .int (8 - p2)), (0, .ref w), (1, .int p1), (2, .int p2), (3, .int p3)]) dX3_moveGuide_27 (by decide) rfl ?_
    refine g_aload_n hX dX3_moveGuide_29 rfl 2 rfl ?_
    refine g_aload_n hX dX3_moveGuide_30 rfl 2 rfl ?_
    refine g_get hX 3 h_X3_moveGuide_X3 0 rfl rfl 3 (by decide) k_X3_moveGuide_0 rfl (v := .int (u.1 2)) rfl dX3_moveGuide_31 ?_
    refine g_iload_n hX dX3_moveGuide_34 rfl 3 rfl ?_
    refine g_iadd hX dX3_moveGuide_35 ?_
    refine g_iload hX dX3_moveGuide_36 0 rfl ?_
    refine g_cSN_I hX (n := 1) (As := [.int 0]) (wc := []) (w1 := []) (rv := (F_X4_oneIf 0)) (st := [.int ((u.1 2) + p1), .ref w]) (c_X4_oneIf (xL X) T (xB X) 0) ggX3_moveGuide_X4_oneIf 32 rfl k_X3_moveGuide_2 k_X3_moveGuide_1 rfl rfl rfl ⟨Nat.le_of_ble_eq_true rfl, Nat.le_of_ble_eq_true rfl⟩ ⟨Nat.zero_le _, Nat.zero_le _⟩ ⟨by decide +kernel, by decide +kernel, by decide +kernel⟩ rfl [] rfl rfl (by decide) rfl (Nat.le_of_ble_eq_true rfl) dX3_moveGuide_38 (ws' := wWr T w h u) rfl ?_
    refine g_iadd hX dX3_moveGuide_41 ?_
    refine g_bipush hX (v := 22) dX3_moveGuide_42 (by decide) ?_
    refine g_irem hX dX3_moveGuide_44 (by decide) ?_
    refine g_put hX 3 h_X3_moveGuide_X3 0 rfl rfl 3 (by decide) tyX3 tyX3_ok nmX3 k_X3_moveGuide_0 rfl rfl rfl rfl rfl (Nat.le_of_ble_eq_true rfl) dX3_moveGuide_45 (ws' := wWr T w h (upd u.1 2 ((((u.1 2) + p1) + (F_X4_oneIf 0)) - (((u.1 2) + p1) + (F_X4_oneIf 0)) / 22 * 22), u.2)) rfl ?_
    have e9 : F_X3_moveGuide u p1 p2 p3 = (upd u.1 2 ((((u.1 2) + p1) + (F_X4_oneIf 0)) - (((u.1 2) + p1) + (F_X4_oneIf 0)) / 22 * 22), u.2) := by simp only [F_X3_moveGuide, eq_true c_7, if_true, if_false]
    rw [e9]
    exact g_vret hX dX3_moveGuide_48 rfl
  · skip
    refine g_iload hX dX3_moveGuide_10 0 rfl ?_
    refine g_if_le hX 26 dX3_moveGuide_12 (by decide) (fun c_12 => ?_) (fun c_12 => ?_)
    · skip
      refine g_iconst hX (v := 0) dX3_moveGuide_26 (by decide) ?_
      refine g_istore hX (lv' := [(5, .int 0), (4, .int (8 - p2)), (0, .ref w), (1, .int p1), (2, .int p2), (3, .int p3)]) dX3_moveGuide_27 (by decide) rfl ?_
      refine g_aload_n hX dX3_moveGuide_29 rfl 2 rfl ?_
      refine g_aload_n hX dX3_moveGuide_30 rfl 2 rfl ?_
      refine g_get hX 3 h_X3_moveGuide_X3 0 rfl rfl 3 (by decide) k_X3_moveGuide_0 rfl (v := .int (u.1 2)) rfl dX3_moveGuide_31 ?_
      refine g_iload_n hX dX3_moveGuide_34 rfl 3 rfl ?_
      refine g_iadd hX dX3_moveGuide_35 ?_
      refine g_iload hX dX3_moveGuide_36 0 rfl ?_
      refine g_cSN_I hX (n := 1) (As := [.int 0]) (wc := []) (w1 := []) (rv := (F_X4_oneIf 0)) (st := [.int ((u.1 2) + p1), .ref w]) (c_X4_oneIf (xL X) T (xB X) 0) ggX3_moveGuide_X4_oneIf 32 rfl k_X3_moveGuide_2 k_X3_moveGuide_1 rfl rfl rfl ⟨Nat.le_of_ble_eq_true rfl, Nat.le_of_ble_eq_true rfl⟩ ⟨Nat.zero_le _, Nat.zero_le _⟩ ⟨by decide +kernel, by decide +kernel, by decide +kernel⟩ rfl [] rfl rfl (by decide) rfl (Nat.le_of_ble_eq_true rfl) dX3_moveGuide_38 (ws' := wWr T w h u) rfl ?_
      refine g_iadd hX dX3_moveGuide_41 ?_
      refine g_bipush hX (v := 22) dX3_moveGuide_42 (by decide) ?_
      refine g_irem hX dX3_moveGuide_44 (by decide) ?_
      refine g_put hX 3 h_X3_moveGuide_X3 0 rfl rfl 3 (by decide) tyX3 tyX3_ok nmX3 k_X3_moveGuide_0 rfl rfl rfl rfl rfl (Nat.le_of_ble_eq_true rfl) dX3_moveGuide_45 (ws' := wWr T w h (upd u.1 2 ((((u.1 2) + p1) + (F_X4_oneIf 0)) - (((u.1 2) + p1) + (F_X4_oneIf 0)) / 22 * 22), u.2)) rfl ?_
      have e9 : F_X3_moveGuide u p1 p2 p3 = (upd u.1 2 ((((u.1 2) + p1) + (F_X4_oneIf 0)) - (((u.1 2) + p1) + (F_X4_oneIf 0)) / 22 * 22), u.2) := by simp only [F_X3_moveGuide, eq_false c_7, eq_true c_12, if_true, if_false]
      rw [e9]
      exact g_vret hX dX3_moveGuide_48 rfl
    · skip
      refine g_iload_n hX dX3_moveGuide_15 rfl 4 rfl ?_
      refine g_iload hX dX3_moveGuide_16 0 rfl ?_
      refine g_irem hX dX3_moveGuide_18 (fun z9 => c_12 (by rw [z9]; decide)) ?_
      refine g_if_ne hX 26 dX3_moveGuide_19 (by decide) (fun c_19 => ?_) (fun c_19 => ?_)
      · skip
        refine g_iconst hX (v := 0) dX3_moveGuide_26 (by decide) ?_
        refine g_istore hX (lv' := [(5, .int 0), (4, .int (8 - p2)), (0, .ref w), (1, .int p1), (2, .int p2), (3, .int p3)]) dX3_moveGuide_27 (by decide) rfl ?_
        refine g_aload_n hX dX3_moveGuide_29 rfl 2 rfl ?_
        refine g_aload_n hX dX3_moveGuide_30 rfl 2 rfl ?_
        refine g_get hX 3 h_X3_moveGuide_X3 0 rfl rfl 3 (by decide) k_X3_moveGuide_0 rfl (v := .int (u.1 2)) rfl dX3_moveGuide_31 ?_
        refine g_iload_n hX dX3_moveGuide_34 rfl 3 rfl ?_
        refine g_iadd hX dX3_moveGuide_35 ?_
        refine g_iload hX dX3_moveGuide_36 0 rfl ?_
        refine g_cSN_I hX (n := 1) (As := [.int 0]) (wc := []) (w1 := []) (rv := (F_X4_oneIf 0)) (st := [.int ((u.1 2) + p1), .ref w]) (c_X4_oneIf (xL X) T (xB X) 0) ggX3_moveGuide_X4_oneIf 32 rfl k_X3_moveGuide_2 k_X3_moveGuide_1 rfl rfl rfl ⟨Nat.le_of_ble_eq_true rfl, Nat.le_of_ble_eq_true rfl⟩ ⟨Nat.zero_le _, Nat.zero_le _⟩ ⟨by decide +kernel, by decide +kernel, by decide +kernel⟩ rfl [] rfl rfl (by decide) rfl (Nat.le_of_ble_eq_true rfl) dX3_moveGuide_38 (ws' := wWr T w h u) rfl ?_
        refine g_iadd hX dX3_moveGuide_41 ?_
        refine g_bipush hX (v := 22) dX3_moveGuide_42 (by decide) ?_
        refine g_irem hX dX3_moveGuide_44 (by decide) ?_
        refine g_put hX 3 h_X3_moveGuide_X3 0 rfl rfl 3 (by decide) tyX3 tyX3_ok nmX3 k_X3_moveGuide_0 rfl rfl rfl rfl rfl (Nat.le_of_ble_eq_true rfl) dX3_moveGuide_45 (ws' := wWr T w h (upd u.1 2 ((((u.1 2) + p1) + (F_X4_oneIf 0)) - (((u.1 2) + p1) + (F_X4_oneIf 0)) / 22 * 22), u.2)) rfl ?_
        have e9 : F_X3_moveGuide u p1 p2 p3 = (upd u.1 2 ((((u.1 2) + p1) + (F_X4_oneIf 0)) - (((u.1 2) + p1) + (F_X4_oneIf 0)) / 22 * 22), u.2) := by simp only [F_X3_moveGuide, eq_false c_7, eq_false c_12, eq_false c_19, if_true, if_false]
        rw [e9]
        exact g_vret hX dX3_moveGuide_48 rfl
      · skip
        refine g_iconst hX (v := 1) dX3_moveGuide_22 (by decide) ?_
        refine g_goto hX 27 dX3_moveGuide_23 (by decide) ?_
        refine g_istore hX (lv' := [(5, .int 1), (4, .int (8 - p2)), (0, .ref w), (1, .int p1), (2, .int p2), (3, .int p3)]) dX3_moveGuide_27 (by decide) rfl ?_
        refine g_aload_n hX dX3_moveGuide_29 rfl 2 rfl ?_
        refine g_aload_n hX dX3_moveGuide_30 rfl 2 rfl ?_
        refine g_get hX 3 h_X3_moveGuide_X3 0 rfl rfl 3 (by decide) k_X3_moveGuide_0 rfl (v := .int (u.1 2)) rfl dX3_moveGuide_31 ?_
        refine g_iload_n hX dX3_moveGuide_34 rfl 3 rfl ?_
        refine g_iadd hX dX3_moveGuide_35 ?_
        refine g_iload hX dX3_moveGuide_36 0 rfl ?_
        refine g_cSN_I hX (n := 1) (As := [.int 1]) (wc := []) (w1 := []) (rv := (F_X4_oneIf 1)) (st := [.int ((u.1 2) + p1), .ref w]) (c_X4_oneIf (xL X) T (xB X) 1) ggX3_moveGuide_X4_oneIf 32 rfl k_X3_moveGuide_2 k_X3_moveGuide_1 rfl rfl rfl ⟨Nat.le_of_ble_eq_true rfl, Nat.le_of_ble_eq_true rfl⟩ ⟨Nat.zero_le _, Nat.zero_le _⟩ ⟨by decide +kernel, by decide +kernel, by decide +kernel⟩ rfl [] rfl rfl (by decide) rfl (Nat.le_of_ble_eq_true rfl) dX3_moveGuide_38 (ws' := wWr T w h u) rfl ?_
        refine g_iadd hX dX3_moveGuide_41 ?_
        refine g_bipush hX (v := 22) dX3_moveGuide_42 (by decide) ?_
        refine g_irem hX dX3_moveGuide_44 (by decide) ?_
        refine g_put hX 3 h_X3_moveGuide_X3 0 rfl rfl 3 (by decide) tyX3 tyX3_ok nmX3 k_X3_moveGuide_0 rfl rfl rfl rfl rfl (Nat.le_of_ble_eq_true rfl) dX3_moveGuide_45 (ws' := wWr T w h (upd u.1 2 ((((u.1 2) + p1) + (F_X4_oneIf 1)) - (((u.1 2) + p1) + (F_X4_oneIf 1)) / 22 * 22), u.2)) rfl ?_
        have e9 : F_X3_moveGuide u p1 p2 p3 = (upd u.1 2 ((((u.1 2) + p1) + (F_X4_oneIf 1)) - (((u.1 2) + p1) + (F_X4_oneIf 1)) / 22 * 22), u.2) := by simp only [F_X3_moveGuide, eq_false c_7, eq_false c_12, eq_true c_19, if_true, if_false]
        rw [e9]
        exact g_vret hX dX3_moveGuide_48 rfl
/-! X3_copyFrom -/
def rmX3_copyFrom : Room := { frames := 1, cells := 0, slots := 0, locals := 40 }
theorem k_X3_copyFrom_0 : Cond.fieldLink RX3 9 RX3 (TX3 0).2.1 (TX3 0).2.2.1 ∈ wsX3_copyFrom := List.mem_of_getElem? (i := 1) rfl
theorem h_X3_copyFrom_X3 : ∀ w ∈ u_ws RX3 TX3 4, w ∈ wsX3_copyFrom := fun w h => List.mem_cons_of_mem _ (List.mem_append_right _ h)
theorem k_X3_copyFrom_1 : Cond.methodLink RX3 25 arraycopyName ∈ wsX3_copyFrom := List.mem_of_getElem? (i := 2) rfl
theorem k_X3_copyFrom_2 : Cond.native arraycopyName ∈ wsX3_copyFrom := List.mem_of_getElem? (i := 3) rfl
theorem k_X3_copyFrom_3 : Cond.static arraycopyName ∈ wsX3_copyFrom := List.mem_of_getElem? (i := 4) rfl
theorem k_X3_copyFrom_4 : Cond.initialized "java/lang/System" ∈ wsX3_copyFrom := List.mem_of_getElem? (i := 5) rfl
theorem k_X3_copyFrom_5 : Cond.fieldLink RX3 15 RX3 (TX3 1).2.1 (TX3 1).2.2.1 ∈ wsX3_copyFrom := List.mem_of_getElem? (i := 6) rfl
theorem k_X3_copyFrom_6 : Cond.fieldLink RX3 19 RX3 (TX3 2).2.1 (TX3 2).2.2.1 ∈ wsX3_copyFrom := List.mem_of_getElem? (i := 7) rfl
theorem k_X3_copyFrom_7 : Cond.fieldLink RX3 22 RX3 (TX3 3).2.1 (TX3 3).2.2.1 ∈ wsX3_copyFrom := List.mem_of_getElem? (i := 8) rfl
def F_X3_copyFrom (u : WV) (v : WV) : WV :=
  v
set_option maxHeartbeats 4000000 in
set_option maxRecDepth 100000 in
theorem c_X3_copyFrom (l : Launch) (T : TT) (b0 : Nat) (w h w2 h2 : Nat) (u : WV) (v : WV)  : ConV l T b0 yX3_copyFrom wsX3_copyFrom rmX3_copyFrom [.ref w, .ref w2] (wWr T w h u ++ wWr T w2 h2 v) (wWr T w h (F_X3_copyFrom u v) ++ wWr T w2 h2 v) := by
  refine conV_of (cc := cX3_copyFrom) (maxL := 2) (ret := none) (lv0 := [(0, .ref w), (1, .ref w2)]) (by decide +kernel) rfl (Nat.le_of_ble_eq_true rfl) rfl (fun X hX => ?_)
  refine g_aload_n hX dX3_copyFrom_0 rfl 1 rfl ?_
  refine g_get hX 3 h_X3_copyFrom_X3 2 rfl rfl 0 (by decide) k_X3_copyFrom_0 rfl (v := .ref h2) rfl dX3_copyFrom_1 ?_
  refine g_iconst hX (v := 0) dX3_copyFrom_4 (by decide) ?_
  refine g_aload_n hX dX3_copyFrom_5 rfl 0 rfl ?_
  refine g_get hX 3 h_X3_copyFrom_X3 0 rfl rfl 0 (by decide) k_X3_copyFrom_0 rfl (v := .ref h) rfl dX3_copyFrom_6 ?_
  refine g_iconst hX (v := 0) dX3_copyFrom_9 (by decide) ?_
  refine g_bipush hX (v := 12) dX3_copyFrom_10 (by decide) ?_
  refine g_copyi hX k_X3_copyFrom_1 k_X3_copyFrom_2 k_X3_copyFrom_3 k_X3_copyFrom_4 3 1 rfl rfl (by decide) (by decide) (Nat.le_of_ble_eq_true rfl) (by decide +kernel) dX3_copyFrom_12 (ws' := wWr T w h (u.1, v.2) ++ wWr T w2 h2 v) rfl ?_
  refine g_aload_n hX dX3_copyFrom_15 rfl 0 rfl ?_
  refine g_aload_n hX dX3_copyFrom_16 rfl 1 rfl ?_
  refine g_get hX 3 h_X3_copyFrom_X3 2 rfl rfl 1 (by decide) k_X3_copyFrom_5 rfl (v := .int (v.1 0)) rfl dX3_copyFrom_17 ?_
  refine g_put hX 3 h_X3_copyFrom_X3 0 rfl rfl 1 (by decide) tyX3 tyX3_ok nmX3 k_X3_copyFrom_5 rfl rfl rfl rfl rfl (Nat.le_of_ble_eq_true rfl) dX3_copyFrom_20 (ws' := wWr T w h (upd u.1 0 (v.1 0), v.2) ++ wWr T w2 h2 v) rfl ?_
  refine g_aload_n hX dX3_copyFrom_23 rfl 0 rfl ?_
  refine g_aload_n hX dX3_copyFrom_24 rfl 1 rfl ?_
  refine g_get hX 3 h_X3_copyFrom_X3 2 rfl rfl 2 (by decide) k_X3_copyFrom_6 rfl (v := .int (v.1 1)) rfl dX3_copyFrom_25 ?_
  refine g_put hX 3 h_X3_copyFrom_X3 0 rfl rfl 2 (by decide) tyX3 tyX3_ok nmX3 k_X3_copyFrom_6 rfl rfl rfl rfl rfl (Nat.le_of_ble_eq_true rfl) dX3_copyFrom_28 (ws' := wWr T w h (upd (upd u.1 0 (v.1 0)) 1 (v.1 1), v.2) ++ wWr T w2 h2 v) rfl ?_
  refine g_aload_n hX dX3_copyFrom_31 rfl 0 rfl ?_
  refine g_aload_n hX dX3_copyFrom_32 rfl 1 rfl ?_
  refine g_get hX 3 h_X3_copyFrom_X3 2 rfl rfl 3 (by decide) k_X3_copyFrom_7 rfl (v := .int (v.1 2)) rfl dX3_copyFrom_33 ?_
  refine g_put hX 3 h_X3_copyFrom_X3 0 rfl rfl 3 (by decide) tyX3 tyX3_ok nmX3 k_X3_copyFrom_7 rfl rfl rfl rfl rfl (Nat.le_of_ble_eq_true rfl) dX3_copyFrom_36 (ws' := wWr T w h (upd (upd (upd u.1 0 (v.1 0)) 1 (v.1 1)) 2 (v.1 2), v.2) ++ wWr T w2 h2 v) rfl ?_
  have e9 : F_X3_copyFrom u v = v := by simp only [F_X3_copyFrom, if_true, if_false]
  rw [e9]
  exact g_vret hX dX3_copyFrom_39 rfl
