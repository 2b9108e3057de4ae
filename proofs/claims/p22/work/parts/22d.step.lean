/-! The law's step, on two winders in one state: what the calls tell -/
theorem fin_1 (xv : XV) (a : Int32) : (F_X4_finishAct xv a).1 = a := by
  unfold F_X4_finishAct
  split <;> rfl
theorem fin_2 (xv : XV) (a : Int32) : (F_X4_finishAct xv a).2.2.1 = if a < 0 then xv.2.1 else xv.2.2.1 := by
  unfold F_X4_finishAct
  split <;> rfl
/-- what a state becomes by an act -/
def nx (r : Int32 × SV) (u : SV) : SV := if r.1 < 0 then u else r.2
theorem set_x (xv : XV) (a b : Int32) : (F_X4_set xv a b).1 = (F_X2_changeNumber xv.2.1 a b).1 ∧ (F_X4_set xv a b).2.2.1 = nx (F_X2_changeNumber xv.2.1 a b) xv.2.1 := ⟨fin_1 _ _, fin_2 _ _⟩
theorem wind_x (xv : XV) (a : Int32) : (F_X4_wind xv a).1 = (F_X2_turnOften xv.2.1 a).1 ∧ (F_X4_wind xv a).2.2.1 = nx (F_X2_turnOften xv.2.1 a) xv.2.1 := ⟨fin_1 _ _, fin_2 _ _⟩
theorem knot_x (xv : XV) : (F_X4_knot xv).1 = (F_X2_tieKnot xv.2.1).1 ∧ (F_X4_knot xv).2.2.1 = nx (F_X2_tieKnot xv.2.1) xv.2.1 := ⟨fin_1 _ _, fin_2 _ _⟩
theorem cone_x (xv : XV) (a : Int32) : (F_X4_cone xv a).1 = (F_X2_changeCone xv.2.1 a).1 ∧ (F_X4_cone xv a).2.2.1 = nx (F_X2_changeCone xv.2.1 a) xv.2.1 := ⟨fin_1 _ _, fin_2 _ _⟩
theorem doff_x (xv : XV) : (F_X4_doff xv).1 = (F_X2_takePackageOff xv.2.1).1 ∧ (F_X4_doff xv).2.2.1 = nx (F_X2_takePackageOff xv.2.1) xv.2.1 := ⟨fin_1 _ _, fin_2 _ _⟩
theorem cnt_0 (xv : XV) : F_X4_count xv 0 = xv.2.1.2.1.1 0 := by
  unfold F_X4_count
  rw [if_pos rfl]
theorem cnt_1 (xv : XV) : F_X4_count xv 1 = xv.2.1.1 0 := by
  unfold F_X4_count
  rw [if_neg (show ¬ (1 : Int32) = 0 from by decide), if_pos rfl]
theorem cnt_2 (xv : XV) : F_X4_count xv 2 = F_X3_guidePlace xv.2.1.2.1 := by
  unfold F_X4_count
  rw [if_neg (show ¬ (2 : Int32) = 0 from by decide), if_neg (show ¬ (2 : Int32) = 1 from by decide), if_pos rfl]
theorem cnt_3 (xv : XV) : F_X4_count xv 3 = F_X4_oneIf (F_X3_guideGoesBack xv.2.1.2.1) := by
  unfold F_X4_count
  rw [if_neg (show ¬ (3 : Int32) = 0 from by decide), if_neg (show ¬ (3 : Int32) = 1 from by decide), if_neg (show ¬ (3 : Int32) = 2 from by decide), if_pos rfl]
theorem cnt_4 (xv : XV) : F_X4_count xv 4 = xv.2.1.1 1 := by
  unfold F_X4_count
  rw [if_neg (show ¬ (4 : Int32) = 0 from by decide), if_neg (show ¬ (4 : Int32) = 1 from by decide), if_neg (show ¬ (4 : Int32) = 2 from by decide), if_neg (show ¬ (4 : Int32) = 3 from by decide), if_pos rfl]
theorem cnt_5 (xv : XV) : F_X4_count xv 5 = xv.2.1.1 4 := by
  unfold F_X4_count
  rw [if_neg (show ¬ (5 : Int32) = 0 from by decide), if_neg (show ¬ (5 : Int32) = 1 from by decide), if_neg (show ¬ (5 : Int32) = 2 from by decide), if_neg (show ¬ (5 : Int32) = 3 from by decide), if_neg (show ¬ (5 : Int32) = 4 from by decide), if_pos rfl]
theorem cnt_6 (xv : XV) : F_X4_count xv 6 = F_X4_oneIf (xv.2.1.1 2) := by
  unfold F_X4_count
  rw [if_neg (show ¬ (6 : Int32) = 0 from by decide), if_neg (show ¬ (6 : Int32) = 1 from by decide), if_neg (show ¬ (6 : Int32) = 2 from by decide), if_neg (show ¬ (6 : Int32) = 3 from by decide), if_neg (show ¬ (6 : Int32) = 4 from by decide), if_neg (show ¬ (6 : Int32) = 5 from by decide), if_pos rfl]
theorem cnt_7 (xv : XV) : F_X4_count xv 7 = F_X4_oneIf (F_X2_isConeEmpty xv.2.1) := by
  unfold F_X4_count
  rw [if_neg (show ¬ (7 : Int32) = 0 from by decide), if_neg (show ¬ (7 : Int32) = 1 from by decide), if_neg (show ¬ (7 : Int32) = 2 from by decide), if_neg (show ¬ (7 : Int32) = 3 from by decide), if_neg (show ¬ (7 : Int32) = 4 from by decide), if_neg (show ¬ (7 : Int32) = 5 from by decide), if_neg (show ¬ (7 : Int32) = 6 from by decide), if_pos rfl]
theorem cnt_8 (xv : XV) : F_X4_count xv 8 = F_X4_oneIf (F_X3_isFull xv.2.1.2.1) := by
  unfold F_X4_count
  rw [if_neg (show ¬ (8 : Int32) = 0 from by decide), if_neg (show ¬ (8 : Int32) = 1 from by decide), if_neg (show ¬ (8 : Int32) = 2 from by decide), if_neg (show ¬ (8 : Int32) = 3 from by decide), if_neg (show ¬ (8 : Int32) = 4 from by decide), if_neg (show ¬ (8 : Int32) = 5 from by decide), if_neg (show ¬ (8 : Int32) = 6 from by decide), if_neg (show ¬ (8 : Int32) = 7 from by decide), if_pos rfl]
theorem cnt_9 (xv : XV) : F_X4_count xv 9 = F_X3_evenness xv.2.1.2.1 := by
  unfold F_X4_count
  rw [if_neg (show ¬ (9 : Int32) = 0 from by decide), if_neg (show ¬ (9 : Int32) = 1 from by decide), if_neg (show ¬ (9 : Int32) = 2 from by decide), if_neg (show ¬ (9 : Int32) = 3 from by decide), if_neg (show ¬ (9 : Int32) = 4 from by decide), if_neg (show ¬ (9 : Int32) = 5 from by decide), if_neg (show ¬ (9 : Int32) = 6 from by decide), if_neg (show ¬ (9 : Int32) = 7 from by decide), if_neg (show ¬ (9 : Int32) = 8 from by decide), if_pos rfl]
theorem cnt_10 (xv : XV) : F_X4_count xv 10 = F_X3_ribbons xv.2.1.2.1 := by
  unfold F_X4_count
  rw [if_neg (show ¬ (10 : Int32) = 0 from by decide), if_neg (show ¬ (10 : Int32) = 1 from by decide), if_neg (show ¬ (10 : Int32) = 2 from by decide), if_neg (show ¬ (10 : Int32) = 3 from by decide), if_neg (show ¬ (10 : Int32) = 4 from by decide), if_neg (show ¬ (10 : Int32) = 5 from by decide), if_neg (show ¬ (10 : Int32) = 6 from by decide), if_neg (show ¬ (10 : Int32) = 7 from by decide), if_neg (show ¬ (10 : Int32) = 8 from by decide), if_neg (show ¬ (10 : Int32) = 9 from by decide), if_pos rfl]
theorem cnt_11 (xv : XV) : F_X4_count xv 11 = F_X2_allKnots xv.2.1 := by
  unfold F_X4_count
  rw [if_neg (show ¬ (11 : Int32) = 0 from by decide), if_neg (show ¬ (11 : Int32) = 1 from by decide), if_neg (show ¬ (11 : Int32) = 2 from by decide), if_neg (show ¬ (11 : Int32) = 3 from by decide), if_neg (show ¬ (11 : Int32) = 4 from by decide), if_neg (show ¬ (11 : Int32) = 5 from by decide), if_neg (show ¬ (11 : Int32) = 6 from by decide), if_neg (show ¬ (11 : Int32) = 7 from by decide), if_neg (show ¬ (11 : Int32) = 8 from by decide), if_neg (show ¬ (11 : Int32) = 9 from by decide), if_neg (show ¬ (11 : Int32) = 10 from by decide), if_pos rfl]
theorem cnt_12 (xv : XV) : F_X4_count xv 12 = xv.2.1.1 5 := by
  unfold F_X4_count
  rw [if_neg (show ¬ (12 : Int32) = 0 from by decide), if_neg (show ¬ (12 : Int32) = 1 from by decide), if_neg (show ¬ (12 : Int32) = 2 from by decide), if_neg (show ¬ (12 : Int32) = 3 from by decide), if_neg (show ¬ (12 : Int32) = 4 from by decide), if_neg (show ¬ (12 : Int32) = 5 from by decide), if_neg (show ¬ (12 : Int32) = 6 from by decide), if_neg (show ¬ (12 : Int32) = 7 from by decide), if_neg (show ¬ (12 : Int32) = 8 from by decide), if_neg (show ¬ (12 : Int32) = 9 from by decide), if_neg (show ¬ (12 : Int32) = 10 from by decide), if_neg (show ¬ (12 : Int32) = 11 from by decide), if_pos rfl]
theorem cnt_13 (xv : XV) : F_X4_count xv 13 = xv.2.1.1 6 := by
  unfold F_X4_count
  rw [if_neg (show ¬ (13 : Int32) = 0 from by decide), if_neg (show ¬ (13 : Int32) = 1 from by decide), if_neg (show ¬ (13 : Int32) = 2 from by decide), if_neg (show ¬ (13 : Int32) = 3 from by decide), if_neg (show ¬ (13 : Int32) = 4 from by decide), if_neg (show ¬ (13 : Int32) = 5 from by decide), if_neg (show ¬ (13 : Int32) = 6 from by decide), if_neg (show ¬ (13 : Int32) = 7 from by decide), if_neg (show ¬ (13 : Int32) = 8 from by decide), if_neg (show ¬ (13 : Int32) = 9 from by decide), if_neg (show ¬ (13 : Int32) = 10 from by decide), if_neg (show ¬ (13 : Int32) = 11 from by decide), if_neg (show ¬ (13 : Int32) = 12 from by decide), if_pos rfl]
theorem cnt_14 (xv : XV) : F_X4_count xv 14 = xv.2.1.1 7 := by
  unfold F_X4_count
  rw [if_neg (show ¬ (14 : Int32) = 0 from by decide), if_neg (show ¬ (14 : Int32) = 1 from by decide), if_neg (show ¬ (14 : Int32) = 2 from by decide), if_neg (show ¬ (14 : Int32) = 3 from by decide), if_neg (show ¬ (14 : Int32) = 4 from by decide), if_neg (show ¬ (14 : Int32) = 5 from by decide), if_neg (show ¬ (14 : Int32) = 6 from by decide), if_neg (show ¬ (14 : Int32) = 7 from by decide), if_neg (show ¬ (14 : Int32) = 8 from by decide), if_neg (show ¬ (14 : Int32) = 9 from by decide), if_neg (show ¬ (14 : Int32) = 10 from by decide), if_neg (show ¬ (14 : Int32) = 11 from by decide), if_neg (show ¬ (14 : Int32) = 12 from by decide), if_neg (show ¬ (14 : Int32) = 13 from by decide), if_pos rfl]
theorem cnt_20 (xv : XV) : F_X4_count xv 20 = xv.2.1.2.2.2 0 := by
  unfold F_X4_count
  rw [if_neg (show ¬ (20 : Int32) = 0 from by decide), if_neg (show ¬ (20 : Int32) = 1 from by decide), if_neg (show ¬ (20 : Int32) = 2 from by decide), if_neg (show ¬ (20 : Int32) = 3 from by decide), if_neg (show ¬ (20 : Int32) = 4 from by decide), if_neg (show ¬ (20 : Int32) = 5 from by decide), if_neg (show ¬ (20 : Int32) = 6 from by decide), if_neg (show ¬ (20 : Int32) = 7 from by decide), if_neg (show ¬ (20 : Int32) = 8 from by decide), if_neg (show ¬ (20 : Int32) = 9 from by decide), if_neg (show ¬ (20 : Int32) = 10 from by decide), if_neg (show ¬ (20 : Int32) = 11 from by decide), if_neg (show ¬ (20 : Int32) = 12 from by decide), if_neg (show ¬ (20 : Int32) = 13 from by decide), if_neg (show ¬ (20 : Int32) = 14 from by decide), if_neg (show ¬ (20 : Int32) = 15 from by decide), if_neg (show ¬ (20 : Int32) = 16 from by decide), if_pos rfl, show (20 : Int32) - 20 = 0 from by decide]
  exact num_0 _
theorem cnt_21 (xv : XV) : F_X4_count xv 21 = xv.2.1.2.2.2 1 := by
  unfold F_X4_count
  rw [if_neg (show ¬ (21 : Int32) = 0 from by decide), if_neg (show ¬ (21 : Int32) = 1 from by decide), if_neg (show ¬ (21 : Int32) = 2 from by decide), if_neg (show ¬ (21 : Int32) = 3 from by decide), if_neg (show ¬ (21 : Int32) = 4 from by decide), if_neg (show ¬ (21 : Int32) = 5 from by decide), if_neg (show ¬ (21 : Int32) = 6 from by decide), if_neg (show ¬ (21 : Int32) = 7 from by decide), if_neg (show ¬ (21 : Int32) = 8 from by decide), if_neg (show ¬ (21 : Int32) = 9 from by decide), if_neg (show ¬ (21 : Int32) = 10 from by decide), if_neg (show ¬ (21 : Int32) = 11 from by decide), if_neg (show ¬ (21 : Int32) = 12 from by decide), if_neg (show ¬ (21 : Int32) = 13 from by decide), if_neg (show ¬ (21 : Int32) = 14 from by decide), if_neg (show ¬ (21 : Int32) = 15 from by decide), if_neg (show ¬ (21 : Int32) = 16 from by decide), if_neg (show ¬ (21 : Int32) = 20 from by decide), if_pos rfl, show (21 : Int32) - 20 = 1 from by decide]
  exact num_1 _
theorem cnt_22 (xv : XV) : F_X4_count xv 22 = xv.2.1.2.2.2 2 := by
  unfold F_X4_count
  rw [if_neg (show ¬ (22 : Int32) = 0 from by decide), if_neg (show ¬ (22 : Int32) = 1 from by decide), if_neg (show ¬ (22 : Int32) = 2 from by decide), if_neg (show ¬ (22 : Int32) = 3 from by decide), if_neg (show ¬ (22 : Int32) = 4 from by decide), if_neg (show ¬ (22 : Int32) = 5 from by decide), if_neg (show ¬ (22 : Int32) = 6 from by decide), if_neg (show ¬ (22 : Int32) = 7 from by decide), if_neg (show ¬ (22 : Int32) = 8 from by decide), if_neg (show ¬ (22 : Int32) = 9 from by decide), if_neg (show ¬ (22 : Int32) = 10 from by decide), if_neg (show ¬ (22 : Int32) = 11 from by decide), if_neg (show ¬ (22 : Int32) = 12 from by decide), if_neg (show ¬ (22 : Int32) = 13 from by decide), if_neg (show ¬ (22 : Int32) = 14 from by decide), if_neg (show ¬ (22 : Int32) = 15 from by decide), if_neg (show ¬ (22 : Int32) = 16 from by decide), if_neg (show ¬ (22 : Int32) = 20 from by decide), if_neg (show ¬ (22 : Int32) = 21 from by decide), if_pos rfl, show (22 : Int32) - 20 = 2 from by decide]
  exact num_2 _
theorem cnt_23 (xv : XV) : F_X4_count xv 23 = xv.2.1.2.2.2 3 := by
  unfold F_X4_count
  rw [if_neg (show ¬ (23 : Int32) = 0 from by decide), if_neg (show ¬ (23 : Int32) = 1 from by decide), if_neg (show ¬ (23 : Int32) = 2 from by decide), if_neg (show ¬ (23 : Int32) = 3 from by decide), if_neg (show ¬ (23 : Int32) = 4 from by decide), if_neg (show ¬ (23 : Int32) = 5 from by decide), if_neg (show ¬ (23 : Int32) = 6 from by decide), if_neg (show ¬ (23 : Int32) = 7 from by decide), if_neg (show ¬ (23 : Int32) = 8 from by decide), if_neg (show ¬ (23 : Int32) = 9 from by decide), if_neg (show ¬ (23 : Int32) = 10 from by decide), if_neg (show ¬ (23 : Int32) = 11 from by decide), if_neg (show ¬ (23 : Int32) = 12 from by decide), if_neg (show ¬ (23 : Int32) = 13 from by decide), if_neg (show ¬ (23 : Int32) = 14 from by decide), if_neg (show ¬ (23 : Int32) = 15 from by decide), if_neg (show ¬ (23 : Int32) = 16 from by decide), if_neg (show ¬ (23 : Int32) = 20 from by decide), if_neg (show ¬ (23 : Int32) = 21 from by decide), if_neg (show ¬ (23 : Int32) = 22 from by decide), if_pos rfl, show (23 : Int32) - 20 = 3 from by decide]
  exact num_3 _
theorem cnt_24 (xv : XV) : F_X4_count xv 24 = xv.2.1.2.2.2 4 := by
  unfold F_X4_count
  rw [if_neg (show ¬ (24 : Int32) = 0 from by decide), if_neg (show ¬ (24 : Int32) = 1 from by decide), if_neg (show ¬ (24 : Int32) = 2 from by decide), if_neg (show ¬ (24 : Int32) = 3 from by decide), if_neg (show ¬ (24 : Int32) = 4 from by decide), if_neg (show ¬ (24 : Int32) = 5 from by decide), if_neg (show ¬ (24 : Int32) = 6 from by decide), if_neg (show ¬ (24 : Int32) = 7 from by decide), if_neg (show ¬ (24 : Int32) = 8 from by decide), if_neg (show ¬ (24 : Int32) = 9 from by decide), if_neg (show ¬ (24 : Int32) = 10 from by decide), if_neg (show ¬ (24 : Int32) = 11 from by decide), if_neg (show ¬ (24 : Int32) = 12 from by decide), if_neg (show ¬ (24 : Int32) = 13 from by decide), if_neg (show ¬ (24 : Int32) = 14 from by decide), if_neg (show ¬ (24 : Int32) = 15 from by decide), if_neg (show ¬ (24 : Int32) = 16 from by decide), if_neg (show ¬ (24 : Int32) = 20 from by decide), if_neg (show ¬ (24 : Int32) = 21 from by decide), if_neg (show ¬ (24 : Int32) = 22 from by decide), if_neg (show ¬ (24 : Int32) = 23 from by decide), if_pos rfl, show (24 : Int32) - 20 = 4 from by decide]
  exact num_4 _
theorem cnt_n (xv : XV) {i : Nat} (hi : i < 5) : F_X4_count xv (20 + nI i) = xv.2.1.2.2.2 i := by
  rcases (show i = 0 ∨ i = 1 ∨ i = 2 ∨ i = 3 ∨ i = 4 by omega) with rfl | rfl | rfl | rfl | rfl
  · exact cnt_20 xv
  · exact cnt_21 xv
  · exact cnt_22 xv
  · exact cnt_23 xv
  · exact cnt_24 xv
theorem one_eq {x : Int32} : F_X4_oneIf x = 1 ↔ ¬ x = 0 := by
  unfold F_X4_oneIf
  split
  · rename_i h
    exact ⟨fun z => absurd z (by decide), fun z => absurd h z⟩
  · rename_i h
    exact ⟨fun _ => h, fun _ => rfl⟩
theorem one_0 {x : Int32} : F_X4_oneIf x = 0 ↔ x = 0 := by
  unfold F_X4_oneIf
  split
  · rename_i h
    exact ⟨fun _ => h, fun _ => rfl⟩
  · rename_i h
    exact ⟨fun z => absurd z (by decide), fun z => absurd z h⟩
/-- two winders in one state, which is well -/
def Inv (B : Nat) (xv yv : XV) : Prop := xWF xv ∧ xWF yv ∧ xv.2.1 = yv.2.1 ∧ Well B xv.2.1
theorem Inv_mono {B B' : Nat} {xv yv : XV} (h : B ≤ B') (H : Inv B xv yv) : Inv B' xv yv := ⟨H.1, H.2.1, H.2.2.1, Well_mono h H.2.2.2⟩
/-- a step's answer, and what comes -/
def Fine (B : Nat) (r : Int32 × XV × XV) : Prop := r.1 = 1 ∧ Inv B r.2.1 r.2.2
theorem neg4 : ((-4 : Int32) < 0) := by decide
theorem neg5 : ((-5 : Int32) < 0) := by decide
theorem nx_neg {a : Int32} {v u : SV} (h : a < 0) : nx (a, v) u = u := if_pos h
theorem nx_pos {a : Nat} {v u : SV} (h : a < 2 ^ 31) : nx (nI a, v) u = v := if_neg (nI_pos h)
set_option maxHeartbeats 4000000 in
theorem step_knot {B : Nat} {xv yv : XV} (H : Inv B xv yv) (hB : B < 2 ^ 20) (p1 y : Int32) : Fine (B + 1) (K_L_isStep_548 xv yv p1 y (F_X4_count xv 0) (F_X4_count xv 1) (F_X4_count xv 12) (F_X4_count xv 13)) := by
  obtain ⟨hx, hy, he, hw⟩ := H
  obtain ⟨ax, bx⟩ := knot_x xv
  obtain ⟨ay, byy⟩ := knot_x yv
  rw [← he] at ay byy
  have wx := xWF_knot hx
  have wy := xWF_knot hy
  unfold K_L_isStep_548
  dsimp only
  generalize F_X4_knot xv = zx at ax bx wx ⊢
  generalize F_X4_knot yv = zy at ay byy wy ⊢
  obtain ⟨h, k, w, c, m, hU⟩ := id hw
  obtain ⟨d, hd1, hd2, hd⟩ := hU.2.2.1 3 (by omega)
  have hd2 : d ≤ 50 := hd2
  have hc := hU.2.2.2.1.1
  have hc9 := hU.2.2.2.1.2
  rw [if_pos (ax.trans ay.symm), cnt_23, cnt_1, cnt_6, hd, hc]
  have c9 : (nI d ≤ nI c) ↔ d ≤ c := nI_leI (by omega) (by omega)
  by_cases q : d ≤ c
  · rw [if_pos (c9.mpr q)]
    by_cases q2 : xv.2.1.1 2 = 0
    · have e := knot_w hU hd hd2 hB
      rw [if_pos q, if_pos q2] at e
      rw [e] at ax ay bx byy
      rw [if_neg (fun z => absurd q2 (one_eq.mp z)), if_pos rfl, if_pos ax]
      rw [nx_neg neg5] at bx byy
      exact ⟨rfl, wx, wy, bx.trans byy.symm, by rw [show zx.2.2.1 = _ from bx]; exact Well_mono (by omega) hw⟩
    · obtain ⟨p, v, hp, e, v1, v2, v3, v4, v5⟩ := knot_go hU hd q q2
      have kp := (hU.2.1 p hp).2.1
      rw [e] at ax ay bx byy
      rw [nx_pos (by omega)] at bx byy
      have ax : zx.1 = nI (k p + 1) := ax
      rw [if_pos (one_eq.mpr q2), if_neg (show ¬ (1 : Int32) = 0 from by decide), ax, if_neg (show ¬ nI (k p + 1) < 1 from nI_nlt (a := k p + 1) (b := 1) (by omega) (by omega)), cnt_6, cnt_11, cnt_11, cnt_1, cnt_0, cnt_0, bx, v2, v3, v4, v5, if_pos (one_0.mpr rfl), if_pos rfl, if_pos (nI_sub q).symm, if_pos rfl]
      exact ⟨rfl, wx, wy, bx.trans byy.symm, by rw [show zx.2.2.1 = _ from bx]; exact v1⟩
  · have e := knot_w hU hd hd2 hB
    rw [if_neg q] at e
    rw [e] at ax ay bx byy
    rw [if_neg (fun z => q (c9.mp z)), if_pos ax]
    rw [nx_neg neg4] at bx byy
    exact ⟨rfl, wx, wy, bx.trans byy.symm, by rw [show zx.2.2.1 = _ from bx]; exact Well_mono (by omega) hw⟩
set_option maxHeartbeats 4000000 in
theorem step_cone {B : Nat} {xv yv : XV} (H : Inv B xv yv) (p1 y : Int32) : Fine (B + 1) (K_L_isStep_685 xv yv p1 y (F_X4_count xv 0) (F_X4_count xv 1) (F_X4_count xv 12) (F_X4_count xv 13)) := by
  obtain ⟨hx, hy, he, hw⟩ := H
  unfold K_L_isStep_685
  dsimp only
  obtain ⟨x, hx1, hx9, ex⟩ : ∃ x : Nat, 1 ≤ x ∧ x ≤ 9999 ∧ 1 + F_L_up y (if F_L_up (y >>> ((8 : Int32) &&& 31)) 2 = 0 then 9999 else 500) = nI x := by
    have key : ∀ n : Nat, 0 < n → n ≤ 9999 → ∃ x : Nat, 1 ≤ x ∧ x ≤ 9999 ∧ 1 + F_L_up y (nI n) = nI x := fun n h0 hn => by
      obtain ⟨a, ha, e⟩ := up_nat y h0 (by omega)
      exact ⟨1 + a, by omega, by omega, by rw [e]; exact nI_add 1 a⟩
    split
    · exact key 9999 (by omega) (by omega)
    · exact key 500 (by omega) (by omega)
  rw [ex]
  obtain ⟨ax, bx⟩ := cone_x xv (nI x)
  obtain ⟨ay, byy⟩ := cone_x yv (nI x)
  rw [← he] at ay byy
  have wx := xWF_cone hx (a := nI x)
  have wy := xWF_cone hy (a := nI x)
  generalize F_X4_cone xv (nI x) = zx at ax bx wx ⊢
  generalize F_X4_cone yv (nI x) = zy at ay byy wy ⊢
  obtain ⟨h, k, w, c, m, hU⟩ := id hw
  have hc := hU.2.2.2.1.1
  have hc9 := hU.2.2.2.1.2
  obtain ⟨v, e, v1, v2, v3, v4⟩ := cone_go hU hx1 hx9
  rw [e] at ax ay bx byy
  rw [nx_pos (by omega)] at bx byy
  have r : Inv (B + 1) zx.2 zy.2 := ⟨wx, wy, bx.trans byy.symm, by rw [show zx.2.2.1 = _ from bx]; exact Well_mono (by omega) v1⟩
  rw [cnt_1, hc, if_pos ax, if_pos ay, cnt_1, bx, if_pos v2, cnt_0, cnt_6, bx]
  rcases v4 with z | z
  · rw [if_pos z]
    exact ⟨rfl, r⟩
  · rw [if_pos (one_eq.mpr (by rw [z]; decide))]
    split <;> exact ⟨rfl, r⟩
set_option maxHeartbeats 4000000 in
theorem step_doff {B : Nat} {xv yv : XV} (H : Inv B xv yv) (p1 y : Int32) : Fine (B + 1) (K_L_isStep_770 xv yv p1 y (F_X4_count xv 0) (F_X4_count xv 1) (F_X4_count xv 12) (F_X4_count xv 13)) := by
  have H0 := H
  obtain ⟨hx, hy, he, hw⟩ := H
  unfold K_L_isStep_770
  dsimp only
  by_cases c0 : F_L_up y 3 ≤ 0
  · rw [if_pos c0]
    obtain ⟨ax, bx⟩ := doff_x xv
    obtain ⟨ay, byy⟩ := doff_x yv
    rw [← he] at ay byy
    have wx := xWF_doff hx
    have wy := xWF_doff hy
    generalize F_X4_doff xv = zx at ax bx wx ⊢
    generalize F_X4_doff yv = zy at ay byy wy ⊢
    obtain ⟨h, k, w, c, m, hU⟩ := id hw
    have hsum := hU.1.1.sum (n := 12) (by omega)
    rw [if_pos (ax.trans ay.symm), cnt_0]
    by_cases q : xv.2.1.2.1.1 0 = 0
    · have e : F_X2_takePackageOff xv.2.1 = (-5, xv.2.1) := by
        unfold F_X2_takePackageOff
        rw [if_pos q]
      rw [e] at ax ay bx byy
      rw [nx_neg neg5] at bx byy
      rw [if_pos q, if_pos ax]
      exact ⟨rfl, wx, wy, bx.trans byy.symm, by rw [show zx.2.2.1 = _ from bx]; exact Well_mono (by omega) hw⟩
    · obtain ⟨v, e, v1, v2, v3, v4, v5, v6, v7⟩ := doff_go hU q
      rw [e] at ax ay bx byy
      have e0 : xv.2.1.2.1.1 0 = nI (sumN h 12) := hU.1.2.1
      have ax : zx.1 = xv.2.1.2.1.1 0 := ax
      rw [e0, nx_pos (by omega)] at bx byy
      rw [if_neg q, if_pos ax, cnt_0, cnt_14, cnt_14, cnt_9, cnt_2, cnt_12, cnt_12, cnt_13, cnt_13, bx, if_pos v2, if_pos v3, if_pos v4, if_pos v5, if_pos v6, if_pos v7]
      exact ⟨rfl, wx, wy, bx.trans byy.symm, by rw [show zx.2.2.1 = _ from bx]; exact Well_mono (by omega) v1⟩
  · rw [if_neg c0]
    exact ⟨rfl, Inv_mono (by omega) H0⟩
set_option maxHeartbeats 4000000 in
theorem step_set {B : Nat} {xv yv : XV} (H : Inv B xv yv) (p1 y : Int32) : Fine (B + 1) (K_L_isStep_418 xv yv p1 y (F_X4_count xv 0) (F_X4_count xv 1) (F_X4_count xv 12) (F_X4_count xv 13)) := by
  obtain ⟨hx, hy, he, hw⟩ := H
  unfold K_L_isStep_418
  dsimp only
  obtain ⟨i, hi, ei⟩ := up_nat y (n := 5) (by omega) (by omega)
  have ei : F_L_up y 5 = nI i := ei
  rw [ei]
  obtain ⟨x, hx1, hx2, ex⟩ : ∃ x : Nat, loN i ≤ x ∧ x ≤ hiN i ∧ (if nI i = 0 then (1 + (F_L_up (y >>> ((3 : Int32) &&& 31)) 11)) else (if nI i = 1 then (F_L_up (y >>> ((3 : Int32) &&& 31)) 10) else (if nI i = 2 then (F_L_up (y >>> ((3 : Int32) &&& 31)) 6) else (if nI i = 3 then (5 + (F_L_up (y >>> ((3 : Int32) &&& 31)) 46)) else (10 + (F_L_up (y >>> ((3 : Int32) &&& 31)) 90)))))) = nI x := by
    generalize y >>> ((3 : Int32) &&& 31) = t
    have e0 : (nI i = 0) ↔ i = 0 := nI_eq (b := 0) (by omega) (by omega)
    have e1 : (nI i = 1) ↔ i = 1 := nI_eq (b := 1) (by omega) (by omega)
    have e2 : (nI i = 2) ↔ i = 2 := nI_eq (b := 2) (by omega) (by omega)
    have e3 : (nI i = 3) ↔ i = 3 := nI_eq (b := 3) (by omega) (by omega)
    rcases (show i = 0 ∨ i = 1 ∨ i = 2 ∨ i = 3 ∨ i = 4 by omega) with q | q | q | q | q
    · obtain ⟨a, ha, e⟩ := up_nat t (n := 11) (by omega) (by omega)
      subst q
      refine ⟨1 + a, show 1 ≤ 1 + a by omega, show 1 + a ≤ 11 by omega, ?_⟩
      rw [if_pos (e0.mpr rfl)]
      exact (congrArg (fun z => (1 : Int32) + z) e).trans (nI_add 1 a)
    · obtain ⟨a, ha, e⟩ := up_nat t (n := 10) (by omega) (by omega)
      subst q
      refine ⟨a, Nat.zero_le a, show a ≤ 9 by omega, ?_⟩
      rw [if_neg (fun z => absurd (e0.mp z) (by omega)), if_pos (e1.mpr rfl)]
      exact e
    · obtain ⟨a, ha, e⟩ := up_nat t (n := 6) (by omega) (by omega)
      subst q
      refine ⟨a, Nat.zero_le a, show a ≤ 5 by omega, ?_⟩
      rw [if_neg (fun z => absurd (e0.mp z) (by omega)), if_neg (fun z => absurd (e1.mp z) (by omega)), if_pos (e2.mpr rfl)]
      exact e
    · obtain ⟨a, ha, e⟩ := up_nat t (n := 46) (by omega) (by omega)
      subst q
      refine ⟨5 + a, show 5 ≤ 5 + a by omega, show 5 + a ≤ 50 by omega, ?_⟩
      rw [if_neg (fun z => absurd (e0.mp z) (by omega)), if_neg (fun z => absurd (e1.mp z) (by omega)), if_neg (fun z => absurd (e2.mp z) (by omega)), if_pos (e3.mpr rfl)]
      exact (congrArg (fun z => (5 : Int32) + z) e).trans (nI_add 5 a)
    · obtain ⟨a, ha, e⟩ := up_nat t (n := 90) (by omega) (by omega)
      subst q
      refine ⟨10 + a, show 10 ≤ 10 + a by omega, show 10 + a ≤ 99 by omega, ?_⟩
      rw [if_neg (fun z => absurd (e0.mp z) (by omega)), if_neg (fun z => absurd (e1.mp z) (by omega)), if_neg (fun z => absurd (e2.mp z) (by omega)), if_neg (fun z => absurd (e3.mp z) (by omega))]
      exact (congrArg (fun z => (10 : Int32) + z) e).trans (nI_add 10 a)
  rw [ex]
  obtain ⟨ax, bx⟩ := set_x xv (nI i) (nI x)
  obtain ⟨ay, byy⟩ := set_x yv (nI i) (nI x)
  rw [← he] at ay byy
  have wx := xWF_set hx (a := nI i) (b := nI x)
  have wy := xWF_set hy (a := nI i) (b := nI x)
  generalize F_X4_set xv (nI i) (nI x) = zx at ax bx wx ⊢
  generalize F_X4_set yv (nI i) (nI x) = zy at ay byy wy ⊢
  have e := set_w (u := xv.2.1) hi hx1 hx2
  rw [if_pos (ax.trans ay.symm), cnt_n _ hi]
  by_cases q : xv.2.1.2.2.2 i = nI x
  · rw [if_pos q] at e
    rw [e, nx_neg neg5] at bx byy
    rw [bx, if_pos q]
    exact ⟨rfl, wx, wy, bx.trans byy.symm, by rw [show zx.2.2.1 = _ from bx]; exact Well_mono (by omega) hw⟩
  · rw [if_neg q] at e
    obtain ⟨s, hs1, hs2, es⟩ : ∃ s : Nat, loN i ≤ s ∧ s ≤ hiN i ∧ xv.2.1.2.2.2 i = nI s := by
      obtain ⟨h, k, w, c, m, hU⟩ := id hw
      exact hU.2.2.1 i hi
    have h99 := hiN_le i
    rw [e, es, nx_pos (by omega)] at bx byy
    rw [bx]
    dsimp only
    rw [if_pos (upd_eq (f := xv.2.1.2.2.2) (i := i) (x := nI x))]
    exact ⟨rfl, wx, wy, bx.trans byy.symm, by rw [show zx.2.2.1 = _ from bx]; exact Well_mono (by omega) (set_well hw hx1 hx2)⟩
