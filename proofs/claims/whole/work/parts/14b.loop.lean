/-! The law's loop -/
set_option maxHeartbeats 4000000 in
set_option maxRecDepth 100000 in
theorem law_turn {T : TT} {X : CX} (hX : Fit T X RL 4 wsL_law cL_law (some .boolean) room_1) {Q : State → Prop} {b L x al ke tr hi sn te : Nat} {ad : Nat → Nat} {xs : Nat → Int32} (hs : Scr X b L xs) (hL : L ≤ 2048) {i : Nat} (hi4 : i + 4 ≤ L) {xv : XV} {mv : MV} {B O : Nat} (hB : B + 60 < 2 ^ 20) (hO : O < 1000) (H : RX xv mv B O) (next : ∀ (xv : XV) (mv : MV), RX xv mv (B + 60) (O + 1) → G T X Q 51 894 (wXX T ad xv ++ wMo T x al ke tr hi sn te mv) [(3, .int (nI i)), (2, .ref x), (1, .ref (ad 0)), (0, .ref b)] 503 []) (y : Int32) : G T X Q 51 894 (wXX T ad xv ++ wMo T x al ke tr hi sn te mv) [(3, .int (nI i)), (2, .ref x), (1, .ref (ad 0)), (0, .ref b)] 32 [.int y] := by
  by_cases c : 0 ≤ y.toInt ∧ y.toInt ≤ 18
  · obtain ⟨k, _, hk, e⟩ := nat_of (a := 0) (b := 18) c (by omega)
    subst e
    rcases (show k = 0 ∨ k = 1 ∨ k = 2 ∨ k = 3 ∨ k = 4 ∨ k = 5 ∨ k = 6 ∨ k = 7 ∨ k = 8 ∨ k = 9 ∨ k = 10 ∨ k = 11 ∨ k = 12 ∨ k = 13 ∨ k = 14 ∨ k = 15 ∨ k = 16 ∨ k = 17 ∨ k = 18 by omega) with rfl | rfl | rfl | rfl | rfl | rfl | rfl | rfl | rfl | rfl | rfl | rfl | rfl | rfl | rfl | rfl | rfl | rfl | rfl
    · exact g_tabIn hX (off := 92) 124 dL_law_32 (by decide) (by decide) (by decide) (by decide) (law_0 hX hs hL hi4 hB hO H next)
    · exact g_tabIn hX (off := 125) 157 dL_law_32 (by decide) (by decide) (by decide) (by decide) (law_1 hX hs hL hi4 hB hO H next)
    · exact g_tabIn hX (off := 148) 180 dL_law_32 (by decide) (by decide) (by decide) (by decide) (law_2 hX hs hL hi4 hB hO H next)
    · exact g_tabIn hX (off := 161) 193 dL_law_32 (by decide) (by decide) (by decide) (by decide) (law_3 hX hs hL hi4 hB hO H next)
    · exact g_tabIn hX (off := 184) 216 dL_law_32 (by decide) (by decide) (by decide) (by decide) (law_4 hX hs hL hi4 hB hO H next)
    · exact g_tabIn hX (off := 197) 229 dL_law_32 (by decide) (by decide) (by decide) (by decide) (law_5 hX hs hL hi4 hB hO H next)
    · exact g_tabIn hX (off := 222) 254 dL_law_32 (by decide) (by decide) (by decide) (by decide) (law_6 hX hs hL hi4 hB hO H next)
    · exact g_tabIn hX (off := 235) 267 dL_law_32 (by decide) (by decide) (by decide) (by decide) (law_7 hX hs hL hi4 hB hO H next)
    · exact g_tabIn hX (off := 248) 280 dL_law_32 (by decide) (by decide) (by decide) (by decide) (law_8 hX hs hL hi4 hB hO H next)
    · exact g_tabIn hX (off := 261) 293 dL_law_32 (by decide) (by decide) (by decide) (by decide) (law_9 hX hs hL hi4 hB hO H next)
    · exact g_tabIn hX (off := 274) 306 dL_law_32 (by decide) (by decide) (by decide) (by decide) (law_10 hX hs hL hi4 hB hO H next)
    · exact g_tabIn hX (off := 287) 319 dL_law_32 (by decide) (by decide) (by decide) (by decide) (law_11 hX hs hL hi4 hB hO H next)
    · exact g_tabIn hX (off := 300) 332 dL_law_32 (by decide) (by decide) (by decide) (by decide) (law_12 hX hs hL hi4 hB hO H next)
    · exact g_tabIn hX (off := 333) 365 dL_law_32 (by decide) (by decide) (by decide) (by decide) (law_13 hX hs hL hi4 hB hO H next)
    · exact g_tabIn hX (off := 346) 378 dL_law_32 (by decide) (by decide) (by decide) (by decide) (law_14 hX hs hL hi4 hB hO H next)
    · exact g_tabIn hX (off := 359) 391 dL_law_32 (by decide) (by decide) (by decide) (by decide) (law_15 hX hs hL hi4 hB hO H next)
    · exact g_tabIn hX (off := 402) 434 dL_law_32 (by decide) (by decide) (by decide) (by decide) (law_16 hX hs hL hi4 hB hO H next)
    · exact g_tabIn hX (off := 425) 457 dL_law_32 (by decide) (by decide) (by decide) (by decide) (law_17 hX hs hL hi4 hB hO H next)
    · exact g_tabIn hX (off := 448) 480 dL_law_32 (by decide) (by decide) (by decide) (by decide) (law_18 hX hs hL hi4 hB hO H next)
  · exact g_tabOut hX 503 dL_law_32 (by omega) (by decide) (next xv mv (RX_mono (by omega) (by omega) H))
theorem i4 : Int32.ofInt 4 = nI 4 := by decide
theorem gt_4 {i L : Nat} (hi : i ≤ 2048) (hL : L ≤ 2048) : (nI L - 4 < nI i) ↔ L < i + 4 := by
  have e4 : (4 : Int32).toInt = 4 := by decide
  rw [Int32.lt_iff_toInt_lt, nI_toInt (by omega), Int32.toInt_sub, nI_toInt (by omega), e4, Int.bmod_eq_of_le (by omega) (by omega)]
  omega
set_option maxHeartbeats 4000000 in
set_option maxRecDepth 100000 in
theorem law_loop {T : TT} {X : CX} (hX : Fit T X RL 4 wsL_law cL_law (some .boolean) room_1) {Q : State → Prop} {b L x al ke tr hi sn te : Nat} {ad : Nat → Nat} {xs : Nat → Int32} (hs : Scr X b L xs) (hL : L ≤ 2048) (kend : ∀ (xv : XV) (mv : MV) (lv : List (Nat × Value)), G T X Q 51 894 (wXX T ad xv ++ wMo T x al ke tr hi sn te mv) lv 510 [.int 1]) : ∀ (r k : Nat) (xv : XV) (mv : MV), k + r = 513 → k ≤ 512 → 4 * k ≤ L + 3 → RX xv mv (60 * k) k → G T X Q 51 894 (wXX T ad xv ++ wMo T x al ke tr hi sn te mv) [(3, .int (nI (4 * k))), (2, .ref x), (1, .ref (ad 0)), (0, .ref b)] 18 [] := by
  intro r
  induction r with
  | zero => intro k xv mv h1 h2; omega
  | succ r ih =>
    intro k xv mv h1 h2 h3 H
    refine g_iload_n hX dL_law_18 rfl 0 rfl ?_
    refine g_aload_n hX dL_law_19 rfl 3 rfl ?_
    refine g_slen hX hs dL_law_20 ?_
    refine g_iconst hX (v := 4) dL_law_21 (by decide) ?_
    refine g_isub hX dL_law_22 ?_
    refine g_icmp_gt hX 509 dL_law_23 (by decide) (fun c => ?_) (fun c => ?_)
    · refine g_iconst hX (v := 1) dL_law_509 (by decide) ?_
      exact kend xv mv _
    · have hc : 4 * k + 4 ≤ L := by
        rw [gt_4 (by omega) hL] at c
        omega
      refine g_aload_n hX dL_law_26 rfl 3 rfl ?_
      refine g_iload_n hX dL_law_27 rfl 0 rfl ?_
      refine g_sld hX hs (vp_in_nI (by omega) (by omega)) dL_law_28 ?_
      refine g_bipush hX (v := 31) dL_law_29 (by decide) ?_
      refine g_iand hX dL_law_31 ?_
      refine law_turn hX hs hL hc (by omega) (by omega) H (fun xv' mv' H' => ?_) _
      refine g_iinc hX (lv' := [(3, .int (nI (4 * (k + 1)))), (2, .ref x), (1, .ref (ad 0)), (0, .ref b)]) (v := nI (4 * (k + 1))) 0 dL_law_503 rfl (by rw [i4, nI_add]; exact congrArg nI (by omega)) (by decide) rfl ?_
      refine g_goto hX 18 dL_law_506 (by decide) ?_
      refine ih (k + 1) xv' mv' (by omega) (by omega) (by omega) ?_
      exact RX_mono (by omega) (Nat.le_refl _) H'
