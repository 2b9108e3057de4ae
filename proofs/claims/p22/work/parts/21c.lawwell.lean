/-! L_isWell -/
def rmL_isWell : Room := { frames := 5, cells := 0, slots := 0, locals := 109 }
def K_L_isWell_573 (xv : XV) (wr : Int32) (ri : Int32) (mo : Int32) (le : Int32) (ba : Int32) (e : Int32) (bro : Int32) (emp : Int32) : Int32 × XV :=
  (if e = 0 then (0, xv) else (if bro = 0 then (if emp = 0 then (if ba = 0 then (if ri ≤ 0 then (if (mo - le) ≤ 9 then (if (F_X4_wrong xv) = 0 then (1, xv) else (0, xv)) else (if (F_X4_wrong xv) = 5 then (1, xv) else (0, xv))) else (if (F_X4_wrong xv) = 4 then (1, xv) else (0, xv))) else (if (F_X4_wrong xv) = 3 then (1, xv) else (0, xv))) else (if (F_X4_wrong xv) = 2 then (1, xv) else (0, xv))) else (if (F_X4_wrong xv) = 1 then (1, xv) else (0, xv))))
def K_L_isWell_292 (xv : XV) (wr : Int32) (kn : Int32) (ri : Int32) (mo : Int32) (le : Int32) (ba : Int32) (e : Int32) : Int32 × XV :=
  (let z_293 := F_X4_breaksIn xv
  (let b_313_1 : Int32 := (if (F_X4_count z_293.2 6) = 1 then 1 else 0)
  (let b_330_2 : Int32 := (if (F_X4_count z_293.2 7) = 1 then 1 else 0)
  (let b_506_3 : Int32 := (if e = 0 then 0 else (if wr = (F_X4_count z_293.2 0) then (if kn = (F_X4_count z_293.2 11) then (if ri = (F_X4_count z_293.2 10) then (if (mo - le) = (F_X4_count z_293.2 9) then (if (F_X4_count z_293.2 8) = 1 then (if mo = 200 then (if (F_X4_count z_293.2 1) = 0 then (if b_330_2 = 1 then (if (F_X4_count z_293.2 4) < 0 then 0 else (if 300 < (F_X4_count z_293.2 4) then 0 else (if (F_X4_count z_293.2 2) < 0 then 0 else (if 11 < (F_X4_count z_293.2 2) then 0 else (if 0 < (F_X4_count z_293.2 2) then (if (F_X4_count z_293.2 2) < 11 then 1 else (if (F_X4_count z_293.2 3) = 1 then 1 else 0)) else (if (F_X4_count z_293.2 3) = 0 then (if (F_X4_count z_293.2 2) < 11 then 1 else (if (F_X4_count z_293.2 3) = 1 then 1 else 0)) else 0)))))) else 0) else (if b_330_2 = 0 then (if (F_X4_count z_293.2 4) < 0 then 0 else (if 300 < (F_X4_count z_293.2 4) then 0 else (if (F_X4_count z_293.2 2) < 0 then 0 else (if 11 < (F_X4_count z_293.2 2) then 0 else (if 0 < (F_X4_count z_293.2 2) then (if (F_X4_count z_293.2 2) < 11 then 1 else (if (F_X4_count z_293.2 3) = 1 then 1 else 0)) else (if (F_X4_count z_293.2 3) = 0 then (if (F_X4_count z_293.2 2) < 11 then 1 else (if (F_X4_count z_293.2 3) = 1 then 1 else 0)) else 0)))))) else 0)) else 0) else (if mo = 200 then 0 else (if (F_X4_count z_293.2 1) = 0 then (if b_330_2 = 1 then (if (F_X4_count z_293.2 4) < 0 then 0 else (if 300 < (F_X4_count z_293.2 4) then 0 else (if (F_X4_count z_293.2 2) < 0 then 0 else (if 11 < (F_X4_count z_293.2 2) then 0 else (if 0 < (F_X4_count z_293.2 2) then (if (F_X4_count z_293.2 2) < 11 then 1 else (if (F_X4_count z_293.2 3) = 1 then 1 else 0)) else (if (F_X4_count z_293.2 3) = 0 then (if (F_X4_count z_293.2 2) < 11 then 1 else (if (F_X4_count z_293.2 3) = 1 then 1 else 0)) else 0)))))) else 0) else (if b_330_2 = 0 then (if (F_X4_count z_293.2 4) < 0 then 0 else (if 300 < (F_X4_count z_293.2 4) then 0 else (if (F_X4_count z_293.2 2) < 0 then 0 else (if 11 < (F_X4_count z_293.2 2) then 0 else (if 0 < (F_X4_count z_293.2 2) then (if (F_X4_count z_293.2 2) < 11 then 1 else (if (F_X4_count z_293.2 3) = 1 then 1 else 0)) else (if (F_X4_count z_293.2 3) = 0 then (if (F_X4_count z_293.2 2) < 11 then 1 else (if (F_X4_count z_293.2 3) = 1 then 1 else 0)) else 0)))))) else 0)))) else 0) else 0) else 0) else 0))
  (let b_571_4 : Int32 := (if b_506_3 = 0 then 0 else (if b_313_1 = 0 then (if b_330_2 = 0 then (if z_293.1 = (-5) then (if 0 < wr then 1 else (if (F_X4_count z_293.2 5) = 0 then 1 else 0)) else (if z_293.1 < 1 then 0 else (if 1000 < z_293.1 then 0 else (if 0 < wr then 1 else (if (F_X4_count z_293.2 5) = 0 then 1 else 0))))) else (if z_293.1 = (-4) then (if 0 < wr then 1 else (if (F_X4_count z_293.2 5) = 0 then 1 else 0)) else 0)) else (if z_293.1 = (-4) then (if 0 < wr then 1 else (if (F_X4_count z_293.2 5) = 0 then 1 else 0)) else 0)))
  K_L_isWell_573 z_293.2 wr ri mo le ba b_571_4 b_313_1 b_330_2)))))
def K_L_isWell_23 : Nat → XV → Nat → Int32 → Int32 → Int32 → Int32 → Int32 → Int32 → Int32 → Int32 × XV
  | 0, xv, j, wr, kn, ri, mo, le, ba, e => (0, xv)
  | n + 1, xv, j, wr, kn, ri, mo, le, ba, e => (if 12 ≤ (nI j) then K_L_isWell_292 xv wr kn ri mo le ba e else (if e = 0 then K_L_isWell_292 xv wr kn ri mo le ba e else (let b_70_5 : Int32 := (if (nI j) = 0 then 1 else (if ((F_X4_place xv (nI j) 0) - (F_X4_place xv ((nI j) - 1) 0)) ≤ 5 then 0 else 1))
  (let b_100_6 : Int32 := (if (nI j) = 11 then 1 else (if ((F_X4_place xv (nI j) 0) - (F_X4_place xv (nI (j + 1)) 0)) ≤ 5 then 0 else 1))
  (let b_204_7 : Int32 := (if (F_X4_place xv (nI j) 0) < 0 then 0 else (if 200 < (F_X4_place xv (nI j) 0) then 0 else (if (F_X4_place xv (nI j) 2) = 1 then (if b_70_5 = 0 then 0 else (if b_100_6 = 0 then 0 else (if (F_X4_place xv (nI j) 3) = 1 then (if (F_X4_place xv (nI j) 1) ≤ 2 then 0 else (if (F_X4_place xv (nI j) 1) = 0 then 1 else (if (F_X4_place xv (nI j) 0) ≤ 0 then 0 else 1))) else (if (F_X4_place xv (nI j) 1) ≤ 2 then (if (F_X4_place xv (nI j) 1) = 0 then 1 else (if (F_X4_place xv (nI j) 0) ≤ 0 then 0 else 1)) else 0)))) else (if b_70_5 = 0 then (if (F_X4_place xv (nI j) 3) = 1 then (if (F_X4_place xv (nI j) 1) ≤ 2 then 0 else (if (F_X4_place xv (nI j) 1) = 0 then 1 else (if (F_X4_place xv (nI j) 0) ≤ 0 then 0 else 1))) else (if (F_X4_place xv (nI j) 1) ≤ 2 then (if (F_X4_place xv (nI j) 1) = 0 then 1 else (if (F_X4_place xv (nI j) 0) ≤ 0 then 0 else 1)) else 0)) else (if b_100_6 = 0 then (if (F_X4_place xv (nI j) 3) = 1 then (if (F_X4_place xv (nI j) 1) ≤ 2 then 0 else (if (F_X4_place xv (nI j) 1) = 0 then 1 else (if (F_X4_place xv (nI j) 0) ≤ 0 then 0 else 1))) else (if (F_X4_place xv (nI j) 1) ≤ 2 then (if (F_X4_place xv (nI j) 1) = 0 then 1 else (if (F_X4_place xv (nI j) 0) ≤ 0 then 0 else 1)) else 0)) else 0)))))
  (let b_252_8 : Int32 := (if ba = 0 then (if (F_X4_place xv (nI j) 3) = 1 then 1 else 0) else 1)
  (let b_268_9 : Int32 := (if (F_X4_place xv (nI j) 0) ≤ mo then mo else (F_X4_place xv (nI j) 0))
  (let b_284_10 : Int32 := (if le ≤ (F_X4_place xv (nI j) 0) then le else (F_X4_place xv (nI j) 0))
  K_L_isWell_23 n xv (j + 1) (wr + (F_X4_place xv (nI j) 0)) (kn + (F_X4_place xv (nI j) 1)) (ri + (F_X4_place xv (nI j) 2)) b_268_9 b_284_10 b_252_8 b_204_7))))))))
def F_L_isWell (xv : XV) : Int32 × XV :=
  K_L_isWell_23 13 xv 0 0 0 0 0 200 0 1
set_option maxHeartbeats 4000000 in
set_option maxRecDepth 100000 in
theorem k_L_isWell_573 {T : TT} {X : CX} (hX : Fit T X (yL_isWell).cls 12 wsL_isWell cL_isWell (some .boolean) rmL_isWell) (ad : Nat → Nat) (xv : XV) (wr : Int32) (ri : Int32) (mo : Int32) (le : Int32) (ba : Int32) (e : Int32) (bro : Int32) (emp : Int32)  : G T X (QI T X 0 0 ((K_L_isWell_573 xv wr ri mo le ba e bro emp).1) (wXX T ad ((K_L_isWell_573 xv wr ri mo le ba e bro emp).2))) 0 0 (wXX T ad xv) [(1, .int wr), (3, .int ri), (4, .int mo), (5, .int le), (6, .int ba), (7, .int e), (9, .int bro), (10, .int emp), (0, .ref (ad 0))] 573 [] := by
  refine g_iload hX dL_isWell_573 5 rfl ?_
  refine g_if_eq hX 639 dL_isWell_575 (by decide) (fun c_575 => ?_) (fun c_575 => ?_)
  · skip
    refine g_iconst hX (v := 0) dL_isWell_639 (by decide) ?_
    have e9 : K_L_isWell_573 xv wr ri mo le ba e bro emp = (0, xv) := by simp only [K_L_isWell_573, eq_true c_575, if_true, if_false]
    rw [e9]
    exact g_zret hX dL_isWell_640 rfl rfl rfl
  · skip
    refine g_aload_n hX dL_isWell_578 rfl 8 rfl ?_
    refine g_pV_I hX (rest := []) (n := 0) (As := []) (wc := wXX T ad xv) (w1 := wXX T ad xv) (rv := (F_X4_wrong xv)) (st := []) 0 rfl rfl (c_X4_wrong (xL X) T (xB X) ad xv) gL_isWell_X4_wrong rfl rfl rfl ⟨Nat.le_of_ble_eq_true rfl, Nat.le_of_ble_eq_true rfl⟩ ⟨Nat.zero_le _, Nat.zero_le _⟩ ⟨by decide +kernel, by decide +kernel, by decide +kernel⟩ rfl (List.append_nil _).symm rfl rfl (Nat.le_of_ble_eq_true rfl) dL_isWell_579 (List.append_nil _) ?_
    refine g_iload hX dL_isWell_582 6 rfl ?_
    refine g_if_eq hX 591 dL_isWell_584 (by decide) (fun c_584 => ?_) (fun c_584 => ?_)
    · skip
      refine g_iload hX dL_isWell_591 7 rfl ?_
      refine g_if_eq hX 600 dL_isWell_593 (by decide) (fun c_593 => ?_) (fun c_593 => ?_)
      · skip
        refine g_iload hX dL_isWell_600 4 rfl ?_
        refine g_if_eq hX 609 dL_isWell_602 (by decide) (fun c_602 => ?_) (fun c_602 => ?_)
        · skip
          refine g_iload_n hX dL_isWell_609 rfl 1 rfl ?_
          refine g_if_le hX 617 dL_isWell_610 (by decide) (fun c_610 => ?_) (fun c_610 => ?_)
          · skip
            refine g_iload hX dL_isWell_617 2 rfl ?_
            refine g_iload hX dL_isWell_619 3 rfl ?_
            refine g_isub hX dL_isWell_621 ?_
            refine g_bipush hX (v := 9) dL_isWell_622 (by decide) ?_
            refine g_icmp_le hX 631 dL_isWell_624 (by decide) (fun c_624 => ?_) (fun c_624 => ?_)
            · skip
              refine g_iconst hX (v := 0) dL_isWell_631 (by decide) ?_
              refine g_icmp_ne hX 639 dL_isWell_632 (by decide) (fun c_632 => ?_) (fun c_632 => ?_)
              · skip
                refine g_iconst hX (v := 0) dL_isWell_639 (by decide) ?_
                have e9 : K_L_isWell_573 xv wr ri mo le ba e bro emp = (0, xv) := by simp only [K_L_isWell_573, eq_false c_575, eq_true c_584, eq_true c_593, eq_true c_602, eq_true c_610, eq_true c_624, eq_false c_632, if_true, if_false]
                rw [e9]
                exact g_zret hX dL_isWell_640 rfl rfl rfl
              · skip
                refine g_iconst hX (v := 1) dL_isWell_635 (by decide) ?_
                refine g_goto hX 640 dL_isWell_636 (by decide) ?_
                have e9 : K_L_isWell_573 xv wr ri mo le ba e bro emp = (1, xv) := by simp only [K_L_isWell_573, eq_false c_575, eq_true c_584, eq_true c_593, eq_true c_602, eq_true c_610, eq_true c_624, eq_true c_632, if_true, if_false]
                rw [e9]
                exact g_zret hX dL_isWell_640 rfl rfl rfl
            · skip
              refine g_iconst hX (v := 5) dL_isWell_627 (by decide) ?_
              refine g_goto hX 632 dL_isWell_628 (by decide) ?_
              refine g_icmp_ne hX 639 dL_isWell_632 (by decide) (fun c_632 => ?_) (fun c_632 => ?_)
              · skip
                refine g_iconst hX (v := 0) dL_isWell_639 (by decide) ?_
                have e9 : K_L_isWell_573 xv wr ri mo le ba e bro emp = (0, xv) := by simp only [K_L_isWell_573, eq_false c_575, eq_true c_584, eq_true c_593, eq_true c_602, eq_true c_610, eq_false c_624, eq_false c_632, if_true, if_false]
                rw [e9]
                exact g_zret hX dL_isWell_640 rfl rfl rfl
              · skip
                refine g_iconst hX (v := 1) dL_isWell_635 (by decide) ?_
                refine g_goto hX 640 dL_isWell_636 (by decide) ?_
                have e9 : K_L_isWell_573 xv wr ri mo le ba e bro emp = (1, xv) := by simp only [K_L_isWell_573, eq_false c_575, eq_true c_584, eq_true c_593, eq_true c_602, eq_true c_610, eq_false c_624, eq_true c_632, if_true, if_false]
                rw [e9]
                exact g_zret hX dL_isWell_640 rfl rfl rfl
          · skip
            refine g_iconst hX (v := 4) dL_isWell_613 (by decide) ?_
            refine g_goto hX 632 dL_isWell_614 (by decide) ?_
            refine g_icmp_ne hX 639 dL_isWell_632 (by decide) (fun c_632 => ?_) (fun c_632 => ?_)
            · skip
              refine g_iconst hX (v := 0) dL_isWell_639 (by decide) ?_
              have e9 : K_L_isWell_573 xv wr ri mo le ba e bro emp = (0, xv) := by simp only [K_L_isWell_573, eq_false c_575, eq_true c_584, eq_true c_593, eq_true c_602, eq_false c_610, eq_false c_632, if_true, if_false]
              rw [e9]
              exact g_zret hX dL_isWell_640 rfl rfl rfl
            · skip
              refine g_iconst hX (v := 1) dL_isWell_635 (by decide) ?_
              refine g_goto hX 640 dL_isWell_636 (by decide) ?_
              have e9 : K_L_isWell_573 xv wr ri mo le ba e bro emp = (1, xv) := by simp only [K_L_isWell_573, eq_false c_575, eq_true c_584, eq_true c_593, eq_true c_602, eq_false c_610, eq_true c_632, if_true, if_false]
              rw [e9]
              exact g_zret hX dL_isWell_640 rfl rfl rfl
        · skip
          refine g_iconst hX (v := 3) dL_isWell_605 (by decide) ?_
          refine g_goto hX 632 dL_isWell_606 (by decide) ?_
          refine g_icmp_ne hX 639 dL_isWell_632 (by decide) (fun c_632 => ?_) (fun c_632 => ?_)
          · skip
            refine g_iconst hX (v := 0) dL_isWell_639 (by decide) ?_
            have e9 : K_L_isWell_573 xv wr ri mo le ba e bro emp = (0, xv) := by simp only [K_L_isWell_573, eq_false c_575, eq_true c_584, eq_true c_593, eq_false c_602, eq_false c_632, if_true, if_false]
            rw [e9]
            exact g_zret hX dL_isWell_640 rfl rfl rfl
          · skip
            refine g_iconst hX (v := 1) dL_isWell_635 (by decide) ?_
            refine g_goto hX 640 dL_isWell_636 (by decide) ?_
            have e9 : K_L_isWell_573 xv wr ri mo le ba e bro emp = (1, xv) := by simp only [K_L_isWell_573, eq_false c_575, eq_true c_584, eq_true c_593, eq_false c_602, eq_true c_632, if_true, if_false]
            rw [e9]
            exact g_zret hX dL_isWell_640 rfl rfl rfl
      · skip
        refine g_iconst hX (v := 2) dL_isWell_596 (by decide) ?_
        refine g_goto hX 632 dL_isWell_597 (by decide) ?_
        refine g_icmp_ne hX 639 dL_isWell_632 (by decide) (fun c_632 => ?_) (fun c_632 => ?_)
        · skip
          refine g_iconst hX (v := 0) dL_isWell_639 (by decide) ?_
          have e9 : K_L_isWell_573 xv wr ri mo le ba e bro emp = (0, xv) := by simp only [K_L_isWell_573, eq_false c_575, eq_true c_584, eq_false c_593, eq_false c_632, if_true, if_false]
          rw [e9]
          exact g_zret hX dL_isWell_640 rfl rfl rfl
        · skip
          refine g_iconst hX (v := 1) dL_isWell_635 (by decide) ?_
          refine g_goto hX 640 dL_isWell_636 (by decide) ?_
          have e9 : K_L_isWell_573 xv wr ri mo le ba e bro emp = (1, xv) := by simp only [K_L_isWell_573, eq_false c_575, eq_true c_584, eq_false c_593, eq_true c_632, if_true, if_false]
          rw [e9]
          exact g_zret hX dL_isWell_640 rfl rfl rfl
    · skip
      refine g_iconst hX (v := 1) dL_isWell_587 (by decide) ?_
      refine g_goto hX 632 dL_isWell_588 (by decide) ?_
      refine g_icmp_ne hX 639 dL_isWell_632 (by decide) (fun c_632 => ?_) (fun c_632 => ?_)
      · skip
        refine g_iconst hX (v := 0) dL_isWell_639 (by decide) ?_
        have e9 : K_L_isWell_573 xv wr ri mo le ba e bro emp = (0, xv) := by simp only [K_L_isWell_573, eq_false c_575, eq_false c_584, eq_false c_632, if_true, if_false]
        rw [e9]
        exact g_zret hX dL_isWell_640 rfl rfl rfl
      · skip
        refine g_iconst hX (v := 1) dL_isWell_635 (by decide) ?_
        refine g_goto hX 640 dL_isWell_636 (by decide) ?_
        have e9 : K_L_isWell_573 xv wr ri mo le ba e bro emp = (1, xv) := by simp only [K_L_isWell_573, eq_false c_575, eq_false c_584, eq_true c_632, if_true, if_false]
        rw [e9]
        exact g_zret hX dL_isWell_640 rfl rfl rfl
set_option maxHeartbeats 4000000 in
set_option maxRecDepth 100000 in
theorem k_L_isWell_292 {T : TT} {X : CX} (hX : Fit T X (yL_isWell).cls 12 wsL_isWell cL_isWell (some .boolean) rmL_isWell) (ad : Nat → Nat) (xv : XV) (wr : Int32) (kn : Int32) (ri : Int32) (mo : Int32) (le : Int32) (ba : Int32) (e : Int32) (hx : xWF xv) : G T X (QI T X 0 0 ((K_L_isWell_292 xv wr kn ri mo le ba e).1) (wXX T ad ((K_L_isWell_292 xv wr kn ri mo le ba e).2))) 0 0 (wXX T ad xv) [(1, .int wr), (2, .int kn), (3, .int ri), (4, .int mo), (5, .int le), (6, .int ba), (7, .int e), (0, .ref (ad 0))] 292 [] := by
  refine g_aload_n hX dL_isWell_292 rfl 7 rfl ?_
  obtain ⟨z_293, hz_293⟩ : ∃ z : Int32 × XV, z = F_X4_breaksIn xv := ⟨_, rfl⟩
  refine g_pV_I hX (rest := []) (n := 0) (As := []) (wc := wXX T ad xv) (w1 := wXX T ad z_293.2) (rv := z_293.1) (st := []) 0 rfl rfl (by rw [hz_293]; exact (c_X4_breaksIn (xL X) T (xB X) ad xv hx)) gL_isWell_X4_breaksIn rfl rfl rfl ⟨Nat.le_of_ble_eq_true rfl, Nat.le_of_ble_eq_true rfl⟩ ⟨Nat.zero_le _, Nat.zero_le _⟩ ⟨by decide +kernel, by decide +kernel, by decide +kernel⟩ rfl (List.append_nil _).symm rfl rfl (Nat.le_of_ble_eq_true rfl) dL_isWell_293 (List.append_nil _) ?_
  refine g_istore hX (lv' := [(8, .int z_293.1), (1, .int wr), (2, .int kn), (3, .int ri), (4, .int mo), (5, .int le), (6, .int ba), (7, .int e), (0, .ref (ad 0))]) dL_isWell_296 (by decide) rfl ?_
  obtain ⟨b_313_1, hb_313_1⟩ : ∃ z : Int32, z = (if (F_X4_count z_293.2 6) = 1 then 1 else 0) := ⟨_, rfl⟩
  refine g_join 313 (.int b_313_1 :: []) (fun hJ => ?_) ?_
  · skip
    refine g_aload_n hX dL_isWell_298 rfl 8 rfl ?_
    refine g_bipush hX (v := 6) dL_isWell_299 (by decide) ?_
    refine g_pV_I hX (rest := []) (n := 1) (As := [.int 6]) (wc := wXX T ad z_293.2) (w1 := wXX T ad z_293.2) (rv := (F_X4_count z_293.2 6)) (st := []) 0 rfl rfl (c_X4_count (xL X) T (xB X) ad z_293.2 6) gL_isWell_X4_count rfl rfl rfl ⟨Nat.le_of_ble_eq_true rfl, Nat.le_of_ble_eq_true rfl⟩ ⟨Nat.zero_le _, Nat.zero_le _⟩ ⟨by decide +kernel, by decide +kernel, by decide +kernel⟩ rfl (List.append_nil _).symm rfl rfl (Nat.le_of_ble_eq_true rfl) dL_isWell_301 (List.append_nil _) ?_
    refine g_iconst hX (v := 1) dL_isWell_304 (by decide) ?_
    refine g_icmp_ne hX 312 dL_isWell_305 (by decide) (fun c_305 => ?_) (fun c_305 => ?_)
    · skip
      refine g_iconst hX (v := 0) dL_isWell_312 (by decide) ?_
      have e8 : b_313_1 = 0 := by rw [hb_313_1]; simp only [eq_false c_305, if_true, if_false]
      rw [e8] at hJ
      exact hJ
    · skip
      refine g_iconst hX (v := 1) dL_isWell_308 (by decide) ?_
      refine g_goto hX 313 dL_isWell_309 (by decide) ?_
      have e8 : b_313_1 = 1 := by rw [hb_313_1]; simp only [eq_true c_305, if_true, if_false]
      rw [e8] at hJ
      exact hJ
  refine g_istore hX (lv' := [(9, .int b_313_1), (8, .int z_293.1), (1, .int wr), (2, .int kn), (3, .int ri), (4, .int mo), (5, .int le), (6, .int ba), (7, .int e), (0, .ref (ad 0))]) dL_isWell_313 (by decide) rfl ?_
  obtain ⟨b_330_2, hb_330_2⟩ : ∃ z : Int32, z = (if (F_X4_count z_293.2 7) = 1 then 1 else 0) := ⟨_, rfl⟩
  refine g_join 330 (.int b_330_2 :: []) (fun hJ => ?_) ?_
  · skip
    refine g_aload_n hX dL_isWell_315 rfl 9 rfl ?_
    refine g_bipush hX (v := 7) dL_isWell_316 (by decide) ?_
    refine g_pV_I hX (rest := []) (n := 1) (As := [.int 7]) (wc := wXX T ad z_293.2) (w1 := wXX T ad z_293.2) (rv := (F_X4_count z_293.2 7)) (st := []) 0 rfl rfl (c_X4_count (xL X) T (xB X) ad z_293.2 7) gL_isWell_X4_count rfl rfl rfl ⟨Nat.le_of_ble_eq_true rfl, Nat.le_of_ble_eq_true rfl⟩ ⟨Nat.zero_le _, Nat.zero_le _⟩ ⟨by decide +kernel, by decide +kernel, by decide +kernel⟩ rfl (List.append_nil _).symm rfl rfl (Nat.le_of_ble_eq_true rfl) dL_isWell_318 (List.append_nil _) ?_
    refine g_iconst hX (v := 1) dL_isWell_321 (by decide) ?_
    refine g_icmp_ne hX 329 dL_isWell_322 (by decide) (fun c_322 => ?_) (fun c_322 => ?_)
    · skip
      refine g_iconst hX (v := 0) dL_isWell_329 (by decide) ?_
      have e8 : b_330_2 = 0 := by rw [hb_330_2]; simp only [eq_false c_322, if_true, if_false]
      rw [e8] at hJ
      exact hJ
    · skip
      refine g_iconst hX (v := 1) dL_isWell_325 (by decide) ?_
      refine g_goto hX 330 dL_isWell_326 (by decide) ?_
      have e8 : b_330_2 = 1 := by rw [hb_330_2]; simp only [eq_true c_322, if_true, if_false]
      rw [e8] at hJ
      exact hJ
  refine g_istore hX (lv' := [(10, .int b_330_2), (9, .int b_313_1), (8, .int z_293.1), (1, .int wr), (2, .int kn), (3, .int ri), (4, .int mo), (5, .int le), (6, .int ba), (7, .int e), (0, .ref (ad 0))]) dL_isWell_330 (by decide) rfl ?_
  obtain ⟨b_506_3, hb_506_3⟩ : ∃ z : Int32, z = (if e = 0 then 0 else (if wr = (F_X4_count z_293.2 0) then (if kn = (F_X4_count z_293.2 11) then (if ri = (F_X4_count z_293.2 10) then (if (mo - le) = (F_X4_count z_293.2 9) then (if (F_X4_count z_293.2 8) = 1 then (if mo = 200 then (if (F_X4_count z_293.2 1) = 0 then (if b_330_2 = 1 then (if (F_X4_count z_293.2 4) < 0 then 0 else (if 300 < (F_X4_count z_293.2 4) then 0 else (if (F_X4_count z_293.2 2) < 0 then 0 else (if 11 < (F_X4_count z_293.2 2) then 0 else (if 0 < (F_X4_count z_293.2 2) then (if (F_X4_count z_293.2 2) < 11 then 1 else (if (F_X4_count z_293.2 3) = 1 then 1 else 0)) else (if (F_X4_count z_293.2 3) = 0 then (if (F_X4_count z_293.2 2) < 11 then 1 else (if (F_X4_count z_293.2 3) = 1 then 1 else 0)) else 0)))))) else 0) else (if b_330_2 = 0 then (if (F_X4_count z_293.2 4) < 0 then 0 else (if 300 < (F_X4_count z_293.2 4) then 0 else (if (F_X4_count z_293.2 2) < 0 then 0 else (if 11 < (F_X4_count z_293.2 2) then 0 else (if 0 < (F_X4_count z_293.2 2) then (if (F_X4_count z_293.2 2) < 11 then 1 else (if (F_X4_count z_293.2 3) = 1 then 1 else 0)) else (if (F_X4_count z_293.2 3) = 0 then (if (F_X4_count z_293.2 2) < 11 then 1 else (if (F_X4_count z_293.2 3) = 1 then 1 else 0)) else 0)))))) else 0)) else 0) else (if mo = 200 then 0 else (if (F_X4_count z_293.2 1) = 0 then (if b_330_2 = 1 then (if (F_X4_count z_293.2 4) < 0 then 0 else (if 300 < (F_X4_count z_293.2 4) then 0 else (if (F_X4_count z_293.2 2) < 0 then 0 else (if 11 < (F_X4_count z_293.2 2) then 0 else (if 0 < (F_X4_count z_293.2 2) then (if (F_X4_count z_293.2 2) < 11 then 1 else (if (F_X4_count z_293.2 3) = 1 then 1 else 0)) else (if (F_X4_count z_293.2 3) = 0 then (if (F_X4_count z_293.2 2) < 11 then 1 else (if (F_X4_count z_293.2 3) = 1 then 1 else 0)) else 0)))))) else 0) else (if b_330_2 = 0 then (if (F_X4_count z_293.2 4) < 0 then 0 else (if 300 < (F_X4_count z_293.2 4) then 0 else (if (F_X4_count z_293.2 2) < 0 then 0 else (if 11 < (F_X4_count z_293.2 2) then 0 else (if 0 < (F_X4_count z_293.2 2) then (if (F_X4_count z_293.2 2) < 11 then 1 else (if (F_X4_count z_293.2 3) = 1 then 1 else 0)) else (if (F_X4_count z_293.2 3) = 0 then (if (F_X4_count z_293.2 2) < 11 then 1 else (if (F_X4_count z_293.2 3) = 1 then 1 else 0)) else 0)))))) else 0)))) else 0) else 0) else 0) else 0)) := ⟨_, rfl⟩
  refine g_join 506 (.int b_506_3 :: []) (fun hJ => ?_) ?_
  · skip
    refine g_iload hX dL_isWell_332 9 rfl ?_
    refine g_if_eq hX 505 dL_isWell_334 (by decide) (fun c_334 => ?_) (fun c_334 => ?_)
    · skip
      refine g_iconst hX (v := 0) dL_isWell_505 (by decide) ?_
      have e8 : b_506_3 = 0 := by rw [hb_506_3]; simp only [eq_true c_334, if_true, if_false]
      rw [e8] at hJ
      exact hJ
    · skip
      refine g_iload_n hX dL_isWell_337 rfl 3 rfl ?_
      refine g_aload_n hX dL_isWell_338 rfl 10 rfl ?_
      refine g_iconst hX (v := 0) dL_isWell_339 (by decide) ?_
      refine g_pV_I hX (rest := []) (n := 1) (As := [.int 0]) (wc := wXX T ad z_293.2) (w1 := wXX T ad z_293.2) (rv := (F_X4_count z_293.2 0)) (st := [.int wr]) 0 rfl rfl (c_X4_count (xL X) T (xB X) ad z_293.2 0) gL_isWell_X4_count rfl rfl rfl ⟨Nat.le_of_ble_eq_true rfl, Nat.le_of_ble_eq_true rfl⟩ ⟨Nat.zero_le _, Nat.zero_le _⟩ ⟨by decide +kernel, by decide +kernel, by decide +kernel⟩ rfl (List.append_nil _).symm rfl rfl (Nat.le_of_ble_eq_true rfl) dL_isWell_340 (List.append_nil _) ?_
      refine g_icmp_ne hX 505 dL_isWell_343 (by decide) (fun c_343 => ?_) (fun c_343 => ?_)
      · skip
        refine g_iconst hX (v := 0) dL_isWell_505 (by decide) ?_
        have e8 : b_506_3 = 0 := by rw [hb_506_3]; simp only [eq_false c_334, eq_false c_343, if_true, if_false]
        rw [e8] at hJ
        exact hJ
      · skip
        refine g_iload_n hX dL_isWell_346 rfl 4 rfl ?_
        refine g_aload_n hX dL_isWell_347 rfl 10 rfl ?_
        refine g_bipush hX (v := 11) dL_isWell_348 (by decide) ?_
        refine g_pV_I hX (rest := []) (n := 1) (As := [.int 11]) (wc := wXX T ad z_293.2) (w1 := wXX T ad z_293.2) (rv := (F_X4_count z_293.2 11)) (st := [.int kn]) 0 rfl rfl (c_X4_count (xL X) T (xB X) ad z_293.2 11) gL_isWell_X4_count rfl rfl rfl ⟨Nat.le_of_ble_eq_true rfl, Nat.le_of_ble_eq_true rfl⟩ ⟨Nat.zero_le _, Nat.zero_le _⟩ ⟨by decide +kernel, by decide +kernel, by decide +kernel⟩ rfl (List.append_nil _).symm rfl rfl (Nat.le_of_ble_eq_true rfl) dL_isWell_350 (List.append_nil _) ?_
        refine g_icmp_ne hX 505 dL_isWell_353 (by decide) (fun c_353 => ?_) (fun c_353 => ?_)
        · skip
          refine g_iconst hX (v := 0) dL_isWell_505 (by decide) ?_
          have e8 : b_506_3 = 0 := by rw [hb_506_3]; simp only [eq_false c_334, eq_true c_343, eq_false c_353, if_true, if_false]
          rw [e8] at hJ
          exact hJ
        · skip
          refine g_iload_n hX dL_isWell_356 rfl 5 rfl ?_
          refine g_aload_n hX dL_isWell_357 rfl 10 rfl ?_
          refine g_bipush hX (v := 10) dL_isWell_358 (by decide) ?_
          refine g_pV_I hX (rest := []) (n := 1) (As := [.int 10]) (wc := wXX T ad z_293.2) (w1 := wXX T ad z_293.2) (rv := (F_X4_count z_293.2 10)) (st := [.int ri]) 0 rfl rfl (c_X4_count (xL X) T (xB X) ad z_293.2 10) gL_isWell_X4_count rfl rfl rfl ⟨Nat.le_of_ble_eq_true rfl, Nat.le_of_ble_eq_true rfl⟩ ⟨Nat.zero_le _, Nat.zero_le _⟩ ⟨by decide +kernel, by decide +kernel, by decide +kernel⟩ rfl (List.append_nil _).symm rfl rfl (Nat.le_of_ble_eq_true rfl) dL_isWell_360 (List.append_nil _) ?_
          refine g_icmp_ne hX 505 dL_isWell_363 (by decide) (fun c_363 => ?_) (fun c_363 => ?_)
          · skip
            refine g_iconst hX (v := 0) dL_isWell_505 (by decide) ?_
            have e8 : b_506_3 = 0 := by rw [hb_506_3]; simp only [eq_false c_334, eq_true c_343, eq_true c_353, eq_false c_363, if_true, if_false]
            rw [e8] at hJ
            exact hJ
          · skip
            refine g_iload hX dL_isWell_366 6 rfl ?_
            refine g_iload hX dL_isWell_368 7 rfl ?_
            refine g_isub hX dL_isWell_370 ?_
            refine g_aload_n hX dL_isWell_371 rfl 10 rfl ?_
            refine g_bipush hX (v := 9) dL_isWell_372 (by decide) ?_
            refine g_pV_I hX (rest := []) (n := 1) (As := [.int 9]) (wc := wXX T ad z_293.2) (w1 := wXX T ad z_293.2) (rv := (F_X4_count z_293.2 9)) (st := [.int (mo - le)]) 0 rfl rfl (c_X4_count (xL X) T (xB X) ad z_293.2 9) gL_isWell_X4_count rfl rfl rfl ⟨Nat.le_of_ble_eq_true rfl, Nat.le_of_ble_eq_true rfl⟩ ⟨Nat.zero_le _, Nat.zero_le _⟩ ⟨by decide +kernel, by decide +kernel, by decide +kernel⟩ rfl (List.append_nil _).symm rfl rfl (Nat.le_of_ble_eq_true rfl) dL_isWell_374 (List.append_nil _) ?_
            refine g_icmp_ne hX 505 dL_isWell_377 (by decide) (fun c_377 => ?_) (fun c_377 => ?_)
            · skip
              refine g_iconst hX (v := 0) dL_isWell_505 (by decide) ?_
              have e8 : b_506_3 = 0 := by rw [hb_506_3]; simp only [eq_false c_334, eq_true c_343, eq_true c_353, eq_true c_363, eq_false c_377, if_true, if_false]
              rw [e8] at hJ
              exact hJ
            · skip
              refine g_aload_n hX dL_isWell_380 rfl 10 rfl ?_
              refine g_bipush hX (v := 8) dL_isWell_381 (by decide) ?_
              refine g_pV_I hX (rest := []) (n := 1) (As := [.int 8]) (wc := wXX T ad z_293.2) (w1 := wXX T ad z_293.2) (rv := (F_X4_count z_293.2 8)) (st := []) 0 rfl rfl (c_X4_count (xL X) T (xB X) ad z_293.2 8) gL_isWell_X4_count rfl rfl rfl ⟨Nat.le_of_ble_eq_true rfl, Nat.le_of_ble_eq_true rfl⟩ ⟨Nat.zero_le _, Nat.zero_le _⟩ ⟨by decide +kernel, by decide +kernel, by decide +kernel⟩ rfl (List.append_nil _).symm rfl rfl (Nat.le_of_ble_eq_true rfl) dL_isWell_383 (List.append_nil _) ?_
              refine g_iconst hX (v := 1) dL_isWell_386 (by decide) ?_
              refine g_icmp_ne hX 394 dL_isWell_387 (by decide) (fun c_387 => ?_) (fun c_387 => ?_)
              · skip
                refine g_iconst hX (v := 0) dL_isWell_394 (by decide) ?_
                refine g_iload hX dL_isWell_395 6 rfl ?_
                refine g_sipush hX (v := 200) dL_isWell_397 (by decide) ?_
                refine g_icmp_ne hX 407 dL_isWell_400 (by decide) (fun c_400 => ?_) (fun c_400 => ?_)
                · skip
                  refine g_iconst hX (v := 0) dL_isWell_407 (by decide) ?_
                  refine g_icmp_ne hX 505 dL_isWell_408 (by decide) (fun c0 => absurd c0 (by decide)) (fun _ => ?_)
                  refine g_iload hX dL_isWell_411 0 rfl ?_
                  refine g_aload_n hX dL_isWell_413 rfl 10 rfl ?_
                  refine g_iconst hX (v := 1) dL_isWell_414 (by decide) ?_
                  refine g_pV_I hX (rest := []) (n := 1) (As := [.int 1]) (wc := wXX T ad z_293.2) (w1 := wXX T ad z_293.2) (rv := (F_X4_count z_293.2 1)) (st := [.int b_330_2]) 0 rfl rfl (c_X4_count (xL X) T (xB X) ad z_293.2 1) gL_isWell_X4_count rfl rfl rfl ⟨Nat.le_of_ble_eq_true rfl, Nat.le_of_ble_eq_true rfl⟩ ⟨Nat.zero_le _, Nat.zero_le _⟩ ⟨by decide +kernel, by decide +kernel, by decide +kernel⟩ rfl (List.append_nil _).symm rfl rfl (Nat.le_of_ble_eq_true rfl) dL_isWell_415 (List.append_nil _) ?_
                  refine g_if_ne hX 425 dL_isWell_418 (by decide) (fun c_418 => ?_) (fun c_418 => ?_)
                  · skip
                    refine g_iconst hX (v := 0) dL_isWell_425 (by decide) ?_
                    refine g_icmp_ne hX 505 dL_isWell_426 (by decide) (fun c_426 => ?_) (fun c_426 => ?_)
                    · skip
                      refine g_iconst hX (v := 0) dL_isWell_505 (by decide) ?_
                      have e8 : b_506_3 = 0 := by rw [hb_506_3]; simp only [eq_false c_334, eq_true c_343, eq_true c_353, eq_true c_363, eq_true c_377, eq_false c_387, eq_false c_400, eq_false c_418, eq_false c_426, if_true, if_false]
                      rw [e8] at hJ
                      exact hJ
                    · skip
                      refine g_aload_n hX dL_isWell_429 rfl 10 rfl ?_
                      refine g_iconst hX (v := 4) dL_isWell_430 (by decide) ?_
                      refine g_pV_I hX (rest := []) (n := 1) (As := [.int 4]) (wc := wXX T ad z_293.2) (w1 := wXX T ad z_293.2) (rv := (F_X4_count z_293.2 4)) (st := []) 0 rfl rfl (c_X4_count (xL X) T (xB X) ad z_293.2 4) gL_isWell_X4_count rfl rfl rfl ⟨Nat.le_of_ble_eq_true rfl, Nat.le_of_ble_eq_true rfl⟩ ⟨Nat.zero_le _, Nat.zero_le _⟩ ⟨by decide +kernel, by decide +kernel, by decide +kernel⟩ rfl (List.append_nil _).symm rfl rfl (Nat.le_of_ble_eq_true rfl) dL_isWell_431 (List.append_nil _) ?_
                      refine g_if_lt hX 505 dL_isWell_434 (by decide) (fun c_434 => ?_) (fun c_434 => ?_)
                      · skip
                        refine g_iconst hX (v := 0) dL_isWell_505 (by decide) ?_
                        have e8 : b_506_3 = 0 := by rw [hb_506_3]; simp only [eq_false c_334, eq_true c_343, eq_true c_353, eq_true c_363, eq_true c_377, eq_false c_387, eq_false c_400, eq_false c_418, eq_true c_426, eq_true c_434, if_true, if_false]
                        rw [e8] at hJ
                        exact hJ
                      · skip
                        refine g_aload_n hX dL_isWell_437 rfl 10 rfl ?_
                        refine g_iconst hX (v := 4) dL_isWell_438 (by decide) ?_
                        refine g_pV_I hX (rest := []) (n := 1) (As := [.int 4]) (wc := wXX T ad z_293.2) (w1 := wXX T ad z_293.2) (rv := (F_X4_count z_293.2 4)) (st := []) 0 rfl rfl (c_X4_count (xL X) T (xB X) ad z_293.2 4) gL_isWell_X4_count rfl rfl rfl ⟨Nat.le_of_ble_eq_true rfl, Nat.le_of_ble_eq_true rfl⟩ ⟨Nat.zero_le _, Nat.zero_le _⟩ ⟨by decide +kernel, by decide +kernel, by decide +kernel⟩ rfl (List.append_nil _).symm rfl rfl (Nat.le_of_ble_eq_true rfl) dL_isWell_439 (List.append_nil _) ?_
                        refine g_sipush hX (v := 300) dL_isWell_442 (by decide) ?_
                        refine g_icmp_gt hX 505 dL_isWell_445 (by decide) (fun c_445 => ?_) (fun c_445 => ?_)
                        · skip
                          refine g_iconst hX (v := 0) dL_isWell_505 (by decide) ?_
                          have e8 : b_506_3 = 0 := by rw [hb_506_3]; simp only [eq_false c_334, eq_true c_343, eq_true c_353, eq_true c_363, eq_true c_377, eq_false c_387, eq_false c_400, eq_false c_418, eq_true c_426, eq_false c_434, eq_true c_445, if_true, if_false]
                          rw [e8] at hJ
                          exact hJ
                        · skip
                          refine g_aload_n hX dL_isWell_448 rfl 10 rfl ?_
                          refine g_iconst hX (v := 2) dL_isWell_449 (by decide) ?_
                          refine g_pV_I hX (rest := []) (n := 1) (As := [.int 2]) (wc := wXX T ad z_293.2) (w1 := wXX T ad z_293.2) (rv := (F_X4_count z_293.2 2)) (st := []) 0 rfl rfl (c_X4_count (xL X) T (xB X) ad z_293.2 2) gL_isWell_X4_count rfl rfl rfl ⟨Nat.le_of_ble_eq_true rfl, Nat.le_of_ble_eq_true rfl⟩ ⟨Nat.zero_le _, Nat.zero_le _⟩ ⟨by decide +kernel, by decide +kernel, by decide +kernel⟩ rfl (List.append_nil _).symm rfl rfl (Nat.le_of_ble_eq_true rfl) dL_isWell_450 (List.append_nil _) ?_
                          refine g_if_lt hX 505 dL_isWell_453 (by decide) (fun c_453 => ?_) (fun c_453 => ?_)
                          · skip
                            refine g_iconst hX (v := 0) dL_isWell_505 (by decide) ?_
                            have e8 : b_506_3 = 0 := by rw [hb_506_3]; simp only [eq_false c_334, eq_true c_343, eq_true c_353, eq_true c_363, eq_true c_377, eq_false c_387, eq_false c_400, eq_false c_418, eq_true c_426, eq_false c_434, eq_false c_445, eq_true c_453, if_true, if_false]
                            rw [e8] at hJ
                            exact hJ
                          · skip
                            refine g_aload_n hX dL_isWell_456 rfl 10 rfl ?_
                            refine g_iconst hX (v := 2) dL_isWell_457 (by decide) ?_
                            refine g_pV_I hX (rest := []) (n := 1) (As := [.int 2]) (wc := wXX T ad z_293.2) (w1 := wXX T ad z_293.2) (rv := (F_X4_count z_293.2 2)) (st := []) 0 rfl rfl (c_X4_count (xL X) T (xB X) ad z_293.2 2) gL_isWell_X4_count rfl rfl rfl ⟨Nat.le_of_ble_eq_true rfl, Nat.le_of_ble_eq_true rfl⟩ ⟨Nat.zero_le _, Nat.zero_le _⟩ ⟨by decide +kernel, by decide +kernel, by decide +kernel⟩ rfl (List.append_nil _).symm rfl rfl (Nat.le_of_ble_eq_true rfl) dL_isWell_458 (List.append_nil _) ?_
                            refine g_bipush hX (v := 11) dL_isWell_461 (by decide) ?_
                            refine g_icmp_gt hX 505 dL_isWell_463 (by decide) (fun c_463 => ?_) (fun c_463 => ?_)
                            · skip
                              refine g_iconst hX (v := 0) dL_isWell_505 (by decide) ?_
                              have e8 : b_506_3 = 0 := by rw [hb_506_3]; simp only [eq_false c_334, eq_true c_343, eq_true c_353, eq_true c_363, eq_true c_377, eq_false c_387, eq_false c_400, eq_false c_418, eq_true c_426, eq_false c_434, eq_false c_445, eq_false c_453, eq_true c_463, if_true, if_false]
                              rw [e8] at hJ
                              exact hJ
                            · skip
                              refine g_aload_n hX dL_isWell_466 rfl 10 rfl ?_
                              refine g_iconst hX (v := 2) dL_isWell_467 (by decide) ?_
                              refine g_pV_I hX (rest := []) (n := 1) (As := [.int 2]) (wc := wXX T ad z_293.2) (w1 := wXX T ad z_293.2) (rv := (F_X4_count z_293.2 2)) (st := []) 0 rfl rfl (c_X4_count (xL X) T (xB X) ad z_293.2 2) gL_isWell_X4_count rfl rfl rfl ⟨Nat.le_of_ble_eq_true rfl, Nat.le_of_ble_eq_true rfl⟩ ⟨Nat.zero_le _, Nat.zero_le _⟩ ⟨by decide +kernel, by decide +kernel, by decide +kernel⟩ rfl (List.append_nil _).symm rfl rfl (Nat.le_of_ble_eq_true rfl) dL_isWell_468 (List.append_nil _) ?_
                              refine g_if_gt hX 482 dL_isWell_471 (by decide) (fun c_471 => ?_) (fun c_471 => ?_)
                              · skip
                                refine g_aload_n hX dL_isWell_482 rfl 10 rfl ?_
                                refine g_iconst hX (v := 2) dL_isWell_483 (by decide) ?_
                                refine g_pV_I hX (rest := []) (n := 1) (As := [.int 2]) (wc := wXX T ad z_293.2) (w1 := wXX T ad z_293.2) (rv := (F_X4_count z_293.2 2)) (st := []) 0 rfl rfl (c_X4_count (xL X) T (xB X) ad z_293.2 2) gL_isWell_X4_count rfl rfl rfl ⟨Nat.le_of_ble_eq_true rfl, Nat.le_of_ble_eq_true rfl⟩ ⟨Nat.zero_le _, Nat.zero_le _⟩ ⟨by decide +kernel, by decide +kernel, by decide +kernel⟩ rfl (List.append_nil _).symm rfl rfl (Nat.le_of_ble_eq_true rfl) dL_isWell_484 (List.append_nil _) ?_
                                refine g_bipush hX (v := 11) dL_isWell_487 (by decide) ?_
                                refine g_icmp_lt hX 501 dL_isWell_489 (by decide) (fun c_489 => ?_) (fun c_489 => ?_)
                                · skip
                                  refine g_iconst hX (v := 1) dL_isWell_501 (by decide) ?_
                                  refine g_goto hX 506 dL_isWell_502 (by decide) ?_
                                  have e8 : b_506_3 = 1 := by rw [hb_506_3]; simp only [eq_false c_334, eq_true c_343, eq_true c_353, eq_true c_363, eq_true c_377, eq_false c_387, eq_false c_400, eq_false c_418, eq_true c_426, eq_false c_434, eq_false c_445, eq_false c_453, eq_false c_463, eq_true c_471, eq_true c_489, if_true, if_false]
                                  rw [e8] at hJ
                                  exact hJ
                                · skip
                                  refine g_aload_n hX dL_isWell_492 rfl 10 rfl ?_
                                  refine g_iconst hX (v := 3) dL_isWell_493 (by decide) ?_
                                  refine g_pV_I hX (rest := []) (n := 1) (As := [.int 3]) (wc := wXX T ad z_293.2) (w1 := wXX T ad z_293.2) (rv := (F_X4_count z_293.2 3)) (st := []) 0 rfl rfl (c_X4_count (xL X) T (xB X) ad z_293.2 3) gL_isWell_X4_count rfl rfl rfl ⟨Nat.le_of_ble_eq_true rfl, Nat.le_of_ble_eq_true rfl⟩ ⟨Nat.zero_le _, Nat.zero_le _⟩ ⟨by decide +kernel, by decide +kernel, by decide +kernel⟩ rfl (List.append_nil _).symm rfl rfl (Nat.le_of_ble_eq_true rfl) dL_isWell_494 (List.append_nil _) ?_
                                  refine g_iconst hX (v := 1) dL_isWell_497 (by decide) ?_
                                  refine g_icmp_ne hX 505 dL_isWell_498 (by decide) (fun c_498 => ?_) (fun c_498 => ?_)
                                  · skip
                                    refine g_iconst hX (v := 0) dL_isWell_505 (by decide) ?_
                                    have e8 : b_506_3 = 0 := by rw [hb_506_3]; simp only [eq_false c_334, eq_true c_343, eq_true c_353, eq_true c_363, eq_true c_377, eq_false c_387, eq_false c_400, eq_false c_418, eq_true c_426, eq_false c_434, eq_false c_445, eq_false c_453, eq_false c_463, eq_true c_471, eq_false c_489, eq_false c_498, if_true, if_false]
                                    rw [e8] at hJ
                                    exact hJ
                                  · skip
                                    refine g_iconst hX (v := 1) dL_isWell_501 (by decide) ?_
                                    refine g_goto hX 506 dL_isWell_502 (by decide) ?_
                                    have e8 : b_506_3 = 1 := by rw [hb_506_3]; simp only [eq_false c_334, eq_true c_343, eq_true c_353, eq_true c_363, eq_true c_377, eq_false c_387, eq_false c_400, eq_false c_418, eq_true c_426, eq_false c_434, eq_false c_445, eq_false c_453, eq_false c_463, eq_true c_471, eq_false c_489, eq_true c_498, if_true, if_false]
                                    rw [e8] at hJ
                                    exact hJ
                              · skip
                                refine g_aload_n hX dL_isWell_474 rfl 10 rfl ?_
                                refine g_iconst hX (v := 3) dL_isWell_475 (by decide) ?_
                                refine g_pV_I hX (rest := []) (n := 1) (As := [.int 3]) (wc := wXX T ad z_293.2) (w1 := wXX T ad z_293.2) (rv := (F_X4_count z_293.2 3)) (st := []) 0 rfl rfl (c_X4_count (xL X) T (xB X) ad z_293.2 3) gL_isWell_X4_count rfl rfl rfl ⟨Nat.le_of_ble_eq_true rfl, Nat.le_of_ble_eq_true rfl⟩ ⟨Nat.zero_le _, Nat.zero_le _⟩ ⟨by decide +kernel, by decide +kernel, by decide +kernel⟩ rfl (List.append_nil _).symm rfl rfl (Nat.le_of_ble_eq_true rfl) dL_isWell_476 (List.append_nil _) ?_
                                refine g_if_ne hX 505 dL_isWell_479 (by decide) (fun c_479 => ?_) (fun c_479 => ?_)
                                · skip
                                  refine g_iconst hX (v := 0) dL_isWell_505 (by decide) ?_
                                  have e8 : b_506_3 = 0 := by rw [hb_506_3]; simp only [eq_false c_334, eq_true c_343, eq_true c_353, eq_true c_363, eq_true c_377, eq_false c_387, eq_false c_400, eq_false c_418, eq_true c_426, eq_false c_434, eq_false c_445, eq_false c_453, eq_false c_463, eq_false c_471, eq_false c_479, if_true, if_false]
                                  rw [e8] at hJ
                                  exact hJ
                                · skip
                                  refine g_aload_n hX dL_isWell_482 rfl 10 rfl ?_
                                  refine g_iconst hX (v := 2) dL_isWell_483 (by decide) ?_
                                  refine g_pV_I hX (rest := []) (n := 1) (As := [.int 2]) (wc := wXX T ad z_293.2) (w1 := wXX T ad z_293.2) (rv := (F_X4_count z_293.2 2)) (st := []) 0 rfl rfl (c_X4_count (xL X) T (xB X) ad z_293.2 2) gL_isWell_X4_count rfl rfl rfl ⟨Nat.le_of_ble_eq_true rfl, Nat.le_of_ble_eq_true rfl⟩ ⟨Nat.zero_le _, Nat.zero_le _⟩ ⟨by decide +kernel, by decide +kernel, by decide +kernel⟩ rfl (List.append_nil _).symm rfl rfl (Nat.le_of_ble_eq_true rfl) dL_isWell_484 (List.append_nil _) ?_
                                  refine g_bipush hX (v := 11) dL_isWell_487 (by decide) ?_
                                  refine g_icmp_lt hX 501 dL_isWell_489 (by decide) (fun c_489 => ?_) (fun c_489 => ?_)
                                  · skip
                                    refine g_iconst hX (v := 1) dL_isWell_501 (by decide) ?_
                                    refine g_goto hX 506 dL_isWell_502 (by decide) ?_
                                    have e8 : b_506_3 = 1 := by rw [hb_506_3]; simp only [eq_false c_334, eq_true c_343, eq_true c_353, eq_true c_363, eq_true c_377, eq_false c_387, eq_false c_400, eq_false c_418, eq_true c_426, eq_false c_434, eq_false c_445, eq_false c_453, eq_false c_463, eq_false c_471, eq_true c_479, eq_true c_489, if_true, if_false]
                                    rw [e8] at hJ
                                    exact hJ
                                  · skip
                                    refine g_aload_n hX dL_isWell_492 rfl 10 rfl ?_
                                    refine g_iconst hX (v := 3) dL_isWell_493 (by decide) ?_
                                    refine g_pV_I hX (rest := []) (n := 1) (As := [.int 3]) (wc := wXX T ad z_293.2) (w1 := wXX T ad z_293.2) (rv := (F_X4_count z_293.2 3)) (st := []) 0 rfl rfl (c_X4_count (xL X) T (xB X) ad z_293.2 3) gL_isWell_X4_count rfl rfl rfl ⟨Nat.le_of_ble_eq_true rfl, Nat.le_of_ble_eq_true rfl⟩ ⟨Nat.zero_le _, Nat.zero_le _⟩ ⟨by decide +kernel, by decide +kernel, by decide +kernel⟩ rfl (List.append_nil _).symm rfl rfl (Nat.le_of_ble_eq_true rfl) dL_isWell_494 (List.append_nil _) ?_
                                    refine g_iconst hX (v := 1) dL_isWell_497 (by decide) ?_
                                    refine g_icmp_ne hX 505 dL_isWell_498 (by decide) (fun c_498 => ?_) (fun c_498 => ?_)
                                    · skip
                                      refine g_iconst hX (v := 0) dL_isWell_505 (by decide) ?_
                                      have e8 : b_506_3 = 0 := by rw [hb_506_3]; simp only [eq_false c_334, eq_true c_343, eq_true c_353, eq_true c_363, eq_true c_377, eq_false c_387, eq_false c_400, eq_false c_418, eq_true c_426, eq_false c_434, eq_false c_445, eq_false c_453, eq_false c_463, eq_false c_471, eq_true c_479, eq_false c_489, eq_false c_498, if_true, if_false]
                                      rw [e8] at hJ
                                      exact hJ
                                    · skip
                                      refine g_iconst hX (v := 1) dL_isWell_501 (by decide) ?_
                                      refine g_goto hX 506 dL_isWell_502 (by decide) ?_
                                      have e8 : b_506_3 = 1 := by rw [hb_506_3]; simp only [eq_false c_334, eq_true c_343, eq_true c_353, eq_true c_363, eq_true c_377, eq_false c_387, eq_false c_400, eq_false c_418, eq_true c_426, eq_false c_434, eq_false c_445, eq_false c_453, eq_false c_463, eq_false c_471, eq_true c_479, eq_false c_489, eq_true c_498, if_true, if_false]
                                      rw [e8] at hJ
                                      exact hJ
                  · skip
                    refine g_iconst hX (v := 1) dL_isWell_421 (by decide) ?_
                    refine g_goto hX 426 dL_isWell_422 (by decide) ?_
                    refine g_icmp_ne hX 505 dL_isWell_426 (by decide) (fun c_426 => ?_) (fun c_426 => ?_)
                    · skip
                      refine g_iconst hX (v := 0) dL_isWell_505 (by decide) ?_
                      have e8 : b_506_3 = 0 := by rw [hb_506_3]; simp only [eq_false c_334, eq_true c_343, eq_true c_353, eq_true c_363, eq_true c_377, eq_false c_387, eq_false c_400, eq_true c_418, eq_false c_426, if_true, if_false]
                      rw [e8] at hJ
                      exact hJ
                    · skip
                      refine g_aload_n hX dL_isWell_429 rfl 10 rfl ?_
                      refine g_iconst hX (v := 4) dL_isWell_430 (by decide) ?_
                      refine g_pV_I hX (rest := []) (n := 1) (As := [.int 4]) (wc := wXX T ad z_293.2) (w1 := wXX T ad z_293.2) (rv := (F_X4_count z_293.2 4)) (st := []) 0 rfl rfl (c_X4_count (xL X) T (xB X) ad z_293.2 4) gL_isWell_X4_count rfl rfl rfl ⟨Nat.le_of_ble_eq_true rfl, Nat.le_of_ble_eq_true rfl⟩ ⟨Nat.zero_le _, Nat.zero_le _⟩ ⟨by decide +kernel, by decide +kernel, by decide +kernel⟩ rfl (List.append_nil _).symm rfl rfl (Nat.le_of_ble_eq_true rfl) dL_isWell_431 (List.append_nil _) ?_
                      refine g_if_lt hX 505 dL_isWell_434 (by decide) (fun c_434 => ?_) (fun c_434 => ?_)
                      · skip
                        refine g_iconst hX (v := 0) dL_isWell_505 (by decide) ?_
                        have e8 : b_506_3 = 0 := by rw [hb_506_3]; simp only [eq_false c_334, eq_true c_343, eq_true c_353, eq_true c_363, eq_true c_377, eq_false c_387, eq_false c_400, eq_true c_418, eq_true c_426, eq_true c_434, if_true, if_false]
                        rw [e8] at hJ
                        exact hJ
                      · skip
                        refine g_aload_n hX dL_isWell_437 rfl 10 rfl ?_
                        refine g_iconst hX (v := 4) dL_isWell_438 (by decide) ?_
                        refine g_pV_I hX (rest := []) (n := 1) (As := [.int 4]) (wc := wXX T ad z_293.2) (w1 := wXX T ad z_293.2) (rv := (F_X4_count z_293.2 4)) (st := []) 0 rfl rfl (c_X4_count (xL X) T (xB X) ad z_293.2 4) gL_isWell_X4_count rfl rfl rfl ⟨Nat.le_of_ble_eq_true rfl, Nat.le_of_ble_eq_true rfl⟩ ⟨Nat.zero_le _, Nat.zero_le _⟩ ⟨by decide +kernel, by decide +kernel, by decide +kernel⟩ rfl (List.append_nil _).symm rfl rfl (Nat.le_of_ble_eq_true rfl) dL_isWell_439 (List.append_nil _) ?_
                        refine g_sipush hX (v := 300) dL_isWell_442 (by decide) ?_
                        refine g_icmp_gt hX 505 dL_isWell_445 (by decide) (fun c_445 => ?_) (fun c_445 => ?_)
                        · skip
                          refine g_iconst hX (v := 0) dL_isWell_505 (by decide) ?_
                          have e8 : b_506_3 = 0 := by rw [hb_506_3]; simp only [eq_false c_334, eq_true c_343, eq_true c_353, eq_true c_363, eq_true c_377, eq_false c_387, eq_false c_400, eq_true c_418, eq_true c_426, eq_false c_434, eq_true c_445, if_true, if_false]
                          rw [e8] at hJ
                          exact hJ
                        · skip
                          refine g_aload_n hX dL_isWell_448 rfl 10 rfl ?_
                          refine g_iconst hX (v := 2) dL_isWell_449 (by decide) ?_
                          refine g_pV_I hX (rest := []) (n := 1) (As := [.int 2]) (wc := wXX T ad z_293.2) (w1 := wXX T ad z_293.2) (rv := (F_X4_count z_293.2 2)) (st := []) 0 rfl rfl (c_X4_count (xL X) T (xB X) ad z_293.2 2) gL_isWell_X4_count rfl rfl rfl ⟨Nat.le_of_ble_eq_true rfl, Nat.le_of_ble_eq_true rfl⟩ ⟨Nat.zero_le _, Nat.zero_le _⟩ ⟨by decide +kernel, by decide +kernel, by decide +kernel⟩ rfl (List.append_nil _).symm rfl rfl (Nat.le_of_ble_eq_true rfl) dL_isWell_450 (List.append_nil _) ?_
                          refine g_if_lt hX 505 dL_isWell_453 (by decide) (fun c_453 => ?_) (fun c_453 => ?_)
                          · skip
                            refine g_iconst hX (v := 0) dL_isWell_505 (by decide) ?_
                            have e8 : b_506_3 = 0 := by rw [hb_506_3]; simp only [eq_false c_334, eq_true c_343, eq_true c_353, eq_true c_363, eq_true c_377, eq_false c_387, eq_false c_400, eq_true c_418, eq_true c_426, eq_false c_434, eq_false c_445, eq_true c_453, if_true, if_false]
                            rw [e8] at hJ
                            exact hJ
                          · skip
                            refine g_aload_n hX dL_isWell_456 rfl 10 rfl ?_
                            refine g_iconst hX (v := 2) dL_isWell_457 (by decide) ?_
                            refine g_pV_I hX (rest := []) (n := 1) (As := [.int 2]) (wc := wXX T ad z_293.2) (w1 := wXX T ad z_293.2) (rv := (F_X4_count z_293.2 2)) (st := []) 0 rfl rfl (c_X4_count (xL X) T (xB X) ad z_293.2 2) gL_isWell_X4_count rfl rfl rfl ⟨Nat.le_of_ble_eq_true rfl, Nat.le_of_ble_eq_true rfl⟩ ⟨Nat.zero_le _, Nat.zero_le _⟩ ⟨by decide +kernel, by decide +kernel, by decide +kernel⟩ rfl (List.append_nil _).symm rfl rfl (Nat.le_of_ble_eq_true rfl) dL_isWell_458 (List.append_nil _) ?_
                            refine g_bipush hX (v := 11) dL_isWell_461 (by decide) ?_
                            refine g_icmp_gt hX 505 dL_isWell_463 (by decide) (fun c_463 => ?_) (fun c_463 => ?_)
                            · skip
                              refine g_iconst hX (v := 0) dL_isWell_505 (by decide) ?_
                              have e8 : b_506_3 = 0 := by rw [hb_506_3]; simp only [eq_false c_334, eq_true c_343, eq_true c_353, eq_true c_363, eq_true c_377, eq_false c_387, eq_false c_400, eq_true c_418, eq_true c_426, eq_false c_434, eq_false c_445, eq_false c_453, eq_true c_463, if_true, if_false]
                              rw [e8] at hJ
                              exact hJ
                            · skip
                              refine g_aload_n hX dL_isWell_466 rfl 10 rfl ?_
                              refine g_iconst hX (v := 2) dL_isWell_467 (by decide) ?_
                              refine g_pV_I hX (rest := []) (n := 1) (As := [.int 2]) (wc := wXX T ad z_293.2) (w1 := wXX T ad z_293.2) (rv := (F_X4_count z_293.2 2)) (st := []) 0 rfl rfl (c_X4_count (xL X) T (xB X) ad z_293.2 2) gL_isWell_X4_count rfl rfl rfl ⟨Nat.le_of_ble_eq_true rfl, Nat.le_of_ble_eq_true rfl⟩ ⟨Nat.zero_le _, Nat.zero_le _⟩ ⟨by decide +kernel, by decide +kernel, by decide +kernel⟩ rfl (List.append_nil _).symm rfl rfl (Nat.le_of_ble_eq_true rfl) dL_isWell_468 (List.append_nil _) ?_
                              refine g_if_gt hX 482 dL_isWell_471 (by decide) (fun c_471 => ?_) (fun c_471 => ?_)
                              · skip
                                refine g_aload_n hX dL_isWell_482 rfl 10 rfl ?_
                                refine g_iconst hX (v := 2) dL_isWell_483 (by decide) ?_
                                refine g_pV_I hX (rest := []) (n := 1) (As := [.int 2]) (wc := wXX T ad z_293.2) (w1 := wXX T ad z_293.2) (rv := (F_X4_count z_293.2 2)) (st := []) 0 rfl rfl (c_X4_count (xL X) T (xB X) ad z_293.2 2) gL_isWell_X4_count rfl rfl rfl ⟨Nat.le_of_ble_eq_true rfl, Nat.le_of_ble_eq_true rfl⟩ ⟨Nat.zero_le _, Nat.zero_le _⟩ ⟨by decide +kernel, by decide +kernel, by decide +kernel⟩ rfl (List.append_nil _).symm rfl rfl (Nat.le_of_ble_eq_true rfl) dL_isWell_484 (List.append_nil _) ?_
                                refine g_bipush hX (v := 11) dL_isWell_487 (by decide) ?_
                                refine g_icmp_lt hX 501 dL_isWell_489 (by decide) (fun c_489 => ?_) (fun c_489 => ?_)
                                · skip
                                  refine g_iconst hX (v := 1) dL_isWell_501 (by decide) ?_
                                  refine g_goto hX 506 dL_isWell_502 (by decide) ?_
                                  have e8 : b_506_3 = 1 := by rw [hb_506_3]; simp only [eq_false c_334, eq_true c_343, eq_true c_353, eq_true c_363, eq_true c_377, eq_false c_387, eq_false c_400, eq_true c_418, eq_true c_426, eq_false c_434, eq_false c_445, eq_false c_453, eq_false c_463, eq_true c_471, eq_true c_489, if_true, if_false]
                                  rw [e8] at hJ
                                  exact hJ
                                · skip
                                  refine g_aload_n hX dL_isWell_492 rfl 10 rfl ?_
                                  refine g_iconst hX (v := 3) dL_isWell_493 (by decide) ?_
                                  refine g_pV_I hX (rest := []) (n := 1) (As := [.int 3]) (wc := wXX T ad z_293.2) (w1 := wXX T ad z_293.2) (rv := (F_X4_count z_293.2 3)) (st := []) 0 rfl rfl (c_X4_count (xL X) T (xB X) ad z_293.2 3) gL_isWell_X4_count rfl rfl rfl ⟨Nat.le_of_ble_eq_true rfl, Nat.le_of_ble_eq_true rfl⟩ ⟨Nat.zero_le _, Nat.zero_le _⟩ ⟨by decide +kernel, by decide +kernel, by decide +kernel⟩ rfl (List.append_nil _).symm rfl rfl (Nat.le_of_ble_eq_true rfl) dL_isWell_494 (List.append_nil _) ?_
                                  refine g_iconst hX (v := 1) dL_isWell_497 (by decide) ?_
                                  refine g_icmp_ne hX 505 dL_isWell_498 (by decide) (fun c_498 => ?_) (fun c_498 => ?_)
                                  · skip
                                    refine g_iconst hX (v := 0) dL_isWell_505 (by decide) ?_
                                    have e8 : b_506_3 = 0 := by rw [hb_506_3]; simp only [eq_false c_334, eq_true c_343, eq_true c_353, eq_true c_363, eq_true c_377, eq_false c_387, eq_false c_400, eq_true c_418, eq_true c_426, eq_false c_434, eq_false c_445, eq_false c_453, eq_false c_463, eq_true c_471, eq_false c_489, eq_false c_498, if_true, if_false]
                                    rw [e8] at hJ
                                    exact hJ
                                  · skip
                                    refine g_iconst hX (v := 1) dL_isWell_501 (by decide) ?_
                                    refine g_goto hX 506 dL_isWell_502 (by decide) ?_
                                    have e8 : b_506_3 = 1 := by rw [hb_506_3]; simp only [eq_false c_334, eq_true c_343, eq_true c_353, eq_true c_363, eq_true c_377, eq_false c_387, eq_false c_400, eq_true c_418, eq_true c_426, eq_false c_434, eq_false c_445, eq_false c_453, eq_false c_463, eq_true c_471, eq_false c_489, eq_true c_498, if_true, if_false]
                                    rw [e8] at hJ
                                    exact hJ
                              · skip
                                refine g_aload_n hX dL_isWell_474 rfl 10 rfl ?_
                                refine g_iconst hX (v := 3) dL_isWell_475 (by decide) ?_
                                refine g_pV_I hX (rest := []) (n := 1) (As := [.int 3]) (wc := wXX T ad z_293.2) (w1 := wXX T ad z_293.2) (rv := (F_X4_count z_293.2 3)) (st := []) 0 rfl rfl (c_X4_count (xL X) T (xB X) ad z_293.2 3) gL_isWell_X4_count rfl rfl rfl ⟨Nat.le_of_ble_eq_true rfl, Nat.le_of_ble_eq_true rfl⟩ ⟨Nat.zero_le _, Nat.zero_le _⟩ ⟨by decide +kernel, by decide +kernel, by decide +kernel⟩ rfl (List.append_nil _).symm rfl rfl (Nat.le_of_ble_eq_true rfl) dL_isWell_476 (List.append_nil _) ?_
                                refine g_if_ne hX 505 dL_isWell_479 (by decide) (fun c_479 => ?_) (fun c_479 => ?_)
                                · skip
                                  refine g_iconst hX (v := 0) dL_isWell_505 (by decide) ?_
                                  have e8 : b_506_3 = 0 := by rw [hb_506_3]; simp only [eq_false c_334, eq_true c_343, eq_true c_353, eq_true c_363, eq_true c_377, eq_false c_387, eq_false c_400, eq_true c_418, eq_true c_426, eq_false c_434, eq_false c_445, eq_false c_453, eq_false c_463, eq_false c_471, eq_false c_479, if_true, if_false]
                                  rw [e8] at hJ
                                  exact hJ
                                · skip
                                  refine g_aload_n hX dL_isWell_482 rfl 10 rfl ?_
                                  refine g_iconst hX (v := 2) dL_isWell_483 (by decide) ?_
                                  refine g_pV_I hX (rest := []) (n := 1) (As := [.int 2]) (wc := wXX T ad z_293.2) (w1 := wXX T ad z_293.2) (rv := (F_X4_count z_293.2 2)) (st := []) 0 rfl rfl (c_X4_count (xL X) T (xB X) ad z_293.2 2) gL_isWell_X4_count rfl rfl rfl ⟨Nat.le_of_ble_eq_true rfl, Nat.le_of_ble_eq_true rfl⟩ ⟨Nat.zero_le _, Nat.zero_le _⟩ ⟨by decide +kernel, by decide +kernel, by decide +kernel⟩ rfl (List.append_nil _).symm rfl rfl (Nat.le_of_ble_eq_true rfl) dL_isWell_484 (List.append_nil _) ?_
                                  refine g_bipush hX (v := 11) dL_isWell_487 (by decide) ?_
                                  refine g_icmp_lt hX 501 dL_isWell_489 (by decide) (fun c_489 => ?_) (fun c_489 => ?_)
                                  · skip
                                    refine g_iconst hX (v := 1) dL_isWell_501 (by decide) ?_
                                    refine g_goto hX 506 dL_isWell_502 (by decide) ?_
                                    have e8 : b_506_3 = 1 := by rw [hb_506_3]; simp only [eq_false c_334, eq_true c_343, eq_true c_353, eq_true c_363, eq_true c_377, eq_false c_387, eq_false c_400, eq_true c_418, eq_true c_426, eq_false c_434, eq_false c_445, eq_false c_453, eq_false c_463, eq_false c_471, eq_true c_479, eq_true c_489, if_true, if_false]
                                    rw [e8] at hJ
                                    exact hJ
                                  · skip
                                    refine g_aload_n hX dL_isWell_492 rfl 10 rfl ?_
                                    refine g_iconst hX (v := 3) dL_isWell_493 (by decide) ?_
                                    refine g_pV_I hX (rest := []) (n := 1) (As := [.int 3]) (wc := wXX T ad z_293.2) (w1 := wXX T ad z_293.2) (rv := (F_X4_count z_293.2 3)) (st := []) 0 rfl rfl (c_X4_count (xL X) T (xB X) ad z_293.2 3) gL_isWell_X4_count rfl rfl rfl ⟨Nat.le_of_ble_eq_true rfl, Nat.le_of_ble_eq_true rfl⟩ ⟨Nat.zero_le _, Nat.zero_le _⟩ ⟨by decide +kernel, by decide +kernel, by decide +kernel⟩ rfl (List.append_nil _).symm rfl rfl (Nat.le_of_ble_eq_true rfl) dL_isWell_494 (List.append_nil _) ?_
                                    refine g_iconst hX (v := 1) dL_isWell_497 (by decide) ?_
                                    refine g_icmp_ne hX 505 dL_isWell_498 (by decide) (fun c_498 => ?_) (fun c_498 => ?_)
                                    · skip
                                      refine g_iconst hX (v := 0) dL_isWell_505 (by decide) ?_
                                      have e8 : b_506_3 = 0 := by rw [hb_506_3]; simp only [eq_false c_334, eq_true c_343, eq_true c_353, eq_true c_363, eq_true c_377, eq_false c_387, eq_false c_400, eq_true c_418, eq_true c_426, eq_false c_434, eq_false c_445, eq_false c_453, eq_false c_463, eq_false c_471, eq_true c_479, eq_false c_489, eq_false c_498, if_true, if_false]
                                      rw [e8] at hJ
                                      exact hJ
                                    · skip
                                      refine g_iconst hX (v := 1) dL_isWell_501 (by decide) ?_
                                      refine g_goto hX 506 dL_isWell_502 (by decide) ?_
                                      have e8 : b_506_3 = 1 := by rw [hb_506_3]; simp only [eq_false c_334, eq_true c_343, eq_true c_353, eq_true c_363, eq_true c_377, eq_false c_387, eq_false c_400, eq_true c_418, eq_true c_426, eq_false c_434, eq_false c_445, eq_false c_453, eq_false c_463, eq_false c_471, eq_true c_479, eq_false c_489, eq_true c_498, if_true, if_false]
                                      rw [e8] at hJ
                                      exact hJ
                · skip
                  refine g_iconst hX (v := 1) dL_isWell_403 (by decide) ?_
                  refine g_goto hX 408 dL_isWell_404 (by decide) ?_
                  refine g_icmp_ne hX 505 dL_isWell_408 (by decide) (fun _ => ?_) (fun c0 => absurd c0 (by decide))
                  refine g_iconst hX (v := 0) dL_isWell_505 (by decide) ?_
                  have e8 : b_506_3 = 0 := by rw [hb_506_3]; simp only [eq_false c_334, eq_true c_343, eq_true c_353, eq_true c_363, eq_true c_377, eq_false c_387, eq_true c_400, if_true, if_false]
                  rw [e8] at hJ
                  exact hJ
              · skip
                refine g_iconst hX (v := 1) dL_isWell_390 (by decide) ?_
                refine g_goto hX 395 dL_isWell_391 (by decide) ?_
                refine g_iload hX dL_isWell_395 6 rfl ?_
                refine g_sipush hX (v := 200) dL_isWell_397 (by decide) ?_
                refine g_icmp_ne hX 407 dL_isWell_400 (by decide) (fun c_400 => ?_) (fun c_400 => ?_)
                · skip
                  refine g_iconst hX (v := 0) dL_isWell_407 (by decide) ?_
                  refine g_icmp_ne hX 505 dL_isWell_408 (by decide) (fun _ => ?_) (fun c0 => absurd c0 (by decide))
                  refine g_iconst hX (v := 0) dL_isWell_505 (by decide) ?_
                  have e8 : b_506_3 = 0 := by rw [hb_506_3]; simp only [eq_false c_334, eq_true c_343, eq_true c_353, eq_true c_363, eq_true c_377, eq_true c_387, eq_false c_400, if_true, if_false]
                  rw [e8] at hJ
                  exact hJ
                · skip
                  refine g_iconst hX (v := 1) dL_isWell_403 (by decide) ?_
                  refine g_goto hX 408 dL_isWell_404 (by decide) ?_
                  refine g_icmp_ne hX 505 dL_isWell_408 (by decide) (fun c0 => absurd c0 (by decide)) (fun _ => ?_)
                  refine g_iload hX dL_isWell_411 0 rfl ?_
                  refine g_aload_n hX dL_isWell_413 rfl 10 rfl ?_
                  refine g_iconst hX (v := 1) dL_isWell_414 (by decide) ?_
                  refine g_pV_I hX (rest := []) (n := 1) (As := [.int 1]) (wc := wXX T ad z_293.2) (w1 := wXX T ad z_293.2) (rv := (F_X4_count z_293.2 1)) (st := [.int b_330_2]) 0 rfl rfl (c_X4_count (xL X) T (xB X) ad z_293.2 1) gL_isWell_X4_count rfl rfl rfl ⟨Nat.le_of_ble_eq_true rfl, Nat.le_of_ble_eq_true rfl⟩ ⟨Nat.zero_le _, Nat.zero_le _⟩ ⟨by decide +kernel, by decide +kernel, by decide +kernel⟩ rfl (List.append_nil _).symm rfl rfl (Nat.le_of_ble_eq_true rfl) dL_isWell_415 (List.append_nil _) ?_
                  refine g_if_ne hX 425 dL_isWell_418 (by decide) (fun c_418 => ?_) (fun c_418 => ?_)
                  · skip
                    refine g_iconst hX (v := 0) dL_isWell_425 (by decide) ?_
                    refine g_icmp_ne hX 505 dL_isWell_426 (by decide) (fun c_426 => ?_) (fun c_426 => ?_)
                    · skip
                      refine g_iconst hX (v := 0) dL_isWell_505 (by decide) ?_
                      have e8 : b_506_3 = 0 := by rw [hb_506_3]; simp only [eq_false c_334, eq_true c_343, eq_true c_353, eq_true c_363, eq_true c_377, eq_true c_387, eq_true c_400, eq_false c_418, eq_false c_426, if_true, if_false]
                      rw [e8] at hJ
                      exact hJ
                    · skip
                      refine g_aload_n hX dL_isWell_429 rfl 10 rfl ?_
                      refine g_iconst hX (v := 4) dL_isWell_430 (by decide) ?_
                      refine g_pV_I hX (rest := []) (n := 1) (As := [.int 4]) (wc := wXX T ad z_293.2) (w1 := wXX T ad z_293.2) (rv := (F_X4_count z_293.2 4)) (st := []) 0 rfl rfl (c_X4_count (xL X) T (xB X) ad z_293.2 4) gL_isWell_X4_count rfl rfl rfl ⟨Nat.le_of_ble_eq_true rfl, Nat.le_of_ble_eq_true rfl⟩ ⟨Nat.zero_le _, Nat.zero_le _⟩ ⟨by decide +kernel, by decide +kernel, by decide +kernel⟩ rfl (List.append_nil _).symm rfl rfl (Nat.le_of_ble_eq_true rfl) dL_isWell_431 (List.append_nil _) ?_
                      refine g_if_lt hX 505 dL_isWell_434 (by decide) (fun c_434 => ?_) (fun c_434 => ?_)
                      · skip
                        refine g_iconst hX (v := 0) dL_isWell_505 (by decide) ?_
                        have e8 : b_506_3 = 0 := by rw [hb_506_3]; simp only [eq_false c_334, eq_true c_343, eq_true c_353, eq_true c_363, eq_true c_377, eq_true c_387, eq_true c_400, eq_false c_418, eq_true c_426, eq_true c_434, if_true, if_false]
                        rw [e8] at hJ
                        exact hJ
                      · skip
                        refine g_aload_n hX dL_isWell_437 rfl 10 rfl ?_
                        refine g_iconst hX (v := 4) dL_isWell_438 (by decide) ?_
                        refine g_pV_I hX (rest := []) (n := 1) (As := [.int 4]) (wc := wXX T ad z_293.2) (w1 := wXX T ad z_293.2) (rv := (F_X4_count z_293.2 4)) (st := []) 0 rfl rfl (c_X4_count (xL X) T (xB X) ad z_293.2 4) gL_isWell_X4_count rfl rfl rfl ⟨Nat.le_of_ble_eq_true rfl, Nat.le_of_ble_eq_true rfl⟩ ⟨Nat.zero_le _, Nat.zero_le _⟩ ⟨by decide +kernel, by decide +kernel, by decide +kernel⟩ rfl (List.append_nil _).symm rfl rfl (Nat.le_of_ble_eq_true rfl) dL_isWell_439 (List.append_nil _) ?_
                        refine g_sipush hX (v := 300) dL_isWell_442 (by decide) ?_
                        refine g_icmp_gt hX 505 dL_isWell_445 (by decide) (fun c_445 => ?_) (fun c_445 => ?_)
                        · skip
                          refine g_iconst hX (v := 0) dL_isWell_505 (by decide) ?_
                          have e8 : b_506_3 = 0 := by rw [hb_506_3]; simp only [eq_false c_334, eq_true c_343, eq_true c_353, eq_true c_363, eq_true c_377, eq_true c_387, eq_true c_400, eq_false c_418, eq_true c_426, eq_false c_434, eq_true c_445, if_true, if_false]
                          rw [e8] at hJ
                          exact hJ
                        · skip
                          refine g_aload_n hX dL_isWell_448 rfl 10 rfl ?_
                          refine g_iconst hX (v := 2) dL_isWell_449 (by decide) ?_
                          refine g_pV_I hX (rest := []) (n := 1) (As := [.int 2]) (wc := wXX T ad z_293.2) (w1 := wXX T ad z_293.2) (rv := (F_X4_count z_293.2 2)) (st := []) 0 rfl rfl (c_X4_count (xL X) T (xB X) ad z_293.2 2) gL_isWell_X4_count rfl rfl rfl ⟨Nat.le_of_ble_eq_true rfl, Nat.le_of_ble_eq_true rfl⟩ ⟨Nat.zero_le _, Nat.zero_le _⟩ ⟨by decide +kernel, by decide +kernel, by decide +kernel⟩ rfl (List.append_nil _).symm rfl rfl (Nat.le_of_ble_eq_true rfl) dL_isWell_450 (List.append_nil _) ?_
                          refine g_if_lt hX 505 dL_isWell_453 (by decide) (fun c_453 => ?_) (fun c_453 => ?_)
                          · skip
                            refine g_iconst hX (v := 0) dL_isWell_505 (by decide) ?_
                            have e8 : b_506_3 = 0 := by rw [hb_506_3]; simp only [eq_false c_334, eq_true c_343, eq_true c_353, eq_true c_363, eq_true c_377, eq_true c_387, eq_true c_400, eq_false c_418, eq_true c_426, eq_false c_434, eq_false c_445, eq_true c_453, if_true, if_false]
                            rw [e8] at hJ
                            exact hJ
                          · skip
                            refine g_aload_n hX dL_isWell_456 rfl 10 rfl ?_
                            refine g_iconst hX (v := 2) dL_isWell_457 (by decide) ?_
                            refine g_pV_I hX (rest := []) (n := 1) (As := [.int 2]) (wc := wXX T ad z_293.2) (w1 := wXX T ad z_293.2) (rv := (F_X4_count z_293.2 2)) (st := []) 0 rfl rfl (c_X4_count (xL X) T (xB X) ad z_293.2 2) gL_isWell_X4_count rfl rfl rfl ⟨Nat.le_of_ble_eq_true rfl, Nat.le_of_ble_eq_true rfl⟩ ⟨Nat.zero_le _, Nat.zero_le _⟩ ⟨by decide +kernel, by decide +kernel, by decide +kernel⟩ rfl (List.append_nil _).symm rfl rfl (Nat.le_of_ble_eq_true rfl) dL_isWell_458 (List.append_nil _) ?_
                            refine g_bipush hX (v := 11) dL_isWell_461 (by decide) ?_
                            refine g_icmp_gt hX 505 dL_isWell_463 (by decide) (fun c_463 => ?_) (fun c_463 => ?_)
                            · skip
                              refine g_iconst hX (v := 0) dL_isWell_505 (by decide) ?_
                              have e8 : b_506_3 = 0 := by rw [hb_506_3]; simp only [eq_false c_334, eq_true c_343, eq_true c_353, eq_true c_363, eq_true c_377, eq_true c_387, eq_true c_400, eq_false c_418, eq_true c_426, eq_false c_434, eq_false c_445, eq_false c_453, eq_true c_463, if_true, if_false]
                              rw [e8] at hJ
                              exact hJ
                            · skip
                              refine g_aload_n hX dL_isWell_466 rfl 10 rfl ?_
                              refine g_iconst hX (v := 2) dL_isWell_467 (by decide) ?_
                              refine g_pV_I hX (rest := []) (n := 1) (As := [.int 2]) (wc := wXX T ad z_293.2) (w1 := wXX T ad z_293.2) (rv := (F_X4_count z_293.2 2)) (st := []) 0 rfl rfl (c_X4_count (xL X) T (xB X) ad z_293.2 2) gL_isWell_X4_count rfl rfl rfl ⟨Nat.le_of_ble_eq_true rfl, Nat.le_of_ble_eq_true rfl⟩ ⟨Nat.zero_le _, Nat.zero_le _⟩ ⟨by decide +kernel, by decide +kernel, by decide +kernel⟩ rfl (List.append_nil _).symm rfl rfl (Nat.le_of_ble_eq_true rfl) dL_isWell_468 (List.append_nil _) ?_
                              refine g_if_gt hX 482 dL_isWell_471 (by decide) (fun c_471 => ?_) (fun c_471 => ?_)
                              · skip
                                refine g_aload_n hX dL_isWell_482 rfl 10 rfl ?_
                                refine g_iconst hX (v := 2) dL_isWell_483 (by decide) ?_
                                refine g_pV_I hX (rest := []) (n := 1) (As := [.int 2]) (wc := wXX T ad z_293.2) (w1 := wXX T ad z_293.2) (rv := (F_X4_count z_293.2 2)) (st := []) 0 rfl rfl (c_X4_count (xL X) T (xB X) ad z_293.2 2) gL_isWell_X4_count rfl rfl rfl ⟨Nat.le_of_ble_eq_true rfl, Nat.le_of_ble_eq_true rfl⟩ ⟨Nat.zero_le _, Nat.zero_le _⟩ ⟨by decide +kernel, by decide +kernel, by decide +kernel⟩ rfl (List.append_nil _).symm rfl rfl (Nat.le_of_ble_eq_true rfl) dL_isWell_484 (List.append_nil _) ?_
                                refine g_bipush hX (v := 11) dL_isWell_487 (by decide) ?_
                                refine g_icmp_lt hX 501 dL_isWell_489 (by decide) (fun c_489 => ?_) (fun c_489 => ?_)
                                · skip
                                  refine g_iconst hX (v := 1) dL_isWell_501 (by decide) ?_
                                  refine g_goto hX 506 dL_isWell_502 (by decide) ?_
                                  have e8 : b_506_3 = 1 := by rw [hb_506_3]; simp only [eq_false c_334, eq_true c_343, eq_true c_353, eq_true c_363, eq_true c_377, eq_true c_387, eq_true c_400, eq_false c_418, eq_true c_426, eq_false c_434, eq_false c_445, eq_false c_453, eq_false c_463, eq_true c_471, eq_true c_489, if_true, if_false]
                                  rw [e8] at hJ
                                  exact hJ
                                · skip
                                  refine g_aload_n hX dL_isWell_492 rfl 10 rfl ?_
                                  refine g_iconst hX (v := 3) dL_isWell_493 (by decide) ?_
                                  refine g_pV_I hX (rest := []) (n := 1) (As := [.int 3]) (wc := wXX T ad z_293.2) (w1 := wXX T ad z_293.2) (rv := (F_X4_count z_293.2 3)) (st := []) 0 rfl rfl (c_X4_count (xL X) T (xB X) ad z_293.2 3) gL_isWell_X4_count rfl rfl rfl ⟨Nat.le_of_ble_eq_true rfl, Nat.le_of_ble_eq_true rfl⟩ ⟨Nat.zero_le _, Nat.zero_le _⟩ ⟨by decide +kernel, by decide +kernel, by decide +kernel⟩ rfl (List.append_nil _).symm rfl rfl (Nat.le_of_ble_eq_true rfl) dL_isWell_494 (List.append_nil _) ?_
                                  refine g_iconst hX (v := 1) dL_isWell_497 (by decide) ?_
                                  refine g_icmp_ne hX 505 dL_isWell_498 (by decide) (fun c_498 => ?_) (fun c_498 => ?_)
                                  · skip
                                    refine g_iconst hX (v := 0) dL_isWell_505 (by decide) ?_
                                    have e8 : b_506_3 = 0 := by rw [hb_506_3]; simp only [eq_false c_334, eq_true c_343, eq_true c_353, eq_true c_363, eq_true c_377, eq_true c_387, eq_true c_400, eq_false c_418, eq_true c_426, eq_false c_434, eq_false c_445, eq_false c_453, eq_false c_463, eq_true c_471, eq_false c_489, eq_false c_498, if_true, if_false]
                                    rw [e8] at hJ
                                    exact hJ
                                  · skip
                                    refine g_iconst hX (v := 1) dL_isWell_501 (by decide) ?_
                                    refine g_goto hX 506 dL_isWell_502 (by decide) ?_
                                    have e8 : b_506_3 = 1 := by rw [hb_506_3]; simp only [eq_false c_334, eq_true c_343, eq_true c_353, eq_true c_363, eq_true c_377, eq_true c_387, eq_true c_400, eq_false c_418, eq_true c_426, eq_false c_434, eq_false c_445, eq_false c_453, eq_false c_463, eq_true c_471, eq_false c_489, eq_true c_498, if_true, if_false]
                                    rw [e8] at hJ
                                    exact hJ
                              · skip
                                refine g_aload_n hX dL_isWell_474 rfl 10 rfl ?_
                                refine g_iconst hX (v := 3) dL_isWell_475 (by decide) ?_
                                refine g_pV_I hX (rest := []) (n := 1) (As := [.int 3]) (wc := wXX T ad z_293.2) (w1 := wXX T ad z_293.2) (rv := (F_X4_count z_293.2 3)) (st := []) 0 rfl rfl (c_X4_count (xL X) T (xB X) ad z_293.2 3) gL_isWell_X4_count rfl rfl rfl ⟨Nat.le_of_ble_eq_true rfl, Nat.le_of_ble_eq_true rfl⟩ ⟨Nat.zero_le _, Nat.zero_le _⟩ ⟨by decide +kernel, by decide +kernel, by decide +kernel⟩ rfl (List.append_nil _).symm rfl rfl (Nat.le_of_ble_eq_true rfl) dL_isWell_476 (List.append_nil _) ?_
                                refine g_if_ne hX 505 dL_isWell_479 (by decide) (fun c_479 => ?_) (fun c_479 => ?_)
                                · skip
                                  refine g_iconst hX (v := 0) dL_isWell_505 (by decide) ?_
                                  have e8 : b_506_3 = 0 := by rw [hb_506_3]; simp only [eq_false c_334, eq_true c_343, eq_true c_353, eq_true c_363, eq_true c_377, eq_true c_387, eq_true c_400, eq_false c_418, eq_true c_426, eq_false c_434, eq_false c_445, eq_false c_453, eq_false c_463, eq_false c_471, eq_false c_479, if_true, if_false]
                                  rw [e8] at hJ
                                  exact hJ
                                · skip
                                  refine g_aload_n hX dL_isWell_482 rfl 10 rfl ?_
                                  refine g_iconst hX (v := 2) dL_isWell_483 (by decide) ?_
                                  refine g_pV_I hX (rest := []) (n := 1) (As := [.int 2]) (wc := wXX T ad z_293.2) (w1 := wXX T ad z_293.2) (rv := (F_X4_count z_293.2 2)) (st := []) 0 rfl rfl (c_X4_count (xL X) T (xB X) ad z_293.2 2) gL_isWell_X4_count rfl rfl rfl ⟨Nat.le_of_ble_eq_true rfl, Nat.le_of_ble_eq_true rfl⟩ ⟨Nat.zero_le _, Nat.zero_le _⟩ ⟨by decide +kernel, by decide +kernel, by decide +kernel⟩ rfl (List.append_nil _).symm rfl rfl (Nat.le_of_ble_eq_true rfl) dL_isWell_484 (List.append_nil _) ?_
                                  refine g_bipush hX (v := 11) dL_isWell_487 (by decide) ?_
                                  refine g_icmp_lt hX 501 dL_isWell_489 (by decide) (fun c_489 => ?_) (fun c_489 => ?_)
                                  · skip
                                    refine g_iconst hX (v := 1) dL_isWell_501 (by decide) ?_
                                    refine g_goto hX 506 dL_isWell_502 (by decide) ?_
                                    have e8 : b_506_3 = 1 := by rw [hb_506_3]; simp only [eq_false c_334, eq_true c_343, eq_true c_353, eq_true c_363, eq_true c_377, eq_true c_387, eq_true c_400, eq_false c_418, eq_true c_426, eq_false c_434, eq_false c_445, eq_false c_453, eq_false c_463, eq_false c_471, eq_true c_479, eq_true c_489, if_true, if_false]
                                    rw [e8] at hJ
                                    exact hJ
                                  · skip
                                    refine g_aload_n hX dL_isWell_492 rfl 10 rfl ?_
                                    refine g_iconst hX (v := 3) dL_isWell_493 (by decide) ?_
                                    refine g_pV_I hX (rest := []) (n := 1) (As := [.int 3]) (wc := wXX T ad z_293.2) (w1 := wXX T ad z_293.2) (rv := (F_X4_count z_293.2 3)) (st := []) 0 rfl rfl (c_X4_count (xL X) T (xB X) ad z_293.2 3) gL_isWell_X4_count rfl rfl rfl ⟨Nat.le_of_ble_eq_true rfl, Nat.le_of_ble_eq_true rfl⟩ ⟨Nat.zero_le _, Nat.zero_le _⟩ ⟨by decide +kernel, by decide +kernel, by decide +kernel⟩ rfl (List.append_nil _).symm rfl rfl (Nat.le_of_ble_eq_true rfl) dL_isWell_494 (List.append_nil _) ?_
                                    refine g_iconst hX (v := 1) dL_isWell_497 (by decide) ?_
                                    refine g_icmp_ne hX 505 dL_isWell_498 (by decide) (fun c_498 => ?_) (fun c_498 => ?_)
                                    · skip
                                      refine g_iconst hX (v := 0) dL_isWell_505 (by decide) ?_
                                      have e8 : b_506_3 = 0 := by rw [hb_506_3]; simp only [eq_false c_334, eq_true c_343, eq_true c_353, eq_true c_363, eq_true c_377, eq_true c_387, eq_true c_400, eq_false c_418, eq_true c_426, eq_false c_434, eq_false c_445, eq_false c_453, eq_false c_463, eq_false c_471, eq_true c_479, eq_false c_489, eq_false c_498, if_true, if_false]
                                      rw [e8] at hJ
                                      exact hJ
                                    · skip
                                      refine g_iconst hX (v := 1) dL_isWell_501 (by decide) ?_
                                      refine g_goto hX 506 dL_isWell_502 (by decide) ?_
                                      have e8 : b_506_3 = 1 := by rw [hb_506_3]; simp only [eq_false c_334, eq_true c_343, eq_true c_353, eq_true c_363, eq_true c_377, eq_true c_387, eq_true c_400, eq_false c_418, eq_true c_426, eq_false c_434, eq_false c_445, eq_false c_453, eq_false c_463, eq_false c_471, eq_true c_479, eq_false c_489, eq_true c_498, if_true, if_false]
                                      rw [e8] at hJ
                                      exact hJ
                  · skip
                    refine g_iconst hX (v := 1) dL_isWell_421 (by decide) ?_
                    refine g_goto hX 426 dL_isWell_422 (by decide) ?_
                    refine g_icmp_ne hX 505 dL_isWell_426 (by decide) (fun c_426 => ?_) (fun c_426 => ?_)
                    · skip
                      refine g_iconst hX (v := 0) dL_isWell_505 (by decide) ?_
                      have e8 : b_506_3 = 0 := by rw [hb_506_3]; simp only [eq_false c_334, eq_true c_343, eq_true c_353, eq_true c_363, eq_true c_377, eq_true c_387, eq_true c_400, eq_true c_418, eq_false c_426, if_true, if_false]
                      rw [e8] at hJ
                      exact hJ
                    · skip
                      refine g_aload_n hX dL_isWell_429 rfl 10 rfl ?_
                      refine g_iconst hX (v := 4) dL_isWell_430 (by decide) ?_
                      refine g_pV_I hX (rest := []) (n := 1) (As := [.int 4]) (wc := wXX T ad z_293.2) (w1 := wXX T ad z_293.2) (rv := (F_X4_count z_293.2 4)) (st := []) 0 rfl rfl (c_X4_count (xL X) T (xB X) ad z_293.2 4) gL_isWell_X4_count rfl rfl rfl ⟨Nat.le_of_ble_eq_true rfl, Nat.le_of_ble_eq_true rfl⟩ ⟨Nat.zero_le _, Nat.zero_le _⟩ ⟨by decide +kernel, by decide +kernel, by decide +kernel⟩ rfl (List.append_nil _).symm rfl rfl (Nat.le_of_ble_eq_true rfl) dL_isWell_431 (List.append_nil _) ?_
                      refine g_if_lt hX 505 dL_isWell_434 (by decide) (fun c_434 => ?_) (fun c_434 => ?_)
                      · skip
                        refine g_iconst hX (v := 0) dL_isWell_505 (by decide) ?_
                        have e8 : b_506_3 = 0 := by rw [hb_506_3]; simp only [eq_false c_334, eq_true c_343, eq_true c_353, eq_true c_363, eq_true c_377, eq_true c_387, eq_true c_400, eq_true c_418, eq_true c_426, eq_true c_434, if_true, if_false]
                        rw [e8] at hJ
                        exact hJ
                      · skip
                        refine g_aload_n hX dL_isWell_437 rfl 10 rfl ?_
                        refine g_iconst hX (v := 4) dL_isWell_438 (by decide) ?_
                        refine g_pV_I hX (rest := []) (n := 1) (As := [.int 4]) (wc := wXX T ad z_293.2) (w1 := wXX T ad z_293.2) (rv := (F_X4_count z_293.2 4)) (st := []) 0 rfl rfl (c_X4_count (xL X) T (xB X) ad z_293.2 4) gL_isWell_X4_count rfl rfl rfl ⟨Nat.le_of_ble_eq_true rfl, Nat.le_of_ble_eq_true rfl⟩ ⟨Nat.zero_le _, Nat.zero_le _⟩ ⟨by decide +kernel, by decide +kernel, by decide +kernel⟩ rfl (List.append_nil _).symm rfl rfl (Nat.le_of_ble_eq_true rfl) dL_isWell_439 (List.append_nil _) ?_
                        refine g_sipush hX (v := 300) dL_isWell_442 (by decide) ?_
                        refine g_icmp_gt hX 505 dL_isWell_445 (by decide) (fun c_445 => ?_) (fun c_445 => ?_)
                        · skip
                          refine g_iconst hX (v := 0) dL_isWell_505 (by decide) ?_
                          have e8 : b_506_3 = 0 := by rw [hb_506_3]; simp only [eq_false c_334, eq_true c_343, eq_true c_353, eq_true c_363, eq_true c_377, eq_true c_387, eq_true c_400, eq_true c_418, eq_true c_426, eq_false c_434, eq_true c_445, if_true, if_false]
                          rw [e8] at hJ
                          exact hJ
                        · skip
                          refine g_aload_n hX dL_isWell_448 rfl 10 rfl ?_
                          refine g_iconst hX (v := 2) dL_isWell_449 (by decide) ?_
                          refine g_pV_I hX (rest := []) (n := 1) (As := [.int 2]) (wc := wXX T ad z_293.2) (w1 := wXX T ad z_293.2) (rv := (F_X4_count z_293.2 2)) (st := []) 0 rfl rfl (c_X4_count (xL X) T (xB X) ad z_293.2 2) gL_isWell_X4_count rfl rfl rfl ⟨Nat.le_of_ble_eq_true rfl, Nat.le_of_ble_eq_true rfl⟩ ⟨Nat.zero_le _, Nat.zero_le _⟩ ⟨by decide +kernel, by decide +kernel, by decide +kernel⟩ rfl (List.append_nil _).symm rfl rfl (Nat.le_of_ble_eq_true rfl) dL_isWell_450 (List.append_nil _) ?_
                          refine g_if_lt hX 505 dL_isWell_453 (by decide) (fun c_453 => ?_) (fun c_453 => ?_)
                          · skip
                            refine g_iconst hX (v := 0) dL_isWell_505 (by decide) ?_
                            have e8 : b_506_3 = 0 := by rw [hb_506_3]; simp only [eq_false c_334, eq_true c_343, eq_true c_353, eq_true c_363, eq_true c_377, eq_true c_387, eq_true c_400, eq_true c_418, eq_true c_426, eq_false c_434, eq_false c_445, eq_true c_453, if_true, if_false]
                            rw [e8] at hJ
                            exact hJ
                          · skip
                            refine g_aload_n hX dL_isWell_456 rfl 10 rfl ?_
                            refine g_iconst hX (v := 2) dL_isWell_457 (by decide) ?_
                            refine g_pV_I hX (rest := []) (n := 1) (As := [.int 2]) (wc := wXX T ad z_293.2) (w1 := wXX T ad z_293.2) (rv := (F_X4_count z_293.2 2)) (st := []) 0 rfl rfl (c_X4_count (xL X) T (xB X) ad z_293.2 2) gL_isWell_X4_count rfl rfl rfl ⟨Nat.le_of_ble_eq_true rfl, Nat.le_of_ble_eq_true rfl⟩ ⟨Nat.zero_le _, Nat.zero_le _⟩ ⟨by decide +kernel, by decide +kernel, by decide +kernel⟩ rfl (List.append_nil _).symm rfl rfl (Nat.le_of_ble_eq_true rfl) dL_isWell_458 (List.append_nil _) ?_
                            refine g_bipush hX (v := 11) dL_isWell_461 (by decide) ?_
                            refine g_icmp_gt hX 505 dL_isWell_463 (by decide) (fun c_463 => ?_) (fun c_463 => ?_)
                            · skip
                              refine g_iconst hX (v := 0) dL_isWell_505 (by decide) ?_
                              have e8 : b_506_3 = 0 := by rw [hb_506_3]; simp only [eq_false c_334, eq_true c_343, eq_true c_353, eq_true c_363, eq_true c_377, eq_true c_387, eq_true c_400, eq_true c_418, eq_true c_426, eq_false c_434, eq_false c_445, eq_false c_453, eq_true c_463, if_true, if_false]
                              rw [e8] at hJ
                              exact hJ
                            · skip
                              refine g_aload_n hX dL_isWell_466 rfl 10 rfl ?_
                              refine g_iconst hX (v := 2) dL_isWell_467 (by decide) ?_
                              refine g_pV_I hX (rest := []) (n := 1) (As := [.int 2]) (wc := wXX T ad z_293.2) (w1 := wXX T ad z_293.2) (rv := (F_X4_count z_293.2 2)) (st := []) 0 rfl rfl (c_X4_count (xL X) T (xB X) ad z_293.2 2) gL_isWell_X4_count rfl rfl rfl ⟨Nat.le_of_ble_eq_true rfl, Nat.le_of_ble_eq_true rfl⟩ ⟨Nat.zero_le _, Nat.zero_le _⟩ ⟨by decide +kernel, by decide +kernel, by decide +kernel⟩ rfl (List.append_nil _).symm rfl rfl (Nat.le_of_ble_eq_true rfl) dL_isWell_468 (List.append_nil _) ?_
                              refine g_if_gt hX 482 dL_isWell_471 (by decide) (fun c_471 => ?_) (fun c_471 => ?_)
                              · skip
                                refine g_aload_n hX dL_isWell_482 rfl 10 rfl ?_
                                refine g_iconst hX (v := 2) dL_isWell_483 (by decide) ?_
                                refine g_pV_I hX (rest := []) (n := 1) (As := [.int 2]) (wc := wXX T ad z_293.2) (w1 := wXX T ad z_293.2) (rv := (F_X4_count z_293.2 2)) (st := []) 0 rfl rfl (c_X4_count (xL X) T (xB X) ad z_293.2 2) gL_isWell_X4_count rfl rfl rfl ⟨Nat.le_of_ble_eq_true rfl, Nat.le_of_ble_eq_true rfl⟩ ⟨Nat.zero_le _, Nat.zero_le _⟩ ⟨by decide +kernel, by decide +kernel, by decide +kernel⟩ rfl (List.append_nil _).symm rfl rfl (Nat.le_of_ble_eq_true rfl) dL_isWell_484 (List.append_nil _) ?_
                                refine g_bipush hX (v := 11) dL_isWell_487 (by decide) ?_
                                refine g_icmp_lt hX 501 dL_isWell_489 (by decide) (fun c_489 => ?_) (fun c_489 => ?_)
                                · skip
                                  refine g_iconst hX (v := 1) dL_isWell_501 (by decide) ?_
                                  refine g_goto hX 506 dL_isWell_502 (by decide) ?_
                                  have e8 : b_506_3 = 1 := by rw [hb_506_3]; simp only [eq_false c_334, eq_true c_343, eq_true c_353, eq_true c_363, eq_true c_377, eq_true c_387, eq_true c_400, eq_true c_418, eq_true c_426, eq_false c_434, eq_false c_445, eq_false c_453, eq_false c_463, eq_true c_471, eq_true c_489, if_true, if_false]
                                  rw [e8] at hJ
                                  exact hJ
                                · skip
                                  refine g_aload_n hX dL_isWell_492 rfl 10 rfl ?_
                                  refine g_iconst hX (v := 3) dL_isWell_493 (by decide) ?_
                                  refine g_pV_I hX (rest := []) (n := 1) (As := [.int 3]) (wc := wXX T ad z_293.2) (w1 := wXX T ad z_293.2) (rv := (F_X4_count z_293.2 3)) (st := []) 0 rfl rfl (c_X4_count (xL X) T (xB X) ad z_293.2 3) gL_isWell_X4_count rfl rfl rfl ⟨Nat.le_of_ble_eq_true rfl, Nat.le_of_ble_eq_true rfl⟩ ⟨Nat.zero_le _, Nat.zero_le _⟩ ⟨by decide +kernel, by decide +kernel, by decide +kernel⟩ rfl (List.append_nil _).symm rfl rfl (Nat.le_of_ble_eq_true rfl) dL_isWell_494 (List.append_nil _) ?_
                                  refine g_iconst hX (v := 1) dL_isWell_497 (by decide) ?_
                                  refine g_icmp_ne hX 505 dL_isWell_498 (by decide) (fun c_498 => ?_) (fun c_498 => ?_)
                                  · skip
                                    refine g_iconst hX (v := 0) dL_isWell_505 (by decide) ?_
                                    have e8 : b_506_3 = 0 := by rw [hb_506_3]; simp only [eq_false c_334, eq_true c_343, eq_true c_353, eq_true c_363, eq_true c_377, eq_true c_387, eq_true c_400, eq_true c_418, eq_true c_426, eq_false c_434, eq_false c_445, eq_false c_453, eq_false c_463, eq_true c_471, eq_false c_489, eq_false c_498, if_true, if_false]
                                    rw [e8] at hJ
                                    exact hJ
                                  · skip
                                    refine g_iconst hX (v := 1) dL_isWell_501 (by decide) ?_
                                    refine g_goto hX 506 dL_isWell_502 (by decide) ?_
                                    have e8 : b_506_3 = 1 := by rw [hb_506_3]; simp only [eq_false c_334, eq_true c_343, eq_true c_353, eq_true c_363, eq_true c_377, eq_true c_387, eq_true c_400, eq_true c_418, eq_true c_426, eq_false c_434, eq_false c_445, eq_false c_453, eq_false c_463, eq_true c_471, eq_false c_489, eq_true c_498, if_true, if_false]
                                    rw [e8] at hJ
                                    exact hJ
                              · skip
                                refine g_aload_n hX dL_isWell_474 rfl 10 rfl ?_
                                refine g_iconst hX (v := 3) dL_isWell_475 (by decide) ?_
                                refine g_pV_I hX (rest := []) (n := 1) (As := [.int 3]) (wc := wXX T ad z_293.2) (w1 := wXX T ad z_293.2) (rv := (F_X4_count z_293.2 3)) (st := []) 0 rfl rfl (c_X4_count (xL X) T (xB X) ad z_293.2 3) gL_isWell_X4_count rfl rfl rfl ⟨Nat.le_of_ble_eq_true rfl, Nat.le_of_ble_eq_true rfl⟩ ⟨Nat.zero_le _, Nat.zero_le _⟩ ⟨by decide +kernel, by decide +kernel, by decide +kernel⟩ rfl (List.append_nil _).symm rfl rfl (Nat.le_of_ble_eq_true rfl) dL_isWell_476 (List.append_nil _) ?_
                                refine g_if_ne hX 505 dL_isWell_479 (by decide) (fun c_479 => ?_) (fun c_479 => ?_)
                                · skip
                                  refine g_iconst hX (v := 0) dL_isWell_505 (by decide) ?_
                                  have e8 : b_506_3 = 0 := by rw [hb_506_3]; simp only [eq_false c_334, eq_true c_343, eq_true c_353, eq_true c_363, eq_true c_377, eq_true c_387, eq_true c_400, eq_true c_418, eq_true c_426, eq_false c_434, eq_false c_445, eq_false c_453, eq_false c_463, eq_false c_471, eq_false c_479, if_true, if_false]
                                  rw [e8] at hJ
                                  exact hJ
                                · skip
                                  refine g_aload_n hX dL_isWell_482 rfl 10 rfl ?_
                                  refine g_iconst hX (v := 2) dL_isWell_483 (by decide) ?_
                                  refine g_pV_I hX (rest := []) (n := 1) (As := [.int 2]) (wc := wXX T ad z_293.2) (w1 := wXX T ad z_293.2) (rv := (F_X4_count z_293.2 2)) (st := []) 0 rfl rfl (c_X4_count (xL X) T (xB X) ad z_293.2 2) gL_isWell_X4_count rfl rfl rfl ⟨Nat.le_of_ble_eq_true rfl, Nat.le_of_ble_eq_true rfl⟩ ⟨Nat.zero_le _, Nat.zero_le _⟩ ⟨by decide +kernel, by decide +kernel, by decide +kernel⟩ rfl (List.append_nil _).symm rfl rfl (Nat.le_of_ble_eq_true rfl) dL_isWell_484 (List.append_nil _) ?_
                                  refine g_bipush hX (v := 11) dL_isWell_487 (by decide) ?_
                                  refine g_icmp_lt hX 501 dL_isWell_489 (by decide) (fun c_489 => ?_) (fun c_489 => ?_)
                                  · skip
                                    refine g_iconst hX (v := 1) dL_isWell_501 (by decide) ?_
                                    refine g_goto hX 506 dL_isWell_502 (by decide) ?_
                                    have e8 : b_506_3 = 1 := by rw [hb_506_3]; simp only [eq_false c_334, eq_true c_343, eq_true c_353, eq_true c_363, eq_true c_377, eq_true c_387, eq_true c_400, eq_true c_418, eq_true c_426, eq_false c_434, eq_false c_445, eq_false c_453, eq_false c_463, eq_false c_471, eq_true c_479, eq_true c_489, if_true, if_false]
                                    rw [e8] at hJ
                                    exact hJ
                                  · skip
                                    refine g_aload_n hX dL_isWell_492 rfl 10 rfl ?_
                                    refine g_iconst hX (v := 3) dL_isWell_493 (by decide) ?_
                                    refine g_pV_I hX (rest := []) (n := 1) (As := [.int 3]) (wc := wXX T ad z_293.2) (w1 := wXX T ad z_293.2) (rv := (F_X4_count z_293.2 3)) (st := []) 0 rfl rfl (c_X4_count (xL X) T (xB X) ad z_293.2 3) gL_isWell_X4_count rfl rfl rfl ⟨Nat.le_of_ble_eq_true rfl, Nat.le_of_ble_eq_true rfl⟩ ⟨Nat.zero_le _, Nat.zero_le _⟩ ⟨by decide +kernel, by decide +kernel, by decide +kernel⟩ rfl (List.append_nil _).symm rfl rfl (Nat.le_of_ble_eq_true rfl) dL_isWell_494 (List.append_nil _) ?_
                                    refine g_iconst hX (v := 1) dL_isWell_497 (by decide) ?_
                                    refine g_icmp_ne hX 505 dL_isWell_498 (by decide) (fun c_498 => ?_) (fun c_498 => ?_)
                                    · skip
                                      refine g_iconst hX (v := 0) dL_isWell_505 (by decide) ?_
                                      have e8 : b_506_3 = 0 := by rw [hb_506_3]; simp only [eq_false c_334, eq_true c_343, eq_true c_353, eq_true c_363, eq_true c_377, eq_true c_387, eq_true c_400, eq_true c_418, eq_true c_426, eq_false c_434, eq_false c_445, eq_false c_453, eq_false c_463, eq_false c_471, eq_true c_479, eq_false c_489, eq_false c_498, if_true, if_false]
                                      rw [e8] at hJ
                                      exact hJ
                                    · skip
                                      refine g_iconst hX (v := 1) dL_isWell_501 (by decide) ?_
                                      refine g_goto hX 506 dL_isWell_502 (by decide) ?_
                                      have e8 : b_506_3 = 1 := by rw [hb_506_3]; simp only [eq_false c_334, eq_true c_343, eq_true c_353, eq_true c_363, eq_true c_377, eq_true c_387, eq_true c_400, eq_true c_418, eq_true c_426, eq_false c_434, eq_false c_445, eq_false c_453, eq_false c_463, eq_false c_471, eq_true c_479, eq_false c_489, eq_true c_498, if_true, if_false]
                                      rw [e8] at hJ
                                      exact hJ
  refine g_istore hX (lv' := [(7, .int b_506_3), (10, .int b_330_2), (9, .int b_313_1), (8, .int z_293.1), (1, .int wr), (2, .int kn), (3, .int ri), (4, .int mo), (5, .int le), (6, .int ba), (0, .ref (ad 0))]) dL_isWell_506 (by decide) rfl ?_
  obtain ⟨b_571_4, hb_571_4⟩ : ∃ z : Int32, z = (if b_506_3 = 0 then 0 else (if b_313_1 = 0 then (if b_330_2 = 0 then (if z_293.1 = (-5) then (if 0 < wr then 1 else (if (F_X4_count z_293.2 5) = 0 then 1 else 0)) else (if z_293.1 < 1 then 0 else (if 1000 < z_293.1 then 0 else (if 0 < wr then 1 else (if (F_X4_count z_293.2 5) = 0 then 1 else 0))))) else (if z_293.1 = (-4) then (if 0 < wr then 1 else (if (F_X4_count z_293.2 5) = 0 then 1 else 0)) else 0)) else (if z_293.1 = (-4) then (if 0 < wr then 1 else (if (F_X4_count z_293.2 5) = 0 then 1 else 0)) else 0))) := ⟨_, rfl⟩
  refine g_join 571 (.int b_571_4 :: []) (fun hJ => ?_) ?_
  · skip
    refine g_iload hX dL_isWell_508 0 rfl ?_
    refine g_if_eq hX 570 dL_isWell_510 (by decide) (fun c_510 => ?_) (fun c_510 => ?_)
    · skip
      refine g_iconst hX (v := 0) dL_isWell_570 (by decide) ?_
      have e8 : b_571_4 = 0 := by rw [hb_571_4]; simp only [eq_true c_510, if_true, if_false]
      rw [e8] at hJ
      exact hJ
    · skip
      refine g_iload hX dL_isWell_513 2 rfl ?_
      refine g_if_ne hX 523 dL_isWell_515 (by decide) (fun c_515 => ?_) (fun c_515 => ?_)
      · skip
        refine g_iload hX dL_isWell_523 3 rfl ?_
        refine g_bipush hX (v := (-4)) dL_isWell_525 (by decide) ?_
        refine g_icmp_ne hX 570 dL_isWell_527 (by decide) (fun c_527 => ?_) (fun c_527 => ?_)
        · skip
          refine g_iconst hX (v := 0) dL_isWell_570 (by decide) ?_
          have e8 : b_571_4 = 0 := by rw [hb_571_4]; simp only [eq_false c_510, eq_false c_515, eq_false c_527, if_true, if_false]
          rw [e8] at hJ
          exact hJ
        · skip
          refine g_goto hX 554 dL_isWell_530 (by decide) ?_
          refine g_iload_n hX dL_isWell_554 rfl 4 rfl ?_
          refine g_if_gt hX 566 dL_isWell_555 (by decide) (fun c_555 => ?_) (fun c_555 => ?_)
          · skip
            refine g_iconst hX (v := 1) dL_isWell_566 (by decide) ?_
            refine g_goto hX 571 dL_isWell_567 (by decide) ?_
            have e8 : b_571_4 = 1 := by rw [hb_571_4]; simp only [eq_false c_510, eq_false c_515, eq_true c_527, eq_true c_555, if_true, if_false]
            rw [e8] at hJ
            exact hJ
          · skip
            refine g_aload_n hX dL_isWell_558 rfl 10 rfl ?_
            refine g_iconst hX (v := 5) dL_isWell_559 (by decide) ?_
            refine g_pV_I hX (rest := []) (n := 1) (As := [.int 5]) (wc := wXX T ad z_293.2) (w1 := wXX T ad z_293.2) (rv := (F_X4_count z_293.2 5)) (st := []) 0 rfl rfl (c_X4_count (xL X) T (xB X) ad z_293.2 5) gL_isWell_X4_count rfl rfl rfl ⟨Nat.le_of_ble_eq_true rfl, Nat.le_of_ble_eq_true rfl⟩ ⟨Nat.zero_le _, Nat.zero_le _⟩ ⟨by decide +kernel, by decide +kernel, by decide +kernel⟩ rfl (List.append_nil _).symm rfl rfl (Nat.le_of_ble_eq_true rfl) dL_isWell_560 (List.append_nil _) ?_
            refine g_if_ne hX 570 dL_isWell_563 (by decide) (fun c_563 => ?_) (fun c_563 => ?_)
            · skip
              refine g_iconst hX (v := 0) dL_isWell_570 (by decide) ?_
              have e8 : b_571_4 = 0 := by rw [hb_571_4]; simp only [eq_false c_510, eq_false c_515, eq_true c_527, eq_false c_555, eq_false c_563, if_true, if_false]
              rw [e8] at hJ
              exact hJ
            · skip
              refine g_iconst hX (v := 1) dL_isWell_566 (by decide) ?_
              refine g_goto hX 571 dL_isWell_567 (by decide) ?_
              have e8 : b_571_4 = 1 := by rw [hb_571_4]; simp only [eq_false c_510, eq_false c_515, eq_true c_527, eq_false c_555, eq_true c_563, if_true, if_false]
              rw [e8] at hJ
              exact hJ
      · skip
        refine g_iload hX dL_isWell_518 1 rfl ?_
        refine g_if_eq hX 533 dL_isWell_520 (by decide) (fun c_520 => ?_) (fun c_520 => ?_)
        · skip
          refine g_iload hX dL_isWell_533 3 rfl ?_
          refine g_bipush hX (v := (-5)) dL_isWell_535 (by decide) ?_
          refine g_icmp_eq hX 554 dL_isWell_537 (by decide) (fun c_537 => ?_) (fun c_537 => ?_)
          · skip
            refine g_iload_n hX dL_isWell_554 rfl 4 rfl ?_
            refine g_if_gt hX 566 dL_isWell_555 (by decide) (fun c_555 => ?_) (fun c_555 => ?_)
            · skip
              refine g_iconst hX (v := 1) dL_isWell_566 (by decide) ?_
              refine g_goto hX 571 dL_isWell_567 (by decide) ?_
              have e8 : b_571_4 = 1 := by rw [hb_571_4]; simp only [eq_false c_510, eq_true c_515, eq_true c_520, eq_true c_537, eq_true c_555, if_true, if_false]
              rw [e8] at hJ
              exact hJ
            · skip
              refine g_aload_n hX dL_isWell_558 rfl 10 rfl ?_
              refine g_iconst hX (v := 5) dL_isWell_559 (by decide) ?_
              refine g_pV_I hX (rest := []) (n := 1) (As := [.int 5]) (wc := wXX T ad z_293.2) (w1 := wXX T ad z_293.2) (rv := (F_X4_count z_293.2 5)) (st := []) 0 rfl rfl (c_X4_count (xL X) T (xB X) ad z_293.2 5) gL_isWell_X4_count rfl rfl rfl ⟨Nat.le_of_ble_eq_true rfl, Nat.le_of_ble_eq_true rfl⟩ ⟨Nat.zero_le _, Nat.zero_le _⟩ ⟨by decide +kernel, by decide +kernel, by decide +kernel⟩ rfl (List.append_nil _).symm rfl rfl (Nat.le_of_ble_eq_true rfl) dL_isWell_560 (List.append_nil _) ?_
              refine g_if_ne hX 570 dL_isWell_563 (by decide) (fun c_563 => ?_) (fun c_563 => ?_)
              · skip
                refine g_iconst hX (v := 0) dL_isWell_570 (by decide) ?_
                have e8 : b_571_4 = 0 := by rw [hb_571_4]; simp only [eq_false c_510, eq_true c_515, eq_true c_520, eq_true c_537, eq_false c_555, eq_false c_563, if_true, if_false]
                rw [e8] at hJ
                exact hJ
              · skip
                refine g_iconst hX (v := 1) dL_isWell_566 (by decide) ?_
                refine g_goto hX 571 dL_isWell_567 (by decide) ?_
                have e8 : b_571_4 = 1 := by rw [hb_571_4]; simp only [eq_false c_510, eq_true c_515, eq_true c_520, eq_true c_537, eq_false c_555, eq_true c_563, if_true, if_false]
                rw [e8] at hJ
                exact hJ
          · skip
            refine g_iload hX dL_isWell_540 3 rfl ?_
            refine g_iconst hX (v := 1) dL_isWell_542 (by decide) ?_
            refine g_icmp_lt hX 570 dL_isWell_543 (by decide) (fun c_543 => ?_) (fun c_543 => ?_)
            · skip
              refine g_iconst hX (v := 0) dL_isWell_570 (by decide) ?_
              have e8 : b_571_4 = 0 := by rw [hb_571_4]; simp only [eq_false c_510, eq_true c_515, eq_true c_520, eq_false c_537, eq_true c_543, if_true, if_false]
              rw [e8] at hJ
              exact hJ
            · skip
              refine g_iload hX dL_isWell_546 3 rfl ?_
              refine g_sipush hX (v := 1000) dL_isWell_548 (by decide) ?_
              refine g_icmp_gt hX 570 dL_isWell_551 (by decide) (fun c_551 => ?_) (fun c_551 => ?_)
              · skip
                refine g_iconst hX (v := 0) dL_isWell_570 (by decide) ?_
                have e8 : b_571_4 = 0 := by rw [hb_571_4]; simp only [eq_false c_510, eq_true c_515, eq_true c_520, eq_false c_537, eq_false c_543, eq_true c_551, if_true, if_false]
                rw [e8] at hJ
                exact hJ
              · skip
                refine g_iload_n hX dL_isWell_554 rfl 4 rfl ?_
                refine g_if_gt hX 566 dL_isWell_555 (by decide) (fun c_555 => ?_) (fun c_555 => ?_)
                · skip
                  refine g_iconst hX (v := 1) dL_isWell_566 (by decide) ?_
                  refine g_goto hX 571 dL_isWell_567 (by decide) ?_
                  have e8 : b_571_4 = 1 := by rw [hb_571_4]; simp only [eq_false c_510, eq_true c_515, eq_true c_520, eq_false c_537, eq_false c_543, eq_false c_551, eq_true c_555, if_true, if_false]
                  rw [e8] at hJ
                  exact hJ
                · skip
                  refine g_aload_n hX dL_isWell_558 rfl 10 rfl ?_
                  refine g_iconst hX (v := 5) dL_isWell_559 (by decide) ?_
                  refine g_pV_I hX (rest := []) (n := 1) (As := [.int 5]) (wc := wXX T ad z_293.2) (w1 := wXX T ad z_293.2) (rv := (F_X4_count z_293.2 5)) (st := []) 0 rfl rfl (c_X4_count (xL X) T (xB X) ad z_293.2 5) gL_isWell_X4_count rfl rfl rfl ⟨Nat.le_of_ble_eq_true rfl, Nat.le_of_ble_eq_true rfl⟩ ⟨Nat.zero_le _, Nat.zero_le _⟩ ⟨by decide +kernel, by decide +kernel, by decide +kernel⟩ rfl (List.append_nil _).symm rfl rfl (Nat.le_of_ble_eq_true rfl) dL_isWell_560 (List.append_nil _) ?_
                  refine g_if_ne hX 570 dL_isWell_563 (by decide) (fun c_563 => ?_) (fun c_563 => ?_)
                  · skip
                    refine g_iconst hX (v := 0) dL_isWell_570 (by decide) ?_
                    have e8 : b_571_4 = 0 := by rw [hb_571_4]; simp only [eq_false c_510, eq_true c_515, eq_true c_520, eq_false c_537, eq_false c_543, eq_false c_551, eq_false c_555, eq_false c_563, if_true, if_false]
                    rw [e8] at hJ
                    exact hJ
                  · skip
                    refine g_iconst hX (v := 1) dL_isWell_566 (by decide) ?_
                    refine g_goto hX 571 dL_isWell_567 (by decide) ?_
                    have e8 : b_571_4 = 1 := by rw [hb_571_4]; simp only [eq_false c_510, eq_true c_515, eq_true c_520, eq_false c_537, eq_false c_543, eq_false c_551, eq_false c_555, eq_true c_563, if_true, if_false]
                    rw [e8] at hJ
                    exact hJ
        · skip
          refine g_iload hX dL_isWell_523 3 rfl ?_
          refine g_bipush hX (v := (-4)) dL_isWell_525 (by decide) ?_
          refine g_icmp_ne hX 570 dL_isWell_527 (by decide) (fun c_527 => ?_) (fun c_527 => ?_)
          · skip
            refine g_iconst hX (v := 0) dL_isWell_570 (by decide) ?_
            have e8 : b_571_4 = 0 := by rw [hb_571_4]; simp only [eq_false c_510, eq_true c_515, eq_false c_520, eq_false c_527, if_true, if_false]
            rw [e8] at hJ
            exact hJ
          · skip
            refine g_goto hX 554 dL_isWell_530 (by decide) ?_
            refine g_iload_n hX dL_isWell_554 rfl 4 rfl ?_
            refine g_if_gt hX 566 dL_isWell_555 (by decide) (fun c_555 => ?_) (fun c_555 => ?_)
            · skip
              refine g_iconst hX (v := 1) dL_isWell_566 (by decide) ?_
              refine g_goto hX 571 dL_isWell_567 (by decide) ?_
              have e8 : b_571_4 = 1 := by rw [hb_571_4]; simp only [eq_false c_510, eq_true c_515, eq_false c_520, eq_true c_527, eq_true c_555, if_true, if_false]
              rw [e8] at hJ
              exact hJ
            · skip
              refine g_aload_n hX dL_isWell_558 rfl 10 rfl ?_
              refine g_iconst hX (v := 5) dL_isWell_559 (by decide) ?_
              refine g_pV_I hX (rest := []) (n := 1) (As := [.int 5]) (wc := wXX T ad z_293.2) (w1 := wXX T ad z_293.2) (rv := (F_X4_count z_293.2 5)) (st := []) 0 rfl rfl (c_X4_count (xL X) T (xB X) ad z_293.2 5) gL_isWell_X4_count rfl rfl rfl ⟨Nat.le_of_ble_eq_true rfl, Nat.le_of_ble_eq_true rfl⟩ ⟨Nat.zero_le _, Nat.zero_le _⟩ ⟨by decide +kernel, by decide +kernel, by decide +kernel⟩ rfl (List.append_nil _).symm rfl rfl (Nat.le_of_ble_eq_true rfl) dL_isWell_560 (List.append_nil _) ?_
              refine g_if_ne hX 570 dL_isWell_563 (by decide) (fun c_563 => ?_) (fun c_563 => ?_)
              · skip
                refine g_iconst hX (v := 0) dL_isWell_570 (by decide) ?_
                have e8 : b_571_4 = 0 := by rw [hb_571_4]; simp only [eq_false c_510, eq_true c_515, eq_false c_520, eq_true c_527, eq_false c_555, eq_false c_563, if_true, if_false]
                rw [e8] at hJ
                exact hJ
              · skip
                refine g_iconst hX (v := 1) dL_isWell_566 (by decide) ?_
                refine g_goto hX 571 dL_isWell_567 (by decide) ?_
                have e8 : b_571_4 = 1 := by rw [hb_571_4]; simp only [eq_false c_510, eq_true c_515, eq_false c_520, eq_true c_527, eq_false c_555, eq_true c_563, if_true, if_false]
                rw [e8] at hJ
                exact hJ
  refine g_istore hX (lv' := [(7, .int b_571_4), (10, .int b_330_2), (9, .int b_313_1), (8, .int z_293.1), (1, .int wr), (2, .int kn), (3, .int ri), (4, .int mo), (5, .int le), (6, .int ba), (0, .ref (ad 0))]) dL_isWell_571 (by decide) rfl ?_
  have e9 : K_L_isWell_292 xv wr kn ri mo le ba e = K_L_isWell_573 z_293.2 wr ri mo le ba b_571_4 b_313_1 b_330_2 := by first | (simp only [K_L_isWell_292, ← hz_293, ← hb_313_1, ← hb_330_2, ← hb_506_3, ← hb_571_4, if_true, if_false]; done) | (subst hb_313_1 hb_330_2 hb_506_3 hb_571_4; simp only [K_L_isWell_292, ← hz_293, if_true, if_false] <;> rfl)
  rw [e9]
  refine g_lv (lv' := [(1, .int wr), (3, .int ri), (4, .int mo), (5, .int le), (6, .int ba), (7, .int b_571_4), (9, .int b_313_1), (10, .int b_330_2), (0, .ref (ad 0))]) [4, 6, 7, 8, 9, 0, 2, 1, 10] rfl ?_
  exact k_L_isWell_573 hX ad z_293.2 wr ri mo le ba b_571_4 b_313_1 b_330_2 
set_option maxHeartbeats 4000000 in
set_option maxRecDepth 100000 in
theorem k_L_isWell_23 {T : TT} {X : CX} (hX : Fit T X (yL_isWell).cls 12 wsL_isWell cL_isWell (some .boolean) rmL_isWell) (ad : Nat → Nat) : ∀ (n : Nat) (xv : XV) (j : Nat) (wr : Int32) (kn : Int32) (ri : Int32) (mo : Int32) (le : Int32) (ba : Int32) (e : Int32) (hn : j + n = 13) (hj : j ≤ 12) (hx : xWF xv), G T X (QI T X 0 0 ((K_L_isWell_23 n xv j wr kn ri mo le ba e).1) (wXX T ad ((K_L_isWell_23 n xv j wr kn ri mo le ba e).2))) 0 0 (wXX T ad xv) [(8, .int (nI j)), (1, .int wr), (2, .int kn), (3, .int ri), (4, .int mo), (5, .int le), (6, .int ba), (7, .int e), (0, .ref (ad 0))] 23 [] := by
  intro n
  induction n with
  | zero =>
    intro xv j wr kn ri mo le ba e hn hj hx
    exact absurd hn (by omega)
  | succ n ih =>
    intro xv j wr kn ri mo le ba e hn hj hx
    refine g_iload hX dL_isWell_23 0 rfl ?_
    refine g_bipush hX (v := 12) dL_isWell_25 (by decide) ?_
    refine g_icmp_ge hX 292 dL_isWell_27 (by decide) (fun c_27 => ?_) (fun c_27 => ?_)
    · skip
      have e9 : K_L_isWell_23 (n + 1) xv j wr kn ri mo le ba e = K_L_isWell_292 xv wr kn ri mo le ba e := by simp only [K_L_isWell_23, eq_true c_27, if_true, if_false]
      rw [e9]
      refine g_lv (lv' := [(1, .int wr), (2, .int kn), (3, .int ri), (4, .int mo), (5, .int le), (6, .int ba), (7, .int e), (0, .ref (ad 0))]) [1, 2, 3, 4, 5, 6, 7, 8] rfl ?_
      exact k_L_isWell_292 hX ad xv wr kn ri mo le ba e hx
    · skip
      have hlt_27 : j < 12 := nlt_of c_27 (by decide) (by omega)
      refine g_iload hX dL_isWell_30 7 rfl ?_
      refine g_if_eq hX 292 dL_isWell_32 (by decide) (fun c_32 => ?_) (fun c_32 => ?_)
      · skip
        have e9 : K_L_isWell_23 (n + 1) xv j wr kn ri mo le ba e = K_L_isWell_292 xv wr kn ri mo le ba e := by simp only [K_L_isWell_23, eq_false c_27, eq_true c_32, if_true, if_false]
        rw [e9]
        refine g_lv (lv' := [(1, .int wr), (2, .int kn), (3, .int ri), (4, .int mo), (5, .int le), (6, .int ba), (7, .int e), (0, .ref (ad 0))]) [1, 2, 3, 4, 5, 6, 7, 8] rfl ?_
        exact k_L_isWell_292 hX ad xv wr kn ri mo le ba e hx
      · skip
        refine g_aload_n hX dL_isWell_35 rfl 8 rfl ?_
        refine g_iload hX dL_isWell_36 0 rfl ?_
        refine g_iconst hX (v := 0) dL_isWell_38 (by decide) ?_
        refine g_pV_I hX (rest := []) (n := 2) (As := [.int (nI j), .int 0]) (wc := wXX T ad xv) (w1 := wXX T ad xv) (rv := (F_X4_place xv (nI j) 0)) (st := []) 0 rfl rfl (c_X4_place (xL X) T (xB X) ad xv (nI j) 0) gL_isWell_X4_place rfl rfl rfl ⟨Nat.le_of_ble_eq_true rfl, Nat.le_of_ble_eq_true rfl⟩ ⟨Nat.zero_le _, Nat.zero_le _⟩ ⟨by decide +kernel, by decide +kernel, by decide +kernel⟩ rfl (List.append_nil _).symm rfl rfl (Nat.le_of_ble_eq_true rfl) dL_isWell_39 (List.append_nil _) ?_
        refine g_istore hX (lv' := [(9, .int (F_X4_place xv (nI j) 0)), (8, .int (nI j)), (1, .int wr), (2, .int kn), (3, .int ri), (4, .int mo), (5, .int le), (6, .int ba), (7, .int e), (0, .ref (ad 0))]) dL_isWell_42 (by decide) rfl ?_
        obtain ⟨b_70_5, hb_70_5⟩ : ∃ z : Int32, z = (if (nI j) = 0 then 1 else (if ((F_X4_place xv (nI j) 0) - (F_X4_place xv ((nI j) - 1) 0)) ≤ 5 then 0 else 1)) := ⟨_, rfl⟩
        refine g_join 70 (.int b_70_5 :: []) (fun hJ => ?_) ?_
        · skip
          refine g_iload hX dL_isWell_44 1 rfl ?_
          refine g_if_eq hX 65 dL_isWell_46 (by decide) (fun c_46 => ?_) (fun c_46 => ?_)
          · skip
            refine g_iconst hX (v := 1) dL_isWell_65 (by decide) ?_
            refine g_goto hX 70 dL_isWell_66 (by decide) ?_
            have e8 : b_70_5 = 1 := by rw [hb_70_5]; simp only [eq_true c_46, if_true, if_false]
            rw [e8] at hJ
            exact hJ
          · skip
            refine g_iload hX dL_isWell_49 0 rfl ?_
            refine g_aload_n hX dL_isWell_51 rfl 9 rfl ?_
            refine g_iload hX dL_isWell_52 1 rfl ?_
            refine g_iconst hX (v := 1) dL_isWell_54 (by decide) ?_
            refine g_isub hX dL_isWell_55 ?_
            refine g_iconst hX (v := 0) dL_isWell_56 (by decide) ?_
            refine g_pV_I hX (rest := []) (n := 2) (As := [.int ((nI j) - 1), .int 0]) (wc := wXX T ad xv) (w1 := wXX T ad xv) (rv := (F_X4_place xv ((nI j) - 1) 0)) (st := [.int (F_X4_place xv (nI j) 0)]) 0 rfl rfl (c_X4_place (xL X) T (xB X) ad xv ((nI j) - 1) 0) gL_isWell_X4_place rfl rfl rfl ⟨Nat.le_of_ble_eq_true rfl, Nat.le_of_ble_eq_true rfl⟩ ⟨Nat.zero_le _, Nat.zero_le _⟩ ⟨by decide +kernel, by decide +kernel, by decide +kernel⟩ rfl (List.append_nil _).symm rfl rfl (Nat.le_of_ble_eq_true rfl) dL_isWell_57 (List.append_nil _) ?_
            refine g_isub hX dL_isWell_60 ?_
            refine g_iconst hX (v := 5) dL_isWell_61 (by decide) ?_
            refine g_icmp_le hX 69 dL_isWell_62 (by decide) (fun c_62 => ?_) (fun c_62 => ?_)
            · skip
              refine g_iconst hX (v := 0) dL_isWell_69 (by decide) ?_
              have e8 : b_70_5 = 0 := by rw [hb_70_5]; simp only [eq_false c_46, eq_true c_62, if_true, if_false]
              rw [e8] at hJ
              exact hJ
            · skip
              refine g_iconst hX (v := 1) dL_isWell_65 (by decide) ?_
              refine g_goto hX 70 dL_isWell_66 (by decide) ?_
              have e8 : b_70_5 = 1 := by rw [hb_70_5]; simp only [eq_false c_46, eq_false c_62, if_true, if_false]
              rw [e8] at hJ
              exact hJ
        refine g_istore hX (lv' := [(10, .int b_70_5), (9, .int (F_X4_place xv (nI j) 0)), (8, .int (nI j)), (1, .int wr), (2, .int kn), (3, .int ri), (4, .int mo), (5, .int le), (6, .int ba), (7, .int e), (0, .ref (ad 0))]) dL_isWell_70 (by decide) rfl ?_
        obtain ⟨b_100_6, hb_100_6⟩ : ∃ z : Int32, z = (if (nI j) = 11 then 1 else (if ((F_X4_place xv (nI j) 0) - (F_X4_place xv (nI (j + 1)) 0)) ≤ 5 then 0 else 1)) := ⟨_, rfl⟩
        refine g_join 100 (.int b_100_6 :: []) (fun hJ => ?_) ?_
        · skip
          refine g_iload hX dL_isWell_72 2 rfl ?_
          refine g_bipush hX (v := 11) dL_isWell_74 (by decide) ?_
          refine g_icmp_eq hX 95 dL_isWell_76 (by decide) (fun c_76 => ?_) (fun c_76 => ?_)
          · skip
            refine g_iconst hX (v := 1) dL_isWell_95 (by decide) ?_
            refine g_goto hX 100 dL_isWell_96 (by decide) ?_
            have e8 : b_100_6 = 1 := by rw [hb_100_6]; simp only [eq_true c_76, if_true, if_false]
            rw [e8] at hJ
            exact hJ
          · skip
            refine g_iload hX dL_isWell_79 1 rfl ?_
            refine g_aload_n hX dL_isWell_81 rfl 10 rfl ?_
            refine g_iload hX dL_isWell_82 2 rfl ?_
            refine g_iconst hX (v := 1) dL_isWell_84 (by decide) ?_
            refine g_iadd hX dL_isWell_85 ?_
            rw [nI_1]
            refine g_iconst hX (v := 0) dL_isWell_86 (by decide) ?_
            refine g_pV_I hX (rest := []) (n := 2) (As := [.int (nI (j + 1)), .int 0]) (wc := wXX T ad xv) (w1 := wXX T ad xv) (rv := (F_X4_place xv (nI (j + 1)) 0)) (st := [.int (F_X4_place xv (nI j) 0)]) 0 rfl rfl (c_X4_place (xL X) T (xB X) ad xv (nI (j + 1)) 0) gL_isWell_X4_place rfl rfl rfl ⟨Nat.le_of_ble_eq_true rfl, Nat.le_of_ble_eq_true rfl⟩ ⟨Nat.zero_le _, Nat.zero_le _⟩ ⟨by decide +kernel, by decide +kernel, by decide +kernel⟩ rfl (List.append_nil _).symm rfl rfl (Nat.le_of_ble_eq_true rfl) dL_isWell_87 (List.append_nil _) ?_
            refine g_isub hX dL_isWell_90 ?_
            refine g_iconst hX (v := 5) dL_isWell_91 (by decide) ?_
            refine g_icmp_le hX 99 dL_isWell_92 (by decide) (fun c_92 => ?_) (fun c_92 => ?_)
            · skip
              refine g_iconst hX (v := 0) dL_isWell_99 (by decide) ?_
              have e8 : b_100_6 = 0 := by rw [hb_100_6]; simp only [eq_false c_76, eq_true c_92, if_true, if_false]
              rw [e8] at hJ
              exact hJ
            · skip
              refine g_iconst hX (v := 1) dL_isWell_95 (by decide) ?_
              refine g_goto hX 100 dL_isWell_96 (by decide) ?_
              have e8 : b_100_6 = 1 := by rw [hb_100_6]; simp only [eq_false c_76, eq_false c_92, if_true, if_false]
              rw [e8] at hJ
              exact hJ
        refine g_istore hX (lv' := [(11, .int b_100_6), (10, .int b_70_5), (9, .int (F_X4_place xv (nI j) 0)), (8, .int (nI j)), (1, .int wr), (2, .int kn), (3, .int ri), (4, .int mo), (5, .int le), (6, .int ba), (7, .int e), (0, .ref (ad 0))]) dL_isWell_100 (by decide) rfl ?_
        obtain ⟨b_204_7, hb_204_7⟩ : ∃ z : Int32, z = (if (F_X4_place xv (nI j) 0) < 0 then 0 else (if 200 < (F_X4_place xv (nI j) 0) then 0 else (if (F_X4_place xv (nI j) 2) = 1 then (if b_70_5 = 0 then 0 else (if b_100_6 = 0 then 0 else (if (F_X4_place xv (nI j) 3) = 1 then (if (F_X4_place xv (nI j) 1) ≤ 2 then 0 else (if (F_X4_place xv (nI j) 1) = 0 then 1 else (if (F_X4_place xv (nI j) 0) ≤ 0 then 0 else 1))) else (if (F_X4_place xv (nI j) 1) ≤ 2 then (if (F_X4_place xv (nI j) 1) = 0 then 1 else (if (F_X4_place xv (nI j) 0) ≤ 0 then 0 else 1)) else 0)))) else (if b_70_5 = 0 then (if (F_X4_place xv (nI j) 3) = 1 then (if (F_X4_place xv (nI j) 1) ≤ 2 then 0 else (if (F_X4_place xv (nI j) 1) = 0 then 1 else (if (F_X4_place xv (nI j) 0) ≤ 0 then 0 else 1))) else (if (F_X4_place xv (nI j) 1) ≤ 2 then (if (F_X4_place xv (nI j) 1) = 0 then 1 else (if (F_X4_place xv (nI j) 0) ≤ 0 then 0 else 1)) else 0)) else (if b_100_6 = 0 then (if (F_X4_place xv (nI j) 3) = 1 then (if (F_X4_place xv (nI j) 1) ≤ 2 then 0 else (if (F_X4_place xv (nI j) 1) = 0 then 1 else (if (F_X4_place xv (nI j) 0) ≤ 0 then 0 else 1))) else (if (F_X4_place xv (nI j) 1) ≤ 2 then (if (F_X4_place xv (nI j) 1) = 0 then 1 else (if (F_X4_place xv (nI j) 0) ≤ 0 then 0 else 1)) else 0)) else 0))))) := ⟨_, rfl⟩
        refine g_join 204 (.int b_204_7 :: []) (fun hJ => ?_) ?_
        · skip
          refine g_iload hX dL_isWell_102 2 rfl ?_
          refine g_if_lt hX 203 dL_isWell_104 (by decide) (fun c_104 => ?_) (fun c_104 => ?_)
          · skip
            refine g_iconst hX (v := 0) dL_isWell_203 (by decide) ?_
            have e8 : b_204_7 = 0 := by rw [hb_204_7]; simp only [eq_true c_104, if_true, if_false]
            rw [e8] at hJ
            exact hJ
          · skip
            refine g_iload hX dL_isWell_107 2 rfl ?_
            refine g_sipush hX (v := 200) dL_isWell_109 (by decide) ?_
            refine g_icmp_gt hX 203 dL_isWell_112 (by decide) (fun c_112 => ?_) (fun c_112 => ?_)
            · skip
              refine g_iconst hX (v := 0) dL_isWell_203 (by decide) ?_
              have e8 : b_204_7 = 0 := by rw [hb_204_7]; simp only [eq_false c_104, eq_true c_112, if_true, if_false]
              rw [e8] at hJ
              exact hJ
            · skip
              refine g_aload_n hX dL_isWell_115 rfl 11 rfl ?_
              refine g_iload hX dL_isWell_116 3 rfl ?_
              refine g_iconst hX (v := 2) dL_isWell_118 (by decide) ?_
              refine g_pV_I hX (rest := []) (n := 2) (As := [.int (nI j), .int 2]) (wc := wXX T ad xv) (w1 := wXX T ad xv) (rv := (F_X4_place xv (nI j) 2)) (st := []) 0 rfl rfl (c_X4_place (xL X) T (xB X) ad xv (nI j) 2) gL_isWell_X4_place rfl rfl rfl ⟨Nat.le_of_ble_eq_true rfl, Nat.le_of_ble_eq_true rfl⟩ ⟨Nat.zero_le _, Nat.zero_le _⟩ ⟨by decide +kernel, by decide +kernel, by decide +kernel⟩ rfl (List.append_nil _).symm rfl rfl (Nat.le_of_ble_eq_true rfl) dL_isWell_119 (List.append_nil _) ?_
              refine g_iconst hX (v := 1) dL_isWell_122 (by decide) ?_
              refine g_icmp_ne hX 130 dL_isWell_123 (by decide) (fun c_123 => ?_) (fun c_123 => ?_)
              · skip
                refine g_iconst hX (v := 0) dL_isWell_130 (by decide) ?_
                refine g_iload hX dL_isWell_131 1 rfl ?_
                refine g_if_eq hX 145 dL_isWell_133 (by decide) (fun c_133 => ?_) (fun c_133 => ?_)
                · skip
                  refine g_iconst hX (v := 0) dL_isWell_145 (by decide) ?_
                  refine g_icmp_ne hX 203 dL_isWell_146 (by decide) (fun c0 => absurd c0 (by decide)) (fun _ => ?_)
                  refine g_aload_n hX dL_isWell_149 rfl 11 rfl ?_
                  refine g_iload hX dL_isWell_150 3 rfl ?_
                  refine g_iconst hX (v := 3) dL_isWell_152 (by decide) ?_
                  refine g_pV_I hX (rest := []) (n := 2) (As := [.int (nI j), .int 3]) (wc := wXX T ad xv) (w1 := wXX T ad xv) (rv := (F_X4_place xv (nI j) 3)) (st := []) 0 rfl rfl (c_X4_place (xL X) T (xB X) ad xv (nI j) 3) gL_isWell_X4_place rfl rfl rfl ⟨Nat.le_of_ble_eq_true rfl, Nat.le_of_ble_eq_true rfl⟩ ⟨Nat.zero_le _, Nat.zero_le _⟩ ⟨by decide +kernel, by decide +kernel, by decide +kernel⟩ rfl (List.append_nil _).symm rfl rfl (Nat.le_of_ble_eq_true rfl) dL_isWell_153 (List.append_nil _) ?_
                  refine g_iconst hX (v := 1) dL_isWell_156 (by decide) ?_
                  refine g_icmp_ne hX 164 dL_isWell_157 (by decide) (fun c_157 => ?_) (fun c_157 => ?_)
                  · skip
                    refine g_iconst hX (v := 0) dL_isWell_164 (by decide) ?_
                    refine g_aload_n hX dL_isWell_165 rfl 11 rfl ?_
                    refine g_iload hX dL_isWell_166 3 rfl ?_
                    refine g_iconst hX (v := 1) dL_isWell_168 (by decide) ?_
                    refine g_pV_I hX (rest := []) (n := 2) (As := [.int (nI j), .int 1]) (wc := wXX T ad xv) (w1 := wXX T ad xv) (rv := (F_X4_place xv (nI j) 1)) (st := [.int 0]) 0 rfl rfl (c_X4_place (xL X) T (xB X) ad xv (nI j) 1) gL_isWell_X4_place rfl rfl rfl ⟨Nat.le_of_ble_eq_true rfl, Nat.le_of_ble_eq_true rfl⟩ ⟨Nat.zero_le _, Nat.zero_le _⟩ ⟨by decide +kernel, by decide +kernel, by decide +kernel⟩ rfl (List.append_nil _).symm rfl rfl (Nat.le_of_ble_eq_true rfl) dL_isWell_169 (List.append_nil _) ?_
                    refine g_iconst hX (v := 2) dL_isWell_172 (by decide) ?_
                    refine g_icmp_le hX 180 dL_isWell_173 (by decide) (fun c_173 => ?_) (fun c_173 => ?_)
                    · skip
                      refine g_iconst hX (v := 0) dL_isWell_180 (by decide) ?_
                      refine g_icmp_ne hX 203 dL_isWell_181 (by decide) (fun c0 => absurd c0 (by decide)) (fun _ => ?_)
                      refine g_aload_n hX dL_isWell_184 rfl 11 rfl ?_
                      refine g_iload hX dL_isWell_185 3 rfl ?_
                      refine g_iconst hX (v := 1) dL_isWell_187 (by decide) ?_
                      refine g_pV_I hX (rest := []) (n := 2) (As := [.int (nI j), .int 1]) (wc := wXX T ad xv) (w1 := wXX T ad xv) (rv := (F_X4_place xv (nI j) 1)) (st := []) 0 rfl rfl (c_X4_place (xL X) T (xB X) ad xv (nI j) 1) gL_isWell_X4_place rfl rfl rfl ⟨Nat.le_of_ble_eq_true rfl, Nat.le_of_ble_eq_true rfl⟩ ⟨Nat.zero_le _, Nat.zero_le _⟩ ⟨by decide +kernel, by decide +kernel, by decide +kernel⟩ rfl (List.append_nil _).symm rfl rfl (Nat.le_of_ble_eq_true rfl) dL_isWell_188 (List.append_nil _) ?_
                      refine g_if_eq hX 199 dL_isWell_191 (by decide) (fun c_191 => ?_) (fun c_191 => ?_)
                      · skip
                        refine g_iconst hX (v := 1) dL_isWell_199 (by decide) ?_
                        refine g_goto hX 204 dL_isWell_200 (by decide) ?_
                        have e8 : b_204_7 = 1 := by rw [hb_204_7]; simp only [eq_false c_104, eq_false c_112, eq_false c_123, eq_true c_133, eq_false c_157, eq_true c_173, eq_true c_191, if_true, if_false]
                        rw [e8] at hJ
                        exact hJ
                      · skip
                        refine g_iload hX dL_isWell_194 2 rfl ?_
                        refine g_if_le hX 203 dL_isWell_196 (by decide) (fun c_196 => ?_) (fun c_196 => ?_)
                        · skip
                          refine g_iconst hX (v := 0) dL_isWell_203 (by decide) ?_
                          have e8 : b_204_7 = 0 := by rw [hb_204_7]; simp only [eq_false c_104, eq_false c_112, eq_false c_123, eq_true c_133, eq_false c_157, eq_true c_173, eq_false c_191, eq_true c_196, if_true, if_false]
                          rw [e8] at hJ
                          exact hJ
                        · skip
                          refine g_iconst hX (v := 1) dL_isWell_199 (by decide) ?_
                          refine g_goto hX 204 dL_isWell_200 (by decide) ?_
                          have e8 : b_204_7 = 1 := by rw [hb_204_7]; simp only [eq_false c_104, eq_false c_112, eq_false c_123, eq_true c_133, eq_false c_157, eq_true c_173, eq_false c_191, eq_false c_196, if_true, if_false]
                          rw [e8] at hJ
                          exact hJ
                    · skip
                      refine g_iconst hX (v := 1) dL_isWell_176 (by decide) ?_
                      refine g_goto hX 181 dL_isWell_177 (by decide) ?_
                      refine g_icmp_ne hX 203 dL_isWell_181 (by decide) (fun _ => ?_) (fun c0 => absurd c0 (by decide))
                      refine g_iconst hX (v := 0) dL_isWell_203 (by decide) ?_
                      have e8 : b_204_7 = 0 := by rw [hb_204_7]; simp only [eq_false c_104, eq_false c_112, eq_false c_123, eq_true c_133, eq_false c_157, eq_false c_173, if_true, if_false]
                      rw [e8] at hJ
                      exact hJ
                  · skip
                    refine g_iconst hX (v := 1) dL_isWell_160 (by decide) ?_
                    refine g_goto hX 165 dL_isWell_161 (by decide) ?_
                    refine g_aload_n hX dL_isWell_165 rfl 11 rfl ?_
                    refine g_iload hX dL_isWell_166 3 rfl ?_
                    refine g_iconst hX (v := 1) dL_isWell_168 (by decide) ?_
                    refine g_pV_I hX (rest := []) (n := 2) (As := [.int (nI j), .int 1]) (wc := wXX T ad xv) (w1 := wXX T ad xv) (rv := (F_X4_place xv (nI j) 1)) (st := [.int 1]) 0 rfl rfl (c_X4_place (xL X) T (xB X) ad xv (nI j) 1) gL_isWell_X4_place rfl rfl rfl ⟨Nat.le_of_ble_eq_true rfl, Nat.le_of_ble_eq_true rfl⟩ ⟨Nat.zero_le _, Nat.zero_le _⟩ ⟨by decide +kernel, by decide +kernel, by decide +kernel⟩ rfl (List.append_nil _).symm rfl rfl (Nat.le_of_ble_eq_true rfl) dL_isWell_169 (List.append_nil _) ?_
                    refine g_iconst hX (v := 2) dL_isWell_172 (by decide) ?_
                    refine g_icmp_le hX 180 dL_isWell_173 (by decide) (fun c_173 => ?_) (fun c_173 => ?_)
                    · skip
                      refine g_iconst hX (v := 0) dL_isWell_180 (by decide) ?_
                      refine g_icmp_ne hX 203 dL_isWell_181 (by decide) (fun _ => ?_) (fun c0 => absurd c0 (by decide))
                      refine g_iconst hX (v := 0) dL_isWell_203 (by decide) ?_
                      have e8 : b_204_7 = 0 := by rw [hb_204_7]; simp only [eq_false c_104, eq_false c_112, eq_false c_123, eq_true c_133, eq_true c_157, eq_true c_173, if_true, if_false]
                      rw [e8] at hJ
                      exact hJ
                    · skip
                      refine g_iconst hX (v := 1) dL_isWell_176 (by decide) ?_
                      refine g_goto hX 181 dL_isWell_177 (by decide) ?_
                      refine g_icmp_ne hX 203 dL_isWell_181 (by decide) (fun c0 => absurd c0 (by decide)) (fun _ => ?_)
                      refine g_aload_n hX dL_isWell_184 rfl 11 rfl ?_
                      refine g_iload hX dL_isWell_185 3 rfl ?_
                      refine g_iconst hX (v := 1) dL_isWell_187 (by decide) ?_
                      refine g_pV_I hX (rest := []) (n := 2) (As := [.int (nI j), .int 1]) (wc := wXX T ad xv) (w1 := wXX T ad xv) (rv := (F_X4_place xv (nI j) 1)) (st := []) 0 rfl rfl (c_X4_place (xL X) T (xB X) ad xv (nI j) 1) gL_isWell_X4_place rfl rfl rfl ⟨Nat.le_of_ble_eq_true rfl, Nat.le_of_ble_eq_true rfl⟩ ⟨Nat.zero_le _, Nat.zero_le _⟩ ⟨by decide +kernel, by decide +kernel, by decide +kernel⟩ rfl (List.append_nil _).symm rfl rfl (Nat.le_of_ble_eq_true rfl) dL_isWell_188 (List.append_nil _) ?_
                      refine g_if_eq hX 199 dL_isWell_191 (by decide) (fun c_191 => ?_) (fun c_191 => ?_)
                      · skip
                        refine g_iconst hX (v := 1) dL_isWell_199 (by decide) ?_
                        refine g_goto hX 204 dL_isWell_200 (by decide) ?_
                        have e8 : b_204_7 = 1 := by rw [hb_204_7]; simp only [eq_false c_104, eq_false c_112, eq_false c_123, eq_true c_133, eq_true c_157, eq_false c_173, eq_true c_191, if_true, if_false]
                        rw [e8] at hJ
                        exact hJ
                      · skip
                        refine g_iload hX dL_isWell_194 2 rfl ?_
                        refine g_if_le hX 203 dL_isWell_196 (by decide) (fun c_196 => ?_) (fun c_196 => ?_)
                        · skip
                          refine g_iconst hX (v := 0) dL_isWell_203 (by decide) ?_
                          have e8 : b_204_7 = 0 := by rw [hb_204_7]; simp only [eq_false c_104, eq_false c_112, eq_false c_123, eq_true c_133, eq_true c_157, eq_false c_173, eq_false c_191, eq_true c_196, if_true, if_false]
                          rw [e8] at hJ
                          exact hJ
                        · skip
                          refine g_iconst hX (v := 1) dL_isWell_199 (by decide) ?_
                          refine g_goto hX 204 dL_isWell_200 (by decide) ?_
                          have e8 : b_204_7 = 1 := by rw [hb_204_7]; simp only [eq_false c_104, eq_false c_112, eq_false c_123, eq_true c_133, eq_true c_157, eq_false c_173, eq_false c_191, eq_false c_196, if_true, if_false]
                          rw [e8] at hJ
                          exact hJ
                · skip
                  refine g_iload hX dL_isWell_136 0 rfl ?_
                  refine g_if_eq hX 145 dL_isWell_138 (by decide) (fun c_138 => ?_) (fun c_138 => ?_)
                  · skip
                    refine g_iconst hX (v := 0) dL_isWell_145 (by decide) ?_
                    refine g_icmp_ne hX 203 dL_isWell_146 (by decide) (fun c0 => absurd c0 (by decide)) (fun _ => ?_)
                    refine g_aload_n hX dL_isWell_149 rfl 11 rfl ?_
                    refine g_iload hX dL_isWell_150 3 rfl ?_
                    refine g_iconst hX (v := 3) dL_isWell_152 (by decide) ?_
                    refine g_pV_I hX (rest := []) (n := 2) (As := [.int (nI j), .int 3]) (wc := wXX T ad xv) (w1 := wXX T ad xv) (rv := (F_X4_place xv (nI j) 3)) (st := []) 0 rfl rfl (c_X4_place (xL X) T (xB X) ad xv (nI j) 3) gL_isWell_X4_place rfl rfl rfl ⟨Nat.le_of_ble_eq_true rfl, Nat.le_of_ble_eq_true rfl⟩ ⟨Nat.zero_le _, Nat.zero_le _⟩ ⟨by decide +kernel, by decide +kernel, by decide +kernel⟩ rfl (List.append_nil _).symm rfl rfl (Nat.le_of_ble_eq_true rfl) dL_isWell_153 (List.append_nil _) ?_
                    refine g_iconst hX (v := 1) dL_isWell_156 (by decide) ?_
                    refine g_icmp_ne hX 164 dL_isWell_157 (by decide) (fun c_157 => ?_) (fun c_157 => ?_)
                    · skip
                      refine g_iconst hX (v := 0) dL_isWell_164 (by decide) ?_
                      refine g_aload_n hX dL_isWell_165 rfl 11 rfl ?_
                      refine g_iload hX dL_isWell_166 3 rfl ?_
                      refine g_iconst hX (v := 1) dL_isWell_168 (by decide) ?_
                      refine g_pV_I hX (rest := []) (n := 2) (As := [.int (nI j), .int 1]) (wc := wXX T ad xv) (w1 := wXX T ad xv) (rv := (F_X4_place xv (nI j) 1)) (st := [.int 0]) 0 rfl rfl (c_X4_place (xL X) T (xB X) ad xv (nI j) 1) gL_isWell_X4_place rfl rfl rfl ⟨Nat.le_of_ble_eq_true rfl, Nat.le_of_ble_eq_true rfl⟩ ⟨Nat.zero_le _, Nat.zero_le _⟩ ⟨by decide +kernel, by decide +kernel, by decide +kernel⟩ rfl (List.append_nil _).symm rfl rfl (Nat.le_of_ble_eq_true rfl) dL_isWell_169 (List.append_nil _) ?_
                      refine g_iconst hX (v := 2) dL_isWell_172 (by decide) ?_
                      refine g_icmp_le hX 180 dL_isWell_173 (by decide) (fun c_173 => ?_) (fun c_173 => ?_)
                      · skip
                        refine g_iconst hX (v := 0) dL_isWell_180 (by decide) ?_
                        refine g_icmp_ne hX 203 dL_isWell_181 (by decide) (fun c0 => absurd c0 (by decide)) (fun _ => ?_)
                        refine g_aload_n hX dL_isWell_184 rfl 11 rfl ?_
                        refine g_iload hX dL_isWell_185 3 rfl ?_
                        refine g_iconst hX (v := 1) dL_isWell_187 (by decide) ?_
                        refine g_pV_I hX (rest := []) (n := 2) (As := [.int (nI j), .int 1]) (wc := wXX T ad xv) (w1 := wXX T ad xv) (rv := (F_X4_place xv (nI j) 1)) (st := []) 0 rfl rfl (c_X4_place (xL X) T (xB X) ad xv (nI j) 1) gL_isWell_X4_place rfl rfl rfl ⟨Nat.le_of_ble_eq_true rfl, Nat.le_of_ble_eq_true rfl⟩ ⟨Nat.zero_le _, Nat.zero_le _⟩ ⟨by decide +kernel, by decide +kernel, by decide +kernel⟩ rfl (List.append_nil _).symm rfl rfl (Nat.le_of_ble_eq_true rfl) dL_isWell_188 (List.append_nil _) ?_
                        refine g_if_eq hX 199 dL_isWell_191 (by decide) (fun c_191 => ?_) (fun c_191 => ?_)
                        · skip
                          refine g_iconst hX (v := 1) dL_isWell_199 (by decide) ?_
                          refine g_goto hX 204 dL_isWell_200 (by decide) ?_
                          have e8 : b_204_7 = 1 := by rw [hb_204_7]; simp only [eq_false c_104, eq_false c_112, eq_false c_123, eq_false c_133, eq_true c_138, eq_false c_157, eq_true c_173, eq_true c_191, if_true, if_false]
                          rw [e8] at hJ
                          exact hJ
                        · skip
                          refine g_iload hX dL_isWell_194 2 rfl ?_
                          refine g_if_le hX 203 dL_isWell_196 (by decide) (fun c_196 => ?_) (fun c_196 => ?_)
                          · skip
                            refine g_iconst hX (v := 0) dL_isWell_203 (by decide) ?_
                            have e8 : b_204_7 = 0 := by rw [hb_204_7]; simp only [eq_false c_104, eq_false c_112, eq_false c_123, eq_false c_133, eq_true c_138, eq_false c_157, eq_true c_173, eq_false c_191, eq_true c_196, if_true, if_false]
                            rw [e8] at hJ
                            exact hJ
                          · skip
                            refine g_iconst hX (v := 1) dL_isWell_199 (by decide) ?_
                            refine g_goto hX 204 dL_isWell_200 (by decide) ?_
                            have e8 : b_204_7 = 1 := by rw [hb_204_7]; simp only [eq_false c_104, eq_false c_112, eq_false c_123, eq_false c_133, eq_true c_138, eq_false c_157, eq_true c_173, eq_false c_191, eq_false c_196, if_true, if_false]
                            rw [e8] at hJ
                            exact hJ
                      · skip
                        refine g_iconst hX (v := 1) dL_isWell_176 (by decide) ?_
                        refine g_goto hX 181 dL_isWell_177 (by decide) ?_
                        refine g_icmp_ne hX 203 dL_isWell_181 (by decide) (fun _ => ?_) (fun c0 => absurd c0 (by decide))
                        refine g_iconst hX (v := 0) dL_isWell_203 (by decide) ?_
                        have e8 : b_204_7 = 0 := by rw [hb_204_7]; simp only [eq_false c_104, eq_false c_112, eq_false c_123, eq_false c_133, eq_true c_138, eq_false c_157, eq_false c_173, if_true, if_false]
                        rw [e8] at hJ
                        exact hJ
                    · skip
                      refine g_iconst hX (v := 1) dL_isWell_160 (by decide) ?_
                      refine g_goto hX 165 dL_isWell_161 (by decide) ?_
                      refine g_aload_n hX dL_isWell_165 rfl 11 rfl ?_
                      refine g_iload hX dL_isWell_166 3 rfl ?_
                      refine g_iconst hX (v := 1) dL_isWell_168 (by decide) ?_
                      refine g_pV_I hX (rest := []) (n := 2) (As := [.int (nI j), .int 1]) (wc := wXX T ad xv) (w1 := wXX T ad xv) (rv := (F_X4_place xv (nI j) 1)) (st := [.int 1]) 0 rfl rfl (c_X4_place (xL X) T (xB X) ad xv (nI j) 1) gL_isWell_X4_place rfl rfl rfl ⟨Nat.le_of_ble_eq_true rfl, Nat.le_of_ble_eq_true rfl⟩ ⟨Nat.zero_le _, Nat.zero_le _⟩ ⟨by decide +kernel, by decide +kernel, by decide +kernel⟩ rfl (List.append_nil _).symm rfl rfl (Nat.le_of_ble_eq_true rfl) dL_isWell_169 (List.append_nil _) ?_
                      refine g_iconst hX (v := 2) dL_isWell_172 (by decide) ?_
                      refine g_icmp_le hX 180 dL_isWell_173 (by decide) (fun c_173 => ?_) (fun c_173 => ?_)
                      · skip
                        refine g_iconst hX (v := 0) dL_isWell_180 (by decide) ?_
                        refine g_icmp_ne hX 203 dL_isWell_181 (by decide) (fun _ => ?_) (fun c0 => absurd c0 (by decide))
                        refine g_iconst hX (v := 0) dL_isWell_203 (by decide) ?_
                        have e8 : b_204_7 = 0 := by rw [hb_204_7]; simp only [eq_false c_104, eq_false c_112, eq_false c_123, eq_false c_133, eq_true c_138, eq_true c_157, eq_true c_173, if_true, if_false]
                        rw [e8] at hJ
                        exact hJ
                      · skip
                        refine g_iconst hX (v := 1) dL_isWell_176 (by decide) ?_
                        refine g_goto hX 181 dL_isWell_177 (by decide) ?_
                        refine g_icmp_ne hX 203 dL_isWell_181 (by decide) (fun c0 => absurd c0 (by decide)) (fun _ => ?_)
                        refine g_aload_n hX dL_isWell_184 rfl 11 rfl ?_
                        refine g_iload hX dL_isWell_185 3 rfl ?_
                        refine g_iconst hX (v := 1) dL_isWell_187 (by decide) ?_
                        refine g_pV_I hX (rest := []) (n := 2) (As := [.int (nI j), .int 1]) (wc := wXX T ad xv) (w1 := wXX T ad xv) (rv := (F_X4_place xv (nI j) 1)) (st := []) 0 rfl rfl (c_X4_place (xL X) T (xB X) ad xv (nI j) 1) gL_isWell_X4_place rfl rfl rfl ⟨Nat.le_of_ble_eq_true rfl, Nat.le_of_ble_eq_true rfl⟩ ⟨Nat.zero_le _, Nat.zero_le _⟩ ⟨by decide +kernel, by decide +kernel, by decide +kernel⟩ rfl (List.append_nil _).symm rfl rfl (Nat.le_of_ble_eq_true rfl) dL_isWell_188 (List.append_nil _) ?_
                        refine g_if_eq hX 199 dL_isWell_191 (by decide) (fun c_191 => ?_) (fun c_191 => ?_)
                        · skip
                          refine g_iconst hX (v := 1) dL_isWell_199 (by decide) ?_
                          refine g_goto hX 204 dL_isWell_200 (by decide) ?_
                          have e8 : b_204_7 = 1 := by rw [hb_204_7]; simp only [eq_false c_104, eq_false c_112, eq_false c_123, eq_false c_133, eq_true c_138, eq_true c_157, eq_false c_173, eq_true c_191, if_true, if_false]
                          rw [e8] at hJ
                          exact hJ
                        · skip
                          refine g_iload hX dL_isWell_194 2 rfl ?_
                          refine g_if_le hX 203 dL_isWell_196 (by decide) (fun c_196 => ?_) (fun c_196 => ?_)
                          · skip
                            refine g_iconst hX (v := 0) dL_isWell_203 (by decide) ?_
                            have e8 : b_204_7 = 0 := by rw [hb_204_7]; simp only [eq_false c_104, eq_false c_112, eq_false c_123, eq_false c_133, eq_true c_138, eq_true c_157, eq_false c_173, eq_false c_191, eq_true c_196, if_true, if_false]
                            rw [e8] at hJ
                            exact hJ
                          · skip
                            refine g_iconst hX (v := 1) dL_isWell_199 (by decide) ?_
                            refine g_goto hX 204 dL_isWell_200 (by decide) ?_
                            have e8 : b_204_7 = 1 := by rw [hb_204_7]; simp only [eq_false c_104, eq_false c_112, eq_false c_123, eq_false c_133, eq_true c_138, eq_true c_157, eq_false c_173, eq_false c_191, eq_false c_196, if_true, if_false]
                            rw [e8] at hJ
                            exact hJ
                  · skip
                    refine g_iconst hX (v := 1) dL_isWell_141 (by decide) ?_
                    refine g_goto hX 146 dL_isWell_142 (by decide) ?_
                    refine g_icmp_ne hX 203 dL_isWell_146 (by decide) (fun _ => ?_) (fun c0 => absurd c0 (by decide))
                    refine g_iconst hX (v := 0) dL_isWell_203 (by decide) ?_
                    have e8 : b_204_7 = 0 := by rw [hb_204_7]; simp only [eq_false c_104, eq_false c_112, eq_false c_123, eq_false c_133, eq_false c_138, if_true, if_false]
                    rw [e8] at hJ
                    exact hJ
              · skip
                refine g_iconst hX (v := 1) dL_isWell_126 (by decide) ?_
                refine g_goto hX 131 dL_isWell_127 (by decide) ?_
                refine g_iload hX dL_isWell_131 1 rfl ?_
                refine g_if_eq hX 145 dL_isWell_133 (by decide) (fun c_133 => ?_) (fun c_133 => ?_)
                · skip
                  refine g_iconst hX (v := 0) dL_isWell_145 (by decide) ?_
                  refine g_icmp_ne hX 203 dL_isWell_146 (by decide) (fun _ => ?_) (fun c0 => absurd c0 (by decide))
                  refine g_iconst hX (v := 0) dL_isWell_203 (by decide) ?_
                  have e8 : b_204_7 = 0 := by rw [hb_204_7]; simp only [eq_false c_104, eq_false c_112, eq_true c_123, eq_true c_133, if_true, if_false]
                  rw [e8] at hJ
                  exact hJ
                · skip
                  refine g_iload hX dL_isWell_136 0 rfl ?_
                  refine g_if_eq hX 145 dL_isWell_138 (by decide) (fun c_138 => ?_) (fun c_138 => ?_)
                  · skip
                    refine g_iconst hX (v := 0) dL_isWell_145 (by decide) ?_
                    refine g_icmp_ne hX 203 dL_isWell_146 (by decide) (fun _ => ?_) (fun c0 => absurd c0 (by decide))
                    refine g_iconst hX (v := 0) dL_isWell_203 (by decide) ?_
                    have e8 : b_204_7 = 0 := by rw [hb_204_7]; simp only [eq_false c_104, eq_false c_112, eq_true c_123, eq_false c_133, eq_true c_138, if_true, if_false]
                    rw [e8] at hJ
                    exact hJ
                  · skip
                    refine g_iconst hX (v := 1) dL_isWell_141 (by decide) ?_
                    refine g_goto hX 146 dL_isWell_142 (by decide) ?_
                    refine g_icmp_ne hX 203 dL_isWell_146 (by decide) (fun c0 => absurd c0 (by decide)) (fun _ => ?_)
                    refine g_aload_n hX dL_isWell_149 rfl 11 rfl ?_
                    refine g_iload hX dL_isWell_150 3 rfl ?_
                    refine g_iconst hX (v := 3) dL_isWell_152 (by decide) ?_
                    refine g_pV_I hX (rest := []) (n := 2) (As := [.int (nI j), .int 3]) (wc := wXX T ad xv) (w1 := wXX T ad xv) (rv := (F_X4_place xv (nI j) 3)) (st := []) 0 rfl rfl (c_X4_place (xL X) T (xB X) ad xv (nI j) 3) gL_isWell_X4_place rfl rfl rfl ⟨Nat.le_of_ble_eq_true rfl, Nat.le_of_ble_eq_true rfl⟩ ⟨Nat.zero_le _, Nat.zero_le _⟩ ⟨by decide +kernel, by decide +kernel, by decide +kernel⟩ rfl (List.append_nil _).symm rfl rfl (Nat.le_of_ble_eq_true rfl) dL_isWell_153 (List.append_nil _) ?_
                    refine g_iconst hX (v := 1) dL_isWell_156 (by decide) ?_
                    refine g_icmp_ne hX 164 dL_isWell_157 (by decide) (fun c_157 => ?_) (fun c_157 => ?_)
                    · skip
                      refine g_iconst hX (v := 0) dL_isWell_164 (by decide) ?_
                      refine g_aload_n hX dL_isWell_165 rfl 11 rfl ?_
                      refine g_iload hX dL_isWell_166 3 rfl ?_
                      refine g_iconst hX (v := 1) dL_isWell_168 (by decide) ?_
                      refine g_pV_I hX (rest := []) (n := 2) (As := [.int (nI j), .int 1]) (wc := wXX T ad xv) (w1 := wXX T ad xv) (rv := (F_X4_place xv (nI j) 1)) (st := [.int 0]) 0 rfl rfl (c_X4_place (xL X) T (xB X) ad xv (nI j) 1) gL_isWell_X4_place rfl rfl rfl ⟨Nat.le_of_ble_eq_true rfl, Nat.le_of_ble_eq_true rfl⟩ ⟨Nat.zero_le _, Nat.zero_le _⟩ ⟨by decide +kernel, by decide +kernel, by decide +kernel⟩ rfl (List.append_nil _).symm rfl rfl (Nat.le_of_ble_eq_true rfl) dL_isWell_169 (List.append_nil _) ?_
                      refine g_iconst hX (v := 2) dL_isWell_172 (by decide) ?_
                      refine g_icmp_le hX 180 dL_isWell_173 (by decide) (fun c_173 => ?_) (fun c_173 => ?_)
                      · skip
                        refine g_iconst hX (v := 0) dL_isWell_180 (by decide) ?_
                        refine g_icmp_ne hX 203 dL_isWell_181 (by decide) (fun c0 => absurd c0 (by decide)) (fun _ => ?_)
                        refine g_aload_n hX dL_isWell_184 rfl 11 rfl ?_
                        refine g_iload hX dL_isWell_185 3 rfl ?_
                        refine g_iconst hX (v := 1) dL_isWell_187 (by decide) ?_
                        refine g_pV_I hX (rest := []) (n := 2) (As := [.int (nI j), .int 1]) (wc := wXX T ad xv) (w1 := wXX T ad xv) (rv := (F_X4_place xv (nI j) 1)) (st := []) 0 rfl rfl (c_X4_place (xL X) T (xB X) ad xv (nI j) 1) gL_isWell_X4_place rfl rfl rfl ⟨Nat.le_of_ble_eq_true rfl, Nat.le_of_ble_eq_true rfl⟩ ⟨Nat.zero_le _, Nat.zero_le _⟩ ⟨by decide +kernel, by decide +kernel, by decide +kernel⟩ rfl (List.append_nil _).symm rfl rfl (Nat.le_of_ble_eq_true rfl) dL_isWell_188 (List.append_nil _) ?_
                        refine g_if_eq hX 199 dL_isWell_191 (by decide) (fun c_191 => ?_) (fun c_191 => ?_)
                        · skip
                          refine g_iconst hX (v := 1) dL_isWell_199 (by decide) ?_
                          refine g_goto hX 204 dL_isWell_200 (by decide) ?_
                          have e8 : b_204_7 = 1 := by rw [hb_204_7]; simp only [eq_false c_104, eq_false c_112, eq_true c_123, eq_false c_133, eq_false c_138, eq_false c_157, eq_true c_173, eq_true c_191, if_true, if_false]
                          rw [e8] at hJ
                          exact hJ
                        · skip
                          refine g_iload hX dL_isWell_194 2 rfl ?_
                          refine g_if_le hX 203 dL_isWell_196 (by decide) (fun c_196 => ?_) (fun c_196 => ?_)
                          · skip
                            refine g_iconst hX (v := 0) dL_isWell_203 (by decide) ?_
                            have e8 : b_204_7 = 0 := by rw [hb_204_7]; simp only [eq_false c_104, eq_false c_112, eq_true c_123, eq_false c_133, eq_false c_138, eq_false c_157, eq_true c_173, eq_false c_191, eq_true c_196, if_true, if_false]
                            rw [e8] at hJ
                            exact hJ
                          · skip
                            refine g_iconst hX (v := 1) dL_isWell_199 (by decide) ?_
                            refine g_goto hX 204 dL_isWell_200 (by decide) ?_
                            have e8 : b_204_7 = 1 := by rw [hb_204_7]; simp only [eq_false c_104, eq_false c_112, eq_true c_123, eq_false c_133, eq_false c_138, eq_false c_157, eq_true c_173, eq_false c_191, eq_false c_196, if_true, if_false]
                            rw [e8] at hJ
                            exact hJ
                      · skip
                        refine g_iconst hX (v := 1) dL_isWell_176 (by decide) ?_
                        refine g_goto hX 181 dL_isWell_177 (by decide) ?_
                        refine g_icmp_ne hX 203 dL_isWell_181 (by decide) (fun _ => ?_) (fun c0 => absurd c0 (by decide))
                        refine g_iconst hX (v := 0) dL_isWell_203 (by decide) ?_
                        have e8 : b_204_7 = 0 := by rw [hb_204_7]; simp only [eq_false c_104, eq_false c_112, eq_true c_123, eq_false c_133, eq_false c_138, eq_false c_157, eq_false c_173, if_true, if_false]
                        rw [e8] at hJ
                        exact hJ
                    · skip
                      refine g_iconst hX (v := 1) dL_isWell_160 (by decide) ?_
                      refine g_goto hX 165 dL_isWell_161 (by decide) ?_
                      refine g_aload_n hX dL_isWell_165 rfl 11 rfl ?_
                      refine g_iload hX dL_isWell_166 3 rfl ?_
                      refine g_iconst hX (v := 1) dL_isWell_168 (by decide) ?_
                      refine g_pV_I hX (rest := []) (n := 2) (As := [.int (nI j), .int 1]) (wc := wXX T ad xv) (w1 := wXX T ad xv) (rv := (F_X4_place xv (nI j) 1)) (st := [.int 1]) 0 rfl rfl (c_X4_place (xL X) T (xB X) ad xv (nI j) 1) gL_isWell_X4_place rfl rfl rfl ⟨Nat.le_of_ble_eq_true rfl, Nat.le_of_ble_eq_true rfl⟩ ⟨Nat.zero_le _, Nat.zero_le _⟩ ⟨by decide +kernel, by decide +kernel, by decide +kernel⟩ rfl (List.append_nil _).symm rfl rfl (Nat.le_of_ble_eq_true rfl) dL_isWell_169 (List.append_nil _) ?_
                      refine g_iconst hX (v := 2) dL_isWell_172 (by decide) ?_
                      refine g_icmp_le hX 180 dL_isWell_173 (by decide) (fun c_173 => ?_) (fun c_173 => ?_)
                      · skip
                        refine g_iconst hX (v := 0) dL_isWell_180 (by decide) ?_
                        refine g_icmp_ne hX 203 dL_isWell_181 (by decide) (fun _ => ?_) (fun c0 => absurd c0 (by decide))
                        refine g_iconst hX (v := 0) dL_isWell_203 (by decide) ?_
                        have e8 : b_204_7 = 0 := by rw [hb_204_7]; simp only [eq_false c_104, eq_false c_112, eq_true c_123, eq_false c_133, eq_false c_138, eq_true c_157, eq_true c_173, if_true, if_false]
                        rw [e8] at hJ
                        exact hJ
                      · skip
                        refine g_iconst hX (v := 1) dL_isWell_176 (by decide) ?_
                        refine g_goto hX 181 dL_isWell_177 (by decide) ?_
                        refine g_icmp_ne hX 203 dL_isWell_181 (by decide) (fun c0 => absurd c0 (by decide)) (fun _ => ?_)
                        refine g_aload_n hX dL_isWell_184 rfl 11 rfl ?_
                        refine g_iload hX dL_isWell_185 3 rfl ?_
                        refine g_iconst hX (v := 1) dL_isWell_187 (by decide) ?_
                        refine g_pV_I hX (rest := []) (n := 2) (As := [.int (nI j), .int 1]) (wc := wXX T ad xv) (w1 := wXX T ad xv) (rv := (F_X4_place xv (nI j) 1)) (st := []) 0 rfl rfl (c_X4_place (xL X) T (xB X) ad xv (nI j) 1) gL_isWell_X4_place rfl rfl rfl ⟨Nat.le_of_ble_eq_true rfl, Nat.le_of_ble_eq_true rfl⟩ ⟨Nat.zero_le _, Nat.zero_le _⟩ ⟨by decide +kernel, by decide +kernel, by decide +kernel⟩ rfl (List.append_nil _).symm rfl rfl (Nat.le_of_ble_eq_true rfl) dL_isWell_188 (List.append_nil _) ?_
                        refine g_if_eq hX 199 dL_isWell_191 (by decide) (fun c_191 => ?_) (fun c_191 => ?_)
                        · skip
                          refine g_iconst hX (v := 1) dL_isWell_199 (by decide) ?_
                          refine g_goto hX 204 dL_isWell_200 (by decide) ?_
                          have e8 : b_204_7 = 1 := by rw [hb_204_7]; simp only [eq_false c_104, eq_false c_112, eq_true c_123, eq_false c_133, eq_false c_138, eq_true c_157, eq_false c_173, eq_true c_191, if_true, if_false]
                          rw [e8] at hJ
                          exact hJ
                        · skip
                          refine g_iload hX dL_isWell_194 2 rfl ?_
                          refine g_if_le hX 203 dL_isWell_196 (by decide) (fun c_196 => ?_) (fun c_196 => ?_)
                          · skip
                            refine g_iconst hX (v := 0) dL_isWell_203 (by decide) ?_
                            have e8 : b_204_7 = 0 := by rw [hb_204_7]; simp only [eq_false c_104, eq_false c_112, eq_true c_123, eq_false c_133, eq_false c_138, eq_true c_157, eq_false c_173, eq_false c_191, eq_true c_196, if_true, if_false]
                            rw [e8] at hJ
                            exact hJ
                          · skip
                            refine g_iconst hX (v := 1) dL_isWell_199 (by decide) ?_
                            refine g_goto hX 204 dL_isWell_200 (by decide) ?_
                            have e8 : b_204_7 = 1 := by rw [hb_204_7]; simp only [eq_false c_104, eq_false c_112, eq_true c_123, eq_false c_133, eq_false c_138, eq_true c_157, eq_false c_173, eq_false c_191, eq_false c_196, if_true, if_false]
                            rw [e8] at hJ
                            exact hJ
        refine g_istore hX (lv' := [(7, .int b_204_7), (11, .int b_100_6), (10, .int b_70_5), (9, .int (F_X4_place xv (nI j) 0)), (8, .int (nI j)), (1, .int wr), (2, .int kn), (3, .int ri), (4, .int mo), (5, .int le), (6, .int ba), (0, .ref (ad 0))]) dL_isWell_204 (by decide) rfl ?_
        refine g_iload_n hX dL_isWell_206 rfl 5 rfl ?_
        refine g_iload hX dL_isWell_207 3 rfl ?_
        refine g_iadd hX dL_isWell_209 ?_
        refine g_istore_n hX (lv' := [(1, .int (wr + (F_X4_place xv (nI j) 0))), (7, .int b_204_7), (11, .int b_100_6), (10, .int b_70_5), (9, .int (F_X4_place xv (nI j) 0)), (8, .int (nI j)), (2, .int kn), (3, .int ri), (4, .int mo), (5, .int le), (6, .int ba), (0, .ref (ad 0))]) dL_isWell_210 rfl (by decide) rfl ?_
        refine g_iload_n hX dL_isWell_211 rfl 6 rfl ?_
        refine g_aload_n hX dL_isWell_212 rfl 11 rfl ?_
        refine g_iload hX dL_isWell_213 5 rfl ?_
        refine g_iconst hX (v := 1) dL_isWell_215 (by decide) ?_
        refine g_pV_I hX (rest := []) (n := 2) (As := [.int (nI j), .int 1]) (wc := wXX T ad xv) (w1 := wXX T ad xv) (rv := (F_X4_place xv (nI j) 1)) (st := [.int kn]) 0 rfl rfl (c_X4_place (xL X) T (xB X) ad xv (nI j) 1) gL_isWell_X4_place rfl rfl rfl ⟨Nat.le_of_ble_eq_true rfl, Nat.le_of_ble_eq_true rfl⟩ ⟨Nat.zero_le _, Nat.zero_le _⟩ ⟨by decide +kernel, by decide +kernel, by decide +kernel⟩ rfl (List.append_nil _).symm rfl rfl (Nat.le_of_ble_eq_true rfl) dL_isWell_216 (List.append_nil _) ?_
        refine g_iadd hX dL_isWell_219 ?_
        refine g_istore_n hX (lv' := [(2, .int (kn + (F_X4_place xv (nI j) 1))), (1, .int (wr + (F_X4_place xv (nI j) 0))), (7, .int b_204_7), (11, .int b_100_6), (10, .int b_70_5), (9, .int (F_X4_place xv (nI j) 0)), (8, .int (nI j)), (3, .int ri), (4, .int mo), (5, .int le), (6, .int ba), (0, .ref (ad 0))]) dL_isWell_220 rfl (by decide) rfl ?_
        refine g_iload_n hX dL_isWell_221 rfl 7 rfl ?_
        refine g_aload_n hX dL_isWell_222 rfl 11 rfl ?_
        refine g_iload hX dL_isWell_223 6 rfl ?_
        refine g_iconst hX (v := 2) dL_isWell_225 (by decide) ?_
        refine g_pV_I hX (rest := []) (n := 2) (As := [.int (nI j), .int 2]) (wc := wXX T ad xv) (w1 := wXX T ad xv) (rv := (F_X4_place xv (nI j) 2)) (st := [.int ri]) 0 rfl rfl (c_X4_place (xL X) T (xB X) ad xv (nI j) 2) gL_isWell_X4_place rfl rfl rfl ⟨Nat.le_of_ble_eq_true rfl, Nat.le_of_ble_eq_true rfl⟩ ⟨Nat.zero_le _, Nat.zero_le _⟩ ⟨by decide +kernel, by decide +kernel, by decide +kernel⟩ rfl (List.append_nil _).symm rfl rfl (Nat.le_of_ble_eq_true rfl) dL_isWell_226 (List.append_nil _) ?_
        refine g_iadd hX dL_isWell_229 ?_
        refine g_istore_n hX (lv' := [(3, .int (ri + (F_X4_place xv (nI j) 2))), (2, .int (kn + (F_X4_place xv (nI j) 1))), (1, .int (wr + (F_X4_place xv (nI j) 0))), (7, .int b_204_7), (11, .int b_100_6), (10, .int b_70_5), (9, .int (F_X4_place xv (nI j) 0)), (8, .int (nI j)), (4, .int mo), (5, .int le), (6, .int ba), (0, .ref (ad 0))]) dL_isWell_230 rfl (by decide) rfl ?_
        obtain ⟨b_252_8, hb_252_8⟩ : ∃ z : Int32, z = (if ba = 0 then (if (F_X4_place xv (nI j) 3) = 1 then 1 else 0) else 1) := ⟨_, rfl⟩
        refine g_join 252 (.int b_252_8 :: []) (fun hJ => ?_) ?_
        · skip
          refine g_iload hX dL_isWell_231 10 rfl ?_
          refine g_if_ne hX 247 dL_isWell_233 (by decide) (fun c_233 => ?_) (fun c_233 => ?_)
          · skip
            refine g_iconst hX (v := 1) dL_isWell_247 (by decide) ?_
            refine g_goto hX 252 dL_isWell_248 (by decide) ?_
            have e8 : b_252_8 = 1 := by rw [hb_252_8]; simp only [eq_false c_233, if_true, if_false]
            rw [e8] at hJ
            exact hJ
          · skip
            refine g_aload_n hX dL_isWell_236 rfl 11 rfl ?_
            refine g_iload hX dL_isWell_237 7 rfl ?_
            refine g_iconst hX (v := 3) dL_isWell_239 (by decide) ?_
            refine g_pV_I hX (rest := []) (n := 2) (As := [.int (nI j), .int 3]) (wc := wXX T ad xv) (w1 := wXX T ad xv) (rv := (F_X4_place xv (nI j) 3)) (st := []) 0 rfl rfl (c_X4_place (xL X) T (xB X) ad xv (nI j) 3) gL_isWell_X4_place rfl rfl rfl ⟨Nat.le_of_ble_eq_true rfl, Nat.le_of_ble_eq_true rfl⟩ ⟨Nat.zero_le _, Nat.zero_le _⟩ ⟨by decide +kernel, by decide +kernel, by decide +kernel⟩ rfl (List.append_nil _).symm rfl rfl (Nat.le_of_ble_eq_true rfl) dL_isWell_240 (List.append_nil _) ?_
            refine g_iconst hX (v := 1) dL_isWell_243 (by decide) ?_
            refine g_icmp_ne hX 251 dL_isWell_244 (by decide) (fun c_244 => ?_) (fun c_244 => ?_)
            · skip
              refine g_iconst hX (v := 0) dL_isWell_251 (by decide) ?_
              have e8 : b_252_8 = 0 := by rw [hb_252_8]; simp only [eq_true c_233, eq_false c_244, if_true, if_false]
              rw [e8] at hJ
              exact hJ
            · skip
              refine g_iconst hX (v := 1) dL_isWell_247 (by decide) ?_
              refine g_goto hX 252 dL_isWell_248 (by decide) ?_
              have e8 : b_252_8 = 1 := by rw [hb_252_8]; simp only [eq_true c_233, eq_true c_244, if_true, if_false]
              rw [e8] at hJ
              exact hJ
        refine g_istore hX (lv' := [(6, .int b_252_8), (3, .int (ri + (F_X4_place xv (nI j) 2))), (2, .int (kn + (F_X4_place xv (nI j) 1))), (1, .int (wr + (F_X4_place xv (nI j) 0))), (7, .int b_204_7), (11, .int b_100_6), (10, .int b_70_5), (9, .int (F_X4_place xv (nI j) 0)), (8, .int (nI j)), (4, .int mo), (5, .int le), (0, .ref (ad 0))]) dL_isWell_252 (by decide) rfl ?_
        obtain ⟨b_268_9, hb_268_9⟩ : ∃ z : Int32, z = (if (F_X4_place xv (nI j) 0) ≤ mo then mo else (F_X4_place xv (nI j) 0)) := ⟨_, rfl⟩
        refine g_join 268 (.int b_268_9 :: []) (fun hJ => ?_) ?_
        · skip
          refine g_iload hX dL_isWell_254 7 rfl ?_
          refine g_iload hX dL_isWell_256 9 rfl ?_
          refine g_icmp_le hX 266 dL_isWell_258 (by decide) (fun c_258 => ?_) (fun c_258 => ?_)
          · skip
            refine g_iload hX dL_isWell_266 9 rfl ?_
            have e8 : b_268_9 = mo := by rw [hb_268_9]; simp only [eq_true c_258, if_true, if_false]
            rw [e8] at hJ
            exact hJ
          · skip
            refine g_iload hX dL_isWell_261 7 rfl ?_
            refine g_goto hX 268 dL_isWell_263 (by decide) ?_
            have e8 : b_268_9 = (F_X4_place xv (nI j) 0) := by rw [hb_268_9]; simp only [eq_false c_258, if_true, if_false]
            rw [e8] at hJ
            exact hJ
        refine g_istore hX (lv' := [(4, .int b_268_9), (6, .int b_252_8), (3, .int (ri + (F_X4_place xv (nI j) 2))), (2, .int (kn + (F_X4_place xv (nI j) 1))), (1, .int (wr + (F_X4_place xv (nI j) 0))), (7, .int b_204_7), (11, .int b_100_6), (10, .int b_70_5), (9, .int (F_X4_place xv (nI j) 0)), (8, .int (nI j)), (5, .int le), (0, .ref (ad 0))]) dL_isWell_268 (by decide) rfl ?_
        obtain ⟨b_284_10, hb_284_10⟩ : ∃ z : Int32, z = (if le ≤ (F_X4_place xv (nI j) 0) then le else (F_X4_place xv (nI j) 0)) := ⟨_, rfl⟩
        refine g_join 284 (.int b_284_10 :: []) (fun hJ => ?_) ?_
        · skip
          refine g_iload hX dL_isWell_270 8 rfl ?_
          refine g_iload hX dL_isWell_272 10 rfl ?_
          refine g_icmp_ge hX 282 dL_isWell_274 (by decide) (fun c_274 => ?_) (fun c_274 => ?_)
          · skip
            refine g_iload hX dL_isWell_282 10 rfl ?_
            have e8 : b_284_10 = le := by rw [hb_284_10]; simp only [eq_true c_274, if_true, if_false]
            rw [e8] at hJ
            exact hJ
          · skip
            refine g_iload hX dL_isWell_277 8 rfl ?_
            refine g_goto hX 284 dL_isWell_279 (by decide) ?_
            have e8 : b_284_10 = (F_X4_place xv (nI j) 0) := by rw [hb_284_10]; simp only [eq_false c_274, if_true, if_false]
            rw [e8] at hJ
            exact hJ
        refine g_istore hX (lv' := [(5, .int b_284_10), (4, .int b_268_9), (6, .int b_252_8), (3, .int (ri + (F_X4_place xv (nI j) 2))), (2, .int (kn + (F_X4_place xv (nI j) 1))), (1, .int (wr + (F_X4_place xv (nI j) 0))), (7, .int b_204_7), (11, .int b_100_6), (10, .int b_70_5), (9, .int (F_X4_place xv (nI j) 0)), (8, .int (nI j)), (0, .ref (ad 0))]) dL_isWell_284 (by decide) rfl ?_
        refine g_iinc hX (lv' := [(8, .int (nI (j + 1))), (5, .int b_284_10), (4, .int b_268_9), (6, .int b_252_8), (3, .int (ri + (F_X4_place xv (nI j) 2))), (2, .int (kn + (F_X4_place xv (nI j) 1))), (1, .int (wr + (F_X4_place xv (nI j) 0))), (7, .int b_204_7), (11, .int b_100_6), (10, .int b_70_5), (9, .int (F_X4_place xv (nI j) 0)), (0, .ref (ad 0))]) (v := (nI (j + 1))) 10 dL_isWell_286 rfl (nI_1 _) (by decide) rfl ?_
        refine g_goto hX 23 dL_isWell_289 (by decide) ?_
        have e9 : K_L_isWell_23 (n + 1) xv j wr kn ri mo le ba e = K_L_isWell_23 n xv (j + 1) (wr + (F_X4_place xv (nI j) 0)) (kn + (F_X4_place xv (nI j) 1)) (ri + (F_X4_place xv (nI j) 2)) b_268_9 b_284_10 b_252_8 b_204_7 := by first | (simp only [K_L_isWell_23, ← hb_70_5, ← hb_100_6, ← hb_204_7, ← hb_252_8, ← hb_268_9, ← hb_284_10, eq_false c_27, eq_false c_32, if_true, if_false]; done) | (subst hb_70_5 hb_100_6 hb_204_7 hb_252_8 hb_268_9 hb_284_10; simp only [K_L_isWell_23, eq_false c_27, eq_false c_32, if_true, if_false] <;> rfl)
        rw [e9]
        refine g_lv (lv' := [(8, .int (nI (j + 1))), (1, .int (wr + (F_X4_place xv (nI j) 0))), (2, .int (kn + (F_X4_place xv (nI j) 1))), (3, .int (ri + (F_X4_place xv (nI j) 2))), (4, .int b_268_9), (5, .int b_284_10), (6, .int b_252_8), (7, .int b_204_7), (0, .ref (ad 0))]) [0, 6, 5, 4, 2, 1, 3, 7, 11] rfl ?_
        exact ih xv (j + 1) (wr + (F_X4_place xv (nI j) 0)) (kn + (F_X4_place xv (nI j) 1)) (ri + (F_X4_place xv (nI j) 2)) b_268_9 b_284_10 b_252_8 b_204_7 (by omega) (by omega) hx
set_option maxHeartbeats 4000000 in
set_option maxRecDepth 100000 in
theorem c_L_isWell (l : Launch) (T : TT) (b0 : Nat) (ad : Nat → Nat) (xv : XV) (hx : xWF xv) : ConI l T b0 yL_isWell wsL_isWell rmL_isWell [.ref (ad 0)] (wXX T ad xv) ((F_L_isWell xv).1) (wXX T ad ((F_L_isWell xv).2)) := by
  refine conI_of (cc := cL_isWell) (maxL := 12) (ret := (some .boolean)) (lv0 := [(0, .ref (ad 0))]) (by decide +kernel) rfl (Nat.le_of_ble_eq_true rfl) rfl (fun X hX => ?_)
  refine g_iconst hX (v := 0) dL_isWell_0 (by decide) ?_
  refine g_istore_n hX (lv' := [(1, .int 0), (0, .ref (ad 0))]) dL_isWell_1 rfl (by decide) rfl ?_
  refine g_iconst hX (v := 0) dL_isWell_2 (by decide) ?_
  refine g_istore_n hX (lv' := [(2, .int 0), (1, .int 0), (0, .ref (ad 0))]) dL_isWell_3 rfl (by decide) rfl ?_
  refine g_iconst hX (v := 0) dL_isWell_4 (by decide) ?_
  refine g_istore_n hX (lv' := [(3, .int 0), (2, .int 0), (1, .int 0), (0, .ref (ad 0))]) dL_isWell_5 rfl (by decide) rfl ?_
  refine g_iconst hX (v := 0) dL_isWell_6 (by decide) ?_
  refine g_istore hX (lv' := [(4, .int 0), (3, .int 0), (2, .int 0), (1, .int 0), (0, .ref (ad 0))]) dL_isWell_7 (by decide) rfl ?_
  refine g_sipush hX (v := 200) dL_isWell_9 (by decide) ?_
  refine g_istore hX (lv' := [(5, .int 200), (4, .int 0), (3, .int 0), (2, .int 0), (1, .int 0), (0, .ref (ad 0))]) dL_isWell_12 (by decide) rfl ?_
  refine g_iconst hX (v := 0) dL_isWell_14 (by decide) ?_
  refine g_istore hX (lv' := [(6, .int 0), (5, .int 200), (4, .int 0), (3, .int 0), (2, .int 0), (1, .int 0), (0, .ref (ad 0))]) dL_isWell_15 (by decide) rfl ?_
  refine g_iconst hX (v := 1) dL_isWell_17 (by decide) ?_
  refine g_istore hX (lv' := [(7, .int 1), (6, .int 0), (5, .int 200), (4, .int 0), (3, .int 0), (2, .int 0), (1, .int 0), (0, .ref (ad 0))]) dL_isWell_18 (by decide) rfl ?_
  refine g_iconst hX (v := 0) dL_isWell_20 (by decide) ?_
  refine g_istore hX (lv' := [(8, .int 0), (7, .int 1), (6, .int 0), (5, .int 200), (4, .int 0), (3, .int 0), (2, .int 0), (1, .int 0), (0, .ref (ad 0))]) dL_isWell_21 (by decide) rfl ?_
  have e9 : F_L_isWell xv = K_L_isWell_23 13 xv 0 0 0 0 0 200 0 1 := by simp only [F_L_isWell, if_true, if_false]
  rw [e9]
  refine g_lv (lv' := [(8, .int (nI 0)), (1, .int 0), (2, .int 0), (3, .int 0), (4, .int 0), (5, .int 200), (6, .int 0), (7, .int 1), (0, .ref (ad 0))]) [0, 7, 6, 5, 4, 3, 2, 1, 8] rfl ?_
  exact k_L_isWell_23 hX ad 13 xv 0 0 0 0 0 200 0 1 (by omega) (by omega) hx
