/-! L_isStep -/
def rmL_isStep : Room := { frames := 6, cells := 0, slots := 0, locals := 147 }
def K_L_isStep_891 (xv : XV) (yv : XV) (p1 : Int32) (y : Int32) (wr : Int32) (co : Int32) (tu : Int32) (br : Int32) : Int32 × XV × XV :=
  (let z_919 := F_X4_ifTraverse xv (1 + (F_L_up y 11)) (1 + (F_L_up (y >>> ((4 : Int32) &&& 31)) 40)) 0
  (let z_928 := F_X4_ifTraverse yv (1 + (F_L_up y 11)) (1 + (F_L_up (y >>> ((4 : Int32) &&& 31)) 40)) 0
  (if z_919.1 = z_928.1 then (let z_937 := F_L_isRound z_919.2 (1 + (F_L_up y 11))
  (if z_937.1 = 0 then (0, z_937.2, z_928.2) else (1, z_937.2, z_928.2))) else (0, z_919.2, z_928.2))))
def K_L_isStep_770 (xv : XV) (yv : XV) (p1 : Int32) (y : Int32) (wr : Int32) (co : Int32) (tu : Int32) (br : Int32) : Int32 × XV × XV :=
  (if (F_L_up y 3) ≤ 0 then (let z_789 := F_X4_doff xv
  (let z_797 := F_X4_doff yv
  (if z_789.1 = z_797.1 then (if wr = 0 then (if z_789.1 = (-5) then (1, z_789.2, z_797.2) else (0, z_789.2, z_797.2)) else (if z_789.1 = wr then (if (F_X4_count z_789.2 0) = 0 then (if (F_X4_count z_789.2 14) = ((F_X4_count xv 14) + 1) then (if (F_X4_count z_789.2 9) = 0 then (if (F_X4_count z_789.2 2) = 0 then (if (F_X4_count z_789.2 12) = tu then (if (F_X4_count z_789.2 13) = br then (1, z_789.2, z_797.2) else (0, z_789.2, z_797.2)) else (0, z_789.2, z_797.2)) else (0, z_789.2, z_797.2)) else (0, z_789.2, z_797.2)) else (0, z_789.2, z_797.2)) else (0, z_789.2, z_797.2)) else (0, z_789.2, z_797.2))) else (0, z_789.2, z_797.2)))) else (1, xv, yv))
def K_L_isStep_685 (xv : XV) (yv : XV) (p1 : Int32) (y : Int32) (wr : Int32) (co : Int32) (tu : Int32) (br : Int32) : Int32 × XV × XV :=
  (let b_707_1 : Int32 := (if (F_L_up (y >>> ((8 : Int32) &&& 31)) 2) = 0 then 9999 else 500)
  (let z_716 := F_X4_cone xv (1 + (F_L_up y b_707_1))
  (if z_716.1 = co then (let z_731 := F_X4_cone yv (1 + (F_L_up y b_707_1))
  (if z_731.1 = co then (if (F_X4_count z_716.2 1) = (1 + (F_L_up y b_707_1)) then (if wr = 0 then (1, z_716.2, z_731.2) else (if (F_X4_count z_716.2 6) = 1 then (1, z_716.2, z_731.2) else (0, z_716.2, z_731.2))) else (0, z_716.2, z_731.2)) else (0, z_716.2, z_731.2))) else (0, z_716.2, yv))))
def K_L_isStep_548 (xv : XV) (yv : XV) (p1 : Int32) (y : Int32) (wr : Int32) (co : Int32) (tu : Int32) (br : Int32) : Int32 × XV × XV :=
  (let b_563_2 : Int32 := (if (F_X4_count xv 6) = 1 then 1 else 0)
  (let z_582 := F_X4_knot xv
  (let z_590 := F_X4_knot yv
  (if z_582.1 = z_590.1 then (if (F_X4_count xv 23) ≤ co then (if b_563_2 = 0 then (if z_582.1 = (-5) then (1, z_582.2, z_590.2) else (0, z_582.2, z_590.2)) else (if z_582.1 < 1 then (0, z_582.2, z_590.2) else (if (F_X4_count z_582.2 6) = 0 then (if (F_X4_count z_582.2 11) = ((F_X4_count xv 11) + 1) then (if (F_X4_count z_582.2 1) = (co - (F_X4_count xv 23)) then (if (F_X4_count z_582.2 0) = wr then (1, z_582.2, z_590.2) else (0, z_582.2, z_590.2)) else (0, z_582.2, z_590.2)) else (0, z_582.2, z_590.2)) else (0, z_582.2, z_590.2)))) else (if z_582.1 = (-4) then (1, z_582.2, z_590.2) else (0, z_582.2, z_590.2))) else (0, z_582.2, z_590.2)))))
def K_L_isStep_418 (xv : XV) (yv : XV) (p1 : Int32) (y : Int32) (wr : Int32) (co : Int32) (tu : Int32) (br : Int32) : Int32 × XV × XV :=
  (let b_507_3 : Int32 := (if (F_L_up y 5) = 0 then (1 + (F_L_up (y >>> ((3 : Int32) &&& 31)) 11)) else (if (F_L_up y 5) = 1 then (F_L_up (y >>> ((3 : Int32) &&& 31)) 10) else (if (F_L_up y 5) = 2 then (F_L_up (y >>> ((3 : Int32) &&& 31)) 6) else (if (F_L_up y 5) = 3 then (5 + (F_L_up (y >>> ((3 : Int32) &&& 31)) 46)) else (10 + (F_L_up (y >>> ((3 : Int32) &&& 31)) 90))))))
  (let z_514 := F_X4_set xv (F_L_up y 5) b_507_3
  (let z_522 := F_X4_set yv (F_L_up y 5) b_507_3
  (if z_514.1 = z_522.1 then (if (F_X4_count z_514.2 (20 + (F_L_up y 5))) = b_507_3 then (1, z_514.2, z_522.2) else (0, z_514.2, z_522.2)) else (0, z_514.2, z_522.2)))))
def K_L_isStep_313 (xv : XV) (yv : XV) (p1 : Int32) (wr : Int32) (co : Int32) (tu : Int32) (idl : Int32) (tol : Int32) (lai : Int32) (e : Int32) : Int32 × XV × XV :=
  (if e = 0 then (0, xv, yv) else (if idl = 0 then (if tol = lai then (if ((F_X4_count xv 12) - tu) < tol then (0, xv, yv) else (if (tol + 1) < ((F_X4_count xv 12) - tu) then (0, xv, yv) else (if ((F_X4_count xv 12) - tu) < 1 then (0, xv, yv) else (if (F_X4_count xv 0) = (wr + tol) then (if (co - (10 * tol)) < (F_X4_count xv 1) then (0, xv, yv) else (1, xv, yv)) else (0, xv, yv))))) else (0, xv, yv)) else (if tol = (-5) then (if lai = 0 then (if ((F_X4_count xv 12) - tu) = 0 then (1, xv, yv) else (0, xv, yv)) else (0, xv, yv)) else (0, xv, yv))))
def K_L_isStep_188 : Nat → XV → XV → Int32 → Int32 → Int32 → Int32 → Int32 → Int32 → Int32 → Int32 → Int32 → Nat → Int32 × XV × XV
  | 0, xv, yv, p1, wr, co, tu, m, idl, tol, lai, e, j => (0, xv, yv)
  | n + 1, xv, yv, p1, wr, co, tu, m, idl, tol, lai, e, j => (if m ≤ (nI j) then K_L_isStep_313 xv yv p1 wr co tu idl tol lai e else (if e = 0 then K_L_isStep_313 xv yv p1 wr co tu idl tol lai e else (if ((nI j) - (nI j) / 5 * 5) = 2 then (let b_232_4 : Int32 := (if (F_X4_count yv 24) = 99 then 98 else 99)
  (let z_232 := F_X4_set yv 4 b_232_4
  (if z_232.1 = (F_X4_count yv 24) then (let z_244 := F_X4_set z_232.2 4 (F_X4_count yv 24)
  (if z_244.1 < 98 then (let z_261 := F_X4_wind z_244.2 1
  (if z_261.1 = 1 then K_L_isStep_188 n xv z_261.2 p1 wr co tu m idl tol (lai + 1) 0 (j + 1) else K_L_isStep_188 n xv z_261.2 p1 wr co tu m idl tol (lai + 0) 0 (j + 1))) else (let z_261 := F_X4_wind z_244.2 1
  (if 1 < z_261.1 then (if z_261.1 = 1 then K_L_isStep_188 n xv z_261.2 p1 wr co tu m idl tol (lai + 1) 0 (j + 1) else K_L_isStep_188 n xv z_261.2 p1 wr co tu m idl tol (lai + 0) 0 (j + 1)) else (if z_261.1 = (-2) then (if z_261.1 = 1 then K_L_isStep_188 n xv z_261.2 p1 wr co tu m idl tol (lai + 1) 0 (j + 1) else K_L_isStep_188 n xv z_261.2 p1 wr co tu m idl tol (lai + 0) 0 (j + 1)) else (if z_261.1 = 1 then K_L_isStep_188 n xv z_261.2 p1 wr co tu m idl tol (lai + 1) 1 (j + 1) else K_L_isStep_188 n xv z_261.2 p1 wr co tu m idl tol (lai + 0) 1 (j + 1))))))) else (let z_261 := F_X4_wind z_232.2 1
  (if z_261.1 = 1 then K_L_isStep_188 n xv z_261.2 p1 wr co tu m idl tol (lai + 1) 0 (j + 1) else K_L_isStep_188 n xv z_261.2 p1 wr co tu m idl tol (lai + 0) 0 (j + 1)))))) else (let z_261 := F_X4_wind yv 1
  (if 1 < z_261.1 then (if z_261.1 = 1 then K_L_isStep_188 n xv z_261.2 p1 wr co tu m idl tol (lai + 1) 0 (j + 1) else K_L_isStep_188 n xv z_261.2 p1 wr co tu m idl tol (lai + 0) 0 (j + 1)) else (if z_261.1 = (-2) then (if z_261.1 = 1 then K_L_isStep_188 n xv z_261.2 p1 wr co tu m idl tol (lai + 1) 0 (j + 1) else K_L_isStep_188 n xv z_261.2 p1 wr co tu m idl tol (lai + 0) 0 (j + 1)) else (if z_261.1 = 1 then K_L_isStep_188 n xv z_261.2 p1 wr co tu m idl tol (lai + 1) 1 (j + 1) else K_L_isStep_188 n xv z_261.2 p1 wr co tu m idl tol (lai + 0) 1 (j + 1))))))))
def K_L_isStep_134 (xv : XV) (yv : XV) (p1 : Int32) (y : Int32) (wr : Int32) (co : Int32) (tu : Int32) (br : Int32) (m : Int32) : Int32 × XV × XV :=
  (let b_169_5 : Int32 := (if (F_X4_count xv 6) = 1 then 1 else (if (F_X4_count xv 7) = 1 then 1 else (if (F_X4_count xv 8) = 1 then 1 else 0)))
  (let z_174 := F_X4_wind xv m
  K_L_isStep_188 72 z_174.2 yv p1 wr co tu m b_169_5 z_174.1 0 1 0))
def K_L_isStep_108 (xv : XV) (yv : XV) (p1 : Int32) (y : Int32) (wr : Int32) (co : Int32) (tu : Int32) (br : Int32) : Int32 × XV × XV :=
  (let b_128_6 : Int32 := (if (F_L_up (y >>> ((6 : Int32) &&& 31)) 3) = 0 then 70 else 15)
  K_L_isStep_134 xv yv p1 y wr co tu br (1 + (F_L_up y b_128_6)))
def F_L_isStep (xv : XV) (yv : XV) (p1 : Int32) : Int32 × XV × XV :=
  (if (F_L_up p1 14) = 0 then K_L_isStep_108 xv yv p1 (p1 >>> ((4 : Int32) &&& 31)) (F_X4_count xv 0) (F_X4_count xv 1) (F_X4_count xv 12) (F_X4_count xv 13) else (if (F_L_up p1 14) = 1 then K_L_isStep_108 xv yv p1 (p1 >>> ((4 : Int32) &&& 31)) (F_X4_count xv 0) (F_X4_count xv 1) (F_X4_count xv 12) (F_X4_count xv 13) else (if (F_L_up p1 14) = 2 then K_L_isStep_108 xv yv p1 (p1 >>> ((4 : Int32) &&& 31)) (F_X4_count xv 0) (F_X4_count xv 1) (F_X4_count xv 12) (F_X4_count xv 13) else (if (F_L_up p1 14) = 3 then K_L_isStep_108 xv yv p1 (p1 >>> ((4 : Int32) &&& 31)) (F_X4_count xv 0) (F_X4_count xv 1) (F_X4_count xv 12) (F_X4_count xv 13) else (if (F_L_up p1 14) = 4 then K_L_isStep_108 xv yv p1 (p1 >>> ((4 : Int32) &&& 31)) (F_X4_count xv 0) (F_X4_count xv 1) (F_X4_count xv 12) (F_X4_count xv 13) else (if (F_L_up p1 14) = 5 then K_L_isStep_418 xv yv p1 (p1 >>> ((4 : Int32) &&& 31)) (F_X4_count xv 0) (F_X4_count xv 1) (F_X4_count xv 12) (F_X4_count xv 13) else (if (F_L_up p1 14) = 6 then K_L_isStep_418 xv yv p1 (p1 >>> ((4 : Int32) &&& 31)) (F_X4_count xv 0) (F_X4_count xv 1) (F_X4_count xv 12) (F_X4_count xv 13) else (if (F_L_up p1 14) = 7 then K_L_isStep_418 xv yv p1 (p1 >>> ((4 : Int32) &&& 31)) (F_X4_count xv 0) (F_X4_count xv 1) (F_X4_count xv 12) (F_X4_count xv 13) else (if (F_L_up p1 14) = 8 then K_L_isStep_548 xv yv p1 (p1 >>> ((4 : Int32) &&& 31)) (F_X4_count xv 0) (F_X4_count xv 1) (F_X4_count xv 12) (F_X4_count xv 13) else (if (F_L_up p1 14) = 9 then K_L_isStep_548 xv yv p1 (p1 >>> ((4 : Int32) &&& 31)) (F_X4_count xv 0) (F_X4_count xv 1) (F_X4_count xv 12) (F_X4_count xv 13) else (if (F_L_up p1 14) = 10 then K_L_isStep_548 xv yv p1 (p1 >>> ((4 : Int32) &&& 31)) (F_X4_count xv 0) (F_X4_count xv 1) (F_X4_count xv 12) (F_X4_count xv 13) else (if (F_L_up p1 14) = 11 then K_L_isStep_685 xv yv p1 (p1 >>> ((4 : Int32) &&& 31)) (F_X4_count xv 0) (F_X4_count xv 1) (F_X4_count xv 12) (F_X4_count xv 13) else (if (F_L_up p1 14) = 12 then K_L_isStep_770 xv yv p1 (p1 >>> ((4 : Int32) &&& 31)) (F_X4_count xv 0) (F_X4_count xv 1) (F_X4_count xv 12) (F_X4_count xv 13) else K_L_isStep_891 xv yv p1 (p1 >>> ((4 : Int32) &&& 31)) (F_X4_count xv 0) (F_X4_count xv 1) (F_X4_count xv 12) (F_X4_count xv 13))))))))))))))
set_option maxHeartbeats 4000000 in
set_option maxRecDepth 100000 in
theorem k_L_isStep_891 {T : TT} {X : CX} (hX : Fit T X (yL_isStep).cls 16 wsL_isStep cL_isStep (some .boolean) rmL_isStep) (ad bd : Nat → Nat) (xv : XV) (yv : XV) (p1 : Int32) (y : Int32) (wr : Int32) (co : Int32) (tu : Int32) (br : Int32) (hx : xWF xv) (hy : xWF yv) : G T X (QI T X 0 0 ((K_L_isStep_891 xv yv p1 y wr co tu br).1) (wXX T ad ((K_L_isStep_891 xv yv p1 y wr co tu br).2.1) ++ wXX T bd ((K_L_isStep_891 xv yv p1 y wr co tu br).2.2))) 0 0 (wXX T ad xv ++ wXX T bd yv) [(0, .ref (ad 0)), (1, .ref (bd 0)), (3, .int y), (4, .int wr), (5, .int co), (6, .int tu), (7, .int br)] 891 [] := by
  refine g_iconst hX (v := 1) dL_isStep_891 (by decide) ?_
  refine g_iload_n hX dL_isStep_892 rfl 2 rfl ?_
  refine g_bipush hX (v := 11) dL_isStep_893 (by decide) ?_
  refine g_cS_I hX (n := 2) (As := [.int y, .int 11]) (wc := []) (w1 := []) (rv := (F_L_up y 11)) (st := [.int 1]) (c_L_up (xL X) T (xB X) y 11 (by decide)) gL_isStep_L_up rfl rfl rfl ⟨Nat.le_of_ble_eq_true rfl, Nat.le_of_ble_eq_true rfl⟩ ⟨Nat.zero_le _, Nat.zero_le _⟩ ⟨by decide +kernel, by decide +kernel, by decide +kernel⟩ rfl [] rfl rfl (by decide) rfl (Nat.le_of_ble_eq_true rfl) dL_isStep_895 (ws' := wXX T ad xv ++ wXX T bd yv) rfl ?_
  refine g_iadd hX dL_isStep_898 ?_
  refine g_istore hX (lv' := [(8, .int (1 + (F_L_up y 11))), (0, .ref (ad 0)), (1, .ref (bd 0)), (3, .int y), (4, .int wr), (5, .int co), (6, .int tu), (7, .int br)]) dL_isStep_899 (by decide) rfl ?_
  refine g_iconst hX (v := 1) dL_isStep_901 (by decide) ?_
  refine g_iload_n hX dL_isStep_902 rfl 3 rfl ?_
  refine g_iconst hX (v := 4) dL_isStep_903 (by decide) ?_
  refine g_ishr hX dL_isStep_904 ?_
  refine g_bipush hX (v := 40) dL_isStep_905 (by decide) ?_
  refine g_cS_I hX (n := 2) (As := [.int (y >>> ((4 : Int32) &&& 31)), .int 40]) (wc := []) (w1 := []) (rv := (F_L_up (y >>> ((4 : Int32) &&& 31)) 40)) (st := [.int 1]) (c_L_up (xL X) T (xB X) (y >>> ((4 : Int32) &&& 31)) 40 (by decide)) gL_isStep_L_up rfl rfl rfl ⟨Nat.le_of_ble_eq_true rfl, Nat.le_of_ble_eq_true rfl⟩ ⟨Nat.zero_le _, Nat.zero_le _⟩ ⟨by decide +kernel, by decide +kernel, by decide +kernel⟩ rfl [] rfl rfl (by decide) rfl (Nat.le_of_ble_eq_true rfl) dL_isStep_907 (ws' := wXX T ad xv ++ wXX T bd yv) rfl ?_
  refine g_iadd hX dL_isStep_910 ?_
  refine g_istore hX (lv' := [(9, .int (1 + (F_L_up (y >>> ((4 : Int32) &&& 31)) 40))), (8, .int (1 + (F_L_up y 11))), (0, .ref (ad 0)), (1, .ref (bd 0)), (3, .int y), (4, .int wr), (5, .int co), (6, .int tu), (7, .int br)]) dL_isStep_911 (by decide) rfl ?_
  refine g_aload_n hX dL_isStep_913 rfl 2 rfl ?_
  refine g_iload hX dL_isStep_914 1 rfl ?_
  refine g_iload hX dL_isStep_916 0 rfl ?_
  refine g_iconst hX (v := 0) dL_isStep_918 (by decide) ?_
  obtain ⟨z_919, hz_919⟩ : ∃ z : Int32 × XV, z = F_X4_ifTraverse xv (1 + (F_L_up y 11)) (1 + (F_L_up (y >>> ((4 : Int32) &&& 31)) 40)) 0 := ⟨_, rfl⟩
  refine g_pV_I hX (rest := wXX T bd yv) (n := 3) (As := [.int (1 + (F_L_up y 11)), .int (1 + (F_L_up (y >>> ((4 : Int32) &&& 31)) 40)), .int 0]) (wc := wXX T ad xv) (w1 := wXX T ad z_919.2) (rv := z_919.1) (st := []) 0 rfl rfl (by rw [hz_919]; exact (c_X4_ifTraverse (xL X) T (xB X) ad xv (1 + (F_L_up y 11)) (1 + (F_L_up (y >>> ((4 : Int32) &&& 31)) 40)) 0)) gL_isStep_X4_ifTraverse rfl rfl rfl ⟨Nat.le_of_ble_eq_true rfl, Nat.le_of_ble_eq_true rfl⟩ ⟨Nat.zero_le _, Nat.zero_le _⟩ ⟨by decide +kernel, by decide +kernel, by decide +kernel⟩ rfl rfl (wXX_map T ad _ _) rfl (Nat.le_of_ble_eq_true rfl) dL_isStep_919 rfl ?_
  refine g_aload_n hX dL_isStep_922 rfl 3 rfl ?_
  refine g_iload hX dL_isStep_923 1 rfl ?_
  refine g_iload hX dL_isStep_925 0 rfl ?_
  refine g_iconst hX (v := 0) dL_isStep_927 (by decide) ?_
  obtain ⟨z_928, hz_928⟩ : ∃ z : Int32 × XV, z = F_X4_ifTraverse yv (1 + (F_L_up y 11)) (1 + (F_L_up (y >>> ((4 : Int32) &&& 31)) 40)) 0 := ⟨_, rfl⟩
  refine g_sV_I hX (rest := wXX T ad z_919.2) (n := 3) (As := [.int (1 + (F_L_up y 11)), .int (1 + (F_L_up (y >>> ((4 : Int32) &&& 31)) 40)), .int 0]) (wc := wXX T bd yv) (w1 := wXX T bd z_928.2) (rv := z_928.1) (st := [.int z_919.1]) rfl rfl (by rw [hz_928]; exact (c_X4_ifTraverse (xL X) T (xB X) bd yv (1 + (F_L_up y 11)) (1 + (F_L_up (y >>> ((4 : Int32) &&& 31)) 40)) 0)) gL_isStep_X4_ifTraverse rfl rfl rfl ⟨Nat.le_of_ble_eq_true rfl, Nat.le_of_ble_eq_true rfl⟩ ⟨Nat.zero_le _, Nat.zero_le _⟩ ⟨by decide +kernel, by decide +kernel, by decide +kernel⟩ rfl (wXX_map T bd _ _) rfl (Nat.le_of_ble_eq_true rfl) dL_isStep_928 ?_
  refine g_icmp_ne hX 947 dL_isStep_931 (by decide) (fun c_931 => ?_) (fun c_931 => ?_)
  · skip
    refine g_iconst hX (v := 0) dL_isStep_947 (by decide) ?_
    have e9 : K_L_isStep_891 xv yv p1 y wr co tu br = (0, z_919.2, z_928.2) := by simp only [K_L_isStep_891, ← hz_919, ← hz_928, eq_false c_931, if_true, if_false]
    rw [e9]
    exact g_zret hX dL_isStep_948 rfl rfl rfl
  · skip
    refine g_aload_n hX dL_isStep_934 rfl 2 rfl ?_
    refine g_iload hX dL_isStep_935 1 rfl ?_
    obtain ⟨z_937, hz_937⟩ : ∃ z : Int32 × XV, z = F_L_isRound z_919.2 (1 + (F_L_up y 11)) := ⟨_, rfl⟩
    refine g_pS_I hX (rest := wXX T bd z_928.2) (n := 2) (As := [.ref (ad 0), .int (1 + (F_L_up y 11))]) (wc := wXX T ad z_919.2) (w1 := wXX T ad z_937.2) (rv := z_937.1) (st := []) (by rw [hz_937]; exact (c_L_isRound (xL X) T (xB X) ad z_919.2 (1 + (F_L_up y 11)))) gL_isStep_L_isRound rfl rfl rfl ⟨Nat.le_of_ble_eq_true rfl, Nat.le_of_ble_eq_true rfl⟩ ⟨Nat.zero_le _, Nat.zero_le _⟩ ⟨by decide +kernel, by decide +kernel, by decide +kernel⟩ rfl rfl (wXX_map T ad _ _) rfl (Nat.le_of_ble_eq_true rfl) dL_isStep_937 rfl ?_
    refine g_if_eq hX 947 dL_isStep_940 (by decide) (fun c_940 => ?_) (fun c_940 => ?_)
    · skip
      refine g_iconst hX (v := 0) dL_isStep_947 (by decide) ?_
      have e9 : K_L_isStep_891 xv yv p1 y wr co tu br = (0, z_937.2, z_928.2) := by simp only [K_L_isStep_891, ← hz_919, ← hz_928, ← hz_937, eq_true c_931, eq_true c_940, if_true, if_false]
      rw [e9]
      exact g_zret hX dL_isStep_948 rfl rfl rfl
    · skip
      refine g_iconst hX (v := 1) dL_isStep_943 (by decide) ?_
      refine g_goto hX 948 dL_isStep_944 (by decide) ?_
      have e9 : K_L_isStep_891 xv yv p1 y wr co tu br = (1, z_937.2, z_928.2) := by simp only [K_L_isStep_891, ← hz_919, ← hz_928, ← hz_937, eq_true c_931, eq_false c_940, if_true, if_false]
      rw [e9]
      exact g_zret hX dL_isStep_948 rfl rfl rfl
set_option maxHeartbeats 4000000 in
set_option maxRecDepth 100000 in
theorem k_L_isStep_770 {T : TT} {X : CX} (hX : Fit T X (yL_isStep).cls 16 wsL_isStep cL_isStep (some .boolean) rmL_isStep) (ad bd : Nat → Nat) (xv : XV) (yv : XV) (p1 : Int32) (y : Int32) (wr : Int32) (co : Int32) (tu : Int32) (br : Int32) (hx : xWF xv) (hy : xWF yv) : G T X (QI T X 0 0 ((K_L_isStep_770 xv yv p1 y wr co tu br).1) (wXX T ad ((K_L_isStep_770 xv yv p1 y wr co tu br).2.1) ++ wXX T bd ((K_L_isStep_770 xv yv p1 y wr co tu br).2.2))) 0 0 (wXX T ad xv ++ wXX T bd yv) [(0, .ref (ad 0)), (1, .ref (bd 0)), (3, .int y), (4, .int wr), (5, .int co), (6, .int tu), (7, .int br)] 770 [] := by
  refine g_iload_n hX dL_isStep_770 rfl 2 rfl ?_
  refine g_iconst hX (v := 3) dL_isStep_771 (by decide) ?_
  refine g_cS_I hX (n := 2) (As := [.int y, .int 3]) (wc := []) (w1 := []) (rv := (F_L_up y 3)) (st := []) (c_L_up (xL X) T (xB X) y 3 (by decide)) gL_isStep_L_up rfl rfl rfl ⟨Nat.le_of_ble_eq_true rfl, Nat.le_of_ble_eq_true rfl⟩ ⟨Nat.zero_le _, Nat.zero_le _⟩ ⟨by decide +kernel, by decide +kernel, by decide +kernel⟩ rfl [] rfl rfl (by decide) rfl (Nat.le_of_ble_eq_true rfl) dL_isStep_772 (ws' := wXX T ad xv ++ wXX T bd yv) rfl ?_
  refine g_if_le hX 780 dL_isStep_775 (by decide) (fun c_775 => ?_) (fun c_775 => ?_)
  · skip
    refine g_aload_n hX dL_isStep_780 rfl 0 rfl ?_
    refine g_bipush hX (v := 14) dL_isStep_781 (by decide) ?_
    refine g_pV_I hX (rest := wXX T bd yv) (n := 1) (As := [.int 14]) (wc := wXX T ad xv) (w1 := wXX T ad xv) (rv := (F_X4_count xv 14)) (st := []) 0 rfl rfl (c_X4_count (xL X) T (xB X) ad xv 14) gL_isStep_X4_count rfl rfl rfl ⟨Nat.le_of_ble_eq_true rfl, Nat.le_of_ble_eq_true rfl⟩ ⟨Nat.zero_le _, Nat.zero_le _⟩ ⟨by decide +kernel, by decide +kernel, by decide +kernel⟩ rfl rfl (wXX_map T ad _ _) rfl (Nat.le_of_ble_eq_true rfl) dL_isStep_783 rfl ?_
    refine g_istore hX (lv' := [(8, .int (F_X4_count xv 14)), (0, .ref (ad 0)), (1, .ref (bd 0)), (3, .int y), (4, .int wr), (5, .int co), (6, .int tu), (7, .int br)]) dL_isStep_786 (by decide) rfl ?_
    refine g_aload_n hX dL_isStep_788 rfl 1 rfl ?_
    obtain ⟨z_789, hz_789⟩ : ∃ z : Int32 × XV, z = F_X4_doff xv := ⟨_, rfl⟩
    refine g_pV_I hX (rest := wXX T bd yv) (n := 0) (As := []) (wc := wXX T ad xv) (w1 := wXX T ad z_789.2) (rv := z_789.1) (st := []) 0 rfl rfl (by rw [hz_789]; exact (c_X4_doff (xL X) T (xB X) ad xv hx)) gL_isStep_X4_doff rfl rfl rfl ⟨Nat.le_of_ble_eq_true rfl, Nat.le_of_ble_eq_true rfl⟩ ⟨Nat.zero_le _, Nat.zero_le _⟩ ⟨by decide +kernel, by decide +kernel, by decide +kernel⟩ rfl rfl (wXX_map T ad _ _) rfl (Nat.le_of_ble_eq_true rfl) dL_isStep_789 rfl ?_
    refine g_istore hX (lv' := [(9, .int z_789.1), (8, .int (F_X4_count xv 14)), (0, .ref (ad 0)), (1, .ref (bd 0)), (3, .int y), (4, .int wr), (5, .int co), (6, .int tu), (7, .int br)]) dL_isStep_792 (by decide) rfl ?_
    refine g_iload hX dL_isStep_794 0 rfl ?_
    refine g_aload_n hX dL_isStep_796 rfl 3 rfl ?_
    obtain ⟨z_797, hz_797⟩ : ∃ z : Int32 × XV, z = F_X4_doff yv := ⟨_, rfl⟩
    refine g_sV_I hX (rest := wXX T ad z_789.2) (n := 0) (As := []) (wc := wXX T bd yv) (w1 := wXX T bd z_797.2) (rv := z_797.1) (st := [.int z_789.1]) rfl rfl (by rw [hz_797]; exact (c_X4_doff (xL X) T (xB X) bd yv hy)) gL_isStep_X4_doff rfl rfl rfl ⟨Nat.le_of_ble_eq_true rfl, Nat.le_of_ble_eq_true rfl⟩ ⟨Nat.zero_le _, Nat.zero_le _⟩ ⟨by decide +kernel, by decide +kernel, by decide +kernel⟩ rfl (wXX_map T bd _ _) rfl (Nat.le_of_ble_eq_true rfl) dL_isStep_797 ?_
    refine g_icmp_ne hX 889 dL_isStep_800 (by decide) (fun c_800 => ?_) (fun c_800 => ?_)
    · skip
      refine g_iconst hX (v := 0) dL_isStep_889 (by decide) ?_
      have e9 : K_L_isStep_770 xv yv p1 y wr co tu br = (0, z_789.2, z_797.2) := by simp only [K_L_isStep_770, ← hz_789, ← hz_797, eq_true c_775, eq_false c_800, if_true, if_false]
      rw [e9]
      exact g_zret hX dL_isStep_890 rfl rfl rfl
    · skip
      refine g_iload hX dL_isStep_803 5 rfl ?_
      refine g_if_ne hX 818 dL_isStep_805 (by decide) (fun c_805 => ?_) (fun c_805 => ?_)
      · skip
        refine g_iload hX dL_isStep_818 0 rfl ?_
        refine g_iload hX dL_isStep_820 5 rfl ?_
        refine g_icmp_ne hX 889 dL_isStep_822 (by decide) (fun c_822 => ?_) (fun c_822 => ?_)
        · skip
          refine g_iconst hX (v := 0) dL_isStep_889 (by decide) ?_
          have e9 : K_L_isStep_770 xv yv p1 y wr co tu br = (0, z_789.2, z_797.2) := by simp only [K_L_isStep_770, ← hz_789, ← hz_797, eq_true c_775, eq_true c_800, eq_false c_805, eq_false c_822, if_true, if_false]
          rw [e9]
          exact g_zret hX dL_isStep_890 rfl rfl rfl
        · skip
          refine g_aload_n hX dL_isStep_825 rfl 2 rfl ?_
          refine g_iconst hX (v := 0) dL_isStep_826 (by decide) ?_
          refine g_pV_I hX (rest := wXX T bd z_797.2) (n := 1) (As := [.int 0]) (wc := wXX T ad z_789.2) (w1 := wXX T ad z_789.2) (rv := (F_X4_count z_789.2 0)) (st := []) 0 rfl rfl (c_X4_count (xL X) T (xB X) ad z_789.2 0) gL_isStep_X4_count rfl rfl rfl ⟨Nat.le_of_ble_eq_true rfl, Nat.le_of_ble_eq_true rfl⟩ ⟨Nat.zero_le _, Nat.zero_le _⟩ ⟨by decide +kernel, by decide +kernel, by decide +kernel⟩ rfl rfl (wXX_map T ad _ _) rfl (Nat.le_of_ble_eq_true rfl) dL_isStep_827 rfl ?_
          refine g_if_ne hX 889 dL_isStep_830 (by decide) (fun c_830 => ?_) (fun c_830 => ?_)
          · skip
            refine g_iconst hX (v := 0) dL_isStep_889 (by decide) ?_
            have e9 : K_L_isStep_770 xv yv p1 y wr co tu br = (0, z_789.2, z_797.2) := by simp only [K_L_isStep_770, ← hz_789, ← hz_797, eq_true c_775, eq_true c_800, eq_false c_805, eq_true c_822, eq_false c_830, if_true, if_false]
            rw [e9]
            exact g_zret hX dL_isStep_890 rfl rfl rfl
          · skip
            refine g_aload_n hX dL_isStep_833 rfl 2 rfl ?_
            refine g_bipush hX (v := 14) dL_isStep_834 (by decide) ?_
            refine g_pV_I hX (rest := wXX T bd z_797.2) (n := 1) (As := [.int 14]) (wc := wXX T ad z_789.2) (w1 := wXX T ad z_789.2) (rv := (F_X4_count z_789.2 14)) (st := []) 0 rfl rfl (c_X4_count (xL X) T (xB X) ad z_789.2 14) gL_isStep_X4_count rfl rfl rfl ⟨Nat.le_of_ble_eq_true rfl, Nat.le_of_ble_eq_true rfl⟩ ⟨Nat.zero_le _, Nat.zero_le _⟩ ⟨by decide +kernel, by decide +kernel, by decide +kernel⟩ rfl rfl (wXX_map T ad _ _) rfl (Nat.le_of_ble_eq_true rfl) dL_isStep_836 rfl ?_
            refine g_iload hX dL_isStep_839 1 rfl ?_
            refine g_iconst hX (v := 1) dL_isStep_841 (by decide) ?_
            refine g_iadd hX dL_isStep_842 ?_
            refine g_icmp_ne hX 889 dL_isStep_843 (by decide) (fun c_843 => ?_) (fun c_843 => ?_)
            · skip
              refine g_iconst hX (v := 0) dL_isStep_889 (by decide) ?_
              have e9 : K_L_isStep_770 xv yv p1 y wr co tu br = (0, z_789.2, z_797.2) := by simp only [K_L_isStep_770, ← hz_789, ← hz_797, eq_true c_775, eq_true c_800, eq_false c_805, eq_true c_822, eq_true c_830, eq_false c_843, if_true, if_false]
              rw [e9]
              exact g_zret hX dL_isStep_890 rfl rfl rfl
            · skip
              refine g_aload_n hX dL_isStep_846 rfl 2 rfl ?_
              refine g_bipush hX (v := 9) dL_isStep_847 (by decide) ?_
              refine g_pV_I hX (rest := wXX T bd z_797.2) (n := 1) (As := [.int 9]) (wc := wXX T ad z_789.2) (w1 := wXX T ad z_789.2) (rv := (F_X4_count z_789.2 9)) (st := []) 0 rfl rfl (c_X4_count (xL X) T (xB X) ad z_789.2 9) gL_isStep_X4_count rfl rfl rfl ⟨Nat.le_of_ble_eq_true rfl, Nat.le_of_ble_eq_true rfl⟩ ⟨Nat.zero_le _, Nat.zero_le _⟩ ⟨by decide +kernel, by decide +kernel, by decide +kernel⟩ rfl rfl (wXX_map T ad _ _) rfl (Nat.le_of_ble_eq_true rfl) dL_isStep_849 rfl ?_
              refine g_if_ne hX 889 dL_isStep_852 (by decide) (fun c_852 => ?_) (fun c_852 => ?_)
              · skip
                refine g_iconst hX (v := 0) dL_isStep_889 (by decide) ?_
                have e9 : K_L_isStep_770 xv yv p1 y wr co tu br = (0, z_789.2, z_797.2) := by simp only [K_L_isStep_770, ← hz_789, ← hz_797, eq_true c_775, eq_true c_800, eq_false c_805, eq_true c_822, eq_true c_830, eq_true c_843, eq_false c_852, if_true, if_false]
                rw [e9]
                exact g_zret hX dL_isStep_890 rfl rfl rfl
              · skip
                refine g_aload_n hX dL_isStep_855 rfl 2 rfl ?_
                refine g_iconst hX (v := 2) dL_isStep_856 (by decide) ?_
                refine g_pV_I hX (rest := wXX T bd z_797.2) (n := 1) (As := [.int 2]) (wc := wXX T ad z_789.2) (w1 := wXX T ad z_789.2) (rv := (F_X4_count z_789.2 2)) (st := []) 0 rfl rfl (c_X4_count (xL X) T (xB X) ad z_789.2 2) gL_isStep_X4_count rfl rfl rfl ⟨Nat.le_of_ble_eq_true rfl, Nat.le_of_ble_eq_true rfl⟩ ⟨Nat.zero_le _, Nat.zero_le _⟩ ⟨by decide +kernel, by decide +kernel, by decide +kernel⟩ rfl rfl (wXX_map T ad _ _) rfl (Nat.le_of_ble_eq_true rfl) dL_isStep_857 rfl ?_
                refine g_if_ne hX 889 dL_isStep_860 (by decide) (fun c_860 => ?_) (fun c_860 => ?_)
                · skip
                  refine g_iconst hX (v := 0) dL_isStep_889 (by decide) ?_
                  have e9 : K_L_isStep_770 xv yv p1 y wr co tu br = (0, z_789.2, z_797.2) := by simp only [K_L_isStep_770, ← hz_789, ← hz_797, eq_true c_775, eq_true c_800, eq_false c_805, eq_true c_822, eq_true c_830, eq_true c_843, eq_true c_852, eq_false c_860, if_true, if_false]
                  rw [e9]
                  exact g_zret hX dL_isStep_890 rfl rfl rfl
                · skip
                  refine g_aload_n hX dL_isStep_863 rfl 2 rfl ?_
                  refine g_bipush hX (v := 12) dL_isStep_864 (by decide) ?_
                  refine g_pV_I hX (rest := wXX T bd z_797.2) (n := 1) (As := [.int 12]) (wc := wXX T ad z_789.2) (w1 := wXX T ad z_789.2) (rv := (F_X4_count z_789.2 12)) (st := []) 0 rfl rfl (c_X4_count (xL X) T (xB X) ad z_789.2 12) gL_isStep_X4_count rfl rfl rfl ⟨Nat.le_of_ble_eq_true rfl, Nat.le_of_ble_eq_true rfl⟩ ⟨Nat.zero_le _, Nat.zero_le _⟩ ⟨by decide +kernel, by decide +kernel, by decide +kernel⟩ rfl rfl (wXX_map T ad _ _) rfl (Nat.le_of_ble_eq_true rfl) dL_isStep_866 rfl ?_
                  refine g_iload hX dL_isStep_869 7 rfl ?_
                  refine g_icmp_ne hX 889 dL_isStep_871 (by decide) (fun c_871 => ?_) (fun c_871 => ?_)
                  · skip
                    refine g_iconst hX (v := 0) dL_isStep_889 (by decide) ?_
                    have e9 : K_L_isStep_770 xv yv p1 y wr co tu br = (0, z_789.2, z_797.2) := by simp only [K_L_isStep_770, ← hz_789, ← hz_797, eq_true c_775, eq_true c_800, eq_false c_805, eq_true c_822, eq_true c_830, eq_true c_843, eq_true c_852, eq_true c_860, eq_false c_871, if_true, if_false]
                    rw [e9]
                    exact g_zret hX dL_isStep_890 rfl rfl rfl
                  · skip
                    refine g_aload_n hX dL_isStep_874 rfl 2 rfl ?_
                    refine g_bipush hX (v := 13) dL_isStep_875 (by decide) ?_
                    refine g_pV_I hX (rest := wXX T bd z_797.2) (n := 1) (As := [.int 13]) (wc := wXX T ad z_789.2) (w1 := wXX T ad z_789.2) (rv := (F_X4_count z_789.2 13)) (st := []) 0 rfl rfl (c_X4_count (xL X) T (xB X) ad z_789.2 13) gL_isStep_X4_count rfl rfl rfl ⟨Nat.le_of_ble_eq_true rfl, Nat.le_of_ble_eq_true rfl⟩ ⟨Nat.zero_le _, Nat.zero_le _⟩ ⟨by decide +kernel, by decide +kernel, by decide +kernel⟩ rfl rfl (wXX_map T ad _ _) rfl (Nat.le_of_ble_eq_true rfl) dL_isStep_877 rfl ?_
                    refine g_iload hX dL_isStep_880 8 rfl ?_
                    refine g_icmp_ne hX 889 dL_isStep_882 (by decide) (fun c_882 => ?_) (fun c_882 => ?_)
                    · skip
                      refine g_iconst hX (v := 0) dL_isStep_889 (by decide) ?_
                      have e9 : K_L_isStep_770 xv yv p1 y wr co tu br = (0, z_789.2, z_797.2) := by simp only [K_L_isStep_770, ← hz_789, ← hz_797, eq_true c_775, eq_true c_800, eq_false c_805, eq_true c_822, eq_true c_830, eq_true c_843, eq_true c_852, eq_true c_860, eq_true c_871, eq_false c_882, if_true, if_false]
                      rw [e9]
                      exact g_zret hX dL_isStep_890 rfl rfl rfl
                    · skip
                      refine g_iconst hX (v := 1) dL_isStep_885 (by decide) ?_
                      refine g_goto hX 890 dL_isStep_886 (by decide) ?_
                      have e9 : K_L_isStep_770 xv yv p1 y wr co tu br = (1, z_789.2, z_797.2) := by simp only [K_L_isStep_770, ← hz_789, ← hz_797, eq_true c_775, eq_true c_800, eq_false c_805, eq_true c_822, eq_true c_830, eq_true c_843, eq_true c_852, eq_true c_860, eq_true c_871, eq_true c_882, if_true, if_false]
                      rw [e9]
                      exact g_zret hX dL_isStep_890 rfl rfl rfl
      · skip
        refine g_iload hX dL_isStep_808 0 rfl ?_
        refine g_bipush hX (v := (-5)) dL_isStep_810 (by decide) ?_
        refine g_icmp_ne hX 889 dL_isStep_812 (by decide) (fun c_812 => ?_) (fun c_812 => ?_)
        · skip
          refine g_iconst hX (v := 0) dL_isStep_889 (by decide) ?_
          have e9 : K_L_isStep_770 xv yv p1 y wr co tu br = (0, z_789.2, z_797.2) := by simp only [K_L_isStep_770, ← hz_789, ← hz_797, eq_true c_775, eq_true c_800, eq_true c_805, eq_false c_812, if_true, if_false]
          rw [e9]
          exact g_zret hX dL_isStep_890 rfl rfl rfl
        · skip
          refine g_goto hX 885 dL_isStep_815 (by decide) ?_
          refine g_iconst hX (v := 1) dL_isStep_885 (by decide) ?_
          refine g_goto hX 890 dL_isStep_886 (by decide) ?_
          have e9 : K_L_isStep_770 xv yv p1 y wr co tu br = (1, z_789.2, z_797.2) := by simp only [K_L_isStep_770, ← hz_789, ← hz_797, eq_true c_775, eq_true c_800, eq_true c_805, eq_true c_812, if_true, if_false]
          rw [e9]
          exact g_zret hX dL_isStep_890 rfl rfl rfl
  · skip
    refine g_iconst hX (v := 1) dL_isStep_778 (by decide) ?_
    have e9 : K_L_isStep_770 xv yv p1 y wr co tu br = (1, xv, yv) := by simp only [K_L_isStep_770, eq_false c_775, if_true, if_false]
    rw [e9]
    exact g_zret hX dL_isStep_779 rfl rfl rfl
set_option maxHeartbeats 4000000 in
set_option maxRecDepth 100000 in
theorem k_L_isStep_685 {T : TT} {X : CX} (hX : Fit T X (yL_isStep).cls 16 wsL_isStep cL_isStep (some .boolean) rmL_isStep) (ad bd : Nat → Nat) (xv : XV) (yv : XV) (p1 : Int32) (y : Int32) (wr : Int32) (co : Int32) (tu : Int32) (br : Int32) (hx : xWF xv) (hy : xWF yv) : G T X (QI T X 0 0 ((K_L_isStep_685 xv yv p1 y wr co tu br).1) (wXX T ad ((K_L_isStep_685 xv yv p1 y wr co tu br).2.1) ++ wXX T bd ((K_L_isStep_685 xv yv p1 y wr co tu br).2.2))) 0 0 (wXX T ad xv ++ wXX T bd yv) [(0, .ref (ad 0)), (1, .ref (bd 0)), (3, .int y), (4, .int wr), (5, .int co), (6, .int tu), (7, .int br)] 685 [] := by
  refine g_iconst hX (v := 1) dL_isStep_685 (by decide) ?_
  refine g_iload_n hX dL_isStep_686 rfl 2 rfl ?_
  obtain ⟨b_707_1, hb_707_1⟩ : ∃ z : Int32, z = (if (F_L_up (y >>> ((8 : Int32) &&& 31)) 2) = 0 then 9999 else 500) := ⟨_, rfl⟩
  refine g_join 707 (.int b_707_1 :: .int y :: .int 1 :: []) (fun hJ => ?_) ?_
  · skip
    refine g_iload_n hX dL_isStep_687 rfl 2 rfl ?_
    refine g_bipush hX (v := 8) dL_isStep_688 (by decide) ?_
    refine g_ishr hX dL_isStep_690 ?_
    refine g_iconst hX (v := 2) dL_isStep_691 (by decide) ?_
    refine g_cS_I hX (n := 2) (As := [.int (y >>> ((8 : Int32) &&& 31)), .int 2]) (wc := []) (w1 := []) (rv := (F_L_up (y >>> ((8 : Int32) &&& 31)) 2)) (st := [.int y, .int 1]) (c_L_up (xL X) T (xB X) (y >>> ((8 : Int32) &&& 31)) 2 (by decide)) gL_isStep_L_up rfl rfl rfl ⟨Nat.le_of_ble_eq_true rfl, Nat.le_of_ble_eq_true rfl⟩ ⟨Nat.zero_le _, Nat.zero_le _⟩ ⟨by decide +kernel, by decide +kernel, by decide +kernel⟩ rfl [] rfl rfl (by decide) rfl (Nat.le_of_ble_eq_true rfl) dL_isStep_692 (ws' := wXX T ad xv ++ wXX T bd yv) rfl ?_
    refine g_if_ne hX 704 dL_isStep_695 (by decide) (fun c_695 => ?_) (fun c_695 => ?_)
    · skip
      refine g_sipush hX (v := 500) dL_isStep_704 (by decide) ?_
      have e8 : b_707_1 = 500 := by rw [hb_707_1]; simp only [eq_false c_695, if_true, if_false]
      rw [e8] at hJ
      exact hJ
    · skip
      refine g_sipush hX (v := 9999) dL_isStep_698 (by decide) ?_
      refine g_goto hX 707 dL_isStep_701 (by decide) ?_
      have e8 : b_707_1 = 9999 := by rw [hb_707_1]; simp only [eq_true c_695, if_true, if_false]
      rw [e8] at hJ
      exact hJ
  refine g_cS_I hX (n := 2) (As := [.int y, .int b_707_1]) (wc := []) (w1 := []) (rv := (F_L_up y b_707_1)) (st := [.int 1]) (c_L_up (xL X) T (xB X) y b_707_1 (ite_ne hb_707_1 (by decide) (by decide))) gL_isStep_L_up rfl rfl rfl ⟨Nat.le_of_ble_eq_true rfl, Nat.le_of_ble_eq_true rfl⟩ ⟨Nat.zero_le _, Nat.zero_le _⟩ ⟨by decide +kernel, by decide +kernel, by decide +kernel⟩ rfl [] rfl rfl (by decide) rfl (Nat.le_of_ble_eq_true rfl) dL_isStep_707 (ws' := wXX T ad xv ++ wXX T bd yv) rfl ?_
  refine g_iadd hX dL_isStep_710 ?_
  refine g_istore hX (lv' := [(8, .int (1 + (F_L_up y b_707_1))), (0, .ref (ad 0)), (1, .ref (bd 0)), (3, .int y), (4, .int wr), (5, .int co), (6, .int tu), (7, .int br)]) dL_isStep_711 (by decide) rfl ?_
  refine g_aload_n hX dL_isStep_713 rfl 1 rfl ?_
  refine g_iload hX dL_isStep_714 0 rfl ?_
  obtain ⟨z_716, hz_716⟩ : ∃ z : Int32 × XV, z = F_X4_cone xv (1 + (F_L_up y b_707_1)) := ⟨_, rfl⟩
  refine g_pV_I hX (rest := wXX T bd yv) (n := 1) (As := [.int (1 + (F_L_up y b_707_1))]) (wc := wXX T ad xv) (w1 := wXX T ad z_716.2) (rv := z_716.1) (st := []) 0 rfl rfl (by rw [hz_716]; exact (c_X4_cone (xL X) T (xB X) ad xv (1 + (F_L_up y b_707_1)) hx)) gL_isStep_X4_cone rfl rfl rfl ⟨Nat.le_of_ble_eq_true rfl, Nat.le_of_ble_eq_true rfl⟩ ⟨Nat.zero_le _, Nat.zero_le _⟩ ⟨by decide +kernel, by decide +kernel, by decide +kernel⟩ rfl rfl (wXX_map T ad _ _) rfl (Nat.le_of_ble_eq_true rfl) dL_isStep_716 rfl ?_
  refine g_istore hX (lv' := [(9, .int z_716.1), (8, .int (1 + (F_L_up y b_707_1))), (0, .ref (ad 0)), (1, .ref (bd 0)), (3, .int y), (4, .int wr), (5, .int co), (6, .int tu), (7, .int br)]) dL_isStep_719 (by decide) rfl ?_
  refine g_iload hX dL_isStep_721 0 rfl ?_
  refine g_iload hX dL_isStep_723 6 rfl ?_
  refine g_icmp_ne hX 768 dL_isStep_725 (by decide) (fun c_725 => ?_) (fun c_725 => ?_)
  · skip
    refine g_iconst hX (v := 0) dL_isStep_768 (by decide) ?_
    have e9 : K_L_isStep_685 xv yv p1 y wr co tu br = (0, z_716.2, yv) := by first | (simp only [K_L_isStep_685, ← hb_707_1, ← hz_716, eq_false c_725, if_true, if_false]; done) | (subst hb_707_1; simp only [K_L_isStep_685, ← hz_716, eq_false c_725, if_true, if_false] <;> rfl)
    rw [e9]
    exact g_zret hX dL_isStep_769 rfl rfl rfl
  · skip
    refine g_aload_n hX dL_isStep_728 rfl 3 rfl ?_
    refine g_iload hX dL_isStep_729 1 rfl ?_
    obtain ⟨z_731, hz_731⟩ : ∃ z : Int32 × XV, z = F_X4_cone yv (1 + (F_L_up y b_707_1)) := ⟨_, rfl⟩
    refine g_sV_I hX (rest := wXX T ad z_716.2) (n := 1) (As := [.int (1 + (F_L_up y b_707_1))]) (wc := wXX T bd yv) (w1 := wXX T bd z_731.2) (rv := z_731.1) (st := []) rfl rfl (by rw [hz_731]; exact (c_X4_cone (xL X) T (xB X) bd yv (1 + (F_L_up y b_707_1)) hy)) gL_isStep_X4_cone rfl rfl rfl ⟨Nat.le_of_ble_eq_true rfl, Nat.le_of_ble_eq_true rfl⟩ ⟨Nat.zero_le _, Nat.zero_le _⟩ ⟨by decide +kernel, by decide +kernel, by decide +kernel⟩ rfl (wXX_map T bd _ _) rfl (Nat.le_of_ble_eq_true rfl) dL_isStep_731 ?_
    refine g_iload hX dL_isStep_734 6 rfl ?_
    refine g_icmp_ne hX 768 dL_isStep_736 (by decide) (fun c_736 => ?_) (fun c_736 => ?_)
    · skip
      refine g_iconst hX (v := 0) dL_isStep_768 (by decide) ?_
      have e9 : K_L_isStep_685 xv yv p1 y wr co tu br = (0, z_716.2, z_731.2) := by first | (simp only [K_L_isStep_685, ← hb_707_1, ← hz_716, ← hz_731, eq_true c_725, eq_false c_736, if_true, if_false]; done) | (subst hb_707_1; simp only [K_L_isStep_685, ← hz_716, ← hz_731, eq_true c_725, eq_false c_736, if_true, if_false] <;> rfl)
      rw [e9]
      exact g_zret hX dL_isStep_769 rfl rfl rfl
    · skip
      refine g_aload_n hX dL_isStep_739 rfl 2 rfl ?_
      refine g_iconst hX (v := 1) dL_isStep_740 (by decide) ?_
      refine g_pV_I hX (rest := wXX T bd z_731.2) (n := 1) (As := [.int 1]) (wc := wXX T ad z_716.2) (w1 := wXX T ad z_716.2) (rv := (F_X4_count z_716.2 1)) (st := []) 0 rfl rfl (c_X4_count (xL X) T (xB X) ad z_716.2 1) gL_isStep_X4_count rfl rfl rfl ⟨Nat.le_of_ble_eq_true rfl, Nat.le_of_ble_eq_true rfl⟩ ⟨Nat.zero_le _, Nat.zero_le _⟩ ⟨by decide +kernel, by decide +kernel, by decide +kernel⟩ rfl rfl (wXX_map T ad _ _) rfl (Nat.le_of_ble_eq_true rfl) dL_isStep_741 rfl ?_
      refine g_iload hX dL_isStep_744 1 rfl ?_
      refine g_icmp_ne hX 768 dL_isStep_746 (by decide) (fun c_746 => ?_) (fun c_746 => ?_)
      · skip
        refine g_iconst hX (v := 0) dL_isStep_768 (by decide) ?_
        have e9 : K_L_isStep_685 xv yv p1 y wr co tu br = (0, z_716.2, z_731.2) := by first | (simp only [K_L_isStep_685, ← hb_707_1, ← hz_716, ← hz_731, eq_true c_725, eq_true c_736, eq_false c_746, if_true, if_false]; done) | (subst hb_707_1; simp only [K_L_isStep_685, ← hz_716, ← hz_731, eq_true c_725, eq_true c_736, eq_false c_746, if_true, if_false] <;> rfl)
        rw [e9]
        exact g_zret hX dL_isStep_769 rfl rfl rfl
      · skip
        refine g_iload hX dL_isStep_749 5 rfl ?_
        refine g_if_eq hX 764 dL_isStep_751 (by decide) (fun c_751 => ?_) (fun c_751 => ?_)
        · skip
          refine g_iconst hX (v := 1) dL_isStep_764 (by decide) ?_
          refine g_goto hX 769 dL_isStep_765 (by decide) ?_
          have e9 : K_L_isStep_685 xv yv p1 y wr co tu br = (1, z_716.2, z_731.2) := by first | (simp only [K_L_isStep_685, ← hb_707_1, ← hz_716, ← hz_731, eq_true c_725, eq_true c_736, eq_true c_746, eq_true c_751, if_true, if_false]; done) | (subst hb_707_1; simp only [K_L_isStep_685, ← hz_716, ← hz_731, eq_true c_725, eq_true c_736, eq_true c_746, eq_true c_751, if_true, if_false] <;> rfl)
          rw [e9]
          exact g_zret hX dL_isStep_769 rfl rfl rfl
        · skip
          refine g_aload_n hX dL_isStep_754 rfl 2 rfl ?_
          refine g_bipush hX (v := 6) dL_isStep_755 (by decide) ?_
          refine g_pV_I hX (rest := wXX T bd z_731.2) (n := 1) (As := [.int 6]) (wc := wXX T ad z_716.2) (w1 := wXX T ad z_716.2) (rv := (F_X4_count z_716.2 6)) (st := []) 0 rfl rfl (c_X4_count (xL X) T (xB X) ad z_716.2 6) gL_isStep_X4_count rfl rfl rfl ⟨Nat.le_of_ble_eq_true rfl, Nat.le_of_ble_eq_true rfl⟩ ⟨Nat.zero_le _, Nat.zero_le _⟩ ⟨by decide +kernel, by decide +kernel, by decide +kernel⟩ rfl rfl (wXX_map T ad _ _) rfl (Nat.le_of_ble_eq_true rfl) dL_isStep_757 rfl ?_
          refine g_iconst hX (v := 1) dL_isStep_760 (by decide) ?_
          refine g_icmp_ne hX 768 dL_isStep_761 (by decide) (fun c_761 => ?_) (fun c_761 => ?_)
          · skip
            refine g_iconst hX (v := 0) dL_isStep_768 (by decide) ?_
            have e9 : K_L_isStep_685 xv yv p1 y wr co tu br = (0, z_716.2, z_731.2) := by first | (simp only [K_L_isStep_685, ← hb_707_1, ← hz_716, ← hz_731, eq_true c_725, eq_true c_736, eq_true c_746, eq_false c_751, eq_false c_761, if_true, if_false]; done) | (subst hb_707_1; simp only [K_L_isStep_685, ← hz_716, ← hz_731, eq_true c_725, eq_true c_736, eq_true c_746, eq_false c_751, eq_false c_761, if_true, if_false] <;> rfl)
            rw [e9]
            exact g_zret hX dL_isStep_769 rfl rfl rfl
          · skip
            refine g_iconst hX (v := 1) dL_isStep_764 (by decide) ?_
            refine g_goto hX 769 dL_isStep_765 (by decide) ?_
            have e9 : K_L_isStep_685 xv yv p1 y wr co tu br = (1, z_716.2, z_731.2) := by first | (simp only [K_L_isStep_685, ← hb_707_1, ← hz_716, ← hz_731, eq_true c_725, eq_true c_736, eq_true c_746, eq_false c_751, eq_true c_761, if_true, if_false]; done) | (subst hb_707_1; simp only [K_L_isStep_685, ← hz_716, ← hz_731, eq_true c_725, eq_true c_736, eq_true c_746, eq_false c_751, eq_true c_761, if_true, if_false] <;> rfl)
            rw [e9]
            exact g_zret hX dL_isStep_769 rfl rfl rfl
set_option maxHeartbeats 4000000 in
set_option maxRecDepth 100000 in
theorem k_L_isStep_548 {T : TT} {X : CX} (hX : Fit T X (yL_isStep).cls 16 wsL_isStep cL_isStep (some .boolean) rmL_isStep) (ad bd : Nat → Nat) (xv : XV) (yv : XV) (p1 : Int32) (y : Int32) (wr : Int32) (co : Int32) (tu : Int32) (br : Int32) (hx : xWF xv) (hy : xWF yv) : G T X (QI T X 0 0 ((K_L_isStep_548 xv yv p1 y wr co tu br).1) (wXX T ad ((K_L_isStep_548 xv yv p1 y wr co tu br).2.1) ++ wXX T bd ((K_L_isStep_548 xv yv p1 y wr co tu br).2.2))) 0 0 (wXX T ad xv ++ wXX T bd yv) [(0, .ref (ad 0)), (1, .ref (bd 0)), (3, .int y), (4, .int wr), (5, .int co), (6, .int tu), (7, .int br)] 548 [] := by
  obtain ⟨b_563_2, hb_563_2⟩ : ∃ z : Int32, z = (if (F_X4_count xv 6) = 1 then 1 else 0) := ⟨_, rfl⟩
  refine g_join 563 (.int b_563_2 :: []) (fun hJ => ?_) ?_
  · skip
    refine g_aload_n hX dL_isStep_548 rfl 0 rfl ?_
    refine g_bipush hX (v := 6) dL_isStep_549 (by decide) ?_
    refine g_pV_I hX (rest := wXX T bd yv) (n := 1) (As := [.int 6]) (wc := wXX T ad xv) (w1 := wXX T ad xv) (rv := (F_X4_count xv 6)) (st := []) 0 rfl rfl (c_X4_count (xL X) T (xB X) ad xv 6) gL_isStep_X4_count rfl rfl rfl ⟨Nat.le_of_ble_eq_true rfl, Nat.le_of_ble_eq_true rfl⟩ ⟨Nat.zero_le _, Nat.zero_le _⟩ ⟨by decide +kernel, by decide +kernel, by decide +kernel⟩ rfl rfl (wXX_map T ad _ _) rfl (Nat.le_of_ble_eq_true rfl) dL_isStep_551 rfl ?_
    refine g_iconst hX (v := 1) dL_isStep_554 (by decide) ?_
    refine g_icmp_ne hX 562 dL_isStep_555 (by decide) (fun c_555 => ?_) (fun c_555 => ?_)
    · skip
      refine g_iconst hX (v := 0) dL_isStep_562 (by decide) ?_
      have e8 : b_563_2 = 0 := by rw [hb_563_2]; simp only [eq_false c_555, if_true, if_false]
      rw [e8] at hJ
      exact hJ
    · skip
      refine g_iconst hX (v := 1) dL_isStep_558 (by decide) ?_
      refine g_goto hX 563 dL_isStep_559 (by decide) ?_
      have e8 : b_563_2 = 1 := by rw [hb_563_2]; simp only [eq_true c_555, if_true, if_false]
      rw [e8] at hJ
      exact hJ
  refine g_istore hX (lv' := [(8, .int b_563_2), (0, .ref (ad 0)), (1, .ref (bd 0)), (3, .int y), (4, .int wr), (5, .int co), (6, .int tu), (7, .int br)]) dL_isStep_563 (by decide) rfl ?_
  refine g_aload_n hX dL_isStep_565 rfl 1 rfl ?_
  refine g_bipush hX (v := 11) dL_isStep_566 (by decide) ?_
  refine g_pV_I hX (rest := wXX T bd yv) (n := 1) (As := [.int 11]) (wc := wXX T ad xv) (w1 := wXX T ad xv) (rv := (F_X4_count xv 11)) (st := []) 0 rfl rfl (c_X4_count (xL X) T (xB X) ad xv 11) gL_isStep_X4_count rfl rfl rfl ⟨Nat.le_of_ble_eq_true rfl, Nat.le_of_ble_eq_true rfl⟩ ⟨Nat.zero_le _, Nat.zero_le _⟩ ⟨by decide +kernel, by decide +kernel, by decide +kernel⟩ rfl rfl (wXX_map T ad _ _) rfl (Nat.le_of_ble_eq_true rfl) dL_isStep_568 rfl ?_
  refine g_istore hX (lv' := [(9, .int (F_X4_count xv 11)), (8, .int b_563_2), (0, .ref (ad 0)), (1, .ref (bd 0)), (3, .int y), (4, .int wr), (5, .int co), (6, .int tu), (7, .int br)]) dL_isStep_571 (by decide) rfl ?_
  refine g_aload_n hX dL_isStep_573 rfl 2 rfl ?_
  refine g_bipush hX (v := 23) dL_isStep_574 (by decide) ?_
  refine g_pV_I hX (rest := wXX T bd yv) (n := 1) (As := [.int 23]) (wc := wXX T ad xv) (w1 := wXX T ad xv) (rv := (F_X4_count xv 23)) (st := []) 0 rfl rfl (c_X4_count (xL X) T (xB X) ad xv 23) gL_isStep_X4_count rfl rfl rfl ⟨Nat.le_of_ble_eq_true rfl, Nat.le_of_ble_eq_true rfl⟩ ⟨Nat.zero_le _, Nat.zero_le _⟩ ⟨by decide +kernel, by decide +kernel, by decide +kernel⟩ rfl rfl (wXX_map T ad _ _) rfl (Nat.le_of_ble_eq_true rfl) dL_isStep_576 rfl ?_
  refine g_istore hX (lv' := [(10, .int (F_X4_count xv 23)), (9, .int (F_X4_count xv 11)), (8, .int b_563_2), (0, .ref (ad 0)), (1, .ref (bd 0)), (3, .int y), (4, .int wr), (5, .int co), (6, .int tu), (7, .int br)]) dL_isStep_579 (by decide) rfl ?_
  refine g_aload_n hX dL_isStep_581 rfl 3 rfl ?_
  obtain ⟨z_582, hz_582⟩ : ∃ z : Int32 × XV, z = F_X4_knot xv := ⟨_, rfl⟩
  refine g_pV_I hX (rest := wXX T bd yv) (n := 0) (As := []) (wc := wXX T ad xv) (w1 := wXX T ad z_582.2) (rv := z_582.1) (st := []) 0 rfl rfl (by rw [hz_582]; exact (c_X4_knot (xL X) T (xB X) ad xv hx)) gL_isStep_X4_knot rfl rfl rfl ⟨Nat.le_of_ble_eq_true rfl, Nat.le_of_ble_eq_true rfl⟩ ⟨Nat.zero_le _, Nat.zero_le _⟩ ⟨by decide +kernel, by decide +kernel, by decide +kernel⟩ rfl rfl (wXX_map T ad _ _) rfl (Nat.le_of_ble_eq_true rfl) dL_isStep_582 rfl ?_
  refine g_istore hX (lv' := [(11, .int z_582.1), (10, .int (F_X4_count xv 23)), (9, .int (F_X4_count xv 11)), (8, .int b_563_2), (0, .ref (ad 0)), (1, .ref (bd 0)), (3, .int y), (4, .int wr), (5, .int co), (6, .int tu), (7, .int br)]) dL_isStep_585 (by decide) rfl ?_
  refine g_iload hX dL_isStep_587 0 rfl ?_
  refine g_aload_n hX dL_isStep_589 rfl 5 rfl ?_
  obtain ⟨z_590, hz_590⟩ : ∃ z : Int32 × XV, z = F_X4_knot yv := ⟨_, rfl⟩
  refine g_sV_I hX (rest := wXX T ad z_582.2) (n := 0) (As := []) (wc := wXX T bd yv) (w1 := wXX T bd z_590.2) (rv := z_590.1) (st := [.int z_582.1]) rfl rfl (by rw [hz_590]; exact (c_X4_knot (xL X) T (xB X) bd yv hy)) gL_isStep_X4_knot rfl rfl rfl ⟨Nat.le_of_ble_eq_true rfl, Nat.le_of_ble_eq_true rfl⟩ ⟨Nat.zero_le _, Nat.zero_le _⟩ ⟨by decide +kernel, by decide +kernel, by decide +kernel⟩ rfl (wXX_map T bd _ _) rfl (Nat.le_of_ble_eq_true rfl) dL_isStep_590 ?_
  refine g_icmp_ne hX 683 dL_isStep_593 (by decide) (fun c_593 => ?_) (fun c_593 => ?_)
  · skip
    refine g_iconst hX (v := 0) dL_isStep_683 (by decide) ?_
    have e9 : K_L_isStep_548 xv yv p1 y wr co tu br = (0, z_582.2, z_590.2) := by first | (simp only [K_L_isStep_548, ← hb_563_2, ← hz_582, ← hz_590, eq_false c_593, if_true, if_false]; done) | (subst hb_563_2; simp only [K_L_isStep_548, ← hz_582, ← hz_590, eq_false c_593, if_true, if_false] <;> rfl)
    rw [e9]
    exact g_zret hX dL_isStep_684 rfl rfl rfl
  · skip
    refine g_iload hX dL_isStep_596 8 rfl ?_
    refine g_iload hX dL_isStep_598 1 rfl ?_
    refine g_icmp_ge hX 613 dL_isStep_600 (by decide) (fun c_600 => ?_) (fun c_600 => ?_)
    · skip
      refine g_iload hX dL_isStep_613 3 rfl ?_
      refine g_if_ne hX 628 dL_isStep_615 (by decide) (fun c_615 => ?_) (fun c_615 => ?_)
      · skip
        refine g_iload hX dL_isStep_628 0 rfl ?_
        refine g_iconst hX (v := 1) dL_isStep_630 (by decide) ?_
        refine g_icmp_lt hX 683 dL_isStep_631 (by decide) (fun c_631 => ?_) (fun c_631 => ?_)
        · skip
          refine g_iconst hX (v := 0) dL_isStep_683 (by decide) ?_
          have e9 : K_L_isStep_548 xv yv p1 y wr co tu br = (0, z_582.2, z_590.2) := by first | (simp only [K_L_isStep_548, ← hb_563_2, ← hz_582, ← hz_590, eq_true c_593, eq_true c_600, eq_false c_615, eq_true c_631, if_true, if_false]; done) | (subst hb_563_2; simp only [K_L_isStep_548, ← hz_582, ← hz_590, eq_true c_593, eq_true c_600, eq_false c_615, eq_true c_631, if_true, if_false] <;> rfl)
          rw [e9]
          exact g_zret hX dL_isStep_684 rfl rfl rfl
        · skip
          refine g_aload_n hX dL_isStep_634 rfl 4 rfl ?_
          refine g_bipush hX (v := 6) dL_isStep_635 (by decide) ?_
          refine g_pV_I hX (rest := wXX T bd z_590.2) (n := 1) (As := [.int 6]) (wc := wXX T ad z_582.2) (w1 := wXX T ad z_582.2) (rv := (F_X4_count z_582.2 6)) (st := []) 0 rfl rfl (c_X4_count (xL X) T (xB X) ad z_582.2 6) gL_isStep_X4_count rfl rfl rfl ⟨Nat.le_of_ble_eq_true rfl, Nat.le_of_ble_eq_true rfl⟩ ⟨Nat.zero_le _, Nat.zero_le _⟩ ⟨by decide +kernel, by decide +kernel, by decide +kernel⟩ rfl rfl (wXX_map T ad _ _) rfl (Nat.le_of_ble_eq_true rfl) dL_isStep_637 rfl ?_
          refine g_if_ne hX 683 dL_isStep_640 (by decide) (fun c_640 => ?_) (fun c_640 => ?_)
          · skip
            refine g_iconst hX (v := 0) dL_isStep_683 (by decide) ?_
            have e9 : K_L_isStep_548 xv yv p1 y wr co tu br = (0, z_582.2, z_590.2) := by first | (simp only [K_L_isStep_548, ← hb_563_2, ← hz_582, ← hz_590, eq_true c_593, eq_true c_600, eq_false c_615, eq_false c_631, eq_false c_640, if_true, if_false]; done) | (subst hb_563_2; simp only [K_L_isStep_548, ← hz_582, ← hz_590, eq_true c_593, eq_true c_600, eq_false c_615, eq_false c_631, eq_false c_640, if_true, if_false] <;> rfl)
            rw [e9]
            exact g_zret hX dL_isStep_684 rfl rfl rfl
          · skip
            refine g_aload_n hX dL_isStep_643 rfl 4 rfl ?_
            refine g_bipush hX (v := 11) dL_isStep_644 (by decide) ?_
            refine g_pV_I hX (rest := wXX T bd z_590.2) (n := 1) (As := [.int 11]) (wc := wXX T ad z_582.2) (w1 := wXX T ad z_582.2) (rv := (F_X4_count z_582.2 11)) (st := []) 0 rfl rfl (c_X4_count (xL X) T (xB X) ad z_582.2 11) gL_isStep_X4_count rfl rfl rfl ⟨Nat.le_of_ble_eq_true rfl, Nat.le_of_ble_eq_true rfl⟩ ⟨Nat.zero_le _, Nat.zero_le _⟩ ⟨by decide +kernel, by decide +kernel, by decide +kernel⟩ rfl rfl (wXX_map T ad _ _) rfl (Nat.le_of_ble_eq_true rfl) dL_isStep_646 rfl ?_
            refine g_iload hX dL_isStep_649 2 rfl ?_
            refine g_iconst hX (v := 1) dL_isStep_651 (by decide) ?_
            refine g_iadd hX dL_isStep_652 ?_
            refine g_icmp_ne hX 683 dL_isStep_653 (by decide) (fun c_653 => ?_) (fun c_653 => ?_)
            · skip
              refine g_iconst hX (v := 0) dL_isStep_683 (by decide) ?_
              have e9 : K_L_isStep_548 xv yv p1 y wr co tu br = (0, z_582.2, z_590.2) := by first | (simp only [K_L_isStep_548, ← hb_563_2, ← hz_582, ← hz_590, eq_true c_593, eq_true c_600, eq_false c_615, eq_false c_631, eq_true c_640, eq_false c_653, if_true, if_false]; done) | (subst hb_563_2; simp only [K_L_isStep_548, ← hz_582, ← hz_590, eq_true c_593, eq_true c_600, eq_false c_615, eq_false c_631, eq_true c_640, eq_false c_653, if_true, if_false] <;> rfl)
              rw [e9]
              exact g_zret hX dL_isStep_684 rfl rfl rfl
            · skip
              refine g_aload_n hX dL_isStep_656 rfl 4 rfl ?_
              refine g_iconst hX (v := 1) dL_isStep_657 (by decide) ?_
              refine g_pV_I hX (rest := wXX T bd z_590.2) (n := 1) (As := [.int 1]) (wc := wXX T ad z_582.2) (w1 := wXX T ad z_582.2) (rv := (F_X4_count z_582.2 1)) (st := []) 0 rfl rfl (c_X4_count (xL X) T (xB X) ad z_582.2 1) gL_isStep_X4_count rfl rfl rfl ⟨Nat.le_of_ble_eq_true rfl, Nat.le_of_ble_eq_true rfl⟩ ⟨Nat.zero_le _, Nat.zero_le _⟩ ⟨by decide +kernel, by decide +kernel, by decide +kernel⟩ rfl rfl (wXX_map T ad _ _) rfl (Nat.le_of_ble_eq_true rfl) dL_isStep_658 rfl ?_
              refine g_iload hX dL_isStep_661 8 rfl ?_
              refine g_iload hX dL_isStep_663 1 rfl ?_
              refine g_isub hX dL_isStep_665 ?_
              refine g_icmp_ne hX 683 dL_isStep_666 (by decide) (fun c_666 => ?_) (fun c_666 => ?_)
              · skip
                refine g_iconst hX (v := 0) dL_isStep_683 (by decide) ?_
                have e9 : K_L_isStep_548 xv yv p1 y wr co tu br = (0, z_582.2, z_590.2) := by first | (simp only [K_L_isStep_548, ← hb_563_2, ← hz_582, ← hz_590, eq_true c_593, eq_true c_600, eq_false c_615, eq_false c_631, eq_true c_640, eq_true c_653, eq_false c_666, if_true, if_false]; done) | (subst hb_563_2; simp only [K_L_isStep_548, ← hz_582, ← hz_590, eq_true c_593, eq_true c_600, eq_false c_615, eq_false c_631, eq_true c_640, eq_true c_653, eq_false c_666, if_true, if_false] <;> rfl)
                rw [e9]
                exact g_zret hX dL_isStep_684 rfl rfl rfl
              · skip
                refine g_aload_n hX dL_isStep_669 rfl 4 rfl ?_
                refine g_iconst hX (v := 0) dL_isStep_670 (by decide) ?_
                refine g_pV_I hX (rest := wXX T bd z_590.2) (n := 1) (As := [.int 0]) (wc := wXX T ad z_582.2) (w1 := wXX T ad z_582.2) (rv := (F_X4_count z_582.2 0)) (st := []) 0 rfl rfl (c_X4_count (xL X) T (xB X) ad z_582.2 0) gL_isStep_X4_count rfl rfl rfl ⟨Nat.le_of_ble_eq_true rfl, Nat.le_of_ble_eq_true rfl⟩ ⟨Nat.zero_le _, Nat.zero_le _⟩ ⟨by decide +kernel, by decide +kernel, by decide +kernel⟩ rfl rfl (wXX_map T ad _ _) rfl (Nat.le_of_ble_eq_true rfl) dL_isStep_671 rfl ?_
                refine g_iload hX dL_isStep_674 7 rfl ?_
                refine g_icmp_ne hX 683 dL_isStep_676 (by decide) (fun c_676 => ?_) (fun c_676 => ?_)
                · skip
                  refine g_iconst hX (v := 0) dL_isStep_683 (by decide) ?_
                  have e9 : K_L_isStep_548 xv yv p1 y wr co tu br = (0, z_582.2, z_590.2) := by first | (simp only [K_L_isStep_548, ← hb_563_2, ← hz_582, ← hz_590, eq_true c_593, eq_true c_600, eq_false c_615, eq_false c_631, eq_true c_640, eq_true c_653, eq_true c_666, eq_false c_676, if_true, if_false]; done) | (subst hb_563_2; simp only [K_L_isStep_548, ← hz_582, ← hz_590, eq_true c_593, eq_true c_600, eq_false c_615, eq_false c_631, eq_true c_640, eq_true c_653, eq_true c_666, eq_false c_676, if_true, if_false] <;> rfl)
                  rw [e9]
                  exact g_zret hX dL_isStep_684 rfl rfl rfl
                · skip
                  refine g_iconst hX (v := 1) dL_isStep_679 (by decide) ?_
                  refine g_goto hX 684 dL_isStep_680 (by decide) ?_
                  have e9 : K_L_isStep_548 xv yv p1 y wr co tu br = (1, z_582.2, z_590.2) := by first | (simp only [K_L_isStep_548, ← hb_563_2, ← hz_582, ← hz_590, eq_true c_593, eq_true c_600, eq_false c_615, eq_false c_631, eq_true c_640, eq_true c_653, eq_true c_666, eq_true c_676, if_true, if_false]; done) | (subst hb_563_2; simp only [K_L_isStep_548, ← hz_582, ← hz_590, eq_true c_593, eq_true c_600, eq_false c_615, eq_false c_631, eq_true c_640, eq_true c_653, eq_true c_666, eq_true c_676, if_true, if_false] <;> rfl)
                  rw [e9]
                  exact g_zret hX dL_isStep_684 rfl rfl rfl
      · skip
        refine g_iload hX dL_isStep_618 0 rfl ?_
        refine g_bipush hX (v := (-5)) dL_isStep_620 (by decide) ?_
        refine g_icmp_ne hX 683 dL_isStep_622 (by decide) (fun c_622 => ?_) (fun c_622 => ?_)
        · skip
          refine g_iconst hX (v := 0) dL_isStep_683 (by decide) ?_
          have e9 : K_L_isStep_548 xv yv p1 y wr co tu br = (0, z_582.2, z_590.2) := by first | (simp only [K_L_isStep_548, ← hb_563_2, ← hz_582, ← hz_590, eq_true c_593, eq_true c_600, eq_true c_615, eq_false c_622, if_true, if_false]; done) | (subst hb_563_2; simp only [K_L_isStep_548, ← hz_582, ← hz_590, eq_true c_593, eq_true c_600, eq_true c_615, eq_false c_622, if_true, if_false] <;> rfl)
          rw [e9]
          exact g_zret hX dL_isStep_684 rfl rfl rfl
        · skip
          refine g_goto hX 679 dL_isStep_625 (by decide) ?_
          refine g_iconst hX (v := 1) dL_isStep_679 (by decide) ?_
          refine g_goto hX 684 dL_isStep_680 (by decide) ?_
          have e9 : K_L_isStep_548 xv yv p1 y wr co tu br = (1, z_582.2, z_590.2) := by first | (simp only [K_L_isStep_548, ← hb_563_2, ← hz_582, ← hz_590, eq_true c_593, eq_true c_600, eq_true c_615, eq_true c_622, if_true, if_false]; done) | (subst hb_563_2; simp only [K_L_isStep_548, ← hz_582, ← hz_590, eq_true c_593, eq_true c_600, eq_true c_615, eq_true c_622, if_true, if_false] <;> rfl)
          rw [e9]
          exact g_zret hX dL_isStep_684 rfl rfl rfl
    · skip
      refine g_iload hX dL_isStep_603 0 rfl ?_
      refine g_bipush hX (v := (-4)) dL_isStep_605 (by decide) ?_
      refine g_icmp_ne hX 683 dL_isStep_607 (by decide) (fun c_607 => ?_) (fun c_607 => ?_)
      · skip
        refine g_iconst hX (v := 0) dL_isStep_683 (by decide) ?_
        have e9 : K_L_isStep_548 xv yv p1 y wr co tu br = (0, z_582.2, z_590.2) := by first | (simp only [K_L_isStep_548, ← hb_563_2, ← hz_582, ← hz_590, eq_true c_593, eq_false c_600, eq_false c_607, if_true, if_false]; done) | (subst hb_563_2; simp only [K_L_isStep_548, ← hz_582, ← hz_590, eq_true c_593, eq_false c_600, eq_false c_607, if_true, if_false] <;> rfl)
        rw [e9]
        exact g_zret hX dL_isStep_684 rfl rfl rfl
      · skip
        refine g_goto hX 679 dL_isStep_610 (by decide) ?_
        refine g_iconst hX (v := 1) dL_isStep_679 (by decide) ?_
        refine g_goto hX 684 dL_isStep_680 (by decide) ?_
        have e9 : K_L_isStep_548 xv yv p1 y wr co tu br = (1, z_582.2, z_590.2) := by first | (simp only [K_L_isStep_548, ← hb_563_2, ← hz_582, ← hz_590, eq_true c_593, eq_false c_600, eq_true c_607, if_true, if_false]; done) | (subst hb_563_2; simp only [K_L_isStep_548, ← hz_582, ← hz_590, eq_true c_593, eq_false c_600, eq_true c_607, if_true, if_false] <;> rfl)
        rw [e9]
        exact g_zret hX dL_isStep_684 rfl rfl rfl
set_option maxHeartbeats 4000000 in
set_option maxRecDepth 100000 in
theorem k_L_isStep_418 {T : TT} {X : CX} (hX : Fit T X (yL_isStep).cls 16 wsL_isStep cL_isStep (some .boolean) rmL_isStep) (ad bd : Nat → Nat) (xv : XV) (yv : XV) (p1 : Int32) (y : Int32) (wr : Int32) (co : Int32) (tu : Int32) (br : Int32) (hx : xWF xv) (hy : xWF yv) : G T X (QI T X 0 0 ((K_L_isStep_418 xv yv p1 y wr co tu br).1) (wXX T ad ((K_L_isStep_418 xv yv p1 y wr co tu br).2.1) ++ wXX T bd ((K_L_isStep_418 xv yv p1 y wr co tu br).2.2))) 0 0 (wXX T ad xv ++ wXX T bd yv) [(0, .ref (ad 0)), (1, .ref (bd 0)), (3, .int y), (4, .int wr), (5, .int co), (6, .int tu), (7, .int br)] 418 [] := by
  refine g_iload_n hX dL_isStep_418 rfl 2 rfl ?_
  refine g_iconst hX (v := 5) dL_isStep_419 (by decide) ?_
  refine g_cS_I hX (n := 2) (As := [.int y, .int 5]) (wc := []) (w1 := []) (rv := (F_L_up y 5)) (st := []) (c_L_up (xL X) T (xB X) y 5 (by decide)) gL_isStep_L_up rfl rfl rfl ⟨Nat.le_of_ble_eq_true rfl, Nat.le_of_ble_eq_true rfl⟩ ⟨Nat.zero_le _, Nat.zero_le _⟩ ⟨by decide +kernel, by decide +kernel, by decide +kernel⟩ rfl [] rfl rfl (by decide) rfl (Nat.le_of_ble_eq_true rfl) dL_isStep_420 (ws' := wXX T ad xv ++ wXX T bd yv) rfl ?_
  refine g_istore hX (lv' := [(8, .int (F_L_up y 5)), (0, .ref (ad 0)), (1, .ref (bd 0)), (3, .int y), (4, .int wr), (5, .int co), (6, .int tu), (7, .int br)]) dL_isStep_423 (by decide) rfl ?_
  obtain ⟨b_507_3, hb_507_3⟩ : ∃ z : Int32, z = (if (F_L_up y 5) = 0 then (1 + (F_L_up (y >>> ((3 : Int32) &&& 31)) 11)) else (if (F_L_up y 5) = 1 then (F_L_up (y >>> ((3 : Int32) &&& 31)) 10) else (if (F_L_up y 5) = 2 then (F_L_up (y >>> ((3 : Int32) &&& 31)) 6) else (if (F_L_up y 5) = 3 then (5 + (F_L_up (y >>> ((3 : Int32) &&& 31)) 46)) else (10 + (F_L_up (y >>> ((3 : Int32) &&& 31)) 90)))))) := ⟨_, rfl⟩
  refine g_join 507 (.int b_507_3 :: []) (fun hJ => ?_) ?_
  · skip
    refine g_iload hX dL_isStep_425 0 rfl ?_
    refine g_if_ne hX 443 dL_isStep_427 (by decide) (fun c_427 => ?_) (fun c_427 => ?_)
    · skip
      refine g_iload hX dL_isStep_443 0 rfl ?_
      refine g_iconst hX (v := 1) dL_isStep_445 (by decide) ?_
      refine g_icmp_ne hX 460 dL_isStep_446 (by decide) (fun c_446 => ?_) (fun c_446 => ?_)
      · skip
        refine g_iload hX dL_isStep_460 0 rfl ?_
        refine g_iconst hX (v := 2) dL_isStep_462 (by decide) ?_
        refine g_icmp_ne hX 477 dL_isStep_463 (by decide) (fun c_463 => ?_) (fun c_463 => ?_)
        · skip
          refine g_iload hX dL_isStep_477 0 rfl ?_
          refine g_iconst hX (v := 3) dL_isStep_479 (by decide) ?_
          refine g_icmp_ne hX 496 dL_isStep_480 (by decide) (fun c_480 => ?_) (fun c_480 => ?_)
          · skip
            refine g_bipush hX (v := 10) dL_isStep_496 (by decide) ?_
            refine g_iload_n hX dL_isStep_498 rfl 3 rfl ?_
            refine g_iconst hX (v := 3) dL_isStep_499 (by decide) ?_
            refine g_ishr hX dL_isStep_500 ?_
            refine g_bipush hX (v := 90) dL_isStep_501 (by decide) ?_
            refine g_cS_I hX (n := 2) (As := [.int (y >>> ((3 : Int32) &&& 31)), .int 90]) (wc := []) (w1 := []) (rv := (F_L_up (y >>> ((3 : Int32) &&& 31)) 90)) (st := [.int 10]) (c_L_up (xL X) T (xB X) (y >>> ((3 : Int32) &&& 31)) 90 (by decide)) gL_isStep_L_up rfl rfl rfl ⟨Nat.le_of_ble_eq_true rfl, Nat.le_of_ble_eq_true rfl⟩ ⟨Nat.zero_le _, Nat.zero_le _⟩ ⟨by decide +kernel, by decide +kernel, by decide +kernel⟩ rfl [] rfl rfl (by decide) rfl (Nat.le_of_ble_eq_true rfl) dL_isStep_503 (ws' := wXX T ad xv ++ wXX T bd yv) rfl ?_
            refine g_iadd hX dL_isStep_506 ?_
            have e8 : b_507_3 = (10 + (F_L_up (y >>> ((3 : Int32) &&& 31)) 90)) := by rw [hb_507_3]; simp only [eq_false c_427, eq_false c_446, eq_false c_463, eq_false c_480, if_true, if_false]
            rw [e8] at hJ
            exact hJ
          · skip
            refine g_iconst hX (v := 5) dL_isStep_483 (by decide) ?_
            refine g_iload_n hX dL_isStep_484 rfl 3 rfl ?_
            refine g_iconst hX (v := 3) dL_isStep_485 (by decide) ?_
            refine g_ishr hX dL_isStep_486 ?_
            refine g_bipush hX (v := 46) dL_isStep_487 (by decide) ?_
            refine g_cS_I hX (n := 2) (As := [.int (y >>> ((3 : Int32) &&& 31)), .int 46]) (wc := []) (w1 := []) (rv := (F_L_up (y >>> ((3 : Int32) &&& 31)) 46)) (st := [.int 5]) (c_L_up (xL X) T (xB X) (y >>> ((3 : Int32) &&& 31)) 46 (by decide)) gL_isStep_L_up rfl rfl rfl ⟨Nat.le_of_ble_eq_true rfl, Nat.le_of_ble_eq_true rfl⟩ ⟨Nat.zero_le _, Nat.zero_le _⟩ ⟨by decide +kernel, by decide +kernel, by decide +kernel⟩ rfl [] rfl rfl (by decide) rfl (Nat.le_of_ble_eq_true rfl) dL_isStep_489 (ws' := wXX T ad xv ++ wXX T bd yv) rfl ?_
            refine g_iadd hX dL_isStep_492 ?_
            refine g_goto hX 507 dL_isStep_493 (by decide) ?_
            have e8 : b_507_3 = (5 + (F_L_up (y >>> ((3 : Int32) &&& 31)) 46)) := by rw [hb_507_3]; simp only [eq_false c_427, eq_false c_446, eq_false c_463, eq_true c_480, if_true, if_false]
            rw [e8] at hJ
            exact hJ
        · skip
          refine g_iload_n hX dL_isStep_466 rfl 3 rfl ?_
          refine g_iconst hX (v := 3) dL_isStep_467 (by decide) ?_
          refine g_ishr hX dL_isStep_468 ?_
          refine g_bipush hX (v := 6) dL_isStep_469 (by decide) ?_
          refine g_cS_I hX (n := 2) (As := [.int (y >>> ((3 : Int32) &&& 31)), .int 6]) (wc := []) (w1 := []) (rv := (F_L_up (y >>> ((3 : Int32) &&& 31)) 6)) (st := []) (c_L_up (xL X) T (xB X) (y >>> ((3 : Int32) &&& 31)) 6 (by decide)) gL_isStep_L_up rfl rfl rfl ⟨Nat.le_of_ble_eq_true rfl, Nat.le_of_ble_eq_true rfl⟩ ⟨Nat.zero_le _, Nat.zero_le _⟩ ⟨by decide +kernel, by decide +kernel, by decide +kernel⟩ rfl [] rfl rfl (by decide) rfl (Nat.le_of_ble_eq_true rfl) dL_isStep_471 (ws' := wXX T ad xv ++ wXX T bd yv) rfl ?_
          refine g_goto hX 507 dL_isStep_474 (by decide) ?_
          have e8 : b_507_3 = (F_L_up (y >>> ((3 : Int32) &&& 31)) 6) := by rw [hb_507_3]; simp only [eq_false c_427, eq_false c_446, eq_true c_463, if_true, if_false]
          rw [e8] at hJ
          exact hJ
      · skip
        refine g_iload_n hX dL_isStep_449 rfl 3 rfl ?_
        refine g_iconst hX (v := 3) dL_isStep_450 (by decide) ?_
        refine g_ishr hX dL_isStep_451 ?_
        refine g_bipush hX (v := 10) dL_isStep_452 (by decide) ?_
        refine g_cS_I hX (n := 2) (As := [.int (y >>> ((3 : Int32) &&& 31)), .int 10]) (wc := []) (w1 := []) (rv := (F_L_up (y >>> ((3 : Int32) &&& 31)) 10)) (st := []) (c_L_up (xL X) T (xB X) (y >>> ((3 : Int32) &&& 31)) 10 (by decide)) gL_isStep_L_up rfl rfl rfl ⟨Nat.le_of_ble_eq_true rfl, Nat.le_of_ble_eq_true rfl⟩ ⟨Nat.zero_le _, Nat.zero_le _⟩ ⟨by decide +kernel, by decide +kernel, by decide +kernel⟩ rfl [] rfl rfl (by decide) rfl (Nat.le_of_ble_eq_true rfl) dL_isStep_454 (ws' := wXX T ad xv ++ wXX T bd yv) rfl ?_
        refine g_goto hX 507 dL_isStep_457 (by decide) ?_
        have e8 : b_507_3 = (F_L_up (y >>> ((3 : Int32) &&& 31)) 10) := by rw [hb_507_3]; simp only [eq_false c_427, eq_true c_446, if_true, if_false]
        rw [e8] at hJ
        exact hJ
    · skip
      refine g_iconst hX (v := 1) dL_isStep_430 (by decide) ?_
      refine g_iload_n hX dL_isStep_431 rfl 3 rfl ?_
      refine g_iconst hX (v := 3) dL_isStep_432 (by decide) ?_
      refine g_ishr hX dL_isStep_433 ?_
      refine g_bipush hX (v := 11) dL_isStep_434 (by decide) ?_
      refine g_cS_I hX (n := 2) (As := [.int (y >>> ((3 : Int32) &&& 31)), .int 11]) (wc := []) (w1 := []) (rv := (F_L_up (y >>> ((3 : Int32) &&& 31)) 11)) (st := [.int 1]) (c_L_up (xL X) T (xB X) (y >>> ((3 : Int32) &&& 31)) 11 (by decide)) gL_isStep_L_up rfl rfl rfl ⟨Nat.le_of_ble_eq_true rfl, Nat.le_of_ble_eq_true rfl⟩ ⟨Nat.zero_le _, Nat.zero_le _⟩ ⟨by decide +kernel, by decide +kernel, by decide +kernel⟩ rfl [] rfl rfl (by decide) rfl (Nat.le_of_ble_eq_true rfl) dL_isStep_436 (ws' := wXX T ad xv ++ wXX T bd yv) rfl ?_
      refine g_iadd hX dL_isStep_439 ?_
      refine g_goto hX 507 dL_isStep_440 (by decide) ?_
      have e8 : b_507_3 = (1 + (F_L_up (y >>> ((3 : Int32) &&& 31)) 11)) := by rw [hb_507_3]; simp only [eq_true c_427, if_true, if_false]
      rw [e8] at hJ
      exact hJ
  refine g_istore hX (lv' := [(9, .int b_507_3), (8, .int (F_L_up y 5)), (0, .ref (ad 0)), (1, .ref (bd 0)), (3, .int y), (4, .int wr), (5, .int co), (6, .int tu), (7, .int br)]) dL_isStep_507 (by decide) rfl ?_
  refine g_aload_n hX dL_isStep_509 rfl 2 rfl ?_
  refine g_iload hX dL_isStep_510 1 rfl ?_
  refine g_iload hX dL_isStep_512 0 rfl ?_
  obtain ⟨z_514, hz_514⟩ : ∃ z : Int32 × XV, z = F_X4_set xv (F_L_up y 5) b_507_3 := ⟨_, rfl⟩
  refine g_pV_I hX (rest := wXX T bd yv) (n := 2) (As := [.int (F_L_up y 5), .int b_507_3]) (wc := wXX T ad xv) (w1 := wXX T ad z_514.2) (rv := z_514.1) (st := []) 0 rfl rfl (by rw [hz_514]; exact (c_X4_set (xL X) T (xB X) ad xv (F_L_up y 5) b_507_3 hx)) gL_isStep_X4_set rfl rfl rfl ⟨Nat.le_of_ble_eq_true rfl, Nat.le_of_ble_eq_true rfl⟩ ⟨Nat.zero_le _, Nat.zero_le _⟩ ⟨by decide +kernel, by decide +kernel, by decide +kernel⟩ rfl rfl (wXX_map T ad _ _) rfl (Nat.le_of_ble_eq_true rfl) dL_isStep_514 rfl ?_
  refine g_aload_n hX dL_isStep_517 rfl 3 rfl ?_
  refine g_iload hX dL_isStep_518 1 rfl ?_
  refine g_iload hX dL_isStep_520 0 rfl ?_
  obtain ⟨z_522, hz_522⟩ : ∃ z : Int32 × XV, z = F_X4_set yv (F_L_up y 5) b_507_3 := ⟨_, rfl⟩
  refine g_sV_I hX (rest := wXX T ad z_514.2) (n := 2) (As := [.int (F_L_up y 5), .int b_507_3]) (wc := wXX T bd yv) (w1 := wXX T bd z_522.2) (rv := z_522.1) (st := [.int z_514.1]) rfl rfl (by rw [hz_522]; exact (c_X4_set (xL X) T (xB X) bd yv (F_L_up y 5) b_507_3 hy)) gL_isStep_X4_set rfl rfl rfl ⟨Nat.le_of_ble_eq_true rfl, Nat.le_of_ble_eq_true rfl⟩ ⟨Nat.zero_le _, Nat.zero_le _⟩ ⟨by decide +kernel, by decide +kernel, by decide +kernel⟩ rfl (wXX_map T bd _ _) rfl (Nat.le_of_ble_eq_true rfl) dL_isStep_522 ?_
  refine g_icmp_ne hX 546 dL_isStep_525 (by decide) (fun c_525 => ?_) (fun c_525 => ?_)
  · skip
    refine g_iconst hX (v := 0) dL_isStep_546 (by decide) ?_
    have e9 : K_L_isStep_418 xv yv p1 y wr co tu br = (0, z_514.2, z_522.2) := by first | (simp only [K_L_isStep_418, ← hb_507_3, ← hz_514, ← hz_522, eq_false c_525, if_true, if_false]; done) | (subst hb_507_3; simp only [K_L_isStep_418, ← hz_514, ← hz_522, eq_false c_525, if_true, if_false] <;> rfl)
    rw [e9]
    exact g_zret hX dL_isStep_547 rfl rfl rfl
  · skip
    refine g_aload_n hX dL_isStep_528 rfl 2 rfl ?_
    refine g_bipush hX (v := 20) dL_isStep_529 (by decide) ?_
    refine g_iload hX dL_isStep_531 1 rfl ?_
    refine g_iadd hX dL_isStep_533 ?_
    refine g_pV_I hX (rest := wXX T bd z_522.2) (n := 1) (As := [.int (20 + (F_L_up y 5))]) (wc := wXX T ad z_514.2) (w1 := wXX T ad z_514.2) (rv := (F_X4_count z_514.2 (20 + (F_L_up y 5)))) (st := []) 0 rfl rfl (c_X4_count (xL X) T (xB X) ad z_514.2 (20 + (F_L_up y 5))) gL_isStep_X4_count rfl rfl rfl ⟨Nat.le_of_ble_eq_true rfl, Nat.le_of_ble_eq_true rfl⟩ ⟨Nat.zero_le _, Nat.zero_le _⟩ ⟨by decide +kernel, by decide +kernel, by decide +kernel⟩ rfl rfl (wXX_map T ad _ _) rfl (Nat.le_of_ble_eq_true rfl) dL_isStep_534 rfl ?_
    refine g_iload hX dL_isStep_537 0 rfl ?_
    refine g_icmp_ne hX 546 dL_isStep_539 (by decide) (fun c_539 => ?_) (fun c_539 => ?_)
    · skip
      refine g_iconst hX (v := 0) dL_isStep_546 (by decide) ?_
      have e9 : K_L_isStep_418 xv yv p1 y wr co tu br = (0, z_514.2, z_522.2) := by first | (simp only [K_L_isStep_418, ← hb_507_3, ← hz_514, ← hz_522, eq_true c_525, eq_false c_539, if_true, if_false]; done) | (subst hb_507_3; simp only [K_L_isStep_418, ← hz_514, ← hz_522, eq_true c_525, eq_false c_539, if_true, if_false] <;> rfl)
      rw [e9]
      exact g_zret hX dL_isStep_547 rfl rfl rfl
    · skip
      refine g_iconst hX (v := 1) dL_isStep_542 (by decide) ?_
      refine g_goto hX 547 dL_isStep_543 (by decide) ?_
      have e9 : K_L_isStep_418 xv yv p1 y wr co tu br = (1, z_514.2, z_522.2) := by first | (simp only [K_L_isStep_418, ← hb_507_3, ← hz_514, ← hz_522, eq_true c_525, eq_true c_539, if_true, if_false]; done) | (subst hb_507_3; simp only [K_L_isStep_418, ← hz_514, ← hz_522, eq_true c_525, eq_true c_539, if_true, if_false] <;> rfl)
      rw [e9]
      exact g_zret hX dL_isStep_547 rfl rfl rfl
set_option maxHeartbeats 4000000 in
set_option maxRecDepth 100000 in
theorem k_L_isStep_313 {T : TT} {X : CX} (hX : Fit T X (yL_isStep).cls 16 wsL_isStep cL_isStep (some .boolean) rmL_isStep) (ad bd : Nat → Nat) (xv : XV) (yv : XV) (p1 : Int32) (wr : Int32) (co : Int32) (tu : Int32) (idl : Int32) (tol : Int32) (lai : Int32) (e : Int32)  : G T X (QI T X 0 0 ((K_L_isStep_313 xv yv p1 wr co tu idl tol lai e).1) (wXX T ad ((K_L_isStep_313 xv yv p1 wr co tu idl tol lai e).2.1) ++ wXX T bd ((K_L_isStep_313 xv yv p1 wr co tu idl tol lai e).2.2))) 0 0 (wXX T ad xv ++ wXX T bd yv) [(0, .ref (ad 0)), (1, .ref (bd 0)), (4, .int wr), (5, .int co), (6, .int tu), (9, .int idl), (10, .int tol), (11, .int lai), (12, .int e)] 313 [] := by
  refine g_aload_n hX dL_isStep_313 rfl 0 rfl ?_
  refine g_bipush hX (v := 12) dL_isStep_314 (by decide) ?_
  refine g_pV_I hX (rest := wXX T bd yv) (n := 1) (As := [.int 12]) (wc := wXX T ad xv) (w1 := wXX T ad xv) (rv := (F_X4_count xv 12)) (st := []) 0 rfl rfl (c_X4_count (xL X) T (xB X) ad xv 12) gL_isStep_X4_count rfl rfl rfl ⟨Nat.le_of_ble_eq_true rfl, Nat.le_of_ble_eq_true rfl⟩ ⟨Nat.zero_le _, Nat.zero_le _⟩ ⟨by decide +kernel, by decide +kernel, by decide +kernel⟩ rfl rfl (wXX_map T ad _ _) rfl (Nat.le_of_ble_eq_true rfl) dL_isStep_316 rfl ?_
  refine g_iload hX dL_isStep_319 4 rfl ?_
  refine g_isub hX dL_isStep_321 ?_
  refine g_istore hX (lv' := [(13, .int ((F_X4_count xv 12) - tu)), (0, .ref (ad 0)), (1, .ref (bd 0)), (4, .int wr), (5, .int co), (6, .int tu), (9, .int idl), (10, .int tol), (11, .int lai), (12, .int e)]) dL_isStep_322 (by decide) rfl ?_
  refine g_iload hX dL_isStep_324 9 rfl ?_
  refine g_if_eq hX 416 dL_isStep_326 (by decide) (fun c_326 => ?_) (fun c_326 => ?_)
  · skip
    refine g_iconst hX (v := 0) dL_isStep_416 (by decide) ?_
    have e9 : K_L_isStep_313 xv yv p1 wr co tu idl tol lai e = (0, xv, yv) := by simp only [K_L_isStep_313, eq_true c_326, if_true, if_false]
    rw [e9]
    exact g_zret hX dL_isStep_417 rfl rfl rfl
  · skip
    refine g_iload hX dL_isStep_329 6 rfl ?_
    refine g_if_eq hX 354 dL_isStep_331 (by decide) (fun c_331 => ?_) (fun c_331 => ?_)
    · skip
      refine g_iload hX dL_isStep_354 7 rfl ?_
      refine g_iload hX dL_isStep_356 8 rfl ?_
      refine g_icmp_ne hX 416 dL_isStep_358 (by decide) (fun c_358 => ?_) (fun c_358 => ?_)
      · skip
        refine g_iconst hX (v := 0) dL_isStep_416 (by decide) ?_
        have e9 : K_L_isStep_313 xv yv p1 wr co tu idl tol lai e = (0, xv, yv) := by simp only [K_L_isStep_313, eq_false c_326, eq_true c_331, eq_false c_358, if_true, if_false]
        rw [e9]
        exact g_zret hX dL_isStep_417 rfl rfl rfl
      · skip
        refine g_iload hX dL_isStep_361 0 rfl ?_
        refine g_iload hX dL_isStep_363 7 rfl ?_
        refine g_icmp_lt hX 416 dL_isStep_365 (by decide) (fun c_365 => ?_) (fun c_365 => ?_)
        · skip
          refine g_iconst hX (v := 0) dL_isStep_416 (by decide) ?_
          have e9 : K_L_isStep_313 xv yv p1 wr co tu idl tol lai e = (0, xv, yv) := by simp only [K_L_isStep_313, eq_false c_326, eq_true c_331, eq_true c_358, eq_true c_365, if_true, if_false]
          rw [e9]
          exact g_zret hX dL_isStep_417 rfl rfl rfl
        · skip
          refine g_iload hX dL_isStep_368 0 rfl ?_
          refine g_iload hX dL_isStep_370 7 rfl ?_
          refine g_iconst hX (v := 1) dL_isStep_372 (by decide) ?_
          refine g_iadd hX dL_isStep_373 ?_
          refine g_icmp_gt hX 416 dL_isStep_374 (by decide) (fun c_374 => ?_) (fun c_374 => ?_)
          · skip
            refine g_iconst hX (v := 0) dL_isStep_416 (by decide) ?_
            have e9 : K_L_isStep_313 xv yv p1 wr co tu idl tol lai e = (0, xv, yv) := by simp only [K_L_isStep_313, eq_false c_326, eq_true c_331, eq_true c_358, eq_false c_365, eq_true c_374, if_true, if_false]
            rw [e9]
            exact g_zret hX dL_isStep_417 rfl rfl rfl
          · skip
            refine g_iload hX dL_isStep_377 0 rfl ?_
            refine g_iconst hX (v := 1) dL_isStep_379 (by decide) ?_
            refine g_icmp_lt hX 416 dL_isStep_380 (by decide) (fun c_380 => ?_) (fun c_380 => ?_)
            · skip
              refine g_iconst hX (v := 0) dL_isStep_416 (by decide) ?_
              have e9 : K_L_isStep_313 xv yv p1 wr co tu idl tol lai e = (0, xv, yv) := by simp only [K_L_isStep_313, eq_false c_326, eq_true c_331, eq_true c_358, eq_false c_365, eq_false c_374, eq_true c_380, if_true, if_false]
              rw [e9]
              exact g_zret hX dL_isStep_417 rfl rfl rfl
            · skip
              refine g_aload_n hX dL_isStep_383 rfl 1 rfl ?_
              refine g_iconst hX (v := 0) dL_isStep_384 (by decide) ?_
              refine g_pV_I hX (rest := wXX T bd yv) (n := 1) (As := [.int 0]) (wc := wXX T ad xv) (w1 := wXX T ad xv) (rv := (F_X4_count xv 0)) (st := []) 0 rfl rfl (c_X4_count (xL X) T (xB X) ad xv 0) gL_isStep_X4_count rfl rfl rfl ⟨Nat.le_of_ble_eq_true rfl, Nat.le_of_ble_eq_true rfl⟩ ⟨Nat.zero_le _, Nat.zero_le _⟩ ⟨by decide +kernel, by decide +kernel, by decide +kernel⟩ rfl rfl (wXX_map T ad _ _) rfl (Nat.le_of_ble_eq_true rfl) dL_isStep_385 rfl ?_
              refine g_iload hX dL_isStep_388 3 rfl ?_
              refine g_iload hX dL_isStep_390 7 rfl ?_
              refine g_iadd hX dL_isStep_392 ?_
              refine g_icmp_ne hX 416 dL_isStep_393 (by decide) (fun c_393 => ?_) (fun c_393 => ?_)
              · skip
                refine g_iconst hX (v := 0) dL_isStep_416 (by decide) ?_
                have e9 : K_L_isStep_313 xv yv p1 wr co tu idl tol lai e = (0, xv, yv) := by simp only [K_L_isStep_313, eq_false c_326, eq_true c_331, eq_true c_358, eq_false c_365, eq_false c_374, eq_false c_380, eq_false c_393, if_true, if_false]
                rw [e9]
                exact g_zret hX dL_isStep_417 rfl rfl rfl
              · skip
                refine g_aload_n hX dL_isStep_396 rfl 1 rfl ?_
                refine g_iconst hX (v := 1) dL_isStep_397 (by decide) ?_
                refine g_pV_I hX (rest := wXX T bd yv) (n := 1) (As := [.int 1]) (wc := wXX T ad xv) (w1 := wXX T ad xv) (rv := (F_X4_count xv 1)) (st := []) 0 rfl rfl (c_X4_count (xL X) T (xB X) ad xv 1) gL_isStep_X4_count rfl rfl rfl ⟨Nat.le_of_ble_eq_true rfl, Nat.le_of_ble_eq_true rfl⟩ ⟨Nat.zero_le _, Nat.zero_le _⟩ ⟨by decide +kernel, by decide +kernel, by decide +kernel⟩ rfl rfl (wXX_map T ad _ _) rfl (Nat.le_of_ble_eq_true rfl) dL_isStep_398 rfl ?_
                refine g_iload hX dL_isStep_401 4 rfl ?_
                refine g_bipush hX (v := 10) dL_isStep_403 (by decide) ?_
                refine g_iload hX dL_isStep_405 7 rfl ?_
                refine g_imul hX dL_isStep_407 ?_
                refine g_isub hX dL_isStep_408 ?_
                refine g_icmp_gt hX 416 dL_isStep_409 (by decide) (fun c_409 => ?_) (fun c_409 => ?_)
                · skip
                  refine g_iconst hX (v := 0) dL_isStep_416 (by decide) ?_
                  have e9 : K_L_isStep_313 xv yv p1 wr co tu idl tol lai e = (0, xv, yv) := by simp only [K_L_isStep_313, eq_false c_326, eq_true c_331, eq_true c_358, eq_false c_365, eq_false c_374, eq_false c_380, eq_true c_393, eq_true c_409, if_true, if_false]
                  rw [e9]
                  exact g_zret hX dL_isStep_417 rfl rfl rfl
                · skip
                  refine g_iconst hX (v := 1) dL_isStep_412 (by decide) ?_
                  refine g_goto hX 417 dL_isStep_413 (by decide) ?_
                  have e9 : K_L_isStep_313 xv yv p1 wr co tu idl tol lai e = (1, xv, yv) := by simp only [K_L_isStep_313, eq_false c_326, eq_true c_331, eq_true c_358, eq_false c_365, eq_false c_374, eq_false c_380, eq_true c_393, eq_false c_409, if_true, if_false]
                  rw [e9]
                  exact g_zret hX dL_isStep_417 rfl rfl rfl
    · skip
      refine g_iload hX dL_isStep_334 7 rfl ?_
      refine g_bipush hX (v := (-5)) dL_isStep_336 (by decide) ?_
      refine g_icmp_ne hX 416 dL_isStep_338 (by decide) (fun c_338 => ?_) (fun c_338 => ?_)
      · skip
        refine g_iconst hX (v := 0) dL_isStep_416 (by decide) ?_
        have e9 : K_L_isStep_313 xv yv p1 wr co tu idl tol lai e = (0, xv, yv) := by simp only [K_L_isStep_313, eq_false c_326, eq_false c_331, eq_false c_338, if_true, if_false]
        rw [e9]
        exact g_zret hX dL_isStep_417 rfl rfl rfl
      · skip
        refine g_iload hX dL_isStep_341 8 rfl ?_
        refine g_if_ne hX 416 dL_isStep_343 (by decide) (fun c_343 => ?_) (fun c_343 => ?_)
        · skip
          refine g_iconst hX (v := 0) dL_isStep_416 (by decide) ?_
          have e9 : K_L_isStep_313 xv yv p1 wr co tu idl tol lai e = (0, xv, yv) := by simp only [K_L_isStep_313, eq_false c_326, eq_false c_331, eq_true c_338, eq_false c_343, if_true, if_false]
          rw [e9]
          exact g_zret hX dL_isStep_417 rfl rfl rfl
        · skip
          refine g_iload hX dL_isStep_346 0 rfl ?_
          refine g_if_ne hX 416 dL_isStep_348 (by decide) (fun c_348 => ?_) (fun c_348 => ?_)
          · skip
            refine g_iconst hX (v := 0) dL_isStep_416 (by decide) ?_
            have e9 : K_L_isStep_313 xv yv p1 wr co tu idl tol lai e = (0, xv, yv) := by simp only [K_L_isStep_313, eq_false c_326, eq_false c_331, eq_true c_338, eq_true c_343, eq_false c_348, if_true, if_false]
            rw [e9]
            exact g_zret hX dL_isStep_417 rfl rfl rfl
          · skip
            refine g_goto hX 412 dL_isStep_351 (by decide) ?_
            refine g_iconst hX (v := 1) dL_isStep_412 (by decide) ?_
            refine g_goto hX 417 dL_isStep_413 (by decide) ?_
            have e9 : K_L_isStep_313 xv yv p1 wr co tu idl tol lai e = (1, xv, yv) := by simp only [K_L_isStep_313, eq_false c_326, eq_false c_331, eq_true c_338, eq_true c_343, eq_true c_348, if_true, if_false]
            rw [e9]
            exact g_zret hX dL_isStep_417 rfl rfl rfl
set_option maxHeartbeats 4000000 in
set_option maxRecDepth 100000 in
theorem k_L_isStep_188 {T : TT} {X : CX} (hX : Fit T X (yL_isStep).cls 16 wsL_isStep cL_isStep (some .boolean) rmL_isStep) (ad bd : Nat → Nat) : ∀ (n : Nat) (xv : XV) (yv : XV) (p1 : Int32) (wr : Int32) (co : Int32) (tu : Int32) (m : Int32) (idl : Int32) (tol : Int32) (lai : Int32) (e : Int32) (j : Nat) (hn : j + n = 72) (hj : j ≤ 71) (hp : m.toInt ≤ 70) (hx : xWF xv) (hy : xWF yv), G T X (QI T X 0 0 ((K_L_isStep_188 n xv yv p1 wr co tu m idl tol lai e j).1) (wXX T ad ((K_L_isStep_188 n xv yv p1 wr co tu m idl tol lai e j).2.1) ++ wXX T bd ((K_L_isStep_188 n xv yv p1 wr co tu m idl tol lai e j).2.2))) 0 0 (wXX T ad xv ++ wXX T bd yv) [(0, .ref (ad 0)), (1, .ref (bd 0)), (4, .int wr), (5, .int co), (6, .int tu), (8, .int m), (9, .int idl), (10, .int tol), (11, .int lai), (12, .int e), (13, .int (nI j))] 188 [] := by
  intro n
  induction n with
  | zero =>
    intro xv yv p1 wr co tu m idl tol lai e j hn hj hp hx hy
    exact absurd hn (by omega)
  | succ n ih =>
    intro xv yv p1 wr co tu m idl tol lai e j hn hj hp hx hy
    refine g_iload hX dL_isStep_188 10 rfl ?_
    refine g_iload hX dL_isStep_190 5 rfl ?_
    refine g_icmp_ge hX 313 dL_isStep_192 (by decide) (fun c_192 => ?_) (fun c_192 => ?_)
    · skip
      have e9 : K_L_isStep_188 (n + 1) xv yv p1 wr co tu m idl tol lai e j = K_L_isStep_313 xv yv p1 wr co tu idl tol lai e := by simp only [K_L_isStep_188, eq_true c_192, if_true, if_false]
      rw [e9]
      refine g_lv (lv' := [(0, .ref (ad 0)), (1, .ref (bd 0)), (4, .int wr), (5, .int co), (6, .int tu), (9, .int idl), (10, .int tol), (11, .int lai), (12, .int e)]) [0, 1, 2, 3, 4, 6, 7, 8, 9] rfl ?_
      exact k_L_isStep_313 hX ad bd xv yv p1 wr co tu idl tol lai e 
    · skip
      have hlt : j < 70 := nlt_p c_192 hp (by omega)
      refine g_iload hX dL_isStep_195 9 rfl ?_
      refine g_if_eq hX 313 dL_isStep_197 (by decide) (fun c_197 => ?_) (fun c_197 => ?_)
      · skip
        have e9 : K_L_isStep_188 (n + 1) xv yv p1 wr co tu m idl tol lai e j = K_L_isStep_313 xv yv p1 wr co tu idl tol lai e := by simp only [K_L_isStep_188, eq_false c_192, eq_true c_197, if_true, if_false]
        rw [e9]
        refine g_lv (lv' := [(0, .ref (ad 0)), (1, .ref (bd 0)), (4, .int wr), (5, .int co), (6, .int tu), (9, .int idl), (10, .int tol), (11, .int lai), (12, .int e)]) [0, 1, 2, 3, 4, 6, 7, 8, 9] rfl ?_
        exact k_L_isStep_313 hX ad bd xv yv p1 wr co tu idl tol lai e 
      · skip
        refine g_aload_n hX dL_isStep_200 rfl 1 rfl ?_
        refine g_bipush hX (v := 24) dL_isStep_201 (by decide) ?_
        refine g_sV_I hX (rest := wXX T ad xv) (n := 1) (As := [.int 24]) (wc := wXX T bd yv) (w1 := wXX T bd yv) (rv := (F_X4_count yv 24)) (st := []) rfl rfl (c_X4_count (xL X) T (xB X) bd yv 24) gL_isStep_X4_count rfl rfl rfl ⟨Nat.le_of_ble_eq_true rfl, Nat.le_of_ble_eq_true rfl⟩ ⟨Nat.zero_le _, Nat.zero_le _⟩ ⟨by decide +kernel, by decide +kernel, by decide +kernel⟩ rfl (wXX_map T bd _ _) rfl (Nat.le_of_ble_eq_true rfl) dL_isStep_203 ?_
        refine g_istore hX (lv' := [(14, .int (F_X4_count yv 24)), (0, .ref (ad 0)), (1, .ref (bd 0)), (4, .int wr), (5, .int co), (6, .int tu), (8, .int m), (9, .int idl), (10, .int tol), (11, .int lai), (12, .int e), (13, .int (nI j))]) dL_isStep_206 (by decide) rfl ?_
        refine g_iload hX dL_isStep_208 11 rfl ?_
        refine g_iconst hX (v := 5) dL_isStep_210 (by decide) ?_
        refine g_irem hX dL_isStep_211 (by decide) ?_
        refine g_iconst hX (v := 2) dL_isStep_212 (by decide) ?_
        refine g_icmp_ne hX 259 dL_isStep_213 (by decide) (fun c_213 => ?_) (fun c_213 => ?_)
        · skip
          refine g_aload_n hX dL_isStep_259 rfl 2 rfl ?_
          refine g_iconst hX (v := 1) dL_isStep_260 (by decide) ?_
          obtain ⟨z_261, hz_261⟩ : ∃ z : Int32 × XV, z = F_X4_wind yv 1 := ⟨_, rfl⟩
          refine g_sV_I hX (rest := wXX T ad xv) (n := 1) (As := [.int 1]) (wc := wXX T bd yv) (w1 := wXX T bd z_261.2) (rv := z_261.1) (st := []) rfl rfl (by rw [hz_261]; exact (c_X4_wind (xL X) T (xB X) bd yv 1 (by first | exact hy | (rw [hz_232]; exact xWF_set hy) | (rw [hz_244, hz_232]; exact xWF_set (xWF_set hy))))) gL_isStep_X4_wind rfl rfl rfl ⟨Nat.le_of_ble_eq_true rfl, Nat.le_of_ble_eq_true rfl⟩ ⟨Nat.zero_le _, Nat.zero_le _⟩ ⟨by decide +kernel, by decide +kernel, by decide +kernel⟩ rfl (wXX_map T bd _ _) rfl (Nat.le_of_ble_eq_true rfl) dL_isStep_261 ?_
          have hw_261 : xWF z_261.2 := by rw [hz_261]; exact xWF_wind (by first | exact hy | (rw [hz_232]; exact xWF_set hy) | (rw [hz_244, hz_232]; exact xWF_set (xWF_set hy)))
          refine g_istore hX (lv' := [(15, .int z_261.1), (14, .int (F_X4_count yv 24)), (0, .ref (ad 0)), (1, .ref (bd 0)), (4, .int wr), (5, .int co), (6, .int tu), (8, .int m), (9, .int idl), (10, .int tol), (11, .int lai), (12, .int e), (13, .int (nI j))]) dL_isStep_264 (by decide) rfl ?_
          refine g_iload hX dL_isStep_266 11 rfl ?_
          refine g_if_eq hX 288 dL_isStep_268 (by decide) (fun c0 => absurd c0 c_197) (fun _ => ?_)
          refine g_iload hX dL_isStep_271 0 rfl ?_
          refine g_iconst hX (v := 1) dL_isStep_273 (by decide) ?_
          refine g_icmp_gt hX 288 dL_isStep_274 (by decide) (fun c_274 => ?_) (fun c_274 => ?_)
          · skip
            refine g_iconst hX (v := 0) dL_isStep_288 (by decide) ?_
            refine g_istore hX (lv' := [(12, .int 0), (15, .int z_261.1), (14, .int (F_X4_count yv 24)), (0, .ref (ad 0)), (1, .ref (bd 0)), (4, .int wr), (5, .int co), (6, .int tu), (8, .int m), (9, .int idl), (10, .int tol), (11, .int lai), (13, .int (nI j))]) dL_isStep_289 (by decide) rfl ?_
            refine g_iload hX dL_isStep_291 11 rfl ?_
            refine g_iload hX dL_isStep_293 1 rfl ?_
            refine g_iconst hX (v := 1) dL_isStep_295 (by decide) ?_
            refine g_icmp_ne hX 303 dL_isStep_296 (by decide) (fun c_296 => ?_) (fun c_296 => ?_)
            · skip
              refine g_iconst hX (v := 0) dL_isStep_303 (by decide) ?_
              refine g_iadd hX dL_isStep_304 ?_
              refine g_istore hX (lv' := [(11, .int (lai + 0)), (12, .int 0), (15, .int z_261.1), (14, .int (F_X4_count yv 24)), (0, .ref (ad 0)), (1, .ref (bd 0)), (4, .int wr), (5, .int co), (6, .int tu), (8, .int m), (9, .int idl), (10, .int tol), (13, .int (nI j))]) dL_isStep_305 (by decide) rfl ?_
              refine g_iinc hX (lv' := [(13, .int (nI (j + 1))), (11, .int (lai + 0)), (12, .int 0), (15, .int z_261.1), (14, .int (F_X4_count yv 24)), (0, .ref (ad 0)), (1, .ref (bd 0)), (4, .int wr), (5, .int co), (6, .int tu), (8, .int m), (9, .int idl), (10, .int tol)]) (v := (nI (j + 1))) 12 dL_isStep_307 rfl (nI_1 _) (by decide) rfl ?_
              refine g_goto hX 188 dL_isStep_310 (by decide) ?_
              have e9 : K_L_isStep_188 (n + 1) xv yv p1 wr co tu m idl tol lai e j = K_L_isStep_188 n xv z_261.2 p1 wr co tu m idl tol (lai + 0) 0 (j + 1) := by simp only [K_L_isStep_188, ← hz_261, eq_false c_192, eq_false c_197, eq_false c_213, eq_true c_274, eq_false c_296, if_true, if_false]
              rw [e9]
              refine g_lv (lv' := [(0, .ref (ad 0)), (1, .ref (bd 0)), (4, .int wr), (5, .int co), (6, .int tu), (8, .int m), (9, .int idl), (10, .int tol), (11, .int (lai + 0)), (12, .int 0), (13, .int (nI (j + 1)))]) [5, 6, 7, 8, 9, 10, 11, 12, 1, 2, 0] rfl ?_
              exact ih xv z_261.2 p1 wr co tu m idl tol (lai + 0) 0 (j + 1) (by omega) (by omega) hp hx hw_261
            · skip
              refine g_iconst hX (v := 1) dL_isStep_299 (by decide) ?_
              refine g_goto hX 304 dL_isStep_300 (by decide) ?_
              refine g_iadd hX dL_isStep_304 ?_
              refine g_istore hX (lv' := [(11, .int (lai + 1)), (12, .int 0), (15, .int z_261.1), (14, .int (F_X4_count yv 24)), (0, .ref (ad 0)), (1, .ref (bd 0)), (4, .int wr), (5, .int co), (6, .int tu), (8, .int m), (9, .int idl), (10, .int tol), (13, .int (nI j))]) dL_isStep_305 (by decide) rfl ?_
              refine g_iinc hX (lv' := [(13, .int (nI (j + 1))), (11, .int (lai + 1)), (12, .int 0), (15, .int z_261.1), (14, .int (F_X4_count yv 24)), (0, .ref (ad 0)), (1, .ref (bd 0)), (4, .int wr), (5, .int co), (6, .int tu), (8, .int m), (9, .int idl), (10, .int tol)]) (v := (nI (j + 1))) 12 dL_isStep_307 rfl (nI_1 _) (by decide) rfl ?_
              refine g_goto hX 188 dL_isStep_310 (by decide) ?_
              have e9 : K_L_isStep_188 (n + 1) xv yv p1 wr co tu m idl tol lai e j = K_L_isStep_188 n xv z_261.2 p1 wr co tu m idl tol (lai + 1) 0 (j + 1) := by simp only [K_L_isStep_188, ← hz_261, eq_false c_192, eq_false c_197, eq_false c_213, eq_true c_274, eq_true c_296, if_true, if_false]
              rw [e9]
              refine g_lv (lv' := [(0, .ref (ad 0)), (1, .ref (bd 0)), (4, .int wr), (5, .int co), (6, .int tu), (8, .int m), (9, .int idl), (10, .int tol), (11, .int (lai + 1)), (12, .int 0), (13, .int (nI (j + 1)))]) [5, 6, 7, 8, 9, 10, 11, 12, 1, 2, 0] rfl ?_
              exact ih xv z_261.2 p1 wr co tu m idl tol (lai + 1) 0 (j + 1) (by omega) (by omega) hp hx hw_261
          · skip
            refine g_iload hX dL_isStep_277 0 rfl ?_
            refine g_bipush hX (v := (-2)) dL_isStep_279 (by decide) ?_
            refine g_icmp_eq hX 288 dL_isStep_281 (by decide) (fun c_281 => ?_) (fun c_281 => ?_)
            · skip
              refine g_iconst hX (v := 0) dL_isStep_288 (by decide) ?_
              refine g_istore hX (lv' := [(12, .int 0), (15, .int z_261.1), (14, .int (F_X4_count yv 24)), (0, .ref (ad 0)), (1, .ref (bd 0)), (4, .int wr), (5, .int co), (6, .int tu), (8, .int m), (9, .int idl), (10, .int tol), (11, .int lai), (13, .int (nI j))]) dL_isStep_289 (by decide) rfl ?_
              refine g_iload hX dL_isStep_291 11 rfl ?_
              refine g_iload hX dL_isStep_293 1 rfl ?_
              refine g_iconst hX (v := 1) dL_isStep_295 (by decide) ?_
              refine g_icmp_ne hX 303 dL_isStep_296 (by decide) (fun c_296 => ?_) (fun c_296 => ?_)
              · skip
                refine g_iconst hX (v := 0) dL_isStep_303 (by decide) ?_
                refine g_iadd hX dL_isStep_304 ?_
                refine g_istore hX (lv' := [(11, .int (lai + 0)), (12, .int 0), (15, .int z_261.1), (14, .int (F_X4_count yv 24)), (0, .ref (ad 0)), (1, .ref (bd 0)), (4, .int wr), (5, .int co), (6, .int tu), (8, .int m), (9, .int idl), (10, .int tol), (13, .int (nI j))]) dL_isStep_305 (by decide) rfl ?_
                refine g_iinc hX (lv' := [(13, .int (nI (j + 1))), (11, .int (lai + 0)), (12, .int 0), (15, .int z_261.1), (14, .int (F_X4_count yv 24)), (0, .ref (ad 0)), (1, .ref (bd 0)), (4, .int wr), (5, .int co), (6, .int tu), (8, .int m), (9, .int idl), (10, .int tol)]) (v := (nI (j + 1))) 12 dL_isStep_307 rfl (nI_1 _) (by decide) rfl ?_
                refine g_goto hX 188 dL_isStep_310 (by decide) ?_
                have e9 : K_L_isStep_188 (n + 1) xv yv p1 wr co tu m idl tol lai e j = K_L_isStep_188 n xv z_261.2 p1 wr co tu m idl tol (lai + 0) 0 (j + 1) := by simp only [K_L_isStep_188, ← hz_261, eq_false c_192, eq_false c_197, eq_false c_213, eq_false c_274, eq_true c_281, eq_false c_296, if_true, if_false]
                rw [e9]
                refine g_lv (lv' := [(0, .ref (ad 0)), (1, .ref (bd 0)), (4, .int wr), (5, .int co), (6, .int tu), (8, .int m), (9, .int idl), (10, .int tol), (11, .int (lai + 0)), (12, .int 0), (13, .int (nI (j + 1)))]) [5, 6, 7, 8, 9, 10, 11, 12, 1, 2, 0] rfl ?_
                exact ih xv z_261.2 p1 wr co tu m idl tol (lai + 0) 0 (j + 1) (by omega) (by omega) hp hx hw_261
              · skip
                refine g_iconst hX (v := 1) dL_isStep_299 (by decide) ?_
                refine g_goto hX 304 dL_isStep_300 (by decide) ?_
                refine g_iadd hX dL_isStep_304 ?_
                refine g_istore hX (lv' := [(11, .int (lai + 1)), (12, .int 0), (15, .int z_261.1), (14, .int (F_X4_count yv 24)), (0, .ref (ad 0)), (1, .ref (bd 0)), (4, .int wr), (5, .int co), (6, .int tu), (8, .int m), (9, .int idl), (10, .int tol), (13, .int (nI j))]) dL_isStep_305 (by decide) rfl ?_
                refine g_iinc hX (lv' := [(13, .int (nI (j + 1))), (11, .int (lai + 1)), (12, .int 0), (15, .int z_261.1), (14, .int (F_X4_count yv 24)), (0, .ref (ad 0)), (1, .ref (bd 0)), (4, .int wr), (5, .int co), (6, .int tu), (8, .int m), (9, .int idl), (10, .int tol)]) (v := (nI (j + 1))) 12 dL_isStep_307 rfl (nI_1 _) (by decide) rfl ?_
                refine g_goto hX 188 dL_isStep_310 (by decide) ?_
                have e9 : K_L_isStep_188 (n + 1) xv yv p1 wr co tu m idl tol lai e j = K_L_isStep_188 n xv z_261.2 p1 wr co tu m idl tol (lai + 1) 0 (j + 1) := by simp only [K_L_isStep_188, ← hz_261, eq_false c_192, eq_false c_197, eq_false c_213, eq_false c_274, eq_true c_281, eq_true c_296, if_true, if_false]
                rw [e9]
                refine g_lv (lv' := [(0, .ref (ad 0)), (1, .ref (bd 0)), (4, .int wr), (5, .int co), (6, .int tu), (8, .int m), (9, .int idl), (10, .int tol), (11, .int (lai + 1)), (12, .int 0), (13, .int (nI (j + 1)))]) [5, 6, 7, 8, 9, 10, 11, 12, 1, 2, 0] rfl ?_
                exact ih xv z_261.2 p1 wr co tu m idl tol (lai + 1) 0 (j + 1) (by omega) (by omega) hp hx hw_261
            · skip
              refine g_iconst hX (v := 1) dL_isStep_284 (by decide) ?_
              refine g_goto hX 289 dL_isStep_285 (by decide) ?_
              refine g_istore hX (lv' := [(12, .int 1), (15, .int z_261.1), (14, .int (F_X4_count yv 24)), (0, .ref (ad 0)), (1, .ref (bd 0)), (4, .int wr), (5, .int co), (6, .int tu), (8, .int m), (9, .int idl), (10, .int tol), (11, .int lai), (13, .int (nI j))]) dL_isStep_289 (by decide) rfl ?_
              refine g_iload hX dL_isStep_291 11 rfl ?_
              refine g_iload hX dL_isStep_293 1 rfl ?_
              refine g_iconst hX (v := 1) dL_isStep_295 (by decide) ?_
              refine g_icmp_ne hX 303 dL_isStep_296 (by decide) (fun c_296 => ?_) (fun c_296 => ?_)
              · skip
                refine g_iconst hX (v := 0) dL_isStep_303 (by decide) ?_
                refine g_iadd hX dL_isStep_304 ?_
                refine g_istore hX (lv' := [(11, .int (lai + 0)), (12, .int 1), (15, .int z_261.1), (14, .int (F_X4_count yv 24)), (0, .ref (ad 0)), (1, .ref (bd 0)), (4, .int wr), (5, .int co), (6, .int tu), (8, .int m), (9, .int idl), (10, .int tol), (13, .int (nI j))]) dL_isStep_305 (by decide) rfl ?_
                refine g_iinc hX (lv' := [(13, .int (nI (j + 1))), (11, .int (lai + 0)), (12, .int 1), (15, .int z_261.1), (14, .int (F_X4_count yv 24)), (0, .ref (ad 0)), (1, .ref (bd 0)), (4, .int wr), (5, .int co), (6, .int tu), (8, .int m), (9, .int idl), (10, .int tol)]) (v := (nI (j + 1))) 12 dL_isStep_307 rfl (nI_1 _) (by decide) rfl ?_
                refine g_goto hX 188 dL_isStep_310 (by decide) ?_
                have e9 : K_L_isStep_188 (n + 1) xv yv p1 wr co tu m idl tol lai e j = K_L_isStep_188 n xv z_261.2 p1 wr co tu m idl tol (lai + 0) 1 (j + 1) := by simp only [K_L_isStep_188, ← hz_261, eq_false c_192, eq_false c_197, eq_false c_213, eq_false c_274, eq_false c_281, eq_false c_296, if_true, if_false]
                rw [e9]
                refine g_lv (lv' := [(0, .ref (ad 0)), (1, .ref (bd 0)), (4, .int wr), (5, .int co), (6, .int tu), (8, .int m), (9, .int idl), (10, .int tol), (11, .int (lai + 0)), (12, .int 1), (13, .int (nI (j + 1)))]) [5, 6, 7, 8, 9, 10, 11, 12, 1, 2, 0] rfl ?_
                exact ih xv z_261.2 p1 wr co tu m idl tol (lai + 0) 1 (j + 1) (by omega) (by omega) hp hx hw_261
              · skip
                refine g_iconst hX (v := 1) dL_isStep_299 (by decide) ?_
                refine g_goto hX 304 dL_isStep_300 (by decide) ?_
                refine g_iadd hX dL_isStep_304 ?_
                refine g_istore hX (lv' := [(11, .int (lai + 1)), (12, .int 1), (15, .int z_261.1), (14, .int (F_X4_count yv 24)), (0, .ref (ad 0)), (1, .ref (bd 0)), (4, .int wr), (5, .int co), (6, .int tu), (8, .int m), (9, .int idl), (10, .int tol), (13, .int (nI j))]) dL_isStep_305 (by decide) rfl ?_
                refine g_iinc hX (lv' := [(13, .int (nI (j + 1))), (11, .int (lai + 1)), (12, .int 1), (15, .int z_261.1), (14, .int (F_X4_count yv 24)), (0, .ref (ad 0)), (1, .ref (bd 0)), (4, .int wr), (5, .int co), (6, .int tu), (8, .int m), (9, .int idl), (10, .int tol)]) (v := (nI (j + 1))) 12 dL_isStep_307 rfl (nI_1 _) (by decide) rfl ?_
                refine g_goto hX 188 dL_isStep_310 (by decide) ?_
                have e9 : K_L_isStep_188 (n + 1) xv yv p1 wr co tu m idl tol lai e j = K_L_isStep_188 n xv z_261.2 p1 wr co tu m idl tol (lai + 1) 1 (j + 1) := by simp only [K_L_isStep_188, ← hz_261, eq_false c_192, eq_false c_197, eq_false c_213, eq_false c_274, eq_false c_281, eq_true c_296, if_true, if_false]
                rw [e9]
                refine g_lv (lv' := [(0, .ref (ad 0)), (1, .ref (bd 0)), (4, .int wr), (5, .int co), (6, .int tu), (8, .int m), (9, .int idl), (10, .int tol), (11, .int (lai + 1)), (12, .int 1), (13, .int (nI (j + 1)))]) [5, 6, 7, 8, 9, 10, 11, 12, 1, 2, 0] rfl ?_
                exact ih xv z_261.2 p1 wr co tu m idl tol (lai + 1) 1 (j + 1) (by omega) (by omega) hp hx hw_261
        · skip
          refine g_aload_n hX dL_isStep_216 rfl 2 rfl ?_
          refine g_iconst hX (v := 4) dL_isStep_217 (by decide) ?_
          obtain ⟨b_232_4, hb_232_4⟩ : ∃ z : Int32, z = (if (F_X4_count yv 24) = 99 then 98 else 99) := ⟨_, rfl⟩
          refine g_join 232 (.int b_232_4 :: .int 4 :: .ref (bd 0) :: []) (fun hJ => ?_) ?_
          · skip
            refine g_iload hX dL_isStep_218 0 rfl ?_
            refine g_bipush hX (v := 99) dL_isStep_220 (by decide) ?_
            refine g_icmp_ne hX 230 dL_isStep_222 (by decide) (fun c_222 => ?_) (fun c_222 => ?_)
            · skip
              refine g_bipush hX (v := 99) dL_isStep_230 (by decide) ?_
              have e8 : b_232_4 = 99 := by rw [hb_232_4]; simp only [eq_false c_222, if_true, if_false]
              rw [e8] at hJ
              exact hJ
            · skip
              refine g_bipush hX (v := 98) dL_isStep_225 (by decide) ?_
              refine g_goto hX 232 dL_isStep_227 (by decide) ?_
              have e8 : b_232_4 = 98 := by rw [hb_232_4]; simp only [eq_true c_222, if_true, if_false]
              rw [e8] at hJ
              exact hJ
          obtain ⟨z_232, hz_232⟩ : ∃ z : Int32 × XV, z = F_X4_set yv 4 b_232_4 := ⟨_, rfl⟩
          refine g_sV_I hX (rest := wXX T ad xv) (n := 2) (As := [.int 4, .int b_232_4]) (wc := wXX T bd yv) (w1 := wXX T bd z_232.2) (rv := z_232.1) (st := []) rfl rfl (by rw [hz_232]; exact (c_X4_set (xL X) T (xB X) bd yv 4 b_232_4 hy)) gL_isStep_X4_set rfl rfl rfl ⟨Nat.le_of_ble_eq_true rfl, Nat.le_of_ble_eq_true rfl⟩ ⟨Nat.zero_le _, Nat.zero_le _⟩ ⟨by decide +kernel, by decide +kernel, by decide +kernel⟩ rfl (wXX_map T bd _ _) rfl (Nat.le_of_ble_eq_true rfl) dL_isStep_232 ?_
          refine g_iload hX dL_isStep_235 0 rfl ?_
          refine g_icmp_ne hX 256 dL_isStep_237 (by decide) (fun c_237 => ?_) (fun c_237 => ?_)
          · skip
            refine g_iconst hX (v := 0) dL_isStep_256 (by decide) ?_
            refine g_istore hX (lv' := [(12, .int 0), (14, .int (F_X4_count yv 24)), (0, .ref (ad 0)), (1, .ref (bd 0)), (4, .int wr), (5, .int co), (6, .int tu), (8, .int m), (9, .int idl), (10, .int tol), (11, .int lai), (13, .int (nI j))]) dL_isStep_257 (by decide) rfl ?_
            refine g_aload_n hX dL_isStep_259 rfl 3 rfl ?_
            refine g_iconst hX (v := 1) dL_isStep_260 (by decide) ?_
            obtain ⟨z_261, hz_261⟩ : ∃ z : Int32 × XV, z = F_X4_wind z_232.2 1 := ⟨_, rfl⟩
            refine g_sV_I hX (rest := wXX T ad xv) (n := 1) (As := [.int 1]) (wc := wXX T bd z_232.2) (w1 := wXX T bd z_261.2) (rv := z_261.1) (st := []) rfl rfl (by rw [hz_261]; exact (c_X4_wind (xL X) T (xB X) bd z_232.2 1 (by first | exact hy | (rw [hz_232]; exact xWF_set hy) | (rw [hz_244, hz_232]; exact xWF_set (xWF_set hy))))) gL_isStep_X4_wind rfl rfl rfl ⟨Nat.le_of_ble_eq_true rfl, Nat.le_of_ble_eq_true rfl⟩ ⟨Nat.zero_le _, Nat.zero_le _⟩ ⟨by decide +kernel, by decide +kernel, by decide +kernel⟩ rfl (wXX_map T bd _ _) rfl (Nat.le_of_ble_eq_true rfl) dL_isStep_261 ?_
            have hw_261 : xWF z_261.2 := by rw [hz_261]; exact xWF_wind (by first | exact hy | (rw [hz_232]; exact xWF_set hy) | (rw [hz_244, hz_232]; exact xWF_set (xWF_set hy)))
            refine g_istore hX (lv' := [(15, .int z_261.1), (12, .int 0), (14, .int (F_X4_count yv 24)), (0, .ref (ad 0)), (1, .ref (bd 0)), (4, .int wr), (5, .int co), (6, .int tu), (8, .int m), (9, .int idl), (10, .int tol), (11, .int lai), (13, .int (nI j))]) dL_isStep_264 (by decide) rfl ?_
            refine g_iload hX dL_isStep_266 1 rfl ?_
            refine g_if_eq hX 288 dL_isStep_268 (by decide) (fun _ => ?_) (fun c0 => absurd c0 (by decide))
            refine g_iconst hX (v := 0) dL_isStep_288 (by decide) ?_
            refine g_istore hX (lv' := [(12, .int 0), (15, .int z_261.1), (14, .int (F_X4_count yv 24)), (0, .ref (ad 0)), (1, .ref (bd 0)), (4, .int wr), (5, .int co), (6, .int tu), (8, .int m), (9, .int idl), (10, .int tol), (11, .int lai), (13, .int (nI j))]) dL_isStep_289 (by decide) rfl ?_
            refine g_iload hX dL_isStep_291 11 rfl ?_
            refine g_iload hX dL_isStep_293 1 rfl ?_
            refine g_iconst hX (v := 1) dL_isStep_295 (by decide) ?_
            refine g_icmp_ne hX 303 dL_isStep_296 (by decide) (fun c_296 => ?_) (fun c_296 => ?_)
            · skip
              refine g_iconst hX (v := 0) dL_isStep_303 (by decide) ?_
              refine g_iadd hX dL_isStep_304 ?_
              refine g_istore hX (lv' := [(11, .int (lai + 0)), (12, .int 0), (15, .int z_261.1), (14, .int (F_X4_count yv 24)), (0, .ref (ad 0)), (1, .ref (bd 0)), (4, .int wr), (5, .int co), (6, .int tu), (8, .int m), (9, .int idl), (10, .int tol), (13, .int (nI j))]) dL_isStep_305 (by decide) rfl ?_
              refine g_iinc hX (lv' := [(13, .int (nI (j + 1))), (11, .int (lai + 0)), (12, .int 0), (15, .int z_261.1), (14, .int (F_X4_count yv 24)), (0, .ref (ad 0)), (1, .ref (bd 0)), (4, .int wr), (5, .int co), (6, .int tu), (8, .int m), (9, .int idl), (10, .int tol)]) (v := (nI (j + 1))) 12 dL_isStep_307 rfl (nI_1 _) (by decide) rfl ?_
              refine g_goto hX 188 dL_isStep_310 (by decide) ?_
              have e9 : K_L_isStep_188 (n + 1) xv yv p1 wr co tu m idl tol lai e j = K_L_isStep_188 n xv z_261.2 p1 wr co tu m idl tol (lai + 0) 0 (j + 1) := by first | (simp only [K_L_isStep_188, ← hb_232_4, ← hz_232, ← hz_261, eq_false c_192, eq_false c_197, eq_true c_213, eq_false c_237, eq_false c_296, if_true, if_false]; done) | (subst hb_232_4; simp only [K_L_isStep_188, ← hz_232, ← hz_261, eq_false c_192, eq_false c_197, eq_true c_213, eq_false c_237, eq_false c_296, if_true, if_false] <;> rfl)
              rw [e9]
              refine g_lv (lv' := [(0, .ref (ad 0)), (1, .ref (bd 0)), (4, .int wr), (5, .int co), (6, .int tu), (8, .int m), (9, .int idl), (10, .int tol), (11, .int (lai + 0)), (12, .int 0), (13, .int (nI (j + 1)))]) [5, 6, 7, 8, 9, 10, 11, 12, 1, 2, 0] rfl ?_
              exact ih xv z_261.2 p1 wr co tu m idl tol (lai + 0) 0 (j + 1) (by omega) (by omega) hp hx hw_261
            · skip
              refine g_iconst hX (v := 1) dL_isStep_299 (by decide) ?_
              refine g_goto hX 304 dL_isStep_300 (by decide) ?_
              refine g_iadd hX dL_isStep_304 ?_
              refine g_istore hX (lv' := [(11, .int (lai + 1)), (12, .int 0), (15, .int z_261.1), (14, .int (F_X4_count yv 24)), (0, .ref (ad 0)), (1, .ref (bd 0)), (4, .int wr), (5, .int co), (6, .int tu), (8, .int m), (9, .int idl), (10, .int tol), (13, .int (nI j))]) dL_isStep_305 (by decide) rfl ?_
              refine g_iinc hX (lv' := [(13, .int (nI (j + 1))), (11, .int (lai + 1)), (12, .int 0), (15, .int z_261.1), (14, .int (F_X4_count yv 24)), (0, .ref (ad 0)), (1, .ref (bd 0)), (4, .int wr), (5, .int co), (6, .int tu), (8, .int m), (9, .int idl), (10, .int tol)]) (v := (nI (j + 1))) 12 dL_isStep_307 rfl (nI_1 _) (by decide) rfl ?_
              refine g_goto hX 188 dL_isStep_310 (by decide) ?_
              have e9 : K_L_isStep_188 (n + 1) xv yv p1 wr co tu m idl tol lai e j = K_L_isStep_188 n xv z_261.2 p1 wr co tu m idl tol (lai + 1) 0 (j + 1) := by first | (simp only [K_L_isStep_188, ← hb_232_4, ← hz_232, ← hz_261, eq_false c_192, eq_false c_197, eq_true c_213, eq_false c_237, eq_true c_296, if_true, if_false]; done) | (subst hb_232_4; simp only [K_L_isStep_188, ← hz_232, ← hz_261, eq_false c_192, eq_false c_197, eq_true c_213, eq_false c_237, eq_true c_296, if_true, if_false] <;> rfl)
              rw [e9]
              refine g_lv (lv' := [(0, .ref (ad 0)), (1, .ref (bd 0)), (4, .int wr), (5, .int co), (6, .int tu), (8, .int m), (9, .int idl), (10, .int tol), (11, .int (lai + 1)), (12, .int 0), (13, .int (nI (j + 1)))]) [5, 6, 7, 8, 9, 10, 11, 12, 1, 2, 0] rfl ?_
              exact ih xv z_261.2 p1 wr co tu m idl tol (lai + 1) 0 (j + 1) (by omega) (by omega) hp hx hw_261
          · skip
            refine g_aload_n hX dL_isStep_240 rfl 2 rfl ?_
            refine g_iconst hX (v := 4) dL_isStep_241 (by decide) ?_
            refine g_iload hX dL_isStep_242 0 rfl ?_
            obtain ⟨z_244, hz_244⟩ : ∃ z : Int32 × XV, z = F_X4_set z_232.2 4 (F_X4_count yv 24) := ⟨_, rfl⟩
            refine g_sV_I hX (rest := wXX T ad xv) (n := 2) (As := [.int 4, .int (F_X4_count yv 24)]) (wc := wXX T bd z_232.2) (w1 := wXX T bd z_244.2) (rv := z_244.1) (st := []) rfl rfl (by rw [hz_244]; exact (c_X4_set (xL X) T (xB X) bd z_232.2 4 (F_X4_count yv 24) (by rw [hz_232]; exact xWF_set hy))) gL_isStep_X4_set rfl rfl rfl ⟨Nat.le_of_ble_eq_true rfl, Nat.le_of_ble_eq_true rfl⟩ ⟨Nat.zero_le _, Nat.zero_le _⟩ ⟨by decide +kernel, by decide +kernel, by decide +kernel⟩ rfl (wXX_map T bd _ _) rfl (Nat.le_of_ble_eq_true rfl) dL_isStep_244 ?_
            refine g_bipush hX (v := 98) dL_isStep_247 (by decide) ?_
            refine g_icmp_lt hX 256 dL_isStep_249 (by decide) (fun c_249 => ?_) (fun c_249 => ?_)
            · skip
              refine g_iconst hX (v := 0) dL_isStep_256 (by decide) ?_
              refine g_istore hX (lv' := [(12, .int 0), (14, .int (F_X4_count yv 24)), (0, .ref (ad 0)), (1, .ref (bd 0)), (4, .int wr), (5, .int co), (6, .int tu), (8, .int m), (9, .int idl), (10, .int tol), (11, .int lai), (13, .int (nI j))]) dL_isStep_257 (by decide) rfl ?_
              refine g_aload_n hX dL_isStep_259 rfl 3 rfl ?_
              refine g_iconst hX (v := 1) dL_isStep_260 (by decide) ?_
              obtain ⟨z_261, hz_261⟩ : ∃ z : Int32 × XV, z = F_X4_wind z_244.2 1 := ⟨_, rfl⟩
              refine g_sV_I hX (rest := wXX T ad xv) (n := 1) (As := [.int 1]) (wc := wXX T bd z_244.2) (w1 := wXX T bd z_261.2) (rv := z_261.1) (st := []) rfl rfl (by rw [hz_261]; exact (c_X4_wind (xL X) T (xB X) bd z_244.2 1 (by first | exact hy | (rw [hz_232]; exact xWF_set hy) | (rw [hz_244, hz_232]; exact xWF_set (xWF_set hy))))) gL_isStep_X4_wind rfl rfl rfl ⟨Nat.le_of_ble_eq_true rfl, Nat.le_of_ble_eq_true rfl⟩ ⟨Nat.zero_le _, Nat.zero_le _⟩ ⟨by decide +kernel, by decide +kernel, by decide +kernel⟩ rfl (wXX_map T bd _ _) rfl (Nat.le_of_ble_eq_true rfl) dL_isStep_261 ?_
              have hw_261 : xWF z_261.2 := by rw [hz_261]; exact xWF_wind (by first | exact hy | (rw [hz_232]; exact xWF_set hy) | (rw [hz_244, hz_232]; exact xWF_set (xWF_set hy)))
              refine g_istore hX (lv' := [(15, .int z_261.1), (12, .int 0), (14, .int (F_X4_count yv 24)), (0, .ref (ad 0)), (1, .ref (bd 0)), (4, .int wr), (5, .int co), (6, .int tu), (8, .int m), (9, .int idl), (10, .int tol), (11, .int lai), (13, .int (nI j))]) dL_isStep_264 (by decide) rfl ?_
              refine g_iload hX dL_isStep_266 1 rfl ?_
              refine g_if_eq hX 288 dL_isStep_268 (by decide) (fun _ => ?_) (fun c0 => absurd c0 (by decide))
              refine g_iconst hX (v := 0) dL_isStep_288 (by decide) ?_
              refine g_istore hX (lv' := [(12, .int 0), (15, .int z_261.1), (14, .int (F_X4_count yv 24)), (0, .ref (ad 0)), (1, .ref (bd 0)), (4, .int wr), (5, .int co), (6, .int tu), (8, .int m), (9, .int idl), (10, .int tol), (11, .int lai), (13, .int (nI j))]) dL_isStep_289 (by decide) rfl ?_
              refine g_iload hX dL_isStep_291 11 rfl ?_
              refine g_iload hX dL_isStep_293 1 rfl ?_
              refine g_iconst hX (v := 1) dL_isStep_295 (by decide) ?_
              refine g_icmp_ne hX 303 dL_isStep_296 (by decide) (fun c_296 => ?_) (fun c_296 => ?_)
              · skip
                refine g_iconst hX (v := 0) dL_isStep_303 (by decide) ?_
                refine g_iadd hX dL_isStep_304 ?_
                refine g_istore hX (lv' := [(11, .int (lai + 0)), (12, .int 0), (15, .int z_261.1), (14, .int (F_X4_count yv 24)), (0, .ref (ad 0)), (1, .ref (bd 0)), (4, .int wr), (5, .int co), (6, .int tu), (8, .int m), (9, .int idl), (10, .int tol), (13, .int (nI j))]) dL_isStep_305 (by decide) rfl ?_
                refine g_iinc hX (lv' := [(13, .int (nI (j + 1))), (11, .int (lai + 0)), (12, .int 0), (15, .int z_261.1), (14, .int (F_X4_count yv 24)), (0, .ref (ad 0)), (1, .ref (bd 0)), (4, .int wr), (5, .int co), (6, .int tu), (8, .int m), (9, .int idl), (10, .int tol)]) (v := (nI (j + 1))) 12 dL_isStep_307 rfl (nI_1 _) (by decide) rfl ?_
                refine g_goto hX 188 dL_isStep_310 (by decide) ?_
                have e9 : K_L_isStep_188 (n + 1) xv yv p1 wr co tu m idl tol lai e j = K_L_isStep_188 n xv z_261.2 p1 wr co tu m idl tol (lai + 0) 0 (j + 1) := by first | (simp only [K_L_isStep_188, ← hb_232_4, ← hz_232, ← hz_244, ← hz_261, eq_false c_192, eq_false c_197, eq_true c_213, eq_true c_237, eq_true c_249, eq_false c_296, if_true, if_false]; done) | (subst hb_232_4; simp only [K_L_isStep_188, ← hz_232, ← hz_244, ← hz_261, eq_false c_192, eq_false c_197, eq_true c_213, eq_true c_237, eq_true c_249, eq_false c_296, if_true, if_false] <;> rfl)
                rw [e9]
                refine g_lv (lv' := [(0, .ref (ad 0)), (1, .ref (bd 0)), (4, .int wr), (5, .int co), (6, .int tu), (8, .int m), (9, .int idl), (10, .int tol), (11, .int (lai + 0)), (12, .int 0), (13, .int (nI (j + 1)))]) [5, 6, 7, 8, 9, 10, 11, 12, 1, 2, 0] rfl ?_
                exact ih xv z_261.2 p1 wr co tu m idl tol (lai + 0) 0 (j + 1) (by omega) (by omega) hp hx hw_261
              · skip
                refine g_iconst hX (v := 1) dL_isStep_299 (by decide) ?_
                refine g_goto hX 304 dL_isStep_300 (by decide) ?_
                refine g_iadd hX dL_isStep_304 ?_
                refine g_istore hX (lv' := [(11, .int (lai + 1)), (12, .int 0), (15, .int z_261.1), (14, .int (F_X4_count yv 24)), (0, .ref (ad 0)), (1, .ref (bd 0)), (4, .int wr), (5, .int co), (6, .int tu), (8, .int m), (9, .int idl), (10, .int tol), (13, .int (nI j))]) dL_isStep_305 (by decide) rfl ?_
                refine g_iinc hX (lv' := [(13, .int (nI (j + 1))), (11, .int (lai + 1)), (12, .int 0), (15, .int z_261.1), (14, .int (F_X4_count yv 24)), (0, .ref (ad 0)), (1, .ref (bd 0)), (4, .int wr), (5, .int co), (6, .int tu), (8, .int m), (9, .int idl), (10, .int tol)]) (v := (nI (j + 1))) 12 dL_isStep_307 rfl (nI_1 _) (by decide) rfl ?_
                refine g_goto hX 188 dL_isStep_310 (by decide) ?_
                have e9 : K_L_isStep_188 (n + 1) xv yv p1 wr co tu m idl tol lai e j = K_L_isStep_188 n xv z_261.2 p1 wr co tu m idl tol (lai + 1) 0 (j + 1) := by first | (simp only [K_L_isStep_188, ← hb_232_4, ← hz_232, ← hz_244, ← hz_261, eq_false c_192, eq_false c_197, eq_true c_213, eq_true c_237, eq_true c_249, eq_true c_296, if_true, if_false]; done) | (subst hb_232_4; simp only [K_L_isStep_188, ← hz_232, ← hz_244, ← hz_261, eq_false c_192, eq_false c_197, eq_true c_213, eq_true c_237, eq_true c_249, eq_true c_296, if_true, if_false] <;> rfl)
                rw [e9]
                refine g_lv (lv' := [(0, .ref (ad 0)), (1, .ref (bd 0)), (4, .int wr), (5, .int co), (6, .int tu), (8, .int m), (9, .int idl), (10, .int tol), (11, .int (lai + 1)), (12, .int 0), (13, .int (nI (j + 1)))]) [5, 6, 7, 8, 9, 10, 11, 12, 1, 2, 0] rfl ?_
                exact ih xv z_261.2 p1 wr co tu m idl tol (lai + 1) 0 (j + 1) (by omega) (by omega) hp hx hw_261
            · skip
              refine g_iconst hX (v := 1) dL_isStep_252 (by decide) ?_
              refine g_goto hX 257 dL_isStep_253 (by decide) ?_
              refine g_istore hX (lv' := [(12, .int 1), (14, .int (F_X4_count yv 24)), (0, .ref (ad 0)), (1, .ref (bd 0)), (4, .int wr), (5, .int co), (6, .int tu), (8, .int m), (9, .int idl), (10, .int tol), (11, .int lai), (13, .int (nI j))]) dL_isStep_257 (by decide) rfl ?_
              refine g_aload_n hX dL_isStep_259 rfl 3 rfl ?_
              refine g_iconst hX (v := 1) dL_isStep_260 (by decide) ?_
              obtain ⟨z_261, hz_261⟩ : ∃ z : Int32 × XV, z = F_X4_wind z_244.2 1 := ⟨_, rfl⟩
              refine g_sV_I hX (rest := wXX T ad xv) (n := 1) (As := [.int 1]) (wc := wXX T bd z_244.2) (w1 := wXX T bd z_261.2) (rv := z_261.1) (st := []) rfl rfl (by rw [hz_261]; exact (c_X4_wind (xL X) T (xB X) bd z_244.2 1 (by first | exact hy | (rw [hz_232]; exact xWF_set hy) | (rw [hz_244, hz_232]; exact xWF_set (xWF_set hy))))) gL_isStep_X4_wind rfl rfl rfl ⟨Nat.le_of_ble_eq_true rfl, Nat.le_of_ble_eq_true rfl⟩ ⟨Nat.zero_le _, Nat.zero_le _⟩ ⟨by decide +kernel, by decide +kernel, by decide +kernel⟩ rfl (wXX_map T bd _ _) rfl (Nat.le_of_ble_eq_true rfl) dL_isStep_261 ?_
              have hw_261 : xWF z_261.2 := by rw [hz_261]; exact xWF_wind (by first | exact hy | (rw [hz_232]; exact xWF_set hy) | (rw [hz_244, hz_232]; exact xWF_set (xWF_set hy)))
              refine g_istore hX (lv' := [(15, .int z_261.1), (12, .int 1), (14, .int (F_X4_count yv 24)), (0, .ref (ad 0)), (1, .ref (bd 0)), (4, .int wr), (5, .int co), (6, .int tu), (8, .int m), (9, .int idl), (10, .int tol), (11, .int lai), (13, .int (nI j))]) dL_isStep_264 (by decide) rfl ?_
              refine g_iload hX dL_isStep_266 1 rfl ?_
              refine g_if_eq hX 288 dL_isStep_268 (by decide) (fun c0 => absurd c0 (by decide)) (fun _ => ?_)
              refine g_iload hX dL_isStep_271 0 rfl ?_
              refine g_iconst hX (v := 1) dL_isStep_273 (by decide) ?_
              refine g_icmp_gt hX 288 dL_isStep_274 (by decide) (fun c_274 => ?_) (fun c_274 => ?_)
              · skip
                refine g_iconst hX (v := 0) dL_isStep_288 (by decide) ?_
                refine g_istore hX (lv' := [(12, .int 0), (15, .int z_261.1), (14, .int (F_X4_count yv 24)), (0, .ref (ad 0)), (1, .ref (bd 0)), (4, .int wr), (5, .int co), (6, .int tu), (8, .int m), (9, .int idl), (10, .int tol), (11, .int lai), (13, .int (nI j))]) dL_isStep_289 (by decide) rfl ?_
                refine g_iload hX dL_isStep_291 11 rfl ?_
                refine g_iload hX dL_isStep_293 1 rfl ?_
                refine g_iconst hX (v := 1) dL_isStep_295 (by decide) ?_
                refine g_icmp_ne hX 303 dL_isStep_296 (by decide) (fun c_296 => ?_) (fun c_296 => ?_)
                · skip
                  refine g_iconst hX (v := 0) dL_isStep_303 (by decide) ?_
                  refine g_iadd hX dL_isStep_304 ?_
                  refine g_istore hX (lv' := [(11, .int (lai + 0)), (12, .int 0), (15, .int z_261.1), (14, .int (F_X4_count yv 24)), (0, .ref (ad 0)), (1, .ref (bd 0)), (4, .int wr), (5, .int co), (6, .int tu), (8, .int m), (9, .int idl), (10, .int tol), (13, .int (nI j))]) dL_isStep_305 (by decide) rfl ?_
                  refine g_iinc hX (lv' := [(13, .int (nI (j + 1))), (11, .int (lai + 0)), (12, .int 0), (15, .int z_261.1), (14, .int (F_X4_count yv 24)), (0, .ref (ad 0)), (1, .ref (bd 0)), (4, .int wr), (5, .int co), (6, .int tu), (8, .int m), (9, .int idl), (10, .int tol)]) (v := (nI (j + 1))) 12 dL_isStep_307 rfl (nI_1 _) (by decide) rfl ?_
                  refine g_goto hX 188 dL_isStep_310 (by decide) ?_
                  have e9 : K_L_isStep_188 (n + 1) xv yv p1 wr co tu m idl tol lai e j = K_L_isStep_188 n xv z_261.2 p1 wr co tu m idl tol (lai + 0) 0 (j + 1) := by first | (simp only [K_L_isStep_188, ← hb_232_4, ← hz_232, ← hz_244, ← hz_261, eq_false c_192, eq_false c_197, eq_true c_213, eq_true c_237, eq_false c_249, eq_true c_274, eq_false c_296, if_true, if_false]; done) | (subst hb_232_4; simp only [K_L_isStep_188, ← hz_232, ← hz_244, ← hz_261, eq_false c_192, eq_false c_197, eq_true c_213, eq_true c_237, eq_false c_249, eq_true c_274, eq_false c_296, if_true, if_false] <;> rfl)
                  rw [e9]
                  refine g_lv (lv' := [(0, .ref (ad 0)), (1, .ref (bd 0)), (4, .int wr), (5, .int co), (6, .int tu), (8, .int m), (9, .int idl), (10, .int tol), (11, .int (lai + 0)), (12, .int 0), (13, .int (nI (j + 1)))]) [5, 6, 7, 8, 9, 10, 11, 12, 1, 2, 0] rfl ?_
                  exact ih xv z_261.2 p1 wr co tu m idl tol (lai + 0) 0 (j + 1) (by omega) (by omega) hp hx hw_261
                · skip
                  refine g_iconst hX (v := 1) dL_isStep_299 (by decide) ?_
                  refine g_goto hX 304 dL_isStep_300 (by decide) ?_
                  refine g_iadd hX dL_isStep_304 ?_
                  refine g_istore hX (lv' := [(11, .int (lai + 1)), (12, .int 0), (15, .int z_261.1), (14, .int (F_X4_count yv 24)), (0, .ref (ad 0)), (1, .ref (bd 0)), (4, .int wr), (5, .int co), (6, .int tu), (8, .int m), (9, .int idl), (10, .int tol), (13, .int (nI j))]) dL_isStep_305 (by decide) rfl ?_
                  refine g_iinc hX (lv' := [(13, .int (nI (j + 1))), (11, .int (lai + 1)), (12, .int 0), (15, .int z_261.1), (14, .int (F_X4_count yv 24)), (0, .ref (ad 0)), (1, .ref (bd 0)), (4, .int wr), (5, .int co), (6, .int tu), (8, .int m), (9, .int idl), (10, .int tol)]) (v := (nI (j + 1))) 12 dL_isStep_307 rfl (nI_1 _) (by decide) rfl ?_
                  refine g_goto hX 188 dL_isStep_310 (by decide) ?_
                  have e9 : K_L_isStep_188 (n + 1) xv yv p1 wr co tu m idl tol lai e j = K_L_isStep_188 n xv z_261.2 p1 wr co tu m idl tol (lai + 1) 0 (j + 1) := by first | (simp only [K_L_isStep_188, ← hb_232_4, ← hz_232, ← hz_244, ← hz_261, eq_false c_192, eq_false c_197, eq_true c_213, eq_true c_237, eq_false c_249, eq_true c_274, eq_true c_296, if_true, if_false]; done) | (subst hb_232_4; simp only [K_L_isStep_188, ← hz_232, ← hz_244, ← hz_261, eq_false c_192, eq_false c_197, eq_true c_213, eq_true c_237, eq_false c_249, eq_true c_274, eq_true c_296, if_true, if_false] <;> rfl)
                  rw [e9]
                  refine g_lv (lv' := [(0, .ref (ad 0)), (1, .ref (bd 0)), (4, .int wr), (5, .int co), (6, .int tu), (8, .int m), (9, .int idl), (10, .int tol), (11, .int (lai + 1)), (12, .int 0), (13, .int (nI (j + 1)))]) [5, 6, 7, 8, 9, 10, 11, 12, 1, 2, 0] rfl ?_
                  exact ih xv z_261.2 p1 wr co tu m idl tol (lai + 1) 0 (j + 1) (by omega) (by omega) hp hx hw_261
              · skip
                refine g_iload hX dL_isStep_277 0 rfl ?_
                refine g_bipush hX (v := (-2)) dL_isStep_279 (by decide) ?_
                refine g_icmp_eq hX 288 dL_isStep_281 (by decide) (fun c_281 => ?_) (fun c_281 => ?_)
                · skip
                  refine g_iconst hX (v := 0) dL_isStep_288 (by decide) ?_
                  refine g_istore hX (lv' := [(12, .int 0), (15, .int z_261.1), (14, .int (F_X4_count yv 24)), (0, .ref (ad 0)), (1, .ref (bd 0)), (4, .int wr), (5, .int co), (6, .int tu), (8, .int m), (9, .int idl), (10, .int tol), (11, .int lai), (13, .int (nI j))]) dL_isStep_289 (by decide) rfl ?_
                  refine g_iload hX dL_isStep_291 11 rfl ?_
                  refine g_iload hX dL_isStep_293 1 rfl ?_
                  refine g_iconst hX (v := 1) dL_isStep_295 (by decide) ?_
                  refine g_icmp_ne hX 303 dL_isStep_296 (by decide) (fun c_296 => ?_) (fun c_296 => ?_)
                  · skip
                    refine g_iconst hX (v := 0) dL_isStep_303 (by decide) ?_
                    refine g_iadd hX dL_isStep_304 ?_
                    refine g_istore hX (lv' := [(11, .int (lai + 0)), (12, .int 0), (15, .int z_261.1), (14, .int (F_X4_count yv 24)), (0, .ref (ad 0)), (1, .ref (bd 0)), (4, .int wr), (5, .int co), (6, .int tu), (8, .int m), (9, .int idl), (10, .int tol), (13, .int (nI j))]) dL_isStep_305 (by decide) rfl ?_
                    refine g_iinc hX (lv' := [(13, .int (nI (j + 1))), (11, .int (lai + 0)), (12, .int 0), (15, .int z_261.1), (14, .int (F_X4_count yv 24)), (0, .ref (ad 0)), (1, .ref (bd 0)), (4, .int wr), (5, .int co), (6, .int tu), (8, .int m), (9, .int idl), (10, .int tol)]) (v := (nI (j + 1))) 12 dL_isStep_307 rfl (nI_1 _) (by decide) rfl ?_
                    refine g_goto hX 188 dL_isStep_310 (by decide) ?_
                    have e9 : K_L_isStep_188 (n + 1) xv yv p1 wr co tu m idl tol lai e j = K_L_isStep_188 n xv z_261.2 p1 wr co tu m idl tol (lai + 0) 0 (j + 1) := by first | (simp only [K_L_isStep_188, ← hb_232_4, ← hz_232, ← hz_244, ← hz_261, eq_false c_192, eq_false c_197, eq_true c_213, eq_true c_237, eq_false c_249, eq_false c_274, eq_true c_281, eq_false c_296, if_true, if_false]; done) | (subst hb_232_4; simp only [K_L_isStep_188, ← hz_232, ← hz_244, ← hz_261, eq_false c_192, eq_false c_197, eq_true c_213, eq_true c_237, eq_false c_249, eq_false c_274, eq_true c_281, eq_false c_296, if_true, if_false] <;> rfl)
                    rw [e9]
                    refine g_lv (lv' := [(0, .ref (ad 0)), (1, .ref (bd 0)), (4, .int wr), (5, .int co), (6, .int tu), (8, .int m), (9, .int idl), (10, .int tol), (11, .int (lai + 0)), (12, .int 0), (13, .int (nI (j + 1)))]) [5, 6, 7, 8, 9, 10, 11, 12, 1, 2, 0] rfl ?_
                    exact ih xv z_261.2 p1 wr co tu m idl tol (lai + 0) 0 (j + 1) (by omega) (by omega) hp hx hw_261
                  · skip
                    refine g_iconst hX (v := 1) dL_isStep_299 (by decide) ?_
                    refine g_goto hX 304 dL_isStep_300 (by decide) ?_
                    refine g_iadd hX dL_isStep_304 ?_
                    refine g_istore hX (lv' := [(11, .int (lai + 1)), (12, .int 0), (15, .int z_261.1), (14, .int (F_X4_count yv 24)), (0, .ref (ad 0)), (1, .ref (bd 0)), (4, .int wr), (5, .int co), (6, .int tu), (8, .int m), (9, .int idl), (10, .int tol), (13, .int (nI j))]) dL_isStep_305 (by decide) rfl ?_
                    refine g_iinc hX (lv' := [(13, .int (nI (j + 1))), (11, .int (lai + 1)), (12, .int 0), (15, .int z_261.1), (14, .int (F_X4_count yv 24)), (0, .ref (ad 0)), (1, .ref (bd 0)), (4, .int wr), (5, .int co), (6, .int tu), (8, .int m), (9, .int idl), (10, .int tol)]) (v := (nI (j + 1))) 12 dL_isStep_307 rfl (nI_1 _) (by decide) rfl ?_
                    refine g_goto hX 188 dL_isStep_310 (by decide) ?_
                    have e9 : K_L_isStep_188 (n + 1) xv yv p1 wr co tu m idl tol lai e j = K_L_isStep_188 n xv z_261.2 p1 wr co tu m idl tol (lai + 1) 0 (j + 1) := by first | (simp only [K_L_isStep_188, ← hb_232_4, ← hz_232, ← hz_244, ← hz_261, eq_false c_192, eq_false c_197, eq_true c_213, eq_true c_237, eq_false c_249, eq_false c_274, eq_true c_281, eq_true c_296, if_true, if_false]; done) | (subst hb_232_4; simp only [K_L_isStep_188, ← hz_232, ← hz_244, ← hz_261, eq_false c_192, eq_false c_197, eq_true c_213, eq_true c_237, eq_false c_249, eq_false c_274, eq_true c_281, eq_true c_296, if_true, if_false] <;> rfl)
                    rw [e9]
                    refine g_lv (lv' := [(0, .ref (ad 0)), (1, .ref (bd 0)), (4, .int wr), (5, .int co), (6, .int tu), (8, .int m), (9, .int idl), (10, .int tol), (11, .int (lai + 1)), (12, .int 0), (13, .int (nI (j + 1)))]) [5, 6, 7, 8, 9, 10, 11, 12, 1, 2, 0] rfl ?_
                    exact ih xv z_261.2 p1 wr co tu m idl tol (lai + 1) 0 (j + 1) (by omega) (by omega) hp hx hw_261
                · skip
                  refine g_iconst hX (v := 1) dL_isStep_284 (by decide) ?_
                  refine g_goto hX 289 dL_isStep_285 (by decide) ?_
                  refine g_istore hX (lv' := [(12, .int 1), (15, .int z_261.1), (14, .int (F_X4_count yv 24)), (0, .ref (ad 0)), (1, .ref (bd 0)), (4, .int wr), (5, .int co), (6, .int tu), (8, .int m), (9, .int idl), (10, .int tol), (11, .int lai), (13, .int (nI j))]) dL_isStep_289 (by decide) rfl ?_
                  refine g_iload hX dL_isStep_291 11 rfl ?_
                  refine g_iload hX dL_isStep_293 1 rfl ?_
                  refine g_iconst hX (v := 1) dL_isStep_295 (by decide) ?_
                  refine g_icmp_ne hX 303 dL_isStep_296 (by decide) (fun c_296 => ?_) (fun c_296 => ?_)
                  · skip
                    refine g_iconst hX (v := 0) dL_isStep_303 (by decide) ?_
                    refine g_iadd hX dL_isStep_304 ?_
                    refine g_istore hX (lv' := [(11, .int (lai + 0)), (12, .int 1), (15, .int z_261.1), (14, .int (F_X4_count yv 24)), (0, .ref (ad 0)), (1, .ref (bd 0)), (4, .int wr), (5, .int co), (6, .int tu), (8, .int m), (9, .int idl), (10, .int tol), (13, .int (nI j))]) dL_isStep_305 (by decide) rfl ?_
                    refine g_iinc hX (lv' := [(13, .int (nI (j + 1))), (11, .int (lai + 0)), (12, .int 1), (15, .int z_261.1), (14, .int (F_X4_count yv 24)), (0, .ref (ad 0)), (1, .ref (bd 0)), (4, .int wr), (5, .int co), (6, .int tu), (8, .int m), (9, .int idl), (10, .int tol)]) (v := (nI (j + 1))) 12 dL_isStep_307 rfl (nI_1 _) (by decide) rfl ?_
                    refine g_goto hX 188 dL_isStep_310 (by decide) ?_
                    have e9 : K_L_isStep_188 (n + 1) xv yv p1 wr co tu m idl tol lai e j = K_L_isStep_188 n xv z_261.2 p1 wr co tu m idl tol (lai + 0) 1 (j + 1) := by first | (simp only [K_L_isStep_188, ← hb_232_4, ← hz_232, ← hz_244, ← hz_261, eq_false c_192, eq_false c_197, eq_true c_213, eq_true c_237, eq_false c_249, eq_false c_274, eq_false c_281, eq_false c_296, if_true, if_false]; done) | (subst hb_232_4; simp only [K_L_isStep_188, ← hz_232, ← hz_244, ← hz_261, eq_false c_192, eq_false c_197, eq_true c_213, eq_true c_237, eq_false c_249, eq_false c_274, eq_false c_281, eq_false c_296, if_true, if_false] <;> rfl)
                    rw [e9]
                    refine g_lv (lv' := [(0, .ref (ad 0)), (1, .ref (bd 0)), (4, .int wr), (5, .int co), (6, .int tu), (8, .int m), (9, .int idl), (10, .int tol), (11, .int (lai + 0)), (12, .int 1), (13, .int (nI (j + 1)))]) [5, 6, 7, 8, 9, 10, 11, 12, 1, 2, 0] rfl ?_
                    exact ih xv z_261.2 p1 wr co tu m idl tol (lai + 0) 1 (j + 1) (by omega) (by omega) hp hx hw_261
                  · skip
                    refine g_iconst hX (v := 1) dL_isStep_299 (by decide) ?_
                    refine g_goto hX 304 dL_isStep_300 (by decide) ?_
                    refine g_iadd hX dL_isStep_304 ?_
                    refine g_istore hX (lv' := [(11, .int (lai + 1)), (12, .int 1), (15, .int z_261.1), (14, .int (F_X4_count yv 24)), (0, .ref (ad 0)), (1, .ref (bd 0)), (4, .int wr), (5, .int co), (6, .int tu), (8, .int m), (9, .int idl), (10, .int tol), (13, .int (nI j))]) dL_isStep_305 (by decide) rfl ?_
                    refine g_iinc hX (lv' := [(13, .int (nI (j + 1))), (11, .int (lai + 1)), (12, .int 1), (15, .int z_261.1), (14, .int (F_X4_count yv 24)), (0, .ref (ad 0)), (1, .ref (bd 0)), (4, .int wr), (5, .int co), (6, .int tu), (8, .int m), (9, .int idl), (10, .int tol)]) (v := (nI (j + 1))) 12 dL_isStep_307 rfl (nI_1 _) (by decide) rfl ?_
                    refine g_goto hX 188 dL_isStep_310 (by decide) ?_
                    have e9 : K_L_isStep_188 (n + 1) xv yv p1 wr co tu m idl tol lai e j = K_L_isStep_188 n xv z_261.2 p1 wr co tu m idl tol (lai + 1) 1 (j + 1) := by first | (simp only [K_L_isStep_188, ← hb_232_4, ← hz_232, ← hz_244, ← hz_261, eq_false c_192, eq_false c_197, eq_true c_213, eq_true c_237, eq_false c_249, eq_false c_274, eq_false c_281, eq_true c_296, if_true, if_false]; done) | (subst hb_232_4; simp only [K_L_isStep_188, ← hz_232, ← hz_244, ← hz_261, eq_false c_192, eq_false c_197, eq_true c_213, eq_true c_237, eq_false c_249, eq_false c_274, eq_false c_281, eq_true c_296, if_true, if_false] <;> rfl)
                    rw [e9]
                    refine g_lv (lv' := [(0, .ref (ad 0)), (1, .ref (bd 0)), (4, .int wr), (5, .int co), (6, .int tu), (8, .int m), (9, .int idl), (10, .int tol), (11, .int (lai + 1)), (12, .int 1), (13, .int (nI (j + 1)))]) [5, 6, 7, 8, 9, 10, 11, 12, 1, 2, 0] rfl ?_
                    exact ih xv z_261.2 p1 wr co tu m idl tol (lai + 1) 1 (j + 1) (by omega) (by omega) hp hx hw_261
set_option maxHeartbeats 4000000 in
set_option maxRecDepth 100000 in
theorem k_L_isStep_134 {T : TT} {X : CX} (hX : Fit T X (yL_isStep).cls 16 wsL_isStep cL_isStep (some .boolean) rmL_isStep) (ad bd : Nat → Nat) (xv : XV) (yv : XV) (p1 : Int32) (y : Int32) (wr : Int32) (co : Int32) (tu : Int32) (br : Int32) (m : Int32) (hx : xWF xv) (hy : xWF yv) (hp : m.toInt ≤ 70) : G T X (QI T X 0 0 ((K_L_isStep_134 xv yv p1 y wr co tu br m).1) (wXX T ad ((K_L_isStep_134 xv yv p1 y wr co tu br m).2.1) ++ wXX T bd ((K_L_isStep_134 xv yv p1 y wr co tu br m).2.2))) 0 0 (wXX T ad xv ++ wXX T bd yv) [(0, .ref (ad 0)), (1, .ref (bd 0)), (3, .int y), (4, .int wr), (5, .int co), (6, .int tu), (7, .int br), (8, .int m)] 134 [] := by
  obtain ⟨b_169_5, hb_169_5⟩ : ∃ z : Int32, z = (if (F_X4_count xv 6) = 1 then 1 else (if (F_X4_count xv 7) = 1 then 1 else (if (F_X4_count xv 8) = 1 then 1 else 0))) := ⟨_, rfl⟩
  refine g_join 169 (.int b_169_5 :: []) (fun hJ => ?_) ?_
  · skip
    refine g_aload_n hX dL_isStep_134 rfl 0 rfl ?_
    refine g_bipush hX (v := 6) dL_isStep_135 (by decide) ?_
    refine g_pV_I hX (rest := wXX T bd yv) (n := 1) (As := [.int 6]) (wc := wXX T ad xv) (w1 := wXX T ad xv) (rv := (F_X4_count xv 6)) (st := []) 0 rfl rfl (c_X4_count (xL X) T (xB X) ad xv 6) gL_isStep_X4_count rfl rfl rfl ⟨Nat.le_of_ble_eq_true rfl, Nat.le_of_ble_eq_true rfl⟩ ⟨Nat.zero_le _, Nat.zero_le _⟩ ⟨by decide +kernel, by decide +kernel, by decide +kernel⟩ rfl rfl (wXX_map T ad _ _) rfl (Nat.le_of_ble_eq_true rfl) dL_isStep_137 rfl ?_
    refine g_iconst hX (v := 1) dL_isStep_140 (by decide) ?_
    refine g_icmp_eq hX 164 dL_isStep_141 (by decide) (fun c_141 => ?_) (fun c_141 => ?_)
    · skip
      refine g_iconst hX (v := 1) dL_isStep_164 (by decide) ?_
      refine g_goto hX 169 dL_isStep_165 (by decide) ?_
      have e8 : b_169_5 = 1 := by rw [hb_169_5]; simp only [eq_true c_141, if_true, if_false]
      rw [e8] at hJ
      exact hJ
    · skip
      refine g_aload_n hX dL_isStep_144 rfl 0 rfl ?_
      refine g_bipush hX (v := 7) dL_isStep_145 (by decide) ?_
      refine g_pV_I hX (rest := wXX T bd yv) (n := 1) (As := [.int 7]) (wc := wXX T ad xv) (w1 := wXX T ad xv) (rv := (F_X4_count xv 7)) (st := []) 0 rfl rfl (c_X4_count (xL X) T (xB X) ad xv 7) gL_isStep_X4_count rfl rfl rfl ⟨Nat.le_of_ble_eq_true rfl, Nat.le_of_ble_eq_true rfl⟩ ⟨Nat.zero_le _, Nat.zero_le _⟩ ⟨by decide +kernel, by decide +kernel, by decide +kernel⟩ rfl rfl (wXX_map T ad _ _) rfl (Nat.le_of_ble_eq_true rfl) dL_isStep_147 rfl ?_
      refine g_iconst hX (v := 1) dL_isStep_150 (by decide) ?_
      refine g_icmp_eq hX 164 dL_isStep_151 (by decide) (fun c_151 => ?_) (fun c_151 => ?_)
      · skip
        refine g_iconst hX (v := 1) dL_isStep_164 (by decide) ?_
        refine g_goto hX 169 dL_isStep_165 (by decide) ?_
        have e8 : b_169_5 = 1 := by rw [hb_169_5]; simp only [eq_false c_141, eq_true c_151, if_true, if_false]
        rw [e8] at hJ
        exact hJ
      · skip
        refine g_aload_n hX dL_isStep_154 rfl 0 rfl ?_
        refine g_bipush hX (v := 8) dL_isStep_155 (by decide) ?_
        refine g_pV_I hX (rest := wXX T bd yv) (n := 1) (As := [.int 8]) (wc := wXX T ad xv) (w1 := wXX T ad xv) (rv := (F_X4_count xv 8)) (st := []) 0 rfl rfl (c_X4_count (xL X) T (xB X) ad xv 8) gL_isStep_X4_count rfl rfl rfl ⟨Nat.le_of_ble_eq_true rfl, Nat.le_of_ble_eq_true rfl⟩ ⟨Nat.zero_le _, Nat.zero_le _⟩ ⟨by decide +kernel, by decide +kernel, by decide +kernel⟩ rfl rfl (wXX_map T ad _ _) rfl (Nat.le_of_ble_eq_true rfl) dL_isStep_157 rfl ?_
        refine g_iconst hX (v := 1) dL_isStep_160 (by decide) ?_
        refine g_icmp_ne hX 168 dL_isStep_161 (by decide) (fun c_161 => ?_) (fun c_161 => ?_)
        · skip
          refine g_iconst hX (v := 0) dL_isStep_168 (by decide) ?_
          have e8 : b_169_5 = 0 := by rw [hb_169_5]; simp only [eq_false c_141, eq_false c_151, eq_false c_161, if_true, if_false]
          rw [e8] at hJ
          exact hJ
        · skip
          refine g_iconst hX (v := 1) dL_isStep_164 (by decide) ?_
          refine g_goto hX 169 dL_isStep_165 (by decide) ?_
          have e8 : b_169_5 = 1 := by rw [hb_169_5]; simp only [eq_false c_141, eq_false c_151, eq_true c_161, if_true, if_false]
          rw [e8] at hJ
          exact hJ
  refine g_istore hX (lv' := [(9, .int b_169_5), (0, .ref (ad 0)), (1, .ref (bd 0)), (3, .int y), (4, .int wr), (5, .int co), (6, .int tu), (7, .int br), (8, .int m)]) dL_isStep_169 (by decide) rfl ?_
  refine g_aload_n hX dL_isStep_171 rfl 1 rfl ?_
  refine g_iload hX dL_isStep_172 8 rfl ?_
  obtain ⟨z_174, hz_174⟩ : ∃ z : Int32 × XV, z = F_X4_wind xv m := ⟨_, rfl⟩
  refine g_pV_I hX (rest := wXX T bd yv) (n := 1) (As := [.int m]) (wc := wXX T ad xv) (w1 := wXX T ad z_174.2) (rv := z_174.1) (st := []) 0 rfl rfl (by rw [hz_174]; exact (c_X4_wind (xL X) T (xB X) ad xv m hx)) gL_isStep_X4_wind rfl rfl rfl ⟨Nat.le_of_ble_eq_true rfl, Nat.le_of_ble_eq_true rfl⟩ ⟨Nat.zero_le _, Nat.zero_le _⟩ ⟨by decide +kernel, by decide +kernel, by decide +kernel⟩ rfl rfl (wXX_map T ad _ _) rfl (Nat.le_of_ble_eq_true rfl) dL_isStep_174 rfl ?_
  have hw_174 : xWF z_174.2 := by rw [hz_174]; exact xWF_wind hx
  refine g_istore hX (lv' := [(10, .int z_174.1), (9, .int b_169_5), (0, .ref (ad 0)), (1, .ref (bd 0)), (3, .int y), (4, .int wr), (5, .int co), (6, .int tu), (7, .int br), (8, .int m)]) dL_isStep_177 (by decide) rfl ?_
  refine g_iconst hX (v := 0) dL_isStep_179 (by decide) ?_
  refine g_istore hX (lv' := [(11, .int 0), (10, .int z_174.1), (9, .int b_169_5), (0, .ref (ad 0)), (1, .ref (bd 0)), (3, .int y), (4, .int wr), (5, .int co), (6, .int tu), (7, .int br), (8, .int m)]) dL_isStep_180 (by decide) rfl ?_
  refine g_iconst hX (v := 1) dL_isStep_182 (by decide) ?_
  refine g_istore hX (lv' := [(12, .int 1), (11, .int 0), (10, .int z_174.1), (9, .int b_169_5), (0, .ref (ad 0)), (1, .ref (bd 0)), (3, .int y), (4, .int wr), (5, .int co), (6, .int tu), (7, .int br), (8, .int m)]) dL_isStep_183 (by decide) rfl ?_
  refine g_iconst hX (v := 0) dL_isStep_185 (by decide) ?_
  refine g_istore hX (lv' := [(13, .int 0), (12, .int 1), (11, .int 0), (10, .int z_174.1), (9, .int b_169_5), (0, .ref (ad 0)), (1, .ref (bd 0)), (3, .int y), (4, .int wr), (5, .int co), (6, .int tu), (7, .int br), (8, .int m)]) dL_isStep_186 (by decide) rfl ?_
  have e9 : K_L_isStep_134 xv yv p1 y wr co tu br m = K_L_isStep_188 72 z_174.2 yv p1 wr co tu m b_169_5 z_174.1 0 1 0 := by first | (simp only [K_L_isStep_134, ← hb_169_5, ← hz_174, if_true, if_false]; done) | (subst hb_169_5; simp only [K_L_isStep_134, ← hz_174, if_true, if_false] <;> rfl)
  rw [e9]
  refine g_lv (lv' := [(0, .ref (ad 0)), (1, .ref (bd 0)), (4, .int wr), (5, .int co), (6, .int tu), (8, .int m), (9, .int b_169_5), (10, .int z_174.1), (11, .int 0), (12, .int 1), (13, .int (nI 0))]) [5, 6, 8, 9, 10, 12, 4, 3, 2, 1, 0] rfl ?_
  exact k_L_isStep_188 hX ad bd 72 z_174.2 yv p1 wr co tu m b_169_5 z_174.1 0 1 0 (by omega) (by omega) hp hw_174 hy
set_option maxHeartbeats 4000000 in
set_option maxRecDepth 100000 in
theorem k_L_isStep_108 {T : TT} {X : CX} (hX : Fit T X (yL_isStep).cls 16 wsL_isStep cL_isStep (some .boolean) rmL_isStep) (ad bd : Nat → Nat) (xv : XV) (yv : XV) (p1 : Int32) (y : Int32) (wr : Int32) (co : Int32) (tu : Int32) (br : Int32) (hx : xWF xv) (hy : xWF yv) : G T X (QI T X 0 0 ((K_L_isStep_108 xv yv p1 y wr co tu br).1) (wXX T ad ((K_L_isStep_108 xv yv p1 y wr co tu br).2.1) ++ wXX T bd ((K_L_isStep_108 xv yv p1 y wr co tu br).2.2))) 0 0 (wXX T ad xv ++ wXX T bd yv) [(0, .ref (ad 0)), (1, .ref (bd 0)), (3, .int y), (4, .int wr), (5, .int co), (6, .int tu), (7, .int br)] 108 [] := by
  refine g_iconst hX (v := 1) dL_isStep_108 (by decide) ?_
  refine g_iload_n hX dL_isStep_109 rfl 2 rfl ?_
  obtain ⟨b_128_6, hb_128_6⟩ : ∃ z : Int32, z = (if (F_L_up (y >>> ((6 : Int32) &&& 31)) 3) = 0 then 70 else 15) := ⟨_, rfl⟩
  refine g_join 128 (.int b_128_6 :: .int y :: .int 1 :: []) (fun hJ => ?_) ?_
  · skip
    refine g_iload_n hX dL_isStep_110 rfl 2 rfl ?_
    refine g_bipush hX (v := 6) dL_isStep_111 (by decide) ?_
    refine g_ishr hX dL_isStep_113 ?_
    refine g_iconst hX (v := 3) dL_isStep_114 (by decide) ?_
    refine g_cS_I hX (n := 2) (As := [.int (y >>> ((6 : Int32) &&& 31)), .int 3]) (wc := []) (w1 := []) (rv := (F_L_up (y >>> ((6 : Int32) &&& 31)) 3)) (st := [.int y, .int 1]) (c_L_up (xL X) T (xB X) (y >>> ((6 : Int32) &&& 31)) 3 (by decide)) gL_isStep_L_up rfl rfl rfl ⟨Nat.le_of_ble_eq_true rfl, Nat.le_of_ble_eq_true rfl⟩ ⟨Nat.zero_le _, Nat.zero_le _⟩ ⟨by decide +kernel, by decide +kernel, by decide +kernel⟩ rfl [] rfl rfl (by decide) rfl (Nat.le_of_ble_eq_true rfl) dL_isStep_115 (ws' := wXX T ad xv ++ wXX T bd yv) rfl ?_
    refine g_if_ne hX 126 dL_isStep_118 (by decide) (fun c_118 => ?_) (fun c_118 => ?_)
    · skip
      refine g_bipush hX (v := 15) dL_isStep_126 (by decide) ?_
      have e8 : b_128_6 = 15 := by rw [hb_128_6]; simp only [eq_false c_118, if_true, if_false]
      rw [e8] at hJ
      exact hJ
    · skip
      refine g_bipush hX (v := 70) dL_isStep_121 (by decide) ?_
      refine g_goto hX 128 dL_isStep_123 (by decide) ?_
      have e8 : b_128_6 = 70 := by rw [hb_128_6]; simp only [eq_true c_118, if_true, if_false]
      rw [e8] at hJ
      exact hJ
  refine g_cS_I hX (n := 2) (As := [.int y, .int b_128_6]) (wc := []) (w1 := []) (rv := (F_L_up y b_128_6)) (st := [.int 1]) (c_L_up (xL X) T (xB X) y b_128_6 (ite_ne hb_128_6 (by decide) (by decide))) gL_isStep_L_up rfl rfl rfl ⟨Nat.le_of_ble_eq_true rfl, Nat.le_of_ble_eq_true rfl⟩ ⟨Nat.zero_le _, Nat.zero_le _⟩ ⟨by decide +kernel, by decide +kernel, by decide +kernel⟩ rfl [] rfl rfl (by decide) rfl (Nat.le_of_ble_eq_true rfl) dL_isStep_128 (ws' := wXX T ad xv ++ wXX T bd yv) rfl ?_
  refine g_iadd hX dL_isStep_131 ?_
  refine g_istore hX (lv' := [(8, .int (1 + (F_L_up y b_128_6))), (0, .ref (ad 0)), (1, .ref (bd 0)), (3, .int y), (4, .int wr), (5, .int co), (6, .int tu), (7, .int br)]) dL_isStep_132 (by decide) rfl ?_
  have e9 : K_L_isStep_108 xv yv p1 y wr co tu br = K_L_isStep_134 xv yv p1 y wr co tu br (1 + (F_L_up y b_128_6)) := by first | (simp only [K_L_isStep_108, ← hb_128_6, if_true, if_false]; done) | (subst hb_128_6; simp only [K_L_isStep_108, if_true, if_false] <;> rfl)
  rw [e9]
  refine g_lv (lv' := [(0, .ref (ad 0)), (1, .ref (bd 0)), (3, .int y), (4, .int wr), (5, .int co), (6, .int tu), (7, .int br), (8, .int (1 + (F_L_up y b_128_6)))]) [1, 2, 3, 4, 5, 6, 7, 0] rfl ?_
  exact k_L_isStep_134 hX ad bd xv yv p1 y wr co tu br (1 + (F_L_up y b_128_6)) hx hy (many_le hb_128_6)
set_option maxHeartbeats 4000000 in
set_option maxRecDepth 100000 in
theorem c_L_isStep (l : Launch) (T : TT) (b0 : Nat) (ad bd : Nat → Nat) (xv : XV) (yv : XV) (p1 : Int32) (hx : xWF xv) (hy : xWF yv) : ConI l T b0 yL_isStep wsL_isStep rmL_isStep [.ref (ad 0), .ref (bd 0), .int p1] (wXX T ad xv ++ wXX T bd yv) ((F_L_isStep xv yv p1).1) (wXX T ad ((F_L_isStep xv yv p1).2.1) ++ wXX T bd ((F_L_isStep xv yv p1).2.2)) := by
  refine conI_of (cc := cL_isStep) (maxL := 16) (ret := (some .boolean)) (lv0 := [(0, .ref (ad 0)), (1, .ref (bd 0)), (2, .int p1)]) (by decide +kernel) rfl (Nat.le_of_ble_eq_true rfl) rfl (fun X hX => ?_)
  refine g_iload_n hX dL_isStep_0 rfl 2 rfl ?_
  refine g_iconst hX (v := 4) dL_isStep_1 (by decide) ?_
  refine g_ishr hX dL_isStep_2 ?_
  refine g_istore_n hX (lv' := [(3, .int (p1 >>> ((4 : Int32) &&& 31))), (0, .ref (ad 0)), (1, .ref (bd 0)), (2, .int p1)]) dL_isStep_3 rfl (by decide) rfl ?_
  refine g_aload_n hX dL_isStep_4 rfl 1 rfl ?_
  refine g_iconst hX (v := 0) dL_isStep_5 (by decide) ?_
  refine g_pV_I hX (rest := wXX T bd yv) (n := 1) (As := [.int 0]) (wc := wXX T ad xv) (w1 := wXX T ad xv) (rv := (F_X4_count xv 0)) (st := []) 0 rfl rfl (c_X4_count (xL X) T (xB X) ad xv 0) gL_isStep_X4_count rfl rfl rfl ⟨Nat.le_of_ble_eq_true rfl, Nat.le_of_ble_eq_true rfl⟩ ⟨Nat.zero_le _, Nat.zero_le _⟩ ⟨by decide +kernel, by decide +kernel, by decide +kernel⟩ rfl rfl (wXX_map T ad _ _) rfl (Nat.le_of_ble_eq_true rfl) dL_isStep_6 rfl ?_
  refine g_istore hX (lv' := [(4, .int (F_X4_count xv 0)), (3, .int (p1 >>> ((4 : Int32) &&& 31))), (0, .ref (ad 0)), (1, .ref (bd 0)), (2, .int p1)]) dL_isStep_9 (by decide) rfl ?_
  refine g_aload_n hX dL_isStep_11 rfl 2 rfl ?_
  refine g_iconst hX (v := 1) dL_isStep_12 (by decide) ?_
  refine g_pV_I hX (rest := wXX T bd yv) (n := 1) (As := [.int 1]) (wc := wXX T ad xv) (w1 := wXX T ad xv) (rv := (F_X4_count xv 1)) (st := []) 0 rfl rfl (c_X4_count (xL X) T (xB X) ad xv 1) gL_isStep_X4_count rfl rfl rfl ⟨Nat.le_of_ble_eq_true rfl, Nat.le_of_ble_eq_true rfl⟩ ⟨Nat.zero_le _, Nat.zero_le _⟩ ⟨by decide +kernel, by decide +kernel, by decide +kernel⟩ rfl rfl (wXX_map T ad _ _) rfl (Nat.le_of_ble_eq_true rfl) dL_isStep_13 rfl ?_
  refine g_istore hX (lv' := [(5, .int (F_X4_count xv 1)), (4, .int (F_X4_count xv 0)), (3, .int (p1 >>> ((4 : Int32) &&& 31))), (0, .ref (ad 0)), (1, .ref (bd 0)), (2, .int p1)]) dL_isStep_16 (by decide) rfl ?_
  refine g_aload_n hX dL_isStep_18 rfl 3 rfl ?_
  refine g_bipush hX (v := 12) dL_isStep_19 (by decide) ?_
  refine g_pV_I hX (rest := wXX T bd yv) (n := 1) (As := [.int 12]) (wc := wXX T ad xv) (w1 := wXX T ad xv) (rv := (F_X4_count xv 12)) (st := []) 0 rfl rfl (c_X4_count (xL X) T (xB X) ad xv 12) gL_isStep_X4_count rfl rfl rfl ⟨Nat.le_of_ble_eq_true rfl, Nat.le_of_ble_eq_true rfl⟩ ⟨Nat.zero_le _, Nat.zero_le _⟩ ⟨by decide +kernel, by decide +kernel, by decide +kernel⟩ rfl rfl (wXX_map T ad _ _) rfl (Nat.le_of_ble_eq_true rfl) dL_isStep_21 rfl ?_
  refine g_istore hX (lv' := [(6, .int (F_X4_count xv 12)), (5, .int (F_X4_count xv 1)), (4, .int (F_X4_count xv 0)), (3, .int (p1 >>> ((4 : Int32) &&& 31))), (0, .ref (ad 0)), (1, .ref (bd 0)), (2, .int p1)]) dL_isStep_24 (by decide) rfl ?_
  refine g_aload_n hX dL_isStep_26 rfl 4 rfl ?_
  refine g_bipush hX (v := 13) dL_isStep_27 (by decide) ?_
  refine g_pV_I hX (rest := wXX T bd yv) (n := 1) (As := [.int 13]) (wc := wXX T ad xv) (w1 := wXX T ad xv) (rv := (F_X4_count xv 13)) (st := []) 0 rfl rfl (c_X4_count (xL X) T (xB X) ad xv 13) gL_isStep_X4_count rfl rfl rfl ⟨Nat.le_of_ble_eq_true rfl, Nat.le_of_ble_eq_true rfl⟩ ⟨Nat.zero_le _, Nat.zero_le _⟩ ⟨by decide +kernel, by decide +kernel, by decide +kernel⟩ rfl rfl (wXX_map T ad _ _) rfl (Nat.le_of_ble_eq_true rfl) dL_isStep_29 rfl ?_
  refine g_istore hX (lv' := [(7, .int (F_X4_count xv 13)), (6, .int (F_X4_count xv 12)), (5, .int (F_X4_count xv 1)), (4, .int (F_X4_count xv 0)), (3, .int (p1 >>> ((4 : Int32) &&& 31))), (0, .ref (ad 0)), (1, .ref (bd 0)), (2, .int p1)]) dL_isStep_32 (by decide) rfl ?_
  refine g_iload_n hX dL_isStep_34 rfl 7 rfl ?_
  refine g_bipush hX (v := 14) dL_isStep_35 (by decide) ?_
  refine g_cS_I hX (n := 2) (As := [.int p1, .int 14]) (wc := []) (w1 := []) (rv := (F_L_up p1 14)) (st := []) (c_L_up (xL X) T (xB X) p1 14 (by decide)) gL_isStep_L_up rfl rfl rfl ⟨Nat.le_of_ble_eq_true rfl, Nat.le_of_ble_eq_true rfl⟩ ⟨Nat.zero_le _, Nat.zero_le _⟩ ⟨by decide +kernel, by decide +kernel, by decide +kernel⟩ rfl [] rfl rfl (by decide) rfl (Nat.le_of_ble_eq_true rfl) dL_isStep_37 (ws' := wXX T ad xv ++ wXX T bd yv) rfl ?_
  by_cases c_40_0 : (F_L_up p1 14) = 0
  · skip
    refine g_tabIn hX (off := 68) 108 dL_isStep_40 (by rw [c_40_0]; decide) (by rw [c_40_0]; decide) (by rw [c_40_0]; decide) (by decide) ?_
    have e9 : F_L_isStep xv yv p1 = K_L_isStep_108 xv yv p1 (p1 >>> ((4 : Int32) &&& 31)) (F_X4_count xv 0) (F_X4_count xv 1) (F_X4_count xv 12) (F_X4_count xv 13) := by simp only [F_L_isStep, eq_true c_40_0, if_true, if_false]
    rw [e9]
    refine g_lv (lv' := [(0, .ref (ad 0)), (1, .ref (bd 0)), (3, .int (p1 >>> ((4 : Int32) &&& 31))), (4, .int (F_X4_count xv 0)), (5, .int (F_X4_count xv 1)), (6, .int (F_X4_count xv 12)), (7, .int (F_X4_count xv 13))]) [5, 6, 4, 3, 2, 1, 0] rfl ?_
    exact k_L_isStep_108 hX ad bd xv yv p1 (p1 >>> ((4 : Int32) &&& 31)) (F_X4_count xv 0) (F_X4_count xv 1) (F_X4_count xv 12) (F_X4_count xv 13) hx hy
  · skip
    by_cases c_40_1 : (F_L_up p1 14) = 1
    · skip
      refine g_tabIn hX (off := 68) 108 dL_isStep_40 (by rw [c_40_1]; decide) (by rw [c_40_1]; decide) (by rw [c_40_1]; decide) (by decide) ?_
      have e9 : F_L_isStep xv yv p1 = K_L_isStep_108 xv yv p1 (p1 >>> ((4 : Int32) &&& 31)) (F_X4_count xv 0) (F_X4_count xv 1) (F_X4_count xv 12) (F_X4_count xv 13) := by simp only [F_L_isStep, eq_false c_40_0, eq_true c_40_1, if_true, if_false]
      rw [e9]
      refine g_lv (lv' := [(0, .ref (ad 0)), (1, .ref (bd 0)), (3, .int (p1 >>> ((4 : Int32) &&& 31))), (4, .int (F_X4_count xv 0)), (5, .int (F_X4_count xv 1)), (6, .int (F_X4_count xv 12)), (7, .int (F_X4_count xv 13))]) [5, 6, 4, 3, 2, 1, 0] rfl ?_
      exact k_L_isStep_108 hX ad bd xv yv p1 (p1 >>> ((4 : Int32) &&& 31)) (F_X4_count xv 0) (F_X4_count xv 1) (F_X4_count xv 12) (F_X4_count xv 13) hx hy
    · skip
      by_cases c_40_2 : (F_L_up p1 14) = 2
      · skip
        refine g_tabIn hX (off := 68) 108 dL_isStep_40 (by rw [c_40_2]; decide) (by rw [c_40_2]; decide) (by rw [c_40_2]; decide) (by decide) ?_
        have e9 : F_L_isStep xv yv p1 = K_L_isStep_108 xv yv p1 (p1 >>> ((4 : Int32) &&& 31)) (F_X4_count xv 0) (F_X4_count xv 1) (F_X4_count xv 12) (F_X4_count xv 13) := by simp only [F_L_isStep, eq_false c_40_0, eq_false c_40_1, eq_true c_40_2, if_true, if_false]
        rw [e9]
        refine g_lv (lv' := [(0, .ref (ad 0)), (1, .ref (bd 0)), (3, .int (p1 >>> ((4 : Int32) &&& 31))), (4, .int (F_X4_count xv 0)), (5, .int (F_X4_count xv 1)), (6, .int (F_X4_count xv 12)), (7, .int (F_X4_count xv 13))]) [5, 6, 4, 3, 2, 1, 0] rfl ?_
        exact k_L_isStep_108 hX ad bd xv yv p1 (p1 >>> ((4 : Int32) &&& 31)) (F_X4_count xv 0) (F_X4_count xv 1) (F_X4_count xv 12) (F_X4_count xv 13) hx hy
      · skip
        by_cases c_40_3 : (F_L_up p1 14) = 3
        · skip
          refine g_tabIn hX (off := 68) 108 dL_isStep_40 (by rw [c_40_3]; decide) (by rw [c_40_3]; decide) (by rw [c_40_3]; decide) (by decide) ?_
          have e9 : F_L_isStep xv yv p1 = K_L_isStep_108 xv yv p1 (p1 >>> ((4 : Int32) &&& 31)) (F_X4_count xv 0) (F_X4_count xv 1) (F_X4_count xv 12) (F_X4_count xv 13) := by simp only [F_L_isStep, eq_false c_40_0, eq_false c_40_1, eq_false c_40_2, eq_true c_40_3, if_true, if_false]
          rw [e9]
          refine g_lv (lv' := [(0, .ref (ad 0)), (1, .ref (bd 0)), (3, .int (p1 >>> ((4 : Int32) &&& 31))), (4, .int (F_X4_count xv 0)), (5, .int (F_X4_count xv 1)), (6, .int (F_X4_count xv 12)), (7, .int (F_X4_count xv 13))]) [5, 6, 4, 3, 2, 1, 0] rfl ?_
          exact k_L_isStep_108 hX ad bd xv yv p1 (p1 >>> ((4 : Int32) &&& 31)) (F_X4_count xv 0) (F_X4_count xv 1) (F_X4_count xv 12) (F_X4_count xv 13) hx hy
        · skip
          by_cases c_40_4 : (F_L_up p1 14) = 4
          · skip
            refine g_tabIn hX (off := 68) 108 dL_isStep_40 (by rw [c_40_4]; decide) (by rw [c_40_4]; decide) (by rw [c_40_4]; decide) (by decide) ?_
            have e9 : F_L_isStep xv yv p1 = K_L_isStep_108 xv yv p1 (p1 >>> ((4 : Int32) &&& 31)) (F_X4_count xv 0) (F_X4_count xv 1) (F_X4_count xv 12) (F_X4_count xv 13) := by simp only [F_L_isStep, eq_false c_40_0, eq_false c_40_1, eq_false c_40_2, eq_false c_40_3, eq_true c_40_4, if_true, if_false]
            rw [e9]
            refine g_lv (lv' := [(0, .ref (ad 0)), (1, .ref (bd 0)), (3, .int (p1 >>> ((4 : Int32) &&& 31))), (4, .int (F_X4_count xv 0)), (5, .int (F_X4_count xv 1)), (6, .int (F_X4_count xv 12)), (7, .int (F_X4_count xv 13))]) [5, 6, 4, 3, 2, 1, 0] rfl ?_
            exact k_L_isStep_108 hX ad bd xv yv p1 (p1 >>> ((4 : Int32) &&& 31)) (F_X4_count xv 0) (F_X4_count xv 1) (F_X4_count xv 12) (F_X4_count xv 13) hx hy
          · skip
            by_cases c_40_5 : (F_L_up p1 14) = 5
            · skip
              refine g_tabIn hX (off := 378) 418 dL_isStep_40 (by rw [c_40_5]; decide) (by rw [c_40_5]; decide) (by rw [c_40_5]; decide) (by decide) ?_
              have e9 : F_L_isStep xv yv p1 = K_L_isStep_418 xv yv p1 (p1 >>> ((4 : Int32) &&& 31)) (F_X4_count xv 0) (F_X4_count xv 1) (F_X4_count xv 12) (F_X4_count xv 13) := by simp only [F_L_isStep, eq_false c_40_0, eq_false c_40_1, eq_false c_40_2, eq_false c_40_3, eq_false c_40_4, eq_true c_40_5, if_true, if_false]
              rw [e9]
              refine g_lv (lv' := [(0, .ref (ad 0)), (1, .ref (bd 0)), (3, .int (p1 >>> ((4 : Int32) &&& 31))), (4, .int (F_X4_count xv 0)), (5, .int (F_X4_count xv 1)), (6, .int (F_X4_count xv 12)), (7, .int (F_X4_count xv 13))]) [5, 6, 4, 3, 2, 1, 0] rfl ?_
              exact k_L_isStep_418 hX ad bd xv yv p1 (p1 >>> ((4 : Int32) &&& 31)) (F_X4_count xv 0) (F_X4_count xv 1) (F_X4_count xv 12) (F_X4_count xv 13) hx hy
            · skip
              by_cases c_40_6 : (F_L_up p1 14) = 6
              · skip
                refine g_tabIn hX (off := 378) 418 dL_isStep_40 (by rw [c_40_6]; decide) (by rw [c_40_6]; decide) (by rw [c_40_6]; decide) (by decide) ?_
                have e9 : F_L_isStep xv yv p1 = K_L_isStep_418 xv yv p1 (p1 >>> ((4 : Int32) &&& 31)) (F_X4_count xv 0) (F_X4_count xv 1) (F_X4_count xv 12) (F_X4_count xv 13) := by simp only [F_L_isStep, eq_false c_40_0, eq_false c_40_1, eq_false c_40_2, eq_false c_40_3, eq_false c_40_4, eq_false c_40_5, eq_true c_40_6, if_true, if_false]
                rw [e9]
                refine g_lv (lv' := [(0, .ref (ad 0)), (1, .ref (bd 0)), (3, .int (p1 >>> ((4 : Int32) &&& 31))), (4, .int (F_X4_count xv 0)), (5, .int (F_X4_count xv 1)), (6, .int (F_X4_count xv 12)), (7, .int (F_X4_count xv 13))]) [5, 6, 4, 3, 2, 1, 0] rfl ?_
                exact k_L_isStep_418 hX ad bd xv yv p1 (p1 >>> ((4 : Int32) &&& 31)) (F_X4_count xv 0) (F_X4_count xv 1) (F_X4_count xv 12) (F_X4_count xv 13) hx hy
              · skip
                by_cases c_40_7 : (F_L_up p1 14) = 7
                · skip
                  refine g_tabIn hX (off := 378) 418 dL_isStep_40 (by rw [c_40_7]; decide) (by rw [c_40_7]; decide) (by rw [c_40_7]; decide) (by decide) ?_
                  have e9 : F_L_isStep xv yv p1 = K_L_isStep_418 xv yv p1 (p1 >>> ((4 : Int32) &&& 31)) (F_X4_count xv 0) (F_X4_count xv 1) (F_X4_count xv 12) (F_X4_count xv 13) := by simp only [F_L_isStep, eq_false c_40_0, eq_false c_40_1, eq_false c_40_2, eq_false c_40_3, eq_false c_40_4, eq_false c_40_5, eq_false c_40_6, eq_true c_40_7, if_true, if_false]
                  rw [e9]
                  refine g_lv (lv' := [(0, .ref (ad 0)), (1, .ref (bd 0)), (3, .int (p1 >>> ((4 : Int32) &&& 31))), (4, .int (F_X4_count xv 0)), (5, .int (F_X4_count xv 1)), (6, .int (F_X4_count xv 12)), (7, .int (F_X4_count xv 13))]) [5, 6, 4, 3, 2, 1, 0] rfl ?_
                  exact k_L_isStep_418 hX ad bd xv yv p1 (p1 >>> ((4 : Int32) &&& 31)) (F_X4_count xv 0) (F_X4_count xv 1) (F_X4_count xv 12) (F_X4_count xv 13) hx hy
                · skip
                  by_cases c_40_8 : (F_L_up p1 14) = 8
                  · skip
                    refine g_tabIn hX (off := 508) 548 dL_isStep_40 (by rw [c_40_8]; decide) (by rw [c_40_8]; decide) (by rw [c_40_8]; decide) (by decide) ?_
                    have e9 : F_L_isStep xv yv p1 = K_L_isStep_548 xv yv p1 (p1 >>> ((4 : Int32) &&& 31)) (F_X4_count xv 0) (F_X4_count xv 1) (F_X4_count xv 12) (F_X4_count xv 13) := by simp only [F_L_isStep, eq_false c_40_0, eq_false c_40_1, eq_false c_40_2, eq_false c_40_3, eq_false c_40_4, eq_false c_40_5, eq_false c_40_6, eq_false c_40_7, eq_true c_40_8, if_true, if_false]
                    rw [e9]
                    refine g_lv (lv' := [(0, .ref (ad 0)), (1, .ref (bd 0)), (3, .int (p1 >>> ((4 : Int32) &&& 31))), (4, .int (F_X4_count xv 0)), (5, .int (F_X4_count xv 1)), (6, .int (F_X4_count xv 12)), (7, .int (F_X4_count xv 13))]) [5, 6, 4, 3, 2, 1, 0] rfl ?_
                    exact k_L_isStep_548 hX ad bd xv yv p1 (p1 >>> ((4 : Int32) &&& 31)) (F_X4_count xv 0) (F_X4_count xv 1) (F_X4_count xv 12) (F_X4_count xv 13) hx hy
                  · skip
                    by_cases c_40_9 : (F_L_up p1 14) = 9
                    · skip
                      refine g_tabIn hX (off := 508) 548 dL_isStep_40 (by rw [c_40_9]; decide) (by rw [c_40_9]; decide) (by rw [c_40_9]; decide) (by decide) ?_
                      have e9 : F_L_isStep xv yv p1 = K_L_isStep_548 xv yv p1 (p1 >>> ((4 : Int32) &&& 31)) (F_X4_count xv 0) (F_X4_count xv 1) (F_X4_count xv 12) (F_X4_count xv 13) := by simp only [F_L_isStep, eq_false c_40_0, eq_false c_40_1, eq_false c_40_2, eq_false c_40_3, eq_false c_40_4, eq_false c_40_5, eq_false c_40_6, eq_false c_40_7, eq_false c_40_8, eq_true c_40_9, if_true, if_false]
                      rw [e9]
                      refine g_lv (lv' := [(0, .ref (ad 0)), (1, .ref (bd 0)), (3, .int (p1 >>> ((4 : Int32) &&& 31))), (4, .int (F_X4_count xv 0)), (5, .int (F_X4_count xv 1)), (6, .int (F_X4_count xv 12)), (7, .int (F_X4_count xv 13))]) [5, 6, 4, 3, 2, 1, 0] rfl ?_
                      exact k_L_isStep_548 hX ad bd xv yv p1 (p1 >>> ((4 : Int32) &&& 31)) (F_X4_count xv 0) (F_X4_count xv 1) (F_X4_count xv 12) (F_X4_count xv 13) hx hy
                    · skip
                      by_cases c_40_10 : (F_L_up p1 14) = 10
                      · skip
                        refine g_tabIn hX (off := 508) 548 dL_isStep_40 (by rw [c_40_10]; decide) (by rw [c_40_10]; decide) (by rw [c_40_10]; decide) (by decide) ?_
                        have e9 : F_L_isStep xv yv p1 = K_L_isStep_548 xv yv p1 (p1 >>> ((4 : Int32) &&& 31)) (F_X4_count xv 0) (F_X4_count xv 1) (F_X4_count xv 12) (F_X4_count xv 13) := by simp only [F_L_isStep, eq_false c_40_0, eq_false c_40_1, eq_false c_40_2, eq_false c_40_3, eq_false c_40_4, eq_false c_40_5, eq_false c_40_6, eq_false c_40_7, eq_false c_40_8, eq_false c_40_9, eq_true c_40_10, if_true, if_false]
                        rw [e9]
                        refine g_lv (lv' := [(0, .ref (ad 0)), (1, .ref (bd 0)), (3, .int (p1 >>> ((4 : Int32) &&& 31))), (4, .int (F_X4_count xv 0)), (5, .int (F_X4_count xv 1)), (6, .int (F_X4_count xv 12)), (7, .int (F_X4_count xv 13))]) [5, 6, 4, 3, 2, 1, 0] rfl ?_
                        exact k_L_isStep_548 hX ad bd xv yv p1 (p1 >>> ((4 : Int32) &&& 31)) (F_X4_count xv 0) (F_X4_count xv 1) (F_X4_count xv 12) (F_X4_count xv 13) hx hy
                      · skip
                        by_cases c_40_11 : (F_L_up p1 14) = 11
                        · skip
                          refine g_tabIn hX (off := 645) 685 dL_isStep_40 (by rw [c_40_11]; decide) (by rw [c_40_11]; decide) (by rw [c_40_11]; decide) (by decide) ?_
                          have e9 : F_L_isStep xv yv p1 = K_L_isStep_685 xv yv p1 (p1 >>> ((4 : Int32) &&& 31)) (F_X4_count xv 0) (F_X4_count xv 1) (F_X4_count xv 12) (F_X4_count xv 13) := by simp only [F_L_isStep, eq_false c_40_0, eq_false c_40_1, eq_false c_40_2, eq_false c_40_3, eq_false c_40_4, eq_false c_40_5, eq_false c_40_6, eq_false c_40_7, eq_false c_40_8, eq_false c_40_9, eq_false c_40_10, eq_true c_40_11, if_true, if_false]
                          rw [e9]
                          refine g_lv (lv' := [(0, .ref (ad 0)), (1, .ref (bd 0)), (3, .int (p1 >>> ((4 : Int32) &&& 31))), (4, .int (F_X4_count xv 0)), (5, .int (F_X4_count xv 1)), (6, .int (F_X4_count xv 12)), (7, .int (F_X4_count xv 13))]) [5, 6, 4, 3, 2, 1, 0] rfl ?_
                          exact k_L_isStep_685 hX ad bd xv yv p1 (p1 >>> ((4 : Int32) &&& 31)) (F_X4_count xv 0) (F_X4_count xv 1) (F_X4_count xv 12) (F_X4_count xv 13) hx hy
                        · skip
                          by_cases c_40_12 : (F_L_up p1 14) = 12
                          · skip
                            refine g_tabIn hX (off := 730) 770 dL_isStep_40 (by rw [c_40_12]; decide) (by rw [c_40_12]; decide) (by rw [c_40_12]; decide) (by decide) ?_
                            have e9 : F_L_isStep xv yv p1 = K_L_isStep_770 xv yv p1 (p1 >>> ((4 : Int32) &&& 31)) (F_X4_count xv 0) (F_X4_count xv 1) (F_X4_count xv 12) (F_X4_count xv 13) := by simp only [F_L_isStep, eq_false c_40_0, eq_false c_40_1, eq_false c_40_2, eq_false c_40_3, eq_false c_40_4, eq_false c_40_5, eq_false c_40_6, eq_false c_40_7, eq_false c_40_8, eq_false c_40_9, eq_false c_40_10, eq_false c_40_11, eq_true c_40_12, if_true, if_false]
                            rw [e9]
                            refine g_lv (lv' := [(0, .ref (ad 0)), (1, .ref (bd 0)), (3, .int (p1 >>> ((4 : Int32) &&& 31))), (4, .int (F_X4_count xv 0)), (5, .int (F_X4_count xv 1)), (6, .int (F_X4_count xv 12)), (7, .int (F_X4_count xv 13))]) [5, 6, 4, 3, 2, 1, 0] rfl ?_
                            exact k_L_isStep_770 hX ad bd xv yv p1 (p1 >>> ((4 : Int32) &&& 31)) (F_X4_count xv 0) (F_X4_count xv 1) (F_X4_count xv 12) (F_X4_count xv 13) hx hy
                          · skip
                            have tc_40_0 : ¬ Int32.toInt (F_L_up p1 14) = 0 := lv_neT c_40_0 (by decide)
                            have tc_40_1 : ¬ Int32.toInt (F_L_up p1 14) = 1 := lv_neT c_40_1 (by decide)
                            have tc_40_2 : ¬ Int32.toInt (F_L_up p1 14) = 2 := lv_neT c_40_2 (by decide)
                            have tc_40_3 : ¬ Int32.toInt (F_L_up p1 14) = 3 := lv_neT c_40_3 (by decide)
                            have tc_40_4 : ¬ Int32.toInt (F_L_up p1 14) = 4 := lv_neT c_40_4 (by decide)
                            have tc_40_5 : ¬ Int32.toInt (F_L_up p1 14) = 5 := lv_neT c_40_5 (by decide)
                            have tc_40_6 : ¬ Int32.toInt (F_L_up p1 14) = 6 := lv_neT c_40_6 (by decide)
                            have tc_40_7 : ¬ Int32.toInt (F_L_up p1 14) = 7 := lv_neT c_40_7 (by decide)
                            have tc_40_8 : ¬ Int32.toInt (F_L_up p1 14) = 8 := lv_neT c_40_8 (by decide)
                            have tc_40_9 : ¬ Int32.toInt (F_L_up p1 14) = 9 := lv_neT c_40_9 (by decide)
                            have tc_40_10 : ¬ Int32.toInt (F_L_up p1 14) = 10 := lv_neT c_40_10 (by decide)
                            have tc_40_11 : ¬ Int32.toInt (F_L_up p1 14) = 11 := lv_neT c_40_11 (by decide)
                            have tc_40_12 : ¬ Int32.toInt (F_L_up p1 14) = 12 := lv_neT c_40_12 (by decide)
                            refine g_tabOut hX 891 dL_isStep_40 (by omega) (by decide) ?_
                            have e9 : F_L_isStep xv yv p1 = K_L_isStep_891 xv yv p1 (p1 >>> ((4 : Int32) &&& 31)) (F_X4_count xv 0) (F_X4_count xv 1) (F_X4_count xv 12) (F_X4_count xv 13) := by simp only [F_L_isStep, eq_false c_40_0, eq_false c_40_1, eq_false c_40_2, eq_false c_40_3, eq_false c_40_4, eq_false c_40_5, eq_false c_40_6, eq_false c_40_7, eq_false c_40_8, eq_false c_40_9, eq_false c_40_10, eq_false c_40_11, eq_false c_40_12, if_true, if_false]
                            rw [e9]
                            refine g_lv (lv' := [(0, .ref (ad 0)), (1, .ref (bd 0)), (3, .int (p1 >>> ((4 : Int32) &&& 31))), (4, .int (F_X4_count xv 0)), (5, .int (F_X4_count xv 1)), (6, .int (F_X4_count xv 12)), (7, .int (F_X4_count xv 13))]) [5, 6, 4, 3, 2, 1, 0] rfl ?_
                            exact k_L_isStep_891 hX ad bd xv yv p1 (p1 >>> ((4 : Int32) &&& 31)) (F_X4_count xv 0) (F_X4_count xv 1) (F_X4_count xv 12) (F_X4_count xv 13) hx hy
