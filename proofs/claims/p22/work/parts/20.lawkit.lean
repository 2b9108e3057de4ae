/-! Rows for the law's own methods -/
theorem wXX_map (T : TT) (ad : Nat → Nat) (X Y : XV) : (wXX T ad X).map (fun q => q.1) = (wXX T ad Y).map (fun q => q.1) := rfl
theorem wXX2_map (T : TT) (ad bd : Nat → Nat) (X X' Y Y' : XV) : (wXX T ad X ++ wXX T bd Y).map (fun q => q.1) = (wXX T ad X' ++ wXX T bd Y').map (fun q => q.1) := rfl
def Scr (X : CX) (b L : Nat) (xs : Nat → Int32) : Prop := va_X b L xs (xS X) (xS X).heap ∧ b < (xS X).heap.size ∧ ¬ xA X b
section GL
variable {T : TT} {X : CX} {own : String} {nL : Nat} {Ts : List Cond} {cc : ByteArray} {ret : Option FieldType} {R : Room} {Q : State → Prop} {cells slots : Nat} {ws w1 : va_W} {lv : List (Nat × Value)} {pc : Nat} {st : List Value} {rv : Int32}
theorem g_ishr (hX : Fit T X own nL Ts cc ret R) {x y : Int32} (hdg : decode cc pc = .ok (.ishr, 1)) (k : G T X Q cells slots ws lv (pc + 1) (.int (x >>> (y &&& 31)) :: st)) : G T X Q cells slots ws lv pc (.int y :: .int x :: st) := fun H locs ls hP hD hS hl => lv_ishr hX.1 hX.2.1 hdg (k H locs ls hP hD hS hl)
/-- two roads that meet -/
theorem g_join (pc' : Nat) (st' : List Value) (h : G T X Q cells slots ws lv pc' st' → G T X Q cells slots ws lv pc st) (k : G T X Q cells slots ws lv pc' st') : G T X Q cells slots ws lv pc st := h k
theorem g_sld (hX : Fit T X own nL Ts cc ret R) {b L : Nat} {xs : Nat → Int32} (hs : Scr X b L xs) {i : Int32} (hin : vp_in i L) (hdg : decode cc pc = .ok (.iaload, 1)) (k : G T X Q cells slots ws lv (pc + 1) (.int (xs i.toNatClampNeg) :: st)) : G T X Q cells slots ws lv pc (.int i :: .ref b :: st) :=
  fun H locs ls hP hD hS hl => va_sld hX.1 hX.2.1 hs.1 hs.2.1 hs.2.2 hS hin hdg (k H locs ls hP hD hS hl)
theorem g_slen (hX : Fit T X own nL Ts cc ret R) {b L : Nat} {xs : Nat → Int32} (hs : Scr X b L xs) (hdg : decode cc pc = .ok (.arraylength, 1)) (k : G T X Q cells slots ws lv (pc + 1) (.int (nI L) :: st)) : G T X Q cells slots ws lv pc (.ref b :: st) :=
  fun H locs ls hP hD hS hl => va_slen hX.1 hX.2.1 hs.1 hs.2.1 hs.2.2 hS hdg (k H locs ls hP hD hS hl)
/-- a call on the last cells -/
theorem g_sV_I (hX : Fit T X own nL Ts cc ret R) {y : MethodName} {bytes : ByteArray} {maxL n index : Nat} {ret' : Option FieldType} {wds wds' : List Cond} {rm : Room} {As : List Value} {wc rest : va_W} {stk : List Value} {b ci : Nat} {fs : List Value} {U : u_T} {N : Nat} (hrec : (wc ++ rest)[0]? = some (b, .inr (ci, fs))) (hc : vwCl[ci]? = some (y.cls, U, N)) (hM : ConI (xL X) T (xB X) y wds rm (.ref b :: As) wc rv w1) (hG : GoodIn Ts (wsV own index y.cls y wds)) (hw : wds = Cond.code y bytes maxL ret' :: wds') (hrc : rm.cells = 0) (hrs : rm.slots = 0) (hR : rm.frames + 1 ≤ R.frames ∧ 8 + (maxL + 11) + rm.locals ≤ R.locals) (hcs : cells ≤ R.cells ∧ slots ≤ R.slots) (hd : y.cls ≠ "java/lang/invoke/MethodHandle" ∧ y.cls ≠ "java/lang/invoke/VarHandle" ∧ (parseMethodDescriptor y.desc).map (fun d => d.parameters.length) = some n) (hlen : As.length = n) (hA : w1.map (fun q => q.1) = wc.map (fun q => q.1)) (hstk : stk = As.reverse ++ .ref b :: st) (hcat : (st.map fun v => v.category).sum ≤ 8) (hdg : decode cc pc = .ok (.invokevirtual index, 3)) (k : G T X Q cells slots (rest ++ w1) lv (pc + 3) (.int rv :: st)) : G T X Q cells slots (rest ++ wc) lv pc stk := by
  refine g_perm List.perm_append_comm ?_
  exact g_pV_I hX 0 hrec hc hM hG hw hrc hrs hR hcs hd hlen rfl hA hstk hcat hdg rfl (g_perm List.perm_append_comm k)
/-- a static call on the first cells -/
theorem g_pS_I (hX : Fit T X own nL Ts cc ret R) {y : MethodName} {bytes : ByteArray} {maxL n index : Nat} {ret' : Option FieldType} {wds wds' : List Cond} {rm : Room} {As : List Value} {wc rest ws' : va_W} {stk : List Value} (hM : ConI (xL X) T (xB X) y wds rm As wc rv w1) (hG : GoodIn Ts (va_wsS own index y wds)) (hw : wds = Cond.code y bytes maxL ret' :: wds') (hrc : rm.cells = 0) (hrs : rm.slots = 0) (hR : rm.frames + 1 ≤ R.frames ∧ 8 + (maxL + 11) + rm.locals ≤ R.locals) (hcs : cells ≤ R.cells ∧ slots ≤ R.slots) (hd : y.cls ≠ "java/lang/invoke/MethodHandle" ∧ y.cls ≠ "java/lang/invoke/VarHandle" ∧ (parseMethodDescriptor y.desc).map (fun d => d.parameters.length) = some n) (hlen : As.length = n) (hws0 : ws = wc ++ rest) (hA : w1.map (fun q => q.1) = wc.map (fun q => q.1)) (hstk : stk = As.reverse ++ st) (hcat : (st.map fun v => v.category).sum ≤ 8) (hdg : decode cc pc = .ok (.invokestatic index, 3)) (hws : w1 ++ rest = ws') (k : G T X Q cells slots ws' lv (pc + 3) (.int rv :: st)) : G T X Q cells slots ws lv pc stk := by
  subst hws
  subst hws0
  intro H locs ls hP hD hS hl
  have hPc := zva_P_left hP
  have hDc := zva_D_left hD
  have hFc := zva_freeP hD hS hX.2.2.2.2.2.2.1
  have hR' : rm.frames + 1 ≤ (xR X).frames ∧ 8 + (maxL + 11) + rm.locals ≤ (xR X).locals := by rw [hX.2.2.2.2.2.2.2.2.2.2.2]; exact hR
  have hcs' : cells + 0 ≤ (xR X).cells ∧ slots + 0 ≤ (xR X).slots := by rw [hX.2.2.2.2.2.2.2.2.2.2.2]; exact hcs
  refine va_calli (va_runS (As := As) (rest := st) ⟨hX.1, hX.2.1, rfl, hX.2.2.2.1, hX.2.2.2.2.1⟩ (hM H.size (fit_low hX hS)) (va_cwS n hX.2.2.2.2.1 hG hw hrc hrs hd hR') ⟨PreC_blind, fun U hU hW => ⟨rfl, by rw [hU], by rw [hU]; exact hPc, va_K.moved hW.alike hX.2.2.2.2.2.1, hDc.weaken (fun _ q _ h => hX.2.2.2.2.2.2.2.2.2.1 _ h), hX.2.2.2.2.2.2.2.2.1.moved hS hX.2.2.2.2.2.2.2.2.2.1 hW hU⟩⟩ rfl hlen hl.1 hstk (lv_room hcat) hdg hcs') hS (fun q _ h => hFc q h) hFc (fun r u t H1 locs1 ht hvm hw2 hB hz1 hk1 hS1 => ?_)
  obtain ⟨rfl, rfl⟩ := hw2
  obtain ⟨hP1, hD1⟩ := hB
  rw [ht] at hP1
  obtain ⟨hP2, hD2⟩ := zva_backP hP hD hA hk1 hP1
  exact k H1 locs1 ls hP2 hD2 hS1 hl
end GL
/-! The script's cell: a call over a row that nobody writes -/
def PreScr (T : TT) (b0 : Nat) (b L : Nat) (xs : Nat → Int32) (av : List Value) (sz : Nat) : Array Value → State → Prop := fun a U => PreC T b0 av [] sz a U ∧ va_X b L xs U U.heap ∧ b < sz
theorem PreScr_blind {T : TT} {b0 b L : Nat} {xs : Nat → Int32} {av : List Value} {sz : Nat} : FrameBlind (PreScr T b0 b L xs av sz) := fun a U g mk q =>
  ⟨PreC_blind a U g mk q.1, va_X.moved (u := U) (U := U.calling g mk a) (Vm.Alike.refl U.vm) q.2.1, q.2.2⟩
def rmL_cell : Room := { frames := 0, cells := 0, slots := 0, locals := 0 }
theorem k_L_cell_0 : Cond.constant RL 7 (2059654633) ∈ wsL_cell := List.mem_of_getElem? (i := 1) rfl
/-- any answer, no cell -/
def QAny (T : TT) (X : CX) : State → Prop := MQ (xBl X) (va_Qi (fun (_ : Int32) (w : va_W) => w = []) (fun w t => va_P T.1 vwCl w t.heap ∧ va_D (xA X) w) (xA X)) (xAr X) (xS X) 0 0 (xA X)
theorem g_nret {T : TT} {X : CX} {own : String} {nL : Nat} {Ts : List Cond} {cc : ByteArray} {R : Room} {lv : List (Nat × Value)} {pc : Nat} {x : Int32} (hX : Fit T X own nL Ts cc (some .int) R) (hdg : decode cc pc = .ok (.ireturn, 1)) : G T X (QAny T X) 0 0 [] lv pc [.int x] := by
  intro H locs ls hP hD hS hl
  exact W.iret hX.1 hX.2.1 hX.2.2.2.2.2.2.2.2.2.2.1 (fun t ht hW => ⟨⟨x, [], rfl, rfl, by rw [ht]; exact hP, hD⟩, hS.F ht⟩) hS.2.2 hdg (hlocks := hX.2.2.2.2.2.2.2.1)
set_option maxHeartbeats 4000000 in
theorem c_L_cell (l : Launch) (T : TT) (b0 b L : Nat) (xs : Nat → Int32) (k : Nat) (hk : k < 2 ^ 31) (hL : L < 2 ^ 31) (sz : Nat) (hsz : b0 ≤ sz) : Met l yL_cell wsL_cell rmL_cell (PreScr T b0 b L xs [.ref b, .int (nI k)] sz) (va_Qi (fun (_ : Int32) (w : va_W) => w = []) (fun w t => va_P T.1 vwCl w t.heap ∧ va_D (va_A [] sz) w) (va_A [] sz)) 0 0 (va_A [] sz) := by
  refine Met.ofW (cc := cL_cell) (maxL := 2) (ret := some .int) (by decide +kernel) rfl ?_
  intro p e s m args below meth c s₁ B hml hv
  obtain ⟨⟨rfl, hs, hP, hK, hD, hE⟩, hx, hb⟩ := hv
  have hts := atoms_spec (ws := wsL_cell) B.pre
  have hown : s.vm.findClass yL_cell.cls = some m.cls := findClass_of_methodNamed B.named
  subst hs
  have hAB : ∀ q, va_A [] s.heap.size q → b0 ≤ q := fun q h => by
    rcases h with ⟨k, e, h⟩ | h
    · simp at h
    · omega
  have hX : Fit T ((p, l, e, rmL_cell, s), (m, ([.ref b, .int (nI k)] : List Value).toArray, below, meth, c), (va_A [] s.heap.size, b0)) yL_cell.cls 2 wsL_cell cL_cell (some .int) rmL_cell := ⟨B.exec, B.bytes, hml, hown, hts, hK, fun q h => Or.inr h, B.notSynchronized, hE, hAB, B.returns, rfl⟩
  have hbA : ¬ va_A [] s.heap.size b := fun z => by
    rcases z with ⟨k, e, h⟩ | h
    · simp at h
    · omega
  have hsc : Scr ((p, l, e, rmL_cell, s), (m, ([.ref b, .int (nI k)] : List Value).toArray, below, meth, c), (va_A [] s.heap.size, b0)) b L xs := ⟨hx, hb, hbA⟩
  have hl := lv_entry ([.ref b, .int (nI k)]) (n := 2) (Nat.le_of_ble_eq_true rfl)
  have body : G T ((p, l, e, rmL_cell, s), (m, ([.ref b, .int (nI k)] : List Value).toArray, below, meth, c), (va_A [] s.heap.size, b0)) (QAny T ((p, l, e, rmL_cell, s), (m, ([.ref b, .int (nI k)] : List Value).toArray, below, meth, c), (va_A [] s.heap.size, b0))) 0 0 [] [(0, .ref b), (1, .int (nI k))] 0 [] := by
    refine g_iload_n hX dL_cell_0 rfl 1 rfl ?_
    refine g_aload_n hX dL_cell_1 rfl 0 rfl ?_
    refine g_slen hX hsc dL_cell_2 ?_
    refine g_icmp_ge hX 12 dL_cell_3 (by decide) (fun c => ?_) (fun c => ?_)
    · refine g_ldc hX (v := 2059654633) k_L_cell_0 dL_cell_12 ?_
      refine g_iload_n hX dL_cell_14 rfl 1 rfl ?_
      refine g_sipush hX (v := 1039) dL_cell_15 (by decide) ?_
      refine g_iadd hX dL_cell_18 ?_
      refine g_imul hX dL_cell_19 ?_
      exact g_nret hX dL_cell_20
    · have hlt : k < L := by
        rw [nI_leI hL hk] at c
        omega
      refine g_aload_n hX dL_cell_6 rfl 0 rfl ?_
      refine g_iload_n hX dL_cell_7 rfl 1 rfl ?_
      refine g_sld hX hsc (vp_in_nI hlt (by omega)) dL_cell_8 ?_
      refine g_goto hX 20 dL_cell_9 (by decide) ?_
      exact g_nret hX dL_cell_20
  have k9 := body s.heap [] _ hP (hD.weaken (fun _ q h _ => by simp at h)) va_S.rf (by show lv_has _ c.maxLocals _; rw [hml]; exact hl)
  rw [lg_entry_eq]
  exact k9
theorem g_cell {T : TT} {X : CX} {nL : Nat} {Ts : List Cond} {cc : ByteArray} {ret : Option FieldType} {R : Room} {Q : State → Prop} {cells slots : Nat} {ws : va_W} {lv : List (Nat × Value)} {pc index : Nat} {st : List Value} (hX : Fit T X RL nL Ts cc ret R) {b L : Nat} {xs : Nat → Int32} (hs : Scr X b L xs) (hL : L < 2 ^ 31) {k : Nat} (hk : k < 2 ^ 31) (hG : GoodIn Ts (va_wsS RL index yL_cell wsL_cell)) (hR : rmL_cell.frames + 1 ≤ R.frames ∧ 8 + (2 + 11) + rmL_cell.locals ≤ R.locals) (hcs : cells ≤ R.cells ∧ slots ≤ R.slots) (hcat : (st.map fun v => v.category).sum ≤ 8) (hdg : decode cc pc = .ok (.invokestatic index, 3)) (kk : ∀ x : Int32, G T X Q cells slots ws lv (pc + 3) (.int x :: st)) : G T X Q cells slots ws lv pc (.int (nI k) :: .ref b :: st) := by
  intro H locs ls hP hD hS hl
  have hFc := zva_freeP (wc := []) (rest := ws) hD hS hX.2.2.2.2.2.2.1
  have hR' : rmL_cell.frames + 1 ≤ (xR X).frames ∧ 8 + (2 + 11) + rmL_cell.locals ≤ (xR X).locals := by rw [hX.2.2.2.2.2.2.2.2.2.2.2]; exact hR
  have hcs' : cells + 0 ≤ (xR X).cells ∧ slots + 0 ≤ (xR X).slots := by rw [hX.2.2.2.2.2.2.2.2.2.2.2]; exact hcs
  have hq : H[b]? = (xS X).heap[b]? := hS.2.1 b hs.2.1 hs.2.2
  have hbl : b < H.size := Nat.lt_of_lt_of_le hs.2.1 hS.1
  refine va_calli (va_runS (As := [.ref b, .int (nI k)]) (rest := st) ⟨hX.1, hX.2.1, rfl, hX.2.2.2.1, hX.2.2.2.2.1⟩ (c_L_cell (xL X) T (xB X) b L xs k hk hL H.size (fit_low hX hS)) (va_cwS 2 hX.2.2.2.2.1 hG rfl rfl rfl ⟨by decide +kernel, by decide +kernel, by decide +kernel⟩ hR') ⟨PreScr_blind, fun U hU hW => ⟨⟨rfl, by rw [hU], fun k q h => by simp at h, va_K.moved hW.alike hX.2.2.2.2.2.1, ⟨fun i j p q h => by simp at h, fun k q h => by simp at h⟩, hX.2.2.2.2.2.2.2.2.1.moved hS hX.2.2.2.2.2.2.2.2.2.1 hW hU⟩, by rw [hU]; exact (hs.1.kept hq).moved hW.alike, hbl⟩⟩ rfl rfl hl.1 rfl (lv_room hcat) hdg hcs') hS (fun q _ h => hFc q h) hFc (fun r u t H1 locs1 ht hvm hw2 hB hz1 hk1 hS1 => ?_)
  subst hw2
  obtain ⟨hP1, hD1⟩ := hB
  rw [ht] at hP1
  obtain ⟨hP2, hD2⟩ := zva_backP (wc := []) (rest := ws) (w1 := []) hP hD rfl hk1 hP1
  exact kk r H1 locs1 ls hP2 hD2 hS1 hl
/-! What the walks ask of the pure side -/
theorem per_K (xv : XV) (p1 : Int32) : ∀ n j : Nat, j + n = 23 → 1 ≤ j → 1 ≤ n → ∃ k : Nat, 1 ≤ k ∧ k ≤ 22 ∧ K_X4_period_13 n xv p1 j = nI k := by
  intro n
  induction n with
  | zero => intro j h1 h2 h3; omega
  | succ n ih =>
    intro j h1 h2 _
    unfold K_X4_period_13
    by_cases c : 22 ≤ j
    · have hc : (22 : Int32) ≤ nI j := (nI_leI (a := 22) (by omega) (by omega)).mpr c
      rw [if_pos hc]
      exact ⟨j, h2, by omega, rfl⟩
    · have hc : ¬ (22 : Int32) ≤ nI j := fun z => c ((nI_leI (a := 22) (by omega) (by omega)).mp z)
      rw [if_neg hc]
      split
      · exact ⟨j, h2, by omega, rfl⟩
      · exact ih (j + 1) (by omega) (by omega) (by omega)
theorem per_ne (xv : XV) (p1 : Int32) : ¬ F_X4_period xv p1 = 0 := by
  unfold F_X4_period
  split
  · decide
  · obtain ⟨k, h1, h2, e⟩ := per_K xv p1 22 1 (by omega) (by omega) (by omega)
    rw [e]
    exact nI_ne0 (by omega) (by omega)
theorem b01 (p q r s : Prop) [Decidable p] [Decidable q] [Decidable r] [Decidable s] : (if p then (0 : Int32) else if q then 1 else if r then 1 else if s then 1 else 0) = 0 ∨ (if p then (0 : Int32) else if q then 1 else if r then 1 else if s then 1 else 0) = 1 := by
  repeat' split
  all_goals first | exact Or.inl rfl | exact Or.inr rfl
theorem c01 (p q : Prop) [Decidable p] [Decidable q] : (if p then (0 : Int32) else if q then 1 else 0) = 0 ∨ (if p then (0 : Int32) else if q then 1 else 0) = 1 := by
  repeat' split
  all_goals first | exact Or.inl rfl | exact Or.inr rfl
theorem and31 (x : Int32) : ∃ a : Nat, a < 2 ^ 31 ∧ x &&& 2147483647 = nI a := by
  have h : (x &&& 2147483647).toBitVec = x.toBitVec &&& 2147483647#32 := by simp
  refine ⟨(x &&& 2147483647).toBitVec.toNat, ?_, ?_⟩
  · rw [h, BitVec.toNat_and]
    have : (2147483647#32).toNat = 2 ^ 31 - 1 := by decide
    rw [this, Nat.and_two_pow_sub_one_eq_mod]
    exact Nat.mod_lt _ (by omega)
  · apply Int32.toBitVec_inj.mp
    show _ = (Int32.ofNat _).toBitVec
    simp
theorem fin_wf {xv : XV} (h : xWF xv) {n : SV} (hn : sB n) (a : Int32) : xWF (F_X4_finishAct (xv.1, xv.2.1, n, xv.2.2.2.1, xv.2.2.2.2.1, xv.2.2.2.2.2.1, xv.2.2.2.2.2.2) a).2 := by
  obtain ⟨h1, h2, h3, h4, j, hj, e⟩ := h
  unfold F_X4_finishAct
  split
  · exact ⟨h1, hn, h3, h4, j, hj, e⟩
  · refine ⟨hn, hn, h3, fun k hk => ?_, ?_⟩
    · show sB (updS xv.2.2.2.2.2.1.2 (xv.2.2.2.2.2.1.1 0).toNatClampNeg xv.2.1 k)
      unfold updS
      split
      · exact h1
      · exact h4 k hk
    · have e2 : (F_X1_remember xv.2.2.2.2.2.1 xv.2.1).1 0 = nI j + 1 - (nI j + 1) / 4 * 4 := by
        rw [← e]
        rfl
      refine ⟨(j + 1) % 4, Nat.mod_lt _ (by omega), ?_⟩
      show (F_X1_remember xv.2.2.2.2.2.1 xv.2.1).1 0 = _
      rw [e2]
      exact (show ∀ j : Fin 4, nI j.val + 1 - (nI j.val + 1) / 4 * 4 = nI ((j.val + 1) % 4) from by decide +kernel) ⟨j, hj⟩
theorem xWF_set {xv : XV} (h : xWF xv) {a b : Int32} : xWF (F_X4_set xv a b).2 := fin_wf h (sB_changeNumber h.1) _
theorem xWF_wind {xv : XV} (h : xWF xv) {a : Int32} : xWF (F_X4_wind xv a).2 := fin_wf h (sB_turnOften h.1) _
theorem xWF_knot {xv : XV} (h : xWF xv) : xWF (F_X4_knot xv).2 := fin_wf h (sB_tieKnot h.1) _
theorem xWF_cone {xv : XV} (h : xWF xv) {a : Int32} : xWF (F_X4_cone xv a).2 := fin_wf h (sB_changeCone h.1) _
theorem xWF_doff {xv : XV} (h : xWF xv) : xWF (F_X4_doff xv).2 := fin_wf h (sB_takePackageOff h.1) _
