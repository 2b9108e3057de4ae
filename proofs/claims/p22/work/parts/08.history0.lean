/-! The history: a ring of four states; the whole winder's cells -/
abbrev HV : Type := (Nat → Int32) × (Nat → SV)
abbrev XV : Type := (Nat → Int32) × SV × SV × SV × WV × HV × TV
def updS (f : Nat → SV) (k : Nat) (v : SV) : Nat → SV := fun j => if j = k then v else f j
abbrev fSt (ad : Nat → Nat) : Nat → Option Nat := fun j => some (ad (20 + 5 * j))
abbrev wHh (T : TT) (ad : Nat → Nat) (c : Nat → Int32) : va_W := [(ad 18, .inr (1, [.ref (ad 19), .int (c 0), .int (c 1)])), (ad 19, .inl (T.2.2.2, 4, .inr (.inr (.inr (.inr (fSt ad))))))]
abbrev wHi (T : TT) (ad : Nat → Nat) (v : HV) : va_W := wHh T ad v.1 ++ wSt T (ad 20) (ad 21) (ad 22) (ad 23) (ad 24) (v.2 0) ++ wSt T (ad 25) (ad 26) (ad 27) (ad 28) (ad 29) (v.2 1) ++ wSt T (ad 30) (ad 31) (ad 32) (ad 33) (ad 34) (v.2 2) ++ wSt T (ad 35) (ad 36) (ad 37) (ad 38) (ad 39) (v.2 3)
abbrev wXX (T : TT) (ad : Nat → Nat) (X : XV) : va_W := [(ad 0, .inr (4, [.ref (ad 1), .ref (ad 6), .ref (ad 11), .ref (ad 16), .ref (ad 18), .ref (ad 40), .int (X.1 0), .int (X.1 1)]))] ++ wSt T (ad 1) (ad 2) (ad 3) (ad 4) (ad 5) X.2.1 ++ wSt T (ad 6) (ad 7) (ad 8) (ad 9) (ad 10) X.2.2.1 ++ wSt T (ad 11) (ad 12) (ad 13) (ad 14) (ad 15) X.2.2.2.1 ++ wWr T (ad 16) (ad 17) X.2.2.2.2.1 ++ wHi T ad X.2.2.2.2.2.1 ++ wTx T (ad 40) (ad 41) (ad 42) (ad 43) X.2.2.2.2.2.2
/-- a contract whose answer is a cell -/
def ConR (l : Launch) (T : TT) (b0 : Nat) (y : MethodName) (wds : List Cond) (rm : Room) (av : List Value) (w0 : va_W) (ra : Nat) (w1 : va_W) : Prop := ∀ sz : Nat, b0 ≤ sz → Met l y wds rm (PreC T b0 av w0 sz) (va_Qr (fun (w : va_W) => w = w1) (fun w a t => a = ra ∧ va_P T.1 vwCl w t.heap ∧ va_D (va_A w0 sz) w) (va_A w0 sz)) 0 0 (va_A w0 sz)
def QR (T : TT) (X : CX) (mc ms : Nat) (ra : Nat) (w1 : va_W) : State → Prop := MQ (xBl X) (va_Qr (fun (w : va_W) => w = w1) (fun w a t => a = ra ∧ va_P T.1 vwCl w t.heap ∧ va_D (xA X) w) (xA X)) (xAr X) (xS X) mc ms (xA X)
theorem conR_of {l : Launch} {T : TT} {b0 : Nat} {y : MethodName} {wds wds' : List Cond} {rm : Room} {av : List Value} {w0 w1 : va_W} {ra : Nat} {cc : ByteArray} {maxL : Nat} {ret : Option FieldType} {lv0 : List (Nat × Value)} (hy : plainName y.cls = true) (hw : wds = .code y cc maxL ret :: wds') (hav : (lg_sl av).length ≤ maxL) (hlv : lv_args 0 av = lv0)
    (body : ∀ X : CX, Fit T X y.cls maxL wds cc ret rm → G T X (QR T X 0 0 ra w1) 0 0 w0 lv0 0 []) : ConR l T b0 y wds rm av w0 ra w1 := fun sz hsz =>
  fit_body hy hw hav hlv hsz (fun X hX hl hB hn hA hs => by
    have k := body X hX
    unfold QR at k
    rw [hA] at k ⊢
    exact k)
section GCR
variable {T : TT} {X : CX} {own : String} {nL : Nat} {Ts : List Cond} {cc : ByteArray} {ret : Option FieldType} {R : Room} {Q : State → Prop} {cells slots : Nat} {ws w1 : va_W} {lv : List (Nat × Value)} {pc : Nat} {st : List Value}
theorem g_aret {C : String} {x : Nat} (hX : Fit T X own nL Ts cc (some (.object C)) R) (hdg : decode cc pc = .ok (.areturn, 1)) (hw : ws = w1) : G T X (QR T X cells slots x w1) cells slots ws lv pc [.ref x] := by
  subst hw
  intro H locs ls hP hD hS hl
  exact W.aret hX.1 hX.2.1 hX.2.2.2.2.2.2.2.2.2.2.1 (Or.inl ⟨C, rfl⟩) (Or.inr ⟨x, rfl⟩) (fun t ht hW => ⟨⟨ws, x, rfl, rfl, rfl, by rw [ht]; exact hP, hD⟩, hS.F ht⟩) hS.2.2 hdg (hlocks := hX.2.2.2.2.2.2.2.1)
theorem g_cV_R (hX : Fit T X own nL Ts cc ret R) {y : MethodName} {bytes : ByteArray} {maxL n index : Nat} {ret' : Option FieldType} {wds wds' : List Cond} {rm : Room} {As : List Value} {wc ws' : va_W} {stk : List Value} {ra : Nat} {b ci : Nat} {fs : List Value} {U : u_T} {N : Nat} (q0 : Nat) (hrec : ws[q0]? = some (b, .inr (ci, fs))) (hc : vwCl[ci]? = some (y.cls, U, N)) (hM : ConR (xL X) T (xB X) y wds rm (.ref b :: As) wc ra w1) (hG : GoodIn Ts (wsV own index y.cls y wds)) (hw : wds = Cond.code y bytes maxL ret' :: wds') (hrc : rm.cells = 0) (hrs : rm.slots = 0) (hR : rm.frames + 1 ≤ R.frames ∧ 8 + (maxL + 11) + rm.locals ≤ R.locals) (hcs : cells ≤ R.cells ∧ slots ≤ R.slots) (hd : y.cls ≠ "java/lang/invoke/MethodHandle" ∧ y.cls ≠ "java/lang/invoke/VarHandle" ∧ (parseMethodDescriptor y.desc).map (fun d => d.parameters.length) = some n) (hlen : As.length = n) (is : List Nat) (hC : is.map (fun i => ws[i]?) = wc.map some) (hA : w1.map (fun q => q.1) = wc.map (fun q => q.1)) (hn : va_nd is = true) (hstk : stk = As.reverse ++ .ref b :: st) (hcat : (st.map fun v => v.category).sum ≤ 8) (hdg : decode cc pc = .ok (.invokevirtual index, 3)) (hws : wput ws is w1 = ws') (k : G T X Q cells slots ws' lv (pc + 3) (.ref ra :: st)) : G T X Q cells slots ws lv pc stk := by
  subst hws
  intro H locs ls hP hD hS hl
  have hPc := va_sub hP is hC
  have hDc : va_D (xA X) wc := hD.sub is hn hC
  have hFc := va_free (wc := wc) hD hS hX.2.2.2.2.2.2.1 is hC
  have hR' : rm.frames + 1 ≤ (xR X).frames ∧ 8 + (maxL + 11) + rm.locals ≤ (xR X).locals := by rw [hX.2.2.2.2.2.2.2.2.2.2.2]; exact hR
  have hcs' : cells + 0 ≤ (xR X).cells ∧ slots + 0 ≤ (xR X).slots := by rw [hX.2.2.2.2.2.2.2.2.2.2.2]; exact hcs
  refine va_callr (va_runV (As := As) (rest := st) ⟨hX.1, hX.2.1, rfl, hX.2.2.2.1, hX.2.2.2.2.1⟩ (hM H.size (fit_low hX hS)) (cwV n hX.2.2.2.2.1 hG hw hrc hrs ⟨rfl, hd⟩ hR') ⟨PreC_blind, va_recv hX.2.2.2.2.2.1 hP hc hrec, fun U hU hW => ⟨rfl, by rw [hU], by rw [hU]; exact hPc, va_K.moved hW.alike hX.2.2.2.2.2.1, hDc.weaken (fun _ q _ h => hX.2.2.2.2.2.2.2.2.2.1 _ h), hX.2.2.2.2.2.2.2.2.1.moved hS hX.2.2.2.2.2.2.2.2.2.1 hW hU⟩⟩ rfl hlen hl.1 hstk (lv_room hcat) hdg hcs') hS (fun q _ h => hFc q h) hFc (fun u a t H1 locs1 ht hvm hw2 hB hz1 hk1 hS1 => ?_)
  subst hw2
  obtain ⟨ha, hP1, hD1⟩ := hB
  subst ha
  rw [ht] at hP1
  obtain ⟨hP2, hD2⟩ := va_back hP hD is hC hA hn hk1 hP1
  exact k H1 locs1 ls hP2 hD2 hS1 hl
end GCR
def rmX1_stateAt : Room := { frames := 0, cells := 0, slots := 0, locals := 0 }
theorem k_X1_stateAt_0 : Cond.fieldLink RX1 11 RX1 (TX1 0).2.1 (TX1 0).2.2.1 ∈ wsX1_stateAt := List.mem_of_getElem? (i := 1) rfl
theorem h_X1_stateAt_X1 : ∀ w ∈ u_ws RX1 TX1 3, w ∈ wsX1_stateAt := fun w h => List.mem_cons_of_mem _ (List.mem_append_right _ h)
set_option maxHeartbeats 4000000 in
set_option maxRecDepth 100000 in
theorem c_X1_stateAt (l : Launch) (T : TT) (b0 : Nat) (ad : Nat → Nat) (c : Nat → Int32) (p1 : Int32) (j : Nat) (hp : p1 = nI j) (hj : j < 4) : ConR l T b0 yX1_stateAt wsX1_stateAt rmX1_stateAt [.ref (ad 18), .int p1] (wHh T ad c) (ad (20 + 5 * j)) (wHh T ad c) := by
  refine conR_of (cc := cX1_stateAt) (maxL := 2) (ret := (some (.object "ThreadWinder$State"))) (lv0 := [(0, .ref (ad 18)), (1, .int p1)]) (by decide +kernel) rfl (Nat.le_of_ble_eq_true rfl) rfl (fun X hX => ?_)
  subst hp
  refine g_iload_n hX dX1_stateAt_0 rfl 1 rfl ?_
  refine g_if_lt hX 22 dX1_stateAt_1 (by decide) (fun c_1 => absurd c_1 (nI_pos (by omega))) (fun c_1 => ?_)
  refine g_iload_n hX dX1_stateAt_4 rfl 1 rfl ?_
  refine g_aload_n hX dX1_stateAt_5 rfl 0 rfl ?_
  refine g_get hX 1 h_X1_stateAt_X1 0 rfl rfl 0 (by decide) k_X1_stateAt_0 rfl (v := .ref (ad 19)) rfl dX1_stateAt_6 ?_
  refine g_alen hX 1 2 rfl rfl (v := 4) rfl dX1_stateAt_9 ?_
  refine g_icmp_ge hX 22 dX1_stateAt_10 (by decide) (fun c_10 => absurd (show nI 4 ≤ nI j from c_10) (nI_ge hj (by omega))) (fun c_10 => ?_)
  refine g_aload_n hX dX1_stateAt_13 rfl 0 rfl ?_
  refine g_get hX 1 h_X1_stateAt_X1 0 rfl rfl 0 (by decide) k_X1_stateAt_0 rfl (v := .ref (ad 19)) rfl dX1_stateAt_14 ?_
  refine g_iload_n hX dX1_stateAt_17 rfl 1 rfl ?_
  refine g_aald hX 1 rfl (vp_in_nI hj (by omega)) (v := ad (20 + 5 * j)) (by show some (ad (20 + 5 * (nI j).toNatClampNeg)) = _; rw [nI_clamp (by omega)]) dX1_stateAt_18 ?_
  refine g_goto hX 23 dX1_stateAt_19 (by decide) ?_
  exact g_aret hX dX1_stateAt_23 rfl
