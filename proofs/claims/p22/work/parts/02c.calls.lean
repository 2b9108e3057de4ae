theorem EnvOk.calling {T : TT} {b0 : Nat} {U : State} (g : JFrame) (mk : MethodId) (a : Array Value) (h : EnvOk T b0 U) : EnvOk T b0 (U.calling g mk a) := by
  obtain ⟨h1, ⟨t2, a2, b2⟩, ⟨t3, a3, b3⟩, t4, a4, b4, c4⟩ := h
  have hk : ∀ w ∈ nws, w.onTables = true := fun w hw => by
    have h0 := List.all_eq_true.mp nws_all w hw
    cases w <;> first | rfl | (exact absurd h0 (by decide)) | (simp [nK] at h0)
  have ha : U.vm.Alike (U.calling g mk a).vm := Vm.Alike.refl U.vm
  exact ⟨fun w hw => va_Nw.same (u := U) (U := U.calling g mk a) (hk w hw) rfl (h1 w hw), ⟨t2, a2.moved ha, b2.moved ha⟩, ⟨t3, a3.moved ha, b3.moved ha⟩, t4, a4.moved ha, b4, c4.1, va_Nw.same (u := U) (U := U.calling g mk a) rfl rfl c4.2.1, c4.2.2.moved ha⟩
theorem PreC_blind {T : TT} {b0 : Nat} {av : List Value} {w0 : va_W} {sz : Nat} : FrameBlind (PreC T b0 av w0 sz) := fun a U g mk q => by
  obtain ⟨q0, q1, q2, q3, q4, q5⟩ := q
  exact ⟨q0, q1, q2, va_K.moved (u := U) (U := U.calling g mk a) (Vm.Alike.refl U.vm) q3, q4, q5.calling g mk a⟩
theorem fit_body {l : Launch} {T : TT} {b0 : Nat} {y : MethodName} {wds wds' : List Cond} {rm : Room} {av : List Value} {w0 : va_W} {cc : ByteArray} {maxL : Nat} {ret : Option FieldType} {lv0 : List (Nat × Value)} {Qc : Array Value → State → Outcome → State → Prop} {mc ms sz : Nat} (hy : plainName y.cls = true) (hw : wds = .code y cc maxL ret :: wds') (hav : (lg_sl av).length ≤ maxL) (hlv : lv_args 0 av = lv0) (hsz : b0 ≤ sz)
    (body : ∀ X : CX, Fit T X y.cls maxL wds cc ret rm → xL X = l → xB X = b0 → (xMe X).name = y.name → xA X = va_A w0 sz → (xS X).heap.size = sz → G T X (MQ (xBl X) Qc (xAr X) (xS X) mc ms (xA X)) 0 0 w0 lv0 0 []) : Met l y wds rm (PreC T b0 av w0 sz) Qc mc ms (va_A w0 sz) := by
  refine Met.ofW (cc := cc) (maxL := maxL) (ret := ret) hy hw ?_
  intro p e s m args below meth c s₁ B hml hv
  obtain ⟨rfl, hs, hP, hK, hD, hE⟩ := hv
  have hts := atoms_spec (ws := wds) B.pre
  have hown : s.vm.findClass y.cls = some m.cls := findClass_of_methodNamed B.named
  subst hs
  have hD1 : va_D (va_A w0 s.heap.size) w0 := hD.self
  have hAB : ∀ q, va_A w0 s.heap.size q → b0 ≤ q := fun q h => by
    rcases h with ⟨k, e, h⟩ | h
    · exact hD.2 k _ h
    · omega
  have hX : Fit T ((p, l, e, rm, s), (m, av.toArray, below, meth, c), (va_A w0 s.heap.size, b0)) y.cls maxL wds cc ret rm := ⟨B.exec, B.bytes, hml, hown, hts, hK, fun q h => Or.inr h, B.notSynchronized, hE, hAB, B.returns, rfl⟩
  have hl := lv_entry av (n := maxL) hav
  have k := body _ hX rfl rfl (name_of_methodNamed B.named B.method).1 rfl rfl s.heap [] _ hP hD1 va_S.rf (by show lv_has _ c.maxLocals lv0; rw [hml, ← hlv]; exact hl)
  rw [lg_entry_eq]
  exact k
theorem conI_of {l : Launch} {T : TT} {b0 : Nat} {y : MethodName} {wds wds' : List Cond} {rm : Room} {av : List Value} {w0 w1 : va_W} {rv : Int32} {cc : ByteArray} {maxL : Nat} {ret : Option FieldType} {lv0 : List (Nat × Value)} (hy : plainName y.cls = true) (hw : wds = .code y cc maxL ret :: wds') (hav : (lg_sl av).length ≤ maxL) (hlv : lv_args 0 av = lv0)
    (body : ∀ X : CX, Fit T X y.cls maxL wds cc ret rm → G T X (QI T X 0 0 rv w1) 0 0 w0 lv0 0 []) : ConI l T b0 y wds rm av w0 rv w1 := fun sz hsz =>
  fit_body hy hw hav hlv hsz (fun X hX hl hB hn hA hs => by
    have k := body X hX
    unfold QI at k
    rw [hA] at k ⊢
    exact k)
theorem conV_of {l : Launch} {T : TT} {b0 : Nat} {y : MethodName} {wds wds' : List Cond} {rm : Room} {av : List Value} {w0 w1 : va_W} {cc : ByteArray} {maxL : Nat} {ret : Option FieldType} {lv0 : List (Nat × Value)} (hy : plainName y.cls = true) (hw : wds = .code y cc maxL ret :: wds') (hav : (lg_sl av).length ≤ maxL) (hlv : lv_args 0 av = lv0)
    (body : ∀ X : CX, Fit T X y.cls maxL wds cc ret rm → G T X (QV T X 0 0 w1) 0 0 w0 lv0 0 []) : ConV l T b0 y wds rm av w0 w1 := fun sz hsz =>
  fit_body hy hw hav hlv hsz (fun X hX hl hB hn hA hs => by
    have k := body X hX
    unfold QV at k
    rw [hA] at k ⊢
    exact k)
section GC
variable {T : TT} {X : CX} {own : String} {nL : Nat} {Ts : List Cond} {cc : ByteArray} {ret : Option FieldType} {R : Room} {Q : State → Prop} {cells slots : Nat} {ws w1 : va_W} {lv : List (Nat × Value)} {pc : Nat} {st : List Value} {x rv : Int32}
theorem g_iret (hX : Fit T X own nL Ts cc (some .int) R) (hdg : decode cc pc = .ok (.ireturn, 1)) (hr : x = rv) (hw : ws = w1) : G T X (QI T X cells slots rv w1) cells slots ws lv pc [.int x] := by
  subst hw
  subst hr
  intro H locs ls hP hD hS hl
  exact W.iret hX.1 hX.2.1 hX.2.2.2.2.2.2.2.2.2.2.1 (fun t ht hW => ⟨⟨x, ws, rfl, ⟨rfl, rfl⟩, by rw [ht]; exact hP, hD⟩, hS.F ht⟩) hS.2.2 hdg (hlocks := hX.2.2.2.2.2.2.2.1)
theorem g_zret (hX : Fit T X own nL Ts cc (some .boolean) R) (hdg : decode cc pc = .ok (.ireturn, 1)) (hn : narrow .boolean (.int x) = .int x) (hr : x = rv) (hw : ws = w1) : G T X (QI T X cells slots rv w1) cells slots ws lv pc [.int x] := by
  subst hw
  subst hr
  intro H locs ls hP hD hS hl
  exact W.zret hX.1 hX.2.1 hX.2.2.2.2.2.2.2.2.2.2.1 hn (fun t ht hW => ⟨⟨x, ws, rfl, ⟨rfl, rfl⟩, by rw [ht]; exact hP, hD⟩, hS.F ht⟩) hS.2.2 hdg (hlocks := hX.2.2.2.2.2.2.2.1)
theorem g_vret (hX : Fit T X own nL Ts cc none R) (hdg : decode cc pc = .ok (.return_, 1)) (hw : ws = w1) : G T X (QV T X cells slots w1) cells slots ws lv pc [] := by
  subst hw
  intro H locs ls hP hD hS hl
  exact W.vret hX.1 hX.2.1 hX.2.2.2.2.2.2.2.2.2.2.1 (fun t ht hW => ⟨⟨ws, rfl, rfl, by rw [ht]; exact hP, hD⟩, hS.F ht⟩) hS.2.2 hdg (hlocks := hX.2.2.2.2.2.2.2.1)
theorem fit_low (hX : Fit T X own nL Ts cc ret R) {H : Heap} {locs : List Loc} (hS : va_S (xA X) (xS X).heap H locs) : xB X ≤ H.size := hX.2.2.2.2.2.2.2.2.2.1 _ (hX.2.2.2.2.2.2.1 _ hS.1)
theorem g_cV_I (hX : Fit T X own nL Ts cc ret R) {y : MethodName} {bytes : ByteArray} {maxL n index : Nat} {ret' : Option FieldType} {wds wds' : List Cond} {rm : Room} {As : List Value} {wc ws' : va_W} {stk : List Value} {b ci : Nat} {fs : List Value} {U : u_T} {N : Nat} (q0 : Nat) (hrec : ws[q0]? = some (b, .inr (ci, fs))) (hc : vwCl[ci]? = some (y.cls, U, N)) (hM : ConI (xL X) T (xB X) y wds rm (.ref b :: As) wc rv w1) (hG : GoodIn Ts (wsV own index y.cls y wds)) (hw : wds = Cond.code y bytes maxL ret' :: wds') (hrc : rm.cells = 0) (hrs : rm.slots = 0) (hR : rm.frames + 1 ≤ R.frames ∧ 8 + (maxL + 11) + rm.locals ≤ R.locals) (hcs : cells ≤ R.cells ∧ slots ≤ R.slots) (hd : y.cls ≠ "java/lang/invoke/MethodHandle" ∧ y.cls ≠ "java/lang/invoke/VarHandle" ∧ (parseMethodDescriptor y.desc).map (fun d => d.parameters.length) = some n) (hlen : As.length = n) (is : List Nat) (hC : is.map (fun i => ws[i]?) = wc.map some) (hA : w1.map (fun q => q.1) = wc.map (fun q => q.1)) (hn : va_nd is = true) (hstk : stk = As.reverse ++ .ref b :: st) (hcat : (st.map fun v => v.category).sum ≤ 8) (hdg : decode cc pc = .ok (.invokevirtual index, 3)) (hws : wput ws is w1 = ws') (k : G T X Q cells slots ws' lv (pc + 3) (.int rv :: st)) : G T X Q cells slots ws lv pc stk := by
  subst hws
  intro H locs ls hP hD hS hl
  have hPc := va_sub hP is hC
  have hDc : va_D (xA X) wc := hD.sub is hn hC
  have hFc := va_free (wc := wc) hD hS hX.2.2.2.2.2.2.1 is hC
  have hR' : rm.frames + 1 ≤ (xR X).frames ∧ 8 + (maxL + 11) + rm.locals ≤ (xR X).locals := by rw [hX.2.2.2.2.2.2.2.2.2.2.2]; exact hR
  have hcs' : cells + 0 ≤ (xR X).cells ∧ slots + 0 ≤ (xR X).slots := by rw [hX.2.2.2.2.2.2.2.2.2.2.2]; exact hcs
  refine va_calli (va_runV (As := As) (rest := st) ⟨hX.1, hX.2.1, rfl, hX.2.2.2.1, hX.2.2.2.2.1⟩ (hM H.size (fit_low hX hS)) (cwV n hX.2.2.2.2.1 hG hw hrc hrs ⟨rfl, hd⟩ hR') ⟨PreC_blind, va_recv hX.2.2.2.2.2.1 hP hc hrec, fun U hU hW => ⟨rfl, by rw [hU], by rw [hU]; exact hPc, va_K.moved hW.alike hX.2.2.2.2.2.1, hDc.weaken (fun _ q _ h => hX.2.2.2.2.2.2.2.2.2.1 _ h), hX.2.2.2.2.2.2.2.2.1.moved hS hX.2.2.2.2.2.2.2.2.2.1 hW hU⟩⟩ rfl hlen hl.1 hstk (lv_room hcat) hdg hcs') hS (fun q _ h => hFc q h) hFc (fun r u t H1 locs1 ht hvm hw2 hB hz1 hk1 hS1 => ?_)
  obtain ⟨rfl, rfl⟩ := hw2
  obtain ⟨hP1, hD1⟩ := hB
  rw [ht] at hP1
  obtain ⟨hP2, hD2⟩ := va_back hP hD is hC hA hn hk1 hP1
  exact k H1 locs1 ls hP2 hD2 hS1 hl
theorem g_cV_V (hX : Fit T X own nL Ts cc ret R) {y : MethodName} {bytes : ByteArray} {maxL n index : Nat} {ret' : Option FieldType} {wds wds' : List Cond} {rm : Room} {As : List Value} {wc ws' : va_W} {stk : List Value} {b ci : Nat} {fs : List Value} {U : u_T} {N : Nat} (q0 : Nat) (hrec : ws[q0]? = some (b, .inr (ci, fs))) (hc : vwCl[ci]? = some (y.cls, U, N)) (hM : ConV (xL X) T (xB X) y wds rm (.ref b :: As) wc w1) (hG : GoodIn Ts (wsV own index y.cls y wds)) (hw : wds = Cond.code y bytes maxL ret' :: wds') (hrc : rm.cells = 0) (hrs : rm.slots = 0) (hR : rm.frames + 1 ≤ R.frames ∧ 8 + (maxL + 11) + rm.locals ≤ R.locals) (hcs : cells ≤ R.cells ∧ slots ≤ R.slots) (hd : y.cls ≠ "java/lang/invoke/MethodHandle" ∧ y.cls ≠ "java/lang/invoke/VarHandle" ∧ (parseMethodDescriptor y.desc).map (fun d => d.parameters.length) = some n) (hlen : As.length = n) (is : List Nat) (hC : is.map (fun i => ws[i]?) = wc.map some) (hA : w1.map (fun q => q.1) = wc.map (fun q => q.1)) (hn : va_nd is = true) (hstk : stk = As.reverse ++ .ref b :: st) (hcat : (st.map fun v => v.category).sum ≤ 8) (hdg : decode cc pc = .ok (.invokevirtual index, 3)) (hws : wput ws is w1 = ws') (k : G T X Q cells slots ws' lv (pc + 3) st) : G T X Q cells slots ws lv pc stk := by
  subst hws
  intro H locs ls hP hD hS hl
  have hPc := va_sub hP is hC
  have hDc : va_D (xA X) wc := hD.sub is hn hC
  have hFc := va_free (wc := wc) hD hS hX.2.2.2.2.2.2.1 is hC
  have hR' : rm.frames + 1 ≤ (xR X).frames ∧ 8 + (maxL + 11) + rm.locals ≤ (xR X).locals := by rw [hX.2.2.2.2.2.2.2.2.2.2.2]; exact hR
  have hcs' : cells + 0 ≤ (xR X).cells ∧ slots + 0 ≤ (xR X).slots := by rw [hX.2.2.2.2.2.2.2.2.2.2.2]; exact hcs
  refine va_callv (va_runV (As := As) (rest := st) ⟨hX.1, hX.2.1, rfl, hX.2.2.2.1, hX.2.2.2.2.1⟩ (hM H.size (fit_low hX hS)) (cwV n hX.2.2.2.2.1 hG hw hrc hrs ⟨rfl, hd⟩ hR') ⟨PreC_blind, va_recv hX.2.2.2.2.2.1 hP hc hrec, fun U hU hW => ⟨rfl, by rw [hU], by rw [hU]; exact hPc, va_K.moved hW.alike hX.2.2.2.2.2.1, hDc.weaken (fun _ q _ h => hX.2.2.2.2.2.2.2.2.2.1 _ h), hX.2.2.2.2.2.2.2.2.1.moved hS hX.2.2.2.2.2.2.2.2.2.1 hW hU⟩⟩ rfl hlen hl.1 hstk (lv_room hcat) hdg hcs') hS (fun q _ h => hFc q h) hFc (fun u t H1 locs1 ht hvm hw2 hB hz1 hk1 hS1 => ?_)
  subst hw2
  obtain ⟨hP1, hD1⟩ := hB
  rw [ht] at hP1
  obtain ⟨hP2, hD2⟩ := va_back hP hD is hC hA hn hk1 hP1
  exact k H1 locs1 ls hP2 hD2 hS1 hl
theorem g_cVN_I (hX : Fit T X own nL Ts cc ret R) {y : MethodName} {bytes : ByteArray} {maxL n index : Nat} {ret' : Option FieldType} {wds wds' : List Cond} {rm : Room} {As : List Value} {wc ws' : va_W} {stk : List Value} {b ci : Nat} {fs : List Value} {U : u_T} {N : Nat} (q0 : Nat) (hrec : ws[q0]? = some (b, .inr (ci, fs))) (hc : vwCl[ci]? = some (y.cls, U, N)) (hM : ConI (xL X) T (xB X) y wds rm (.ref b :: As) wc rv w1) (hG : GoodIn Ts wds) (nk : Nat) {host : String} (hlink : nws[nk]? = some (Cond.methodLinkNest own index y host)) (hini : Cond.initialized y.cls ∈ Ts) (hinst : Cond.instanceMethod y ∈ Ts) (hsel : Cond.selects y.cls y y ∈ Ts) (hw : wds = Cond.code y bytes maxL ret' :: wds') (hrc : rm.cells = 0) (hrs : rm.slots = 0) (hR : rm.frames + 1 ≤ R.frames ∧ 8 + (maxL + 11) + rm.locals ≤ R.locals) (hcs : cells ≤ R.cells ∧ slots ≤ R.slots) (hd : y.cls ≠ "java/lang/invoke/MethodHandle" ∧ y.cls ≠ "java/lang/invoke/VarHandle" ∧ (parseMethodDescriptor y.desc).map (fun d => d.parameters.length) = some n) (hlen : As.length = n) (is : List Nat) (hC : is.map (fun i => ws[i]?) = wc.map some) (hA : w1.map (fun q => q.1) = wc.map (fun q => q.1)) (hn : va_nd is = true) (hstk : stk = As.reverse ++ .ref b :: st) (hcat : (st.map fun v => v.category).sum ≤ 8) (hdg : decode cc pc = .ok (.invokevirtual index, 3)) (hws : wput ws is w1 = ws') (k : G T X Q cells slots ws' lv (pc + 3) (.int rv :: st)) : G T X Q cells slots ws lv pc stk := by
  subst hws
  intro H locs ls hP hD hS hl
  have hPc := va_sub hP is hC
  have hDc : va_D (xA X) wc := hD.sub is hn hC
  have hFc := va_free (wc := wc) hD hS hX.2.2.2.2.2.2.1 is hC
  have hR' : rm.frames + 1 ≤ (xR X).frames ∧ 8 + (maxL + 11) + rm.locals ≤ (xR X).locals := by rw [hX.2.2.2.2.2.2.2.2.2.2.2]; exact hR
  have hcs' : cells + 0 ≤ (xR X).cells ∧ slots + 0 ≤ (xR X).slots := by rw [hX.2.2.2.2.2.2.2.2.2.2.2]; exact hcs
  refine va_calli (va_runVN (As := As) (rest := st) ⟨hX.1, hX.2.1, rfl, hX.2.2.2.1, hX.2.2.2.2.1⟩ (hM H.size (fit_low hX hS)) ⟨va_cnB n hX.2.2.2.2.1 hG hw hrc hrs (hX.2.2.2.2.2.2.2.2.1.1 _ (List.mem_of_getElem? hlink)) (hX.2.2.2.2.1 _ hini) hd hR', hX.2.2.2.2.1 _ hinst, hX.2.2.2.2.1 _ hsel⟩ ⟨PreC_blind, va_recv hX.2.2.2.2.2.1 hP hc hrec, fun U hU hW => ⟨rfl, by rw [hU], by rw [hU]; exact hPc, va_K.moved hW.alike hX.2.2.2.2.2.1, hDc.weaken (fun _ q _ h => hX.2.2.2.2.2.2.2.2.2.1 _ h), hX.2.2.2.2.2.2.2.2.1.moved hS hX.2.2.2.2.2.2.2.2.2.1 hW hU⟩⟩ rfl hlen hl.1 hstk (lv_room hcat) hdg hcs') hS (fun q _ h => hFc q h) hFc (fun r u t H1 locs1 ht hvm hw2 hB hz1 hk1 hS1 => ?_)
  obtain ⟨rfl, rfl⟩ := hw2
  obtain ⟨hP1, hD1⟩ := hB
  rw [ht] at hP1
  obtain ⟨hP2, hD2⟩ := va_back hP hD is hC hA hn hk1 hP1
  exact k H1 locs1 ls hP2 hD2 hS1 hl
theorem g_cVN_V (hX : Fit T X own nL Ts cc ret R) {y : MethodName} {bytes : ByteArray} {maxL n index : Nat} {ret' : Option FieldType} {wds wds' : List Cond} {rm : Room} {As : List Value} {wc ws' : va_W} {stk : List Value} {b ci : Nat} {fs : List Value} {U : u_T} {N : Nat} (q0 : Nat) (hrec : ws[q0]? = some (b, .inr (ci, fs))) (hc : vwCl[ci]? = some (y.cls, U, N)) (hM : ConV (xL X) T (xB X) y wds rm (.ref b :: As) wc w1) (hG : GoodIn Ts wds) (nk : Nat) {host : String} (hlink : nws[nk]? = some (Cond.methodLinkNest own index y host)) (hini : Cond.initialized y.cls ∈ Ts) (hinst : Cond.instanceMethod y ∈ Ts) (hsel : Cond.selects y.cls y y ∈ Ts) (hw : wds = Cond.code y bytes maxL ret' :: wds') (hrc : rm.cells = 0) (hrs : rm.slots = 0) (hR : rm.frames + 1 ≤ R.frames ∧ 8 + (maxL + 11) + rm.locals ≤ R.locals) (hcs : cells ≤ R.cells ∧ slots ≤ R.slots) (hd : y.cls ≠ "java/lang/invoke/MethodHandle" ∧ y.cls ≠ "java/lang/invoke/VarHandle" ∧ (parseMethodDescriptor y.desc).map (fun d => d.parameters.length) = some n) (hlen : As.length = n) (is : List Nat) (hC : is.map (fun i => ws[i]?) = wc.map some) (hA : w1.map (fun q => q.1) = wc.map (fun q => q.1)) (hn : va_nd is = true) (hstk : stk = As.reverse ++ .ref b :: st) (hcat : (st.map fun v => v.category).sum ≤ 8) (hdg : decode cc pc = .ok (.invokevirtual index, 3)) (hws : wput ws is w1 = ws') (k : G T X Q cells slots ws' lv (pc + 3) st) : G T X Q cells slots ws lv pc stk := by
  subst hws
  intro H locs ls hP hD hS hl
  have hPc := va_sub hP is hC
  have hDc : va_D (xA X) wc := hD.sub is hn hC
  have hFc := va_free (wc := wc) hD hS hX.2.2.2.2.2.2.1 is hC
  have hR' : rm.frames + 1 ≤ (xR X).frames ∧ 8 + (maxL + 11) + rm.locals ≤ (xR X).locals := by rw [hX.2.2.2.2.2.2.2.2.2.2.2]; exact hR
  have hcs' : cells + 0 ≤ (xR X).cells ∧ slots + 0 ≤ (xR X).slots := by rw [hX.2.2.2.2.2.2.2.2.2.2.2]; exact hcs
  refine va_callv (va_runVN (As := As) (rest := st) ⟨hX.1, hX.2.1, rfl, hX.2.2.2.1, hX.2.2.2.2.1⟩ (hM H.size (fit_low hX hS)) ⟨va_cnB n hX.2.2.2.2.1 hG hw hrc hrs (hX.2.2.2.2.2.2.2.2.1.1 _ (List.mem_of_getElem? hlink)) (hX.2.2.2.2.1 _ hini) hd hR', hX.2.2.2.2.1 _ hinst, hX.2.2.2.2.1 _ hsel⟩ ⟨PreC_blind, va_recv hX.2.2.2.2.2.1 hP hc hrec, fun U hU hW => ⟨rfl, by rw [hU], by rw [hU]; exact hPc, va_K.moved hW.alike hX.2.2.2.2.2.1, hDc.weaken (fun _ q _ h => hX.2.2.2.2.2.2.2.2.2.1 _ h), hX.2.2.2.2.2.2.2.2.1.moved hS hX.2.2.2.2.2.2.2.2.2.1 hW hU⟩⟩ rfl hlen hl.1 hstk (lv_room hcat) hdg hcs') hS (fun q _ h => hFc q h) hFc (fun u t H1 locs1 ht hvm hw2 hB hz1 hk1 hS1 => ?_)
  subst hw2
  obtain ⟨hP1, hD1⟩ := hB
  rw [ht] at hP1
  obtain ⟨hP2, hD2⟩ := va_back hP hD is hC hA hn hk1 hP1
  exact k H1 locs1 ls hP2 hD2 hS1 hl
theorem g_cS_I (hX : Fit T X own nL Ts cc ret R) {y : MethodName} {bytes : ByteArray} {maxL n index : Nat} {ret' : Option FieldType} {wds wds' : List Cond} {rm : Room} {As : List Value} {wc ws' : va_W} {stk : List Value}  (hM : ConI (xL X) T (xB X) y wds rm As wc rv w1) (hG : GoodIn Ts (va_wsS own index y wds)) (hw : wds = Cond.code y bytes maxL ret' :: wds') (hrc : rm.cells = 0) (hrs : rm.slots = 0) (hR : rm.frames + 1 ≤ R.frames ∧ 8 + (maxL + 11) + rm.locals ≤ R.locals) (hcs : cells ≤ R.cells ∧ slots ≤ R.slots) (hd : y.cls ≠ "java/lang/invoke/MethodHandle" ∧ y.cls ≠ "java/lang/invoke/VarHandle" ∧ (parseMethodDescriptor y.desc).map (fun d => d.parameters.length) = some n) (hlen : As.length = n) (is : List Nat) (hC : is.map (fun i => ws[i]?) = wc.map some) (hA : w1.map (fun q => q.1) = wc.map (fun q => q.1)) (hn : va_nd is = true) (hstk : stk = As.reverse ++ st) (hcat : (st.map fun v => v.category).sum ≤ 8) (hdg : decode cc pc = .ok (.invokestatic index, 3)) (hws : wput ws is w1 = ws') (k : G T X Q cells slots ws' lv (pc + 3) (.int rv :: st)) : G T X Q cells slots ws lv pc stk := by
  subst hws
  intro H locs ls hP hD hS hl
  have hPc := va_sub hP is hC
  have hDc : va_D (xA X) wc := hD.sub is hn hC
  have hFc := va_free (wc := wc) hD hS hX.2.2.2.2.2.2.1 is hC
  have hR' : rm.frames + 1 ≤ (xR X).frames ∧ 8 + (maxL + 11) + rm.locals ≤ (xR X).locals := by rw [hX.2.2.2.2.2.2.2.2.2.2.2]; exact hR
  have hcs' : cells + 0 ≤ (xR X).cells ∧ slots + 0 ≤ (xR X).slots := by rw [hX.2.2.2.2.2.2.2.2.2.2.2]; exact hcs
  refine va_calli (va_runS (As := As) (rest := st) ⟨hX.1, hX.2.1, rfl, hX.2.2.2.1, hX.2.2.2.2.1⟩ (hM H.size (fit_low hX hS)) (va_cwS n hX.2.2.2.2.1 hG hw hrc hrs hd hR') ⟨PreC_blind, fun U hU hW => ⟨rfl, by rw [hU], by rw [hU]; exact hPc, va_K.moved hW.alike hX.2.2.2.2.2.1, hDc.weaken (fun _ q _ h => hX.2.2.2.2.2.2.2.2.2.1 _ h), hX.2.2.2.2.2.2.2.2.1.moved hS hX.2.2.2.2.2.2.2.2.2.1 hW hU⟩⟩ rfl hlen hl.1 hstk (lv_room hcat) hdg hcs') hS (fun q _ h => hFc q h) hFc (fun r u t H1 locs1 ht hvm hw2 hB hz1 hk1 hS1 => ?_)
  obtain ⟨rfl, rfl⟩ := hw2
  obtain ⟨hP1, hD1⟩ := hB
  rw [ht] at hP1
  obtain ⟨hP2, hD2⟩ := va_back hP hD is hC hA hn hk1 hP1
  exact k H1 locs1 ls hP2 hD2 hS1 hl
theorem g_cS_V (hX : Fit T X own nL Ts cc ret R) {y : MethodName} {bytes : ByteArray} {maxL n index : Nat} {ret' : Option FieldType} {wds wds' : List Cond} {rm : Room} {As : List Value} {wc ws' : va_W} {stk : List Value}  (hM : ConV (xL X) T (xB X) y wds rm As wc w1) (hG : GoodIn Ts (va_wsS own index y wds)) (hw : wds = Cond.code y bytes maxL ret' :: wds') (hrc : rm.cells = 0) (hrs : rm.slots = 0) (hR : rm.frames + 1 ≤ R.frames ∧ 8 + (maxL + 11) + rm.locals ≤ R.locals) (hcs : cells ≤ R.cells ∧ slots ≤ R.slots) (hd : y.cls ≠ "java/lang/invoke/MethodHandle" ∧ y.cls ≠ "java/lang/invoke/VarHandle" ∧ (parseMethodDescriptor y.desc).map (fun d => d.parameters.length) = some n) (hlen : As.length = n) (is : List Nat) (hC : is.map (fun i => ws[i]?) = wc.map some) (hA : w1.map (fun q => q.1) = wc.map (fun q => q.1)) (hn : va_nd is = true) (hstk : stk = As.reverse ++ st) (hcat : (st.map fun v => v.category).sum ≤ 8) (hdg : decode cc pc = .ok (.invokestatic index, 3)) (hws : wput ws is w1 = ws') (k : G T X Q cells slots ws' lv (pc + 3) st) : G T X Q cells slots ws lv pc stk := by
  subst hws
  intro H locs ls hP hD hS hl
  have hPc := va_sub hP is hC
  have hDc : va_D (xA X) wc := hD.sub is hn hC
  have hFc := va_free (wc := wc) hD hS hX.2.2.2.2.2.2.1 is hC
  have hR' : rm.frames + 1 ≤ (xR X).frames ∧ 8 + (maxL + 11) + rm.locals ≤ (xR X).locals := by rw [hX.2.2.2.2.2.2.2.2.2.2.2]; exact hR
  have hcs' : cells + 0 ≤ (xR X).cells ∧ slots + 0 ≤ (xR X).slots := by rw [hX.2.2.2.2.2.2.2.2.2.2.2]; exact hcs
  refine va_callv (va_runS (As := As) (rest := st) ⟨hX.1, hX.2.1, rfl, hX.2.2.2.1, hX.2.2.2.2.1⟩ (hM H.size (fit_low hX hS)) (va_cwS n hX.2.2.2.2.1 hG hw hrc hrs hd hR') ⟨PreC_blind, fun U hU hW => ⟨rfl, by rw [hU], by rw [hU]; exact hPc, va_K.moved hW.alike hX.2.2.2.2.2.1, hDc.weaken (fun _ q _ h => hX.2.2.2.2.2.2.2.2.2.1 _ h), hX.2.2.2.2.2.2.2.2.1.moved hS hX.2.2.2.2.2.2.2.2.2.1 hW hU⟩⟩ rfl hlen hl.1 hstk (lv_room hcat) hdg hcs') hS (fun q _ h => hFc q h) hFc (fun u t H1 locs1 ht hvm hw2 hB hz1 hk1 hS1 => ?_)
  subst hw2
  obtain ⟨hP1, hD1⟩ := hB
  rw [ht] at hP1
  obtain ⟨hP2, hD2⟩ := va_back hP hD is hC hA hn hk1 hP1
  exact k H1 locs1 ls hP2 hD2 hS1 hl
theorem g_cSN_I (hX : Fit T X own nL Ts cc ret R) {y : MethodName} {bytes : ByteArray} {maxL n index : Nat} {ret' : Option FieldType} {wds wds' : List Cond} {rm : Room} {As : List Value} {wc ws' : va_W} {stk : List Value}  (hM : ConI (xL X) T (xB X) y wds rm As wc rv w1) (hG : GoodIn Ts wds) (nk : Nat) {host : String} (hlink : nws[nk]? = some (Cond.methodLinkNest own index y host)) (hini : Cond.initialized y.cls ∈ Ts) (hstt : Cond.static y ∈ Ts) (hw : wds = Cond.code y bytes maxL ret' :: wds') (hrc : rm.cells = 0) (hrs : rm.slots = 0) (hR : rm.frames + 1 ≤ R.frames ∧ 8 + (maxL + 11) + rm.locals ≤ R.locals) (hcs : cells ≤ R.cells ∧ slots ≤ R.slots) (hd : y.cls ≠ "java/lang/invoke/MethodHandle" ∧ y.cls ≠ "java/lang/invoke/VarHandle" ∧ (parseMethodDescriptor y.desc).map (fun d => d.parameters.length) = some n) (hlen : As.length = n) (is : List Nat) (hC : is.map (fun i => ws[i]?) = wc.map some) (hA : w1.map (fun q => q.1) = wc.map (fun q => q.1)) (hn : va_nd is = true) (hstk : stk = As.reverse ++ st) (hcat : (st.map fun v => v.category).sum ≤ 8) (hdg : decode cc pc = .ok (.invokestatic index, 3)) (hws : wput ws is w1 = ws') (k : G T X Q cells slots ws' lv (pc + 3) (.int rv :: st)) : G T X Q cells slots ws lv pc stk := by
  subst hws
  intro H locs ls hP hD hS hl
  have hPc := va_sub hP is hC
  have hDc : va_D (xA X) wc := hD.sub is hn hC
  have hFc := va_free (wc := wc) hD hS hX.2.2.2.2.2.2.1 is hC
  have hR' : rm.frames + 1 ≤ (xR X).frames ∧ 8 + (maxL + 11) + rm.locals ≤ (xR X).locals := by rw [hX.2.2.2.2.2.2.2.2.2.2.2]; exact hR
  have hcs' : cells + 0 ≤ (xR X).cells ∧ slots + 0 ≤ (xR X).slots := by rw [hX.2.2.2.2.2.2.2.2.2.2.2]; exact hcs
  refine va_calli (va_runSN (As := As) (rest := st) ⟨hX.1, hX.2.1, rfl, hX.2.2.2.1, hX.2.2.2.2.1⟩ (hM H.size (fit_low hX hS)) ⟨va_cnB n hX.2.2.2.2.1 hG hw hrc hrs (hX.2.2.2.2.2.2.2.2.1.1 _ (List.mem_of_getElem? hlink)) (hX.2.2.2.2.1 _ hini) hd hR', hX.2.2.2.2.1 _ hstt, trivial⟩ ⟨PreC_blind, fun U hU hW => ⟨rfl, by rw [hU], by rw [hU]; exact hPc, va_K.moved hW.alike hX.2.2.2.2.2.1, hDc.weaken (fun _ q _ h => hX.2.2.2.2.2.2.2.2.2.1 _ h), hX.2.2.2.2.2.2.2.2.1.moved hS hX.2.2.2.2.2.2.2.2.2.1 hW hU⟩⟩ rfl hlen hl.1 hstk (lv_room hcat) hdg hcs') hS (fun q _ h => hFc q h) hFc (fun r u t H1 locs1 ht hvm hw2 hB hz1 hk1 hS1 => ?_)
  obtain ⟨rfl, rfl⟩ := hw2
  obtain ⟨hP1, hD1⟩ := hB
  rw [ht] at hP1
  obtain ⟨hP2, hD2⟩ := va_back hP hD is hC hA hn hk1 hP1
  exact k H1 locs1 ls hP2 hD2 hS1 hl
theorem g_cSN_V (hX : Fit T X own nL Ts cc ret R) {y : MethodName} {bytes : ByteArray} {maxL n index : Nat} {ret' : Option FieldType} {wds wds' : List Cond} {rm : Room} {As : List Value} {wc ws' : va_W} {stk : List Value}  (hM : ConV (xL X) T (xB X) y wds rm As wc w1) (hG : GoodIn Ts wds) (nk : Nat) {host : String} (hlink : nws[nk]? = some (Cond.methodLinkNest own index y host)) (hini : Cond.initialized y.cls ∈ Ts) (hstt : Cond.static y ∈ Ts) (hw : wds = Cond.code y bytes maxL ret' :: wds') (hrc : rm.cells = 0) (hrs : rm.slots = 0) (hR : rm.frames + 1 ≤ R.frames ∧ 8 + (maxL + 11) + rm.locals ≤ R.locals) (hcs : cells ≤ R.cells ∧ slots ≤ R.slots) (hd : y.cls ≠ "java/lang/invoke/MethodHandle" ∧ y.cls ≠ "java/lang/invoke/VarHandle" ∧ (parseMethodDescriptor y.desc).map (fun d => d.parameters.length) = some n) (hlen : As.length = n) (is : List Nat) (hC : is.map (fun i => ws[i]?) = wc.map some) (hA : w1.map (fun q => q.1) = wc.map (fun q => q.1)) (hn : va_nd is = true) (hstk : stk = As.reverse ++ st) (hcat : (st.map fun v => v.category).sum ≤ 8) (hdg : decode cc pc = .ok (.invokestatic index, 3)) (hws : wput ws is w1 = ws') (k : G T X Q cells slots ws' lv (pc + 3) st) : G T X Q cells slots ws lv pc stk := by
  subst hws
  intro H locs ls hP hD hS hl
  have hPc := va_sub hP is hC
  have hDc : va_D (xA X) wc := hD.sub is hn hC
  have hFc := va_free (wc := wc) hD hS hX.2.2.2.2.2.2.1 is hC
  have hR' : rm.frames + 1 ≤ (xR X).frames ∧ 8 + (maxL + 11) + rm.locals ≤ (xR X).locals := by rw [hX.2.2.2.2.2.2.2.2.2.2.2]; exact hR
  have hcs' : cells + 0 ≤ (xR X).cells ∧ slots + 0 ≤ (xR X).slots := by rw [hX.2.2.2.2.2.2.2.2.2.2.2]; exact hcs
  refine va_callv (va_runSN (As := As) (rest := st) ⟨hX.1, hX.2.1, rfl, hX.2.2.2.1, hX.2.2.2.2.1⟩ (hM H.size (fit_low hX hS)) ⟨va_cnB n hX.2.2.2.2.1 hG hw hrc hrs (hX.2.2.2.2.2.2.2.2.1.1 _ (List.mem_of_getElem? hlink)) (hX.2.2.2.2.1 _ hini) hd hR', hX.2.2.2.2.1 _ hstt, trivial⟩ ⟨PreC_blind, fun U hU hW => ⟨rfl, by rw [hU], by rw [hU]; exact hPc, va_K.moved hW.alike hX.2.2.2.2.2.1, hDc.weaken (fun _ q _ h => hX.2.2.2.2.2.2.2.2.2.1 _ h), hX.2.2.2.2.2.2.2.2.1.moved hS hX.2.2.2.2.2.2.2.2.2.1 hW hU⟩⟩ rfl hlen hl.1 hstk (lv_room hcat) hdg hcs') hS (fun q _ h => hFc q h) hFc (fun u t H1 locs1 ht hvm hw2 hB hz1 hk1 hS1 => ?_)
  subst hw2
  obtain ⟨hP1, hD1⟩ := hB
  rw [ht] at hP1
  obtain ⟨hP2, hD2⟩ := va_back hP hD is hC hA hn hk1 hP1
  exact k H1 locs1 ls hP2 hD2 hS1 hl
theorem g_objInit (hX : Fit T X own nL Ts cc ret R) {a index : Nat} (hlink : Cond.methodLink own index objectInit ∈ Ts) (hinst : Cond.instanceMethod objectInit ∈ Ts) (hcode : Cond.code objectInit ⟨#[0xb1]⟩ 1 none ∈ Ts) (hfr : 1 ≤ R.frames) (hlo : 12 + (st.map fun v => v.category).sum ≤ R.locals) (hdg : decode cc pc = .ok (.invokespecial index, 3)) (k : G T X Q cells slots ws lv (pc + 3) st) : G T X Q cells slots ws lv pc (.ref a :: st) := by
  intro H locs ls hP hD hS hl
  have e : xR X = R := hX.2.2.2.2.2.2.2.2.2.2.2
  exact W.objInit hX.1 hX.2.1 hX.2.2.2.1 (hX.2.2.2.2.1 _ hlink) (hX.2.2.2.2.1 _ hinst) (hX.2.2.2.2.1 _ hcode) rfl hl.1 rfl hdg (by rw [e]; exact hfr) (by rw [e]; show 2 * 0 + _ + 12 ≤ _; omega) (k H locs ls hP hD hS hl)
end GC
