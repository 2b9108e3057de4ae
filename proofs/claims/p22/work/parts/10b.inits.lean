/-- a constructor's end -/
def QN (T : TT) (X : CX) (mc ms : Nat) (S : Type) (post : S → va_W → Prop) : State → Prop := MQ (xBl X) (va_Qv (fun (u : S × va_W) => post u.1 u.2) (fun u t => va_P T.1 vwCl u.2 t.heap ∧ va_D (xA X) u.2) (xA X)) (xAr X) (xS X) mc ms (xA X)
theorem conC_of {l : Launch} {T : TT} {b0 : Nat} {y : MethodName} {wds wds' : List Cond} {rm : Room} {av : List Value} {w0 : va_W} {S : Type} {post : S → va_W → Prop} {nc ns : Nat} {cc : ByteArray} {maxL : Nat} {ret : Option FieldType} {lv0 : List (Nat × Value)} (hy : plainName y.cls = true) (hyn : y.name = "<init>") (hw : wds = .code y cc maxL ret :: wds') (hav : (lg_sl av).length ≤ maxL) (hlv : lv_args 0 av = lv0)
    (body : ∀ X : CX, Fit T X y.cls maxL wds cc ret rm → (xMe X).name = "<init>" → G T X (QN T X nc ns S post) 0 0 w0 lv0 0 []) : ConC l T b0 y wds rm av w0 S post nc ns := fun sz hsz =>
  fit_body hy hw hav hlv hsz (fun X hX hl hB hn hA hs => by
    have k := body X hX (hn.trans hyn)
    unfold QN at k
    rw [hA] at k ⊢
    exact k)
theorem zva_join {A0 : Nat → Prop} {D : va_G} {cl : List vw_C} {wc wr w1 : va_W} {H H1 : Heap} (hP : va_P D cl (wr ++ wc) H) (hD : va_D A0 (wr ++ wc)) (hk : ∀ q : Nat, q < H.size → ¬ va_A wc H.size q → H1[q]? = H[q]?) (hF : ∀ q, va_A wc H.size q → A0 q) (hP1 : va_P D cl w1 H1) (hD1 : va_D (va_A wc H.size) w1) : va_P D cl (wr ++ w1) H1 ∧ va_D A0 (wr ++ w1) := by
  have hPm := zva_P_mem.mp hP
  have hDm := zva_D_nodup.mp hD
  have hD1m := zva_D_nodup.mp hD1
  have hnd := hDm.1
  rw [List.map_append, List.nodup_append] at hnd
  have apart : ∀ q ∈ wr, ¬ va_A wc H.size q.1 := by
    intro q hq h
    rcases h with ⟨k, e, h⟩ | h
    · exact hnd.2.2 q.1 (List.mem_map.mpr ⟨q, hq, rfl⟩) q.1 (List.mem_map.mpr ⟨(q.1, e), List.mem_of_getElem? h, rfl⟩) rfl
    · have := (hPm q (List.mem_append_left _ hq)).lt
      omega
  refine ⟨zva_P_mem.mpr (fun q hq => ?_), ?_⟩
  · rcases List.mem_append.mp hq with h | h
    · have h1 := hPm q (List.mem_append_left _ h)
      exact h1.kept (hk q.1 h1.lt (apart q h))
    · exact zva_P_mem.mp hP1 q h
  · rw [zva_D_nodup, List.map_append, List.nodup_append]
    refine ⟨⟨hnd.1, hD1m.1, fun x hx y hy => ?_⟩, fun q hq => ?_⟩
    · obtain ⟨q, hq, rfl⟩ := List.mem_map.mp hx
      obtain ⟨r, hr, rfl⟩ := List.mem_map.mp hy
      intro z
      exact apart q hq (z ▸ hD1m.2 r hr)
    · rcases List.mem_append.mp hq with h | h
      · exact hDm.2 q (List.mem_append_left _ h)
      · exact hF q.1 (hD1m.2 q h)
theorem zva_free {A0 : Nat → Prop} {wc wr : va_W} {H0 H : Heap} {locs : List Loc} (hD : va_D A0 (wr ++ wc)) (hS : va_S A0 H0 H locs) (hA : ∀ q, H0.size ≤ q → A0 q) : ∀ q, va_A wc H.size q → A0 q := by
  intro q h
  rcases h with ⟨k, e, h⟩ | h
  · exact (zva_D_nodup.mp hD).2 (q, e) (List.mem_append_right _ (List.mem_of_getElem? h))
  · exact hA q (Nat.le_trans hS.1 h)
theorem zva_D_right {A : Nat → Prop} {a b : va_W} (hD : va_D A (a ++ b)) : va_D A b := by
  rw [zva_D_nodup] at hD ⊢
  rw [List.map_append, List.nodup_append] at hD
  exact ⟨hD.1.2.1, fun q hq => hD.2 q (List.mem_append_right _ hq)⟩
section GCN
variable {T : TT} {X : CX} {own : String} {nL : Nat} {Ts : List Cond} {cc : ByteArray} {ret : Option FieldType} {R : Room} {Q : State → Prop} {cells slots : Nat} {ws : va_W} {lv : List (Nat × Value)} {pc : Nat} {st : List Value}
theorem g_vretC {S : Type} {post : S → va_W → Prop} (hX : Fit T X own nL Ts cc none R) (hdg : decode cc pc = .ok (.return_, 1)) (u : S) (hp : post u ws) : G T X (QN T X cells slots S post) cells slots ws lv pc [] := by
  intro H locs ls hP hD hS hl
  exact W.vret hX.1 hX.2.1 hX.2.2.2.2.2.2.2.2.2.2.1 (fun t ht hW => ⟨⟨(u, ws), rfl, hp, by rw [ht]; exact hP, hD⟩, hS.F ht⟩) hS.2.2 hdg (hlocks := hX.2.2.2.2.2.2.2.1)
theorem g_cIN (hX : Fit T X own nL Ts cc ret R) {y : MethodName} {bytes : ByteArray} {maxL n index : Nat} {wds wds' : List Cond} {rm : Room} {As : List Value} {wc wr : va_W} {stk : List Value} {S : Type} {post : S → va_W → Prop} {nc ns b : Nat} (hM : ConC (xL X) T (xB X) y wds rm (.ref b :: As) wc S post nc ns) (hG : GoodIn Ts wds) (nk : Nat) {host : String} (hlink : nws[nk]? = some (Cond.methodLinkNest own index y host)) (hini : Cond.initialized y.cls ∈ Ts) (hinst : Cond.instanceMethod y ∈ Ts) (hyn : y.name = "<init>") (hw : wds = Cond.code y bytes maxL none :: wds') (hrc : rm.cells = nc) (hrs : rm.slots = ns) (hR : rm.frames + 1 ≤ R.frames ∧ 8 + (maxL + 11) + rm.locals ≤ R.locals) (hcs : cells + nc ≤ R.cells ∧ slots + ns ≤ R.slots) (hd : y.cls ≠ "java/lang/invoke/MethodHandle" ∧ y.cls ≠ "java/lang/invoke/VarHandle" ∧ (parseMethodDescriptor y.desc).map (fun d => d.parameters.length) = some n) (hlen : As.length = n) (hstk : stk = As.reverse ++ .ref b :: st) (hcat : (st.map fun v => v.category).sum ≤ 8) (hdg : decode cc pc = .ok (.invokespecial index, 3)) (k : ∀ (u : S) (w1 : va_W), post u w1 → G T X Q (cells + nc) (slots + ns) (wr ++ w1) lv (pc + 3) st) : G T X Q cells slots (wr ++ wc) lv pc stk := by
  intro H locs ls hP hD hS hl
  have hPc : va_P T.1 vwCl wc H := zva_P_mem.mpr (fun q hq => zva_P_mem.mp hP q (List.mem_append_right _ hq))
  have hDc := zva_D_right hD
  have hFc := zva_free hD hS hX.2.2.2.2.2.2.1
  have hR' : rm.frames + 1 ≤ (xR X).frames ∧ 8 + (maxL + 11) + rm.locals ≤ (xR X).locals := by rw [hX.2.2.2.2.2.2.2.2.2.2.2]; exact hR
  have hcs' : cells + nc ≤ (xR X).cells ∧ slots + ns ≤ (xR X).slots := by rw [hX.2.2.2.2.2.2.2.2.2.2.2]; exact hcs
  refine va_callv (va_runIN (As := As) (rest := st) ⟨hX.1, hX.2.1, rfl, hX.2.2.2.1, hX.2.2.2.2.1⟩ (hM H.size (fit_low hX hS)) ⟨va_cnB n hX.2.2.2.2.1 hG hw hrc hrs (hX.2.2.2.2.2.2.2.2.1.1 _ (List.mem_of_getElem? hlink)) (hX.2.2.2.2.1 _ hini) hd hR', hyn, hX.2.2.2.2.1 _ hinst⟩ ⟨PreC_blind, fun U hU hW => ⟨rfl, by rw [hU], by rw [hU]; exact hPc, va_K.moved hW.alike hX.2.2.2.2.2.1, hDc.weaken (fun _ q _ h => hX.2.2.2.2.2.2.2.2.2.1 _ h), hX.2.2.2.2.2.2.2.2.1.moved hS hX.2.2.2.2.2.2.2.2.2.1 hW hU⟩⟩ rfl hlen hl.1 hstk (lv_room hcat) hdg hcs') hS (fun q _ h => hFc q h) hFc (fun u t H1 locs1 ht hvm hw2 hB hz1 hk1 hS1 => ?_)
  obtain ⟨hP1, hD1⟩ := hB
  rw [ht] at hP1
  obtain ⟨hP2, hD2⟩ := zva_join hP hD hk1 hFc hP1 hD1
  exact k u.1 u.2 hw2 H1 locs1 ls hP2 hD2 hS1 hl
theorem g_cI (hX : Fit T X own nL Ts cc ret R) {y : MethodName} {bytes : ByteArray} {maxL n index : Nat} {wds wds' : List Cond} {rm : Room} {As : List Value} {wc wr : va_W} {stk : List Value} {S : Type} {post : S → va_W → Prop} {nc ns b : Nat} (hM : ConC (xL X) T (xB X) y wds rm (.ref b :: As) wc S post nc ns) (hG : GoodIn Ts wds) (hlink : Cond.methodLink own index y ∈ Ts) (hini : Cond.initialized y.cls ∈ Ts) (hinst : Cond.instanceMethod y ∈ Ts) (hyn : y.name = "<init>") (hw : wds = Cond.code y bytes maxL none :: wds') (hrc : rm.cells = nc) (hrs : rm.slots = ns) (hR : rm.frames + 1 ≤ R.frames ∧ 8 + (maxL + 11) + rm.locals ≤ R.locals) (hcs : cells + nc ≤ R.cells ∧ slots + ns ≤ R.slots) (hd : y.cls ≠ "java/lang/invoke/MethodHandle" ∧ y.cls ≠ "java/lang/invoke/VarHandle" ∧ (parseMethodDescriptor y.desc).map (fun d => d.parameters.length) = some n) (hlen : As.length = n) (hstk : stk = As.reverse ++ .ref b :: st) (hcat : (st.map fun v => v.category).sum ≤ 8) (hdg : decode cc pc = .ok (.invokespecial index, 3)) (k : ∀ (u : S) (w1 : va_W), post u w1 → G T X Q (cells + nc) (slots + ns) (wr ++ w1) lv (pc + 3) st) : G T X Q cells slots (wr ++ wc) lv pc stk := by
  intro H locs ls hP hD hS hl
  have hPc : va_P T.1 vwCl wc H := zva_P_mem.mpr (fun q hq => zva_P_mem.mp hP q (List.mem_append_right _ hq))
  have hDc := zva_D_right hD
  have hFc := zva_free hD hS hX.2.2.2.2.2.2.1
  have hR' : rm.frames + 1 ≤ (xR X).frames ∧ 8 + (maxL + 11) + rm.locals ≤ (xR X).locals := by rw [hX.2.2.2.2.2.2.2.2.2.2.2]; exact hR
  have hcs' : cells + nc ≤ (xR X).cells ∧ slots + ns ≤ (xR X).slots := by rw [hX.2.2.2.2.2.2.2.2.2.2.2]; exact hcs
  refine va_callv (va_runI (As := As) (rest := st) ⟨hX.1, hX.2.1, rfl, hX.2.2.2.1, hX.2.2.2.2.1⟩ (hM H.size (fit_low hX hS)) (cwI n hX.2.2.2.2.1 hG hw hrc hrs (hX.2.2.2.2.1 _ hini) (hX.2.2.2.2.1 _ hlink) (hX.2.2.2.2.1 _ hinst) hyn hd hR') ⟨PreC_blind, fun U hU hW => ⟨rfl, by rw [hU], by rw [hU]; exact hPc, va_K.moved hW.alike hX.2.2.2.2.2.1, hDc.weaken (fun _ q _ h => hX.2.2.2.2.2.2.2.2.2.1 _ h), hX.2.2.2.2.2.2.2.2.1.moved hS hX.2.2.2.2.2.2.2.2.2.1 hW hU⟩⟩ rfl hlen hl.1 hstk (lv_room hcat) hdg hcs') hS (fun q _ h => hFc q h) hFc (fun u t H1 locs1 ht hvm hw2 hB hz1 hk1 hS1 => ?_)
  obtain ⟨hP1, hD1⟩ := hB
  rw [ht] at hP1
  obtain ⟨hP2, hD2⟩ := zva_join hP hD hk1 hFc hP1 hD1
  exact k u.1 u.2 hw2 H1 locs1 ls hP2 hD2 hS1 hl
end GCN
def z0 : Nat → Int32 := fun _ => 0
def u0 : SV := (fun j => match j with | 0 => 5000 | 3 => -1 | _ => 0, (fun _ => 0, fun _ => 0), fun _ => 0, fFirst)
def t0 : TV := (fun j => match j with | 0 => 0 | 1 => 0 | _ => -1, fun _ => 0, fun _ => 0, fun _ => 0)
def h0V : HV := (fun _ => 0, fun _ => u0)
def xv0 : XV := (fun j => match j with | 0 => 0 | _ => -5, u0, u0, u0, (fun _ => 0, fun _ => 0), h0V, t0)
def a0V : Nat → Int32 := fun j => match j with | 24 => 5 | 25 => 3 | 27 => 10 | 28 => 60 | 30 => 5000 | 34 => -5 | _ => 0
def mv0 : MV := (fun j => match j with | 5 => -5 | _ => 0, a0V, fun _ => 0, fun _ => 0, fun _ => 0, fun _ => 0, fun _ => 0)
def rmX3_init : Room := { frames := 1, cells := 1, slots := 12, locals := 14 }
theorem k_X3_init_0 : Cond.methodLink RX3 3 objectInit ∈ wsX3_init := List.mem_of_getElem? (i := 1) rfl
theorem k_X3_init_1 : Cond.instanceMethod objectInit ∈ wsX3_init := List.mem_of_getElem? (i := 2) rfl
theorem k_X3_init_2 : Cond.code objectInit ⟨#[0xb1]⟩ 1 none ∈ wsX3_init := List.mem_of_getElem? (i := 3) rfl
theorem k_X3_init_3 : Cond.arrayClass .int ∈ wsX3_init := List.mem_of_getElem? (i := 4) rfl
theorem k_X3_init_4 : Cond.fieldLink RX3 9 RX3 (TX3 0).2.1 (TX3 0).2.2.1 ∈ wsX3_init := List.mem_of_getElem? (i := 5) rfl
theorem h_X3_init_X3 : ∀ w ∈ u_ws RX3 TX3 4, w ∈ wsX3_init := fun w h => List.mem_cons_of_mem _ (List.mem_append_right _ h)
theorem k_X3_init_5 : Cond.fieldLink RX3 15 RX3 (TX3 1).2.1 (TX3 1).2.2.1 ∈ wsX3_init := List.mem_of_getElem? (i := 6) rfl
theorem k_X3_init_6 : Cond.fieldLink RX3 19 RX3 (TX3 2).2.1 (TX3 2).2.2.1 ∈ wsX3_init := List.mem_of_getElem? (i := 7) rfl
theorem k_X3_init_7 : Cond.fieldLink RX3 22 RX3 (TX3 3).2.1 (TX3 3).2.2.1 ∈ wsX3_init := List.mem_of_getElem? (i := 8) rfl
set_option maxHeartbeats 4000000 in
set_option maxRecDepth 100000 in
theorem c_X3_init (l : Launch) (T : TT) (b0 : Nat) (s0 : Nat) : ConC l T b0 yX3_init wsX3_init rmX3_init [.ref s0] [(s0, .inr (3, [.null, .int 0, .int 0, .int 0]))] Nat (fun (h : Nat) (w : va_W) => w = wWr T s0 h (fun _ => 0, fun _ => 0)) 1 12 := by
  refine conC_of (cc := cX3_init) (maxL := 1) (ret := none) (lv0 := [(0, .ref s0)]) (by decide +kernel) rfl rfl (Nat.le_of_ble_eq_true rfl) rfl (fun X hX hin => ?_)
  refine g_aload_n hX dX3_init_0 rfl 0 rfl ?_
  refine g_objInit hX k_X3_init_0 k_X3_init_1 k_X3_init_2 (Nat.le_of_ble_eq_true rfl) (Nat.le_of_ble_eq_true rfl) dX3_init_1 ?_
  refine g_aload_n hX dX3_init_4 rfl 0 rfl ?_
  refine g_bipush hX (v := 12) dX3_init_5 (by decide) ?_
  refine g_newI hX 12 (by decide) (by decide) (by decide) k_X3_init_3 (Nat.le_of_ble_eq_true rfl) (Nat.le_of_ble_eq_true rfl) dX3_init_7 (fun q7 => ?_)
  refine g_putF hX 3 h_X3_init_X3 0 rfl rfl 0 (by decide) tyX3 tyX3_ok nmX3 k_X3_init_4 rfl rfl hin rfl rfl rfl rfl (Nat.le_of_ble_eq_true rfl) dX3_init_9 (ws' := [(s0, .inr (3, [.ref q7, .int 0, .int 0, .int 0]))] ++ [(q7, .inl (T.2.1, 12, .inl (fun _ => 0)))]) rfl ?_
  refine g_aload_n hX dX3_init_12 rfl 0 rfl ?_
  refine g_iconst hX (v := 0) dX3_init_13 (by decide) ?_
  refine g_put hX 3 h_X3_init_X3 0 rfl rfl 1 (by decide) tyX3 tyX3_ok nmX3 k_X3_init_5 rfl rfl  rfl rfl rfl (Nat.le_of_ble_eq_true rfl) dX3_init_14 (ws' := [(s0, .inr (3, [.ref q7, .int 0, .int 0, .int 0]))] ++ [(q7, .inl (T.2.1, 12, .inl (fun _ => 0)))]) rfl ?_
  refine g_aload_n hX dX3_init_17 rfl 0 rfl ?_
  refine g_iconst hX (v := 0) dX3_init_18 (by decide) ?_
  refine g_put hX 3 h_X3_init_X3 0 rfl rfl 2 (by decide) tyX3 tyX3_ok nmX3 k_X3_init_6 rfl rfl  rfl rfl rfl (Nat.le_of_ble_eq_true rfl) dX3_init_19 (ws' := [(s0, .inr (3, [.ref q7, .int 0, .int 0, .int 0]))] ++ [(q7, .inl (T.2.1, 12, .inl (fun _ => 0)))]) rfl ?_
  refine g_aload_n hX dX3_init_22 rfl 0 rfl ?_
  refine g_iconst hX (v := 0) dX3_init_23 (by decide) ?_
  refine g_put hX 3 h_X3_init_X3 0 rfl rfl 3 (by decide) tyX3 tyX3_ok nmX3 k_X3_init_7 rfl rfl  rfl rfl rfl (Nat.le_of_ble_eq_true rfl) dX3_init_24 (ws' := [(s0, .inr (3, [.ref q7, .int 0, .int 0, .int 0]))] ++ [(q7, .inl (T.2.1, 12, .inl (fun _ => 0)))]) rfl ?_
  exact g_vretC hX dX3_init_27 q7 rfl
def rmX2_init : Room := { frames := 2, cells := 4, slots := 33, locals := 34 }
theorem k_X2_init_0 : Cond.methodLink RX2 3 objectInit ∈ wsX2_init := List.mem_of_getElem? (i := 1) rfl
theorem k_X2_init_1 : Cond.instanceMethod objectInit ∈ wsX2_init := List.mem_of_getElem? (i := 2) rfl
theorem k_X2_init_2 : Cond.code objectInit ⟨#[0xb1]⟩ 1 none ∈ wsX2_init := List.mem_of_getElem? (i := 3) rfl
theorem h_X2_init_X3 : ∀ w ∈ u_ws RX3 TX3 4, w ∈ wsX2_init := fun w h => List.mem_cons_of_mem _ (List.mem_append_left _ (List.mem_append_right _ h))
theorem k_X2_init_3 : Cond.classLink RX2 9 RX3 ∈ wsX2_init := List.mem_of_getElem? (i := 4) rfl
theorem k_X2_init_4 : Cond.instantiable RX3 4 ∈ wsX2_init := List.mem_of_getElem? (i := 5) rfl
theorem k_X2_init_5 : Cond.initialized RX3 ∈ wsX2_init := List.mem_of_getElem? (i := 6) rfl
theorem k_X2_init_24 : Cond.instanceMethod yX3_init ∈ wsX2_init := List.mem_of_getElem? (i := 25) rfl
theorem k_X2_init_6 : Cond.fieldLink RX2 12 RX2 (TX2 0).2.1 (TX2 0).2.2.1 ∈ wsX2_init := List.mem_of_getElem? (i := 7) rfl
theorem h_X2_init_X2 : ∀ w ∈ u_ws RX2 TX2 11, w ∈ wsX2_init := fun w h => List.mem_cons_of_mem _ (List.mem_append_right _ h)
theorem k_X2_init_7 : Cond.arrayClass .int ∈ wsX2_init := List.mem_of_getElem? (i := 8) rfl
theorem k_X2_init_8 : Cond.fieldLink RX2 18 RX2 (TX2 1).2.1 (TX2 1).2.2.1 ∈ wsX2_init := List.mem_of_getElem? (i := 9) rfl
theorem k_X2_init_9 : Cond.methodLink RX2 25 ⟨"[I", "clone", "()Ljava/lang/Object;"⟩ ∈ wsX2_init := List.mem_of_getElem? (i := 10) rfl
theorem k_X2_init_10 : Cond.sameMethod "[I" "java/lang/Object" "clone" "()Ljava/lang/Object;" ∈ wsX2_init := List.mem_of_getElem? (i := 11) rfl
theorem k_X2_init_11 : Cond.native ⟨"java/lang/Object", "clone", "()Ljava/lang/Object;"⟩ ∈ wsX2_init := List.mem_of_getElem? (i := 12) rfl
theorem k_X2_init_12 : Cond.instanceMethod ⟨"java/lang/Object", "clone", "()Ljava/lang/Object;"⟩ ∈ wsX2_init := List.mem_of_getElem? (i := 13) rfl
theorem k_X2_init_13 : Cond.selects "[I" ⟨"[I", "clone", "()Ljava/lang/Object;"⟩ ⟨"java/lang/Object", "clone", "()Ljava/lang/Object;"⟩ ∈ wsX2_init := List.mem_of_getElem? (i := 14) rfl
theorem k_X2_init_14 : Cond.classLink RX2 26 "[I" ∈ wsX2_init := List.mem_of_getElem? (i := 15) rfl
theorem k_X2_init_15 : Cond.fieldLink RX2 30 RX2 (TX2 2).2.1 (TX2 2).2.2.1 ∈ wsX2_init := List.mem_of_getElem? (i := 16) rfl
theorem k_X2_init_16 : Cond.fieldLink RX2 33 RX2 (TX2 3).2.1 (TX2 3).2.2.1 ∈ wsX2_init := List.mem_of_getElem? (i := 17) rfl
theorem k_X2_init_17 : Cond.fieldLink RX2 37 RX2 (TX2 4).2.1 (TX2 4).2.2.1 ∈ wsX2_init := List.mem_of_getElem? (i := 18) rfl
theorem k_X2_init_18 : Cond.fieldLink RX2 40 RX2 (TX2 5).2.1 (TX2 5).2.2.1 ∈ wsX2_init := List.mem_of_getElem? (i := 19) rfl
theorem k_X2_init_19 : Cond.fieldLink RX2 44 RX2 (TX2 6).2.1 (TX2 6).2.2.1 ∈ wsX2_init := List.mem_of_getElem? (i := 20) rfl
theorem k_X2_init_20 : Cond.fieldLink RX2 47 RX2 (TX2 7).2.1 (TX2 7).2.2.1 ∈ wsX2_init := List.mem_of_getElem? (i := 21) rfl
theorem k_X2_init_21 : Cond.fieldLink RX2 50 RX2 (TX2 8).2.1 (TX2 8).2.2.1 ∈ wsX2_init := List.mem_of_getElem? (i := 22) rfl
theorem k_X2_init_22 : Cond.fieldLink RX2 53 RX2 (TX2 9).2.1 (TX2 9).2.2.1 ∈ wsX2_init := List.mem_of_getElem? (i := 23) rfl
theorem k_X2_init_23 : Cond.fieldLink RX2 56 RX2 (TX2 10).2.1 (TX2 10).2.2.1 ∈ wsX2_init := List.mem_of_getElem? (i := 24) rfl
set_option maxHeartbeats 4000000 in
set_option maxRecDepth 100000 in
theorem c_X2_init (l : Launch) (T : TT) (b0 : Nat) (s0 : Nat) : ConC l T b0 yX2_init wsX2_init rmX2_init [.ref s0] [(s0, .inr (2, [.null, .null, .null, .int 0, .int 0, .int 0, .int 0, .int 0, .int 0, .int 0, .int 0]))] (Nat × Nat × Nat × Nat) (fun (h : Nat × Nat × Nat × Nat) (w : va_W) => w = wSt T s0 h.1 h.2.1 h.2.2.1 h.2.2.2 u0) 4 33 := by
  refine conC_of (cc := cX2_init) (maxL := 1) (ret := none) (lv0 := [(0, .ref s0)]) (by decide +kernel) rfl rfl (Nat.le_of_ble_eq_true rfl) rfl (fun X hX hin => ?_)
  refine g_aload_n hX dX2_init_0 rfl 0 rfl ?_
  refine g_objInit hX k_X2_init_0 k_X2_init_1 k_X2_init_2 (Nat.le_of_ble_eq_true rfl) (Nat.le_of_ble_eq_true rfl) dX2_init_1 ?_
  refine g_aload_n hX dX2_init_4 rfl 0 rfl ?_
  refine g_new hX 3 (fs := [.null, .int 0, .int 0, .int 0]) h_X2_init_X3 tyX3 tyX3_ok k_X2_init_3 k_X2_init_4 k_X2_init_5 rfl (fun j hj => by rcases (show j = 0 ∨ j = 1 ∨ j = 2 ∨ j = 3 by omega) with rfl | rfl | rfl | rfl <;> rfl) (Nat.le_of_ble_eq_true rfl) (Nat.le_of_ble_eq_true rfl) dX2_init_5 (fun q5_0 => ?_)
  refine g_dup hX dX2_init_8 rfl ?_
  refine g_cIN hX (n := 0) (As := []) (st := [.ref q5_0, .ref s0]) (wr := [(s0, .inr (2, [.null, .null, .null, .int 0, .int 0, .int 0, .int 0, .int 0, .int 0, .int 0, .int 0]))]) (c_X3_init (xL X) T (xB X) q5_0) ggX2_init_X3_init 15 rfl k_X2_init_5 k_X2_init_24 rfl rfl rfl rfl ⟨Nat.le_of_ble_eq_true rfl, Nat.le_of_ble_eq_true rfl⟩ ⟨Nat.le_of_ble_eq_true rfl, Nat.le_of_ble_eq_true rfl⟩ ⟨by decide +kernel, by decide +kernel, by decide +kernel⟩ rfl rfl (Nat.le_of_ble_eq_true rfl) dX2_init_9 (fun u9_1 w1 hp1 => ?_)
  subst hp1
  refine g_putF hX 2 h_X2_init_X2 0 rfl rfl 0 (by decide) tyX2 tyX2_ok nmX2 k_X2_init_6 rfl rfl hin rfl rfl rfl rfl (Nat.le_of_ble_eq_true rfl) dX2_init_12 (ws' := [(s0, .inr (2, [.ref q5_0, .null, .null, .int 0, .int 0, .int 0, .int 0, .int 0, .int 0, .int 0, .int 0]))] ++ wWr T q5_0 u9_1 (fun _ => 0, fun _ => 0)) rfl ?_
  refine g_aload_n hX dX2_init_15 rfl 0 rfl ?_
  refine g_bipush hX (v := 12) dX2_init_16 (by decide) ?_
  refine g_newI hX 12 (by decide) (by decide) (by decide) k_X2_init_7 (Nat.le_of_ble_eq_true rfl) (Nat.le_of_ble_eq_true rfl) dX2_init_18 (fun q18 => ?_)
  refine g_putF hX 2 h_X2_init_X2 0 rfl rfl 1 (by decide) tyX2 tyX2_ok nmX2 k_X2_init_8 rfl rfl hin rfl rfl rfl rfl (Nat.le_of_ble_eq_true rfl) dX2_init_20 (ws' := [(s0, .inr (2, [.ref q5_0, .ref q18, .null, .int 0, .int 0, .int 0, .int 0, .int 0, .int 0, .int 0, .int 0]))] ++ wWr T q5_0 u9_1 (fun _ => 0, fun _ => 0) ++ [(q18, .inl (T.2.1, 12, .inl (fun _ => 0)))]) rfl ?_
  refine g_aload_n hX dX2_init_23 rfl 0 rfl ?_
  refine g_first hX 2 rfl dX2_init_24 (fun t_24 hF_24 => ?_)
  refine g_clone hX hF_24 k_X2_init_9 k_X2_init_10 k_X2_init_11 k_X2_init_12 k_X2_init_13 (Nat.le_of_ble_eq_true rfl) (Nat.le_of_ble_eq_true rfl) (Nat.le_of_ble_eq_true rfl) (Nat.le_of_ble_eq_true rfl) dX2_init_27 (fun q27 => ?_)
  refine g_castA hX k_X2_init_14 4 rfl dX2_init_30 ?_
  refine g_putF hX 2 h_X2_init_X2 0 rfl rfl 2 (by decide) tyX2 tyX2_ok nmX2 k_X2_init_15 rfl rfl hin rfl rfl rfl rfl (Nat.le_of_ble_eq_true rfl) dX2_init_33 (ws' := [(s0, .inr (2, [.ref q5_0, .ref q18, .ref q27, .int 0, .int 0, .int 0, .int 0, .int 0, .int 0, .int 0, .int 0]))] ++ wWr T q5_0 u9_1 (fun _ => 0, fun _ => 0) ++ [(q18, .inl (T.2.1, 12, .inl (fun _ => 0)))] ++ [(q27, .inl (T.2.1, 5, .inl fFirst))]) rfl ?_
  refine g_aload_n hX dX2_init_36 rfl 0 rfl ?_
  refine g_sipush hX (v := 5000) dX2_init_37 (by decide) ?_
  refine g_put hX 2 h_X2_init_X2 0 rfl rfl 3 (by decide) tyX2 tyX2_ok nmX2 k_X2_init_16 rfl rfl  rfl rfl rfl (Nat.le_of_ble_eq_true rfl) dX2_init_40 (ws' := [(s0, .inr (2, [.ref q5_0, .ref q18, .ref q27, .int 5000, .int 0, .int 0, .int 0, .int 0, .int 0, .int 0, .int 0]))] ++ wWr T q5_0 u9_1 (fun _ => 0, fun _ => 0) ++ [(q18, .inl (T.2.1, 12, .inl (fun _ => 0)))] ++ [(q27, .inl (T.2.1, 5, .inl fFirst))]) rfl ?_
  refine g_aload_n hX dX2_init_43 rfl 0 rfl ?_
  refine g_iconst hX (v := 0) dX2_init_44 (by decide) ?_
  refine g_put hX 2 h_X2_init_X2 0 rfl rfl 4 (by decide) tyX2 tyX2_ok nmX2 k_X2_init_17 rfl rfl  rfl rfl rfl (Nat.le_of_ble_eq_true rfl) dX2_init_45 (ws' := [(s0, .inr (2, [.ref q5_0, .ref q18, .ref q27, .int 5000, .int 0, .int 0, .int 0, .int 0, .int 0, .int 0, .int 0]))] ++ wWr T q5_0 u9_1 (fun _ => 0, fun _ => 0) ++ [(q18, .inl (T.2.1, 12, .inl (fun _ => 0)))] ++ [(q27, .inl (T.2.1, 5, .inl fFirst))]) rfl ?_
  refine g_aload_n hX dX2_init_48 rfl 0 rfl ?_
  refine g_iconst hX (v := 0) dX2_init_49 (by decide) ?_
  refine g_put hX 2 h_X2_init_X2 0 rfl rfl 5 (by decide) tyX2 tyX2_ok nmX2 k_X2_init_18 rfl rfl  rfl rfl rfl (Nat.le_of_ble_eq_true rfl) dX2_init_50 (ws' := [(s0, .inr (2, [.ref q5_0, .ref q18, .ref q27, .int 5000, .int 0, .int 0, .int 0, .int 0, .int 0, .int 0, .int 0]))] ++ wWr T q5_0 u9_1 (fun _ => 0, fun _ => 0) ++ [(q18, .inl (T.2.1, 12, .inl (fun _ => 0)))] ++ [(q27, .inl (T.2.1, 5, .inl fFirst))]) rfl ?_
  refine g_aload_n hX dX2_init_53 rfl 0 rfl ?_
  refine g_iconst hX (v := (-1)) dX2_init_54 (by decide) ?_
  refine g_put hX 2 h_X2_init_X2 0 rfl rfl 6 (by decide) tyX2 tyX2_ok nmX2 k_X2_init_19 rfl rfl  rfl rfl rfl (Nat.le_of_ble_eq_true rfl) dX2_init_55 (ws' := [(s0, .inr (2, [.ref q5_0, .ref q18, .ref q27, .int 5000, .int 0, .int 0, .int (-1), .int 0, .int 0, .int 0, .int 0]))] ++ wWr T q5_0 u9_1 (fun _ => 0, fun _ => 0) ++ [(q18, .inl (T.2.1, 12, .inl (fun _ => 0)))] ++ [(q27, .inl (T.2.1, 5, .inl fFirst))]) rfl ?_
  refine g_aload_n hX dX2_init_58 rfl 0 rfl ?_
  refine g_iconst hX (v := 0) dX2_init_59 (by decide) ?_
  refine g_put hX 2 h_X2_init_X2 0 rfl rfl 7 (by decide) tyX2 tyX2_ok nmX2 k_X2_init_20 rfl rfl  rfl rfl rfl (Nat.le_of_ble_eq_true rfl) dX2_init_60 (ws' := [(s0, .inr (2, [.ref q5_0, .ref q18, .ref q27, .int 5000, .int 0, .int 0, .int (-1), .int 0, .int 0, .int 0, .int 0]))] ++ wWr T q5_0 u9_1 (fun _ => 0, fun _ => 0) ++ [(q18, .inl (T.2.1, 12, .inl (fun _ => 0)))] ++ [(q27, .inl (T.2.1, 5, .inl fFirst))]) rfl ?_
  refine g_aload_n hX dX2_init_63 rfl 0 rfl ?_
  refine g_iconst hX (v := 0) dX2_init_64 (by decide) ?_
  refine g_put hX 2 h_X2_init_X2 0 rfl rfl 8 (by decide) tyX2 tyX2_ok nmX2 k_X2_init_21 rfl rfl  rfl rfl rfl (Nat.le_of_ble_eq_true rfl) dX2_init_65 (ws' := [(s0, .inr (2, [.ref q5_0, .ref q18, .ref q27, .int 5000, .int 0, .int 0, .int (-1), .int 0, .int 0, .int 0, .int 0]))] ++ wWr T q5_0 u9_1 (fun _ => 0, fun _ => 0) ++ [(q18, .inl (T.2.1, 12, .inl (fun _ => 0)))] ++ [(q27, .inl (T.2.1, 5, .inl fFirst))]) rfl ?_
  refine g_aload_n hX dX2_init_68 rfl 0 rfl ?_
  refine g_iconst hX (v := 0) dX2_init_69 (by decide) ?_
  refine g_put hX 2 h_X2_init_X2 0 rfl rfl 9 (by decide) tyX2 tyX2_ok nmX2 k_X2_init_22 rfl rfl  rfl rfl rfl (Nat.le_of_ble_eq_true rfl) dX2_init_70 (ws' := [(s0, .inr (2, [.ref q5_0, .ref q18, .ref q27, .int 5000, .int 0, .int 0, .int (-1), .int 0, .int 0, .int 0, .int 0]))] ++ wWr T q5_0 u9_1 (fun _ => 0, fun _ => 0) ++ [(q18, .inl (T.2.1, 12, .inl (fun _ => 0)))] ++ [(q27, .inl (T.2.1, 5, .inl fFirst))]) rfl ?_
  refine g_aload_n hX dX2_init_73 rfl 0 rfl ?_
  refine g_iconst hX (v := 0) dX2_init_74 (by decide) ?_
  refine g_put hX 2 h_X2_init_X2 0 rfl rfl 10 (by decide) tyX2 tyX2_ok nmX2 k_X2_init_23 rfl rfl  rfl rfl rfl (Nat.le_of_ble_eq_true rfl) dX2_init_75 (ws' := [(s0, .inr (2, [.ref q5_0, .ref q18, .ref q27, .int 5000, .int 0, .int 0, .int (-1), .int 0, .int 0, .int 0, .int 0]))] ++ wWr T q5_0 u9_1 (fun _ => 0, fun _ => 0) ++ [(q18, .inl (T.2.1, 12, .inl (fun _ => 0)))] ++ [(q27, .inl (T.2.1, 5, .inl fFirst))]) rfl ?_
  exact g_vretC hX dX2_init_78 (q5_0, u9_1, q18, q27) rfl
def rmX0_init : Room := { frames := 1, cells := 3, slots := 180, locals := 14 }
theorem k_X0_init_0 : Cond.methodLink RX0 3 objectInit ∈ wsX0_init := List.mem_of_getElem? (i := 1) rfl
theorem k_X0_init_1 : Cond.instanceMethod objectInit ∈ wsX0_init := List.mem_of_getElem? (i := 2) rfl
theorem k_X0_init_2 : Cond.code objectInit ⟨#[0xb1]⟩ 1 none ∈ wsX0_init := List.mem_of_getElem? (i := 3) rfl
theorem k_X0_init_3 : Cond.arrayClass .char ∈ wsX0_init := List.mem_of_getElem? (i := 4) rfl
theorem k_X0_init_4 : Cond.fieldLink RX0 9 RX0 (TX0 0).2.1 (TX0 0).2.2.1 ∈ wsX0_init := List.mem_of_getElem? (i := 5) rfl
theorem h_X0_init_X0 : ∀ w ∈ u_ws RX0 TX0 7, w ∈ wsX0_init := fun w h => List.mem_cons_of_mem _ (List.mem_append_right _ h)
theorem k_X0_init_5 : Cond.arrayClass .int ∈ wsX0_init := List.mem_of_getElem? (i := 6) rfl
theorem k_X0_init_6 : Cond.fieldLink RX0 15 RX0 (TX0 1).2.1 (TX0 1).2.2.1 ∈ wsX0_init := List.mem_of_getElem? (i := 7) rfl
theorem k_X0_init_7 : Cond.fieldLink RX0 19 RX0 (TX0 2).2.1 (TX0 2).2.2.1 ∈ wsX0_init := List.mem_of_getElem? (i := 8) rfl
theorem k_X0_init_8 : Cond.fieldLink RX0 22 RX0 (TX0 3).2.1 (TX0 3).2.2.1 ∈ wsX0_init := List.mem_of_getElem? (i := 9) rfl
theorem k_X0_init_9 : Cond.fieldLink RX0 26 RX0 (TX0 4).2.1 (TX0 4).2.2.1 ∈ wsX0_init := List.mem_of_getElem? (i := 10) rfl
theorem k_X0_init_10 : Cond.fieldLink RX0 29 RX0 (TX0 5).2.1 (TX0 5).2.2.1 ∈ wsX0_init := List.mem_of_getElem? (i := 11) rfl
theorem k_X0_init_11 : Cond.fieldLink RX0 32 RX0 (TX0 6).2.1 (TX0 6).2.2.1 ∈ wsX0_init := List.mem_of_getElem? (i := 12) rfl
set_option maxHeartbeats 4000000 in
set_option maxRecDepth 100000 in
theorem c_X0_init (l : Launch) (T : TT) (b0 : Nat) (s0 : Nat) : ConC l T b0 yX0_init wsX0_init rmX0_init [.ref s0] [(s0, .inr (0, [.null, .null, .null, .int 0, .int 0, .int 0, .int 0]))] (Nat × Nat × Nat) (fun (h : Nat × Nat × Nat) (w : va_W) => w = wTx T s0 h.1 h.2.1 h.2.2 t0) 3 180 := by
  refine conC_of (cc := cX0_init) (maxL := 1) (ret := none) (lv0 := [(0, .ref s0)]) (by decide +kernel) rfl rfl (Nat.le_of_ble_eq_true rfl) rfl (fun X hX hin => ?_)
  refine g_aload_n hX dX0_init_0 rfl 0 rfl ?_
  refine g_objInit hX k_X0_init_0 k_X0_init_1 k_X0_init_2 (Nat.le_of_ble_eq_true rfl) (Nat.le_of_ble_eq_true rfl) dX0_init_1 ?_
  refine g_aload_n hX dX0_init_4 rfl 0 rfl ?_
  refine g_bipush hX (v := 60) dX0_init_5 (by decide) ?_
  refine g_newC hX 60 (by decide) (by decide) (by decide) k_X0_init_3 (Nat.le_of_ble_eq_true rfl) (Nat.le_of_ble_eq_true rfl) dX0_init_7 (fun q7 => ?_)
  refine g_putF hX 0 h_X0_init_X0 0 rfl rfl 0 (by decide) tyX0 tyX0_ok nmX0 k_X0_init_4 rfl rfl hin rfl rfl rfl rfl (Nat.le_of_ble_eq_true rfl) dX0_init_9 (ws' := [(s0, .inr (0, [.ref q7, .null, .null, .int 0, .int 0, .int 0, .int 0]))] ++ [(q7, .inl (T.2.2.1, 60, .inl (fun _ => 0)))]) rfl ?_
  refine g_aload_n hX dX0_init_12 rfl 0 rfl ?_
  refine g_bipush hX (v := 60) dX0_init_13 (by decide) ?_
  refine g_newI hX 60 (by decide) (by decide) (by decide) k_X0_init_5 (Nat.le_of_ble_eq_true rfl) (Nat.le_of_ble_eq_true rfl) dX0_init_15 (fun q15 => ?_)
  refine g_putF hX 0 h_X0_init_X0 0 rfl rfl 1 (by decide) tyX0 tyX0_ok nmX0 k_X0_init_6 rfl rfl hin rfl rfl rfl rfl (Nat.le_of_ble_eq_true rfl) dX0_init_17 (ws' := [(s0, .inr (0, [.ref q7, .ref q15, .null, .int 0, .int 0, .int 0, .int 0]))] ++ [(q7, .inl (T.2.2.1, 60, .inl (fun _ => 0)))] ++ [(q15, .inl (T.2.1, 60, .inl (fun _ => 0)))]) rfl ?_
  refine g_aload_n hX dX0_init_20 rfl 0 rfl ?_
  refine g_bipush hX (v := 60) dX0_init_21 (by decide) ?_
  refine g_newI hX 60 (by decide) (by decide) (by decide) k_X0_init_5 (Nat.le_of_ble_eq_true rfl) (Nat.le_of_ble_eq_true rfl) dX0_init_23 (fun q23 => ?_)
  refine g_putF hX 0 h_X0_init_X0 0 rfl rfl 2 (by decide) tyX0 tyX0_ok nmX0 k_X0_init_7 rfl rfl hin rfl rfl rfl rfl (Nat.le_of_ble_eq_true rfl) dX0_init_25 (ws' := [(s0, .inr (0, [.ref q7, .ref q15, .ref q23, .int 0, .int 0, .int 0, .int 0]))] ++ [(q7, .inl (T.2.2.1, 60, .inl (fun _ => 0)))] ++ [(q15, .inl (T.2.1, 60, .inl (fun _ => 0)))] ++ [(q23, .inl (T.2.1, 60, .inl (fun _ => 0)))]) rfl ?_
  refine g_aload_n hX dX0_init_28 rfl 0 rfl ?_
  refine g_iconst hX (v := 0) dX0_init_29 (by decide) ?_
  refine g_put hX 0 h_X0_init_X0 0 rfl rfl 3 (by decide) tyX0 tyX0_ok nmX0 k_X0_init_8 rfl rfl  rfl rfl rfl (Nat.le_of_ble_eq_true rfl) dX0_init_30 (ws' := [(s0, .inr (0, [.ref q7, .ref q15, .ref q23, .int 0, .int 0, .int 0, .int 0]))] ++ [(q7, .inl (T.2.2.1, 60, .inl (fun _ => 0)))] ++ [(q15, .inl (T.2.1, 60, .inl (fun _ => 0)))] ++ [(q23, .inl (T.2.1, 60, .inl (fun _ => 0)))]) rfl ?_
  refine g_aload_n hX dX0_init_33 rfl 0 rfl ?_
  refine g_iconst hX (v := 0) dX0_init_34 (by decide) ?_
  refine g_put hX 0 h_X0_init_X0 0 rfl rfl 4 (by decide) tyX0 tyX0_ok nmX0 k_X0_init_9 rfl rfl  rfl rfl rfl (Nat.le_of_ble_eq_true rfl) dX0_init_35 (ws' := [(s0, .inr (0, [.ref q7, .ref q15, .ref q23, .int 0, .int 0, .int 0, .int 0]))] ++ [(q7, .inl (T.2.2.1, 60, .inl (fun _ => 0)))] ++ [(q15, .inl (T.2.1, 60, .inl (fun _ => 0)))] ++ [(q23, .inl (T.2.1, 60, .inl (fun _ => 0)))]) rfl ?_
  refine g_aload_n hX dX0_init_38 rfl 0 rfl ?_
  refine g_iconst hX (v := (-1)) dX0_init_39 (by decide) ?_
  refine g_put hX 0 h_X0_init_X0 0 rfl rfl 5 (by decide) tyX0 tyX0_ok nmX0 k_X0_init_10 rfl rfl  rfl rfl rfl (Nat.le_of_ble_eq_true rfl) dX0_init_40 (ws' := [(s0, .inr (0, [.ref q7, .ref q15, .ref q23, .int 0, .int 0, .int (-1), .int 0]))] ++ [(q7, .inl (T.2.2.1, 60, .inl (fun _ => 0)))] ++ [(q15, .inl (T.2.1, 60, .inl (fun _ => 0)))] ++ [(q23, .inl (T.2.1, 60, .inl (fun _ => 0)))]) rfl ?_
  refine g_aload_n hX dX0_init_43 rfl 0 rfl ?_
  refine g_iconst hX (v := (-1)) dX0_init_44 (by decide) ?_
  refine g_put hX 0 h_X0_init_X0 0 rfl rfl 6 (by decide) tyX0 tyX0_ok nmX0 k_X0_init_11 rfl rfl  rfl rfl rfl (Nat.le_of_ble_eq_true rfl) dX0_init_45 (ws' := [(s0, .inr (0, [.ref q7, .ref q15, .ref q23, .int 0, .int 0, .int (-1), .int (-1)]))] ++ [(q7, .inl (T.2.2.1, 60, .inl (fun _ => 0)))] ++ [(q15, .inl (T.2.1, 60, .inl (fun _ => 0)))] ++ [(q23, .inl (T.2.1, 60, .inl (fun _ => 0)))]) rfl ?_
  exact g_vretC hX dX0_init_48 (q7, q15, q23) rfl
