/-! Wide worlds: a call on the first cells; cells in another order -/
theorem zva_P_mem {D : va_G} {cl : List vw_C} {ws : va_W} {H : Heap} : va_P D cl ws H ↔ ∀ q ∈ ws, va_at D cl q H :=
  ⟨fun h q hq => by obtain ⟨k, hk⟩ := List.getElem?_of_mem hq; exact h k q hk, fun h k q hk => h q (List.mem_of_getElem? hk)⟩
theorem zva_P_perm {D : va_G} {cl : List vw_C} {ws ws' : va_W} {H : Heap} (h : List.Perm ws ws') (hP : va_P D cl ws H) : va_P D cl ws' H := zva_P_mem.mpr (fun q hq => zva_P_mem.mp hP q (h.mem_iff.mpr hq))
theorem zva_D_nodup {A : Nat → Prop} {ws : va_W} : va_D A ws ↔ (ws.map (fun q => q.1)).Nodup ∧ ∀ q ∈ ws, A q.1 := by
  constructor
  · intro h
    refine ⟨?_, fun q hq => by obtain ⟨k, hk⟩ := List.getElem?_of_mem hq; exact h.2 k q hk⟩
    refine List.pairwise_iff_getElem.mpr (fun i j hi hj hij e => ?_)
    rw [List.length_map] at hi hj
    rw [List.getElem_map, List.getElem_map] at e
    have := h.1 i j _ _ (List.getElem?_eq_getElem hi) (List.getElem?_eq_getElem hj) e
    omega
  · intro h
    refine ⟨fun i j p q hi hj e => ?_, fun k q hk => h.2 q (List.mem_of_getElem? hk)⟩
    have hn := List.pairwise_iff_getElem.mp h.1
    have li := (List.getElem?_eq_some_iff.mp hi).1
    have lj := (List.getElem?_eq_some_iff.mp hj).1
    rcases Nat.lt_trichotomy i j with z | z | z
    · refine absurd ?_ (hn i j (by rw [List.length_map]; exact li) (by rw [List.length_map]; exact lj) z)
      rw [List.getElem_map, List.getElem_map, (List.getElem?_eq_some_iff.mp hi).2, (List.getElem?_eq_some_iff.mp hj).2]
      exact e
    · exact z
    · refine absurd ?_ (hn j i (by rw [List.length_map]; exact lj) (by rw [List.length_map]; exact li) z)
      rw [List.getElem_map, List.getElem_map, (List.getElem?_eq_some_iff.mp hi).2, (List.getElem?_eq_some_iff.mp hj).2]
      exact e.symm
theorem zva_D_perm {A : Nat → Prop} {ws ws' : va_W} (h : List.Perm ws ws') (hD : va_D A ws) : va_D A ws' := by
  rw [zva_D_nodup] at hD ⊢
  exact ⟨(h.map _).nodup_iff.mp hD.1, fun q hq => hD.2 q (h.mem_iff.mpr hq)⟩
theorem zva_D_left {A : Nat → Prop} {a b : va_W} (hD : va_D A (a ++ b)) : va_D A a := by
  rw [zva_D_nodup] at hD ⊢
  rw [List.map_append, List.nodup_append] at hD
  exact ⟨hD.1.1, fun q hq => hD.2 q (List.mem_append_left _ hq)⟩
theorem zva_P_left {D : va_G} {cl : List vw_C} {a b : va_W} {H : Heap} (h : va_P D cl (a ++ b) H) : va_P D cl a H := zva_P_mem.mpr (fun q hq => zva_P_mem.mp h q (List.mem_append_left _ hq))
theorem zva_backP {A0 : Nat → Prop} {D : va_G} {cl : List vw_C} {wc rest w1 : va_W} {H H1 : Heap} (hP : va_P D cl (wc ++ rest) H) (hD : va_D A0 (wc ++ rest)) (hA : w1.map (fun q => q.1) = wc.map (fun q => q.1))
    (hk : ∀ q : Nat, q < H.size → ¬ va_A wc H.size q → H1[q]? = H[q]?) (hP1 : va_P D cl w1 H1) : va_P D cl (w1 ++ rest) H1 ∧ va_D A0 (w1 ++ rest) := by
  refine ⟨hP1.app (zva_P_mem.mpr (fun q hq => ?_)), va_D_congr (by rw [List.map_append, List.map_append, hA]) hD⟩
  have h1 := zva_P_mem.mp hP q (List.mem_append_right _ hq)
  refine h1.kept (hk q.1 h1.lt (fun h => ?_))
  rcases h with ⟨k, e, h⟩ | h
  · rw [zva_D_nodup, List.map_append, List.nodup_append] at hD
    exact hD.1.2.2 q.1 (List.mem_map.mpr ⟨(q.1, e), List.mem_of_getElem? h, rfl⟩) q.1 (List.mem_map.mpr ⟨q, hq, rfl⟩) rfl
  · have := h1.lt
    omega
theorem zva_freeP {A0 : Nat → Prop} {wc rest : va_W} {H0 H : Heap} {locs : List Loc} (hD : va_D A0 (wc ++ rest)) (hS : va_S A0 H0 H locs) (hA : ∀ q, H0.size ≤ q → A0 q) : ∀ q, va_A wc H.size q → A0 q := by
  intro q h
  rcases h with ⟨k, e, h⟩ | h
  · exact (zva_D_nodup.mp hD).2 (q, e) (List.mem_append_left _ (List.mem_of_getElem? h))
  · exact hA q (Nat.le_trans hS.1 h)
section GP
variable {T : TT} {X : CX} {own : String} {nL : Nat} {Ts : List Cond} {cc : ByteArray} {ret : Option FieldType} {R : Room} {Q : State → Prop} {cells slots : Nat} {ws w1 : va_W} {lv : List (Nat × Value)} {pc : Nat} {st : List Value} {x rv : Int32}
theorem g_perm {ws' : va_W} (h : List.Perm ws ws') (k : G T X Q cells slots ws' lv pc st) : G T X Q cells slots ws lv pc st :=
  fun H locs ls hP hD hS hl => k H locs ls (zva_P_perm h hP) (zva_D_perm h hD) hS hl
theorem g_pV_I (hX : Fit T X own nL Ts cc ret R) {y : MethodName} {bytes : ByteArray} {maxL n index : Nat} {ret' : Option FieldType} {wds wds' : List Cond} {rm : Room} {As : List Value} {wc rest ws' : va_W} {stk : List Value} {b ci : Nat} {fs : List Value} {U : u_T} {N : Nat} (q0 : Nat) (hrec : ws[q0]? = some (b, .inr (ci, fs))) (hc : vwCl[ci]? = some (y.cls, U, N)) (hM : ConI (xL X) T (xB X) y wds rm (.ref b :: As) wc rv w1) (hG : GoodIn Ts (wsV own index y.cls y wds)) (hw : wds = Cond.code y bytes maxL ret' :: wds') (hrc : rm.cells = 0) (hrs : rm.slots = 0) (hR : rm.frames + 1 ≤ R.frames ∧ 8 + (maxL + 11) + rm.locals ≤ R.locals) (hcs : cells ≤ R.cells ∧ slots ≤ R.slots) (hd : y.cls ≠ "java/lang/invoke/MethodHandle" ∧ y.cls ≠ "java/lang/invoke/VarHandle" ∧ (parseMethodDescriptor y.desc).map (fun d => d.parameters.length) = some n) (hlen : As.length = n) (hws0 : ws = wc ++ rest) (hA : w1.map (fun q => q.1) = wc.map (fun q => q.1)) (hstk : stk = As.reverse ++ .ref b :: st) (hcat : (st.map fun v => v.category).sum ≤ 8) (hdg : decode cc pc = .ok (.invokevirtual index, 3)) (hws : w1 ++ rest = ws') (k : G T X Q cells slots ws' lv (pc + 3) (.int rv :: st)) : G T X Q cells slots ws lv pc stk := by
  subst hws
  subst hws0
  intro H locs ls hP hD hS hl
  have hPc := zva_P_left hP
  have hDc := zva_D_left hD
  have hFc := zva_freeP hD hS hX.2.2.2.2.2.2.1
  have hR' : rm.frames + 1 ≤ (xR X).frames ∧ 8 + (maxL + 11) + rm.locals ≤ (xR X).locals := by rw [hX.2.2.2.2.2.2.2.2.2.2.2]; exact hR
  have hcs' : cells + 0 ≤ (xR X).cells ∧ slots + 0 ≤ (xR X).slots := by rw [hX.2.2.2.2.2.2.2.2.2.2.2]; exact hcs
  refine va_calli (va_runV (As := As) (rest := st) ⟨hX.1, hX.2.1, rfl, hX.2.2.2.1, hX.2.2.2.2.1⟩ (hM H.size (fit_low hX hS)) (cwV n hX.2.2.2.2.1 hG hw hrc hrs ⟨rfl, hd⟩ hR') ⟨PreC_blind, va_recv hX.2.2.2.2.2.1 hP hc hrec, fun U hU hW => ⟨rfl, by rw [hU], by rw [hU]; exact hPc, va_K.moved hW.alike hX.2.2.2.2.2.1, hDc.weaken (fun _ q _ h => hX.2.2.2.2.2.2.2.2.2.1 _ h), hX.2.2.2.2.2.2.2.2.1.moved hS hX.2.2.2.2.2.2.2.2.2.1 hW hU⟩⟩ rfl hlen hl.1 hstk (lv_room hcat) hdg hcs') hS (fun q _ h => hFc q h) hFc (fun r u t H1 locs1 ht hvm hw2 hB hz1 hk1 hS1 => ?_)
  obtain ⟨rfl, rfl⟩ := hw2
  obtain ⟨hP1, hD1⟩ := hB
  rw [ht] at hP1
  obtain ⟨hP2, hD2⟩ := zva_backP hP hD hA hk1 hP1
  exact k H1 locs1 ls hP2 hD2 hS1 hl
theorem g_pV_V (hX : Fit T X own nL Ts cc ret R) {y : MethodName} {bytes : ByteArray} {maxL n index : Nat} {ret' : Option FieldType} {wds wds' : List Cond} {rm : Room} {As : List Value} {wc rest ws' : va_W} {stk : List Value} {b ci : Nat} {fs : List Value} {U : u_T} {N : Nat} (q0 : Nat) (hrec : ws[q0]? = some (b, .inr (ci, fs))) (hc : vwCl[ci]? = some (y.cls, U, N)) (hM : ConV (xL X) T (xB X) y wds rm (.ref b :: As) wc w1) (hG : GoodIn Ts (wsV own index y.cls y wds)) (hw : wds = Cond.code y bytes maxL ret' :: wds') (hrc : rm.cells = 0) (hrs : rm.slots = 0) (hR : rm.frames + 1 ≤ R.frames ∧ 8 + (maxL + 11) + rm.locals ≤ R.locals) (hcs : cells ≤ R.cells ∧ slots ≤ R.slots) (hd : y.cls ≠ "java/lang/invoke/MethodHandle" ∧ y.cls ≠ "java/lang/invoke/VarHandle" ∧ (parseMethodDescriptor y.desc).map (fun d => d.parameters.length) = some n) (hlen : As.length = n) (hws0 : ws = wc ++ rest) (hA : w1.map (fun q => q.1) = wc.map (fun q => q.1)) (hstk : stk = As.reverse ++ .ref b :: st) (hcat : (st.map fun v => v.category).sum ≤ 8) (hdg : decode cc pc = .ok (.invokevirtual index, 3)) (hws : w1 ++ rest = ws') (k : G T X Q cells slots ws' lv (pc + 3) st) : G T X Q cells slots ws lv pc stk := by
  subst hws
  subst hws0
  intro H locs ls hP hD hS hl
  have hPc := zva_P_left hP
  have hDc := zva_D_left hD
  have hFc := zva_freeP hD hS hX.2.2.2.2.2.2.1
  have hR' : rm.frames + 1 ≤ (xR X).frames ∧ 8 + (maxL + 11) + rm.locals ≤ (xR X).locals := by rw [hX.2.2.2.2.2.2.2.2.2.2.2]; exact hR
  have hcs' : cells + 0 ≤ (xR X).cells ∧ slots + 0 ≤ (xR X).slots := by rw [hX.2.2.2.2.2.2.2.2.2.2.2]; exact hcs
  refine va_callv (va_runV (As := As) (rest := st) ⟨hX.1, hX.2.1, rfl, hX.2.2.2.1, hX.2.2.2.2.1⟩ (hM H.size (fit_low hX hS)) (cwV n hX.2.2.2.2.1 hG hw hrc hrs ⟨rfl, hd⟩ hR') ⟨PreC_blind, va_recv hX.2.2.2.2.2.1 hP hc hrec, fun U hU hW => ⟨rfl, by rw [hU], by rw [hU]; exact hPc, va_K.moved hW.alike hX.2.2.2.2.2.1, hDc.weaken (fun _ q _ h => hX.2.2.2.2.2.2.2.2.2.1 _ h), hX.2.2.2.2.2.2.2.2.1.moved hS hX.2.2.2.2.2.2.2.2.2.1 hW hU⟩⟩ rfl hlen hl.1 hstk (lv_room hcat) hdg hcs') hS (fun q _ h => hFc q h) hFc (fun u t H1 locs1 ht hvm hw2 hB hz1 hk1 hS1 => ?_)
  subst hw2
  obtain ⟨hP1, hD1⟩ := hB
  rw [ht] at hP1
  obtain ⟨hP2, hD2⟩ := zva_backP hP hD hA hk1 hP1
  exact k H1 locs1 ls hP2 hD2 hS1 hl
theorem g_pVN_I (hX : Fit T X own nL Ts cc ret R) {y : MethodName} {bytes : ByteArray} {maxL n index : Nat} {ret' : Option FieldType} {wds wds' : List Cond} {rm : Room} {As : List Value} {wc rest ws' : va_W} {stk : List Value} {b ci : Nat} {fs : List Value} {U : u_T} {N : Nat} (q0 : Nat) (hrec : ws[q0]? = some (b, .inr (ci, fs))) (hc : vwCl[ci]? = some (y.cls, U, N)) (hM : ConI (xL X) T (xB X) y wds rm (.ref b :: As) wc rv w1) (hG : GoodIn Ts wds) (nk : Nat) {host : String} (hlink : nws[nk]? = some (Cond.methodLinkNest own index y host)) (hini : Cond.initialized y.cls ∈ Ts) (hinst : Cond.instanceMethod y ∈ Ts) (hsel : Cond.selects y.cls y y ∈ Ts) (hw : wds = Cond.code y bytes maxL ret' :: wds') (hrc : rm.cells = 0) (hrs : rm.slots = 0) (hR : rm.frames + 1 ≤ R.frames ∧ 8 + (maxL + 11) + rm.locals ≤ R.locals) (hcs : cells ≤ R.cells ∧ slots ≤ R.slots) (hd : y.cls ≠ "java/lang/invoke/MethodHandle" ∧ y.cls ≠ "java/lang/invoke/VarHandle" ∧ (parseMethodDescriptor y.desc).map (fun d => d.parameters.length) = some n) (hlen : As.length = n) (hws0 : ws = wc ++ rest) (hA : w1.map (fun q => q.1) = wc.map (fun q => q.1)) (hstk : stk = As.reverse ++ .ref b :: st) (hcat : (st.map fun v => v.category).sum ≤ 8) (hdg : decode cc pc = .ok (.invokevirtual index, 3)) (hws : w1 ++ rest = ws') (k : G T X Q cells slots ws' lv (pc + 3) (.int rv :: st)) : G T X Q cells slots ws lv pc stk := by
  subst hws
  subst hws0
  intro H locs ls hP hD hS hl
  have hPc := zva_P_left hP
  have hDc := zva_D_left hD
  have hFc := zva_freeP hD hS hX.2.2.2.2.2.2.1
  have hR' : rm.frames + 1 ≤ (xR X).frames ∧ 8 + (maxL + 11) + rm.locals ≤ (xR X).locals := by rw [hX.2.2.2.2.2.2.2.2.2.2.2]; exact hR
  have hcs' : cells + 0 ≤ (xR X).cells ∧ slots + 0 ≤ (xR X).slots := by rw [hX.2.2.2.2.2.2.2.2.2.2.2]; exact hcs
  refine va_calli (va_runVN (As := As) (rest := st) ⟨hX.1, hX.2.1, rfl, hX.2.2.2.1, hX.2.2.2.2.1⟩ (hM H.size (fit_low hX hS)) ⟨va_cnB n hX.2.2.2.2.1 hG hw hrc hrs (hX.2.2.2.2.2.2.2.2.1.1 _ (List.mem_of_getElem? hlink)) (hX.2.2.2.2.1 _ hini) hd hR', hX.2.2.2.2.1 _ hinst, hX.2.2.2.2.1 _ hsel⟩ ⟨PreC_blind, va_recv hX.2.2.2.2.2.1 hP hc hrec, fun U hU hW => ⟨rfl, by rw [hU], by rw [hU]; exact hPc, va_K.moved hW.alike hX.2.2.2.2.2.1, hDc.weaken (fun _ q _ h => hX.2.2.2.2.2.2.2.2.2.1 _ h), hX.2.2.2.2.2.2.2.2.1.moved hS hX.2.2.2.2.2.2.2.2.2.1 hW hU⟩⟩ rfl hlen hl.1 hstk (lv_room hcat) hdg hcs') hS (fun q _ h => hFc q h) hFc (fun r u t H1 locs1 ht hvm hw2 hB hz1 hk1 hS1 => ?_)
  obtain ⟨rfl, rfl⟩ := hw2
  obtain ⟨hP1, hD1⟩ := hB
  rw [ht] at hP1
  obtain ⟨hP2, hD2⟩ := zva_backP hP hD hA hk1 hP1
  exact k H1 locs1 ls hP2 hD2 hS1 hl
theorem g_pVN_V (hX : Fit T X own nL Ts cc ret R) {y : MethodName} {bytes : ByteArray} {maxL n index : Nat} {ret' : Option FieldType} {wds wds' : List Cond} {rm : Room} {As : List Value} {wc rest ws' : va_W} {stk : List Value} {b ci : Nat} {fs : List Value} {U : u_T} {N : Nat} (q0 : Nat) (hrec : ws[q0]? = some (b, .inr (ci, fs))) (hc : vwCl[ci]? = some (y.cls, U, N)) (hM : ConV (xL X) T (xB X) y wds rm (.ref b :: As) wc w1) (hG : GoodIn Ts wds) (nk : Nat) {host : String} (hlink : nws[nk]? = some (Cond.methodLinkNest own index y host)) (hini : Cond.initialized y.cls ∈ Ts) (hinst : Cond.instanceMethod y ∈ Ts) (hsel : Cond.selects y.cls y y ∈ Ts) (hw : wds = Cond.code y bytes maxL ret' :: wds') (hrc : rm.cells = 0) (hrs : rm.slots = 0) (hR : rm.frames + 1 ≤ R.frames ∧ 8 + (maxL + 11) + rm.locals ≤ R.locals) (hcs : cells ≤ R.cells ∧ slots ≤ R.slots) (hd : y.cls ≠ "java/lang/invoke/MethodHandle" ∧ y.cls ≠ "java/lang/invoke/VarHandle" ∧ (parseMethodDescriptor y.desc).map (fun d => d.parameters.length) = some n) (hlen : As.length = n) (hws0 : ws = wc ++ rest) (hA : w1.map (fun q => q.1) = wc.map (fun q => q.1)) (hstk : stk = As.reverse ++ .ref b :: st) (hcat : (st.map fun v => v.category).sum ≤ 8) (hdg : decode cc pc = .ok (.invokevirtual index, 3)) (hws : w1 ++ rest = ws') (k : G T X Q cells slots ws' lv (pc + 3) st) : G T X Q cells slots ws lv pc stk := by
  subst hws
  subst hws0
  intro H locs ls hP hD hS hl
  have hPc := zva_P_left hP
  have hDc := zva_D_left hD
  have hFc := zva_freeP hD hS hX.2.2.2.2.2.2.1
  have hR' : rm.frames + 1 ≤ (xR X).frames ∧ 8 + (maxL + 11) + rm.locals ≤ (xR X).locals := by rw [hX.2.2.2.2.2.2.2.2.2.2.2]; exact hR
  have hcs' : cells + 0 ≤ (xR X).cells ∧ slots + 0 ≤ (xR X).slots := by rw [hX.2.2.2.2.2.2.2.2.2.2.2]; exact hcs
  refine va_callv (va_runVN (As := As) (rest := st) ⟨hX.1, hX.2.1, rfl, hX.2.2.2.1, hX.2.2.2.2.1⟩ (hM H.size (fit_low hX hS)) ⟨va_cnB n hX.2.2.2.2.1 hG hw hrc hrs (hX.2.2.2.2.2.2.2.2.1.1 _ (List.mem_of_getElem? hlink)) (hX.2.2.2.2.1 _ hini) hd hR', hX.2.2.2.2.1 _ hinst, hX.2.2.2.2.1 _ hsel⟩ ⟨PreC_blind, va_recv hX.2.2.2.2.2.1 hP hc hrec, fun U hU hW => ⟨rfl, by rw [hU], by rw [hU]; exact hPc, va_K.moved hW.alike hX.2.2.2.2.2.1, hDc.weaken (fun _ q _ h => hX.2.2.2.2.2.2.2.2.2.1 _ h), hX.2.2.2.2.2.2.2.2.1.moved hS hX.2.2.2.2.2.2.2.2.2.1 hW hU⟩⟩ rfl hlen hl.1 hstk (lv_room hcat) hdg hcs') hS (fun q _ h => hFc q h) hFc (fun u t H1 locs1 ht hvm hw2 hB hz1 hk1 hS1 => ?_)
  subst hw2
  obtain ⟨hP1, hD1⟩ := hB
  rw [ht] at hP1
  obtain ⟨hP2, hD2⟩ := zva_backP hP hD hA hk1 hP1
  exact k H1 locs1 ls hP2 hD2 hS1 hl
end GP
theorem pm (s : Nat → va_W) (l1 l2 : List Nat) (h : l1.isPerm l2 = true) : List.Perm ((l1.map s).flatten) ((l2.map s).flatten) := ((List.isPerm_iff.mp h).map s).flatten
theorem pm_21 (a b c d e f g : va_W) : List.Perm (a ++ b ++ c ++ d ++ e ++ f ++ g) ((c ++ b) ++ (a ++ d ++ e ++ f ++ g)) := by
  have h := pm (fun i => match i with | 0 => a | 1 => b | 2 => c | 3 => d | 4 => e | 5 => f | _ => g) [0, 1, 2, 3, 4, 5, 6] [2, 1, 0, 3, 4, 5, 6] (by decide)
  simpa using h
theorem pm_12 (a b c d e f g : va_W) : List.Perm (a ++ b ++ c ++ d ++ e ++ f ++ g) ((b ++ c) ++ (a ++ d ++ e ++ f ++ g)) := by
  have h := pm (fun i => match i with | 0 => a | 1 => b | 2 => c | 3 => d | 4 => e | 5 => f | _ => g) [0, 1, 2, 3, 4, 5, 6] [1, 2, 0, 3, 4, 5, 6] (by decide)
  simpa using h
theorem pm_31 (a b c d e f g : va_W) : List.Perm (a ++ b ++ c ++ d ++ e ++ f ++ g) ((d ++ b) ++ (a ++ c ++ e ++ f ++ g)) := by
  have h := pm (fun i => match i with | 0 => a | 1 => b | 2 => c | 3 => d | 4 => e | 5 => f | _ => g) [0, 1, 2, 3, 4, 5, 6] [3, 1, 0, 2, 4, 5, 6] (by decide)
  simpa using h
theorem pm_23 (a b c d e f g : va_W) : List.Perm (a ++ b ++ c ++ d ++ e ++ f ++ g) ((c ++ d) ++ (a ++ b ++ e ++ f ++ g)) := by
  have h := pm (fun i => match i with | 0 => a | 1 => b | 2 => c | 3 => d | 4 => e | 5 => f | _ => g) [0, 1, 2, 3, 4, 5, 6] [2, 3, 0, 1, 4, 5, 6] (by decide)
  simpa using h
theorem pm_51 (a b c d e f g : va_W) : List.Perm (a ++ b ++ c ++ d ++ e ++ f ++ g) ((f ++ b) ++ (a ++ c ++ d ++ e ++ g)) := by
  have h := pm (fun i => match i with | 0 => a | 1 => b | 2 => c | 3 => d | 4 => e | 5 => f | _ => g) [0, 1, 2, 3, 4, 5, 6] [5, 1, 0, 2, 3, 4, 6] (by decide)
  simpa using h
theorem pm_1 (a b c d e f g : va_W) : List.Perm (a ++ b ++ c ++ d ++ e ++ f ++ g) ((b) ++ (a ++ c ++ d ++ e ++ f ++ g)) := by
  have h := pm (fun i => match i with | 0 => a | 1 => b | 2 => c | 3 => d | 4 => e | 5 => f | _ => g) [0, 1, 2, 3, 4, 5, 6] [1, 0, 2, 3, 4, 5, 6] (by decide)
  simpa using h
theorem pm_2 (a b c d e f g : va_W) : List.Perm (a ++ b ++ c ++ d ++ e ++ f ++ g) ((c) ++ (a ++ b ++ d ++ e ++ f ++ g)) := by
  have h := pm (fun i => match i with | 0 => a | 1 => b | 2 => c | 3 => d | 4 => e | 5 => f | _ => g) [0, 1, 2, 3, 4, 5, 6] [2, 0, 1, 3, 4, 5, 6] (by decide)
  simpa using h
theorem pm_3 (a b c d e f g : va_W) : List.Perm (a ++ b ++ c ++ d ++ e ++ f ++ g) ((d) ++ (a ++ b ++ c ++ e ++ f ++ g)) := by
  have h := pm (fun i => match i with | 0 => a | 1 => b | 2 => c | 3 => d | 4 => e | 5 => f | _ => g) [0, 1, 2, 3, 4, 5, 6] [3, 0, 1, 2, 4, 5, 6] (by decide)
  simpa using h
theorem pm_4 (a b c d e f g : va_W) : List.Perm (a ++ b ++ c ++ d ++ e ++ f ++ g) ((e) ++ (a ++ b ++ c ++ d ++ f ++ g)) := by
  have h := pm (fun i => match i with | 0 => a | 1 => b | 2 => c | 3 => d | 4 => e | 5 => f | _ => g) [0, 1, 2, 3, 4, 5, 6] [4, 0, 1, 2, 3, 5, 6] (by decide)
  simpa using h
theorem pm_5 (a b c d e f g : va_W) : List.Perm (a ++ b ++ c ++ d ++ e ++ f ++ g) ((f) ++ (a ++ b ++ c ++ d ++ e ++ g)) := by
  have h := pm (fun i => match i with | 0 => a | 1 => b | 2 => c | 3 => d | 4 => e | 5 => f | _ => g) [0, 1, 2, 3, 4, 5, 6] [5, 0, 1, 2, 3, 4, 6] (by decide)
  simpa using h
theorem pm_6 (a b c d e f g : va_W) : List.Perm (a ++ b ++ c ++ d ++ e ++ f ++ g) ((g) ++ (a ++ b ++ c ++ d ++ e ++ f)) := by
  have h := pm (fun i => match i with | 0 => a | 1 => b | 2 => c | 3 => d | 4 => e | 5 => f | _ => g) [0, 1, 2, 3, 4, 5, 6] [6, 0, 1, 2, 3, 4, 5] (by decide)
  simpa using h
