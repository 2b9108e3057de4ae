/-! Making cells: rows for constructors -/
section GN
variable {T : TT} {X : CX} {own : String} {nL : Nat} {Ts : List Cond} {cc : ByteArray} {ret : Option FieldType} {R : Room} {Q : State → Prop} {cells slots : Nat} {ws : va_W} {lv : List (Nat × Value)} {pc : Nat} {st : List Value}
theorem g_widen {k n : Nat} (h1 : cells ≤ k) (h2 : slots ≤ n) (kk : G T X Q k n ws lv pc st) : G T X Q cells slots ws lv pc st :=
  fun H locs ls hP hD hS hl => W.widen h1 h2 (kk H locs ls hP hD hS hl)
theorem g_new (hX : Fit T X own nL Ts cc ret R) {C : String} {U : u_T} {N index : Nat} (ci : Nat) (hin : ∀ w ∈ u_ws C U N, w ∈ Ts) (ty0 : Nat → FieldType) (hty : ∀ k, k < N → parseFieldDescriptor (U k).2.2.1 = some (ty0 k)) (hcl : Cond.classLink own index C ∈ Ts) (hinst : Cond.instantiable C N ∈ Ts) (hini : Cond.initialized C ∈ Ts) (hc : vwCl[ci]? = some (C, U, N)) {fs : List Value} (hfs : ∀ j, j < N → defaultValue (ty0 j) = vp_V fs j) (hcells : cells + 1 ≤ R.cells) (hslots : slots + N ≤ R.slots) (hdg : decode cc pc = .ok (.new index, 3))
    (k : ∀ q : Nat, G T X Q (cells + 1) (slots + N) (ws ++ [(q, .inr (ci, fs))]) lv (pc + 3) (.ref q :: st)) : G T X Q cells slots ws lv pc st := by
  intro H locs ls hP hD hS hl
  have e : xR X = R := hX.2.2.2.2.2.2.2.2.2.2.2
  exact va_new (D := T.1) hX.1 hX.2.1 hX.2.2.2.2.1 hin ty0 hty hX.2.2.2.1 (hX.2.2.2.2.1 _ hcl) (hX.2.2.2.2.1 _ hinst) (hX.2.2.2.2.1 _ hini) hX.2.2.2.2.2.1 hP hD hS hX.2.2.2.2.2.2.1 hc hfs (by rw [e]; exact hcells) (by rw [e]; exact hslots) hdg (fun q H1 hP1 hD1 hS1 => k q H1 locs ls hP1 hD1 hS1 hl)
theorem g_newI (hX : Fit T X own nL Ts cc ret R) {n : Int32} (N : Nat) (hn : ¬ n < 0) (hN : n.toNatClampNeg = N) (hb : N * 4 ≤ 536870912) (harr : Cond.arrayClass .int ∈ Ts) (hcells : cells + 1 ≤ R.cells) (hslots : slots + N ≤ R.slots) (hdg : decode cc pc = .ok (.newarray .int, 2))
    (k : ∀ q : Nat, G T X Q (cells + 1) (slots + N) (ws ++ [(q, .inl (T.2.1, N, .inl (fun _ => 0)))]) lv (pc + 2) (.ref q :: st)) : G T X Q cells slots ws lv pc (.int n :: st) := by
  intro H locs ls hP hD hS hl
  have e : xR X = R := hX.2.2.2.2.2.2.2.2.2.2.2
  refine va_newa (D := T.1) (atype := .int) (ty := .int) (a0 := (N, .inl (fun _ => 0))) hX.1 hX.2.1 (hX.2.2.2.2.1 _ harr) rfl hX.2.2.2.2.2.1 hP hD hS hX.2.2.2.2.2.2.1 (fun _ => rfl) hn hN hb (by rw [e]; exact hcells) (by rw [e]; exact hslots) hdg (fun q cA H1 hK1 hP1 hD1 hS1 => ?_)
  have h1 := va_nm_int (hK1.2 3 (cA, .int) rfl).2
  have h2 := va_nm_int (hX.2.2.2.2.2.1.2 0 (T.2.1, .int) rfl).2
  have h3 : cA = T.2.1 := Option.some.inj (h1.symm.trans h2)
  subst h3
  exact k q H1 locs ls hP1 hD1 hS1 hl
theorem g_newC (hX : Fit T X own nL Ts cc ret R) {n : Int32} (N : Nat) (hn : ¬ n < 0) (hN : n.toNatClampNeg = N) (hb : N * 2 ≤ 536870912) (harr : Cond.arrayClass .char ∈ Ts) (hcells : cells + 1 ≤ R.cells) (hslots : slots + N ≤ R.slots) (hdg : decode cc pc = .ok (.newarray .char, 2))
    (k : ∀ q : Nat, G T X Q (cells + 1) (slots + N) (ws ++ [(q, .inl (T.2.2.1, N, .inl (fun _ => 0)))]) lv (pc + 2) (.ref q :: st)) : G T X Q cells slots ws lv pc (.int n :: st) := by
  intro H locs ls hP hD hS hl
  have e : xR X = R := hX.2.2.2.2.2.2.2.2.2.2.2
  refine va_newa (D := T.1) (atype := .char) (ty := .char) (a0 := (N, .inl (fun _ => 0))) hX.1 hX.2.1 (hX.2.2.2.2.1 _ harr) rfl hX.2.2.2.2.2.1 hP hD hS hX.2.2.2.2.2.2.1 (fun _ => rfl) hn hN hb (by rw [e]; exact hcells) (by rw [e]; exact hslots) hdg (fun q cA H1 hK1 hP1 hD1 hS1 => ?_)
  have h1 := va_nm_char (hK1.2 3 (cA, .char) rfl).2
  have h2 := va_nm_char (hX.2.2.2.2.2.1.2 1 (T.2.2.1, .char) rfl).2
  have h3 : cA = T.2.2.1 := Option.some.inj (h1.symm.trans h2)
  subst h3
  exact k q H1 locs ls hP1 hD1 hS1 hl
theorem g_newS (hX : Fit T X own nL Ts cc ret R) {index : Nat} {n : Int32} (N : Nat) (hn : ¬ n < 0) (hN : n.toNatClampNeg = N) (hb : N * 4 ≤ 536870912) (hcl : Cond.classLink own index RX2 ∈ Ts) (hcells : cells + 1 ≤ R.cells) (hslots : slots + N ≤ R.slots) (hdg : decode cc pc = .ok (.anewarray index, 3))
    (k : ∀ q : Nat, G T X Q (cells + 1) (slots + N) (ws ++ [(q, .inl (T.2.2.2, N, .inr (.inr (.inr (.inr (fun _ => none))))))]) lv (pc + 3) (.ref q :: st)) : G T X Q cells slots ws lv pc (.int n :: st) := by
  intro H locs ls hP hD hS hl
  have e : xR X = R := hX.2.2.2.2.2.2.2.2.2.2.2
  obtain ⟨t, _, _, _, _, hao⟩ := hX.2.2.2.2.2.2.2.2.1.2.2.2
  refine va_newq (D := T.1) (C := RX2) hX.1 hX.2.1 hX.2.2.2.1 (hX.2.2.2.2.1 _ hcl) hao hX.2.2.2.2.2.1 hP hD hS hX.2.2.2.2.2.2.1 hn hN hb (by rw [e]; exact hcells) (by rw [e]; exact hslots) hdg (fun q cA H1 hK1 hP1 hD1 hS1 => ?_)
  obtain ⟨_, _, _, _, _, h1⟩ := (hK1.2 3 (cA, .object RX2) rfl).2
  obtain ⟨_, _, _, _, _, h2⟩ := (hX.2.2.2.2.2.1.2 2 (T.2.2.2, .object RX2) rfl).2
  have h3 : cA = T.2.2.2 := Option.some.inj (h1.symm.trans h2)
  subst h3
  exact k q H1 locs ls hP1 hD1 hS1 hl
/-- a reference laid into an array of states -/
theorem g_aast (hX : Fit T X own nL Ts cc ret R) (q0 qk : Nat) {a n v : Nat} {vs : List Value} {f : Nat → Option Nat} (ha : ws[q0]? = some (a, .inl (T.2.2.2, n, .inr (.inr (.inr (.inr f)))))) (hv : ws[qk]? = some (v, .inr (2, vs))) {i : Int32} (hin : vp_in i n) (hdg : decode cc pc = .ok (.aastore, 1)) {ws' : va_W} (hw : ws.set q0 (a, .inl (T.2.2.2, n, .inr (.inr (.inr (.inr (va_up f i.toNatClampNeg (some v))))))) = ws') (k : G T X Q cells slots ws' lv (pc + 1) st) : G T X Q cells slots ws lv pc (.ref v :: .int i :: .ref a :: st) := by
  subst hw
  exact fun H locs ls hP hD hS hl => va_astq (D := T.1) (r := (RX2, TX2, 11)) hX.1 hX.2.1 hX.2.2.2.2.2.1 hP hD hS q0 2 qk 2 ha rfl hv rfl hin hdg (fun H1 locs1 hP1 hD1 hS1 => k H1 locs1 ls hP1 hD1 hS1 hl)
theorem vp_cell_congrq {cA : ClassId} {n : Nat} {f g : Nat → Option Nat} (h : ∀ j, j < n → f j = g j) : vp_cell cA (n, .inr (.inr (.inr (.inr f)))) = vp_cell cA (n, .inr (.inr (.inr (.inr g)))) := by
  rw [vp_cell_q, vp_cell_q]
  unfold arrV
  congr 1
  congr 1
  funext j
  show va_rf (f j.val) = va_rf (g j.val)
  rw [h j.val j.isLt]
theorem g_sameq (q0 : Nat) {a n : Nat} {cA : ClassId} {f : Nat → Option Nat} (g : Nat → Option Nat) (ha : ws[q0]? = some (a, .inl (cA, n, .inr (.inr (.inr (.inr f)))))) (h : ∀ j, j < n → f j = g j) {ws' : va_W} (hw : ws.set q0 (a, .inl (cA, n, .inr (.inr (.inr (.inr g))))) = ws') (k : G T X Q cells slots ws' lv pc st) : G T X Q cells slots ws lv pc st := by
  subst hw
  intro H locs ls hP hD hS hl
  refine k H locs ls ?_ (hD.set ha) hS hl
  exact hP.set hD ha (show H[a]? = some (vp_cell cA (n, .inr (.inr (.inr (.inr g))))) from by rw [← vp_cell_congrq h]; exact hP q0 _ ha) (fun q _ => rfl)
/-- the clone of FIRST_NUMBERS -/
theorem va_cloneC {p : Program} {l : Launch} {e : Env} {R : Room} {s : State} {m : MethodId} {args : Array Value} {below : List Frame} {meth : Method} {c : Code} {H : Heap} {locs : List Loc} {cells slots : Nat} {Q : State → Prop} {cc : ByteArray} {pc : Nat} {ls : Array Slot} {rest : List Value} {D : va_G} {cl : List vw_C} {A : Nat → Prop} {ws : va_W} {H0 : Heap} (hexec : p.tables.exec = Jvm.exec) (hb : c.code = cc) (hml : c.maxLocals = ls.size) {own ad : String} {index : Nat} (hown : s.vm.findClass own = some m.cls)
    (hlink : (Cond.methodLink own index ⟨ad, "clone", "()Ljava/lang/Object;"⟩).before args s = true) (hsame : (Cond.sameMethod ad "java/lang/Object" "clone" "()Ljava/lang/Object;").before args s = true)
    (hnat : (Cond.native ⟨"java/lang/Object", "clone", "()Ljava/lang/Object;"⟩).before args s = true) (hinst : (Cond.instanceMethod ⟨"java/lang/Object", "clone", "()Ljava/lang/Object;"⟩).before args s = true)
    (hsel : (Cond.selects ad ⟨ad, "clone", "()Ljava/lang/Object;"⟩ ⟨"java/lang/Object", "clone", "()Ljava/lang/Object;"⟩).before args s = true) (hcl : va_Nw (.castable ad "java/lang/Cloneable") s)
    (hP : va_P D cl ws H) (hD : va_D A ws) (hS : va_S A H0 H locs) (hA : ∀ q, H0.size ≤ q → A q) {a n : Nat} {cell : Cell} {cA : ClassId} {f : Nat → Int32} (hcell : H[a]? = some cell) (hcA : cell.cls = cA) (hsl : cell.slots = (arrV cA n (fun j => .int (f j))).slots) (hst : ∀ k, cell.vm ≠ .statics k) (hun : cell.vm ≠ .unknown) (harr : ArrOfT s cA .int) (hnm : s.vm.findClass ad = some cA)
    (hframes : 1 ≤ R.frames) (hlocals : (rest.map fun v => v.category).sum + 14 ≤ R.locals) (hcells : cells + 1 ≤ R.cells) (hslots : slots + n ≤ R.slots) (hdg : decode cc pc = .ok (.invokevirtual index, 3))
    (kk : ∀ (q : Nat) (H1 : Heap), va_P D cl (ws ++ [(q, .inl (cA, n, .inl f))]) H1 → va_D A (ws ++ [(q, .inl (cA, n, .inl f))]) → va_S A H0 H1 locs → W p l e R s m args below meth c H1 locs (cells + 1) (slots + n) Q (F0 m (pc + 3) ls (.ref q :: rest))) : W p l e R s m args below meth c H locs cells slots Q (F0 m pc ls (.ref a :: rest)) := by
  have hsz : cell.slots.size = n := by rw [hsl, arrV_size]
  have hcellE : ({ cls := cell.cls, slots := cell.slots } : Cell) = vp_cell cA (n, .inl f) := by
    rw [hcA, hsl]
    rfl
  have hfit : ∀ (i : Nat) (v : Value), cell.slots[i]? = some v → fits .int v = true := fun i v hv => by
    rw [hsl] at hv
    exact va_fit (fun _ _ => rfl) i v hv
  obtain ⟨c0, t0', f1, f2, f3⟩ := Cond.castable_spec (va_Nw.use (A := args) rfl hcl)
  cases hnm.symm.trans f1
  intro T hT X
  have hcellT : T.heap[a]? = some cell := by rw [hT]; exact hcell
  obtain ⟨-, kA, hkA, comp, hkind⟩ := State.isArrayOf_alike X.warmed.alike (harr 0 (fun _ => .null))
  obtain ⟨-, kS, hkS, compS, hkindS⟩ := harr 0 (fun _ => .null)
  obtain ⟨vm', X', st⟩ := X.cloneArray hexec hown hlink hsame hnat hinst hsel (a := a) (cell := cell) hcellT hst hun (by rw [hcA]; exact hnm) f2 (by rw [hcA]; exact f3)
    (fun i v hv => by
      rw [hcA]
      have hk' : T.vm.classes[cA]? = some kA := hkA
      simpa [State.fitsSlot, State.slotType?, hk', hkind] using hfit i v hv)
    (g := F0 m pc ls (.ref a :: rest)) rfl (by rw [hml]) rfl (by rw [hb]; exact hdg) hframes (by show 2 * 0 + _ + 14 ≤ _; omega) hcells (by rw [hsz]; exact hslots) (hloader := by rw [hcA]; exact Vm.clonesLoader_of_array hkS hkindS)
  rw [hcellE, hsz] at X'
  generalize hH1 : H.push (vp_cell cA (n, .inl f)) = H1
  have e1 : H1[H.size]? = some (vp_cell cA (n, .inl f)) := by rw [← hH1, Array.getElem?_push_size]
  have z1 : H1.size = H.size + 1 := by rw [← hH1, Array.size_push]
  have o1 : ∀ q : Nat, q < H.size → H1[q]? = H[q]? := fun q hq => by rw [← hH1, Array.getElem?_push, if_neg (Nat.ne_of_lt hq)]
  have hk : ∀ (k : Nat) (y : Nat × va_E), ws[k]? = some y → H1[y.1]? = H[y.1]? := fun k y hy => o1 y.1 ((hP k y hy).lt)
  obtain ⟨t, b1, b2⟩ := kk H.size H1 ((hP.kept hk).app (fun k y hy => by
      have hz : k < 1 := (List.getElem?_eq_some_iff.mp hy).1
      rw [show k = 0 by omega] at hy
      cases hy
      exact e1)) (hD.push hP rfl (hA _ hS.1)) ⟨Nat.le_trans hS.1 (by omega), fun y h1 h2 => (o1 y (Nat.lt_of_lt_of_le h1 hS.1)).trans (hS.2.1 y h1 h2), hS.2.2⟩
    ((T.setVm vm').pushCell (vp_cell cA (n, .inl f))) (by rw [← hH1, ← hT]; rfl) X'
  refine ⟨t, st t ?_, b2⟩
  rw [hcellE, hT]
  exact b1
theorem g_clone (hX : Fit T X own nL Ts cc ret R) {t index : Nat} (hF : fHas T X t) (hlink : Cond.methodLink own index ⟨"[I", "clone", "()Ljava/lang/Object;"⟩ ∈ Ts) (hsame : Cond.sameMethod "[I" "java/lang/Object" "clone" "()Ljava/lang/Object;" ∈ Ts) (hnat : Cond.native ⟨"java/lang/Object", "clone", "()Ljava/lang/Object;"⟩ ∈ Ts) (hinst : Cond.instanceMethod ⟨"java/lang/Object", "clone", "()Ljava/lang/Object;"⟩ ∈ Ts) (hsel : Cond.selects "[I" ⟨"[I", "clone", "()Ljava/lang/Object;"⟩ ⟨"java/lang/Object", "clone", "()Ljava/lang/Object;"⟩ ∈ Ts) (hfr : 1 ≤ R.frames) (hlo : (st.map fun v => v.category).sum + 14 ≤ R.locals) (hcells : cells + 1 ≤ R.cells) (hslots : slots + 5 ≤ R.slots) (hdg : decode cc pc = .ok (.invokevirtual index, 3))
    (k : ∀ q : Nat, G T X Q (cells + 1) (slots + 5) (ws ++ [(q, .inl (T.2.1, 5, .inl fFirst))]) lv (pc + 3) (.ref q :: st)) : G T X Q cells slots ws lv pc (.ref t :: st) := by
  intro H locs ls hP hD hS hl
  have e : xR X = R := hX.2.2.2.2.2.2.2.2.2.2.2
  obtain ⟨_, _, _, _, hcast, _⟩ := hX.2.2.2.2.2.2.2.2.1.2.2.2
  have hn : ¬ xA X t := fun z => by
    have h1 := hX.2.2.2.2.2.2.2.2.2.1 t z
    have h2 := hF.2
    omega
  obtain ⟨cell, c1, c2, c3, c4, c5⟩ := hF.1
  have hc : H[t]? = some cell := by rw [hS.2.1 t (Array.getElem?_eq_some_iff.mp c1).1 hn]; exact c1
  have hr := hX.2.2.2.2.2.1.2 0 (T.2.1, .int) rfl
  exact va_cloneC (D := T.1) (cl := vwCl) hX.1 hX.2.1 (by rw [hl.1]) hX.2.2.2.1 (hX.2.2.2.2.1 _ hlink) (hX.2.2.2.2.1 _ hsame) (hX.2.2.2.2.1 _ hnat) (hX.2.2.2.2.1 _ hinst) (hX.2.2.2.2.1 _ hsel) hcast hP hD hS hX.2.2.2.2.2.2.1 hc c2 c3 c4 c5 hr.1 (va_nm_int hr.2) (by rw [e]; exact hfr) (by rw [e]; exact hlo) (by rw [e]; exact hcells) (by rw [e]; exact hslots) hdg (fun q H1 hP1 hD1 hS1 => k q H1 locs ls hP1 hD1 hS1 hl)
theorem g_castA (hX : Fit T X own nL Ts cc ret R) {index a : Nat} (hlink : Cond.classLink own index "[I" ∈ Ts) (q0 : Nat) {n : Nat} {f : Nat → Int32} (ha : ws[q0]? = some (a, .inl (T.2.1, n, .inl f))) (hdg : decode cc pc = .ok (.checkcast index, 3)) (k : G T X Q cells slots ws lv (pc + 3) (.ref a :: st)) : G T X Q cells slots ws lv pc (.ref a :: st) :=
  fun H locs ls hP hD hS hl => va_castA (D := T.1) hX.1 hX.2.1 hX.2.2.2.1 (hX.2.2.2.2.1 _ hlink) hP q0 ha (va_nm_int (hX.2.2.2.2.2.1.2 0 (T.2.1, .int) rfl).2) hdg (k H locs ls hP hD hS hl)
end GN
