/-! Making cells: rows for constructors -/
section GN
variable {T : TT} {X : CX} {own : String} {nL : Nat} {Ts : List Cond} {cc : ByteArray} {ret : Option FieldType} {R : Room} {Q : State → Prop} {cells slots : Nat} {ws : va_W} {lv : List (Nat × Value)} {pc : Nat} {st : List Value}
theorem g_widen {k n : Nat} (h1 : cells ≤ k) (h2 : slots ≤ n) (kk : G T X Q k n ws lv pc st) : G T X Q cells slots ws lv pc st :=
  fun H locs ls hP hD hS hl => W.widen h1 h2 (kk H locs ls hP hD hS hl)
theorem g_new (hX : Fit T X own nL Ts cc ret R) {C : String} {U : u_T} {N index : Nat} (ci : Nat) (hin : ∀ w ∈ u_ws C U N, w ∈ Ts) (ty0 : Nat → FieldType) (hty : ∀ k, k < N → parseFieldDescriptor (U k).2.2.1 = some (ty0 k)) (hcl : Cond.classLink own index C ∈ Ts) (hinst : Cond.instantiable C N ∈ Ts) (hini : Cond.initialized C ∈ Ts) (hc : vwCl[ci]? = some (C, U, N)) {fs : List Value} (hfs : ∀ j, j < N → defaultValue (ty0 j) = vp_V fs j) (hcells : cells + 1 ≤ R.cells) (hslots : slots + N ≤ R.slots) (hdg : decode cc pc = .ok (.new index, 3))
    (k : ∀ q : Nat, G T X Q (cells + 1) (slots + N) (ws ++ [(q, .inr (ci, fs))]) lv (pc + 3) (.ref q :: st)) : G T X Q cells slots ws lv pc st := by
  intro H locs ls hP hD hS hl
  have e : xR X = R := hX.2.2.2.2.2.2.2.2.2.2.2
  exact va_new (D := T.1) hX.1 hX.2.1 hX.2.2.2.2.1 hin ty0 hty hX.2.2.2.1 (hX.2.2.2.2.1 _ hcl) (hX.2.2.2.2.1 _ hinst) (hX.2.2.2.2.1 _ hini) hX.2.2.2.2.2.1 hP hD hS hX.2.2.2.2.2.2.1 hc hfs (by rw [e]; exact hcells) (by rw [e]; exact hslots) hdg (fun q H1 hP1 hD1 hS1 => k q H1 locs ls hP1 hD1 hS1 hl)
theorem g_newI (hX : Fit T X own nL Ts cc ret R) {n : Int32} (N : Nat) (hn : ¬ n < 0) (hN : n.toNatClampNeg = N) (hb : N * 4 ≤ 536870912) (harr : Cond.arrayClass .int ∈ Ts) (hcells : cells + 1 ≤ R.cells) (hslots : slots + N ≤ R.slots) (hdg : decode cc pc = .ok (.newarray .int, 2))
    (k : ∀ q : Nat, G T X Q (cells + 1) (slots + N) (ws ++ [(q, .inl (T.2.1, N, .inl (fun _ => 0)))]) lv (pc + 2) (.ref q :: st)) : G T X Q cells slots ws lv pc (.int n :: st) := by
  intro H locs ls hP hD hS hl
  have e : xR X = R := hX.2.2.2.2.2.2.2.2.2.2.2
  refine va_newa (D := T.1) (atype := .int) (ty := .int) (a0 := (N, .inl (fun _ => 0))) hX.1 hX.2.1 (hX.2.2.2.2.1 _ harr) rfl hX.2.2.2.2.2.1 hP hD hS hX.2.2.2.2.2.2.1 (fun _ => rfl) hn hN hb (by rw [e]; exact hcells) (by rw [e]; exact hslots) hdg (fun q cA H1 hK1 hP1 hD1 hS1 => ?_)
  have h1 := va_nm_int (hK1.2 3 (cA, .int) rfl).2
  have h2 := va_nm_int (hX.2.2.2.2.2.1.2 0 (T.2.1, .int) rfl).2
  have h3 : cA = T.2.1 := Option.some.inj (h1.symm.trans h2)
  subst h3
  exact k q H1 locs ls hP1 hD1 hS1 hl
theorem g_newC (hX : Fit T X own nL Ts cc ret R) {n : Int32} (N : Nat) (hn : ¬ n < 0) (hN : n.toNatClampNeg = N) (hb : N * 2 ≤ 536870912) (harr : Cond.arrayClass .char ∈ Ts) (hcells : cells + 1 ≤ R.cells) (hslots : slots + N ≤ R.slots) (hdg : decode cc pc = .ok (.newarray .char, 2))
    (k : ∀ q : Nat, G T X Q (cells + 1) (slots + N) (ws ++ [(q, .inl (T.2.2.1, N, .inl (fun _ => 0)))]) lv (pc + 2) (.ref q :: st)) : G T X Q cells slots ws lv pc (.int n :: st) := by
  intro H locs ls hP hD hS hl
  have e : xR X = R := hX.2.2.2.2.2.2.2.2.2.2.2
  refine va_newa (D := T.1) (atype := .char) (ty := .char) (a0 := (N, .inl (fun _ => 0))) hX.1 hX.2.1 (hX.2.2.2.2.1 _ harr) rfl hX.2.2.2.2.2.1 hP hD hS hX.2.2.2.2.2.2.1 (fun _ => rfl) hn hN hb (by rw [e]; exact hcells) (by rw [e]; exact hslots) hdg (fun q cA H1 hK1 hP1 hD1 hS1 => ?_)
  have h1 := va_nm_char (hK1.2 3 (cA, .char) rfl).2
  have h2 := va_nm_char (hX.2.2.2.2.2.1.2 1 (T.2.2.1, .char) rfl).2
  have h3 : cA = T.2.2.1 := Option.some.inj (h1.symm.trans h2)
  subst h3
  exact k q H1 locs ls hP1 hD1 hS1 hl
theorem g_newS (hX : Fit T X own nL Ts cc ret R) {index : Nat} {n : Int32} (N : Nat) (hn : ¬ n < 0) (hN : n.toNatClampNeg = N) (hb : N * 4 ≤ 536870912) (hcl : Cond.classLink own index RX2 ∈ Ts) (hcells : cells + 1 ≤ R.cells) (hslots : slots + N ≤ R.slots) (hdg : decode cc pc = .ok (.anewarray index, 3))
    (k : ∀ q : Nat, G T X Q (cells + 1) (slots + N) (ws ++ [(q, .inl (T.2.2.2, N, .inr (.inr (.inr (.inr (fun _ => none))))))]) lv (pc + 3) (.ref q :: st)) : G T X Q cells slots ws lv pc (.int n :: st) := by
  intro H locs ls hP hD hS hl
  have e : xR X = R := hX.2.2.2.2.2.2.2.2.2.2.2
  obtain ⟨t, _, _, _, _, hao⟩ := hX.2.2.2.2.2.2.2.2.1.2.2.2
  refine va_newq (D := T.1) (C := RX2) hX.1 hX.2.1 hX.2.2.2.1 (hX.2.2.2.2.1 _ hcl) hao hX.2.2.2.2.2.1 hP hD hS hX.2.2.2.2.2.2.1 hn hN hb (by rw [e]; exact hcells) (by rw [e]; exact hslots) hdg (fun q cA H1 hK1 hP1 hD1 hS1 => ?_)
  obtain ⟨_, _, _, _, _, h1⟩ := (hK1.2 3 (cA, .object RX2) rfl).2
  obtain ⟨_, _, _, _, _, h2⟩ := (hX.2.2.2.2.2.1.2 2 (T.2.2.2, .object RX2) rfl).2
  have h3 : cA = T.2.2.2 := Option.some.inj (h1.symm.trans h2)
  subst h3
  exact k q H1 locs ls hP1 hD1 hS1 hl
/-- a reference laid into an array of states -/
theorem g_aast (hX : Fit T X own nL Ts cc ret R) (q0 qk : Nat) {a n v : Nat} {vs : List Value} {f : Nat → Option Nat} (ha : ws[q0]? = some (a, .inl (T.2.2.2, n, .inr (.inr (.inr (.inr f)))))) (hv : ws[qk]? = some (v, .inr (2, vs))) {i : Int32} (hin : vp_in i n) (hdg : decode cc pc = .ok (.aastore, 1)) {ws' : va_W} (hw : ws.set q0 (a, .inl (T.2.2.2, n, .inr (.inr (.inr (.inr (va_up f i.toNatClampNeg (some v))))))) = ws') (k : G T X Q cells slots ws' lv (pc + 1) st) : G T X Q cells slots ws lv pc (.ref v :: .int i :: .ref a :: st) := by
  subst hw
  exact fun H locs ls hP hD hS hl => va_astq (D := T.1) (r := (RX2, TX2, 11)) hX.1 hX.2.1 hX.2.2.2.2.2.1 hP hD hS q0 2 qk 2 ha rfl hv rfl hin hdg (fun H1 locs1 hP1 hD1 hS1 => k H1 locs1 ls hP1 hD1 hS1 hl)
theorem vp_cell_congrq {cA : ClassId} {n : Nat} {f g : Nat → Option Nat} (h : ∀ j, j < n → f j = g j) : vp_cell cA (n, .inr (.inr (.inr (.inr f)))) = vp_cell cA (n, .inr (.inr (.inr (.inr g)))) := by
  rw [vp_cell_q, vp_cell_q]
  unfold arrV
  congr 1
  congr 1
  funext j
  show va_rf (f j.val) = va_rf (g j.val)
  rw [h j.val j.isLt]
theorem g_sameq (q0 : Nat) {a n : Nat} {cA : ClassId} {f : Nat → Option Nat} (g : Nat → Option Nat) (ha : ws[q0]? = some (a, .inl (cA, n, .inr (.inr (.inr (.inr f)))))) (h : ∀ j, j < n → f j = g j) {ws' : va_W} (hw : ws.set q0 (a, .inl (cA, n, .inr (.inr (.inr (.inr g))))) = ws') (k : G T X Q cells slots ws' lv pc st) : G T X Q cells slots ws lv pc st := by
  subst hw
  intro H locs ls hP hD hS hl
  refine k H locs ls ?_ (hD.set ha) hS hl
  exact hP.set hD ha (show H[a]? = some (vp_cell cA (n, .inr (.inr (.inr (.inr g))))) from by rw [← vp_cell_congrq h]; exact hP q0 _ ha) (fun q _ => rfl)
/-- the clone of FIRST_NUMBERS -/
theorem g_clone (hX : Fit T X own nL Ts cc ret R) {t index : Nat} (hF : fHas T X t) (hlink : Cond.methodLink own index ⟨"[I", "clone", "()Ljava/lang/Object;"⟩ ∈ Ts) (hsame : Cond.sameMethod "[I" "java/lang/Object" "clone" "()Ljava/lang/Object;" ∈ Ts) (hnat : Cond.native ⟨"java/lang/Object", "clone", "()Ljava/lang/Object;"⟩ ∈ Ts) (hinst : Cond.instanceMethod ⟨"java/lang/Object", "clone", "()Ljava/lang/Object;"⟩ ∈ Ts) (hsel : Cond.selects "[I" ⟨"[I", "clone", "()Ljava/lang/Object;"⟩ ⟨"java/lang/Object", "clone", "()Ljava/lang/Object;"⟩ ∈ Ts) (hfr : 1 ≤ R.frames) (hlo : (st.map fun v => v.category).sum + 14 ≤ R.locals) (hcells : cells + 1 ≤ R.cells) (hslots : slots + 5 ≤ R.slots) (hdg : decode cc pc = .ok (.invokevirtual index, 3))
    (k : ∀ q : Nat, G T X Q (cells + 1) (slots + 5) (ws ++ [(q, .inl (T.2.1, 5, .inl fFirst))]) lv (pc + 3) (.ref q :: st)) : G T X Q cells slots ws lv pc (.ref t :: st) := by
  intro H locs ls hP hD hS hl
  have e : xR X = R := hX.2.2.2.2.2.2.2.2.2.2.2
  obtain ⟨_, _, _, _, hcast, _⟩ := hX.2.2.2.2.2.2.2.2.1.2.2.2
  have hn : ¬ xA X t := fun z => by
    have h1 := hX.2.2.2.2.2.2.2.2.2.1 t z
    have h2 := hF.2
    omega
  have hPt := fHas_P hX hF hS
  have hlt : t < (xS X).heap.size := (Array.getElem?_eq_some_iff.mp hF.1).1
  have hD' : va_D (fun q => xA X q ∨ q = t) (ws ++ [(t, .inl (T.2.1, 5, .inl fFirst))]) := by
    rw [zva_D_nodup, List.map_append, List.nodup_append]
    refine ⟨⟨(zva_D_nodup.mp hD).1, by simp, fun x hx y hy => ?_⟩, fun q hq => ?_⟩
    · obtain ⟨q, hq, rfl⟩ := List.mem_map.mp hx
      simp at hy
      subst hy
      intro z
      exact hn (z ▸ (zva_D_nodup.mp hD).2 q hq)
    · rcases List.mem_append.mp hq with h | h
      · exact Or.inl ((zva_D_nodup.mp hD).2 q h)
      · simp at h
        exact Or.inr (by rw [h])
  have hS' : va_S (fun q => xA X q ∨ q = t) (xS X).heap H locs := ⟨hS.1, fun q h1 h2 => hS.2.1 q h1 (fun z => h2 (Or.inl z)), fun l hl => Or.inl (hS.2.2 l hl)⟩
  have hnm := va_nm_int (hX.2.2.2.2.2.1.2 0 (T.2.1, .int) rfl).2
  refine va_clone (D := T.1) (x := (5, .inl fFirst)) hX.1 hX.2.1 (by rw [hl.1]) hX.2.2.2.1 (hX.2.2.2.2.1 _ hlink) (hX.2.2.2.2.1 _ hsame) (hX.2.2.2.2.1 _ hnat) (hX.2.2.2.2.1 _ hinst) (hX.2.2.2.2.1 _ hsel) hcast hX.2.2.2.2.2.1 (hP.app hPt) hD' hS' (fun q h => Or.inl (hX.2.2.2.2.2.2.1 q h)) ws.length 0 (by rw [List.getElem?_append_right (Nat.le_refl _), Nat.sub_self]; rfl) rfl hnm (fun i v hv => ?_) (by rw [e]; exact hfr) (by rw [e]; exact hlo) (by rw [e]; exact hcells) (by rw [e]; exact hslots) hdg (fun q H1 hK1 hP1 hD1 hS1 => ?_)
  · have h1 : (arrV T.2.1 5 (fun j => Value.int (fFirst j))).slots[i]? = some v := hv
    have h2 := (Array.getElem?_eq_some_iff.mp h1).1
    rw [arrV_size] at h2
    rw [arrV_read _ _ h2] at h1
    cases h1
    rfl
  · have hPm := zva_P_mem.mp hP1
    have hDm := zva_D_nodup.mp hD1
    have hqt : ¬ q = t := by
      intro z
      have h1 := hDm.1
      rw [List.map_append, List.nodup_append] at h1
      exact h1.2.2 t (List.mem_map.mpr ⟨(t, .inl (T.2.1, 5, .inl fFirst)), List.mem_append_right _ (List.mem_singleton.mpr rfl), rfl⟩) q (by simp) z.symm
    refine k q H1 locs ls (zva_P_mem.mpr (fun x hx => ?_)) ?_ ⟨hS1.1, fun y h1 h2 => ?_, hS.2.2⟩ hl
    · rcases List.mem_append.mp hx with h | h
      · exact hPm x (List.mem_append_left _ (List.mem_append_left _ h))
      · exact hPm x (List.mem_append_right _ h)
    · rw [zva_D_nodup, List.map_append, List.nodup_append]
      refine ⟨⟨(zva_D_nodup.mp hD).1, by simp, fun x hx y hy => ?_⟩, fun x hx => ?_⟩
      · have h1 := hDm.1
        rw [List.map_append, List.nodup_append] at h1
        exact h1.2.2 x (by rw [List.map_append]; exact List.mem_append_left _ hx) y hy
      · rcases List.mem_append.mp hx with h | h
        · exact (zva_D_nodup.mp hD).2 x h
        · have h1 := hDm.2 x (List.mem_append_right _ h)
          simp at h
          rcases h1 with h1 | h1
          · exact h1
          · rw [h] at h1
            exact absurd h1 hqt
    · by_cases hy : y = t
      · subst hy
        have h1 : H1[y]? = some (vp_cell T.2.1 (5, .inl fFirst)) := hPm (y, .inl (T.2.1, 5, .inl fFirst)) (List.mem_append_left _ (List.mem_append_right _ (List.mem_singleton.mpr rfl)))
        rw [h1]
        exact hF.1.symm
      · exact hS1.2.1 y h1 (fun z => z.elim h2 hy)
theorem g_castA (hX : Fit T X own nL Ts cc ret R) {index a : Nat} (hlink : Cond.classLink own index "[I" ∈ Ts) (q0 : Nat) {n : Nat} {f : Nat → Int32} (ha : ws[q0]? = some (a, .inl (T.2.1, n, .inl f))) (hdg : decode cc pc = .ok (.checkcast index, 3)) (k : G T X Q cells slots ws lv (pc + 3) (.ref a :: st)) : G T X Q cells slots ws lv pc (.ref a :: st) :=
  fun H locs ls hP hD hS hl => va_castA (D := T.1) hX.1 hX.2.1 hX.2.2.2.1 (hX.2.2.2.2.1 _ hlink) hP q0 ha (va_nm_int (hX.2.2.2.2.2.1.2 0 (T.2.1, .int) rfl).2) hdg (k H locs ls hP hD hS hl)
end GN
