/-! Reading, on the class's side -/
def TCs (u : TV) (n m : Nat) (k v : Int32) : Prop := u.1 0 = nI n ∧ u.1 1 = nI m ∧ u.1 2 = k ∧ u.1 3 = v
theorem rd_in {u : TV} {f s n : Nat} (e0 : u.1 0 = nI n) (hn : n ≤ 60) (h : s < n) : K_X0_read_17 (f + 1) u s = if (F_X0_takes u (u.2.1 s)).1 = 0 then (nI s, (F_X0_takes u (u.2.1 s)).2) else K_X0_read_17 f (F_X0_takes u (u.2.1 s)).2 (s + 1) := by
  have c60 : ((60 : Int32) ≤ nI s) ↔ 60 ≤ s := nI_leI (a := 60) (by omega) (by omega)
  show (if (u.1 0) ≤ (nI s) then _ else (if 60 ≤ (nI s) then _ else _)) = _
  rw [e0, if_neg (nI_ge h (by omega)), if_neg (fun z => by have := c60.mp z; omega)]
theorem rd_end {u : TV} {f n : Nat} (e0 : u.1 0 = nI n) (hn : n ≤ 60) : K_X0_read_17 (f + 1) u n = if F_X0_isComplete u = 0 then (nI n, u) else (-1, F_X0_addCommand u) := by
  show (if (u.1 0) ≤ (nI n) then (if (F_X0_isComplete u) = 0 then ((u.1 0), u) else _) else _) = _
  rw [e0, if_pos (nI_le (Nat.le_refl _) (by omega))]
theorem lowN {k : Nat} (hk : k < 7) : F_X4_lowest (nI k) = nI (loN k) := by
  rw [low_k hk]
  exact (show ∀ k : Fin 7, fLowI k.val = nI (loN k.val) from by decide +kernel) ⟨k, hk⟩
theorem highN {k : Nat} (hk : k < 7) : F_X4_highest (nI k) = nI (hiN k) := by
  rw [high_k hk]
  exact (show ∀ k : Fin 7, fHighI k.val = nI (hiN k.val) from by decide +kernel) ⟨k, hk⟩
theorem m1_ne {q : Nat} (hq : q < 2 ^ 31) : ¬ nI q = -1 := fun z => absurd (show nI q < 0 from by rw [z]; decide) (nI_pos hq)
theorem k7_ne {k : Nat} (hk : k < 7) : ¬ nI k = 7 := fun z => by
  have := (nI_eq (b := 7) (by omega) (by omega)).mp z
  omega
theorem cmp_val {u : TV} {k : Nat} (hk : k < 7) (ek : u.1 2 = nI k) : F_X0_isComplete u = if u.1 3 < nI (loN k) then 0 else 1 := by
  unfold F_X0_isComplete
  rw [ek, if_neg (k7_ne hk), if_neg (m1_ne (by omega)), lowN hk]
theorem cmp_7 {u : TV} (ek : u.1 2 = nI 7) : F_X0_isComplete u = 1 := by
  unfold F_X0_isComplete
  rw [ek, if_pos (show nI 7 = 7 from rfl)]
theorem cmp_n {u : TV} (ek : u.1 2 = -1) : F_X0_isComplete u = 0 := by
  unfold F_X0_isComplete
  rw [ek, if_neg (by decide), if_pos rfl]
theorem cI {c k : Nat} (hc : c < 65536) (hk : k < 65536) : (nI c = nI k) ↔ c = k := nI_eq (by omega) (by omega)
theorem cL {c k : Nat} (hc : c < 65536) (hk : k < 65536) : (nI c < nI k) ↔ c < k := nI_ltI (by omega) (by omega)
theorem digI {c : Nat} (h : 48 ≤ c) : nI c - 48 = nI (c - 48) := by
  rw [show (48 : Int32) = nI 48 from rfl, nI_sub h]
/-- what a pending command does with a character -/
theorem tk_no {u : TV} {c : Nat} (hc : c < 65536) (h2 : ¬ u.1 2 = -1) (h44 : c = 44 → F_X0_isComplete u = 0) (hd : 48 ≤ c → c ≤ 57 → F_X0_takesDigit u (nI (c - 48)) = (0, u)) : F_X0_takes u (nI c) = (0, u) := by
  have a44 : (nI c = 44) ↔ c = 44 := cI (k := 44) hc (by omega)
  have a48 : (nI c < 48) ↔ c < 48 := cL (k := 48) hc (by omega)
  have a57 : ((57 : Int32) < nI c) ↔ 57 < c := cL (c := 57) (by omega) hc
  have rest : (if nI c < 48 then ((0 : Int32), u) else (if 57 < nI c then (0, u) else (let z_66 := F_X0_takesDigit u (nI c - 48)
  (if z_66.1 = 0 then (0, z_66.2) else (1, z_66.2))))) = (0, u) := by
    by_cases c1 : c < 48
    · rw [if_pos (a48.mpr c1)]
    · rw [if_neg (fun z => c1 (a48.mp z))]
      by_cases c2 : 57 < c
      · rw [if_pos (a57.mpr c2)]
      · rw [if_neg (fun z => c2 (a57.mp z)), digI (by omega), hd (by omega) (by omega)]
        rfl
  unfold F_X0_takes
  rw [if_neg h2]
  by_cases c0 : c = 44
  · rw [if_pos (a44.mpr c0), h44 c0, if_pos rfl]
    exact rest
  · rw [if_neg (fun z => c0 (a44.mp z))]
    exact rest
theorem tk_comma {u : TV} (h2 : ¬ u.1 2 = -1) (h : F_X0_isComplete u = 1) : F_X0_takes u (nI 44) = (1, F_X0_addCommand u) := by
  unfold F_X0_takes
  rw [if_neg h2, if_pos (show nI 44 = 44 from rfl), h, if_neg (show ¬ (1 : Int32) = 0 from by decide)]
theorem tk_dig {u u' : TV} {c : Nat} (hc : c < 65536) (h2 : ¬ u.1 2 = -1) (h1 : 48 ≤ c) (h3 : c ≤ 57) (hd : F_X0_takesDigit u (nI (c - 48)) = (1, u')) : F_X0_takes u (nI c) = (1, u') := by
  have a44 : (nI c = 44) ↔ c = 44 := cI (k := 44) hc (by omega)
  have a48 : (nI c < 48) ↔ c < 48 := cL (k := 48) hc (by omega)
  have a57 : ((57 : Int32) < nI c) ↔ 57 < c := cL (c := 57) (by omega) hc
  unfold F_X0_takes
  rw [if_neg h2, if_neg (fun z => by have := a44.mp z; omega), if_neg (fun z => by have := a48.mp z; omega), if_neg (fun z => by have := a57.mp z; omega), digI h1, hd]
  rfl
/-- a further digit -/
theorem td_more {u : TV} {k v d : Nat} (hk : k < 7) (e2 : u.1 2 = nI k) (e3 : u.1 3 = nI v) (h0 : ¬ v = 0) (hv : v ≤ 9999) (hd : d ≤ 9) : F_X0_takesDigit u (nI d) = if 10 * v + d ≤ hiN k then (1, (upd u.1 3 (nI (10 * v + d)), u.2.1, u.2.2.1, u.2.2.2)) else (0, u) := by
  have hh := hiN_le (k := k)
  have el : (10 : Int32) * nI v + nI d = nI (10 * v + d) := by
    rw [show (10 : Int32) = nI 10 from rfl, nI_mul, nI_add]
  have cle : (nI (10 * v + d) ≤ nI (hiN k)) ↔ 10 * v + d ≤ hiN k := nI_leI (by omega) (by omega)
  unfold F_X0_takesDigit
  rw [e2, e3, if_neg (k7_ne hk), if_neg (nI_ne0 (by omega) (by omega)), if_neg (m1_ne (by omega)), el, if_pos (show (0 : Int32) < nI (10 * v + d) from nI_lt (a := 0) (by omega) (by omega)), highN hk]
  by_cases c : 10 * v + d ≤ hiN k
  · rw [if_pos (cle.mpr c), if_pos c]
  · rw [if_neg (fun z => c (cle.mp z)), if_neg c]
theorem td_zero {u : TV} {d : Int32} (e3 : u.1 3 = nI 0) : F_X0_takesDigit u d = (0, u) := by
  unfold F_X0_takesDigit
  rw [e3, if_pos (show nI 0 = 0 from rfl)]
  by_cases c : u.1 2 = 7
  · rw [if_pos c]
  · rw [if_neg c]
theorem td_7 {u : TV} {d : Int32} (e2 : u.1 2 = nI 7) : F_X0_takesDigit u d = (0, u) := by
  unfold F_X0_takesDigit
  rw [e2, if_pos (show nI 7 = 7 from rfl)]
theorem td_first {u : TV} {k d : Nat} (hk : k < 7) (e2 : u.1 2 = nI k) (e3 : u.1 3 = -1) (hd : d ≤ 9) : F_X0_takesDigit u (nI d) = if (0 < d ∨ loN k = 0) ∧ d ≤ hiN k then (1, (upd u.1 3 (nI d), u.2.1, u.2.2.1, u.2.2.2)) else (0, u) := by
  have hh := hiN_le (k := k)
  have hl := loN_le (k := k)
  have cle : (nI d ≤ nI (hiN k)) ↔ d ≤ hiN k := nI_leI (by omega) (by omega)
  have c0 : (0 < nI d) ↔ 0 < d := nI_ltI (a := 0) (by omega) (by omega)
  have cl : (nI (loN k) = 0) ↔ loN k = 0 := nI_eq (b := 0) (by omega) (by omega)
  have n10 : ¬ (-1 : Int32) = 0 := by decide
  unfold F_X0_takesDigit
  rw [e2, e3, if_neg (k7_ne hk), if_neg n10, if_pos rfl, highN hk, lowN hk]
  by_cases a1 : 0 < d
  · rw [if_pos (c0.mpr a1)]
    by_cases a2 : d ≤ hiN k
    · rw [if_pos (cle.mpr a2), if_pos ⟨Or.inl a1, a2⟩]
    · rw [if_neg (fun z => a2 (cle.mp z)), if_neg (fun z => a2 z.2)]
  · rw [if_neg (fun z => a1 (c0.mp z))]
    by_cases a3 : loN k = 0
    · rw [if_pos (cl.mpr a3)]
      by_cases a2 : d ≤ hiN k
      · rw [if_pos (cle.mpr a2), if_pos ⟨Or.inr a3, a2⟩]
      · rw [if_neg (fun z => a2 (cle.mp z)), if_neg (fun z => a2 z.2)]
    · rw [if_neg (fun z => a3 (cl.mp z)), if_neg (fun z => z.1.elim a1 a3)]
theorem tk_let {u : TV} {c : Nat} (hc : c < 65536) (h2 : u.1 2 = -1) : F_X0_takes u (nI c) = if kindN c = 8 then (0, (upd u.1 2 (-1), u.2.1, u.2.2.1, u.2.2.2)) else (1, (upd u.1 2 (nI (kindN c)), u.2.1, u.2.2.1, u.2.2.2)) := by
  have hk := kindN_le (c := c)
  unfold F_X0_takes
  rw [if_pos h2, kindOf_val hc]
  by_cases c8 : kindN c = 8
  · rw [if_pos c8, if_pos c8, if_pos rfl]
  · rw [if_neg c8, if_neg c8, if_neg (m1_ne (by omega))]
theorem add_val {u : TV} {m : Nat} (hm : m < 60) (e1 : u.1 1 = nI m) : F_X0_addCommand u = (upd (upd (upd u.1 1 (nI (m + 1))) 2 (-1)) 3 (-1), u.2.1, upd u.2.2.1 m (u.1 2), upd u.2.2.2 m (u.1 3)) := by
  unfold F_X0_addCommand
  rw [e1, if_neg (nI_pos (by omega)), if_neg (show ¬ (60 : Int32) ≤ nI m from nI_ge (a := m) (b := 60) hm (by omega)), nI_clamp (by omega), nI_1]
/-- the digits behind the first -/
theorem rdX {x : Nat → Nat} {n k : Nat} (hn : n ≤ 60) (hk : k < 7) : ∀ (g v s f : Nat) (u : TV) (m : Nat), f + s = 61 → s ≤ n → n < s + g → TCs u n m (nI k) (nI v) → TXr u.2.1 x n → v ≤ hiN k → ∃ (f' : Nat) (sc : Nat → Int32), f' + (rdN x n (hiN k) g v s).2 = 61 ∧ K_X0_read_17 f u s = K_X0_read_17 f' (sc, u.2.1, u.2.2.1, u.2.2.2) (rdN x n (hiN k) g v s).2 ∧ TCs (sc, u.2.1, u.2.2.1, u.2.2.2) n m (nI k) (nI (rdN x n (hiN k) g v s).1) ∧ ((rdN x n (hiN k) g v s).1 = 0 ∨ n ≤ (rdN x n (hiN k) g v s).2 ∨ x (rdN x n (hiN k) g v s).2 < 48 ∨ 57 < x (rdN x n (hiN k) g v s).2 ∨ hiN k < 10 * (rdN x n (hiN k) g v s).1 + (x (rdN x n (hiN k) g v s).2 - 48)) := by
  intro g
  induction g with
  | zero => intro v s f u m h1 h2 h3; omega
  | succ g ih =>
    intro v s f u m h1 h2 h3 hT hx hv
    by_cases c : v = 0 ∨ n ≤ s ∨ x s < 48 ∨ 57 < x s ∨ hiN k < 10 * v + (x s - 48)
    · rw [rdN_s, if_pos c]
      exact ⟨f, u.1, h1, rfl, hT, c⟩
    · rw [rdN_s, if_neg c]
      have hh := hiN_le (k := k)
      obtain ⟨t0, t1, t2, t3⟩ := hT
      obtain ⟨g1, g2⟩ := hx s (by omega)
      obtain ⟨f0, rfl⟩ : ∃ y, f = y + 1 := ⟨f - 1, by omega⟩
      have hd := td_more (u := u) (d := x s - 48) hk t2 t3 (by omega) (by omega) (by omega)
      rw [if_pos (by omega)] at hd
      have ht := tk_dig (u := u) (c := x s) g2 (by rw [t2]; exact m1_ne (by omega)) (by omega) (by omega) hd
      rw [rd_in t0 hn (by omega), g1, ht, if_neg (show ¬ (1 : Int32) = 0 from by decide)]
      obtain ⟨f', sc, i1, i2, i3, i4⟩ := ih (10 * v + (x s - 48)) (s + 1) f0 (upd u.1 3 (nI (10 * v + (x s - 48))), u.2.1, u.2.2.1, u.2.2.2) m (by omega) (by omega) (by omega) ⟨(by dsimp only; rw [upd_ne (by omega)]; exact t0), (by dsimp only; rw [upd_ne (by omega)]; exact t1), (by dsimp only; rw [upd_ne (by omega)]; exact t2), (by dsimp only; rw [upd_eq])⟩ hx (by omega)
      exact ⟨f', sc, i1, i2, i3, i4⟩
theorem endG {x : Nat → Nat} {n s f : Nat} {u : TV} (hf : f + s = 61) (hs : s ≤ n) (hn : n ≤ 60) (e0 : u.1 0 = nI n) (hx : TXr u.2.1 x n) (h2 : ¬ u.1 2 = -1) (hc : F_X0_isComplete u = 1) (hd : s < n → 48 ≤ x s → x s ≤ 57 → F_X0_takesDigit u (nI (x s - 48)) = (0, u)) : K_X0_read_17 f u s = if s = n then (-1, F_X0_addCommand u) else if x s = 44 then K_X0_read_17 (60 - s) (F_X0_addCommand u) (s + 1) else (nI s, u) := by
  have n10 : ¬ (1 : Int32) = 0 := by decide
  obtain ⟨f0, rfl⟩ : ∃ y, f = y + 1 := ⟨f - 1, by omega⟩
  by_cases c : s = n
  · subst c
    rw [rd_end e0 hn, hc, if_neg n10, if_pos rfl]
  · obtain ⟨g1, g2⟩ := hx s (by omega)
    rw [rd_in e0 hn (by omega), g1, if_neg c]
    by_cases c4 : x s = 44
    · rw [if_pos c4, c4, tk_comma h2 hc, if_neg n10, show 60 - s = f0 from by omega]
    · rw [if_neg c4, tk_no g2 h2 (fun z => absurd z c4) (fun z1 z2 => hd (by omega) z1 z2), if_pos rfl]
theorem endB {x : Nat → Nat} {n s f : Nat} {u : TV} (hf : f + s = 61) (hs : s ≤ n) (hn : n ≤ 60) (e0 : u.1 0 = nI n) (hx : TXr u.2.1 x n) (h2 : ¬ u.1 2 = -1) (hc : F_X0_isComplete u = 0) (hd : s < n → 48 ≤ x s → x s ≤ 57 → F_X0_takesDigit u (nI (x s - 48)) = (0, u)) : K_X0_read_17 f u s = (nI s, u) := by
  obtain ⟨f0, rfl⟩ : ∃ y, f = y + 1 := ⟨f - 1, by omega⟩
  by_cases c : s = n
  · subst c
    rw [rd_end e0 hn, hc, if_pos rfl]
  · obtain ⟨g1, g2⟩ := hx s (by omega)
    rw [rd_in e0 hn (by omega), g1, tk_no g2 h2 (fun _ => hc) (fun z1 z2 => hd (by omega) z1 z2), if_pos rfl]
/-- a command that is read: what stands behind it -/
def behind (x : Nat → Nat) (n s : Nat) (u' w : TV) : Int32 × TV := if s = n then (-1, u') else if x s = 44 then K_X0_read_17 (60 - s) u' (s + 1) else (nI s, w)
def valid (k v : Nat) : Prop := k = 7 ∨ (k < 7 ∧ loN k ≤ v ∧ v ≤ hiN k)
def readX (x : Nat → Nat) (n m f s : Nat) (u : TV) (r : Nat × Nat × Nat × Nat) : Prop := (r.1 = 0 → r.2.2.2 ≤ n ∧ ∃ u' : TV, K_X0_read_17 f u s = (nI r.2.2.2, u') ∧ u'.1 0 = nI n ∧ u'.2.1 = u.2.1) ∧ (¬ r.1 = 0 → r.1 = 1 ∧ s < r.2.2.2 ∧ r.2.2.2 ≤ n ∧ valid r.2.1 r.2.2.1 ∧ ∃ u' w : TV, TCs u' n (m + 1) (-1) (-1) ∧ u'.2.1 = u.2.1 ∧ (∀ i, i < m → u'.2.2.1 i = u.2.2.1 i ∧ u'.2.2.2 i = u.2.2.2 i) ∧ u'.2.2.1 m = nI r.2.1 ∧ (¬ r.2.1 = 7 → u'.2.2.2 m = nI r.2.2.1) ∧ w.1 0 = nI n ∧ w.2.1 = u.2.1 ∧ K_X0_read_17 f u s = behind x n r.2.2.2 u' w)
theorem done_X {x : Nat → Nat} {n m f s s' k v : Nat} {u u1 : TV} (hm : m < 60) (hs : s < s') (hs' : s' ≤ n) (hv : valid k v) (t : TCs u1 n m (nI k) (u1.1 3)) (t3 : ¬ k = 7 → u1.1 3 = nI v) (c1 : u1.2.1 = u.2.1) (c2 : u1.2.2.1 = u.2.2.1) (c3 : u1.2.2.2 = u.2.2.2) (h : K_X0_read_17 f u s = behind x n s' (F_X0_addCommand u1) u1) : readX x n m f s u (1, k, v, s') := by
  obtain ⟨e0, e1, e2, _⟩ := t
  refine ⟨fun z => absurd z (show ¬ (1 : Nat) = 0 from by decide), fun _ => ⟨rfl, hs, hs', hv, F_X0_addCommand u1, u1, ?_, ?_, fun i hi => ?_, ?_, fun z => ?_, e0, c1, h⟩⟩
  · rw [add_val hm e1]
    refine ⟨?_, ?_, ?_, ?_⟩
    · dsimp only
      rw [upd_ne (by omega), upd_ne (by omega), upd_ne (by omega), e0]
    · dsimp only
      rw [upd_ne (by omega), upd_ne (by omega), upd_eq]
    · dsimp only
      rw [upd_ne (by omega), upd_eq]
    · dsimp only
      rw [upd_eq]
  · rw [add_val hm e1]
    exact c1
  · rw [add_val hm e1]
    dsimp only
    rw [upd_ne (by omega), upd_ne (by omega), c2, c3]
    exact ⟨rfl, rfl⟩
  · rw [add_val hm e1]
    dsimp only
    rw [upd_eq, e2]
  · rw [add_val hm e1]
    dsimp only
    rw [upd_eq]
    exact t3 z
theorem cmdX {x : Nat → Nat} {n s m f : Nat} {u : TV} (hf : f + s = 61) (hs : s ≤ n) (hn : n ≤ 60) (hm : m ≤ s) (hT : TCs u n m (-1) (-1)) (hx : TXr u.2.1 x n) : readX x n m f s u (cmd x n s) := by
  obtain ⟨t0, t1, t2, t3⟩ := hT
  obtain ⟨f0, rfl⟩ : ∃ y, f = y + 1 := ⟨f - 1, by omega⟩
  have n10 : ¬ (1 : Int32) = 0 := by decide
  have fail : ∀ (a b s' : Nat) (u' : TV), s' ≤ n → K_X0_read_17 (f0 + 1) u s = (nI s', u') → u'.1 0 = nI n → u'.2.1 = u.2.1 → readX x n m (f0 + 1) s u (0, a, b, s') := fun a b s' u' h1 h2 h3 h4 => ⟨fun _ => ⟨h1, u', h2, h3, h4⟩, fun z => absurd rfl z⟩
  by_cases c0 : n ≤ s
  · have hns : n = s := by omega
    subst hns
    have ec : cmd x n n = (0, 0, 0, n) := by
      unfold cmd
      rw [if_pos (Nat.le_refl _)]
    rw [ec]
    exact fail 0 0 n u (Nat.le_refl _) (by rw [rd_end t0 hn, cmp_n t2, if_pos rfl]) t0 rfl
  · obtain ⟨g1, g2⟩ := hx s (by omega)
    have e1 : K_X0_read_17 (f0 + 1) u s = if (F_X0_takes u (nI (x s))).1 = 0 then (nI s, (F_X0_takes u (nI (x s))).2) else K_X0_read_17 f0 (F_X0_takes u (nI (x s))).2 (s + 1) := by
      rw [rd_in t0 hn (by omega), g1]
    rw [tk_let g2 t2] at e1
    by_cases c8 : kindN (x s) = 8
    · have ec : cmd x n s = (0, 0, 0, s) := by
        unfold cmd
        rw [if_neg c0, if_pos c8]
      rw [if_pos c8, if_pos rfl] at e1
      rw [ec]
      exact fail 0 0 s _ hs e1 ((by dsimp only; rw [upd_ne (by omega)]; exact t0)) rfl
    · rw [if_neg c8, if_neg n10] at e1
      dsimp only at e1
      by_cases c7 : kindN (x s) = 7
      · have ec : cmd x n s = (1, 7, 0, s + 1) := by
          unfold cmd
          rw [if_neg c0, if_neg c8, if_pos c7]
        rw [c7] at e1
        rw [ec]
        have b2 : (upd u.1 2 (nI 7), u.2.1, u.2.2.1, u.2.2.2).1 2 = nI 7 := (by dsimp only; rw [upd_eq])
        have hb := endG (x := x) (n := n) (s := s + 1) (f := f0) (u := (upd u.1 2 (nI 7), u.2.1, u.2.2.1, u.2.2.2)) (by omega) (by omega) hn ((by dsimp only; rw [upd_ne (by omega)]; exact t0)) hx (by rw [b2]; exact m1_ne (by omega)) (cmp_7 b2) (fun _ _ _ => td_7 b2)
        exact done_X (u1 := (upd u.1 2 (nI 7), u.2.1, u.2.2.1, u.2.2.2)) (by omega) (by omega) (by omega) (Or.inl rfl) ⟨(by dsimp only; rw [upd_ne (by omega)]; exact t0), (by dsimp only; rw [upd_ne (by omega)]; exact t1), b2, rfl⟩ (fun z => absurd rfl z) rfl rfl rfl (e1.trans hb)
      · obtain ⟨k, hk⟩ : ∃ k, kindN (x s) = k := ⟨_, rfl⟩
        have k7 : k < 7 := by
          have := kindN_le (c := x s)
          omega
        have hh := hiN_le (k := k)
        have hl := loN_le (k := k)
        rw [cmd_k (by omega) hk k7]
        rw [hk] at e1
        have b0 : (upd u.1 2 (nI k), u.2.1, u.2.2.1, u.2.2.2).1 0 = nI n := (by dsimp only; rw [upd_ne (by omega)]; exact t0)
        have b1 : (upd u.1 2 (nI k), u.2.1, u.2.2.1, u.2.2.2).1 1 = nI m := (by dsimp only; rw [upd_ne (by omega)]; exact t1)
        have b2 : (upd u.1 2 (nI k), u.2.1, u.2.2.1, u.2.2.2).1 2 = nI k := (by dsimp only; rw [upd_eq])
        have b3 : (upd u.1 2 (nI k), u.2.1, u.2.2.1, u.2.2.2).1 3 = -1 := (by dsimp only; rw [upd_ne (by omega)]; exact t3)
        have bn : ¬ (upd u.1 2 (nI k), u.2.1, u.2.2.1, u.2.2.2).1 2 = -1 := by rw [b2]; exact m1_ne (by omega)
        have bc : F_X0_isComplete (upd u.1 2 (nI k), u.2.1, u.2.2.1, u.2.2.2) = 0 := by
          rw [cmp_val k7 b2, b3, if_pos]
          rw [Int32.lt_iff_toInt_lt, nI_toInt (by omega), show (-1 : Int32).toInt = -1 from by decide]
          omega
        by_cases cf : n ≤ s + 1 ∨ x (s + 1) < (if loN k = 0 then 48 else 49) ∨ 57 < x (s + 1) ∨ hiN k < x (s + 1) - 48
        · have er : rd0 x n (loN k) (hiN k) (s + 1) = (0, 0, s + 1) := by
            unfold rd0
            rw [if_pos cf]
          rw [er]
          have hb := endB (x := x) (n := n) (s := s + 1) (f := f0) (u := (upd u.1 2 (nI k), u.2.1, u.2.2.1, u.2.2.2)) (by omega) (by omega) hn b0 hx bn bc (fun z1 z2 z3 => by
            rw [td_first k7 b2 b3 (by omega), if_neg (fun z => ?_)]
            by_cases l0 : loN k = 0
            · rw [if_pos l0] at cf
              omega
            · rw [if_neg l0] at cf
              omega)
          exact fail _ _ _ _ (by omega) (e1.trans hb) b0 rfl
        · have er : rd0 x n (loN k) (hiN k) (s + 1) = ((if loN k ≤ (rdN x n (hiN k) 61 (x (s + 1) - 48) (s + 1 + 1)).1 then 1 else 0), rdN x n (hiN k) 61 (x (s + 1) - 48) (s + 1 + 1)) := by
            unfold rd0
            rw [if_neg cf]
          have w48 : 48 ≤ x (s + 1) ∧ (0 < x (s + 1) - 48 ∨ loN k = 0) := by
            by_cases l0 : loN k = 0
            · rw [if_pos l0] at cf
              omega
            · rw [if_neg l0] at cf
              omega
          obtain ⟨h1, h2⟩ := hx (s + 1) (by omega)
          have hd := td_first (u := (upd u.1 2 (nI k), u.2.1, u.2.2.1, u.2.2.2)) (d := x (s + 1) - 48) k7 b2 b3 (by omega)
          rw [if_pos ⟨w48.2, by omega⟩] at hd
          have ht := tk_dig h2 bn w48.1 (by omega) hd
          obtain ⟨f1, rfl⟩ : ∃ y, f0 = y + 1 := ⟨f0 - 1, by omega⟩
          have e2 : K_X0_read_17 (f1 + 1) (upd u.1 2 (nI k), u.2.1, u.2.2.1, u.2.2.2) (s + 1) = K_X0_read_17 f1 (upd (upd u.1 2 (nI k)) 3 (nI (x (s + 1) - 48)), u.2.1, u.2.2.1, u.2.2.2) (s + 1 + 1) := by
            rw [rd_in b0 hn (by omega)]
            dsimp only
            rw [h1, ht, if_neg n10]
          obtain ⟨f', sc, i1, i2, i3, i4⟩ := rdX (x := x) hn k7 61 (x (s + 1) - 48) (s + 1 + 1) f1 (upd (upd u.1 2 (nI k)) 3 (nI (x (s + 1) - 48)), u.2.1, u.2.2.1, u.2.2.2) m (by omega) (by omega) (by omega) ⟨(by dsimp only; rw [upd_ne (by omega)]; exact b0), (by dsimp only; rw [upd_ne (by omega)]; exact b1), (by dsimp only; rw [upd_ne (by omega)]; exact b2), (by dsimp only; rw [upd_eq])⟩ hx (by omega)
          obtain ⟨l1, l2, l3⟩ := rdN_le (x := x) (n := n) (hi := hiN k) 61 (x (s + 1) - 48) (s + 1 + 1) (by omega) (by omega)
          obtain ⟨r, hr⟩ : ∃ r, rdN x n (hiN k) 61 (x (s + 1) - 48) (s + 1 + 1) = r := ⟨_, rfl⟩
          rw [hr] at i1 i2 i3 i4 l1 l2 l3
          rw [er, hr]
          obtain ⟨j0, j1, j2, j3⟩ := i3
          have jn : ¬ (sc, u.2.1, u.2.2.1, u.2.2.2).1 2 = -1 := by rw [j2]; exact m1_ne (by omega)
          have jd : r.2 < n → 48 ≤ x r.2 → x r.2 ≤ 57 → F_X0_takesDigit (sc, u.2.1, u.2.2.1, u.2.2.2) (nI (x r.2 - 48)) = (0, (sc, u.2.1, u.2.2.1, u.2.2.2)) := fun z1 z2 z3 => by
            by_cases v0 : r.1 = 0
            · exact td_zero (by rw [j3, v0])
            · rw [td_more k7 j2 j3 v0 (by omega) (by omega), if_neg (by omega)]
          have ee := e1.trans (e2.trans i2)
          by_cases cl : loN k ≤ r.1
          · rw [if_pos cl]
            have hc : F_X0_isComplete (sc, u.2.1, u.2.2.1, u.2.2.2) = 1 := by
              rw [cmp_val k7 j2, j3, if_neg (nI_nlt cl (by omega))]
            have hb := endG (x := x) (n := n) (s := r.2) (f := f') (u := (sc, u.2.1, u.2.2.1, u.2.2.2)) i1 l2 hn j0 hx jn hc jd
            exact done_X (u1 := (sc, u.2.1, u.2.2.1, u.2.2.2)) (by omega) (by omega) l2 (Or.inr ⟨k7, cl, l3⟩) ⟨j0, j1, j2, rfl⟩ (fun _ => j3) rfl rfl rfl (ee.trans hb)
          · rw [if_neg cl]
            have hc : F_X0_isComplete (sc, u.2.1, u.2.2.1, u.2.2.2) = 0 := by
              rw [cmp_val k7 j2, j3, if_pos (nI_lt (by omega) (by omega))]
            have hb := endB (x := x) (n := n) (s := r.2) (f := f') (u := (sc, u.2.1, u.2.2.1, u.2.2.2)) i1 l2 hn j0 hx jn hc jd
            exact fail _ _ _ _ l2 (ee.trans hb) j0 rfl
