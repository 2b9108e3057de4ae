/-! Reading a text: what both sides read, in plain numbers -/
def rdN (x : Nat → Nat) (n hi : Nat) : Nat → Nat → Nat → Nat × Nat
  | 0, v, s => (v, s)
  | f + 1, v, s => if v = 0 ∨ n ≤ s ∨ x s < 48 ∨ 57 < x s ∨ hi < 10 * v + (x s - 48) then (v, s) else rdN x n hi f (10 * v + (x s - 48)) (s + 1)
def kindN (c : Nat) : Nat := if c = 99 then 6 else if c = 100 then 1 else if c = 103 then 5 else if c = 107 then 3 else if c = 110 then 7 else if c = 115 then 4 else if c = 116 then 0 else if c = 119 then 2 else 8
def loN (k : Nat) : Nat := if k = 0 then 1 else if k = 1 then 0 else if k = 2 then 0 else if k = 3 then 5 else if k = 4 then 10 else 1
def hiN (k : Nat) : Nat := if k = 0 then 11 else if k = 1 then 9 else if k = 2 then 5 else if k = 3 then 50 else if k = 4 then 99 else if k = 5 then 500 else 9999
def rd0 (x : Nat → Nat) (n lo hi s : Nat) : Nat × Nat × Nat := if n ≤ s ∨ x s < (if lo = 0 then 48 else 49) ∨ 57 < x s ∨ hi < x s - 48 then (0, 0, s) else ((if lo ≤ (rdN x n hi 61 (x s - 48) (s + 1)).1 then 1 else 0), rdN x n hi 61 (x s - 48) (s + 1))
def cmd (x : Nat → Nat) (n s : Nat) : Nat × Nat × Nat × Nat := if n ≤ s then (0, 0, 0, s) else if kindN (x s) = 8 then (0, 0, 0, s) else if kindN (x s) = 7 then (1, 7, 0, s + 1) else ((rd0 x n (loN (kindN (x s))) (hiN (kindN (x s))) (s + 1)).1, kindN (x s), (rd0 x n (loN (kindN (x s))) (hiN (kindN (x s))) (s + 1)).2)
def TXr (tx : Nat → Int32) (x : Nat → Nat) (n : Nat) : Prop := ∀ j, j < n → tx j = nI (x j) ∧ x j < 65536
theorem rdN_s (x : Nat → Nat) (n hi f v s : Nat) : rdN x n hi (f + 1) v s = if v = 0 ∨ n ≤ s ∨ x s < 48 ∨ 57 < x s ∨ hi < 10 * v + (x s - 48) then (v, s) else rdN x n hi f (10 * v + (x s - 48)) (s + 1) := rfl
theorem loN_le {k : Nat} : loN k ≤ 10 := by
  unfold loN
  repeat' split
  all_goals omega
theorem hiN_le {k : Nat} : hiN k ≤ 9999 := by
  unfold hiN
  repeat' split
  all_goals omega
theorem kindN_le {c : Nat} : kindN c ≤ 8 := by
  unfold kindN
  repeat' split
  all_goals omega
theorem rdN_le {x : Nat → Nat} {n hi : Nat} : ∀ f v s : Nat, s ≤ n → v ≤ hi → s ≤ (rdN x n hi f v s).2 ∧ (rdN x n hi f v s).2 ≤ n ∧ (rdN x n hi f v s).1 ≤ hi := by
  intro f
  induction f with
  | zero => intro v s h1 h2; exact ⟨Nat.le_refl _, h1, h2⟩
  | succ f ih =>
    intro v s h1 h2
    rw [rdN_s]
    by_cases c : v = 0 ∨ n ≤ s ∨ x s < 48 ∨ 57 < x s ∨ hi < 10 * v + (x s - 48)
    · rw [if_pos c]
      exact ⟨Nat.le_refl _, h1, h2⟩
    · rw [if_neg c]
      obtain ⟨g1, g2, g3⟩ := ih (10 * v + (x s - 48)) (s + 1) (by omega) (by omega)
      exact ⟨by omega, g2, g3⟩
theorem isHere_val {q : QV2} {x : Nat → Nat} {n s l h : Nat} (hn : n ≤ 60) (hs : s ≤ n) (e0 : q.1 0 = nI n) (e1 : q.1 1 = nI s) (hx : TXr q.2 x n) (hl : l < 65536) (hh : h < 65536) : F_X5_isHere q (nI l) (nI h) = if s < n ∧ l ≤ x s ∧ x s ≤ h then 1 else 0 := by
  unfold F_X5_isHere
  rw [e0, e1]
  by_cases c : s < n
  · obtain ⟨g1, g2⟩ := hx s c
    rw [if_neg (nI_ge c (by omega)), nI_clamp (by omega), g1, in_val (a := (l : Int)) (b := (h : Int)) (by rw [Int32.toInt_toInt64, nI_toInt (by omega)]) (by rw [Int32.toInt_toInt64, nI_toInt (by omega)]), nI_toInt (by omega)]
    by_cases d : (l : Int) ≤ (x s : Int) ∧ (x s : Int) ≤ (h : Int)
    · rw [if_pos d, if_neg (show ¬ (1 : Int32) = 0 from by decide), if_pos ⟨c, by omega, by omega⟩]
    · rw [if_neg d, if_pos rfl, if_neg (fun z => d ⟨by omega, by omega⟩)]
  · rw [if_pos (nI_le (by omega) (by omega)), if_neg (fun z => c z.1)]
theorem takes_yes {q : QV2} {x : Nat → Nat} {n s c : Nat} (hn : n ≤ 60) (hs : s < n) (e0 : q.1 0 = nI n) (e1 : q.1 1 = nI s) (hx : TXr q.2 x n) (hc : x s = c) : F_X5_takes q (nI c) = (1, (upd q.1 1 (nI (s + 1)), q.2)) := by
  have hb := (hx s hs).2
  have eH : F_X5_isHere q (nI c) (nI c) = 1 := by
    rw [isHere_val hn (by omega) e0 e1 hx (by omega) (by omega), if_pos ⟨hs, by omega, by omega⟩]
  unfold F_X5_takes
  rw [eH, if_neg (show ¬ (1 : Int32) = 0 from by decide), e1, nI_1]
theorem takes_no {q : QV2} {x : Nat → Nat} {n s c : Nat} (hn : n ≤ 60) (hs : s ≤ n) (e0 : q.1 0 = nI n) (e1 : q.1 1 = nI s) (hx : TXr q.2 x n) (hb : c < 65536) (hc : ¬ (s < n ∧ x s = c)) : F_X5_takes q (nI c) = (0, (upd q.1 1 (nI s), q.2)) := by
  have eH : F_X5_isHere q (nI c) (nI c) = 0 := by
    rw [isHere_val hn hs e0 e1 hx hb hb, if_neg (fun z => hc ⟨z.1, by omega⟩)]
  unfold F_X5_takes
  rw [eH, if_pos rfl, e1, Int32.add_zero]
theorem dig_eq {v c : Nat} (h : 48 ≤ c) : (10 : Int32) * nI v + nI c - 48 = nI (10 * v + (c - 48)) := by
  rw [show (10 : Int32) = nI 10 from rfl, nI_mul, nI_add, show (48 : Int32) = nI 48 from rfl, nI_sub (by omega)]
  exact congrArg nI (by omega)
theorem rnK {x : Nat → Nat} {n lo hi : Nat} (hn : n ≤ 60) (hlo : lo ≤ 10) (hhi : hi ≤ 9999) : ∀ (f : Nat) (q : QV2) (v s : Nat), q.1 0 = nI n → q.1 1 = nI s → q.1 2 = nI v → TXr q.2 x n → s ≤ n → n < s + f → v ≤ 9999 → ∃ qs : Nat → Int32, K_X5_readsNumber_64 f q (nI lo) (nI hi) = ((if lo ≤ (rdN x n hi f v s).1 then 1 else 0), (qs, q.2)) ∧ qs 0 = nI n ∧ qs 1 = nI (rdN x n hi f v s).2 ∧ qs 2 = nI (rdN x n hi f v s).1 := by
  intro f
  induction f with
  | zero => intro q v s e0 e1 e2 hx hs hf hv; omega
  | succ f ih =>
    intro q v s e0 e1 e2 hx hs hf hv
    have fin : (if nI v < nI lo then ((0 : Int32), q) else (1, q)) = ((if lo ≤ v then 1 else 0), (q.1, q.2)) := by
      by_cases c : lo ≤ v
      · rw [if_pos c, if_neg (nI_nlt c (by omega))]
      · rw [if_neg c, if_pos (nI_lt (by omega) (by omega))]
    have eq48 : (48 : Int32) = nI 48 := rfl
    have eq57 : (57 : Int32) = nI 57 := rfl
    have eH := isHere_val (q := q) (l := 48) (h := 57) hn hs e0 e1 hx (by omega) (by omega)
    unfold K_X5_readsNumber_64
    by_cases c0 : v = 0
    · have er : rdN x n hi (f + 1) v s = (v, s) := by rw [rdN_s, if_pos (Or.inl c0)]
      rw [er, e2, if_pos (show nI v ≤ 0 from by rw [c0]; decide), fin]
      exact ⟨q.1, rfl, e0, e1, e2⟩
    · rw [e2, if_neg (nI_nle (by omega) (by omega))]
      by_cases c1 : s < n ∧ 48 ≤ x s ∧ x s ≤ 57
      · rw [if_pos c1] at eH
        have eD : ((10 : Int32) * nI v + q.2 (Int32.toNatClampNeg (q.1 1))) - 48 = nI (10 * v + (x s - 48)) := by
          rw [e1, nI_clamp (by omega), (hx s c1.1).1, dig_eq c1.2.1]
        rw [show F_X5_isHere q 48 57 = 1 from eH, if_neg (show ¬ (1 : Int32) = 0 from by decide), eD]
        have c2 : (nI hi < nI (10 * v + (x s - 48))) ↔ hi < 10 * v + (x s - 48) := nI_ltI (by omega) (by omega)
        by_cases c3 : hi < 10 * v + (x s - 48)
        · have er : rdN x n hi (f + 1) v s = (v, s) := by rw [rdN_s, if_pos (Or.inr (Or.inr (Or.inr (Or.inr c3))))]
          rw [er, if_pos (c2.mpr c3), fin]
          exact ⟨q.1, rfl, e0, e1, e2⟩
        · have er : rdN x n hi (f + 1) v s = rdN x n hi f (10 * v + (x s - 48)) (s + 1) := by rw [rdN_s, if_neg (by omega)]
          rw [er, if_neg (fun z => c3 (c2.mp z)), e1, nI_1]
          obtain ⟨qs, g1, g2, g3, g4⟩ := ih (upd (upd q.1 2 (nI (10 * v + (x s - 48)))) 1 (nI (s + 1)), q.2) (10 * v + (x s - 48)) (s + 1) (by dsimp only; rw [upd_ne (by omega), upd_ne (by omega), e0]) (by dsimp only; rw [upd_eq]) (by dsimp only; rw [upd_ne (by omega), upd_eq]) hx (by omega) (by omega) (by omega)
          exact ⟨qs, g1, g2, g3, g4⟩
      · have er : rdN x n hi (f + 1) v s = (v, s) := by rw [rdN_s, if_pos (by omega)]
        rw [if_neg c1] at eH
        rw [er, show F_X5_isHere q 48 57 = 0 from eH, if_pos rfl, fin]
        exact ⟨q.1, rfl, e0, e1, e2⟩
theorem rn_val {x : Nat → Nat} {n lo hi : Nat} (hn : n ≤ 60) (hlo : lo ≤ 10) (hhi : hi ≤ 9999) {q : QV2} {s : Nat} (e0 : q.1 0 = nI n) (e1 : q.1 1 = nI s) (hx : TXr q.2 x n) (hs : s ≤ n) : ∃ qs : Nat → Int32, F_X5_readsNumber q (nI lo) (nI hi) = ((if (rd0 x n lo hi s).1 = 0 then 0 else 1), (qs, q.2)) ∧ qs 0 = nI n ∧ qs 1 = nI (rd0 x n lo hi s).2.2 ∧ ((rd0 x n lo hi s).1 = 0 ∨ qs 2 = nI (rd0 x n lo hi s).2.1) := by
  have key : ∀ w : Nat, w = (if lo = 0 then 48 else 49) → ∃ qs : Nat → Int32, (if (F_X5_isHere q (nI w) (nI 57)) = 0 then (0, q) else (if ((q.2 (Int32.toNatClampNeg (q.1 1))) - 48) ≤ nI hi then K_X5_readsNumber_64 61 (upd (upd q.1 2 ((q.2 (Int32.toNatClampNeg (q.1 1))) - 48)) 1 ((q.1 1) + 1), q.2) (nI lo) (nI hi) else (0, q))) = ((if (rd0 x n lo hi s).1 = 0 then 0 else 1), (qs, q.2)) ∧ qs 0 = nI n ∧ qs 1 = nI (rd0 x n lo hi s).2.2 ∧ ((rd0 x n lo hi s).1 = 0 ∨ qs 2 = nI (rd0 x n lo hi s).2.1) := by
    intro w hw
    have hw2 : 48 ≤ w ∧ w ≤ 49 := by
      rw [hw]
      split <;> omega
    have eH := isHere_val (q := q) (l := w) (h := 57) hn hs e0 e1 hx (by omega) (by omega)
    have bad : (n ≤ s ∨ x s < w ∨ 57 < x s ∨ hi < x s - 48) → rd0 x n lo hi s = (0, 0, s) := fun z => by
      unfold rd0
      rw [← hw, if_pos z]
    have good : ¬ (n ≤ s ∨ x s < w ∨ 57 < x s ∨ hi < x s - 48) → rd0 x n lo hi s = ((if lo ≤ (rdN x n hi 61 (x s - 48) (s + 1)).1 then 1 else 0), rdN x n hi 61 (x s - 48) (s + 1)) := fun z => by
      unfold rd0
      rw [← hw, if_neg z]
    by_cases c1 : s < n ∧ w ≤ x s ∧ x s ≤ 57
    · rw [if_pos c1] at eH
      have eD : q.2 (Int32.toNatClampNeg (q.1 1)) - 48 = nI (x s - 48) := by
        rw [e1, nI_clamp (by omega), (hx s c1.1).1, show (48 : Int32) = nI 48 from rfl, nI_sub (by omega)]
      rw [eH, if_neg (show ¬ (1 : Int32) = 0 from by decide), eD]
      have c2 : (nI (x s - 48) ≤ nI hi) ↔ x s - 48 ≤ hi := nI_leI (by omega) (by omega)
      by_cases c3 : x s - 48 ≤ hi
      · rw [if_pos (c2.mpr c3), good (by omega), e1, nI_1]
        obtain ⟨qs, g1, g2, g3, g4⟩ := rnK (x := x) hn hlo hhi 61 (upd (upd q.1 2 (nI (x s - 48))) 1 (nI (s + 1)), q.2) (x s - 48) (s + 1) (by dsimp only; rw [upd_ne (by omega), upd_ne (by omega), e0]) (by dsimp only; rw [upd_eq]) (by dsimp only; rw [upd_ne (by omega), upd_eq]) hx (by omega) (by omega) (by omega)
        refine ⟨qs, ?_, g2, g3, Or.inr g4⟩
        rw [g1]
        dsimp only
        by_cases c4 : lo ≤ (rdN x n hi 61 (x s - 48) (s + 1)).1
        · rw [if_pos c4, if_pos c4, if_neg (by decide)]
        · rw [if_neg c4, if_neg c4, if_pos rfl]
      · rw [if_neg (fun z => c3 (c2.mp z)), bad (by omega), if_pos rfl]
        exact ⟨q.1, rfl, e0, e1, Or.inl rfl⟩
    · rw [if_neg c1] at eH
      rw [eH, if_pos rfl, bad (by omega), if_pos rfl]
      exact ⟨q.1, rfl, e0, e1, Or.inl rfl⟩
  unfold F_X5_readsNumber
  have cl : (nI lo = 0) ↔ lo = 0 := nI_eq (b := 0) (by omega) (by omega)
  by_cases c : lo = 0
  · rw [if_pos (cl.mpr c)]
    exact key 48 (by rw [if_pos c])
  · rw [if_neg (fun z => c (cl.mp z))]
    exact key 49 (by rw [if_neg c])
theorem sc_same {f : Nat → Int32} {s : Int32} (h3 : f 3 = s) : upd (upd (upd f 2 (upd (q3 (f 2) (f 3) (f 4)) 1 s 0)) 3 (upd (q3 (f 2) (f 3) (f 4)) 1 s 1)) 4 (upd (q3 (f 2) (f 3) (f 4)) 1 s 2) = f := by
  funext j
  by_cases c4 : j = 4
  · rw [c4, upd_eq, upd_ne (by omega)]
    rfl
  · rw [upd_ne c4]
    by_cases c3 : j = 3
    · rw [c3, upd_eq, upd_eq, h3]
    · rw [upd_ne c3]
      by_cases c2 : j = 2
      · rw [c2, upd_eq, upd_ne (by omega)]
        rfl
      · rw [upd_ne c2]
def doA (k v : Nat) (a : Nat → Int32) : Int32 × (Nat → Int32) := if k = 7 then F_X5_doKnot a else if k = 5 then F_X5_doWind a (nI v) else if k = 6 then F_X5_doCone a (nI v) else F_X5_doSet a (nI k) (nI v)
def mk (u : MV) (sc a : Nat → Int32) : MV := (sc, a, u.2.2.1, u.2.2.2.1, u.2.2.2.2.1, u.2.2.2.2.2.1, u.2.2.2.2.2.2)
def outM (r : Nat × Nat × Nat × Nat) (d : Int32) (u : MV) (sc : Nat → Int32) : Int32 × MV := if r.1 = 0 then (-2, mk u sc u.2.1) else if d = 0 then (0, mk u sc u.2.1) else ((doA r.2.1 r.2.2.1 u.2.1).1, mk u sc (doA r.2.1 r.2.2.1 u.2.1).2)
def scOk (n s : Nat) (f sc : Nat → Int32) : Prop := sc 2 = nI n ∧ sc 3 = nI s ∧ ∀ k, k ≠ 2 → k ≠ 3 → k ≠ 4 → sc k = f k
theorem sc_upd {n s : Nat} {f qs : Nat → Int32} (h0 : qs 0 = nI n) (h1 : qs 1 = nI s) : scOk n s f (upd (upd (upd f 2 (qs 0)) 3 (qs 1)) 4 (qs 2)) := by
  refine ⟨?_, ?_, fun k g2 g3 g4 => ?_⟩
  · rw [upd_ne (by omega), upd_ne (by omega), upd_eq, h0]
  · rw [upd_ne (by omega), upd_eq, h1]
  · rw [upd_ne g4, upd_ne g3, upd_ne g2]
/-- a letter that wants a number: the number, and what comes of it -/
theorem num_M {x : Nat → Nat} {n s k : Nat} (hn : n ≤ 60) (hs : s ≤ n) (hk : k < 7) {u : MV} {f qs : Nat → Int32} (d : Int32) {q : QV2} (e0 : q.1 0 = nI n) (e1 : q.1 1 = nI s) (e2 : q.2 = u.2.2.2.2.2.2) (hx : TXr u.2.2.2.2.2.2 x n) (D : Int32 → Int32 × (Nat → Int32)) (hD : ∀ v : Nat, D (nI v) = doA k v u.2.1) : ∃ sc : Nat → Int32, (if (F_X5_readsNumber q (nI (loN k)) (nI (hiN k))).1 = 0 then ((-2 : Int32), ((upd (upd (upd f 2 ((F_X5_readsNumber q (nI (loN k)) (nI (hiN k))).2.1 0)) 3 ((F_X5_readsNumber q (nI (loN k)) (nI (hiN k))).2.1 1)) 4 ((F_X5_readsNumber q (nI (loN k)) (nI (hiN k))).2.1 2), u.2.1, u.2.2.1, u.2.2.2.1, u.2.2.2.2.1, u.2.2.2.2.2.1, (F_X5_readsNumber q (nI (loN k)) (nI (hiN k))).2.2) : MV)) else (if d = 0 then (0, (upd (upd (upd f 2 ((F_X5_readsNumber q (nI (loN k)) (nI (hiN k))).2.1 0)) 3 ((F_X5_readsNumber q (nI (loN k)) (nI (hiN k))).2.1 1)) 4 ((F_X5_readsNumber q (nI (loN k)) (nI (hiN k))).2.1 2), u.2.1, u.2.2.1, u.2.2.2.1, u.2.2.2.2.1, u.2.2.2.2.2.1, (F_X5_readsNumber q (nI (loN k)) (nI (hiN k))).2.2)) else ((D ((F_X5_readsNumber q (nI (loN k)) (nI (hiN k))).2.1 2)).1, (upd (upd (upd f 2 ((F_X5_readsNumber q (nI (loN k)) (nI (hiN k))).2.1 0)) 3 ((F_X5_readsNumber q (nI (loN k)) (nI (hiN k))).2.1 1)) 4 ((F_X5_readsNumber q (nI (loN k)) (nI (hiN k))).2.1 2), (D ((F_X5_readsNumber q (nI (loN k)) (nI (hiN k))).2.1 2)).2, u.2.2.1, u.2.2.2.1, u.2.2.2.2.1, u.2.2.2.2.2.1, (F_X5_readsNumber q (nI (loN k)) (nI (hiN k))).2.2)))) = outM ((rd0 x n (loN k) (hiN k) s).1, k, (rd0 x n (loN k) (hiN k) s).2) d u sc ∧ scOk n (rd0 x n (loN k) (hiN k) s).2.2 f sc := by
  obtain ⟨qs, g1, g2, g3, g4⟩ := rn_val (x := x) (lo := loN k) (hi := hiN k) hn loN_le hiN_le e0 e1 (by rw [e2]; exact hx) hs
  refine ⟨upd (upd (upd f 2 (qs 0)) 3 (qs 1)) 4 (qs 2), ?_, sc_upd g2 g3⟩
  rw [g1]
  unfold outM mk
  dsimp only
  rw [e2]
  by_cases c : (rd0 x n (loN k) (hiN k) s).1 = 0
  · rw [if_pos c, if_pos rfl, if_pos c]
  · rw [if_neg c, if_neg (show ¬ (1 : Int32) = 0 from by decide), if_neg c]
    rw [g4.resolve_left c, hD]
