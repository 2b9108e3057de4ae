/-- the flag of a state is a flag -/
def sB (u : SV) : Prop := u.1 2 = 0 ∨ u.1 2 = 1
/-- what the winder's cells keep to, for its walks -/
def xWF (xv : XV) : Prop := sB xv.2.1 ∧ sB xv.2.2.1 ∧ sB xv.2.2.2.1 ∧ (∀ j : Nat, j < 4 → sB (xv.2.2.2.2.2.1.2 j)) ∧ ∃ j : Nat, j < 4 ∧ xv.2.2.2.2.2.1.1 0 = nI j
theorem xWF_tr {xv : XV} (h : xWF xv) {u : SV} (hu : sB u) : xWF (xv.1, xv.2.1, u, xv.2.2.2) := ⟨h.1, hu, h.2.2⟩
theorem sB_changeNumber {u : SV} {a b : Int32} (h : sB u) : sB (F_X2_changeNumber u a b).2 := by
  unfold F_X2_changeNumber
  repeat' split
  all_goals exact h
theorem sB_tieKnot {u : SV} (h : sB u) : sB (F_X2_tieKnot u).2 := by
  unfold F_X2_tieKnot
  repeat' split
  all_goals first
    | exact h
    | exact Or.inl rfl
theorem sB_changeCone {u : SV} {a : Int32} (h : sB u) : sB (F_X2_changeCone u a).2 := by
  unfold F_X2_changeCone
  repeat' split
  all_goals first
    | exact h
    | exact Or.inl rfl
    | exact Or.inr rfl
theorem sB_takePackageOff {u : SV} (h : sB u) : sB (F_X2_takePackageOff u).2 := by
  unfold F_X2_takePackageOff
  repeat' split
  all_goals first
    | exact h
    | exact Or.inl rfl
theorem sB_warm {u : SV} (h : sB u) : sB (F_X2_warmDiscs u) := h
theorem sB_turnOnce {u : SV} (h : sB u) : sB (F_X2_turnOnce u) := by
  unfold F_X2_turnOnce
  dsimp only
  repeat' split
  all_goals first
    | exact h
    | exact Or.inr rfl
theorem sB_turnOftenK {p1 : Int32} : ∀ (n : Nat) (u : SV) (j : Nat) (e : Int32), sB u → sB (K_X2_turnOften_31 n u p1 j e).2 := by
  intro n
  induction n with
  | zero => intro u j e h; exact h
  | succ n ih =>
    intro u j e h
    unfold K_X2_turnOften_31
    dsimp only
    repeat' split
    all_goals first
      | exact h
      | exact ih _ _ _ (sB_turnOnce h)
theorem sB_turnOften {u : SV} {a : Int32} (h : sB u) : sB (F_X2_turnOften u a).2 := by
  unfold F_X2_turnOften
  repeat' split
  all_goals first
    | exact h
    | exact sB_turnOftenK _ _ _ _ h
