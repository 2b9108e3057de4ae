/-! A round of the guide, and the best traverse -/
set_option maxRecDepth 100000 in
theorem fin_12 : ∀ (t : Fin 12) (w : Fin 6), 0 < bareS (simH t.val w.val 12) ∨ evS (simH t.val w.val 12) = 0 := by decide +kernel
def perN (t : Nat) : Nat := match t with | 2 => 11 | 4 => 11 | 6 => 11 | 8 => 11 | 10 => 11 | 11 => 2 | _ => 22
set_option maxRecDepth 100000 in
theorem fin_22 : ∀ t : Fin 12, 0 < t.val → perN t.val = 22 → evS (simH t.val 0 22) = 1 ∧ evS (simH t.val 0 44) = 2 ∧ bareS (simH t.val 0 22) = 0 := by decide +kernel
