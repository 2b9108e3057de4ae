/-! up: what it answers -/
theorem up_nat (x : Int32) {n : Nat} (h0 : 0 < n) (hn : n < 2 ^ 31) : ∃ a : Nat, a < n ∧ F_L_up x (nI n) = nI a := by
  obtain ⟨a, ha, e⟩ := and31 x
  refine ⟨a % n, Nat.mod_lt _ h0, ?_⟩
  unfold F_L_up
  rw [e]
  have hd : nI a / nI n = nI (a / n) := by
    apply Int32.toInt_inj.mp
    have hq : a / n ≤ a := Nat.div_le_self _ _
    rw [Int32.toInt_div_of_ne_right _ _ (by
      intro z
      have := congrArg Int32.toInt z
      rw [nI_toInt hn] at this
      have h1 : (-1 : Int32).toInt = -1 := by decide
      rw [h1] at this
      omega), nI_toInt ha, nI_toInt hn, nI_toInt (by omega)]
    rfl
  rw [hd, show nI (a / n) * nI n = nI (a / n * n) from (Int32.ofNat_mul _ _).symm]
  have hm : a / n * n + a % n = a := by rw [Nat.mul_comm]; exact Nat.div_add_mod a n
  have h2 : nI a = nI (a % n) + nI (a / n * n) := by
    rw [nI_add]
    exact congrArg nI (by omega)
  rw [h2, Int32.add_sub_cancel]
theorem many_le {c : Prop} [Decidable c] {y b : Int32} (hb : b = if c then 70 else 15) : (1 + F_L_up y b).toInt ≤ 70 := by
  have key : ∀ n : Nat, 0 < n → n ≤ 70 → (1 + F_L_up y (nI n)).toInt ≤ 70 := fun n h0 hn => by
    obtain ⟨a, ha, e⟩ := up_nat y h0 (by omega)
    rw [e, show (1 : Int32) + nI a = nI (1 + a) from nI_add 1 a, nI_toInt (by omega)]
    omega
  rw [hb]
  split
  · exact key 70 (by omega) (by omega)
  · exact key 15 (by omega) (by omega)
theorem ite_ne {c : Prop} [Decidable c] {b x y : Int32} (hb : b = if c then x else y) (hx : ¬ x = 0) (hy : ¬ y = 0) : ¬ b = 0 := by
  rw [hb]
  split
  · exact hx
  · exact hy
