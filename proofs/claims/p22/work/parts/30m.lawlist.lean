/-! The law's own list: what it needs, and the lists of what it calls -/
def TL0 : List Cond := [.classLink RL 10 RX4, .instantiable RX4 8, .initialized RX4, .methodLink RL 60 yX4_init, .instanceMethod yX4_init, .methodLink RL 61 yL_cell, .methodLink RL 65 yL_isStep, .methodLink RL 69 yL_isWell, .methodLink RL 73 yL_areAlike, .static yL_cell, .static yL_isStep, .static yL_isWell, .static yL_areAlike, .initialized RL]
def wsTL : List Cond := TL0 ++ (wsX4_init ++ (wsL_cell ++ (wsL_isStep ++ (wsL_isWell ++ (wsL_areAlike ++ u_ws RX4 TX4 8)))))
set_option maxRecDepth 100000 in
theorem wsX4_init_code : Cond.code yX4_init cX4_init 1 none ∈ lw_tbl := List.mem_of_getElem? (i := 46) (by decide +kernel)
set_option maxRecDepth 100000 in
theorem wsL_cell_code : Cond.code yL_cell cL_cell 2 (some .int) ∈ lw_tbl := List.mem_of_getElem? (i := 208) (by decide +kernel)
set_option maxRecDepth 100000 in
theorem wsL_isStep_code : Cond.code yL_isStep cL_isStep 16 (some .boolean) ∈ lw_tbl := List.mem_of_getElem? (i := 212) rfl
set_option maxRecDepth 100000 in
theorem wsL_isWell_code : Cond.code yL_isWell cL_isWell 12 (some .boolean) ∈ lw_tbl := List.mem_of_getElem? (i := 459) rfl
set_option maxRecDepth 100000 in
theorem wsL_areAlike_code : Cond.code yL_areAlike cL_areAlike 5 (some .boolean) ∈ lw_tbl := List.mem_of_getElem? (i := 426) rfl
set_option maxRecDepth 20000 in
theorem wsX4_init_in : ∀ w ∈ wsX4_init, w ∈ lw_tbl := by
  unfold wsX4_init
  exact List.forall_mem_cons.mpr ⟨wsX4_init_code, List.forall_mem_append.mpr ⟨List.forall_mem_append.mpr ⟨List.forall_mem_append.mpr ⟨List.forall_mem_append.mpr ⟨List.forall_mem_append.mpr ⟨List.forall_mem_append.mpr ⟨wsX4_init_r1_in, List.forall_mem_append.mpr ⟨wsX4_init_r2_in, wsX4_init_r3_in⟩⟩, inX2⟩, inX4⟩, inX3⟩, inX1⟩, inX0⟩⟩
set_option maxRecDepth 20000 in
theorem wsL_cell_in : ∀ w ∈ wsL_cell, w ∈ lw_tbl := by
  unfold wsL_cell
  exact List.forall_mem_cons.mpr ⟨wsL_cell_code, List.forall_mem_cons.mpr ⟨List.mem_of_getElem? (i := 209) (by decide +kernel), fun _ h => absurd h List.not_mem_nil⟩⟩
set_option maxRecDepth 20000 in
theorem wsL_isStep_in : ∀ w ∈ wsL_isStep, w ∈ lw_tbl := by
  unfold wsL_isStep
  exact List.forall_mem_cons.mpr ⟨wsL_isStep_code, List.forall_mem_append.mpr ⟨List.forall_mem_append.mpr ⟨List.forall_mem_append.mpr ⟨List.forall_mem_append.mpr ⟨List.forall_mem_append.mpr ⟨List.forall_mem_append.mpr ⟨wsL_isStep_r1_in, List.forall_mem_append.mpr ⟨wsL_isStep_r2_in, List.forall_mem_append.mpr ⟨wsL_isStep_r3_in, List.forall_mem_append.mpr ⟨wsL_isStep_r4_in, List.forall_mem_append.mpr ⟨wsL_isStep_r5_in, List.forall_mem_append.mpr ⟨wsL_isStep_r6_in, List.forall_mem_append.mpr ⟨wsL_isStep_r7_in, List.forall_mem_append.mpr ⟨wsL_isStep_r8_in, wsL_isStep_r9_in⟩⟩⟩⟩⟩⟩⟩⟩, inX4⟩, inX2⟩, inX3⟩, inX1⟩, inX0⟩⟩
set_option maxRecDepth 20000 in
theorem wsL_isWell_in : ∀ w ∈ wsL_isWell, w ∈ lw_tbl := by
  unfold wsL_isWell
  exact List.forall_mem_cons.mpr ⟨wsL_isWell_code, List.forall_mem_append.mpr ⟨List.forall_mem_append.mpr ⟨List.forall_mem_append.mpr ⟨List.forall_mem_append.mpr ⟨List.forall_mem_append.mpr ⟨List.forall_mem_append.mpr ⟨wsL_isWell_r1_in, List.forall_mem_append.mpr ⟨wsL_isWell_r2_in, List.forall_mem_append.mpr ⟨wsL_isWell_r3_in, List.forall_mem_append.mpr ⟨wsL_isWell_r4_in, List.forall_mem_append.mpr ⟨wsL_isWell_r5_in, wsL_isWell_r6_in⟩⟩⟩⟩⟩, inX4⟩, inX2⟩, inX3⟩, inX1⟩, inX0⟩⟩
set_option maxRecDepth 20000 in
theorem wsL_areAlike_in : ∀ w ∈ wsL_areAlike, w ∈ lw_tbl := by
  unfold wsL_areAlike
  exact List.forall_mem_cons.mpr ⟨wsL_areAlike_code, List.forall_mem_append.mpr ⟨List.forall_mem_append.mpr ⟨List.forall_mem_append.mpr ⟨List.forall_mem_append.mpr ⟨List.forall_mem_append.mpr ⟨List.forall_mem_append.mpr ⟨wsL_areAlike_r1_in, List.forall_mem_append.mpr ⟨wsL_areAlike_r2_in, List.forall_mem_append.mpr ⟨wsL_areAlike_r3_in, List.forall_mem_append.mpr ⟨wsL_areAlike_r4_in, List.forall_mem_append.mpr ⟨wsL_areAlike_r5_in, wsL_areAlike_r6_in⟩⟩⟩⟩⟩, inX4⟩, inX2⟩, inX3⟩, inX1⟩, inX0⟩⟩
set_option maxRecDepth 20000 in
theorem TL0_in : ∀ w ∈ TL0, w ∈ lw_tbl := by
  unfold TL0
  exact List.forall_mem_cons.mpr ⟨List.mem_of_getElem? (i := 42) (by decide +kernel), List.forall_mem_cons.mpr ⟨List.mem_of_getElem? (i := 43) (by decide +kernel), List.forall_mem_cons.mpr ⟨List.mem_of_getElem? (i := 34) (by decide +kernel), List.forall_mem_cons.mpr ⟨List.mem_of_getElem? (i := 44) (by decide +kernel), List.forall_mem_cons.mpr ⟨List.mem_of_getElem? (i := 45) (by decide +kernel), List.forall_mem_cons.mpr ⟨List.mem_of_getElem? (i := 206) (by decide +kernel), List.forall_mem_cons.mpr ⟨List.mem_of_getElem? (i := 210) (by decide +kernel), List.forall_mem_cons.mpr ⟨List.mem_of_getElem? (i := 457) (by decide +kernel), List.forall_mem_cons.mpr ⟨List.mem_of_getElem? (i := 424) (by decide +kernel), List.forall_mem_cons.mpr ⟨List.mem_of_getElem? (i := 207) (by decide +kernel), List.forall_mem_cons.mpr ⟨List.mem_of_getElem? (i := 211) (by decide +kernel), List.forall_mem_cons.mpr ⟨List.mem_of_getElem? (i := 458) (by decide +kernel), List.forall_mem_cons.mpr ⟨List.mem_of_getElem? (i := 425) (by decide +kernel), List.forall_mem_cons.mpr ⟨List.mem_of_getElem? (i := 33) (by decide +kernel), fun _ h => absurd h List.not_mem_nil⟩⟩⟩⟩⟩⟩⟩⟩⟩⟩⟩⟩⟩⟩
theorem wsTL_in : ∀ w ∈ wsTL, w ∈ lw_tbl := List.forall_mem_append.mpr ⟨TL0_in, List.forall_mem_append.mpr ⟨wsX4_init_in, List.forall_mem_append.mpr ⟨wsL_cell_in, List.forall_mem_append.mpr ⟨wsL_isStep_in, List.forall_mem_append.mpr ⟨wsL_isWell_in, List.forall_mem_append.mpr ⟨wsL_areAlike_in, inX4⟩⟩⟩⟩⟩⟩
set_option maxRecDepth 20000 in
theorem ggT_X4_init : GoodIn wsTL wsX4_init := goodIn_sub (fun w h => List.mem_append_right _ (List.mem_append_left _ h)) (by decide +kernel)
set_option maxRecDepth 20000 in
theorem ggT_L_cell : GoodIn wsTL wsL_cell := goodIn_sub (fun w h => List.mem_append_right _ (List.mem_append_right _ (List.mem_append_left _ h))) (by decide +kernel)
set_option maxRecDepth 20000 in
theorem ggT_L_isStep : GoodIn wsTL wsL_isStep := goodIn_sub (fun w h => List.mem_append_right _ (List.mem_append_right _ (List.mem_append_right _ (List.mem_append_left _ h)))) (by decide +kernel)
set_option maxRecDepth 20000 in
theorem ggT_L_isWell : GoodIn wsTL wsL_isWell := goodIn_sub (fun w h => List.mem_append_right _ (List.mem_append_right _ (List.mem_append_right _ (List.mem_append_right _ (List.mem_append_left _ h))))) (by decide +kernel)
set_option maxRecDepth 20000 in
theorem ggT_L_areAlike : GoodIn wsTL wsL_areAlike := goodIn_sub (fun w h => List.mem_append_right _ (List.mem_append_right _ (List.mem_append_right _ (List.mem_append_right _ (List.mem_append_right _ (List.mem_append_left _ h)))))) (by decide +kernel)
theorem inTX4 : ∀ w ∈ u_ws RX4 TX4 8, w ∈ wsTL := fun w h => List.mem_append_right _ (List.mem_append_right _ (List.mem_append_right _ (List.mem_append_right _ (List.mem_append_right _ (List.mem_append_right _ (h))))))
theorem kT_0 : Cond.classLink RL 10 RX4 ∈ wsTL := List.mem_append_left _ (List.mem_of_getElem? (i := 0) rfl)
theorem kT_1 : Cond.instantiable RX4 8 ∈ wsTL := List.mem_append_left _ (List.mem_of_getElem? (i := 1) rfl)
theorem kT_2 : Cond.initialized RX4 ∈ wsTL := List.mem_append_left _ (List.mem_of_getElem? (i := 2) rfl)
theorem kT_3 : Cond.methodLink RL 60 yX4_init ∈ wsTL := List.mem_append_left _ (List.mem_of_getElem? (i := 3) rfl)
theorem kT_4 : Cond.instanceMethod yX4_init ∈ wsTL := List.mem_append_left _ (List.mem_of_getElem? (i := 4) rfl)
theorem kT_5 : Cond.methodLink RL 61 yL_cell ∈ wsTL := List.mem_append_left _ (List.mem_of_getElem? (i := 5) rfl)
theorem kT_6 : Cond.methodLink RL 65 yL_isStep ∈ wsTL := List.mem_append_left _ (List.mem_of_getElem? (i := 6) rfl)
theorem kT_7 : Cond.methodLink RL 69 yL_isWell ∈ wsTL := List.mem_append_left _ (List.mem_of_getElem? (i := 7) rfl)
theorem kT_8 : Cond.methodLink RL 73 yL_areAlike ∈ wsTL := List.mem_append_left _ (List.mem_of_getElem? (i := 8) rfl)
theorem kT_9 : Cond.static yL_cell ∈ wsTL := List.mem_append_left _ (List.mem_of_getElem? (i := 9) rfl)
theorem kT_10 : Cond.static yL_isStep ∈ wsTL := List.mem_append_left _ (List.mem_of_getElem? (i := 10) rfl)
theorem kT_11 : Cond.static yL_isWell ∈ wsTL := List.mem_append_left _ (List.mem_of_getElem? (i := 11) rfl)
theorem kT_12 : Cond.static yL_areAlike ∈ wsTL := List.mem_append_left _ (List.mem_of_getElem? (i := 12) rfl)
theorem kT_13 : Cond.initialized RL ∈ wsTL := List.mem_append_left _ (List.mem_of_getElem? (i := 13) rfl)
set_option maxRecDepth 20000 in
theorem gT_cell : GoodIn wsTL (va_wsS RL 61 yL_cell wsL_cell) := goodIn_app (goodIn_of _ (by decide +kernel)) ggT_L_cell
set_option maxRecDepth 20000 in
theorem gT_isStep : GoodIn wsTL (va_wsS RL 65 yL_isStep wsL_isStep) := goodIn_app (goodIn_of _ (by decide +kernel)) ggT_L_isStep
set_option maxRecDepth 20000 in
theorem gT_isWell : GoodIn wsTL (va_wsS RL 69 yL_isWell wsL_isWell) := goodIn_app (goodIn_of _ (by decide +kernel)) ggT_L_isWell
set_option maxRecDepth 20000 in
theorem gT_areAlike : GoodIn wsTL (va_wsS RL 73 yL_areAlike wsL_areAlike) := goodIn_app (goodIn_of _ (by decide +kernel)) ggT_L_areAlike
