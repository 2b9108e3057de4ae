section
-- ===== PART A: goes FIRST, ahead of the names: the tables' words, and 'selects' of the private methods out of them =====
/-- a private method of a class that the tables say can be made, by its rows of tables_1 -/
def lw_okq (q : MethodName × Nat) : Prop := (q.1.cls ≠ "java/lang/invoke/MethodHandle" ∧ q.1.cls ≠ "java/lang/invoke/VarHandle") ∧ Cond.instantiable q.1.cls q.2 ∈ tables_1 ∧ Cond.privateMethod q.1 ∈ tables_1 ∧ Cond.instanceMethod q.1 ∈ tables_1
theorem lw_p0 : lw_okq (⟨"ThreadWinder$Wraps", "guidePlace", "()I"⟩, 4) := ⟨⟨by decide +kernel, by decide +kernel⟩, List.mem_of_getElem? (i := 24) (by decide +kernel), List.mem_of_getElem? (i := 185) (by decide +kernel), List.mem_of_getElem? (i := 186) (by decide +kernel)⟩
theorem lw_p1 : lw_okq (⟨"ThreadWinder$Wraps", "guideGoesBack", "()Z"⟩, 4) := ⟨⟨by decide +kernel, by decide +kernel⟩, List.mem_of_getElem? (i := 24) (by decide +kernel), List.mem_of_getElem? (i := 189) (by decide +kernel), List.mem_of_getElem? (i := 190) (by decide +kernel)⟩
theorem lw_p2 : lw_okq (⟨"ThreadWinder$State", "isConeEmpty", "()Z"⟩, 11) := ⟨⟨by decide +kernel, by decide +kernel⟩, List.mem_of_getElem? (i := 18) (by decide +kernel), List.mem_of_getElem? (i := 196) (by decide +kernel), List.mem_of_getElem? (i := 197) (by decide +kernel)⟩
theorem lw_p3 : lw_okq (⟨"ThreadWinder$Wraps", "isFull", "()Z"⟩, 4) := ⟨⟨by decide +kernel, by decide +kernel⟩, List.mem_of_getElem? (i := 24) (by decide +kernel), List.mem_of_getElem? (i := 200) (by decide +kernel), List.mem_of_getElem? (i := 201) (by decide +kernel)⟩
theorem lw_p4 : lw_okq (⟨"ThreadWinder$Wraps", "evenness", "()I"⟩, 4) := ⟨⟨by decide +kernel, by decide +kernel⟩, List.mem_of_getElem? (i := 24) (by decide +kernel), List.mem_of_getElem? (i := 204) (by decide +kernel), List.mem_of_getElem? (i := 205) (by decide +kernel)⟩
theorem lw_p5 : lw_okq (⟨"ThreadWinder$Wraps", "ribbons", "()I"⟩, 4) := ⟨⟨by decide +kernel, by decide +kernel⟩, List.mem_of_getElem? (i := 24) (by decide +kernel), List.mem_of_getElem? (i := 211) (by decide +kernel), List.mem_of_getElem? (i := 212) (by decide +kernel)⟩
theorem lw_p6 : lw_okq (⟨"ThreadWinder$Wraps", "isRibbon", "(I)Z"⟩, 4) := ⟨⟨by decide +kernel, by decide +kernel⟩, List.mem_of_getElem? (i := 24) (by decide +kernel), List.mem_of_getElem? (i := 215) (by decide +kernel), List.mem_of_getElem? (i := 216) (by decide +kernel)⟩
theorem lw_p7 : lw_okq (⟨"ThreadWinder$Wraps", "isRibbonOver", "(II)Z"⟩, 4) := ⟨⟨by decide +kernel, by decide +kernel⟩, List.mem_of_getElem? (i := 24) (by decide +kernel), List.mem_of_getElem? (i := 219) (by decide +kernel), List.mem_of_getElem? (i := 220) (by decide +kernel)⟩
theorem lw_p8 : lw_okq (⟨"ThreadWinder$Wraps", "heightAt", "(I)I"⟩, 4) := ⟨⟨by decide +kernel, by decide +kernel⟩, List.mem_of_getElem? (i := 24) (by decide +kernel), List.mem_of_getElem? (i := 223) (by decide +kernel), List.mem_of_getElem? (i := 224) (by decide +kernel)⟩
theorem lw_p9 : lw_okq (⟨"ThreadWinder$State", "allKnots", "()I"⟩, 11) := ⟨⟨by decide +kernel, by decide +kernel⟩, List.mem_of_getElem? (i := 18) (by decide +kernel), List.mem_of_getElem? (i := 228) (by decide +kernel), List.mem_of_getElem? (i := 229) (by decide +kernel)⟩
theorem lw_p10 : lw_okq (⟨"ThreadWinder$State", "number", "(I)I"⟩, 11) := ⟨⟨by decide +kernel, by decide +kernel⟩, List.mem_of_getElem? (i := 18) (by decide +kernel), List.mem_of_getElem? (i := 232) (by decide +kernel), List.mem_of_getElem? (i := 233) (by decide +kernel)⟩
theorem lw_p11 : lw_okq (⟨"ThreadWinder$State", "copyFrom", "(LThreadWinder$State;)V"⟩, 11) := ⟨⟨by decide +kernel, by decide +kernel⟩, List.mem_of_getElem? (i := 18) (by decide +kernel), List.mem_of_getElem? (i := 244) (by decide +kernel), List.mem_of_getElem? (i := 245) (by decide +kernel)⟩
theorem lw_p12 : lw_okq (⟨"ThreadWinder$Wraps", "copyFrom", "(LThreadWinder$Wraps;)V"⟩, 4) := ⟨⟨by decide +kernel, by decide +kernel⟩, List.mem_of_getElem? (i := 24) (by decide +kernel), List.mem_of_getElem? (i := 248) (by decide +kernel), List.mem_of_getElem? (i := 249) (by decide +kernel)⟩
theorem lw_p13 : lw_okq (⟨"ThreadWinder$State", "turnOften", "(I)I"⟩, 11) := ⟨⟨by decide +kernel, by decide +kernel⟩, List.mem_of_getElem? (i := 18) (by decide +kernel), List.mem_of_getElem? (i := 256) (by decide +kernel), List.mem_of_getElem? (i := 257) (by decide +kernel)⟩
theorem lw_p14 : lw_okq (⟨"ThreadWinder$State", "isIdle", "()Z"⟩, 11) := ⟨⟨by decide +kernel, by decide +kernel⟩, List.mem_of_getElem? (i := 18) (by decide +kernel), List.mem_of_getElem? (i := 273) (by decide +kernel), List.mem_of_getElem? (i := 274) (by decide +kernel)⟩
theorem lw_p15 : lw_okq (⟨"ThreadWinder$State", "turnOnce", "()V"⟩, 11) := ⟨⟨by decide +kernel, by decide +kernel⟩, List.mem_of_getElem? (i := 18) (by decide +kernel), List.mem_of_getElem? (i := 279) (by decide +kernel), List.mem_of_getElem? (i := 280) (by decide +kernel)⟩
def lw_privs_1 : List (MethodName × Nat) := [(⟨"ThreadWinder$Wraps", "guidePlace", "()I"⟩, 4), (⟨"ThreadWinder$Wraps", "guideGoesBack", "()Z"⟩, 4), (⟨"ThreadWinder$State", "isConeEmpty", "()Z"⟩, 11), (⟨"ThreadWinder$Wraps", "isFull", "()Z"⟩, 4), (⟨"ThreadWinder$Wraps", "evenness", "()I"⟩, 4), (⟨"ThreadWinder$Wraps", "ribbons", "()I"⟩, 4), (⟨"ThreadWinder$Wraps", "isRibbon", "(I)Z"⟩, 4), (⟨"ThreadWinder$Wraps", "isRibbonOver", "(II)Z"⟩, 4), (⟨"ThreadWinder$Wraps", "heightAt", "(I)I"⟩, 4), (⟨"ThreadWinder$State", "allKnots", "()I"⟩, 11), (⟨"ThreadWinder$State", "number", "(I)I"⟩, 11), (⟨"ThreadWinder$State", "copyFrom", "(LThreadWinder$State;)V"⟩, 11), (⟨"ThreadWinder$Wraps", "copyFrom", "(LThreadWinder$Wraps;)V"⟩, 4), (⟨"ThreadWinder$State", "turnOften", "(I)I"⟩, 11), (⟨"ThreadWinder$State", "isIdle", "()Z"⟩, 11), (⟨"ThreadWinder$State", "turnOnce", "()V"⟩, 11)]
theorem lw_r1 : ∀ q ∈ lw_privs_1, lw_okq q := List.forall_mem_cons.mpr ⟨lw_p0, List.forall_mem_cons.mpr ⟨lw_p1, List.forall_mem_cons.mpr ⟨lw_p2, List.forall_mem_cons.mpr ⟨lw_p3, List.forall_mem_cons.mpr ⟨lw_p4, List.forall_mem_cons.mpr ⟨lw_p5, List.forall_mem_cons.mpr ⟨lw_p6, List.forall_mem_cons.mpr ⟨lw_p7, List.forall_mem_cons.mpr ⟨lw_p8, List.forall_mem_cons.mpr ⟨lw_p9, List.forall_mem_cons.mpr ⟨lw_p10, List.forall_mem_cons.mpr ⟨lw_p11, List.forall_mem_cons.mpr ⟨lw_p12, List.forall_mem_cons.mpr ⟨lw_p13, List.forall_mem_cons.mpr ⟨lw_p14, List.forall_mem_cons.mpr ⟨lw_p15, fun _ h => absurd h List.not_mem_nil⟩⟩⟩⟩⟩⟩⟩⟩⟩⟩⟩⟩⟩⟩⟩⟩
theorem lw_p16 : lw_okq (⟨"ThreadWinder$Wraps", "layWrap", "()V"⟩, 4) := ⟨⟨by decide +kernel, by decide +kernel⟩, List.mem_of_getElem? (i := 24) (by decide +kernel), List.mem_of_getElem? (i := 285) (by decide +kernel), List.mem_of_getElem? (i := 286) (by decide +kernel)⟩
theorem lw_p17 : lw_okq (⟨"ThreadWinder$State", "tensionAt", "(I)I"⟩, 11) := ⟨⟨by decide +kernel, by decide +kernel⟩, List.mem_of_getElem? (i := 18) (by decide +kernel), List.mem_of_getElem? (i := 293) (by decide +kernel), List.mem_of_getElem? (i := 294) (by decide +kernel)⟩
theorem lw_p18 : lw_okq (⟨"ThreadWinder$State", "warmDiscs", "()V"⟩, 11) := ⟨⟨by decide +kernel, by decide +kernel⟩, List.mem_of_getElem? (i := 18) (by decide +kernel), List.mem_of_getElem? (i := 301) (by decide +kernel), List.mem_of_getElem? (i := 302) (by decide +kernel)⟩
theorem lw_p19 : lw_okq (⟨"ThreadWinder$Wraps", "moveGuide", "(III)V"⟩, 4) := ⟨⟨by decide +kernel, by decide +kernel⟩, List.mem_of_getElem? (i := 24) (by decide +kernel), List.mem_of_getElem? (i := 307) (by decide +kernel), List.mem_of_getElem? (i := 308) (by decide +kernel)⟩
theorem lw_p20 : lw_okq (⟨"ThreadWinder", "finishAct", "(I)I"⟩, 8) := ⟨⟨by decide +kernel, by decide +kernel⟩, List.mem_of_getElem? (i := 10) (by decide +kernel), List.mem_of_getElem? (i := 311) (by decide +kernel), List.mem_of_getElem? (i := 312) (by decide +kernel)⟩
theorem lw_p21 : lw_okq (⟨"ThreadWinder$History", "remember", "(LThreadWinder$State;)V"⟩, 3) := ⟨⟨by decide +kernel, by decide +kernel⟩, List.mem_of_getElem? (i := 99) (by decide +kernel), List.mem_of_getElem? (i := 315) (by decide +kernel), List.mem_of_getElem? (i := 316) (by decide +kernel)⟩
theorem lw_p22 : lw_okq (⟨"ThreadWinder$History", "stateAt", "(I)LThreadWinder$State;"⟩, 3) := ⟨⟨by decide +kernel, by decide +kernel⟩, List.mem_of_getElem? (i := 99) (by decide +kernel), List.mem_of_getElem? (i := 319) (by decide +kernel), List.mem_of_getElem? (i := 320) (by decide +kernel)⟩
theorem lw_p23 : lw_okq (⟨"ThreadWinder$State", "changeNumber", "(II)I"⟩, 11) := ⟨⟨by decide +kernel, by decide +kernel⟩, List.mem_of_getElem? (i := 18) (by decide +kernel), List.mem_of_getElem? (i := 329) (by decide +kernel), List.mem_of_getElem? (i := 330) (by decide +kernel)⟩
theorem lw_p24 : lw_okq (⟨"ThreadWinder$State", "tieKnot", "()I"⟩, 11) := ⟨⟨by decide +kernel, by decide +kernel⟩, List.mem_of_getElem? (i := 18) (by decide +kernel), List.mem_of_getElem? (i := 337) (by decide +kernel), List.mem_of_getElem? (i := 338) (by decide +kernel)⟩
theorem lw_p25 : lw_okq (⟨"ThreadWinder$State", "changeCone", "(I)I"⟩, 11) := ⟨⟨by decide +kernel, by decide +kernel⟩, List.mem_of_getElem? (i := 18) (by decide +kernel), List.mem_of_getElem? (i := 345) (by decide +kernel), List.mem_of_getElem? (i := 346) (by decide +kernel)⟩
theorem lw_p26 : lw_okq (⟨"ThreadWinder$State", "takePackageOff", "()I"⟩, 11) := ⟨⟨by decide +kernel, by decide +kernel⟩, List.mem_of_getElem? (i := 18) (by decide +kernel), List.mem_of_getElem? (i := 353) (by decide +kernel), List.mem_of_getElem? (i := 354) (by decide +kernel)⟩
theorem lw_p27 : lw_okq (⟨"ThreadWinder$Wraps", "clear", "()V"⟩, 4) := ⟨⟨by decide +kernel, by decide +kernel⟩, List.mem_of_getElem? (i := 24) (by decide +kernel), List.mem_of_getElem? (i := 357) (by decide +kernel), List.mem_of_getElem? (i := 358) (by decide +kernel)⟩
theorem lw_p28 : lw_okq (⟨"ThreadWinder", "imagine", "(II)V"⟩, 8) := ⟨⟨by decide +kernel, by decide +kernel⟩, List.mem_of_getElem? (i := 10) (by decide +kernel), List.mem_of_getElem? (i := 370) (by decide +kernel), List.mem_of_getElem? (i := 371) (by decide +kernel)⟩
theorem lw_p29 : lw_okq (⟨"ThreadWinder$Wraps", "barePlaces", "()I"⟩, 4) := ⟨⟨by decide +kernel, by decide +kernel⟩, List.mem_of_getElem? (i := 24) (by decide +kernel), List.mem_of_getElem? (i := 377) (by decide +kernel), List.mem_of_getElem? (i := 378) (by decide +kernel)⟩
theorem lw_p30 : lw_okq (⟨"ThreadWinder$State", "hasBadPlace", "()Z"⟩, 11) := ⟨⟨by decide +kernel, by decide +kernel⟩, List.mem_of_getElem? (i := 18) (by decide +kernel), List.mem_of_getElem? (i := 399) (by decide +kernel), List.mem_of_getElem? (i := 400) (by decide +kernel)⟩
theorem lw_p31 : lw_okq (⟨"ThreadWinder$State", "isBad", "(I)Z"⟩, 11) := ⟨⟨by decide +kernel, by decide +kernel⟩, List.mem_of_getElem? (i := 18) (by decide +kernel), List.mem_of_getElem? (i := 403) (by decide +kernel), List.mem_of_getElem? (i := 404) (by decide +kernel)⟩
def lw_privs_2 : List (MethodName × Nat) := [(⟨"ThreadWinder$Wraps", "layWrap", "()V"⟩, 4), (⟨"ThreadWinder$State", "tensionAt", "(I)I"⟩, 11), (⟨"ThreadWinder$State", "warmDiscs", "()V"⟩, 11), (⟨"ThreadWinder$Wraps", "moveGuide", "(III)V"⟩, 4), (⟨"ThreadWinder", "finishAct", "(I)I"⟩, 8), (⟨"ThreadWinder$History", "remember", "(LThreadWinder$State;)V"⟩, 3), (⟨"ThreadWinder$History", "stateAt", "(I)LThreadWinder$State;"⟩, 3), (⟨"ThreadWinder$State", "changeNumber", "(II)I"⟩, 11), (⟨"ThreadWinder$State", "tieKnot", "()I"⟩, 11), (⟨"ThreadWinder$State", "changeCone", "(I)I"⟩, 11), (⟨"ThreadWinder$State", "takePackageOff", "()I"⟩, 11), (⟨"ThreadWinder$Wraps", "clear", "()V"⟩, 4), (⟨"ThreadWinder", "imagine", "(II)V"⟩, 8), (⟨"ThreadWinder$Wraps", "barePlaces", "()I"⟩, 4), (⟨"ThreadWinder$State", "hasBadPlace", "()Z"⟩, 11), (⟨"ThreadWinder$State", "isBad", "(I)Z"⟩, 11)]
theorem lw_r2 : ∀ q ∈ lw_privs_2, lw_okq q := List.forall_mem_cons.mpr ⟨lw_p16, List.forall_mem_cons.mpr ⟨lw_p17, List.forall_mem_cons.mpr ⟨lw_p18, List.forall_mem_cons.mpr ⟨lw_p19, List.forall_mem_cons.mpr ⟨lw_p20, List.forall_mem_cons.mpr ⟨lw_p21, List.forall_mem_cons.mpr ⟨lw_p22, List.forall_mem_cons.mpr ⟨lw_p23, List.forall_mem_cons.mpr ⟨lw_p24, List.forall_mem_cons.mpr ⟨lw_p25, List.forall_mem_cons.mpr ⟨lw_p26, List.forall_mem_cons.mpr ⟨lw_p27, List.forall_mem_cons.mpr ⟨lw_p28, List.forall_mem_cons.mpr ⟨lw_p29, List.forall_mem_cons.mpr ⟨lw_p30, List.forall_mem_cons.mpr ⟨lw_p31, fun _ h => absurd h List.not_mem_nil⟩⟩⟩⟩⟩⟩⟩⟩⟩⟩⟩⟩⟩⟩⟩⟩
theorem lw_p32 : lw_okq (⟨"ThreadWinder$State", "knotsAt", "(I)I"⟩, 11) := ⟨⟨by decide +kernel, by decide +kernel⟩, List.mem_of_getElem? (i := 18) (by decide +kernel), List.mem_of_getElem? (i := 407) (by decide +kernel), List.mem_of_getElem? (i := 408) (by decide +kernel)⟩
def lw_privs_3 : List (MethodName × Nat) := [(⟨"ThreadWinder$State", "knotsAt", "(I)I"⟩, 11)]
theorem lw_r3 : ∀ q ∈ lw_privs_3, lw_okq q := List.forall_mem_cons.mpr ⟨lw_p32, fun _ h => absurd h List.not_mem_nil⟩
def lw_privs : List (MethodName × Nat) := lw_privs_1 ++ (lw_privs_2 ++ (lw_privs_3))
def lw_tbl : List Cond := k2_sels lw_privs ++ tables_1
theorem lw_privs_ok : ∀ q ∈ lw_privs, lw_okq q := by
  show ∀ q ∈ lw_privs_1 ++ (lw_privs_2 ++ (lw_privs_3)), lw_okq q
  exact List.forall_mem_append.mpr ⟨lw_r1, List.forall_mem_append.mpr ⟨lw_r2, lw_r3⟩⟩
end
section
/-! ===== BEGIN words of one list among another's, by their places ===== -/
theorem goodIn_r {big : List Cond} (ws : List Cond) (ps : List Nat) (hp : ws = ps.filterMap (fun i => big[i]?)) (h : ws.all goodWord = true) : GoodIn big ws := by
  intro w hw
  have h1 := List.all_eq_true.mp h w hw
  rw [hp] at hw
  obtain ⟨i, -, hi⟩ := List.mem_filterMap.mp hw
  have hm : w ∈ big := by first | exact List.mem_of_getElem? hi | exact List.getElem?_mem hi
  exact ⟨hm, good_of_word h1⟩
theorem goodIn_app {big a b : List Cond} (ha : GoodIn big a) (hb : GoodIn big b) : GoodIn big (a ++ b) := fun w h => (List.mem_append.mp h).elim (ha w) (hb w)
theorem goodIn_ca {big a b : List Cond} {c : Cond} (ha : GoodIn big (c :: a)) (hb : GoodIn big b) : GoodIn big (c :: (a ++ b)) := fun w h => (List.mem_cons.mp h).elim (fun e => ha w (List.mem_cons.mpr (Or.inl e))) (fun h => (List.mem_append.mp h).elim (fun h => ha w (List.mem_cons.mpr (Or.inr h))) (hb w))
theorem goodIn_sub {big ws : List Cond} (hm : ∀ w ∈ ws, w ∈ big) (h : ws.all goodWord = true) : GoodIn big ws := fun w hw => ⟨hm w hw, good_of_word (List.all_eq_true.mp h w hw)⟩
/-! ===== END ===== -/

/-! ===== BEGIN printed: names, fields, word lists, decode rows ===== -/
def RX0 : String := "ThreadWinder$CommandText"
def TX0 : u_T := fun k => match k with
  | 0 => ("ThreadWinder$CommandText", "characters", "[C", true)
  | 1 => ("ThreadWinder$CommandText", "kinds", "[I", true)
  | 2 => ("ThreadWinder$CommandText", "values", "[I", true)
  | 3 => ("ThreadWinder$CommandText", "length", "I", false)
  | 4 => ("ThreadWinder$CommandText", "commands", "I", false)
  | 5 => ("ThreadWinder$CommandText", "kind", "I", false)
  | _ => ("ThreadWinder$CommandText", "value", "I", false)
def tyX0 : Nat → FieldType := fun k => match k with
  | 0 => .array .char
  | 1 => .array .int
  | 2 => .array .int
  | 3 => .int
  | 4 => .int
  | 5 => .int
  | _ => .int
abbrev wsX00 : List Cond := u_ws RX0 TX0 7
theorem nmX0 : ∀ a, a < 7 → ∀ b, b < 7 → a ≠ b → (TX0 a).2.1 ≠ (TX0 b).2.1 := by decide +kernel
theorem tyX0_ok : ∀ k, k < 7 → parseFieldDescriptor (TX0 k).2.2.1 = some (tyX0 k) := by decide +kernel
abbrev cX0_init : ByteArray := prog_2_method_1_code
def yX0_init : MethodName := ⟨RX0, "<init>", "()V"⟩
def RX1 : String := "ThreadWinder$History"
def TX1 : u_T := fun k => match k with
  | 0 => ("ThreadWinder$History", "states", "[LThreadWinder$State;", true)
  | 1 => ("ThreadWinder$History", "next", "I", false)
  | _ => ("ThreadWinder$History", "kept", "I", false)
def tyX1 : Nat → FieldType := fun k => match k with
  | 0 => .array (.object "ThreadWinder$State")
  | 1 => .int
  | _ => .int
abbrev wsX10 : List Cond := u_ws RX1 TX1 3
theorem nmX1 : ∀ a, a < 3 → ∀ b, b < 3 → a ≠ b → (TX1 a).2.1 ≠ (TX1 b).2.1 := by decide +kernel
theorem tyX1_ok : ∀ k, k < 3 → parseFieldDescriptor (TX1 k).2.2.1 = some (tyX1 k) := by decide +kernel
abbrev cX1_init : ByteArray := prog_3_method_1_code
def yX1_init : MethodName := ⟨RX1, "<init>", "()V"⟩
abbrev cX1_remember : ByteArray := prog_3_method_2_code
def yX1_remember : MethodName := ⟨RX1, "remember", "(LThreadWinder$State;)V"⟩
abbrev cX1_stateAt : ByteArray := prog_3_method_4_code
def yX1_stateAt : MethodName := ⟨RX1, "stateAt", "(I)LThreadWinder$State;"⟩
def RX2 : String := "ThreadWinder$State"
def TX2 : u_T := fun k => match k with
  | 0 => ("ThreadWinder$State", "wraps", "LThreadWinder$Wraps;", true)
  | 1 => ("ThreadWinder$State", "knots", "[I", true)
  | 2 => ("ThreadWinder$State", "numbers", "[I", true)
  | 3 => ("ThreadWinder$State", "coneLeft", "I", false)
  | 4 => ("ThreadWinder$State", "warmth", "I", false)
  | 5 => ("ThreadWinder$State", "broken", "Z", false)
  | 6 => ("ThreadWinder$State", "lastPlace", "I", false)
  | 7 => ("ThreadWinder$State", "lastTension", "I", false)
  | 8 => ("ThreadWinder$State", "turnsDone", "I", false)
  | 9 => ("ThreadWinder$State", "breaks", "I", false)
  | _ => ("ThreadWinder$State", "packagesOff", "I", false)
def tyX2 : Nat → FieldType := fun k => match k with
  | 0 => .object "ThreadWinder$Wraps"
  | 1 => .array .int
  | 2 => .array .int
  | 3 => .int
  | 4 => .int
  | 5 => .boolean
  | 6 => .int
  | 7 => .int
  | 8 => .int
  | 9 => .int
  | _ => .int
abbrev wsX20 : List Cond := u_ws RX2 TX2 11
theorem nmX2 : ∀ a, a < 11 → ∀ b, b < 11 → a ≠ b → (TX2 a).2.1 ≠ (TX2 b).2.1 := by decide +kernel
theorem tyX2_ok : ∀ k, k < 11 → parseFieldDescriptor (TX2 k).2.2.1 = some (tyX2 k) := by decide +kernel
abbrev cX2_init : ByteArray := prog_4_method_1_code
def yX2_init : MethodName := ⟨RX2, "<init>", "()V"⟩
abbrev cX2_copyFrom : ByteArray := prog_4_method_2_code
def yX2_copyFrom : MethodName := ⟨RX2, "copyFrom", "(LThreadWinder$State;)V"⟩
abbrev cX2_changeNumber : ByteArray := prog_4_method_4_code
def yX2_changeNumber : MethodName := ⟨RX2, "changeNumber", "(II)I"⟩
abbrev cX2_turnOften : ByteArray := prog_4_method_5_code
def yX2_turnOften : MethodName := ⟨RX2, "turnOften", "(I)I"⟩
abbrev cX2_turnOnce : ByteArray := prog_4_method_6_code
def yX2_turnOnce : MethodName := ⟨RX2, "turnOnce", "()V"⟩
abbrev cX2_tensionAt : ByteArray := prog_4_method_7_code
def yX2_tensionAt : MethodName := ⟨RX2, "tensionAt", "(I)I"⟩
abbrev cX2_warmDiscs : ByteArray := prog_4_method_8_code
def yX2_warmDiscs : MethodName := ⟨RX2, "warmDiscs", "()V"⟩
abbrev cX2_tieKnot : ByteArray := prog_4_method_9_code
def yX2_tieKnot : MethodName := ⟨RX2, "tieKnot", "()I"⟩
abbrev cX2_changeCone : ByteArray := prog_4_method_10_code
def yX2_changeCone : MethodName := ⟨RX2, "changeCone", "(I)I"⟩
abbrev cX2_takePackageOff : ByteArray := prog_4_method_11_code
def yX2_takePackageOff : MethodName := ⟨RX2, "takePackageOff", "()I"⟩
abbrev cX2_isIdle : ByteArray := prog_4_method_12_code
def yX2_isIdle : MethodName := ⟨RX2, "isIdle", "()Z"⟩
abbrev cX2_isConeEmpty : ByteArray := prog_4_method_13_code
def yX2_isConeEmpty : MethodName := ⟨RX2, "isConeEmpty", "()Z"⟩
abbrev cX2_number : ByteArray := prog_4_method_14_code
def yX2_number : MethodName := ⟨RX2, "number", "(I)I"⟩
abbrev cX2_knotsAt : ByteArray := prog_4_method_15_code
def yX2_knotsAt : MethodName := ⟨RX2, "knotsAt", "(I)I"⟩
abbrev cX2_isBad : ByteArray := prog_4_method_16_code
def yX2_isBad : MethodName := ⟨RX2, "isBad", "(I)Z"⟩
abbrev cX2_hasBadPlace : ByteArray := prog_4_method_17_code
def yX2_hasBadPlace : MethodName := ⟨RX2, "hasBadPlace", "()Z"⟩
abbrev cX2_allKnots : ByteArray := prog_4_method_18_code
def yX2_allKnots : MethodName := ⟨RX2, "allKnots", "()I"⟩
def RX3 : String := "ThreadWinder$Wraps"
def TX3 : u_T := fun k => match k with
  | 0 => ("ThreadWinder$Wraps", "heights", "[I", true)
  | 1 => ("ThreadWinder$Wraps", "laid", "I", false)
  | 2 => ("ThreadWinder$Wraps", "tallest", "I", false)
  | _ => ("ThreadWinder$Wraps", "way", "I", false)
def tyX3 : Nat → FieldType := fun k => match k with
  | 0 => .array .int
  | 1 => .int
  | 2 => .int
  | _ => .int
abbrev wsX30 : List Cond := u_ws RX3 TX3 4
theorem nmX3 : ∀ a, a < 4 → ∀ b, b < 4 → a ≠ b → (TX3 a).2.1 ≠ (TX3 b).2.1 := by decide +kernel
theorem tyX3_ok : ∀ k, k < 4 → parseFieldDescriptor (TX3 k).2.2.1 = some (tyX3 k) := by decide +kernel
abbrev cX3_init : ByteArray := prog_5_method_1_code
def yX3_init : MethodName := ⟨RX3, "<init>", "()V"⟩
abbrev cX3_copyFrom : ByteArray := prog_5_method_2_code
def yX3_copyFrom : MethodName := ⟨RX3, "copyFrom", "(LThreadWinder$Wraps;)V"⟩
abbrev cX3_clear : ByteArray := prog_5_method_3_code
def yX3_clear : MethodName := ⟨RX3, "clear", "()V"⟩
abbrev cX3_guidePlace : ByteArray := prog_5_method_4_code
def yX3_guidePlace : MethodName := ⟨RX3, "guidePlace", "()I"⟩
abbrev cX3_guideGoesBack : ByteArray := prog_5_method_5_code
def yX3_guideGoesBack : MethodName := ⟨RX3, "guideGoesBack", "()Z"⟩
abbrev cX3_moveGuide : ByteArray := prog_5_method_6_code
def yX3_moveGuide : MethodName := ⟨RX3, "moveGuide", "(III)V"⟩
abbrev cX3_layWrap : ByteArray := prog_5_method_7_code
def yX3_layWrap : MethodName := ⟨RX3, "layWrap", "()V"⟩
abbrev cX3_heightAt : ByteArray := prog_5_method_8_code
def yX3_heightAt : MethodName := ⟨RX3, "heightAt", "(I)I"⟩
abbrev cX3_isFull : ByteArray := prog_5_method_9_code
def yX3_isFull : MethodName := ⟨RX3, "isFull", "()Z"⟩
abbrev cX3_evenness : ByteArray := prog_5_method_10_code
def yX3_evenness : MethodName := ⟨RX3, "evenness", "()I"⟩
abbrev cX3_isRibbon : ByteArray := prog_5_method_11_code
def yX3_isRibbon : MethodName := ⟨RX3, "isRibbon", "(I)Z"⟩
abbrev cX3_isRibbonOver : ByteArray := prog_5_method_12_code
def yX3_isRibbonOver : MethodName := ⟨RX3, "isRibbonOver", "(II)Z"⟩
abbrev cX3_ribbons : ByteArray := prog_5_method_13_code
def yX3_ribbons : MethodName := ⟨RX3, "ribbons", "()I"⟩
abbrev cX3_barePlaces : ByteArray := prog_5_method_14_code
def yX3_barePlaces : MethodName := ⟨RX3, "barePlaces", "()I"⟩
def RX4 : String := "ThreadWinder"
def TX4 : u_T := fun k => match k with
  | 0 => ("ThreadWinder", "now", "LThreadWinder$State;", true)
  | 1 => ("ThreadWinder", "trial", "LThreadWinder$State;", true)
  | 2 => ("ThreadWinder", "snapshot", "LThreadWinder$State;", true)
  | 3 => ("ThreadWinder", "imagined", "LThreadWinder$Wraps;", true)
  | 4 => ("ThreadWinder", "history", "LThreadWinder$History;", true)
  | 5 => ("ThreadWinder", "text", "LThreadWinder$CommandText;", true)
  | 6 => ("ThreadWinder", "snapshotTaken", "Z", false)
  | _ => ("ThreadWinder", "latestStop", "I", false)
def tyX4 : Nat → FieldType := fun k => match k with
  | 0 => .object "ThreadWinder$State"
  | 1 => .object "ThreadWinder$State"
  | 2 => .object "ThreadWinder$State"
  | 3 => .object "ThreadWinder$Wraps"
  | 4 => .object "ThreadWinder$History"
  | 5 => .object "ThreadWinder$CommandText"
  | 6 => .boolean
  | _ => .int
abbrev wsX40 : List Cond := u_ws RX4 TX4 8
theorem nmX4 : ∀ a, a < 8 → ∀ b, b < 8 → a ≠ b → (TX4 a).2.1 ≠ (TX4 b).2.1 := by decide +kernel
theorem tyX4_ok : ∀ k, k < 8 → parseFieldDescriptor (TX4 k).2.2.1 = some (tyX4 k) := by decide +kernel
abbrev cX4_init : ByteArray := prog_1_method_1_code
def yX4_init : MethodName := ⟨RX4, "<init>", "()V"⟩
abbrev cX4_set : ByteArray := prog_1_method_2_code
def yX4_set : MethodName := ⟨RX4, "set", "(II)I"⟩
abbrev cX4_wind : ByteArray := prog_1_method_3_code
def yX4_wind : MethodName := ⟨RX4, "wind", "(I)I"⟩
abbrev cX4_knot : ByteArray := prog_1_method_4_code
def yX4_knot : MethodName := ⟨RX4, "knot", "()I"⟩
abbrev cX4_cone : ByteArray := prog_1_method_5_code
def yX4_cone : MethodName := ⟨RX4, "cone", "(I)I"⟩
abbrev cX4_doff : ByteArray := prog_1_method_6_code
def yX4_doff : MethodName := ⟨RX4, "doff", "()I"⟩
abbrev cX4_place : ByteArray := prog_1_method_14_code
def yX4_place : MethodName := ⟨RX4, "place", "(II)I"⟩
abbrev cX4_wrong : ByteArray := prog_1_method_15_code
def yX4_wrong : MethodName := ⟨RX4, "wrong", "()I"⟩
abbrev cX4_breaksIn : ByteArray := prog_1_method_16_code
def yX4_breaksIn : MethodName := ⟨RX4, "breaksIn", "()I"⟩
abbrev cX4_ifTraverse : ByteArray := prog_1_method_17_code
def yX4_ifTraverse : MethodName := ⟨RX4, "ifTraverse", "(III)I"⟩
abbrev cX4_bestTraverse : ByteArray := prog_1_method_18_code
def yX4_bestTraverse : MethodName := ⟨RX4, "bestTraverse", "(I)I"⟩
abbrev cX4_period : ByteArray := prog_1_method_19_code
def yX4_period : MethodName := ⟨RX4, "period", "(I)I"⟩
abbrev cX4_count : ByteArray := prog_1_method_20_code
def yX4_count : MethodName := ⟨RX4, "count", "(I)I"⟩
abbrev cX4_finishAct : ByteArray := prog_1_method_21_code
def yX4_finishAct : MethodName := ⟨RX4, "finishAct", "(I)I"⟩
abbrev cX4_imagine : ByteArray := prog_1_method_22_code
def yX4_imagine : MethodName := ⟨RX4, "imagine", "(II)V"⟩
abbrev cX4_oneIf : ByteArray := prog_1_method_23_code
def yX4_oneIf : MethodName := ⟨RX4, "oneIf", "(Z)I"⟩
abbrev cX4_lowest : ByteArray := prog_1_method_24_code
def yX4_lowest : MethodName := ⟨RX4, "lowest", "(I)I"⟩
abbrev cX4_highest : ByteArray := prog_1_method_25_code
def yX4_highest : MethodName := ⟨RX4, "highest", "(I)I"⟩
abbrev cX4_inRange : ByteArray := prog_1_method_26_code
def yX4_inRange : MethodName := ⟨RX4, "inRange", "(II)Z"⟩
def RX5 : String := "ThreadWinderModel"
def TX5 : u_T := fun k => match k with
  | _ => ("", "", "", false)
def tyX5 : Nat → FieldType := fun k => match k with
  | _ => .int
abbrev wsX50 : List Cond := u_ws RX5 TX5 0
theorem nmX5 : ∀ a, a < 0 → ∀ b, b < 0 → a ≠ b → (TX5 a).2.1 ≠ (TX5 b).2.1 := by decide +kernel
theorem tyX5_ok : ∀ k, k < 0 → parseFieldDescriptor (TX5 k).2.2.1 = some (tyX5 k) := by decide +kernel
def RJx8e188 : String := "java/lang/Cloneable"
def TJx8e188 : u_T := fun k => match k with
  | _ => ("", "", "", false)
def tyJx8e188 : Nat → FieldType := fun k => match k with
  | _ => .int
abbrev wsJx8e1880 : List Cond := u_ws RJx8e188 TJx8e188 0
theorem nmJx8e188 : ∀ a, a < 0 → ∀ b, b < 0 → a ≠ b → (TJx8e188 a).2.1 ≠ (TJx8e188 b).2.1 := by decide +kernel
theorem tyJx8e188_ok : ∀ k, k < 0 → parseFieldDescriptor (TJx8e188 k).2.2.1 = some (tyJx8e188 k) := by decide +kernel
def RJ9 : String := "java/lang/Math"
def TJ9 : u_T := fun k => match k with
  | _ => ("", "", "", false)
def tyJ9 : Nat → FieldType := fun k => match k with
  | _ => .int
abbrev wsJ90 : List Cond := u_ws RJ9 TJ9 0
theorem nmJ9 : ∀ a, a < 0 → ∀ b, b < 0 → a ≠ b → (TJ9 a).2.1 ≠ (TJ9 b).2.1 := by decide +kernel
theorem tyJ9_ok : ∀ k, k < 0 → parseFieldDescriptor (TJ9 k).2.2.1 = some (tyJ9 k) := by decide +kernel
abbrev cJ9_abs_0f7a4 : ByteArray := prog_9_method_59_code
def yJ9_abs_0f7a4 : MethodName := ⟨RJ9, "abs", "(I)I"⟩
abbrev cJ9_max_7cf53 : ByteArray := prog_9_method_65_code
def yJ9_max_7cf53 : MethodName := ⟨RJ9, "max", "(II)I"⟩
abbrev cJ9_min_7cf53 : ByteArray := prog_9_method_69_code
def yJ9_min_7cf53 : MethodName := ⟨RJ9, "min", "(II)I"⟩
def RJ10 : String := "java/lang/System"
def TJ10 : u_T := fun k => match k with
  | _ => ("", "", "", false)
def tyJ10 : Nat → FieldType := fun k => match k with
  | _ => .int
abbrev wsJ100 : List Cond := u_ws RJ10 TJ10 0
theorem nmJ10 : ∀ a, a < 0 → ∀ b, b < 0 → a ≠ b → (TJ10 a).2.1 ≠ (TJ10 b).2.1 := by decide +kernel
theorem tyJ10_ok : ∀ k, k < 0 → parseFieldDescriptor (TJ10 k).2.2.1 = some (tyJ10 k) := by decide +kernel
def RJ7 : String := "java/util/Arrays"
def TJ7 : u_T := fun k => match k with
  | _ => ("", "", "", false)
def tyJ7 : Nat → FieldType := fun k => match k with
  | _ => .int
abbrev wsJ70 : List Cond := u_ws RJ7 TJ7 0
theorem nmJ7 : ∀ a, a < 0 → ∀ b, b < 0 → a ≠ b → (TJ7 a).2.1 ≠ (TJ7 b).2.1 := by decide +kernel
theorem tyJ7_ok : ∀ k, k < 0 → parseFieldDescriptor (TJ7 k).2.2.1 = some (tyJ7 k) := by decide +kernel
abbrev cJ7_fill_53178 : ByteArray := prog_11_method_103_code
def yJ7_fill_53178 : MethodName := ⟨RJ7, "fill", "([II)V"⟩
def RL : String := "ThreadWinderLaw"
abbrev cL_cell : ByteArray := method_2_code
def yL_cell : MethodName := ⟨RL, "cell", "([II)I"⟩
abbrev cL_up : ByteArray := method_3_code
def yL_up : MethodName := ⟨RL, "up", "(II)I"⟩
abbrev cL_isStep : ByteArray := method_4_code
def yL_isStep : MethodName := ⟨RL, "isStep", "(LThreadWinder;LThreadWinder;I)Z"⟩
abbrev cL_isRound : ByteArray := method_5_code
def yL_isRound : MethodName := ⟨RL, "isRound", "(LThreadWinder;I)Z"⟩
abbrev cL_areAlike : ByteArray := method_6_code
def yL_areAlike : MethodName := ⟨RL, "areAlike", "(LThreadWinder;LThreadWinder;)Z"⟩
abbrev cL_isWell : ByteArray := method_7_code
def yL_isWell : MethodName := ⟨RL, "isWell", "(LThreadWinder;)Z"⟩
abbrev cL_law : ByteArray := code
def yL_law : MethodName := ⟨RL, "law", "([I)Z"⟩
def wsX0_init : List Cond := .code yX0_init cX0_init 1 none :: ([.methodLink RX0 3 objectInit, .instanceMethod objectInit, .code objectInit ⟨#[0xb1]⟩ 1 none, .arrayClass .char, .fieldLink RX0 9 "ThreadWinder$CommandText" "characters" "[C", .arrayClass .int, .fieldLink RX0 15 "ThreadWinder$CommandText" "kinds" "[I", .fieldLink RX0 19 "ThreadWinder$CommandText" "values" "[I", .fieldLink RX0 22 "ThreadWinder$CommandText" "length" "I", .fieldLink RX0 26 "ThreadWinder$CommandText" "commands" "I", .fieldLink RX0 29 "ThreadWinder$CommandText" "kind" "I", .fieldLink RX0 32 "ThreadWinder$CommandText" "value" "I"] ++ wsX00)
def wsX3_init : List Cond := .code yX3_init cX3_init 1 none :: ([.methodLink RX3 3 objectInit, .instanceMethod objectInit, .code objectInit ⟨#[0xb1]⟩ 1 none, .arrayClass .int, .fieldLink RX3 9 "ThreadWinder$Wraps" "heights" "[I", .fieldLink RX3 15 "ThreadWinder$Wraps" "laid" "I", .fieldLink RX3 19 "ThreadWinder$Wraps" "tallest" "I", .fieldLink RX3 22 "ThreadWinder$Wraps" "way" "I"] ++ wsX30)
def wsX2_init_r1 : List Cond := [Cond.methodLink RX2 3 objectInit, Cond.instanceMethod objectInit, Cond.code objectInit ⟨#[0xb1]⟩ 1 none, Cond.classLink RX2 9 RX3, Cond.instantiable RX3 4, Cond.initialized RX3, Cond.fieldLink RX2 12 "ThreadWinder$State" "wraps" "LThreadWinder$Wraps;", Cond.arrayClass .int, Cond.fieldLink RX2 18 "ThreadWinder$State" "knots" "[I", Cond.methodLink RX2 25 ⟨"[I", "clone", "()Ljava/lang/Object;"⟩, Cond.sameMethod "[I" "java/lang/Object" "clone" "()Ljava/lang/Object;", Cond.native ⟨"java/lang/Object", "clone", "()Ljava/lang/Object;"⟩, Cond.instanceMethod ⟨"java/lang/Object", "clone", "()Ljava/lang/Object;"⟩, Cond.selects "[I" ⟨"[I", "clone", "()Ljava/lang/Object;"⟩ ⟨"java/lang/Object", "clone", "()Ljava/lang/Object;"⟩, Cond.classLink RX2 26 "[I", Cond.fieldLink RX2 30 "ThreadWinder$State" "numbers" "[I", Cond.fieldLink RX2 33 "ThreadWinder$State" "coneLeft" "I", Cond.fieldLink RX2 37 "ThreadWinder$State" "warmth" "I", Cond.fieldLink RX2 40 "ThreadWinder$State" "broken" "Z", Cond.fieldLink RX2 44 "ThreadWinder$State" "lastPlace" "I", Cond.fieldLink RX2 47 "ThreadWinder$State" "lastTension" "I", Cond.fieldLink RX2 50 "ThreadWinder$State" "turnsDone" "I", Cond.fieldLink RX2 53 "ThreadWinder$State" "breaks" "I", Cond.fieldLink RX2 56 "ThreadWinder$State" "packagesOff" "I"]
def wsX2_init_r2 : List Cond := [Cond.instanceMethod yX3_init, Cond.code yX3_init cX3_init 1 none, Cond.methodLink RX3 3 objectInit, Cond.fieldLink RX3 9 "ThreadWinder$Wraps" "heights" "[I", Cond.fieldLink RX3 15 "ThreadWinder$Wraps" "laid" "I", Cond.fieldLink RX3 19 "ThreadWinder$Wraps" "tallest" "I", Cond.fieldLink RX3 22 "ThreadWinder$Wraps" "way" "I"]
def wsX2_init : List Cond := .code yX2_init cX2_init 1 none :: ((wsX2_init_r1 ++ wsX2_init_r2) ++ wsX30 ++ wsX20)
def wsX1_init_r1 : List Cond := [Cond.methodLink RX1 3 objectInit, Cond.instanceMethod objectInit, Cond.code objectInit ⟨#[0xb1]⟩ 1 none, Cond.classLink RX1 9 RX2, Cond.fieldLink RX1 11 "ThreadWinder$History" "states" "[LThreadWinder$State;", Cond.fieldLink RX1 17 "ThreadWinder$History" "next" "I", Cond.fieldLink RX1 21 "ThreadWinder$History" "kept" "I", Cond.instantiable RX2 11, Cond.initialized RX2, Cond.instanceMethod yX2_init, Cond.code yX2_init cX2_init 1 none, Cond.methodLink RX2 3 objectInit, Cond.classLink RX2 9 RX3, Cond.instantiable RX3 4, Cond.initialized RX3, Cond.fieldLink RX2 12 "ThreadWinder$State" "wraps" "LThreadWinder$Wraps;", Cond.arrayClass .int, Cond.fieldLink RX2 18 "ThreadWinder$State" "knots" "[I", Cond.methodLink RX2 25 ⟨"[I", "clone", "()Ljava/lang/Object;"⟩, Cond.sameMethod "[I" "java/lang/Object" "clone" "()Ljava/lang/Object;", Cond.native ⟨"java/lang/Object", "clone", "()Ljava/lang/Object;"⟩, Cond.instanceMethod ⟨"java/lang/Object", "clone", "()Ljava/lang/Object;"⟩, Cond.selects "[I" ⟨"[I", "clone", "()Ljava/lang/Object;"⟩ ⟨"java/lang/Object", "clone", "()Ljava/lang/Object;"⟩, Cond.classLink RX2 26 "[I"]
def wsX1_init_r2 : List Cond := [Cond.fieldLink RX2 30 "ThreadWinder$State" "numbers" "[I", Cond.fieldLink RX2 33 "ThreadWinder$State" "coneLeft" "I", Cond.fieldLink RX2 37 "ThreadWinder$State" "warmth" "I", Cond.fieldLink RX2 40 "ThreadWinder$State" "broken" "Z", Cond.fieldLink RX2 44 "ThreadWinder$State" "lastPlace" "I", Cond.fieldLink RX2 47 "ThreadWinder$State" "lastTension" "I", Cond.fieldLink RX2 50 "ThreadWinder$State" "turnsDone" "I", Cond.fieldLink RX2 53 "ThreadWinder$State" "breaks" "I", Cond.fieldLink RX2 56 "ThreadWinder$State" "packagesOff" "I", Cond.instanceMethod yX3_init, Cond.code yX3_init cX3_init 1 none, Cond.methodLink RX3 3 objectInit, Cond.fieldLink RX3 9 "ThreadWinder$Wraps" "heights" "[I", Cond.fieldLink RX3 15 "ThreadWinder$Wraps" "laid" "I", Cond.fieldLink RX3 19 "ThreadWinder$Wraps" "tallest" "I", Cond.fieldLink RX3 22 "ThreadWinder$Wraps" "way" "I"]
def wsX1_init : List Cond := .code yX1_init cX1_init 2 none :: ((wsX1_init_r1 ++ wsX1_init_r2) ++ wsX10 ++ wsX20 ++ wsX30)
def wsX1_stateAt : List Cond := .code yX1_stateAt cX1_stateAt 2 (some (.object "ThreadWinder$State")) :: ([.fieldLink RX1 11 "ThreadWinder$History" "states" "[LThreadWinder$State;"] ++ wsX10)
def wsX3_copyFrom : List Cond := .code yX3_copyFrom cX3_copyFrom 2 none :: ([.fieldLink RX3 9 "ThreadWinder$Wraps" "heights" "[I", .methodLink RX3 25 arraycopyName, .native arraycopyName, .static arraycopyName, .initialized "java/lang/System", .fieldLink RX3 15 "ThreadWinder$Wraps" "laid" "I", .fieldLink RX3 19 "ThreadWinder$Wraps" "tallest" "I", .fieldLink RX3 22 "ThreadWinder$Wraps" "way" "I"] ++ wsX30)
def wsX2_copyFrom : List Cond := .code yX2_copyFrom cX2_copyFrom 2 none :: ([.fieldLink RX2 12 "ThreadWinder$State" "wraps" "LThreadWinder$Wraps;", .fieldLink RX2 18 "ThreadWinder$State" "knots" "[I", .methodLink RX2 63 arraycopyName, .native arraycopyName, .static arraycopyName, .initialized "java/lang/System", .fieldLink RX2 30 "ThreadWinder$State" "numbers" "[I", .fieldLink RX2 33 "ThreadWinder$State" "coneLeft" "I", .fieldLink RX2 37 "ThreadWinder$State" "warmth" "I", .fieldLink RX2 40 "ThreadWinder$State" "broken" "Z", .fieldLink RX2 44 "ThreadWinder$State" "lastPlace" "I", .fieldLink RX2 47 "ThreadWinder$State" "lastTension" "I", .fieldLink RX2 50 "ThreadWinder$State" "turnsDone" "I", .fieldLink RX2 53 "ThreadWinder$State" "breaks" "I", .fieldLink RX2 56 "ThreadWinder$State" "packagesOff" "I", .instanceMethod yX3_copyFrom, .initialized RX3, .selects RX3 yX3_copyFrom yX3_copyFrom, .code yX3_copyFrom cX3_copyFrom 2 none, .fieldLink RX3 9 "ThreadWinder$Wraps" "heights" "[I", .methodLink RX3 25 arraycopyName, .fieldLink RX3 15 "ThreadWinder$Wraps" "laid" "I", .fieldLink RX3 19 "ThreadWinder$Wraps" "tallest" "I", .fieldLink RX3 22 "ThreadWinder$Wraps" "way" "I"] ++ wsX20 ++ wsX30)
def wsX1_remember_r1 : List Cond := [Cond.fieldLink RX1 17 "ThreadWinder$History" "next" "I", Cond.fieldLink RX1 21 "ThreadWinder$History" "kept" "I", Cond.methodLink RX1 33 Lib.Math.min.name, Cond.static Lib.Math.min.name, Cond.initialized "java/lang/Math", Cond.code Lib.Math.min.name Lib.Math.min.code 2 (some .int), Cond.methodLink RX1 25 yX1_stateAt, Cond.instanceMethod yX1_stateAt, Cond.selects RX1 yX1_stateAt yX1_stateAt, Cond.initialized RX1, Cond.code yX1_stateAt cX1_stateAt 2 (some (.object "ThreadWinder$State")), Cond.fieldLink RX1 11 "ThreadWinder$History" "states" "[LThreadWinder$State;", Cond.instanceMethod yX2_copyFrom, Cond.initialized RX2, Cond.selects RX2 yX2_copyFrom yX2_copyFrom, Cond.code yX2_copyFrom cX2_copyFrom 2 none, Cond.fieldLink RX2 12 "ThreadWinder$State" "wraps" "LThreadWinder$Wraps;", Cond.fieldLink RX2 18 "ThreadWinder$State" "knots" "[I", Cond.methodLink RX2 63 arraycopyName, Cond.native arraycopyName, Cond.static arraycopyName, Cond.initialized "java/lang/System", Cond.fieldLink RX2 30 "ThreadWinder$State" "numbers" "[I", Cond.fieldLink RX2 33 "ThreadWinder$State" "coneLeft" "I"]
def wsX1_remember_r2 : List Cond := [Cond.fieldLink RX2 37 "ThreadWinder$State" "warmth" "I", Cond.fieldLink RX2 40 "ThreadWinder$State" "broken" "Z", Cond.fieldLink RX2 44 "ThreadWinder$State" "lastPlace" "I", Cond.fieldLink RX2 47 "ThreadWinder$State" "lastTension" "I", Cond.fieldLink RX2 50 "ThreadWinder$State" "turnsDone" "I", Cond.fieldLink RX2 53 "ThreadWinder$State" "breaks" "I", Cond.fieldLink RX2 56 "ThreadWinder$State" "packagesOff" "I", Cond.instanceMethod yX3_copyFrom, Cond.initialized RX3, Cond.selects RX3 yX3_copyFrom yX3_copyFrom, Cond.code yX3_copyFrom cX3_copyFrom 2 none, Cond.fieldLink RX3 9 "ThreadWinder$Wraps" "heights" "[I", Cond.methodLink RX3 25 arraycopyName, Cond.fieldLink RX3 15 "ThreadWinder$Wraps" "laid" "I", Cond.fieldLink RX3 19 "ThreadWinder$Wraps" "tallest" "I", Cond.fieldLink RX3 22 "ThreadWinder$Wraps" "way" "I"]
def wsX1_remember : List Cond := .code yX1_remember cX1_remember 3 none :: ((wsX1_remember_r1 ++ wsX1_remember_r2) ++ wsX10 ++ wsX20 ++ wsX30)
def wsX4_lowest : List Cond := .code yX4_lowest cX4_lowest 1 (some .int) :: ([.fieldLink RX4 216 "ThreadWinder" "LOWEST" "[I"])
def wsX4_highest : List Cond := .code yX4_highest cX4_highest 1 (some .int) :: ([.fieldLink RX4 220 "ThreadWinder" "HIGHEST" "[I"])
def wsX4_inRange : List Cond := .code yX4_inRange cX4_inRange 2 (some .boolean) :: ([.methodLink RX4 158 yX4_lowest, .static yX4_lowest, .initialized RX4, .code yX4_lowest cX4_lowest 1 (some .int), .fieldLink RX4 216 "ThreadWinder" "LOWEST" "[I", .methodLink RX4 161 yX4_highest, .static yX4_highest, .code yX4_highest cX4_highest 1 (some .int), .fieldLink RX4 220 "ThreadWinder" "HIGHEST" "[I"])
def wsX2_changeNumber : List Cond := .code yX2_changeNumber cX2_changeNumber 4 (some .int) :: ([.fieldLink RX2 30 "ThreadWinder$State" "numbers" "[I", .static yX4_inRange, .initialized RX4, .code yX4_inRange cX4_inRange 2 (some .boolean), .methodLink RX4 158 yX4_lowest, .static yX4_lowest, .code yX4_lowest cX4_lowest 1 (some .int), .fieldLink RX4 216 "ThreadWinder" "LOWEST" "[I", .methodLink RX4 161 yX4_highest, .static yX4_highest, .code yX4_highest cX4_highest 1 (some .int), .fieldLink RX4 220 "ThreadWinder" "HIGHEST" "[I"] ++ wsX20)
def wsX2_isConeEmpty : List Cond := .code yX2_isConeEmpty cX2_isConeEmpty 1 (some .boolean) :: ([.fieldLink RX2 33 "ThreadWinder$State" "coneLeft" "I"] ++ wsX20)
def wsX3_isFull : List Cond := .code yX3_isFull cX3_isFull 1 (some .boolean) :: ([.fieldLink RX3 19 "ThreadWinder$Wraps" "tallest" "I"] ++ wsX30)
def wsX2_isIdle : List Cond := .code yX2_isIdle cX2_isIdle 1 (some .boolean) :: ([.fieldLink RX2 40 "ThreadWinder$State" "broken" "Z", .fieldLink RX2 12 "ThreadWinder$State" "wraps" "LThreadWinder$Wraps;", .methodLink RX2 140 yX2_isConeEmpty, .instanceMethod yX2_isConeEmpty, .selects RX2 yX2_isConeEmpty yX2_isConeEmpty, .initialized RX2, .code yX2_isConeEmpty cX2_isConeEmpty 1 (some .boolean), .fieldLink RX2 33 "ThreadWinder$State" "coneLeft" "I", .instanceMethod yX3_isFull, .initialized RX3, .selects RX3 yX3_isFull yX3_isFull, .code yX3_isFull cX3_isFull 1 (some .boolean), .fieldLink RX3 19 "ThreadWinder$Wraps" "tallest" "I"] ++ wsX20 ++ wsX30)
def wsX3_guidePlace : List Cond := .code yX3_guidePlace cX3_guidePlace 1 (some .int) :: ([.fieldLink RX3 22 "ThreadWinder$Wraps" "way" "I"] ++ wsX30)
def wsX3_heightAt : List Cond := .code yX3_heightAt cX3_heightAt 2 (some .int) :: ([.fieldLink RX3 9 "ThreadWinder$Wraps" "heights" "[I"] ++ wsX30)
def wsX3_layWrap : List Cond := .code yX3_layWrap cX3_layWrap 2 none :: ([.fieldLink RX3 9 "ThreadWinder$Wraps" "heights" "[I", .fieldLink RX3 15 "ThreadWinder$Wraps" "laid" "I", .fieldLink RX3 19 "ThreadWinder$Wraps" "tallest" "I", .methodLink RX3 45 Lib.Math.max.name, .static Lib.Math.max.name, .initialized "java/lang/Math", .code Lib.Math.max.name Lib.Math.max.code 2 (some .int), .methodLink RX3 41 yX3_guidePlace, .instanceMethod yX3_guidePlace, .selects RX3 yX3_guidePlace yX3_guidePlace, .initialized RX3, .code yX3_guidePlace cX3_guidePlace 1 (some .int), .fieldLink RX3 22 "ThreadWinder$Wraps" "way" "I"] ++ wsX30)
def wsX2_number : List Cond := .code yX2_number cX2_number 2 (some .int) :: ([.fieldLink RX2 30 "ThreadWinder$State" "numbers" "[I"] ++ wsX20)
def wsX2_tensionAt : List Cond := .code yX2_tensionAt cX2_tensionAt 4 (some .int) :: ([.fieldLink RX2 37 "ThreadWinder$State" "warmth" "I", .fieldLink RX2 44 "ThreadWinder$State" "lastPlace" "I", .fieldLink RX2 12 "ThreadWinder$State" "wraps" "LThreadWinder$Wraps;", .methodLink RX2 120 Lib.Math.abs.name, .static Lib.Math.abs.name, .initialized "java/lang/Math", .code Lib.Math.abs.name Lib.Math.abs.code 1 (some .int), .methodLink RX2 113 yX2_number, .instanceMethod yX2_number, .selects RX2 yX2_number yX2_number, .initialized RX2, .code yX2_number cX2_number 2 (some .int), .fieldLink RX2 30 "ThreadWinder$State" "numbers" "[I", .instanceMethod yX3_heightAt, .initialized RX3, .selects RX3 yX3_heightAt yX3_heightAt, .code yX3_heightAt cX3_heightAt 2 (some .int), .fieldLink RX3 9 "ThreadWinder$Wraps" "heights" "[I"] ++ wsX20 ++ wsX30)
def wsX2_warmDiscs : List Cond := .code yX2_warmDiscs cX2_warmDiscs 1 none :: ([.fieldLink RX2 37 "ThreadWinder$State" "warmth" "I", .methodLink RX2 125 Lib.Math.min.name, .static Lib.Math.min.name, .initialized "java/lang/Math", .code Lib.Math.min.name Lib.Math.min.code 2 (some .int), .methodLink RX2 128 Lib.Math.max.name, .static Lib.Math.max.name, .code Lib.Math.max.name Lib.Math.max.code 2 (some .int), .methodLink RX2 113 yX2_number, .instanceMethod yX2_number, .selects RX2 yX2_number yX2_number, .initialized RX2, .code yX2_number cX2_number 2 (some .int), .fieldLink RX2 30 "ThreadWinder$State" "numbers" "[I"] ++ wsX20)
def wsX4_oneIf : List Cond := .code yX4_oneIf cX4_oneIf 1 (some .int) :: ([])
def wsX3_moveGuide : List Cond := .code yX3_moveGuide cX3_moveGuide 6 none :: ([.fieldLink RX3 22 "ThreadWinder$Wraps" "way" "I", .static yX4_oneIf, .initialized RX4, .code yX4_oneIf cX4_oneIf 1 (some .int)] ++ wsX30)
def wsX2_turnOnce_r1 : List Cond := [Cond.fieldLink RX2 50 "ThreadWinder$State" "turnsDone" "I", Cond.fieldLink RX2 12 "ThreadWinder$State" "wraps" "LThreadWinder$Wraps;", Cond.fieldLink RX2 33 "ThreadWinder$State" "coneLeft" "I", Cond.fieldLink RX2 47 "ThreadWinder$State" "lastTension" "I", Cond.fieldLink RX2 44 "ThreadWinder$State" "lastPlace" "I", Cond.fieldLink RX2 40 "ThreadWinder$State" "broken" "Z", Cond.fieldLink RX2 53 "ThreadWinder$State" "breaks" "I", Cond.methodLink RX2 88 yX2_isIdle, Cond.instanceMethod yX2_isIdle, Cond.selects RX2 yX2_isIdle yX2_isIdle, Cond.initialized RX2, Cond.code yX2_isIdle cX2_isIdle 1 (some .boolean), Cond.methodLink RX2 140 yX2_isConeEmpty, Cond.instanceMethod yX2_isConeEmpty, Cond.selects RX2 yX2_isConeEmpty yX2_isConeEmpty, Cond.code yX2_isConeEmpty cX2_isConeEmpty 1 (some .boolean), Cond.instanceMethod yX3_isFull, Cond.initialized RX3, Cond.selects RX3 yX3_isFull yX3_isFull, Cond.code yX3_isFull cX3_isFull 1 (some .boolean), Cond.fieldLink RX3 19 "ThreadWinder$Wraps" "tallest" "I", Cond.instanceMethod yX3_guidePlace, Cond.selects RX3 yX3_guidePlace yX3_guidePlace, Cond.code yX3_guidePlace cX3_guidePlace 1 (some .int)]
def wsX2_turnOnce_r2 : List Cond := [Cond.fieldLink RX3 22 "ThreadWinder$Wraps" "way" "I", Cond.instanceMethod yX3_heightAt, Cond.selects RX3 yX3_heightAt yX3_heightAt, Cond.code yX3_heightAt cX3_heightAt 2 (some .int), Cond.fieldLink RX3 9 "ThreadWinder$Wraps" "heights" "[I", Cond.instanceMethod yX3_layWrap, Cond.selects RX3 yX3_layWrap yX3_layWrap, Cond.code yX3_layWrap cX3_layWrap 2 none, Cond.fieldLink RX3 15 "ThreadWinder$Wraps" "laid" "I", Cond.methodLink RX3 45 Lib.Math.max.name, Cond.static Lib.Math.max.name, Cond.initialized "java/lang/Math", Cond.code Lib.Math.max.name Lib.Math.max.code 2 (some .int), Cond.methodLink RX3 41 yX3_guidePlace, Cond.methodLink RX2 107 yX2_tensionAt, Cond.instanceMethod yX2_tensionAt, Cond.selects RX2 yX2_tensionAt yX2_tensionAt, Cond.code yX2_tensionAt cX2_tensionAt 4 (some .int), Cond.fieldLink RX2 37 "ThreadWinder$State" "warmth" "I", Cond.methodLink RX2 120 Lib.Math.abs.name, Cond.static Lib.Math.abs.name, Cond.code Lib.Math.abs.name Lib.Math.abs.code 1 (some .int), Cond.methodLink RX2 113 yX2_number, Cond.instanceMethod yX2_number]
def wsX2_turnOnce_r3 : List Cond := [Cond.selects RX2 yX2_number yX2_number, Cond.code yX2_number cX2_number 2 (some .int), Cond.fieldLink RX2 30 "ThreadWinder$State" "numbers" "[I", Cond.methodLink RX2 110 yX2_warmDiscs, Cond.instanceMethod yX2_warmDiscs, Cond.selects RX2 yX2_warmDiscs yX2_warmDiscs, Cond.code yX2_warmDiscs cX2_warmDiscs 1 none, Cond.methodLink RX2 125 Lib.Math.min.name, Cond.static Lib.Math.min.name, Cond.code Lib.Math.min.name Lib.Math.min.code 2 (some .int), Cond.methodLink RX2 128 Lib.Math.max.name, Cond.instanceMethod yX3_moveGuide, Cond.selects RX3 yX3_moveGuide yX3_moveGuide, Cond.code yX3_moveGuide cX3_moveGuide 6 none, Cond.static yX4_oneIf, Cond.initialized RX4, Cond.code yX4_oneIf cX4_oneIf 1 (some .int)]
def wsX2_turnOnce : List Cond := .code yX2_turnOnce cX2_turnOnce 3 none :: ((wsX2_turnOnce_r1 ++ (wsX2_turnOnce_r2 ++ wsX2_turnOnce_r3)) ++ wsX20 ++ wsX30)
def wsX2_turnOften_r1 : List Cond := [Cond.fieldLink RX2 12 "ThreadWinder$State" "wraps" "LThreadWinder$Wraps;", Cond.static yX4_inRange, Cond.initialized RX4, Cond.code yX4_inRange cX4_inRange 2 (some .boolean), Cond.methodLink RX4 158 yX4_lowest, Cond.static yX4_lowest, Cond.code yX4_lowest cX4_lowest 1 (some .int), Cond.fieldLink RX4 216 "ThreadWinder" "LOWEST" "[I", Cond.methodLink RX4 161 yX4_highest, Cond.static yX4_highest, Cond.code yX4_highest cX4_highest 1 (some .int), Cond.fieldLink RX4 220 "ThreadWinder" "HIGHEST" "[I", Cond.methodLink RX2 88 yX2_isIdle, Cond.instanceMethod yX2_isIdle, Cond.selects RX2 yX2_isIdle yX2_isIdle, Cond.initialized RX2, Cond.code yX2_isIdle cX2_isIdle 1 (some .boolean), Cond.fieldLink RX2 40 "ThreadWinder$State" "broken" "Z", Cond.methodLink RX2 140 yX2_isConeEmpty, Cond.instanceMethod yX2_isConeEmpty, Cond.selects RX2 yX2_isConeEmpty yX2_isConeEmpty, Cond.code yX2_isConeEmpty cX2_isConeEmpty 1 (some .boolean), Cond.fieldLink RX2 33 "ThreadWinder$State" "coneLeft" "I", Cond.instanceMethod yX3_isFull]
def wsX2_turnOften_r2 : List Cond := [Cond.initialized RX3, Cond.selects RX3 yX3_isFull yX3_isFull, Cond.code yX3_isFull cX3_isFull 1 (some .boolean), Cond.fieldLink RX3 19 "ThreadWinder$Wraps" "tallest" "I", Cond.methodLink RX2 95 yX2_turnOnce, Cond.instanceMethod yX2_turnOnce, Cond.selects RX2 yX2_turnOnce yX2_turnOnce, Cond.code yX2_turnOnce cX2_turnOnce 3 none, Cond.fieldLink RX2 50 "ThreadWinder$State" "turnsDone" "I", Cond.fieldLink RX2 47 "ThreadWinder$State" "lastTension" "I", Cond.fieldLink RX2 44 "ThreadWinder$State" "lastPlace" "I", Cond.fieldLink RX2 53 "ThreadWinder$State" "breaks" "I", Cond.instanceMethod yX3_guidePlace, Cond.selects RX3 yX3_guidePlace yX3_guidePlace, Cond.code yX3_guidePlace cX3_guidePlace 1 (some .int), Cond.fieldLink RX3 22 "ThreadWinder$Wraps" "way" "I", Cond.instanceMethod yX3_heightAt, Cond.selects RX3 yX3_heightAt yX3_heightAt, Cond.code yX3_heightAt cX3_heightAt 2 (some .int), Cond.fieldLink RX3 9 "ThreadWinder$Wraps" "heights" "[I", Cond.instanceMethod yX3_layWrap, Cond.selects RX3 yX3_layWrap yX3_layWrap, Cond.code yX3_layWrap cX3_layWrap 2 none, Cond.fieldLink RX3 15 "ThreadWinder$Wraps" "laid" "I"]
def wsX2_turnOften_r3 : List Cond := [Cond.methodLink RX3 45 Lib.Math.max.name, Cond.static Lib.Math.max.name, Cond.initialized "java/lang/Math", Cond.code Lib.Math.max.name Lib.Math.max.code 2 (some .int), Cond.methodLink RX3 41 yX3_guidePlace, Cond.methodLink RX2 107 yX2_tensionAt, Cond.instanceMethod yX2_tensionAt, Cond.selects RX2 yX2_tensionAt yX2_tensionAt, Cond.code yX2_tensionAt cX2_tensionAt 4 (some .int), Cond.fieldLink RX2 37 "ThreadWinder$State" "warmth" "I", Cond.methodLink RX2 120 Lib.Math.abs.name, Cond.static Lib.Math.abs.name, Cond.code Lib.Math.abs.name Lib.Math.abs.code 1 (some .int), Cond.methodLink RX2 113 yX2_number, Cond.instanceMethod yX2_number, Cond.selects RX2 yX2_number yX2_number, Cond.code yX2_number cX2_number 2 (some .int), Cond.fieldLink RX2 30 "ThreadWinder$State" "numbers" "[I", Cond.methodLink RX2 110 yX2_warmDiscs, Cond.instanceMethod yX2_warmDiscs, Cond.selects RX2 yX2_warmDiscs yX2_warmDiscs, Cond.code yX2_warmDiscs cX2_warmDiscs 1 none, Cond.methodLink RX2 125 Lib.Math.min.name, Cond.static Lib.Math.min.name]
def wsX2_turnOften_r4 : List Cond := [Cond.code Lib.Math.min.name Lib.Math.min.code 2 (some .int), Cond.methodLink RX2 128 Lib.Math.max.name, Cond.instanceMethod yX3_moveGuide, Cond.selects RX3 yX3_moveGuide yX3_moveGuide, Cond.code yX3_moveGuide cX3_moveGuide 6 none, Cond.static yX4_oneIf, Cond.code yX4_oneIf cX4_oneIf 1 (some .int)]
def wsX2_turnOften : List Cond := .code yX2_turnOften cX2_turnOften 4 (some .int) :: ((wsX2_turnOften_r1 ++ (wsX2_turnOften_r2 ++ (wsX2_turnOften_r3 ++ wsX2_turnOften_r4))) ++ wsX20 ++ wsX30)
def wsX2_tieKnot : List Cond := .code yX2_tieKnot cX2_tieKnot 2 (some .int) :: ([.fieldLink RX2 33 "ThreadWinder$State" "coneLeft" "I", .fieldLink RX2 40 "ThreadWinder$State" "broken" "Z", .fieldLink RX2 44 "ThreadWinder$State" "lastPlace" "I", .fieldLink RX2 18 "ThreadWinder$State" "knots" "[I", .methodLink RX2 113 yX2_number, .instanceMethod yX2_number, .selects RX2 yX2_number yX2_number, .initialized RX2, .code yX2_number cX2_number 2 (some .int), .fieldLink RX2 30 "ThreadWinder$State" "numbers" "[I"] ++ wsX20)
def wsX2_changeCone : List Cond := .code yX2_changeCone cX2_changeCone 3 (some .int) :: ([.fieldLink RX2 33 "ThreadWinder$State" "coneLeft" "I", .fieldLink RX2 12 "ThreadWinder$State" "wraps" "LThreadWinder$Wraps;", .fieldLink RX2 40 "ThreadWinder$State" "broken" "Z", .static yX4_inRange, .initialized RX4, .code yX4_inRange cX4_inRange 2 (some .boolean), .methodLink RX4 158 yX4_lowest, .static yX4_lowest, .code yX4_lowest cX4_lowest 1 (some .int), .fieldLink RX4 216 "ThreadWinder" "LOWEST" "[I", .methodLink RX4 161 yX4_highest, .static yX4_highest, .code yX4_highest cX4_highest 1 (some .int), .fieldLink RX4 220 "ThreadWinder" "HIGHEST" "[I"] ++ wsX20 ++ wsX30)
def wsJ7_fill_53178 : List Cond := .code yJ7_fill_53178 cJ7_fill_53178 4 none :: ([])
def wsX3_clear : List Cond := .code yX3_clear cX3_clear 1 none :: ([.fieldLink RX3 9 "ThreadWinder$Wraps" "heights" "[I", .fieldLink RX3 15 "ThreadWinder$Wraps" "laid" "I", .fieldLink RX3 19 "ThreadWinder$Wraps" "tallest" "I", .fieldLink RX3 22 "ThreadWinder$Wraps" "way" "I", .methodLink RX3 31 yJ7_fill_53178, .static yJ7_fill_53178, .initialized RJ7, .code yJ7_fill_53178 cJ7_fill_53178 4 none] ++ wsX30)
def wsX2_takePackageOff : List Cond := .code yX2_takePackageOff cX2_takePackageOff 2 (some .int) :: ([.fieldLink RX2 12 "ThreadWinder$State" "wraps" "LThreadWinder$Wraps;", .fieldLink RX2 18 "ThreadWinder$State" "knots" "[I", .fieldLink RX2 40 "ThreadWinder$State" "broken" "Z", .fieldLink RX2 44 "ThreadWinder$State" "lastPlace" "I", .fieldLink RX2 47 "ThreadWinder$State" "lastTension" "I", .fieldLink RX2 56 "ThreadWinder$State" "packagesOff" "I", .instanceMethod yX3_clear, .initialized RX3, .selects RX3 yX3_clear yX3_clear, .code yX3_clear cX3_clear 1 none, .fieldLink RX3 9 "ThreadWinder$Wraps" "heights" "[I", .fieldLink RX3 15 "ThreadWinder$Wraps" "laid" "I", .fieldLink RX3 19 "ThreadWinder$Wraps" "tallest" "I", .fieldLink RX3 22 "ThreadWinder$Wraps" "way" "I", .methodLink RX3 31 yJ7_fill_53178, .static yJ7_fill_53178, .initialized RJ7, .code yJ7_fill_53178 cJ7_fill_53178 4 none, .methodLink RX2 134 yJ7_fill_53178] ++ wsX20 ++ wsX30)
def wsX2_knotsAt : List Cond := .code yX2_knotsAt cX2_knotsAt 2 (some .int) :: ([.fieldLink RX2 18 "ThreadWinder$State" "knots" "[I"] ++ wsX20)
def wsX2_isBad : List Cond := .code yX2_isBad cX2_isBad 2 (some .boolean) :: ([.methodLink RX2 146 yX2_knotsAt, .instanceMethod yX2_knotsAt, .selects RX2 yX2_knotsAt yX2_knotsAt, .initialized RX2, .code yX2_knotsAt cX2_knotsAt 2 (some .int), .fieldLink RX2 18 "ThreadWinder$State" "knots" "[I"] ++ wsX20)
def wsX2_hasBadPlace : List Cond := .code yX2_hasBadPlace cX2_hasBadPlace 3 (some .boolean) :: ([.methodLink RX2 149 yX2_isBad, .instanceMethod yX2_isBad, .selects RX2 yX2_isBad yX2_isBad, .initialized RX2, .code yX2_isBad cX2_isBad 2 (some .boolean), .methodLink RX2 146 yX2_knotsAt, .instanceMethod yX2_knotsAt, .selects RX2 yX2_knotsAt yX2_knotsAt, .code yX2_knotsAt cX2_knotsAt 2 (some .int), .fieldLink RX2 18 "ThreadWinder$State" "knots" "[I"] ++ wsX20)
def wsX2_allKnots : List Cond := .code yX2_allKnots cX2_allKnots 6 (some .int) :: ([.fieldLink RX2 18 "ThreadWinder$State" "knots" "[I"] ++ wsX20)
def wsX3_guideGoesBack : List Cond := .code yX3_guideGoesBack cX3_guideGoesBack 1 (some .boolean) :: ([.fieldLink RX3 22 "ThreadWinder$Wraps" "way" "I"] ++ wsX30)
def wsX3_evenness : List Cond := .code yX3_evenness cX3_evenness 6 (some .int) :: ([.fieldLink RX3 19 "ThreadWinder$Wraps" "tallest" "I", .fieldLink RX3 9 "ThreadWinder$Wraps" "heights" "[I", .methodLink RX3 51 Lib.Math.min.name, .static Lib.Math.min.name, .initialized "java/lang/Math", .code Lib.Math.min.name Lib.Math.min.code 2 (some .int)] ++ wsX30)
def wsX3_isRibbonOver : List Cond := .code yX3_isRibbonOver cX3_isRibbonOver 3 (some .boolean) :: ([.methodLink RX3 58 yX3_heightAt, .instanceMethod yX3_heightAt, .selects RX3 yX3_heightAt yX3_heightAt, .initialized RX3, .code yX3_heightAt cX3_heightAt 2 (some .int), .fieldLink RX3 9 "ThreadWinder$Wraps" "heights" "[I"] ++ wsX30)
def wsX3_isRibbon : List Cond := .code yX3_isRibbon cX3_isRibbon 4 (some .boolean) :: ([.methodLink RX3 54 yX3_isRibbonOver, .instanceMethod yX3_isRibbonOver, .selects RX3 yX3_isRibbonOver yX3_isRibbonOver, .initialized RX3, .code yX3_isRibbonOver cX3_isRibbonOver 3 (some .boolean), .methodLink RX3 58 yX3_heightAt, .instanceMethod yX3_heightAt, .selects RX3 yX3_heightAt yX3_heightAt, .code yX3_heightAt cX3_heightAt 2 (some .int), .fieldLink RX3 9 "ThreadWinder$Wraps" "heights" "[I"] ++ wsX30)
def wsX3_ribbons : List Cond := .code yX3_ribbons cX3_ribbons 3 (some .int) :: ([.methodLink RX3 62 yX3_isRibbon, .instanceMethod yX3_isRibbon, .selects RX3 yX3_isRibbon yX3_isRibbon, .initialized RX3, .code yX3_isRibbon cX3_isRibbon 4 (some .boolean), .methodLink RX3 54 yX3_isRibbonOver, .instanceMethod yX3_isRibbonOver, .selects RX3 yX3_isRibbonOver yX3_isRibbonOver, .code yX3_isRibbonOver cX3_isRibbonOver 3 (some .boolean), .methodLink RX3 58 yX3_heightAt, .instanceMethod yX3_heightAt, .selects RX3 yX3_heightAt yX3_heightAt, .code yX3_heightAt cX3_heightAt 2 (some .int), .fieldLink RX3 9 "ThreadWinder$Wraps" "heights" "[I", .static yX4_oneIf, .initialized RX4, .code yX4_oneIf cX4_oneIf 1 (some .int)] ++ wsX30)
def wsX3_barePlaces : List Cond := .code yX3_barePlaces cX3_barePlaces 6 (some .int) :: ([.fieldLink RX3 9 "ThreadWinder$Wraps" "heights" "[I", .static yX4_oneIf, .initialized RX4, .code yX4_oneIf cX4_oneIf 1 (some .int)] ++ wsX30)
def wsX4_init_r1 : List Cond := [Cond.methodLink RX4 3 objectInit, Cond.instanceMethod objectInit, Cond.code objectInit ⟨#[0xb1]⟩ 1 none, Cond.classLink RX4 9 RX2, Cond.instantiable RX2 11, Cond.initialized RX2, Cond.fieldLink RX4 12 "ThreadWinder" "now" "LThreadWinder$State;", Cond.fieldLink RX4 16 "ThreadWinder" "trial" "LThreadWinder$State;", Cond.fieldLink RX4 19 "ThreadWinder" "snapshot" "LThreadWinder$State;", Cond.classLink RX4 22 RX3, Cond.instantiable RX3 4, Cond.initialized RX3, Cond.fieldLink RX4 25 "ThreadWinder" "imagined" "LThreadWinder$Wraps;", Cond.classLink RX4 29 RX1, Cond.instantiable RX1 3, Cond.initialized RX1, Cond.fieldLink RX4 32 "ThreadWinder" "history" "LThreadWinder$History;", Cond.classLink RX4 36 RX0, Cond.instantiable RX0 7, Cond.initialized RX0, Cond.fieldLink RX4 39 "ThreadWinder" "text" "LThreadWinder$CommandText;", Cond.fieldLink RX4 43 "ThreadWinder" "snapshotTaken" "Z", Cond.fieldLink RX4 47 "ThreadWinder" "latestStop" "I", Cond.instanceMethod yX2_init]
def wsX4_init_r2 : List Cond := [Cond.code yX2_init cX2_init 1 none, Cond.methodLink RX2 3 objectInit, Cond.classLink RX2 9 RX3, Cond.fieldLink RX2 12 "ThreadWinder$State" "wraps" "LThreadWinder$Wraps;", Cond.arrayClass .int, Cond.fieldLink RX2 18 "ThreadWinder$State" "knots" "[I", Cond.methodLink RX2 25 ⟨"[I", "clone", "()Ljava/lang/Object;"⟩, Cond.sameMethod "[I" "java/lang/Object" "clone" "()Ljava/lang/Object;", Cond.native ⟨"java/lang/Object", "clone", "()Ljava/lang/Object;"⟩, Cond.instanceMethod ⟨"java/lang/Object", "clone", "()Ljava/lang/Object;"⟩, Cond.selects "[I" ⟨"[I", "clone", "()Ljava/lang/Object;"⟩ ⟨"java/lang/Object", "clone", "()Ljava/lang/Object;"⟩, Cond.classLink RX2 26 "[I", Cond.fieldLink RX2 30 "ThreadWinder$State" "numbers" "[I", Cond.fieldLink RX2 33 "ThreadWinder$State" "coneLeft" "I", Cond.fieldLink RX2 37 "ThreadWinder$State" "warmth" "I", Cond.fieldLink RX2 40 "ThreadWinder$State" "broken" "Z", Cond.fieldLink RX2 44 "ThreadWinder$State" "lastPlace" "I", Cond.fieldLink RX2 47 "ThreadWinder$State" "lastTension" "I", Cond.fieldLink RX2 50 "ThreadWinder$State" "turnsDone" "I", Cond.fieldLink RX2 53 "ThreadWinder$State" "breaks" "I", Cond.fieldLink RX2 56 "ThreadWinder$State" "packagesOff" "I", Cond.instanceMethod yX3_init, Cond.code yX3_init cX3_init 1 none, Cond.methodLink RX3 3 objectInit]
def wsX4_init_r3 : List Cond := [Cond.fieldLink RX3 9 "ThreadWinder$Wraps" "heights" "[I", Cond.fieldLink RX3 15 "ThreadWinder$Wraps" "laid" "I", Cond.fieldLink RX3 19 "ThreadWinder$Wraps" "tallest" "I", Cond.fieldLink RX3 22 "ThreadWinder$Wraps" "way" "I", Cond.instanceMethod yX1_init, Cond.code yX1_init cX1_init 2 none, Cond.methodLink RX1 3 objectInit, Cond.classLink RX1 9 RX2, Cond.fieldLink RX1 11 "ThreadWinder$History" "states" "[LThreadWinder$State;", Cond.fieldLink RX1 17 "ThreadWinder$History" "next" "I", Cond.fieldLink RX1 21 "ThreadWinder$History" "kept" "I", Cond.instanceMethod yX0_init, Cond.code yX0_init cX0_init 1 none, Cond.methodLink RX0 3 objectInit, Cond.arrayClass .char, Cond.fieldLink RX0 9 "ThreadWinder$CommandText" "characters" "[C", Cond.fieldLink RX0 15 "ThreadWinder$CommandText" "kinds" "[I", Cond.fieldLink RX0 19 "ThreadWinder$CommandText" "values" "[I", Cond.fieldLink RX0 22 "ThreadWinder$CommandText" "length" "I", Cond.fieldLink RX0 26 "ThreadWinder$CommandText" "commands" "I", Cond.fieldLink RX0 29 "ThreadWinder$CommandText" "kind" "I", Cond.fieldLink RX0 32 "ThreadWinder$CommandText" "value" "I"]
def wsX4_init : List Cond := .code yX4_init cX4_init 1 none :: ((wsX4_init_r1 ++ (wsX4_init_r2 ++ wsX4_init_r3)) ++ wsX20 ++ wsX40 ++ wsX30 ++ wsX10 ++ wsX00)
def wsX4_finishAct_r1 : List Cond := [Cond.fieldLink RX4 32 "ThreadWinder" "history" "LThreadWinder$History;", Cond.fieldLink RX4 12 "ThreadWinder" "now" "LThreadWinder$State;", Cond.fieldLink RX4 16 "ThreadWinder" "trial" "LThreadWinder$State;", Cond.instanceMethod yX1_remember, Cond.initialized RX1, Cond.selects RX1 yX1_remember yX1_remember, Cond.code yX1_remember cX1_remember 3 none, Cond.fieldLink RX1 17 "ThreadWinder$History" "next" "I", Cond.fieldLink RX1 21 "ThreadWinder$History" "kept" "I", Cond.methodLink RX1 33 Lib.Math.min.name, Cond.static Lib.Math.min.name, Cond.initialized "java/lang/Math", Cond.code Lib.Math.min.name Lib.Math.min.code 2 (some .int), Cond.methodLink RX1 25 yX1_stateAt, Cond.instanceMethod yX1_stateAt, Cond.selects RX1 yX1_stateAt yX1_stateAt, Cond.code yX1_stateAt cX1_stateAt 2 (some (.object "ThreadWinder$State")), Cond.fieldLink RX1 11 "ThreadWinder$History" "states" "[LThreadWinder$State;", Cond.instanceMethod yX2_copyFrom, Cond.initialized RX2, Cond.selects RX2 yX2_copyFrom yX2_copyFrom, Cond.code yX2_copyFrom cX2_copyFrom 2 none, Cond.fieldLink RX2 12 "ThreadWinder$State" "wraps" "LThreadWinder$Wraps;", Cond.fieldLink RX2 18 "ThreadWinder$State" "knots" "[I"]
def wsX4_finishAct_r2 : List Cond := [Cond.methodLink RX2 63 arraycopyName, Cond.native arraycopyName, Cond.static arraycopyName, Cond.initialized "java/lang/System", Cond.fieldLink RX2 30 "ThreadWinder$State" "numbers" "[I", Cond.fieldLink RX2 33 "ThreadWinder$State" "coneLeft" "I", Cond.fieldLink RX2 37 "ThreadWinder$State" "warmth" "I", Cond.fieldLink RX2 40 "ThreadWinder$State" "broken" "Z", Cond.fieldLink RX2 44 "ThreadWinder$State" "lastPlace" "I", Cond.fieldLink RX2 47 "ThreadWinder$State" "lastTension" "I", Cond.fieldLink RX2 50 "ThreadWinder$State" "turnsDone" "I", Cond.fieldLink RX2 53 "ThreadWinder$State" "breaks" "I", Cond.fieldLink RX2 56 "ThreadWinder$State" "packagesOff" "I", Cond.instanceMethod yX3_copyFrom, Cond.initialized RX3, Cond.selects RX3 yX3_copyFrom yX3_copyFrom, Cond.code yX3_copyFrom cX3_copyFrom 2 none, Cond.fieldLink RX3 9 "ThreadWinder$Wraps" "heights" "[I", Cond.methodLink RX3 25 arraycopyName, Cond.fieldLink RX3 15 "ThreadWinder$Wraps" "laid" "I", Cond.fieldLink RX3 19 "ThreadWinder$Wraps" "tallest" "I", Cond.fieldLink RX3 22 "ThreadWinder$Wraps" "way" "I"]
def wsX4_finishAct : List Cond := .code yX4_finishAct cX4_finishAct 2 (some .int) :: ((wsX4_finishAct_r1 ++ wsX4_finishAct_r2) ++ wsX40 ++ wsX10 ++ wsX20 ++ wsX30)
def wsX4_set_r1 : List Cond := [Cond.fieldLink RX4 16 "ThreadWinder" "trial" "LThreadWinder$State;", Cond.fieldLink RX4 12 "ThreadWinder" "now" "LThreadWinder$State;", Cond.instanceMethod yX2_copyFrom, Cond.initialized RX2, Cond.selects RX2 yX2_copyFrom yX2_copyFrom, Cond.code yX2_copyFrom cX2_copyFrom 2 none, Cond.fieldLink RX2 12 "ThreadWinder$State" "wraps" "LThreadWinder$Wraps;", Cond.fieldLink RX2 18 "ThreadWinder$State" "knots" "[I", Cond.methodLink RX2 63 arraycopyName, Cond.native arraycopyName, Cond.static arraycopyName, Cond.initialized "java/lang/System", Cond.fieldLink RX2 30 "ThreadWinder$State" "numbers" "[I", Cond.fieldLink RX2 33 "ThreadWinder$State" "coneLeft" "I", Cond.fieldLink RX2 37 "ThreadWinder$State" "warmth" "I", Cond.fieldLink RX2 40 "ThreadWinder$State" "broken" "Z", Cond.fieldLink RX2 44 "ThreadWinder$State" "lastPlace" "I", Cond.fieldLink RX2 47 "ThreadWinder$State" "lastTension" "I", Cond.fieldLink RX2 50 "ThreadWinder$State" "turnsDone" "I", Cond.fieldLink RX2 53 "ThreadWinder$State" "breaks" "I", Cond.fieldLink RX2 56 "ThreadWinder$State" "packagesOff" "I", Cond.instanceMethod yX3_copyFrom, Cond.initialized RX3, Cond.selects RX3 yX3_copyFrom yX3_copyFrom]
def wsX4_set_r2 : List Cond := [Cond.code yX3_copyFrom cX3_copyFrom 2 none, Cond.fieldLink RX3 9 "ThreadWinder$Wraps" "heights" "[I", Cond.methodLink RX3 25 arraycopyName, Cond.fieldLink RX3 15 "ThreadWinder$Wraps" "laid" "I", Cond.fieldLink RX3 19 "ThreadWinder$Wraps" "tallest" "I", Cond.fieldLink RX3 22 "ThreadWinder$Wraps" "way" "I", Cond.instanceMethod yX2_changeNumber, Cond.selects RX2 yX2_changeNumber yX2_changeNumber, Cond.code yX2_changeNumber cX2_changeNumber 4 (some .int), Cond.static yX4_inRange, Cond.initialized RX4, Cond.code yX4_inRange cX4_inRange 2 (some .boolean), Cond.methodLink RX4 158 yX4_lowest, Cond.static yX4_lowest, Cond.code yX4_lowest cX4_lowest 1 (some .int), Cond.fieldLink RX4 216 "ThreadWinder" "LOWEST" "[I", Cond.methodLink RX4 161 yX4_highest, Cond.static yX4_highest, Cond.code yX4_highest cX4_highest 1 (some .int), Cond.fieldLink RX4 220 "ThreadWinder" "HIGHEST" "[I", Cond.methodLink RX4 59 yX4_finishAct, Cond.instanceMethod yX4_finishAct, Cond.selects RX4 yX4_finishAct yX4_finishAct, Cond.code yX4_finishAct cX4_finishAct 2 (some .int)]
def wsX4_set_r3 : List Cond := [Cond.fieldLink RX4 32 "ThreadWinder" "history" "LThreadWinder$History;", Cond.instanceMethod yX1_remember, Cond.initialized RX1, Cond.selects RX1 yX1_remember yX1_remember, Cond.code yX1_remember cX1_remember 3 none, Cond.fieldLink RX1 17 "ThreadWinder$History" "next" "I", Cond.fieldLink RX1 21 "ThreadWinder$History" "kept" "I", Cond.methodLink RX1 33 Lib.Math.min.name, Cond.static Lib.Math.min.name, Cond.initialized "java/lang/Math", Cond.code Lib.Math.min.name Lib.Math.min.code 2 (some .int), Cond.methodLink RX1 25 yX1_stateAt, Cond.instanceMethod yX1_stateAt, Cond.selects RX1 yX1_stateAt yX1_stateAt, Cond.code yX1_stateAt cX1_stateAt 2 (some (.object "ThreadWinder$State")), Cond.fieldLink RX1 11 "ThreadWinder$History" "states" "[LThreadWinder$State;"]
def wsX4_set : List Cond := .code yX4_set cX4_set 3 (some .int) :: ((wsX4_set_r1 ++ (wsX4_set_r2 ++ wsX4_set_r3)) ++ wsX40 ++ wsX20 ++ wsX30 ++ wsX10)
def wsX4_wind_r1 : List Cond := [Cond.fieldLink RX4 16 "ThreadWinder" "trial" "LThreadWinder$State;", Cond.fieldLink RX4 12 "ThreadWinder" "now" "LThreadWinder$State;", Cond.instanceMethod yX2_copyFrom, Cond.initialized RX2, Cond.selects RX2 yX2_copyFrom yX2_copyFrom, Cond.code yX2_copyFrom cX2_copyFrom 2 none, Cond.fieldLink RX2 12 "ThreadWinder$State" "wraps" "LThreadWinder$Wraps;", Cond.fieldLink RX2 18 "ThreadWinder$State" "knots" "[I", Cond.methodLink RX2 63 arraycopyName, Cond.native arraycopyName, Cond.static arraycopyName, Cond.initialized "java/lang/System", Cond.fieldLink RX2 30 "ThreadWinder$State" "numbers" "[I", Cond.fieldLink RX2 33 "ThreadWinder$State" "coneLeft" "I", Cond.fieldLink RX2 37 "ThreadWinder$State" "warmth" "I", Cond.fieldLink RX2 40 "ThreadWinder$State" "broken" "Z", Cond.fieldLink RX2 44 "ThreadWinder$State" "lastPlace" "I", Cond.fieldLink RX2 47 "ThreadWinder$State" "lastTension" "I", Cond.fieldLink RX2 50 "ThreadWinder$State" "turnsDone" "I", Cond.fieldLink RX2 53 "ThreadWinder$State" "breaks" "I", Cond.fieldLink RX2 56 "ThreadWinder$State" "packagesOff" "I", Cond.instanceMethod yX3_copyFrom, Cond.initialized RX3, Cond.selects RX3 yX3_copyFrom yX3_copyFrom]
def wsX4_wind_r2 : List Cond := [Cond.code yX3_copyFrom cX3_copyFrom 2 none, Cond.fieldLink RX3 9 "ThreadWinder$Wraps" "heights" "[I", Cond.methodLink RX3 25 arraycopyName, Cond.fieldLink RX3 15 "ThreadWinder$Wraps" "laid" "I", Cond.fieldLink RX3 19 "ThreadWinder$Wraps" "tallest" "I", Cond.fieldLink RX3 22 "ThreadWinder$Wraps" "way" "I", Cond.instanceMethod yX2_turnOften, Cond.selects RX2 yX2_turnOften yX2_turnOften, Cond.code yX2_turnOften cX2_turnOften 4 (some .int), Cond.static yX4_inRange, Cond.initialized RX4, Cond.code yX4_inRange cX4_inRange 2 (some .boolean), Cond.methodLink RX4 158 yX4_lowest, Cond.static yX4_lowest, Cond.code yX4_lowest cX4_lowest 1 (some .int), Cond.fieldLink RX4 216 "ThreadWinder" "LOWEST" "[I", Cond.methodLink RX4 161 yX4_highest, Cond.static yX4_highest, Cond.code yX4_highest cX4_highest 1 (some .int), Cond.fieldLink RX4 220 "ThreadWinder" "HIGHEST" "[I", Cond.methodLink RX2 88 yX2_isIdle, Cond.instanceMethod yX2_isIdle, Cond.selects RX2 yX2_isIdle yX2_isIdle, Cond.code yX2_isIdle cX2_isIdle 1 (some .boolean)]
def wsX4_wind_r3 : List Cond := [Cond.methodLink RX2 140 yX2_isConeEmpty, Cond.instanceMethod yX2_isConeEmpty, Cond.selects RX2 yX2_isConeEmpty yX2_isConeEmpty, Cond.code yX2_isConeEmpty cX2_isConeEmpty 1 (some .boolean), Cond.instanceMethod yX3_isFull, Cond.selects RX3 yX3_isFull yX3_isFull, Cond.code yX3_isFull cX3_isFull 1 (some .boolean), Cond.methodLink RX2 95 yX2_turnOnce, Cond.instanceMethod yX2_turnOnce, Cond.selects RX2 yX2_turnOnce yX2_turnOnce, Cond.code yX2_turnOnce cX2_turnOnce 3 none, Cond.instanceMethod yX3_guidePlace, Cond.selects RX3 yX3_guidePlace yX3_guidePlace, Cond.code yX3_guidePlace cX3_guidePlace 1 (some .int), Cond.instanceMethod yX3_heightAt, Cond.selects RX3 yX3_heightAt yX3_heightAt, Cond.code yX3_heightAt cX3_heightAt 2 (some .int), Cond.instanceMethod yX3_layWrap, Cond.selects RX3 yX3_layWrap yX3_layWrap, Cond.code yX3_layWrap cX3_layWrap 2 none, Cond.methodLink RX3 45 Lib.Math.max.name, Cond.static Lib.Math.max.name, Cond.initialized "java/lang/Math", Cond.code Lib.Math.max.name Lib.Math.max.code 2 (some .int)]
def wsX4_wind_r4 : List Cond := [Cond.methodLink RX3 41 yX3_guidePlace, Cond.methodLink RX2 107 yX2_tensionAt, Cond.instanceMethod yX2_tensionAt, Cond.selects RX2 yX2_tensionAt yX2_tensionAt, Cond.code yX2_tensionAt cX2_tensionAt 4 (some .int), Cond.methodLink RX2 120 Lib.Math.abs.name, Cond.static Lib.Math.abs.name, Cond.code Lib.Math.abs.name Lib.Math.abs.code 1 (some .int), Cond.methodLink RX2 113 yX2_number, Cond.instanceMethod yX2_number, Cond.selects RX2 yX2_number yX2_number, Cond.code yX2_number cX2_number 2 (some .int), Cond.methodLink RX2 110 yX2_warmDiscs, Cond.instanceMethod yX2_warmDiscs, Cond.selects RX2 yX2_warmDiscs yX2_warmDiscs, Cond.code yX2_warmDiscs cX2_warmDiscs 1 none, Cond.methodLink RX2 125 Lib.Math.min.name, Cond.static Lib.Math.min.name, Cond.code Lib.Math.min.name Lib.Math.min.code 2 (some .int), Cond.methodLink RX2 128 Lib.Math.max.name, Cond.instanceMethod yX3_moveGuide, Cond.selects RX3 yX3_moveGuide yX3_moveGuide, Cond.code yX3_moveGuide cX3_moveGuide 6 none, Cond.static yX4_oneIf]
def wsX4_wind_r5 : List Cond := [Cond.code yX4_oneIf cX4_oneIf 1 (some .int), Cond.methodLink RX4 59 yX4_finishAct, Cond.instanceMethod yX4_finishAct, Cond.selects RX4 yX4_finishAct yX4_finishAct, Cond.code yX4_finishAct cX4_finishAct 2 (some .int), Cond.fieldLink RX4 32 "ThreadWinder" "history" "LThreadWinder$History;", Cond.instanceMethod yX1_remember, Cond.initialized RX1, Cond.selects RX1 yX1_remember yX1_remember, Cond.code yX1_remember cX1_remember 3 none, Cond.fieldLink RX1 17 "ThreadWinder$History" "next" "I", Cond.fieldLink RX1 21 "ThreadWinder$History" "kept" "I", Cond.methodLink RX1 33 Lib.Math.min.name, Cond.methodLink RX1 25 yX1_stateAt, Cond.instanceMethod yX1_stateAt, Cond.selects RX1 yX1_stateAt yX1_stateAt, Cond.code yX1_stateAt cX1_stateAt 2 (some (.object "ThreadWinder$State")), Cond.fieldLink RX1 11 "ThreadWinder$History" "states" "[LThreadWinder$State;"]
def wsX4_wind : List Cond := .code yX4_wind cX4_wind 2 (some .int) :: ((wsX4_wind_r1 ++ (wsX4_wind_r2 ++ (wsX4_wind_r3 ++ (wsX4_wind_r4 ++ wsX4_wind_r5)))) ++ wsX40 ++ wsX20 ++ wsX30 ++ wsX10)
def wsX4_knot_r1 : List Cond := [Cond.fieldLink RX4 16 "ThreadWinder" "trial" "LThreadWinder$State;", Cond.fieldLink RX4 12 "ThreadWinder" "now" "LThreadWinder$State;", Cond.instanceMethod yX2_copyFrom, Cond.initialized RX2, Cond.selects RX2 yX2_copyFrom yX2_copyFrom, Cond.code yX2_copyFrom cX2_copyFrom 2 none, Cond.fieldLink RX2 12 "ThreadWinder$State" "wraps" "LThreadWinder$Wraps;", Cond.fieldLink RX2 18 "ThreadWinder$State" "knots" "[I", Cond.methodLink RX2 63 arraycopyName, Cond.native arraycopyName, Cond.static arraycopyName, Cond.initialized "java/lang/System", Cond.fieldLink RX2 30 "ThreadWinder$State" "numbers" "[I", Cond.fieldLink RX2 33 "ThreadWinder$State" "coneLeft" "I", Cond.fieldLink RX2 37 "ThreadWinder$State" "warmth" "I", Cond.fieldLink RX2 40 "ThreadWinder$State" "broken" "Z", Cond.fieldLink RX2 44 "ThreadWinder$State" "lastPlace" "I", Cond.fieldLink RX2 47 "ThreadWinder$State" "lastTension" "I", Cond.fieldLink RX2 50 "ThreadWinder$State" "turnsDone" "I", Cond.fieldLink RX2 53 "ThreadWinder$State" "breaks" "I", Cond.fieldLink RX2 56 "ThreadWinder$State" "packagesOff" "I", Cond.instanceMethod yX3_copyFrom, Cond.initialized RX3, Cond.selects RX3 yX3_copyFrom yX3_copyFrom]
def wsX4_knot_r2 : List Cond := [Cond.code yX3_copyFrom cX3_copyFrom 2 none, Cond.fieldLink RX3 9 "ThreadWinder$Wraps" "heights" "[I", Cond.methodLink RX3 25 arraycopyName, Cond.fieldLink RX3 15 "ThreadWinder$Wraps" "laid" "I", Cond.fieldLink RX3 19 "ThreadWinder$Wraps" "tallest" "I", Cond.fieldLink RX3 22 "ThreadWinder$Wraps" "way" "I", Cond.instanceMethod yX2_tieKnot, Cond.selects RX2 yX2_tieKnot yX2_tieKnot, Cond.code yX2_tieKnot cX2_tieKnot 2 (some .int), Cond.methodLink RX2 113 yX2_number, Cond.instanceMethod yX2_number, Cond.selects RX2 yX2_number yX2_number, Cond.code yX2_number cX2_number 2 (some .int), Cond.methodLink RX4 59 yX4_finishAct, Cond.instanceMethod yX4_finishAct, Cond.selects RX4 yX4_finishAct yX4_finishAct, Cond.initialized RX4, Cond.code yX4_finishAct cX4_finishAct 2 (some .int), Cond.fieldLink RX4 32 "ThreadWinder" "history" "LThreadWinder$History;", Cond.instanceMethod yX1_remember, Cond.initialized RX1, Cond.selects RX1 yX1_remember yX1_remember, Cond.code yX1_remember cX1_remember 3 none, Cond.fieldLink RX1 17 "ThreadWinder$History" "next" "I"]
def wsX4_knot_r3 : List Cond := [Cond.fieldLink RX1 21 "ThreadWinder$History" "kept" "I", Cond.methodLink RX1 33 Lib.Math.min.name, Cond.static Lib.Math.min.name, Cond.initialized "java/lang/Math", Cond.code Lib.Math.min.name Lib.Math.min.code 2 (some .int), Cond.methodLink RX1 25 yX1_stateAt, Cond.instanceMethod yX1_stateAt, Cond.selects RX1 yX1_stateAt yX1_stateAt, Cond.code yX1_stateAt cX1_stateAt 2 (some (.object "ThreadWinder$State")), Cond.fieldLink RX1 11 "ThreadWinder$History" "states" "[LThreadWinder$State;"]
def wsX4_knot : List Cond := .code yX4_knot cX4_knot 1 (some .int) :: ((wsX4_knot_r1 ++ (wsX4_knot_r2 ++ wsX4_knot_r3)) ++ wsX40 ++ wsX20 ++ wsX30 ++ wsX10)
def wsX4_cone_r1 : List Cond := [Cond.fieldLink RX4 16 "ThreadWinder" "trial" "LThreadWinder$State;", Cond.fieldLink RX4 12 "ThreadWinder" "now" "LThreadWinder$State;", Cond.instanceMethod yX2_copyFrom, Cond.initialized RX2, Cond.selects RX2 yX2_copyFrom yX2_copyFrom, Cond.code yX2_copyFrom cX2_copyFrom 2 none, Cond.fieldLink RX2 12 "ThreadWinder$State" "wraps" "LThreadWinder$Wraps;", Cond.fieldLink RX2 18 "ThreadWinder$State" "knots" "[I", Cond.methodLink RX2 63 arraycopyName, Cond.native arraycopyName, Cond.static arraycopyName, Cond.initialized "java/lang/System", Cond.fieldLink RX2 30 "ThreadWinder$State" "numbers" "[I", Cond.fieldLink RX2 33 "ThreadWinder$State" "coneLeft" "I", Cond.fieldLink RX2 37 "ThreadWinder$State" "warmth" "I", Cond.fieldLink RX2 40 "ThreadWinder$State" "broken" "Z", Cond.fieldLink RX2 44 "ThreadWinder$State" "lastPlace" "I", Cond.fieldLink RX2 47 "ThreadWinder$State" "lastTension" "I", Cond.fieldLink RX2 50 "ThreadWinder$State" "turnsDone" "I", Cond.fieldLink RX2 53 "ThreadWinder$State" "breaks" "I", Cond.fieldLink RX2 56 "ThreadWinder$State" "packagesOff" "I", Cond.instanceMethod yX3_copyFrom, Cond.initialized RX3, Cond.selects RX3 yX3_copyFrom yX3_copyFrom]
def wsX4_cone_r2 : List Cond := [Cond.code yX3_copyFrom cX3_copyFrom 2 none, Cond.fieldLink RX3 9 "ThreadWinder$Wraps" "heights" "[I", Cond.methodLink RX3 25 arraycopyName, Cond.fieldLink RX3 15 "ThreadWinder$Wraps" "laid" "I", Cond.fieldLink RX3 19 "ThreadWinder$Wraps" "tallest" "I", Cond.fieldLink RX3 22 "ThreadWinder$Wraps" "way" "I", Cond.instanceMethod yX2_changeCone, Cond.selects RX2 yX2_changeCone yX2_changeCone, Cond.code yX2_changeCone cX2_changeCone 3 (some .int), Cond.static yX4_inRange, Cond.initialized RX4, Cond.code yX4_inRange cX4_inRange 2 (some .boolean), Cond.methodLink RX4 158 yX4_lowest, Cond.static yX4_lowest, Cond.code yX4_lowest cX4_lowest 1 (some .int), Cond.fieldLink RX4 216 "ThreadWinder" "LOWEST" "[I", Cond.methodLink RX4 161 yX4_highest, Cond.static yX4_highest, Cond.code yX4_highest cX4_highest 1 (some .int), Cond.fieldLink RX4 220 "ThreadWinder" "HIGHEST" "[I", Cond.methodLink RX4 59 yX4_finishAct, Cond.instanceMethod yX4_finishAct, Cond.selects RX4 yX4_finishAct yX4_finishAct, Cond.code yX4_finishAct cX4_finishAct 2 (some .int)]
def wsX4_cone_r3 : List Cond := [Cond.fieldLink RX4 32 "ThreadWinder" "history" "LThreadWinder$History;", Cond.instanceMethod yX1_remember, Cond.initialized RX1, Cond.selects RX1 yX1_remember yX1_remember, Cond.code yX1_remember cX1_remember 3 none, Cond.fieldLink RX1 17 "ThreadWinder$History" "next" "I", Cond.fieldLink RX1 21 "ThreadWinder$History" "kept" "I", Cond.methodLink RX1 33 Lib.Math.min.name, Cond.static Lib.Math.min.name, Cond.initialized "java/lang/Math", Cond.code Lib.Math.min.name Lib.Math.min.code 2 (some .int), Cond.methodLink RX1 25 yX1_stateAt, Cond.instanceMethod yX1_stateAt, Cond.selects RX1 yX1_stateAt yX1_stateAt, Cond.code yX1_stateAt cX1_stateAt 2 (some (.object "ThreadWinder$State")), Cond.fieldLink RX1 11 "ThreadWinder$History" "states" "[LThreadWinder$State;"]
def wsX4_cone : List Cond := .code yX4_cone cX4_cone 2 (some .int) :: ((wsX4_cone_r1 ++ (wsX4_cone_r2 ++ wsX4_cone_r3)) ++ wsX40 ++ wsX20 ++ wsX30 ++ wsX10)
def wsX4_doff_r1 : List Cond := [Cond.fieldLink RX4 16 "ThreadWinder" "trial" "LThreadWinder$State;", Cond.fieldLink RX4 12 "ThreadWinder" "now" "LThreadWinder$State;", Cond.instanceMethod yX2_copyFrom, Cond.initialized RX2, Cond.selects RX2 yX2_copyFrom yX2_copyFrom, Cond.code yX2_copyFrom cX2_copyFrom 2 none, Cond.fieldLink RX2 12 "ThreadWinder$State" "wraps" "LThreadWinder$Wraps;", Cond.fieldLink RX2 18 "ThreadWinder$State" "knots" "[I", Cond.methodLink RX2 63 arraycopyName, Cond.native arraycopyName, Cond.static arraycopyName, Cond.initialized "java/lang/System", Cond.fieldLink RX2 30 "ThreadWinder$State" "numbers" "[I", Cond.fieldLink RX2 33 "ThreadWinder$State" "coneLeft" "I", Cond.fieldLink RX2 37 "ThreadWinder$State" "warmth" "I", Cond.fieldLink RX2 40 "ThreadWinder$State" "broken" "Z", Cond.fieldLink RX2 44 "ThreadWinder$State" "lastPlace" "I", Cond.fieldLink RX2 47 "ThreadWinder$State" "lastTension" "I", Cond.fieldLink RX2 50 "ThreadWinder$State" "turnsDone" "I", Cond.fieldLink RX2 53 "ThreadWinder$State" "breaks" "I", Cond.fieldLink RX2 56 "ThreadWinder$State" "packagesOff" "I", Cond.instanceMethod yX3_copyFrom, Cond.initialized RX3, Cond.selects RX3 yX3_copyFrom yX3_copyFrom]
def wsX4_doff_r2 : List Cond := [Cond.code yX3_copyFrom cX3_copyFrom 2 none, Cond.fieldLink RX3 9 "ThreadWinder$Wraps" "heights" "[I", Cond.methodLink RX3 25 arraycopyName, Cond.fieldLink RX3 15 "ThreadWinder$Wraps" "laid" "I", Cond.fieldLink RX3 19 "ThreadWinder$Wraps" "tallest" "I", Cond.fieldLink RX3 22 "ThreadWinder$Wraps" "way" "I", Cond.instanceMethod yX2_takePackageOff, Cond.selects RX2 yX2_takePackageOff yX2_takePackageOff, Cond.code yX2_takePackageOff cX2_takePackageOff 2 (some .int), Cond.instanceMethod yX3_clear, Cond.selects RX3 yX3_clear yX3_clear, Cond.code yX3_clear cX3_clear 1 none, Cond.methodLink RX3 31 yJ7_fill_53178, Cond.static yJ7_fill_53178, Cond.initialized RJ7, Cond.code yJ7_fill_53178 cJ7_fill_53178 4 none, Cond.methodLink RX2 134 yJ7_fill_53178, Cond.methodLink RX4 59 yX4_finishAct, Cond.instanceMethod yX4_finishAct, Cond.selects RX4 yX4_finishAct yX4_finishAct, Cond.initialized RX4, Cond.code yX4_finishAct cX4_finishAct 2 (some .int), Cond.fieldLink RX4 32 "ThreadWinder" "history" "LThreadWinder$History;", Cond.instanceMethod yX1_remember]
def wsX4_doff_r3 : List Cond := [Cond.initialized RX1, Cond.selects RX1 yX1_remember yX1_remember, Cond.code yX1_remember cX1_remember 3 none, Cond.fieldLink RX1 17 "ThreadWinder$History" "next" "I", Cond.fieldLink RX1 21 "ThreadWinder$History" "kept" "I", Cond.methodLink RX1 33 Lib.Math.min.name, Cond.static Lib.Math.min.name, Cond.initialized "java/lang/Math", Cond.code Lib.Math.min.name Lib.Math.min.code 2 (some .int), Cond.methodLink RX1 25 yX1_stateAt, Cond.instanceMethod yX1_stateAt, Cond.selects RX1 yX1_stateAt yX1_stateAt, Cond.code yX1_stateAt cX1_stateAt 2 (some (.object "ThreadWinder$State")), Cond.fieldLink RX1 11 "ThreadWinder$History" "states" "[LThreadWinder$State;"]
def wsX4_doff : List Cond := .code yX4_doff cX4_doff 1 (some .int) :: ((wsX4_doff_r1 ++ (wsX4_doff_r2 ++ wsX4_doff_r3)) ++ wsX40 ++ wsX20 ++ wsX30 ++ wsX10)
def wsX4_place_r1 : List Cond := [Cond.fieldLink RX4 12 "ThreadWinder" "now" "LThreadWinder$State;", Cond.instanceMethod yX3_heightAt, Cond.initialized RX3, Cond.selects RX3 yX3_heightAt yX3_heightAt, Cond.code yX3_heightAt cX3_heightAt 2 (some .int), Cond.fieldLink RX3 9 "ThreadWinder$Wraps" "heights" "[I", Cond.instanceMethod yX2_knotsAt, Cond.initialized RX2, Cond.selects RX2 yX2_knotsAt yX2_knotsAt, Cond.code yX2_knotsAt cX2_knotsAt 2 (some .int), Cond.fieldLink RX2 18 "ThreadWinder$State" "knots" "[I", Cond.instanceMethod yX3_isRibbon, Cond.selects RX3 yX3_isRibbon yX3_isRibbon, Cond.code yX3_isRibbon cX3_isRibbon 4 (some .boolean), Cond.methodLink RX3 54 yX3_isRibbonOver, Cond.instanceMethod yX3_isRibbonOver, Cond.selects RX3 yX3_isRibbonOver yX3_isRibbonOver, Cond.code yX3_isRibbonOver cX3_isRibbonOver 3 (some .boolean), Cond.methodLink RX3 58 yX3_heightAt, Cond.methodLink RX4 118 yX4_oneIf, Cond.static yX4_oneIf, Cond.initialized RX4, Cond.code yX4_oneIf cX4_oneIf 1 (some .int), Cond.instanceMethod yX2_isBad]
def wsX4_place_r2 : List Cond := [Cond.selects RX2 yX2_isBad yX2_isBad, Cond.code yX2_isBad cX2_isBad 2 (some .boolean), Cond.methodLink RX2 146 yX2_knotsAt]
def wsX4_place : List Cond := .code yX4_place cX4_place 3 (some .int) :: ((wsX4_place_r1 ++ wsX4_place_r2) ++ wsX40 ++ wsX20 ++ wsX30)
def wsX4_wrong_r1 : List Cond := [Cond.fieldLink RX4 12 "ThreadWinder" "now" "LThreadWinder$State;", Cond.instanceMethod yX2_isConeEmpty, Cond.initialized RX2, Cond.selects RX2 yX2_isConeEmpty yX2_isConeEmpty, Cond.code yX2_isConeEmpty cX2_isConeEmpty 1 (some .boolean), Cond.fieldLink RX2 33 "ThreadWinder$State" "coneLeft" "I", Cond.instanceMethod yX2_hasBadPlace, Cond.selects RX2 yX2_hasBadPlace yX2_hasBadPlace, Cond.code yX2_hasBadPlace cX2_hasBadPlace 3 (some .boolean), Cond.methodLink RX2 149 yX2_isBad, Cond.instanceMethod yX2_isBad, Cond.selects RX2 yX2_isBad yX2_isBad, Cond.code yX2_isBad cX2_isBad 2 (some .boolean), Cond.methodLink RX2 146 yX2_knotsAt, Cond.instanceMethod yX2_knotsAt, Cond.selects RX2 yX2_knotsAt yX2_knotsAt, Cond.code yX2_knotsAt cX2_knotsAt 2 (some .int), Cond.fieldLink RX2 18 "ThreadWinder$State" "knots" "[I", Cond.instanceMethod yX3_ribbons, Cond.initialized RX3, Cond.selects RX3 yX3_ribbons yX3_ribbons, Cond.code yX3_ribbons cX3_ribbons 3 (some .int), Cond.methodLink RX3 62 yX3_isRibbon, Cond.instanceMethod yX3_isRibbon]
def wsX4_wrong_r2 : List Cond := [Cond.selects RX3 yX3_isRibbon yX3_isRibbon, Cond.code yX3_isRibbon cX3_isRibbon 4 (some .boolean), Cond.methodLink RX3 54 yX3_isRibbonOver, Cond.instanceMethod yX3_isRibbonOver, Cond.selects RX3 yX3_isRibbonOver yX3_isRibbonOver, Cond.code yX3_isRibbonOver cX3_isRibbonOver 3 (some .boolean), Cond.methodLink RX3 58 yX3_heightAt, Cond.instanceMethod yX3_heightAt, Cond.selects RX3 yX3_heightAt yX3_heightAt, Cond.code yX3_heightAt cX3_heightAt 2 (some .int), Cond.fieldLink RX3 9 "ThreadWinder$Wraps" "heights" "[I", Cond.static yX4_oneIf, Cond.initialized RX4, Cond.code yX4_oneIf cX4_oneIf 1 (some .int), Cond.instanceMethod yX3_evenness, Cond.selects RX3 yX3_evenness yX3_evenness, Cond.code yX3_evenness cX3_evenness 6 (some .int), Cond.fieldLink RX3 19 "ThreadWinder$Wraps" "tallest" "I", Cond.methodLink RX3 51 Lib.Math.min.name, Cond.static Lib.Math.min.name, Cond.initialized "java/lang/Math", Cond.code Lib.Math.min.name Lib.Math.min.code 2 (some .int)]
def wsX4_wrong : List Cond := .code yX4_wrong cX4_wrong 1 (some .int) :: ((wsX4_wrong_r1 ++ wsX4_wrong_r2) ++ wsX40 ++ wsX20 ++ wsX30)
def wsX4_breaksIn_r1 : List Cond := [Cond.fieldLink RX4 12 "ThreadWinder" "now" "LThreadWinder$State;", Cond.fieldLink RX4 16 "ThreadWinder" "trial" "LThreadWinder$State;", Cond.instanceMethod yX2_isConeEmpty, Cond.initialized RX2, Cond.selects RX2 yX2_isConeEmpty yX2_isConeEmpty, Cond.code yX2_isConeEmpty cX2_isConeEmpty 1 (some .boolean), Cond.fieldLink RX2 33 "ThreadWinder$State" "coneLeft" "I", Cond.instanceMethod yX2_copyFrom, Cond.selects RX2 yX2_copyFrom yX2_copyFrom, Cond.code yX2_copyFrom cX2_copyFrom 2 none, Cond.fieldLink RX2 12 "ThreadWinder$State" "wraps" "LThreadWinder$Wraps;", Cond.fieldLink RX2 18 "ThreadWinder$State" "knots" "[I", Cond.methodLink RX2 63 arraycopyName, Cond.native arraycopyName, Cond.static arraycopyName, Cond.initialized "java/lang/System", Cond.fieldLink RX2 30 "ThreadWinder$State" "numbers" "[I", Cond.fieldLink RX2 37 "ThreadWinder$State" "warmth" "I", Cond.fieldLink RX2 40 "ThreadWinder$State" "broken" "Z", Cond.fieldLink RX2 44 "ThreadWinder$State" "lastPlace" "I", Cond.fieldLink RX2 47 "ThreadWinder$State" "lastTension" "I", Cond.fieldLink RX2 50 "ThreadWinder$State" "turnsDone" "I", Cond.fieldLink RX2 53 "ThreadWinder$State" "breaks" "I", Cond.fieldLink RX2 56 "ThreadWinder$State" "packagesOff" "I"]
def wsX4_breaksIn_r2 : List Cond := [Cond.instanceMethod yX3_copyFrom, Cond.initialized RX3, Cond.selects RX3 yX3_copyFrom yX3_copyFrom, Cond.code yX3_copyFrom cX3_copyFrom 2 none, Cond.fieldLink RX3 9 "ThreadWinder$Wraps" "heights" "[I", Cond.methodLink RX3 25 arraycopyName, Cond.fieldLink RX3 15 "ThreadWinder$Wraps" "laid" "I", Cond.fieldLink RX3 19 "ThreadWinder$Wraps" "tallest" "I", Cond.fieldLink RX3 22 "ThreadWinder$Wraps" "way" "I", Cond.instanceMethod yX2_isIdle, Cond.selects RX2 yX2_isIdle yX2_isIdle, Cond.code yX2_isIdle cX2_isIdle 1 (some .boolean), Cond.methodLink RX2 140 yX2_isConeEmpty, Cond.instanceMethod yX3_isFull, Cond.selects RX3 yX3_isFull yX3_isFull, Cond.code yX3_isFull cX3_isFull 1 (some .boolean), Cond.instanceMethod yX2_turnOnce, Cond.selects RX2 yX2_turnOnce yX2_turnOnce, Cond.code yX2_turnOnce cX2_turnOnce 3 none, Cond.methodLink RX2 88 yX2_isIdle, Cond.instanceMethod yX3_guidePlace, Cond.selects RX3 yX3_guidePlace yX3_guidePlace, Cond.code yX3_guidePlace cX3_guidePlace 1 (some .int), Cond.instanceMethod yX3_heightAt]
def wsX4_breaksIn_r3 : List Cond := [Cond.selects RX3 yX3_heightAt yX3_heightAt, Cond.code yX3_heightAt cX3_heightAt 2 (some .int), Cond.instanceMethod yX3_layWrap, Cond.selects RX3 yX3_layWrap yX3_layWrap, Cond.code yX3_layWrap cX3_layWrap 2 none, Cond.methodLink RX3 45 Lib.Math.max.name, Cond.static Lib.Math.max.name, Cond.initialized "java/lang/Math", Cond.code Lib.Math.max.name Lib.Math.max.code 2 (some .int), Cond.methodLink RX3 41 yX3_guidePlace, Cond.methodLink RX2 107 yX2_tensionAt, Cond.instanceMethod yX2_tensionAt, Cond.selects RX2 yX2_tensionAt yX2_tensionAt, Cond.code yX2_tensionAt cX2_tensionAt 4 (some .int), Cond.methodLink RX2 120 Lib.Math.abs.name, Cond.static Lib.Math.abs.name, Cond.code Lib.Math.abs.name Lib.Math.abs.code 1 (some .int), Cond.methodLink RX2 113 yX2_number, Cond.instanceMethod yX2_number, Cond.selects RX2 yX2_number yX2_number, Cond.code yX2_number cX2_number 2 (some .int), Cond.methodLink RX2 110 yX2_warmDiscs, Cond.instanceMethod yX2_warmDiscs, Cond.selects RX2 yX2_warmDiscs yX2_warmDiscs]
def wsX4_breaksIn_r4 : List Cond := [Cond.code yX2_warmDiscs cX2_warmDiscs 1 none, Cond.methodLink RX2 125 Lib.Math.min.name, Cond.static Lib.Math.min.name, Cond.code Lib.Math.min.name Lib.Math.min.code 2 (some .int), Cond.methodLink RX2 128 Lib.Math.max.name, Cond.instanceMethod yX3_moveGuide, Cond.selects RX3 yX3_moveGuide yX3_moveGuide, Cond.code yX3_moveGuide cX3_moveGuide 6 none, Cond.static yX4_oneIf, Cond.initialized RX4, Cond.code yX4_oneIf cX4_oneIf 1 (some .int)]
def wsX4_breaksIn : List Cond := .code yX4_breaksIn cX4_breaksIn 2 (some .int) :: ((wsX4_breaksIn_r1 ++ (wsX4_breaksIn_r2 ++ (wsX4_breaksIn_r3 ++ wsX4_breaksIn_r4))) ++ wsX40 ++ wsX20 ++ wsX30)
def wsX4_imagine_r1 : List Cond := [Cond.fieldLink RX4 25 "ThreadWinder" "imagined" "LThreadWinder$Wraps;", Cond.fieldLink RX4 12 "ThreadWinder" "now" "LThreadWinder$State;", Cond.instanceMethod yX3_clear, Cond.initialized RX3, Cond.selects RX3 yX3_clear yX3_clear, Cond.code yX3_clear cX3_clear 1 none, Cond.fieldLink RX3 9 "ThreadWinder$Wraps" "heights" "[I", Cond.fieldLink RX3 15 "ThreadWinder$Wraps" "laid" "I", Cond.fieldLink RX3 19 "ThreadWinder$Wraps" "tallest" "I", Cond.fieldLink RX3 22 "ThreadWinder$Wraps" "way" "I", Cond.methodLink RX3 31 yJ7_fill_53178, Cond.static yJ7_fill_53178, Cond.initialized RJ7, Cond.code yJ7_fill_53178 cJ7_fill_53178 4 none, Cond.instanceMethod yX3_isFull, Cond.selects RX3 yX3_isFull yX3_isFull, Cond.code yX3_isFull cX3_isFull 1 (some .boolean), Cond.instanceMethod yX3_layWrap, Cond.selects RX3 yX3_layWrap yX3_layWrap, Cond.code yX3_layWrap cX3_layWrap 2 none, Cond.methodLink RX3 45 Lib.Math.max.name, Cond.static Lib.Math.max.name, Cond.initialized "java/lang/Math", Cond.code Lib.Math.max.name Lib.Math.max.code 2 (some .int)]
def wsX4_imagine_r2 : List Cond := [Cond.methodLink RX3 41 yX3_guidePlace, Cond.instanceMethod yX3_guidePlace, Cond.selects RX3 yX3_guidePlace yX3_guidePlace, Cond.code yX3_guidePlace cX3_guidePlace 1 (some .int), Cond.instanceMethod yX2_number, Cond.initialized RX2, Cond.selects RX2 yX2_number yX2_number, Cond.code yX2_number cX2_number 2 (some .int), Cond.fieldLink RX2 30 "ThreadWinder$State" "numbers" "[I", Cond.instanceMethod yX3_moveGuide, Cond.selects RX3 yX3_moveGuide yX3_moveGuide, Cond.code yX3_moveGuide cX3_moveGuide 6 none, Cond.static yX4_oneIf, Cond.initialized RX4, Cond.code yX4_oneIf cX4_oneIf 1 (some .int)]
def wsX4_imagine : List Cond := .code yX4_imagine cX4_imagine 4 none :: ((wsX4_imagine_r1 ++ wsX4_imagine_r2) ++ wsX40 ++ wsX30 ++ wsX20)
def wsX4_ifTraverse_r1 : List Cond := [Cond.fieldLink RX4 25 "ThreadWinder" "imagined" "LThreadWinder$Wraps;", Cond.methodLink RX4 147 yX4_inRange, Cond.static yX4_inRange, Cond.initialized RX4, Cond.code yX4_inRange cX4_inRange 2 (some .boolean), Cond.methodLink RX4 158 yX4_lowest, Cond.static yX4_lowest, Cond.code yX4_lowest cX4_lowest 1 (some .int), Cond.fieldLink RX4 216 "ThreadWinder" "LOWEST" "[I", Cond.methodLink RX4 161 yX4_highest, Cond.static yX4_highest, Cond.code yX4_highest cX4_highest 1 (some .int), Cond.fieldLink RX4 220 "ThreadWinder" "HIGHEST" "[I", Cond.methodLink RX4 151 yX4_imagine, Cond.instanceMethod yX4_imagine, Cond.selects RX4 yX4_imagine yX4_imagine, Cond.code yX4_imagine cX4_imagine 4 none, Cond.fieldLink RX4 12 "ThreadWinder" "now" "LThreadWinder$State;", Cond.instanceMethod yX3_clear, Cond.initialized RX3, Cond.selects RX3 yX3_clear yX3_clear, Cond.code yX3_clear cX3_clear 1 none, Cond.fieldLink RX3 9 "ThreadWinder$Wraps" "heights" "[I", Cond.fieldLink RX3 15 "ThreadWinder$Wraps" "laid" "I"]
def wsX4_ifTraverse_r2 : List Cond := [Cond.fieldLink RX3 19 "ThreadWinder$Wraps" "tallest" "I", Cond.fieldLink RX3 22 "ThreadWinder$Wraps" "way" "I", Cond.methodLink RX3 31 yJ7_fill_53178, Cond.static yJ7_fill_53178, Cond.initialized RJ7, Cond.code yJ7_fill_53178 cJ7_fill_53178 4 none, Cond.instanceMethod yX3_isFull, Cond.selects RX3 yX3_isFull yX3_isFull, Cond.code yX3_isFull cX3_isFull 1 (some .boolean), Cond.instanceMethod yX3_layWrap, Cond.selects RX3 yX3_layWrap yX3_layWrap, Cond.code yX3_layWrap cX3_layWrap 2 none, Cond.methodLink RX3 45 Lib.Math.max.name, Cond.static Lib.Math.max.name, Cond.initialized "java/lang/Math", Cond.code Lib.Math.max.name Lib.Math.max.code 2 (some .int), Cond.methodLink RX3 41 yX3_guidePlace, Cond.instanceMethod yX3_guidePlace, Cond.selects RX3 yX3_guidePlace yX3_guidePlace, Cond.code yX3_guidePlace cX3_guidePlace 1 (some .int), Cond.instanceMethod yX2_number, Cond.initialized RX2, Cond.selects RX2 yX2_number yX2_number, Cond.code yX2_number cX2_number 2 (some .int)]
def wsX4_ifTraverse_r3 : List Cond := [Cond.fieldLink RX2 30 "ThreadWinder$State" "numbers" "[I", Cond.instanceMethod yX3_moveGuide, Cond.selects RX3 yX3_moveGuide yX3_moveGuide, Cond.code yX3_moveGuide cX3_moveGuide 6 none, Cond.static yX4_oneIf, Cond.code yX4_oneIf cX4_oneIf 1 (some .int), Cond.instanceMethod yX3_evenness, Cond.selects RX3 yX3_evenness yX3_evenness, Cond.code yX3_evenness cX3_evenness 6 (some .int), Cond.methodLink RX3 51 Lib.Math.min.name, Cond.static Lib.Math.min.name, Cond.code Lib.Math.min.name Lib.Math.min.code 2 (some .int), Cond.instanceMethod yX3_ribbons, Cond.selects RX3 yX3_ribbons yX3_ribbons, Cond.code yX3_ribbons cX3_ribbons 3 (some .int), Cond.methodLink RX3 62 yX3_isRibbon, Cond.instanceMethod yX3_isRibbon, Cond.selects RX3 yX3_isRibbon yX3_isRibbon, Cond.code yX3_isRibbon cX3_isRibbon 4 (some .boolean), Cond.methodLink RX3 54 yX3_isRibbonOver, Cond.instanceMethod yX3_isRibbonOver, Cond.selects RX3 yX3_isRibbonOver yX3_isRibbonOver, Cond.code yX3_isRibbonOver cX3_isRibbonOver 3 (some .boolean), Cond.methodLink RX3 58 yX3_heightAt]
def wsX4_ifTraverse_r4 : List Cond := [Cond.instanceMethod yX3_heightAt, Cond.selects RX3 yX3_heightAt yX3_heightAt, Cond.code yX3_heightAt cX3_heightAt 2 (some .int), Cond.instanceMethod yX3_barePlaces, Cond.selects RX3 yX3_barePlaces yX3_barePlaces, Cond.code yX3_barePlaces cX3_barePlaces 6 (some .int)]
def wsX4_ifTraverse : List Cond := .code yX4_ifTraverse cX4_ifTraverse 4 (some .int) :: ((wsX4_ifTraverse_r1 ++ (wsX4_ifTraverse_r2 ++ (wsX4_ifTraverse_r3 ++ wsX4_ifTraverse_r4))) ++ wsX40 ++ wsX30 ++ wsX20)
def wsX4_bestTraverse_r1 : List Cond := [Cond.fieldLink RX4 25 "ThreadWinder" "imagined" "LThreadWinder$Wraps;", Cond.methodLink RX4 147 yX4_inRange, Cond.static yX4_inRange, Cond.initialized RX4, Cond.code yX4_inRange cX4_inRange 2 (some .boolean), Cond.methodLink RX4 158 yX4_lowest, Cond.static yX4_lowest, Cond.code yX4_lowest cX4_lowest 1 (some .int), Cond.fieldLink RX4 216 "ThreadWinder" "LOWEST" "[I", Cond.methodLink RX4 161 yX4_highest, Cond.static yX4_highest, Cond.code yX4_highest cX4_highest 1 (some .int), Cond.fieldLink RX4 220 "ThreadWinder" "HIGHEST" "[I", Cond.methodLink RX4 151 yX4_imagine, Cond.instanceMethod yX4_imagine, Cond.selects RX4 yX4_imagine yX4_imagine, Cond.code yX4_imagine cX4_imagine 4 none, Cond.fieldLink RX4 12 "ThreadWinder" "now" "LThreadWinder$State;", Cond.instanceMethod yX3_clear, Cond.initialized RX3, Cond.selects RX3 yX3_clear yX3_clear, Cond.code yX3_clear cX3_clear 1 none, Cond.fieldLink RX3 9 "ThreadWinder$Wraps" "heights" "[I", Cond.fieldLink RX3 15 "ThreadWinder$Wraps" "laid" "I"]
def wsX4_bestTraverse_r2 : List Cond := [Cond.fieldLink RX3 19 "ThreadWinder$Wraps" "tallest" "I", Cond.fieldLink RX3 22 "ThreadWinder$Wraps" "way" "I", Cond.methodLink RX3 31 yJ7_fill_53178, Cond.static yJ7_fill_53178, Cond.initialized RJ7, Cond.code yJ7_fill_53178 cJ7_fill_53178 4 none, Cond.instanceMethod yX3_isFull, Cond.selects RX3 yX3_isFull yX3_isFull, Cond.code yX3_isFull cX3_isFull 1 (some .boolean), Cond.instanceMethod yX3_layWrap, Cond.selects RX3 yX3_layWrap yX3_layWrap, Cond.code yX3_layWrap cX3_layWrap 2 none, Cond.methodLink RX3 45 Lib.Math.max.name, Cond.static Lib.Math.max.name, Cond.initialized "java/lang/Math", Cond.code Lib.Math.max.name Lib.Math.max.code 2 (some .int), Cond.methodLink RX3 41 yX3_guidePlace, Cond.instanceMethod yX3_guidePlace, Cond.selects RX3 yX3_guidePlace yX3_guidePlace, Cond.code yX3_guidePlace cX3_guidePlace 1 (some .int), Cond.instanceMethod yX2_number, Cond.initialized RX2, Cond.selects RX2 yX2_number yX2_number, Cond.code yX2_number cX2_number 2 (some .int)]
def wsX4_bestTraverse_r3 : List Cond := [Cond.fieldLink RX2 30 "ThreadWinder$State" "numbers" "[I", Cond.instanceMethod yX3_moveGuide, Cond.selects RX3 yX3_moveGuide yX3_moveGuide, Cond.code yX3_moveGuide cX3_moveGuide 6 none, Cond.static yX4_oneIf, Cond.code yX4_oneIf cX4_oneIf 1 (some .int), Cond.instanceMethod yX3_evenness, Cond.selects RX3 yX3_evenness yX3_evenness, Cond.code yX3_evenness cX3_evenness 6 (some .int), Cond.methodLink RX3 51 Lib.Math.min.name, Cond.static Lib.Math.min.name, Cond.code Lib.Math.min.name Lib.Math.min.code 2 (some .int)]
def wsX4_bestTraverse : List Cond := .code yX4_bestTraverse cX4_bestTraverse 6 (some .int) :: ((wsX4_bestTraverse_r1 ++ (wsX4_bestTraverse_r2 ++ wsX4_bestTraverse_r3)) ++ wsX40 ++ wsX30 ++ wsX20)
def wsX4_period : List Cond := .code yX4_period cX4_period 3 (some .int) :: ([.methodLink RX4 147 yX4_inRange, .static yX4_inRange, .initialized RX4, .code yX4_inRange cX4_inRange 2 (some .boolean), .methodLink RX4 158 yX4_lowest, .static yX4_lowest, .code yX4_lowest cX4_lowest 1 (some .int), .fieldLink RX4 216 "ThreadWinder" "LOWEST" "[I", .methodLink RX4 161 yX4_highest, .static yX4_highest, .code yX4_highest cX4_highest 1 (some .int), .fieldLink RX4 220 "ThreadWinder" "HIGHEST" "[I"])
def wsX4_count_r1 : List Cond := [Cond.fieldLink RX4 12 "ThreadWinder" "now" "LThreadWinder$State;", Cond.fieldLink RX4 32 "ThreadWinder" "history" "LThreadWinder$History;", Cond.fieldLink RX4 39 "ThreadWinder" "text" "LThreadWinder$CommandText;", Cond.instanceMethod yX3_guidePlace, Cond.initialized RX3, Cond.selects RX3 yX3_guidePlace yX3_guidePlace, Cond.code yX3_guidePlace cX3_guidePlace 1 (some .int), Cond.fieldLink RX3 22 "ThreadWinder$Wraps" "way" "I", Cond.instanceMethod yX3_guideGoesBack, Cond.selects RX3 yX3_guideGoesBack yX3_guideGoesBack, Cond.code yX3_guideGoesBack cX3_guideGoesBack 1 (some .boolean), Cond.methodLink RX4 118 yX4_oneIf, Cond.static yX4_oneIf, Cond.initialized RX4, Cond.code yX4_oneIf cX4_oneIf 1 (some .int), Cond.instanceMethod yX2_isConeEmpty, Cond.initialized RX2, Cond.selects RX2 yX2_isConeEmpty yX2_isConeEmpty, Cond.code yX2_isConeEmpty cX2_isConeEmpty 1 (some .boolean), Cond.fieldLink RX2 33 "ThreadWinder$State" "coneLeft" "I", Cond.instanceMethod yX3_isFull, Cond.selects RX3 yX3_isFull yX3_isFull, Cond.code yX3_isFull cX3_isFull 1 (some .boolean), Cond.fieldLink RX3 19 "ThreadWinder$Wraps" "tallest" "I"]
def wsX4_count_r2 : List Cond := [Cond.instanceMethod yX3_evenness, Cond.selects RX3 yX3_evenness yX3_evenness, Cond.code yX3_evenness cX3_evenness 6 (some .int), Cond.fieldLink RX3 9 "ThreadWinder$Wraps" "heights" "[I", Cond.methodLink RX3 51 Lib.Math.min.name, Cond.static Lib.Math.min.name, Cond.initialized "java/lang/Math", Cond.code Lib.Math.min.name Lib.Math.min.code 2 (some .int), Cond.instanceMethod yX3_ribbons, Cond.selects RX3 yX3_ribbons yX3_ribbons, Cond.code yX3_ribbons cX3_ribbons 3 (some .int), Cond.methodLink RX3 62 yX3_isRibbon, Cond.instanceMethod yX3_isRibbon, Cond.selects RX3 yX3_isRibbon yX3_isRibbon, Cond.code yX3_isRibbon cX3_isRibbon 4 (some .boolean), Cond.methodLink RX3 54 yX3_isRibbonOver, Cond.instanceMethod yX3_isRibbonOver, Cond.selects RX3 yX3_isRibbonOver yX3_isRibbonOver, Cond.code yX3_isRibbonOver cX3_isRibbonOver 3 (some .boolean), Cond.methodLink RX3 58 yX3_heightAt, Cond.instanceMethod yX3_heightAt, Cond.selects RX3 yX3_heightAt yX3_heightAt, Cond.code yX3_heightAt cX3_heightAt 2 (some .int), Cond.instanceMethod yX2_allKnots]
def wsX4_count_r3 : List Cond := [Cond.selects RX2 yX2_allKnots yX2_allKnots, Cond.code yX2_allKnots cX2_allKnots 6 (some .int), Cond.fieldLink RX2 18 "ThreadWinder$State" "knots" "[I", Cond.instanceMethod yX2_number, Cond.selects RX2 yX2_number yX2_number, Cond.code yX2_number cX2_number 2 (some .int), Cond.fieldLink RX2 30 "ThreadWinder$State" "numbers" "[I"]
def wsX4_count : List Cond := .code yX4_count cX4_count 2 (some .int) :: ((wsX4_count_r1 ++ (wsX4_count_r2 ++ wsX4_count_r3)) ++ wsX40 ++ wsX20 ++ wsX30 ++ wsX10 ++ wsX00)
def wsJ9_abs_0f7a4 : List Cond := .code yJ9_abs_0f7a4 cJ9_abs_0f7a4 1 (some .int) :: ([])
def wsJ9_max_7cf53 : List Cond := .code yJ9_max_7cf53 cJ9_max_7cf53 2 (some .int) :: ([])
def wsJ9_min_7cf53 : List Cond := .code yJ9_min_7cf53 cJ9_min_7cf53 2 (some .int) :: ([])
def wsL_cell : List Cond := .code yL_cell cL_cell 2 (some .int) :: ([.constant RL 7 (2059654633)])
def wsL_up : List Cond := .code yL_up cL_up 2 (some .int) :: ([.constant RL 8 (2147483647)])
def wsL_isRound_r1 : List Cond := [Cond.methodLink RL 45 yX4_period, Cond.instanceMethod yX4_period, Cond.selects RX4 yX4_period yX4_period, Cond.initialized RX4, Cond.code yX4_period cX4_period 3 (some .int), Cond.methodLink RX4 147 yX4_inRange, Cond.static yX4_inRange, Cond.code yX4_inRange cX4_inRange 2 (some .boolean), Cond.methodLink RX4 158 yX4_lowest, Cond.static yX4_lowest, Cond.code yX4_lowest cX4_lowest 1 (some .int), Cond.fieldLink RX4 216 "ThreadWinder" "LOWEST" "[I", Cond.methodLink RX4 161 yX4_highest, Cond.static yX4_highest, Cond.code yX4_highest cX4_highest 1 (some .int), Cond.fieldLink RX4 220 "ThreadWinder" "HIGHEST" "[I", Cond.methodLink RL 9 yX4_count, Cond.instanceMethod yX4_count, Cond.selects RX4 yX4_count yX4_count, Cond.code yX4_count cX4_count 2 (some .int), Cond.fieldLink RX4 12 "ThreadWinder" "now" "LThreadWinder$State;", Cond.fieldLink RX4 32 "ThreadWinder" "history" "LThreadWinder$History;", Cond.fieldLink RX4 39 "ThreadWinder" "text" "LThreadWinder$CommandText;", Cond.instanceMethod yX3_guidePlace]
def wsL_isRound_r2 : List Cond := [Cond.initialized RX3, Cond.selects RX3 yX3_guidePlace yX3_guidePlace, Cond.code yX3_guidePlace cX3_guidePlace 1 (some .int), Cond.fieldLink RX3 22 "ThreadWinder$Wraps" "way" "I", Cond.instanceMethod yX3_guideGoesBack, Cond.selects RX3 yX3_guideGoesBack yX3_guideGoesBack, Cond.code yX3_guideGoesBack cX3_guideGoesBack 1 (some .boolean), Cond.methodLink RX4 118 yX4_oneIf, Cond.static yX4_oneIf, Cond.code yX4_oneIf cX4_oneIf 1 (some .int), Cond.instanceMethod yX2_isConeEmpty, Cond.initialized RX2, Cond.selects RX2 yX2_isConeEmpty yX2_isConeEmpty, Cond.code yX2_isConeEmpty cX2_isConeEmpty 1 (some .boolean), Cond.fieldLink RX2 33 "ThreadWinder$State" "coneLeft" "I", Cond.instanceMethod yX3_isFull, Cond.selects RX3 yX3_isFull yX3_isFull, Cond.code yX3_isFull cX3_isFull 1 (some .boolean), Cond.fieldLink RX3 19 "ThreadWinder$Wraps" "tallest" "I", Cond.instanceMethod yX3_evenness, Cond.selects RX3 yX3_evenness yX3_evenness, Cond.code yX3_evenness cX3_evenness 6 (some .int), Cond.fieldLink RX3 9 "ThreadWinder$Wraps" "heights" "[I", Cond.methodLink RX3 51 Lib.Math.min.name]
def wsL_isRound_r3 : List Cond := [Cond.static Lib.Math.min.name, Cond.initialized "java/lang/Math", Cond.code Lib.Math.min.name Lib.Math.min.code 2 (some .int), Cond.instanceMethod yX3_ribbons, Cond.selects RX3 yX3_ribbons yX3_ribbons, Cond.code yX3_ribbons cX3_ribbons 3 (some .int), Cond.methodLink RX3 62 yX3_isRibbon, Cond.instanceMethod yX3_isRibbon, Cond.selects RX3 yX3_isRibbon yX3_isRibbon, Cond.code yX3_isRibbon cX3_isRibbon 4 (some .boolean), Cond.methodLink RX3 54 yX3_isRibbonOver, Cond.instanceMethod yX3_isRibbonOver, Cond.selects RX3 yX3_isRibbonOver yX3_isRibbonOver, Cond.code yX3_isRibbonOver cX3_isRibbonOver 3 (some .boolean), Cond.methodLink RX3 58 yX3_heightAt, Cond.instanceMethod yX3_heightAt, Cond.selects RX3 yX3_heightAt yX3_heightAt, Cond.code yX3_heightAt cX3_heightAt 2 (some .int), Cond.instanceMethod yX2_allKnots, Cond.selects RX2 yX2_allKnots yX2_allKnots, Cond.code yX2_allKnots cX2_allKnots 6 (some .int), Cond.fieldLink RX2 18 "ThreadWinder$State" "knots" "[I", Cond.instanceMethod yX2_number, Cond.selects RX2 yX2_number yX2_number]
def wsL_isRound_r4 : List Cond := [Cond.code yX2_number cX2_number 2 (some .int), Cond.fieldLink RX2 30 "ThreadWinder$State" "numbers" "[I", Cond.methodLink RL 37 yX4_ifTraverse, Cond.instanceMethod yX4_ifTraverse, Cond.selects RX4 yX4_ifTraverse yX4_ifTraverse, Cond.code yX4_ifTraverse cX4_ifTraverse 4 (some .int), Cond.fieldLink RX4 25 "ThreadWinder" "imagined" "LThreadWinder$Wraps;", Cond.methodLink RX4 151 yX4_imagine, Cond.instanceMethod yX4_imagine, Cond.selects RX4 yX4_imagine yX4_imagine, Cond.code yX4_imagine cX4_imagine 4 none, Cond.instanceMethod yX3_clear, Cond.selects RX3 yX3_clear yX3_clear, Cond.code yX3_clear cX3_clear 1 none, Cond.fieldLink RX3 15 "ThreadWinder$Wraps" "laid" "I", Cond.methodLink RX3 31 yJ7_fill_53178, Cond.static yJ7_fill_53178, Cond.initialized RJ7, Cond.code yJ7_fill_53178 cJ7_fill_53178 4 none, Cond.instanceMethod yX3_layWrap, Cond.selects RX3 yX3_layWrap yX3_layWrap, Cond.code yX3_layWrap cX3_layWrap 2 none, Cond.methodLink RX3 45 Lib.Math.max.name, Cond.static Lib.Math.max.name]
def wsL_isRound_r5 : List Cond := [Cond.code Lib.Math.max.name Lib.Math.max.code 2 (some .int), Cond.methodLink RX3 41 yX3_guidePlace, Cond.instanceMethod yX3_moveGuide, Cond.selects RX3 yX3_moveGuide yX3_moveGuide, Cond.code yX3_moveGuide cX3_moveGuide 6 none, Cond.instanceMethod yX3_barePlaces, Cond.selects RX3 yX3_barePlaces yX3_barePlaces, Cond.code yX3_barePlaces cX3_barePlaces 6 (some .int), Cond.methodLink RL 48 yX4_bestTraverse, Cond.instanceMethod yX4_bestTraverse, Cond.selects RX4 yX4_bestTraverse yX4_bestTraverse, Cond.code yX4_bestTraverse cX4_bestTraverse 6 (some .int)]
def wsL_isRound : List Cond := .code yL_isRound cL_isRound 5 (some .boolean) :: ((wsL_isRound_r1 ++ (wsL_isRound_r2 ++ (wsL_isRound_r3 ++ (wsL_isRound_r4 ++ wsL_isRound_r5)))) ++ wsX40 ++ wsX20 ++ wsX30 ++ wsX10 ++ wsX00)
def wsL_isStep_r1 : List Cond := [Cond.methodLink RL 9 yX4_count, Cond.instanceMethod yX4_count, Cond.selects RX4 yX4_count yX4_count, Cond.initialized RX4, Cond.code yX4_count cX4_count 2 (some .int), Cond.fieldLink RX4 12 "ThreadWinder" "now" "LThreadWinder$State;", Cond.fieldLink RX4 32 "ThreadWinder" "history" "LThreadWinder$History;", Cond.fieldLink RX4 39 "ThreadWinder" "text" "LThreadWinder$CommandText;", Cond.instanceMethod yX3_guidePlace, Cond.initialized RX3, Cond.selects RX3 yX3_guidePlace yX3_guidePlace, Cond.code yX3_guidePlace cX3_guidePlace 1 (some .int), Cond.fieldLink RX3 22 "ThreadWinder$Wraps" "way" "I", Cond.instanceMethod yX3_guideGoesBack, Cond.selects RX3 yX3_guideGoesBack yX3_guideGoesBack, Cond.code yX3_guideGoesBack cX3_guideGoesBack 1 (some .boolean), Cond.methodLink RX4 118 yX4_oneIf, Cond.static yX4_oneIf, Cond.code yX4_oneIf cX4_oneIf 1 (some .int), Cond.instanceMethod yX2_isConeEmpty, Cond.initialized RX2, Cond.selects RX2 yX2_isConeEmpty yX2_isConeEmpty, Cond.code yX2_isConeEmpty cX2_isConeEmpty 1 (some .boolean), Cond.fieldLink RX2 33 "ThreadWinder$State" "coneLeft" "I"]
def wsL_isStep_r2 : List Cond := [Cond.instanceMethod yX3_isFull, Cond.selects RX3 yX3_isFull yX3_isFull, Cond.code yX3_isFull cX3_isFull 1 (some .boolean), Cond.fieldLink RX3 19 "ThreadWinder$Wraps" "tallest" "I", Cond.instanceMethod yX3_evenness, Cond.selects RX3 yX3_evenness yX3_evenness, Cond.code yX3_evenness cX3_evenness 6 (some .int), Cond.fieldLink RX3 9 "ThreadWinder$Wraps" "heights" "[I", Cond.methodLink RX3 51 Lib.Math.min.name, Cond.static Lib.Math.min.name, Cond.initialized "java/lang/Math", Cond.code Lib.Math.min.name Lib.Math.min.code 2 (some .int), Cond.instanceMethod yX3_ribbons, Cond.selects RX3 yX3_ribbons yX3_ribbons, Cond.code yX3_ribbons cX3_ribbons 3 (some .int), Cond.methodLink RX3 62 yX3_isRibbon, Cond.instanceMethod yX3_isRibbon, Cond.selects RX3 yX3_isRibbon yX3_isRibbon, Cond.code yX3_isRibbon cX3_isRibbon 4 (some .boolean), Cond.methodLink RX3 54 yX3_isRibbonOver, Cond.instanceMethod yX3_isRibbonOver, Cond.selects RX3 yX3_isRibbonOver yX3_isRibbonOver, Cond.code yX3_isRibbonOver cX3_isRibbonOver 3 (some .boolean), Cond.methodLink RX3 58 yX3_heightAt]
def wsL_isStep_r3 : List Cond := [Cond.instanceMethod yX3_heightAt, Cond.selects RX3 yX3_heightAt yX3_heightAt, Cond.code yX3_heightAt cX3_heightAt 2 (some .int), Cond.instanceMethod yX2_allKnots, Cond.selects RX2 yX2_allKnots yX2_allKnots, Cond.code yX2_allKnots cX2_allKnots 6 (some .int), Cond.fieldLink RX2 18 "ThreadWinder$State" "knots" "[I", Cond.instanceMethod yX2_number, Cond.selects RX2 yX2_number yX2_number, Cond.code yX2_number cX2_number 2 (some .int), Cond.fieldLink RX2 30 "ThreadWinder$State" "numbers" "[I", Cond.methodLink RL 15 yL_up, Cond.static yL_up, Cond.initialized RL, Cond.code yL_up cL_up 2 (some .int), Cond.constant RL 8 (2147483647), Cond.methodLink RL 21 yX4_wind, Cond.instanceMethod yX4_wind, Cond.selects RX4 yX4_wind yX4_wind, Cond.code yX4_wind cX4_wind 2 (some .int), Cond.fieldLink RX4 16 "ThreadWinder" "trial" "LThreadWinder$State;", Cond.instanceMethod yX2_copyFrom, Cond.selects RX2 yX2_copyFrom yX2_copyFrom, Cond.code yX2_copyFrom cX2_copyFrom 2 none]
def wsL_isStep_r4 : List Cond := [Cond.fieldLink RX2 12 "ThreadWinder$State" "wraps" "LThreadWinder$Wraps;", Cond.methodLink RX2 63 arraycopyName, Cond.native arraycopyName, Cond.static arraycopyName, Cond.initialized "java/lang/System", Cond.fieldLink RX2 37 "ThreadWinder$State" "warmth" "I", Cond.fieldLink RX2 40 "ThreadWinder$State" "broken" "Z", Cond.fieldLink RX2 44 "ThreadWinder$State" "lastPlace" "I", Cond.fieldLink RX2 47 "ThreadWinder$State" "lastTension" "I", Cond.fieldLink RX2 50 "ThreadWinder$State" "turnsDone" "I", Cond.fieldLink RX2 53 "ThreadWinder$State" "breaks" "I", Cond.fieldLink RX2 56 "ThreadWinder$State" "packagesOff" "I", Cond.instanceMethod yX3_copyFrom, Cond.selects RX3 yX3_copyFrom yX3_copyFrom, Cond.code yX3_copyFrom cX3_copyFrom 2 none, Cond.methodLink RX3 25 arraycopyName, Cond.fieldLink RX3 15 "ThreadWinder$Wraps" "laid" "I", Cond.instanceMethod yX2_turnOften, Cond.selects RX2 yX2_turnOften yX2_turnOften, Cond.code yX2_turnOften cX2_turnOften 4 (some .int), Cond.static yX4_inRange, Cond.code yX4_inRange cX4_inRange 2 (some .boolean), Cond.methodLink RX4 158 yX4_lowest, Cond.static yX4_lowest]
def wsL_isStep_r5 : List Cond := [Cond.code yX4_lowest cX4_lowest 1 (some .int), Cond.fieldLink RX4 216 "ThreadWinder" "LOWEST" "[I", Cond.methodLink RX4 161 yX4_highest, Cond.static yX4_highest, Cond.code yX4_highest cX4_highest 1 (some .int), Cond.fieldLink RX4 220 "ThreadWinder" "HIGHEST" "[I", Cond.methodLink RX2 88 yX2_isIdle, Cond.instanceMethod yX2_isIdle, Cond.selects RX2 yX2_isIdle yX2_isIdle, Cond.code yX2_isIdle cX2_isIdle 1 (some .boolean), Cond.methodLink RX2 140 yX2_isConeEmpty, Cond.methodLink RX2 95 yX2_turnOnce, Cond.instanceMethod yX2_turnOnce, Cond.selects RX2 yX2_turnOnce yX2_turnOnce, Cond.code yX2_turnOnce cX2_turnOnce 3 none, Cond.instanceMethod yX3_layWrap, Cond.selects RX3 yX3_layWrap yX3_layWrap, Cond.code yX3_layWrap cX3_layWrap 2 none, Cond.methodLink RX3 45 Lib.Math.max.name, Cond.static Lib.Math.max.name, Cond.code Lib.Math.max.name Lib.Math.max.code 2 (some .int), Cond.methodLink RX3 41 yX3_guidePlace, Cond.methodLink RX2 107 yX2_tensionAt, Cond.instanceMethod yX2_tensionAt]
def wsL_isStep_r6 : List Cond := [Cond.selects RX2 yX2_tensionAt yX2_tensionAt, Cond.code yX2_tensionAt cX2_tensionAt 4 (some .int), Cond.methodLink RX2 120 Lib.Math.abs.name, Cond.static Lib.Math.abs.name, Cond.code Lib.Math.abs.name Lib.Math.abs.code 1 (some .int), Cond.methodLink RX2 113 yX2_number, Cond.methodLink RX2 110 yX2_warmDiscs, Cond.instanceMethod yX2_warmDiscs, Cond.selects RX2 yX2_warmDiscs yX2_warmDiscs, Cond.code yX2_warmDiscs cX2_warmDiscs 1 none, Cond.methodLink RX2 125 Lib.Math.min.name, Cond.methodLink RX2 128 Lib.Math.max.name, Cond.instanceMethod yX3_moveGuide, Cond.selects RX3 yX3_moveGuide yX3_moveGuide, Cond.code yX3_moveGuide cX3_moveGuide 6 none, Cond.methodLink RX4 59 yX4_finishAct, Cond.instanceMethod yX4_finishAct, Cond.selects RX4 yX4_finishAct yX4_finishAct, Cond.code yX4_finishAct cX4_finishAct 2 (some .int), Cond.instanceMethod yX1_remember, Cond.initialized RX1, Cond.selects RX1 yX1_remember yX1_remember, Cond.code yX1_remember cX1_remember 3 none, Cond.fieldLink RX1 17 "ThreadWinder$History" "next" "I"]
def wsL_isStep_r7 : List Cond := [Cond.fieldLink RX1 21 "ThreadWinder$History" "kept" "I", Cond.methodLink RX1 33 Lib.Math.min.name, Cond.methodLink RX1 25 yX1_stateAt, Cond.instanceMethod yX1_stateAt, Cond.selects RX1 yX1_stateAt yX1_stateAt, Cond.code yX1_stateAt cX1_stateAt 2 (some (.object "ThreadWinder$State")), Cond.fieldLink RX1 11 "ThreadWinder$History" "states" "[LThreadWinder$State;", Cond.methodLink RL 24 yX4_set, Cond.instanceMethod yX4_set, Cond.selects RX4 yX4_set yX4_set, Cond.code yX4_set cX4_set 3 (some .int), Cond.instanceMethod yX2_changeNumber, Cond.selects RX2 yX2_changeNumber yX2_changeNumber, Cond.code yX2_changeNumber cX2_changeNumber 4 (some .int), Cond.methodLink RL 27 yX4_knot, Cond.instanceMethod yX4_knot, Cond.selects RX4 yX4_knot yX4_knot, Cond.code yX4_knot cX4_knot 1 (some .int), Cond.instanceMethod yX2_tieKnot, Cond.selects RX2 yX2_tieKnot yX2_tieKnot, Cond.code yX2_tieKnot cX2_tieKnot 2 (some .int), Cond.methodLink RL 31 yX4_cone, Cond.instanceMethod yX4_cone, Cond.selects RX4 yX4_cone yX4_cone]
def wsL_isStep_r8 : List Cond := [Cond.code yX4_cone cX4_cone 2 (some .int), Cond.instanceMethod yX2_changeCone, Cond.selects RX2 yX2_changeCone yX2_changeCone, Cond.code yX2_changeCone cX2_changeCone 3 (some .int), Cond.methodLink RL 34 yX4_doff, Cond.instanceMethod yX4_doff, Cond.selects RX4 yX4_doff yX4_doff, Cond.code yX4_doff cX4_doff 1 (some .int), Cond.instanceMethod yX2_takePackageOff, Cond.selects RX2 yX2_takePackageOff yX2_takePackageOff, Cond.code yX2_takePackageOff cX2_takePackageOff 2 (some .int), Cond.instanceMethod yX3_clear, Cond.selects RX3 yX3_clear yX3_clear, Cond.code yX3_clear cX3_clear 1 none, Cond.methodLink RX3 31 yJ7_fill_53178, Cond.static yJ7_fill_53178, Cond.initialized RJ7, Cond.code yJ7_fill_53178 cJ7_fill_53178 4 none, Cond.methodLink RX2 134 yJ7_fill_53178, Cond.methodLink RL 37 yX4_ifTraverse, Cond.instanceMethod yX4_ifTraverse, Cond.selects RX4 yX4_ifTraverse yX4_ifTraverse, Cond.code yX4_ifTraverse cX4_ifTraverse 4 (some .int), Cond.fieldLink RX4 25 "ThreadWinder" "imagined" "LThreadWinder$Wraps;"]
def wsL_isStep_r9 : List Cond := [Cond.methodLink RX4 147 yX4_inRange, Cond.methodLink RX4 151 yX4_imagine, Cond.instanceMethod yX4_imagine, Cond.selects RX4 yX4_imagine yX4_imagine, Cond.code yX4_imagine cX4_imagine 4 none, Cond.instanceMethod yX3_barePlaces, Cond.selects RX3 yX3_barePlaces yX3_barePlaces, Cond.code yX3_barePlaces cX3_barePlaces 6 (some .int), Cond.methodLink RL 41 yL_isRound, Cond.static yL_isRound, Cond.code yL_isRound cL_isRound 5 (some .boolean), Cond.methodLink RL 45 yX4_period, Cond.instanceMethod yX4_period, Cond.selects RX4 yX4_period yX4_period, Cond.code yX4_period cX4_period 3 (some .int), Cond.methodLink RL 48 yX4_bestTraverse, Cond.instanceMethod yX4_bestTraverse, Cond.selects RX4 yX4_bestTraverse yX4_bestTraverse, Cond.code yX4_bestTraverse cX4_bestTraverse 6 (some .int)]
def wsL_isStep : List Cond := .code yL_isStep cL_isStep 16 (some .boolean) :: ((wsL_isStep_r1 ++ (wsL_isStep_r2 ++ (wsL_isStep_r3 ++ (wsL_isStep_r4 ++ (wsL_isStep_r5 ++ (wsL_isStep_r6 ++ (wsL_isStep_r7 ++ (wsL_isStep_r8 ++ wsL_isStep_r9)))))))) ++ wsX40 ++ wsX20 ++ wsX30 ++ wsX10 ++ wsX00)
def wsL_areAlike_r1 : List Cond := [Cond.methodLink RL 51 yX4_wrong, Cond.instanceMethod yX4_wrong, Cond.selects RX4 yX4_wrong yX4_wrong, Cond.initialized RX4, Cond.code yX4_wrong cX4_wrong 1 (some .int), Cond.fieldLink RX4 12 "ThreadWinder" "now" "LThreadWinder$State;", Cond.instanceMethod yX2_isConeEmpty, Cond.initialized RX2, Cond.selects RX2 yX2_isConeEmpty yX2_isConeEmpty, Cond.code yX2_isConeEmpty cX2_isConeEmpty 1 (some .boolean), Cond.fieldLink RX2 33 "ThreadWinder$State" "coneLeft" "I", Cond.instanceMethod yX2_hasBadPlace, Cond.selects RX2 yX2_hasBadPlace yX2_hasBadPlace, Cond.code yX2_hasBadPlace cX2_hasBadPlace 3 (some .boolean), Cond.methodLink RX2 149 yX2_isBad, Cond.instanceMethod yX2_isBad, Cond.selects RX2 yX2_isBad yX2_isBad, Cond.code yX2_isBad cX2_isBad 2 (some .boolean), Cond.methodLink RX2 146 yX2_knotsAt, Cond.instanceMethod yX2_knotsAt, Cond.selects RX2 yX2_knotsAt yX2_knotsAt, Cond.code yX2_knotsAt cX2_knotsAt 2 (some .int), Cond.fieldLink RX2 18 "ThreadWinder$State" "knots" "[I", Cond.instanceMethod yX3_ribbons]
def wsL_areAlike_r2 : List Cond := [Cond.initialized RX3, Cond.selects RX3 yX3_ribbons yX3_ribbons, Cond.code yX3_ribbons cX3_ribbons 3 (some .int), Cond.methodLink RX3 62 yX3_isRibbon, Cond.instanceMethod yX3_isRibbon, Cond.selects RX3 yX3_isRibbon yX3_isRibbon, Cond.code yX3_isRibbon cX3_isRibbon 4 (some .boolean), Cond.methodLink RX3 54 yX3_isRibbonOver, Cond.instanceMethod yX3_isRibbonOver, Cond.selects RX3 yX3_isRibbonOver yX3_isRibbonOver, Cond.code yX3_isRibbonOver cX3_isRibbonOver 3 (some .boolean), Cond.methodLink RX3 58 yX3_heightAt, Cond.instanceMethod yX3_heightAt, Cond.selects RX3 yX3_heightAt yX3_heightAt, Cond.code yX3_heightAt cX3_heightAt 2 (some .int), Cond.fieldLink RX3 9 "ThreadWinder$Wraps" "heights" "[I", Cond.static yX4_oneIf, Cond.code yX4_oneIf cX4_oneIf 1 (some .int), Cond.instanceMethod yX3_evenness, Cond.selects RX3 yX3_evenness yX3_evenness, Cond.code yX3_evenness cX3_evenness 6 (some .int), Cond.fieldLink RX3 19 "ThreadWinder$Wraps" "tallest" "I", Cond.methodLink RX3 51 Lib.Math.min.name, Cond.static Lib.Math.min.name]
def wsL_areAlike_r3 : List Cond := [Cond.initialized "java/lang/Math", Cond.code Lib.Math.min.name Lib.Math.min.code 2 (some .int), Cond.methodLink RL 54 yX4_breaksIn, Cond.instanceMethod yX4_breaksIn, Cond.selects RX4 yX4_breaksIn yX4_breaksIn, Cond.code yX4_breaksIn cX4_breaksIn 2 (some .int), Cond.fieldLink RX4 16 "ThreadWinder" "trial" "LThreadWinder$State;", Cond.instanceMethod yX2_copyFrom, Cond.selects RX2 yX2_copyFrom yX2_copyFrom, Cond.code yX2_copyFrom cX2_copyFrom 2 none, Cond.fieldLink RX2 12 "ThreadWinder$State" "wraps" "LThreadWinder$Wraps;", Cond.methodLink RX2 63 arraycopyName, Cond.native arraycopyName, Cond.static arraycopyName, Cond.initialized "java/lang/System", Cond.fieldLink RX2 30 "ThreadWinder$State" "numbers" "[I", Cond.fieldLink RX2 37 "ThreadWinder$State" "warmth" "I", Cond.fieldLink RX2 40 "ThreadWinder$State" "broken" "Z", Cond.fieldLink RX2 44 "ThreadWinder$State" "lastPlace" "I", Cond.fieldLink RX2 47 "ThreadWinder$State" "lastTension" "I", Cond.fieldLink RX2 50 "ThreadWinder$State" "turnsDone" "I", Cond.fieldLink RX2 53 "ThreadWinder$State" "breaks" "I", Cond.fieldLink RX2 56 "ThreadWinder$State" "packagesOff" "I", Cond.instanceMethod yX3_copyFrom]
def wsL_areAlike_r4 : List Cond := [Cond.selects RX3 yX3_copyFrom yX3_copyFrom, Cond.code yX3_copyFrom cX3_copyFrom 2 none, Cond.methodLink RX3 25 arraycopyName, Cond.fieldLink RX3 15 "ThreadWinder$Wraps" "laid" "I", Cond.fieldLink RX3 22 "ThreadWinder$Wraps" "way" "I", Cond.instanceMethod yX2_isIdle, Cond.selects RX2 yX2_isIdle yX2_isIdle, Cond.code yX2_isIdle cX2_isIdle 1 (some .boolean), Cond.methodLink RX2 140 yX2_isConeEmpty, Cond.instanceMethod yX3_isFull, Cond.selects RX3 yX3_isFull yX3_isFull, Cond.code yX3_isFull cX3_isFull 1 (some .boolean), Cond.instanceMethod yX2_turnOnce, Cond.selects RX2 yX2_turnOnce yX2_turnOnce, Cond.code yX2_turnOnce cX2_turnOnce 3 none, Cond.methodLink RX2 88 yX2_isIdle, Cond.instanceMethod yX3_guidePlace, Cond.selects RX3 yX3_guidePlace yX3_guidePlace, Cond.code yX3_guidePlace cX3_guidePlace 1 (some .int), Cond.instanceMethod yX3_layWrap, Cond.selects RX3 yX3_layWrap yX3_layWrap, Cond.code yX3_layWrap cX3_layWrap 2 none, Cond.methodLink RX3 45 Lib.Math.max.name, Cond.static Lib.Math.max.name]
def wsL_areAlike_r5 : List Cond := [Cond.code Lib.Math.max.name Lib.Math.max.code 2 (some .int), Cond.methodLink RX3 41 yX3_guidePlace, Cond.methodLink RX2 107 yX2_tensionAt, Cond.instanceMethod yX2_tensionAt, Cond.selects RX2 yX2_tensionAt yX2_tensionAt, Cond.code yX2_tensionAt cX2_tensionAt 4 (some .int), Cond.methodLink RX2 120 Lib.Math.abs.name, Cond.static Lib.Math.abs.name, Cond.code Lib.Math.abs.name Lib.Math.abs.code 1 (some .int), Cond.methodLink RX2 113 yX2_number, Cond.instanceMethod yX2_number, Cond.selects RX2 yX2_number yX2_number, Cond.code yX2_number cX2_number 2 (some .int), Cond.methodLink RX2 110 yX2_warmDiscs, Cond.instanceMethod yX2_warmDiscs, Cond.selects RX2 yX2_warmDiscs yX2_warmDiscs, Cond.code yX2_warmDiscs cX2_warmDiscs 1 none, Cond.methodLink RX2 125 Lib.Math.min.name, Cond.methodLink RX2 128 Lib.Math.max.name, Cond.instanceMethod yX3_moveGuide, Cond.selects RX3 yX3_moveGuide yX3_moveGuide, Cond.code yX3_moveGuide cX3_moveGuide 6 none, Cond.methodLink RL 9 yX4_count, Cond.instanceMethod yX4_count]
def wsL_areAlike_r6 : List Cond := [Cond.selects RX4 yX4_count yX4_count, Cond.code yX4_count cX4_count 2 (some .int), Cond.fieldLink RX4 32 "ThreadWinder" "history" "LThreadWinder$History;", Cond.fieldLink RX4 39 "ThreadWinder" "text" "LThreadWinder$CommandText;", Cond.instanceMethod yX3_guideGoesBack, Cond.selects RX3 yX3_guideGoesBack yX3_guideGoesBack, Cond.code yX3_guideGoesBack cX3_guideGoesBack 1 (some .boolean), Cond.methodLink RX4 118 yX4_oneIf, Cond.instanceMethod yX2_allKnots, Cond.selects RX2 yX2_allKnots yX2_allKnots, Cond.code yX2_allKnots cX2_allKnots 6 (some .int), Cond.methodLink RL 57 yX4_place, Cond.instanceMethod yX4_place, Cond.selects RX4 yX4_place yX4_place, Cond.code yX4_place cX4_place 3 (some .int)]
def wsL_areAlike : List Cond := .code yL_areAlike cL_areAlike 5 (some .boolean) :: ((wsL_areAlike_r1 ++ (wsL_areAlike_r2 ++ (wsL_areAlike_r3 ++ (wsL_areAlike_r4 ++ (wsL_areAlike_r5 ++ wsL_areAlike_r6))))) ++ wsX40 ++ wsX20 ++ wsX30 ++ wsX10 ++ wsX00)
def wsL_isWell_r1 : List Cond := [Cond.methodLink RL 57 yX4_place, Cond.instanceMethod yX4_place, Cond.selects RX4 yX4_place yX4_place, Cond.initialized RX4, Cond.code yX4_place cX4_place 3 (some .int), Cond.fieldLink RX4 12 "ThreadWinder" "now" "LThreadWinder$State;", Cond.instanceMethod yX3_heightAt, Cond.initialized RX3, Cond.selects RX3 yX3_heightAt yX3_heightAt, Cond.code yX3_heightAt cX3_heightAt 2 (some .int), Cond.fieldLink RX3 9 "ThreadWinder$Wraps" "heights" "[I", Cond.instanceMethod yX2_knotsAt, Cond.initialized RX2, Cond.selects RX2 yX2_knotsAt yX2_knotsAt, Cond.code yX2_knotsAt cX2_knotsAt 2 (some .int), Cond.fieldLink RX2 18 "ThreadWinder$State" "knots" "[I", Cond.instanceMethod yX3_isRibbon, Cond.selects RX3 yX3_isRibbon yX3_isRibbon, Cond.code yX3_isRibbon cX3_isRibbon 4 (some .boolean), Cond.methodLink RX3 54 yX3_isRibbonOver, Cond.instanceMethod yX3_isRibbonOver, Cond.selects RX3 yX3_isRibbonOver yX3_isRibbonOver, Cond.code yX3_isRibbonOver cX3_isRibbonOver 3 (some .boolean), Cond.methodLink RX3 58 yX3_heightAt]
def wsL_isWell_r2 : List Cond := [Cond.methodLink RX4 118 yX4_oneIf, Cond.static yX4_oneIf, Cond.code yX4_oneIf cX4_oneIf 1 (some .int), Cond.instanceMethod yX2_isBad, Cond.selects RX2 yX2_isBad yX2_isBad, Cond.code yX2_isBad cX2_isBad 2 (some .boolean), Cond.methodLink RX2 146 yX2_knotsAt, Cond.methodLink RL 54 yX4_breaksIn, Cond.instanceMethod yX4_breaksIn, Cond.selects RX4 yX4_breaksIn yX4_breaksIn, Cond.code yX4_breaksIn cX4_breaksIn 2 (some .int), Cond.fieldLink RX4 16 "ThreadWinder" "trial" "LThreadWinder$State;", Cond.instanceMethod yX2_isConeEmpty, Cond.selects RX2 yX2_isConeEmpty yX2_isConeEmpty, Cond.code yX2_isConeEmpty cX2_isConeEmpty 1 (some .boolean), Cond.fieldLink RX2 33 "ThreadWinder$State" "coneLeft" "I", Cond.instanceMethod yX2_copyFrom, Cond.selects RX2 yX2_copyFrom yX2_copyFrom, Cond.code yX2_copyFrom cX2_copyFrom 2 none, Cond.fieldLink RX2 12 "ThreadWinder$State" "wraps" "LThreadWinder$Wraps;", Cond.methodLink RX2 63 arraycopyName, Cond.native arraycopyName, Cond.static arraycopyName, Cond.initialized "java/lang/System"]
def wsL_isWell_r3 : List Cond := [Cond.fieldLink RX2 30 "ThreadWinder$State" "numbers" "[I", Cond.fieldLink RX2 37 "ThreadWinder$State" "warmth" "I", Cond.fieldLink RX2 40 "ThreadWinder$State" "broken" "Z", Cond.fieldLink RX2 44 "ThreadWinder$State" "lastPlace" "I", Cond.fieldLink RX2 47 "ThreadWinder$State" "lastTension" "I", Cond.fieldLink RX2 50 "ThreadWinder$State" "turnsDone" "I", Cond.fieldLink RX2 53 "ThreadWinder$State" "breaks" "I", Cond.fieldLink RX2 56 "ThreadWinder$State" "packagesOff" "I", Cond.instanceMethod yX3_copyFrom, Cond.selects RX3 yX3_copyFrom yX3_copyFrom, Cond.code yX3_copyFrom cX3_copyFrom 2 none, Cond.methodLink RX3 25 arraycopyName, Cond.fieldLink RX3 15 "ThreadWinder$Wraps" "laid" "I", Cond.fieldLink RX3 19 "ThreadWinder$Wraps" "tallest" "I", Cond.fieldLink RX3 22 "ThreadWinder$Wraps" "way" "I", Cond.instanceMethod yX2_isIdle, Cond.selects RX2 yX2_isIdle yX2_isIdle, Cond.code yX2_isIdle cX2_isIdle 1 (some .boolean), Cond.methodLink RX2 140 yX2_isConeEmpty, Cond.instanceMethod yX3_isFull, Cond.selects RX3 yX3_isFull yX3_isFull, Cond.code yX3_isFull cX3_isFull 1 (some .boolean), Cond.instanceMethod yX2_turnOnce, Cond.selects RX2 yX2_turnOnce yX2_turnOnce]
def wsL_isWell_r4 : List Cond := [Cond.code yX2_turnOnce cX2_turnOnce 3 none, Cond.methodLink RX2 88 yX2_isIdle, Cond.instanceMethod yX3_guidePlace, Cond.selects RX3 yX3_guidePlace yX3_guidePlace, Cond.code yX3_guidePlace cX3_guidePlace 1 (some .int), Cond.instanceMethod yX3_layWrap, Cond.selects RX3 yX3_layWrap yX3_layWrap, Cond.code yX3_layWrap cX3_layWrap 2 none, Cond.methodLink RX3 45 Lib.Math.max.name, Cond.static Lib.Math.max.name, Cond.initialized "java/lang/Math", Cond.code Lib.Math.max.name Lib.Math.max.code 2 (some .int), Cond.methodLink RX3 41 yX3_guidePlace, Cond.methodLink RX2 107 yX2_tensionAt, Cond.instanceMethod yX2_tensionAt, Cond.selects RX2 yX2_tensionAt yX2_tensionAt, Cond.code yX2_tensionAt cX2_tensionAt 4 (some .int), Cond.methodLink RX2 120 Lib.Math.abs.name, Cond.static Lib.Math.abs.name, Cond.code Lib.Math.abs.name Lib.Math.abs.code 1 (some .int), Cond.methodLink RX2 113 yX2_number, Cond.instanceMethod yX2_number, Cond.selects RX2 yX2_number yX2_number, Cond.code yX2_number cX2_number 2 (some .int)]
def wsL_isWell_r5 : List Cond := [Cond.methodLink RX2 110 yX2_warmDiscs, Cond.instanceMethod yX2_warmDiscs, Cond.selects RX2 yX2_warmDiscs yX2_warmDiscs, Cond.code yX2_warmDiscs cX2_warmDiscs 1 none, Cond.methodLink RX2 125 Lib.Math.min.name, Cond.static Lib.Math.min.name, Cond.code Lib.Math.min.name Lib.Math.min.code 2 (some .int), Cond.methodLink RX2 128 Lib.Math.max.name, Cond.instanceMethod yX3_moveGuide, Cond.selects RX3 yX3_moveGuide yX3_moveGuide, Cond.code yX3_moveGuide cX3_moveGuide 6 none, Cond.methodLink RL 9 yX4_count, Cond.instanceMethod yX4_count, Cond.selects RX4 yX4_count yX4_count, Cond.code yX4_count cX4_count 2 (some .int), Cond.fieldLink RX4 32 "ThreadWinder" "history" "LThreadWinder$History;", Cond.fieldLink RX4 39 "ThreadWinder" "text" "LThreadWinder$CommandText;", Cond.instanceMethod yX3_guideGoesBack, Cond.selects RX3 yX3_guideGoesBack yX3_guideGoesBack, Cond.code yX3_guideGoesBack cX3_guideGoesBack 1 (some .boolean), Cond.instanceMethod yX3_evenness, Cond.selects RX3 yX3_evenness yX3_evenness, Cond.code yX3_evenness cX3_evenness 6 (some .int), Cond.methodLink RX3 51 Lib.Math.min.name]
def wsL_isWell_r6 : List Cond := [Cond.instanceMethod yX3_ribbons, Cond.selects RX3 yX3_ribbons yX3_ribbons, Cond.code yX3_ribbons cX3_ribbons 3 (some .int), Cond.methodLink RX3 62 yX3_isRibbon, Cond.instanceMethod yX2_allKnots, Cond.selects RX2 yX2_allKnots yX2_allKnots, Cond.code yX2_allKnots cX2_allKnots 6 (some .int), Cond.methodLink RL 51 yX4_wrong, Cond.instanceMethod yX4_wrong, Cond.selects RX4 yX4_wrong yX4_wrong, Cond.code yX4_wrong cX4_wrong 1 (some .int), Cond.instanceMethod yX2_hasBadPlace, Cond.selects RX2 yX2_hasBadPlace yX2_hasBadPlace, Cond.code yX2_hasBadPlace cX2_hasBadPlace 3 (some .boolean), Cond.methodLink RX2 149 yX2_isBad]
def wsL_isWell : List Cond := .code yL_isWell cL_isWell 12 (some .boolean) :: ((wsL_isWell_r1 ++ (wsL_isWell_r2 ++ (wsL_isWell_r3 ++ (wsL_isWell_r4 ++ (wsL_isWell_r5 ++ wsL_isWell_r6))))) ++ wsX40 ++ wsX20 ++ wsX30 ++ wsX10 ++ wsX00)
def wsL_law_r1 : List Cond := [Cond.classLink RL 10 RX4, Cond.instantiable RX4 8, Cond.initialized RX4, Cond.methodLink RL 60 yX4_init, Cond.instanceMethod yX4_init, Cond.code yX4_init cX4_init 1 none, Cond.methodLink RX4 3 objectInit, Cond.instanceMethod objectInit, Cond.code objectInit ⟨#[0xb1]⟩ 1 none, Cond.classLink RX4 9 RX2, Cond.instantiable RX2 11, Cond.initialized RX2, Cond.fieldLink RX4 12 "ThreadWinder" "now" "LThreadWinder$State;", Cond.fieldLink RX4 16 "ThreadWinder" "trial" "LThreadWinder$State;", Cond.fieldLink RX4 19 "ThreadWinder" "snapshot" "LThreadWinder$State;", Cond.classLink RX4 22 RX3, Cond.instantiable RX3 4, Cond.initialized RX3, Cond.fieldLink RX4 25 "ThreadWinder" "imagined" "LThreadWinder$Wraps;", Cond.classLink RX4 29 RX1, Cond.instantiable RX1 3, Cond.initialized RX1, Cond.fieldLink RX4 32 "ThreadWinder" "history" "LThreadWinder$History;", Cond.classLink RX4 36 RX0]
def wsL_law_r2 : List Cond := [Cond.instantiable RX0 7, Cond.initialized RX0, Cond.fieldLink RX4 39 "ThreadWinder" "text" "LThreadWinder$CommandText;", Cond.fieldLink RX4 43 "ThreadWinder" "snapshotTaken" "Z", Cond.fieldLink RX4 47 "ThreadWinder" "latestStop" "I", Cond.instanceMethod yX2_init, Cond.code yX2_init cX2_init 1 none, Cond.methodLink RX2 3 objectInit, Cond.classLink RX2 9 RX3, Cond.fieldLink RX2 12 "ThreadWinder$State" "wraps" "LThreadWinder$Wraps;", Cond.arrayClass .int, Cond.fieldLink RX2 18 "ThreadWinder$State" "knots" "[I", Cond.methodLink RX2 25 ⟨"[I", "clone", "()Ljava/lang/Object;"⟩, Cond.sameMethod "[I" "java/lang/Object" "clone" "()Ljava/lang/Object;", Cond.native ⟨"java/lang/Object", "clone", "()Ljava/lang/Object;"⟩, Cond.instanceMethod ⟨"java/lang/Object", "clone", "()Ljava/lang/Object;"⟩, Cond.selects "[I" ⟨"[I", "clone", "()Ljava/lang/Object;"⟩ ⟨"java/lang/Object", "clone", "()Ljava/lang/Object;"⟩, Cond.classLink RX2 26 "[I", Cond.fieldLink RX2 30 "ThreadWinder$State" "numbers" "[I", Cond.fieldLink RX2 33 "ThreadWinder$State" "coneLeft" "I", Cond.fieldLink RX2 37 "ThreadWinder$State" "warmth" "I", Cond.fieldLink RX2 40 "ThreadWinder$State" "broken" "Z", Cond.fieldLink RX2 44 "ThreadWinder$State" "lastPlace" "I", Cond.fieldLink RX2 47 "ThreadWinder$State" "lastTension" "I"]
def wsL_law_r3 : List Cond := [Cond.fieldLink RX2 50 "ThreadWinder$State" "turnsDone" "I", Cond.fieldLink RX2 53 "ThreadWinder$State" "breaks" "I", Cond.fieldLink RX2 56 "ThreadWinder$State" "packagesOff" "I", Cond.instanceMethod yX3_init, Cond.code yX3_init cX3_init 1 none, Cond.methodLink RX3 3 objectInit, Cond.fieldLink RX3 9 "ThreadWinder$Wraps" "heights" "[I", Cond.fieldLink RX3 15 "ThreadWinder$Wraps" "laid" "I", Cond.fieldLink RX3 19 "ThreadWinder$Wraps" "tallest" "I", Cond.fieldLink RX3 22 "ThreadWinder$Wraps" "way" "I", Cond.instanceMethod yX1_init, Cond.code yX1_init cX1_init 2 none, Cond.methodLink RX1 3 objectInit, Cond.classLink RX1 9 RX2, Cond.fieldLink RX1 11 "ThreadWinder$History" "states" "[LThreadWinder$State;", Cond.fieldLink RX1 17 "ThreadWinder$History" "next" "I", Cond.fieldLink RX1 21 "ThreadWinder$History" "kept" "I", Cond.instanceMethod yX0_init, Cond.code yX0_init cX0_init 1 none, Cond.methodLink RX0 3 objectInit, Cond.arrayClass .char, Cond.fieldLink RX0 9 "ThreadWinder$CommandText" "characters" "[C", Cond.fieldLink RX0 15 "ThreadWinder$CommandText" "kinds" "[I", Cond.fieldLink RX0 19 "ThreadWinder$CommandText" "values" "[I"]
def wsL_law_r4 : List Cond := [Cond.fieldLink RX0 22 "ThreadWinder$CommandText" "length" "I", Cond.fieldLink RX0 26 "ThreadWinder$CommandText" "commands" "I", Cond.fieldLink RX0 29 "ThreadWinder$CommandText" "kind" "I", Cond.fieldLink RX0 32 "ThreadWinder$CommandText" "value" "I", Cond.methodLink RL 61 yL_cell, Cond.static yL_cell, Cond.initialized RL, Cond.code yL_cell cL_cell 2 (some .int), Cond.constant RL 7 (2059654633), Cond.methodLink RL 65 yL_isStep, Cond.static yL_isStep, Cond.code yL_isStep cL_isStep 16 (some .boolean), Cond.methodLink RL 9 yX4_count, Cond.instanceMethod yX4_count, Cond.selects RX4 yX4_count yX4_count, Cond.code yX4_count cX4_count 2 (some .int), Cond.instanceMethod yX3_guidePlace, Cond.selects RX3 yX3_guidePlace yX3_guidePlace, Cond.code yX3_guidePlace cX3_guidePlace 1 (some .int), Cond.instanceMethod yX3_guideGoesBack, Cond.selects RX3 yX3_guideGoesBack yX3_guideGoesBack, Cond.code yX3_guideGoesBack cX3_guideGoesBack 1 (some .boolean), Cond.methodLink RX4 118 yX4_oneIf, Cond.static yX4_oneIf]
def wsL_law_r5 : List Cond := [Cond.code yX4_oneIf cX4_oneIf 1 (some .int), Cond.instanceMethod yX2_isConeEmpty, Cond.selects RX2 yX2_isConeEmpty yX2_isConeEmpty, Cond.code yX2_isConeEmpty cX2_isConeEmpty 1 (some .boolean), Cond.instanceMethod yX3_isFull, Cond.selects RX3 yX3_isFull yX3_isFull, Cond.code yX3_isFull cX3_isFull 1 (some .boolean), Cond.instanceMethod yX3_evenness, Cond.selects RX3 yX3_evenness yX3_evenness, Cond.code yX3_evenness cX3_evenness 6 (some .int), Cond.methodLink RX3 51 Lib.Math.min.name, Cond.static Lib.Math.min.name, Cond.initialized "java/lang/Math", Cond.code Lib.Math.min.name Lib.Math.min.code 2 (some .int), Cond.instanceMethod yX3_ribbons, Cond.selects RX3 yX3_ribbons yX3_ribbons, Cond.code yX3_ribbons cX3_ribbons 3 (some .int), Cond.methodLink RX3 62 yX3_isRibbon, Cond.instanceMethod yX3_isRibbon, Cond.selects RX3 yX3_isRibbon yX3_isRibbon, Cond.code yX3_isRibbon cX3_isRibbon 4 (some .boolean), Cond.methodLink RX3 54 yX3_isRibbonOver, Cond.instanceMethod yX3_isRibbonOver, Cond.selects RX3 yX3_isRibbonOver yX3_isRibbonOver]
def wsL_law_r6 : List Cond := [Cond.code yX3_isRibbonOver cX3_isRibbonOver 3 (some .boolean), Cond.methodLink RX3 58 yX3_heightAt, Cond.instanceMethod yX3_heightAt, Cond.selects RX3 yX3_heightAt yX3_heightAt, Cond.code yX3_heightAt cX3_heightAt 2 (some .int), Cond.instanceMethod yX2_allKnots, Cond.selects RX2 yX2_allKnots yX2_allKnots, Cond.code yX2_allKnots cX2_allKnots 6 (some .int), Cond.instanceMethod yX2_number, Cond.selects RX2 yX2_number yX2_number, Cond.code yX2_number cX2_number 2 (some .int), Cond.methodLink RL 15 yL_up, Cond.static yL_up, Cond.code yL_up cL_up 2 (some .int), Cond.constant RL 8 (2147483647), Cond.methodLink RL 21 yX4_wind, Cond.instanceMethod yX4_wind, Cond.selects RX4 yX4_wind yX4_wind, Cond.code yX4_wind cX4_wind 2 (some .int), Cond.instanceMethod yX2_copyFrom, Cond.selects RX2 yX2_copyFrom yX2_copyFrom, Cond.code yX2_copyFrom cX2_copyFrom 2 none, Cond.methodLink RX2 63 arraycopyName, Cond.native arraycopyName]
def wsL_law_r7 : List Cond := [Cond.static arraycopyName, Cond.initialized "java/lang/System", Cond.instanceMethod yX3_copyFrom, Cond.selects RX3 yX3_copyFrom yX3_copyFrom, Cond.code yX3_copyFrom cX3_copyFrom 2 none, Cond.methodLink RX3 25 arraycopyName, Cond.instanceMethod yX2_turnOften, Cond.selects RX2 yX2_turnOften yX2_turnOften, Cond.code yX2_turnOften cX2_turnOften 4 (some .int), Cond.static yX4_inRange, Cond.code yX4_inRange cX4_inRange 2 (some .boolean), Cond.methodLink RX4 158 yX4_lowest, Cond.static yX4_lowest, Cond.code yX4_lowest cX4_lowest 1 (some .int), Cond.fieldLink RX4 216 "ThreadWinder" "LOWEST" "[I", Cond.methodLink RX4 161 yX4_highest, Cond.static yX4_highest, Cond.code yX4_highest cX4_highest 1 (some .int), Cond.fieldLink RX4 220 "ThreadWinder" "HIGHEST" "[I", Cond.methodLink RX2 88 yX2_isIdle, Cond.instanceMethod yX2_isIdle, Cond.selects RX2 yX2_isIdle yX2_isIdle, Cond.code yX2_isIdle cX2_isIdle 1 (some .boolean), Cond.methodLink RX2 140 yX2_isConeEmpty]
def wsL_law_r8 : List Cond := [Cond.methodLink RX2 95 yX2_turnOnce, Cond.instanceMethod yX2_turnOnce, Cond.selects RX2 yX2_turnOnce yX2_turnOnce, Cond.code yX2_turnOnce cX2_turnOnce 3 none, Cond.instanceMethod yX3_layWrap, Cond.selects RX3 yX3_layWrap yX3_layWrap, Cond.code yX3_layWrap cX3_layWrap 2 none, Cond.methodLink RX3 45 Lib.Math.max.name, Cond.static Lib.Math.max.name, Cond.code Lib.Math.max.name Lib.Math.max.code 2 (some .int), Cond.methodLink RX3 41 yX3_guidePlace, Cond.methodLink RX2 107 yX2_tensionAt, Cond.instanceMethod yX2_tensionAt, Cond.selects RX2 yX2_tensionAt yX2_tensionAt, Cond.code yX2_tensionAt cX2_tensionAt 4 (some .int), Cond.methodLink RX2 120 Lib.Math.abs.name, Cond.static Lib.Math.abs.name, Cond.code Lib.Math.abs.name Lib.Math.abs.code 1 (some .int), Cond.methodLink RX2 113 yX2_number, Cond.methodLink RX2 110 yX2_warmDiscs, Cond.instanceMethod yX2_warmDiscs, Cond.selects RX2 yX2_warmDiscs yX2_warmDiscs, Cond.code yX2_warmDiscs cX2_warmDiscs 1 none, Cond.methodLink RX2 125 Lib.Math.min.name]
def wsL_law_r9 : List Cond := [Cond.methodLink RX2 128 Lib.Math.max.name, Cond.instanceMethod yX3_moveGuide, Cond.selects RX3 yX3_moveGuide yX3_moveGuide, Cond.code yX3_moveGuide cX3_moveGuide 6 none, Cond.methodLink RX4 59 yX4_finishAct, Cond.instanceMethod yX4_finishAct, Cond.selects RX4 yX4_finishAct yX4_finishAct, Cond.code yX4_finishAct cX4_finishAct 2 (some .int), Cond.instanceMethod yX1_remember, Cond.selects RX1 yX1_remember yX1_remember, Cond.code yX1_remember cX1_remember 3 none, Cond.methodLink RX1 33 Lib.Math.min.name, Cond.methodLink RX1 25 yX1_stateAt, Cond.instanceMethod yX1_stateAt, Cond.selects RX1 yX1_stateAt yX1_stateAt, Cond.code yX1_stateAt cX1_stateAt 2 (some (.object "ThreadWinder$State")), Cond.methodLink RL 24 yX4_set, Cond.instanceMethod yX4_set, Cond.selects RX4 yX4_set yX4_set, Cond.code yX4_set cX4_set 3 (some .int), Cond.instanceMethod yX2_changeNumber, Cond.selects RX2 yX2_changeNumber yX2_changeNumber, Cond.code yX2_changeNumber cX2_changeNumber 4 (some .int), Cond.methodLink RL 27 yX4_knot]
def wsL_law_r10 : List Cond := [Cond.instanceMethod yX4_knot, Cond.selects RX4 yX4_knot yX4_knot, Cond.code yX4_knot cX4_knot 1 (some .int), Cond.instanceMethod yX2_tieKnot, Cond.selects RX2 yX2_tieKnot yX2_tieKnot, Cond.code yX2_tieKnot cX2_tieKnot 2 (some .int), Cond.methodLink RL 31 yX4_cone, Cond.instanceMethod yX4_cone, Cond.selects RX4 yX4_cone yX4_cone, Cond.code yX4_cone cX4_cone 2 (some .int), Cond.instanceMethod yX2_changeCone, Cond.selects RX2 yX2_changeCone yX2_changeCone, Cond.code yX2_changeCone cX2_changeCone 3 (some .int), Cond.methodLink RL 34 yX4_doff, Cond.instanceMethod yX4_doff, Cond.selects RX4 yX4_doff yX4_doff, Cond.code yX4_doff cX4_doff 1 (some .int), Cond.instanceMethod yX2_takePackageOff, Cond.selects RX2 yX2_takePackageOff yX2_takePackageOff, Cond.code yX2_takePackageOff cX2_takePackageOff 2 (some .int), Cond.instanceMethod yX3_clear, Cond.selects RX3 yX3_clear yX3_clear, Cond.code yX3_clear cX3_clear 1 none, Cond.methodLink RX3 31 yJ7_fill_53178]
def wsL_law_r11 : List Cond := [Cond.static yJ7_fill_53178, Cond.initialized RJ7, Cond.code yJ7_fill_53178 cJ7_fill_53178 4 none, Cond.methodLink RX2 134 yJ7_fill_53178, Cond.methodLink RL 37 yX4_ifTraverse, Cond.instanceMethod yX4_ifTraverse, Cond.selects RX4 yX4_ifTraverse yX4_ifTraverse, Cond.code yX4_ifTraverse cX4_ifTraverse 4 (some .int), Cond.methodLink RX4 147 yX4_inRange, Cond.methodLink RX4 151 yX4_imagine, Cond.instanceMethod yX4_imagine, Cond.selects RX4 yX4_imagine yX4_imagine, Cond.code yX4_imagine cX4_imagine 4 none, Cond.instanceMethod yX3_barePlaces, Cond.selects RX3 yX3_barePlaces yX3_barePlaces, Cond.code yX3_barePlaces cX3_barePlaces 6 (some .int), Cond.methodLink RL 41 yL_isRound, Cond.static yL_isRound, Cond.code yL_isRound cL_isRound 5 (some .boolean), Cond.methodLink RL 45 yX4_period, Cond.instanceMethod yX4_period, Cond.selects RX4 yX4_period yX4_period, Cond.code yX4_period cX4_period 3 (some .int), Cond.methodLink RL 48 yX4_bestTraverse]
def wsL_law_r12 : List Cond := [Cond.instanceMethod yX4_bestTraverse, Cond.selects RX4 yX4_bestTraverse yX4_bestTraverse, Cond.code yX4_bestTraverse cX4_bestTraverse 6 (some .int), Cond.methodLink RL 69 yL_isWell, Cond.static yL_isWell, Cond.code yL_isWell cL_isWell 12 (some .boolean), Cond.methodLink RL 57 yX4_place, Cond.instanceMethod yX4_place, Cond.selects RX4 yX4_place yX4_place, Cond.code yX4_place cX4_place 3 (some .int), Cond.instanceMethod yX2_knotsAt, Cond.selects RX2 yX2_knotsAt yX2_knotsAt, Cond.code yX2_knotsAt cX2_knotsAt 2 (some .int), Cond.instanceMethod yX2_isBad, Cond.selects RX2 yX2_isBad yX2_isBad, Cond.code yX2_isBad cX2_isBad 2 (some .boolean), Cond.methodLink RX2 146 yX2_knotsAt, Cond.methodLink RL 54 yX4_breaksIn, Cond.instanceMethod yX4_breaksIn, Cond.selects RX4 yX4_breaksIn yX4_breaksIn, Cond.code yX4_breaksIn cX4_breaksIn 2 (some .int), Cond.methodLink RL 51 yX4_wrong, Cond.instanceMethod yX4_wrong, Cond.selects RX4 yX4_wrong yX4_wrong]
def wsL_law_r13 : List Cond := [Cond.code yX4_wrong cX4_wrong 1 (some .int), Cond.instanceMethod yX2_hasBadPlace, Cond.selects RX2 yX2_hasBadPlace yX2_hasBadPlace, Cond.code yX2_hasBadPlace cX2_hasBadPlace 3 (some .boolean), Cond.methodLink RX2 149 yX2_isBad, Cond.methodLink RL 73 yL_areAlike, Cond.static yL_areAlike, Cond.code yL_areAlike cL_areAlike 5 (some .boolean)]
def wsL_law : List Cond := (wsL_law_r1 ++ (wsL_law_r2 ++ (wsL_law_r3 ++ (wsL_law_r4 ++ (wsL_law_r5 ++ (wsL_law_r6 ++ (wsL_law_r7 ++ (wsL_law_r8 ++ (wsL_law_r9 ++ (wsL_law_r10 ++ (wsL_law_r11 ++ (wsL_law_r12 ++ wsL_law_r13)))))))))))) ++ wsX40 ++ wsX20 ++ wsX30 ++ wsX10 ++ wsX00 ++ ([] : List Cond)
abbrev vwCl : List vw_C := [(RX0, TX0, 7), (RX1, TX1, 3), (RX2, TX2, 11), (RX3, TX3, 4), (RX4, TX4, 8)]
theorem inlX0 : ∀ w ∈ wsX00, w ∈ wsL_law := fun _ h => List.mem_append_left _ (List.mem_append_right _ h)
theorem inlX1 : ∀ w ∈ wsX10, w ∈ wsL_law := fun _ h => List.mem_append_left _ (List.mem_append_left _ (List.mem_append_right _ h))
theorem inlX2 : ∀ w ∈ wsX20, w ∈ wsL_law := fun _ h => List.mem_append_left _ (List.mem_append_left _ (List.mem_append_left _ (List.mem_append_left _ (List.mem_append_right _ h))))
theorem inlX3 : ∀ w ∈ wsX30, w ∈ wsL_law := fun _ h => List.mem_append_left _ (List.mem_append_left _ (List.mem_append_left _ (List.mem_append_right _ h)))
theorem inlX4 : ∀ w ∈ wsX40, w ∈ wsL_law := fun _ h => List.mem_append_left _ (List.mem_append_left _ (List.mem_append_left _ (List.mem_append_left _ (List.mem_append_left _ (List.mem_append_right _ h)))))
end
section
theorem dX0_init_0 : decode cX0_init 0 = .ok (.aload_n 0, 1) := by decide +kernel
theorem dX0_init_1 : decode cX0_init 1 = .ok (.invokespecial 3, 3) := by decide +kernel
theorem dX0_init_4 : decode cX0_init 4 = .ok (.aload_n 0, 1) := by decide +kernel
theorem dX0_init_5 : decode cX0_init 5 = .ok (.bipush 60, 2) := by decide +kernel
theorem dX0_init_7 : decode cX0_init 7 = .ok (.newarray .char, 2) := by decide +kernel
theorem dX0_init_9 : decode cX0_init 9 = .ok (.putfield 9, 3) := by decide +kernel
theorem dX0_init_12 : decode cX0_init 12 = .ok (.aload_n 0, 1) := by decide +kernel
theorem dX0_init_13 : decode cX0_init 13 = .ok (.bipush 60, 2) := by decide +kernel
theorem dX0_init_15 : decode cX0_init 15 = .ok (.newarray .int, 2) := by decide +kernel
theorem dX0_init_17 : decode cX0_init 17 = .ok (.putfield 15, 3) := by decide +kernel
theorem dX0_init_20 : decode cX0_init 20 = .ok (.aload_n 0, 1) := by decide +kernel
theorem dX0_init_21 : decode cX0_init 21 = .ok (.bipush 60, 2) := by decide +kernel
theorem dX0_init_23 : decode cX0_init 23 = .ok (.newarray .int, 2) := by decide +kernel
theorem dX0_init_25 : decode cX0_init 25 = .ok (.putfield 19, 3) := by decide +kernel
theorem dX0_init_28 : decode cX0_init 28 = .ok (.aload_n 0, 1) := by decide +kernel
theorem dX0_init_29 : decode cX0_init 29 = .ok (.iconst 0, 1) := by decide +kernel
theorem dX0_init_30 : decode cX0_init 30 = .ok (.putfield 22, 3) := by decide +kernel
theorem dX0_init_33 : decode cX0_init 33 = .ok (.aload_n 0, 1) := by decide +kernel
theorem dX0_init_34 : decode cX0_init 34 = .ok (.iconst 0, 1) := by decide +kernel
theorem dX0_init_35 : decode cX0_init 35 = .ok (.putfield 26, 3) := by decide +kernel
theorem dX0_init_38 : decode cX0_init 38 = .ok (.aload_n 0, 1) := by decide +kernel
theorem dX0_init_39 : decode cX0_init 39 = .ok (.iconst (-1), 1) := by decide +kernel
theorem dX0_init_40 : decode cX0_init 40 = .ok (.putfield 29, 3) := by decide +kernel
theorem dX0_init_43 : decode cX0_init 43 = .ok (.aload_n 0, 1) := by decide +kernel
theorem dX0_init_44 : decode cX0_init 44 = .ok (.iconst (-1), 1) := by decide +kernel
theorem dX0_init_45 : decode cX0_init 45 = .ok (.putfield 32, 3) := by decide +kernel
theorem dX0_init_48 : decode cX0_init 48 = .ok (.return_, 1) := by decide +kernel
set_option maxRecDepth 20000 in
theorem ggX1_init_X2_init : GoodIn wsX1_init wsX2_init := goodIn_r _ [11, 12, 2, 3, 13, 14, 15, 16, 17, 18, 19, 20, 21, 22, 23, 24, 25, 26, 27, 28, 29, 30, 31, 32, 33, 34, 35, 36, 37, 38, 39, 40, 55, 56, 57, 58, 44, 45, 46, 47, 48, 49, 50, 51, 52, 53, 54] (by decide +kernel) (by decide +kernel)
set_option maxRecDepth 20000 in
theorem gX1_init_X2_init_n24 : GoodIn wsX1_init (wsX2_init) := ggX1_init_X2_init
theorem dX1_init_0 : decode cX1_init 0 = .ok (.aload_n 0, 1) := by decide +kernel
theorem dX1_init_1 : decode cX1_init 1 = .ok (.invokespecial 3, 3) := by decide +kernel
theorem dX1_init_4 : decode cX1_init 4 = .ok (.aload_n 0, 1) := by decide +kernel
theorem dX1_init_5 : decode cX1_init 5 = .ok (.iconst 4, 1) := by decide +kernel
theorem dX1_init_6 : decode cX1_init 6 = .ok (.anewarray 9, 3) := by decide +kernel
theorem dX1_init_9 : decode cX1_init 9 = .ok (.putfield 11, 3) := by decide +kernel
theorem dX1_init_12 : decode cX1_init 12 = .ok (.aload_n 0, 1) := by decide +kernel
theorem dX1_init_13 : decode cX1_init 13 = .ok (.iconst 0, 1) := by decide +kernel
theorem dX1_init_14 : decode cX1_init 14 = .ok (.putfield 17, 3) := by decide +kernel
theorem dX1_init_17 : decode cX1_init 17 = .ok (.aload_n 0, 1) := by decide +kernel
theorem dX1_init_18 : decode cX1_init 18 = .ok (.iconst 0, 1) := by decide +kernel
theorem dX1_init_19 : decode cX1_init 19 = .ok (.putfield 21, 3) := by decide +kernel
theorem dX1_init_22 : decode cX1_init 22 = .ok (.iconst 0, 1) := by decide +kernel
theorem dX1_init_23 : decode cX1_init 23 = .ok (.istore_n 1, 1) := by decide +kernel
theorem dX1_init_24 : decode cX1_init 24 = .ok (.iload_n 1, 1) := by decide +kernel
theorem dX1_init_25 : decode cX1_init 25 = .ok (.aload_n 0, 1) := by decide +kernel
theorem dX1_init_26 : decode cX1_init 26 = .ok (.getfield 11, 3) := by decide +kernel
theorem dX1_init_29 : decode cX1_init 29 = .ok (.arraylength, 1) := by decide +kernel
theorem dX1_init_30 : decode cX1_init 30 = .ok (.if_icmp .ge 22, 3) := by decide +kernel
theorem dX1_init_33 : decode cX1_init 33 = .ok (.aload_n 0, 1) := by decide +kernel
theorem dX1_init_34 : decode cX1_init 34 = .ok (.getfield 11, 3) := by decide +kernel
theorem dX1_init_37 : decode cX1_init 37 = .ok (.iload_n 1, 1) := by decide +kernel
theorem dX1_init_38 : decode cX1_init 38 = .ok (.new 9, 3) := by decide +kernel
theorem dX1_init_41 : decode cX1_init 41 = .ok (.dup, 1) := by decide +kernel
theorem dX1_init_42 : decode cX1_init 42 = .ok (.invokespecial 24, 3) := by decide +kernel
theorem dX1_init_45 : decode cX1_init 45 = .ok (.aastore, 1) := by decide +kernel
theorem dX1_init_46 : decode cX1_init 46 = .ok (.iinc 1 1, 3) := by decide +kernel
theorem dX1_init_49 : decode cX1_init 49 = .ok (.goto (-25), 3) := by decide +kernel
theorem dX1_init_52 : decode cX1_init 52 = .ok (.return_, 1) := by decide +kernel
set_option maxRecDepth 20000 in
theorem ggX1_remember_X1_stateAt : GoodIn wsX1_remember wsX1_stateAt := goodIn_r _ [11, 12, 41, 42, 43] (by decide +kernel) (by decide +kernel)
set_option maxRecDepth 20000 in
theorem gX1_remember_X1_stateAt : GoodIn wsX1_remember (wsV RX1 25 RX1 yX1_stateAt wsX1_stateAt) := goodIn_app (goodIn_of _ (by decide +kernel)) ggX1_remember_X1_stateAt
set_option maxRecDepth 20000 in
theorem ggX1_remember_X2_copyFrom : GoodIn wsX1_remember wsX2_copyFrom := goodIn_r _ [16, 17, 18, 19, 20, 21, 22, 23, 24, 25, 26, 27, 28, 29, 30, 31, 32, 33, 34, 35, 36, 37, 38, 39, 40, 44, 45, 46, 47, 48, 49, 50, 51, 52, 53, 54, 55, 56, 57, 58] (by decide +kernel) (by decide +kernel)
set_option maxRecDepth 20000 in
theorem gX1_remember_X2_copyFrom_n29 : GoodIn wsX1_remember (wsX2_copyFrom) := ggX1_remember_X2_copyFrom
theorem dX1_remember_0 : decode cX1_remember 0 = .ok (.aload_n 0, 1) := by decide +kernel
theorem dX1_remember_1 : decode cX1_remember 1 = .ok (.aload_n 0, 1) := by decide +kernel
theorem dX1_remember_2 : decode cX1_remember 2 = .ok (.getfield 17, 3) := by decide +kernel
theorem dX1_remember_5 : decode cX1_remember 5 = .ok (.invokevirtual 25, 3) := by decide +kernel
theorem dX1_remember_8 : decode cX1_remember 8 = .ok (.astore_n 2, 1) := by decide +kernel
theorem dX1_remember_9 : decode cX1_remember 9 = .ok (.aload_n 2, 1) := by decide +kernel
theorem dX1_remember_10 : decode cX1_remember 10 = .ok (.ifnull 34, 3) := by decide +kernel
theorem dX1_remember_13 : decode cX1_remember 13 = .ok (.aload_n 2, 1) := by decide +kernel
theorem dX1_remember_14 : decode cX1_remember 14 = .ok (.aload_n 1, 1) := by decide +kernel
theorem dX1_remember_15 : decode cX1_remember 15 = .ok (.invokevirtual 29, 3) := by decide +kernel
theorem dX1_remember_18 : decode cX1_remember 18 = .ok (.aload_n 0, 1) := by decide +kernel
theorem dX1_remember_19 : decode cX1_remember 19 = .ok (.aload_n 0, 1) := by decide +kernel
theorem dX1_remember_20 : decode cX1_remember 20 = .ok (.getfield 17, 3) := by decide +kernel
theorem dX1_remember_23 : decode cX1_remember 23 = .ok (.iconst 1, 1) := by decide +kernel
theorem dX1_remember_24 : decode cX1_remember 24 = .ok (.iadd, 1) := by decide +kernel
theorem dX1_remember_25 : decode cX1_remember 25 = .ok (.iconst 4, 1) := by decide +kernel
theorem dX1_remember_26 : decode cX1_remember 26 = .ok (.irem, 1) := by decide +kernel
theorem dX1_remember_27 : decode cX1_remember 27 = .ok (.putfield 17, 3) := by decide +kernel
theorem dX1_remember_30 : decode cX1_remember 30 = .ok (.aload_n 0, 1) := by decide +kernel
theorem dX1_remember_31 : decode cX1_remember 31 = .ok (.aload_n 0, 1) := by decide +kernel
theorem dX1_remember_32 : decode cX1_remember 32 = .ok (.getfield 21, 3) := by decide +kernel
theorem dX1_remember_35 : decode cX1_remember 35 = .ok (.iconst 1, 1) := by decide +kernel
theorem dX1_remember_36 : decode cX1_remember 36 = .ok (.iadd, 1) := by decide +kernel
theorem dX1_remember_37 : decode cX1_remember 37 = .ok (.iconst 4, 1) := by decide +kernel
theorem dX1_remember_38 : decode cX1_remember 38 = .ok (.invokestatic 33, 3) := by decide +kernel
theorem dX1_remember_41 : decode cX1_remember 41 = .ok (.putfield 21, 3) := by decide +kernel
theorem dX1_remember_44 : decode cX1_remember 44 = .ok (.return_, 1) := by decide +kernel
theorem dX1_stateAt_0 : decode cX1_stateAt 0 = .ok (.iload_n 1, 1) := by decide +kernel
theorem dX1_stateAt_1 : decode cX1_stateAt 1 = .ok (.ifCond .lt 21, 3) := by decide +kernel
theorem dX1_stateAt_4 : decode cX1_stateAt 4 = .ok (.iload_n 1, 1) := by decide +kernel
theorem dX1_stateAt_5 : decode cX1_stateAt 5 = .ok (.aload_n 0, 1) := by decide +kernel
theorem dX1_stateAt_6 : decode cX1_stateAt 6 = .ok (.getfield 11, 3) := by decide +kernel
theorem dX1_stateAt_9 : decode cX1_stateAt 9 = .ok (.arraylength, 1) := by decide +kernel
theorem dX1_stateAt_10 : decode cX1_stateAt 10 = .ok (.if_icmp .ge 12, 3) := by decide +kernel
theorem dX1_stateAt_13 : decode cX1_stateAt 13 = .ok (.aload_n 0, 1) := by decide +kernel
theorem dX1_stateAt_14 : decode cX1_stateAt 14 = .ok (.getfield 11, 3) := by decide +kernel
theorem dX1_stateAt_17 : decode cX1_stateAt 17 = .ok (.iload_n 1, 1) := by decide +kernel
theorem dX1_stateAt_18 : decode cX1_stateAt 18 = .ok (.aaload, 1) := by decide +kernel
theorem dX1_stateAt_19 : decode cX1_stateAt 19 = .ok (.goto 4, 3) := by decide +kernel
theorem dX1_stateAt_22 : decode cX1_stateAt 22 = .ok (.aconst_null, 1) := by decide +kernel
theorem dX1_stateAt_23 : decode cX1_stateAt 23 = .ok (.areturn, 1) := by decide +kernel
set_option maxRecDepth 20000 in
theorem ggX2_init_X3_init : GoodIn wsX2_init wsX3_init := goodIn_r _ [26, 27, 2, 3, 8, 28, 29, 30, 31, 32, 33, 34, 35] (by decide +kernel) (by decide +kernel)
set_option maxRecDepth 20000 in
theorem gX2_init_X3_init_n11 : GoodIn wsX2_init (wsX3_init) := ggX2_init_X3_init
theorem dX2_init_0 : decode cX2_init 0 = .ok (.aload_n 0, 1) := by decide +kernel
theorem dX2_init_1 : decode cX2_init 1 = .ok (.invokespecial 3, 3) := by decide +kernel
theorem dX2_init_4 : decode cX2_init 4 = .ok (.aload_n 0, 1) := by decide +kernel
theorem dX2_init_5 : decode cX2_init 5 = .ok (.new 9, 3) := by decide +kernel
theorem dX2_init_8 : decode cX2_init 8 = .ok (.dup, 1) := by decide +kernel
theorem dX2_init_9 : decode cX2_init 9 = .ok (.invokespecial 11, 3) := by decide +kernel
theorem dX2_init_12 : decode cX2_init 12 = .ok (.putfield 12, 3) := by decide +kernel
theorem dX2_init_15 : decode cX2_init 15 = .ok (.aload_n 0, 1) := by decide +kernel
theorem dX2_init_16 : decode cX2_init 16 = .ok (.bipush 12, 2) := by decide +kernel
theorem dX2_init_18 : decode cX2_init 18 = .ok (.newarray .int, 2) := by decide +kernel
theorem dX2_init_20 : decode cX2_init 20 = .ok (.putfield 18, 3) := by decide +kernel
theorem dX2_init_23 : decode cX2_init 23 = .ok (.aload_n 0, 1) := by decide +kernel
theorem dX2_init_24 : decode cX2_init 24 = .ok (.getstatic 22, 3) := by decide +kernel
theorem dX2_init_27 : decode cX2_init 27 = .ok (.invokevirtual 25, 3) := by decide +kernel
theorem dX2_init_30 : decode cX2_init 30 = .ok (.checkcast 26, 3) := by decide +kernel
theorem dX2_init_33 : decode cX2_init 33 = .ok (.putfield 30, 3) := by decide +kernel
theorem dX2_init_36 : decode cX2_init 36 = .ok (.aload_n 0, 1) := by decide +kernel
theorem dX2_init_37 : decode cX2_init 37 = .ok (.sipush 5000, 3) := by decide +kernel
theorem dX2_init_40 : decode cX2_init 40 = .ok (.putfield 33, 3) := by decide +kernel
theorem dX2_init_43 : decode cX2_init 43 = .ok (.aload_n 0, 1) := by decide +kernel
theorem dX2_init_44 : decode cX2_init 44 = .ok (.iconst 0, 1) := by decide +kernel
theorem dX2_init_45 : decode cX2_init 45 = .ok (.putfield 37, 3) := by decide +kernel
theorem dX2_init_48 : decode cX2_init 48 = .ok (.aload_n 0, 1) := by decide +kernel
theorem dX2_init_49 : decode cX2_init 49 = .ok (.iconst 0, 1) := by decide +kernel
theorem dX2_init_50 : decode cX2_init 50 = .ok (.putfield 40, 3) := by decide +kernel
theorem dX2_init_53 : decode cX2_init 53 = .ok (.aload_n 0, 1) := by decide +kernel
theorem dX2_init_54 : decode cX2_init 54 = .ok (.iconst (-1), 1) := by decide +kernel
theorem dX2_init_55 : decode cX2_init 55 = .ok (.putfield 44, 3) := by decide +kernel
theorem dX2_init_58 : decode cX2_init 58 = .ok (.aload_n 0, 1) := by decide +kernel
theorem dX2_init_59 : decode cX2_init 59 = .ok (.iconst 0, 1) := by decide +kernel
theorem dX2_init_60 : decode cX2_init 60 = .ok (.putfield 47, 3) := by decide +kernel
theorem dX2_init_63 : decode cX2_init 63 = .ok (.aload_n 0, 1) := by decide +kernel
theorem dX2_init_64 : decode cX2_init 64 = .ok (.iconst 0, 1) := by decide +kernel
theorem dX2_init_65 : decode cX2_init 65 = .ok (.putfield 50, 3) := by decide +kernel
theorem dX2_init_68 : decode cX2_init 68 = .ok (.aload_n 0, 1) := by decide +kernel
theorem dX2_init_69 : decode cX2_init 69 = .ok (.iconst 0, 1) := by decide +kernel
theorem dX2_init_70 : decode cX2_init 70 = .ok (.putfield 53, 3) := by decide +kernel
theorem dX2_init_73 : decode cX2_init 73 = .ok (.aload_n 0, 1) := by decide +kernel
theorem dX2_init_74 : decode cX2_init 74 = .ok (.iconst 0, 1) := by decide +kernel
theorem dX2_init_75 : decode cX2_init 75 = .ok (.putfield 56, 3) := by decide +kernel
theorem dX2_init_78 : decode cX2_init 78 = .ok (.return_, 1) := by decide +kernel
set_option maxRecDepth 20000 in
theorem ggX2_copyFrom_X3_copyFrom : GoodIn wsX2_copyFrom wsX3_copyFrom := goodIn_r _ [19, 20, 21, 4, 5, 6, 22, 23, 24, 36, 37, 38, 39] (by decide +kernel) (by decide +kernel)
set_option maxRecDepth 20000 in
theorem gX2_copyFrom_X3_copyFrom_n59 : GoodIn wsX2_copyFrom (wsX3_copyFrom) := ggX2_copyFrom_X3_copyFrom
theorem dX2_copyFrom_0 : decode cX2_copyFrom 0 = .ok (.aload_n 0, 1) := by decide +kernel
theorem dX2_copyFrom_1 : decode cX2_copyFrom 1 = .ok (.getfield 12, 3) := by decide +kernel
theorem dX2_copyFrom_4 : decode cX2_copyFrom 4 = .ok (.aload_n 1, 1) := by decide +kernel
theorem dX2_copyFrom_5 : decode cX2_copyFrom 5 = .ok (.getfield 12, 3) := by decide +kernel
theorem dX2_copyFrom_8 : decode cX2_copyFrom 8 = .ok (.invokevirtual 59, 3) := by decide +kernel
theorem dX2_copyFrom_11 : decode cX2_copyFrom 11 = .ok (.aload_n 1, 1) := by decide +kernel
theorem dX2_copyFrom_12 : decode cX2_copyFrom 12 = .ok (.getfield 18, 3) := by decide +kernel
theorem dX2_copyFrom_15 : decode cX2_copyFrom 15 = .ok (.iconst 0, 1) := by decide +kernel
theorem dX2_copyFrom_16 : decode cX2_copyFrom 16 = .ok (.aload_n 0, 1) := by decide +kernel
theorem dX2_copyFrom_17 : decode cX2_copyFrom 17 = .ok (.getfield 18, 3) := by decide +kernel
theorem dX2_copyFrom_20 : decode cX2_copyFrom 20 = .ok (.iconst 0, 1) := by decide +kernel
theorem dX2_copyFrom_21 : decode cX2_copyFrom 21 = .ok (.bipush 12, 2) := by decide +kernel
theorem dX2_copyFrom_23 : decode cX2_copyFrom 23 = .ok (.invokestatic 63, 3) := by decide +kernel
theorem dX2_copyFrom_26 : decode cX2_copyFrom 26 = .ok (.aload_n 1, 1) := by decide +kernel
theorem dX2_copyFrom_27 : decode cX2_copyFrom 27 = .ok (.getfield 30, 3) := by decide +kernel
theorem dX2_copyFrom_30 : decode cX2_copyFrom 30 = .ok (.iconst 0, 1) := by decide +kernel
theorem dX2_copyFrom_31 : decode cX2_copyFrom 31 = .ok (.aload_n 0, 1) := by decide +kernel
theorem dX2_copyFrom_32 : decode cX2_copyFrom 32 = .ok (.getfield 30, 3) := by decide +kernel
theorem dX2_copyFrom_35 : decode cX2_copyFrom 35 = .ok (.iconst 0, 1) := by decide +kernel
theorem dX2_copyFrom_36 : decode cX2_copyFrom 36 = .ok (.getstatic 22, 3) := by decide +kernel
theorem dX2_copyFrom_39 : decode cX2_copyFrom 39 = .ok (.arraylength, 1) := by decide +kernel
theorem dX2_copyFrom_40 : decode cX2_copyFrom 40 = .ok (.invokestatic 63, 3) := by decide +kernel
theorem dX2_copyFrom_43 : decode cX2_copyFrom 43 = .ok (.aload_n 0, 1) := by decide +kernel
theorem dX2_copyFrom_44 : decode cX2_copyFrom 44 = .ok (.aload_n 1, 1) := by decide +kernel
theorem dX2_copyFrom_45 : decode cX2_copyFrom 45 = .ok (.getfield 33, 3) := by decide +kernel
theorem dX2_copyFrom_48 : decode cX2_copyFrom 48 = .ok (.putfield 33, 3) := by decide +kernel
theorem dX2_copyFrom_51 : decode cX2_copyFrom 51 = .ok (.aload_n 0, 1) := by decide +kernel
theorem dX2_copyFrom_52 : decode cX2_copyFrom 52 = .ok (.aload_n 1, 1) := by decide +kernel
theorem dX2_copyFrom_53 : decode cX2_copyFrom 53 = .ok (.getfield 37, 3) := by decide +kernel
theorem dX2_copyFrom_56 : decode cX2_copyFrom 56 = .ok (.putfield 37, 3) := by decide +kernel
theorem dX2_copyFrom_59 : decode cX2_copyFrom 59 = .ok (.aload_n 0, 1) := by decide +kernel
theorem dX2_copyFrom_60 : decode cX2_copyFrom 60 = .ok (.aload_n 1, 1) := by decide +kernel
theorem dX2_copyFrom_61 : decode cX2_copyFrom 61 = .ok (.getfield 40, 3) := by decide +kernel
theorem dX2_copyFrom_64 : decode cX2_copyFrom 64 = .ok (.putfield 40, 3) := by decide +kernel
theorem dX2_copyFrom_67 : decode cX2_copyFrom 67 = .ok (.aload_n 0, 1) := by decide +kernel
theorem dX2_copyFrom_68 : decode cX2_copyFrom 68 = .ok (.aload_n 1, 1) := by decide +kernel
theorem dX2_copyFrom_69 : decode cX2_copyFrom 69 = .ok (.getfield 44, 3) := by decide +kernel
theorem dX2_copyFrom_72 : decode cX2_copyFrom 72 = .ok (.putfield 44, 3) := by decide +kernel
theorem dX2_copyFrom_75 : decode cX2_copyFrom 75 = .ok (.aload_n 0, 1) := by decide +kernel
theorem dX2_copyFrom_76 : decode cX2_copyFrom 76 = .ok (.aload_n 1, 1) := by decide +kernel
theorem dX2_copyFrom_77 : decode cX2_copyFrom 77 = .ok (.getfield 47, 3) := by decide +kernel
theorem dX2_copyFrom_80 : decode cX2_copyFrom 80 = .ok (.putfield 47, 3) := by decide +kernel
theorem dX2_copyFrom_83 : decode cX2_copyFrom 83 = .ok (.aload_n 0, 1) := by decide +kernel
theorem dX2_copyFrom_84 : decode cX2_copyFrom 84 = .ok (.aload_n 1, 1) := by decide +kernel
theorem dX2_copyFrom_85 : decode cX2_copyFrom 85 = .ok (.getfield 50, 3) := by decide +kernel
theorem dX2_copyFrom_88 : decode cX2_copyFrom 88 = .ok (.putfield 50, 3) := by decide +kernel
theorem dX2_copyFrom_91 : decode cX2_copyFrom 91 = .ok (.aload_n 0, 1) := by decide +kernel
theorem dX2_copyFrom_92 : decode cX2_copyFrom 92 = .ok (.aload_n 1, 1) := by decide +kernel
theorem dX2_copyFrom_93 : decode cX2_copyFrom 93 = .ok (.getfield 53, 3) := by decide +kernel
theorem dX2_copyFrom_96 : decode cX2_copyFrom 96 = .ok (.putfield 53, 3) := by decide +kernel
theorem dX2_copyFrom_99 : decode cX2_copyFrom 99 = .ok (.aload_n 0, 1) := by decide +kernel
theorem dX2_copyFrom_100 : decode cX2_copyFrom 100 = .ok (.aload_n 1, 1) := by decide +kernel
theorem dX2_copyFrom_101 : decode cX2_copyFrom 101 = .ok (.getfield 56, 3) := by decide +kernel
theorem dX2_copyFrom_104 : decode cX2_copyFrom 104 = .ok (.putfield 56, 3) := by decide +kernel
theorem dX2_copyFrom_107 : decode cX2_copyFrom 107 = .ok (.return_, 1) := by decide +kernel
set_option maxRecDepth 20000 in
theorem ggX2_changeNumber_X4_inRange : GoodIn wsX2_changeNumber wsX4_inRange := goodIn_r _ [4, 5, 6, 3, 7, 8, 9, 10, 11, 12] (by decide +kernel) (by decide +kernel)
set_option maxRecDepth 20000 in
theorem gX2_changeNumber_X4_inRange_n84 : GoodIn wsX2_changeNumber (wsX4_inRange) := ggX2_changeNumber_X4_inRange
theorem dX2_changeNumber_0 : decode cX2_changeNumber 0 = .ok (.iload_n 1, 1) := by decide +kernel
theorem dX2_changeNumber_1 : decode cX2_changeNumber 1 = .ok (.ifCond .lt 12, 3) := by decide +kernel
theorem dX2_changeNumber_4 : decode cX2_changeNumber 4 = .ok (.iload_n 1, 1) := by decide +kernel
theorem dX2_changeNumber_5 : decode cX2_changeNumber 5 = .ok (.aload_n 0, 1) := by decide +kernel
theorem dX2_changeNumber_6 : decode cX2_changeNumber 6 = .ok (.getfield 30, 3) := by decide +kernel
theorem dX2_changeNumber_9 : decode cX2_changeNumber 9 = .ok (.arraylength, 1) := by decide +kernel
theorem dX2_changeNumber_10 : decode cX2_changeNumber 10 = .ok (.if_icmp .lt 5, 3) := by decide +kernel
theorem dX2_changeNumber_13 : decode cX2_changeNumber 13 = .ok (.iconst (-1), 1) := by decide +kernel
theorem dX2_changeNumber_14 : decode cX2_changeNumber 14 = .ok (.ireturn, 1) := by decide +kernel
theorem dX2_changeNumber_15 : decode cX2_changeNumber 15 = .ok (.iload_n 1, 1) := by decide +kernel
theorem dX2_changeNumber_16 : decode cX2_changeNumber 16 = .ok (.iload_n 2, 1) := by decide +kernel
theorem dX2_changeNumber_17 : decode cX2_changeNumber 17 = .ok (.invokestatic 84, 3) := by decide +kernel
theorem dX2_changeNumber_20 : decode cX2_changeNumber 20 = .ok (.ifCond .ne 6, 3) := by decide +kernel
theorem dX2_changeNumber_23 : decode cX2_changeNumber 23 = .ok (.bipush (-2), 2) := by decide +kernel
theorem dX2_changeNumber_25 : decode cX2_changeNumber 25 = .ok (.ireturn, 1) := by decide +kernel
theorem dX2_changeNumber_26 : decode cX2_changeNumber 26 = .ok (.aload_n 0, 1) := by decide +kernel
theorem dX2_changeNumber_27 : decode cX2_changeNumber 27 = .ok (.getfield 30, 3) := by decide +kernel
theorem dX2_changeNumber_30 : decode cX2_changeNumber 30 = .ok (.iload_n 1, 1) := by decide +kernel
theorem dX2_changeNumber_31 : decode cX2_changeNumber 31 = .ok (.iaload, 1) := by decide +kernel
theorem dX2_changeNumber_32 : decode cX2_changeNumber 32 = .ok (.istore_n 3, 1) := by decide +kernel
theorem dX2_changeNumber_33 : decode cX2_changeNumber 33 = .ok (.iload_n 3, 1) := by decide +kernel
theorem dX2_changeNumber_34 : decode cX2_changeNumber 34 = .ok (.iload_n 2, 1) := by decide +kernel
theorem dX2_changeNumber_35 : decode cX2_changeNumber 35 = .ok (.if_icmp .ne 6, 3) := by decide +kernel
theorem dX2_changeNumber_38 : decode cX2_changeNumber 38 = .ok (.bipush (-5), 2) := by decide +kernel
theorem dX2_changeNumber_40 : decode cX2_changeNumber 40 = .ok (.ireturn, 1) := by decide +kernel
theorem dX2_changeNumber_41 : decode cX2_changeNumber 41 = .ok (.aload_n 0, 1) := by decide +kernel
theorem dX2_changeNumber_42 : decode cX2_changeNumber 42 = .ok (.getfield 30, 3) := by decide +kernel
theorem dX2_changeNumber_45 : decode cX2_changeNumber 45 = .ok (.iload_n 1, 1) := by decide +kernel
theorem dX2_changeNumber_46 : decode cX2_changeNumber 46 = .ok (.iload_n 2, 1) := by decide +kernel
theorem dX2_changeNumber_47 : decode cX2_changeNumber 47 = .ok (.iastore, 1) := by decide +kernel
theorem dX2_changeNumber_48 : decode cX2_changeNumber 48 = .ok (.iload_n 3, 1) := by decide +kernel
theorem dX2_changeNumber_49 : decode cX2_changeNumber 49 = .ok (.ireturn, 1) := by decide +kernel
set_option maxRecDepth 20000 in
theorem ggX2_turnOften_X4_inRange : GoodIn wsX2_turnOften wsX4_inRange := goodIn_r _ [4, 5, 6, 3, 7, 8, 9, 10, 11, 12] (by decide +kernel) (by decide +kernel)
set_option maxRecDepth 20000 in
theorem gX2_turnOften_X4_inRange_n84 : GoodIn wsX2_turnOften (wsX4_inRange) := ggX2_turnOften_X4_inRange
set_option maxRecDepth 20000 in
theorem ggX2_turnOften_X2_isIdle : GoodIn wsX2_turnOften wsX2_isIdle := goodIn_r _ [17, 18, 1, 19, 20, 21, 16, 22, 23, 24, 25, 26, 27, 28, 80, 81, 82, 83, 84, 85, 86, 87, 88, 89, 90, 91, 92, 93, 94] (by decide +kernel) (by decide +kernel)
set_option maxRecDepth 20000 in
theorem gX2_turnOften_X2_isIdle : GoodIn wsX2_turnOften (wsV RX2 88 RX2 yX2_isIdle wsX2_isIdle) := goodIn_app (goodIn_of _ (by decide +kernel)) ggX2_turnOften_X2_isIdle
set_option maxRecDepth 20000 in
theorem ggX2_turnOften_X2_turnOnce : GoodIn wsX2_turnOften wsX2_turnOnce := goodIn_r _ [32, 33, 1, 23, 34, 35, 18, 36, 13, 14, 15, 16, 17, 19, 20, 21, 22, 24, 25, 26, 27, 28, 37, 38, 39, 40, 41, 42, 43, 44, 45, 46, 47, 48, 49, 50, 51, 52, 53, 54, 55, 56, 57, 58, 59, 60, 61, 62, 63, 64, 65, 66, 67, 68, 69, 70, 71, 72, 73, 74, 75, 76, 77, 78, 3, 79, 80, 81, 82, 83, 84, 85, 86, 87, 88, 89, 90, 91, 92, 93, 94] (by decide +kernel) (by decide +kernel)
set_option maxRecDepth 20000 in
theorem gX2_turnOften_X2_turnOnce : GoodIn wsX2_turnOften (wsV RX2 95 RX2 yX2_turnOnce wsX2_turnOnce) := goodIn_app (goodIn_of _ (by decide +kernel)) ggX2_turnOften_X2_turnOnce
theorem dX2_turnOften_0 : decode cX2_turnOften 0 = .ok (.iconst 5, 1) := by decide +kernel
theorem dX2_turnOften_1 : decode cX2_turnOften 1 = .ok (.iload_n 1, 1) := by decide +kernel
theorem dX2_turnOften_2 : decode cX2_turnOften 2 = .ok (.invokestatic 84, 3) := by decide +kernel
theorem dX2_turnOften_5 : decode cX2_turnOften 5 = .ok (.ifCond .ne 6, 3) := by decide +kernel
theorem dX2_turnOften_8 : decode cX2_turnOften 8 = .ok (.bipush (-2), 2) := by decide +kernel
theorem dX2_turnOften_10 : decode cX2_turnOften 10 = .ok (.ireturn, 1) := by decide +kernel
theorem dX2_turnOften_11 : decode cX2_turnOften 11 = .ok (.aload_n 0, 1) := by decide +kernel
theorem dX2_turnOften_12 : decode cX2_turnOften 12 = .ok (.invokevirtual 88, 3) := by decide +kernel
theorem dX2_turnOften_15 : decode cX2_turnOften 15 = .ok (.ifCond .eq 6, 3) := by decide +kernel
theorem dX2_turnOften_18 : decode cX2_turnOften 18 = .ok (.bipush (-5), 2) := by decide +kernel
theorem dX2_turnOften_20 : decode cX2_turnOften 20 = .ok (.ireturn, 1) := by decide +kernel
theorem dX2_turnOften_21 : decode cX2_turnOften 21 = .ok (.aload_n 0, 1) := by decide +kernel
theorem dX2_turnOften_22 : decode cX2_turnOften 22 = .ok (.getfield 12, 3) := by decide +kernel
theorem dX2_turnOften_25 : decode cX2_turnOften 25 = .ok (.getfield 92, 3) := by decide +kernel
theorem dX2_turnOften_28 : decode cX2_turnOften 28 = .ok (.istore_n 2, 1) := by decide +kernel
theorem dX2_turnOften_29 : decode cX2_turnOften 29 = .ok (.iconst 0, 1) := by decide +kernel
theorem dX2_turnOften_30 : decode cX2_turnOften 30 = .ok (.istore_n 3, 1) := by decide +kernel
theorem dX2_turnOften_31 : decode cX2_turnOften 31 = .ok (.iload_n 3, 1) := by decide +kernel
theorem dX2_turnOften_32 : decode cX2_turnOften 32 = .ok (.iload_n 1, 1) := by decide +kernel
theorem dX2_turnOften_33 : decode cX2_turnOften 33 = .ok (.if_icmp .ge 20, 3) := by decide +kernel
theorem dX2_turnOften_36 : decode cX2_turnOften 36 = .ok (.aload_n 0, 1) := by decide +kernel
theorem dX2_turnOften_37 : decode cX2_turnOften 37 = .ok (.invokevirtual 88, 3) := by decide +kernel
theorem dX2_turnOften_40 : decode cX2_turnOften 40 = .ok (.ifCond .ne 13, 3) := by decide +kernel
theorem dX2_turnOften_43 : decode cX2_turnOften 43 = .ok (.aload_n 0, 1) := by decide +kernel
theorem dX2_turnOften_44 : decode cX2_turnOften 44 = .ok (.invokevirtual 95, 3) := by decide +kernel
theorem dX2_turnOften_47 : decode cX2_turnOften 47 = .ok (.iinc 3 1, 3) := by decide +kernel
theorem dX2_turnOften_50 : decode cX2_turnOften 50 = .ok (.goto (-19), 3) := by decide +kernel
theorem dX2_turnOften_53 : decode cX2_turnOften 53 = .ok (.aload_n 0, 1) := by decide +kernel
theorem dX2_turnOften_54 : decode cX2_turnOften 54 = .ok (.getfield 12, 3) := by decide +kernel
theorem dX2_turnOften_57 : decode cX2_turnOften 57 = .ok (.getfield 92, 3) := by decide +kernel
theorem dX2_turnOften_60 : decode cX2_turnOften 60 = .ok (.iload_n 2, 1) := by decide +kernel
theorem dX2_turnOften_61 : decode cX2_turnOften 61 = .ok (.isub, 1) := by decide +kernel
theorem dX2_turnOften_62 : decode cX2_turnOften 62 = .ok (.ireturn, 1) := by decide +kernel
set_option maxRecDepth 20000 in
theorem ggX2_turnOnce_X2_isIdle : GoodIn wsX2_turnOnce wsX2_isIdle := goodIn_r _ [12, 6, 2, 13, 14, 15, 11, 16, 3, 17, 18, 19, 20, 21, 66, 67, 68, 69, 70, 71, 72, 73, 74, 75, 76, 77, 78, 79, 80] (by decide +kernel) (by decide +kernel)
set_option maxRecDepth 20000 in
theorem gX2_turnOnce_X2_isIdle : GoodIn wsX2_turnOnce (wsV RX2 88 RX2 yX2_isIdle wsX2_isIdle) := goodIn_app (goodIn_of _ (by decide +kernel)) ggX2_turnOnce_X2_isIdle
set_option maxRecDepth 20000 in
theorem ggX2_turnOnce_X3_guidePlace : GoodIn wsX2_turnOnce wsX3_guidePlace := goodIn_r _ [24, 25, 77, 78, 79, 80] (by decide +kernel) (by decide +kernel)
set_option maxRecDepth 20000 in
theorem gX2_turnOnce_X3_guidePlace_n98 : GoodIn wsX2_turnOnce (wsX3_guidePlace) := ggX2_turnOnce_X3_guidePlace
set_option maxRecDepth 20000 in
theorem ggX2_turnOnce_X3_heightAt : GoodIn wsX2_turnOnce wsX3_heightAt := goodIn_r _ [28, 29, 77, 78, 79, 80] (by decide +kernel) (by decide +kernel)
set_option maxRecDepth 20000 in
theorem gX2_turnOnce_X3_heightAt_n101 : GoodIn wsX2_turnOnce (wsX3_heightAt) := ggX2_turnOnce_X3_heightAt
set_option maxRecDepth 20000 in
theorem ggX2_turnOnce_X3_layWrap : GoodIn wsX2_turnOnce wsX3_layWrap := goodIn_r _ [32, 29, 33, 21, 34, 35, 36, 37, 38, 22, 23, 18, 24, 25, 77, 78, 79, 80] (by decide +kernel) (by decide +kernel)
set_option maxRecDepth 20000 in
theorem gX2_turnOnce_X3_layWrap_n104 : GoodIn wsX2_turnOnce (wsX3_layWrap) := ggX2_turnOnce_X3_layWrap
set_option maxRecDepth 20000 in
theorem ggX2_turnOnce_X2_tensionAt : GoodIn wsX2_turnOnce wsX2_tensionAt := goodIn_r _ [42, 43, 5, 2, 44, 45, 36, 46, 47, 48, 49, 11, 50, 51, 26, 18, 27, 28, 29, 66, 67, 68, 69, 70, 71, 72, 73, 74, 75, 76, 77, 78, 79, 80] (by decide +kernel) (by decide +kernel)
set_option maxRecDepth 20000 in
theorem gX2_turnOnce_X2_tensionAt : GoodIn wsX2_turnOnce (wsV RX2 107 RX2 yX2_tensionAt wsX2_tensionAt) := goodIn_app (goodIn_of _ (by decide +kernel)) ggX2_turnOnce_X2_tensionAt
set_option maxRecDepth 20000 in
theorem ggX2_turnOnce_X2_warmDiscs : GoodIn wsX2_turnOnce wsX2_warmDiscs := goodIn_r _ [55, 43, 56, 57, 36, 58, 59, 35, 37, 47, 48, 49, 11, 50, 51, 66, 67, 68, 69, 70, 71, 72, 73, 74, 75, 76] (by decide +kernel) (by decide +kernel)
set_option maxRecDepth 20000 in
theorem gX2_turnOnce_X2_warmDiscs : GoodIn wsX2_turnOnce (wsV RX2 110 RX2 yX2_warmDiscs wsX2_warmDiscs) := goodIn_app (goodIn_of _ (by decide +kernel)) ggX2_turnOnce_X2_warmDiscs
set_option maxRecDepth 20000 in
theorem ggX2_turnOnce_X2_number : GoodIn wsX2_turnOnce wsX2_number := goodIn_r _ [50, 51, 66, 67, 68, 69, 70, 71, 72, 73, 74, 75, 76] (by decide +kernel) (by decide +kernel)
set_option maxRecDepth 20000 in
theorem gX2_turnOnce_X2_number : GoodIn wsX2_turnOnce (wsV RX2 113 RX2 yX2_number wsX2_number) := goodIn_app (goodIn_of _ (by decide +kernel)) ggX2_turnOnce_X2_number
set_option maxRecDepth 20000 in
theorem ggX2_turnOnce_X3_moveGuide : GoodIn wsX2_turnOnce wsX3_moveGuide := goodIn_r _ [62, 25, 63, 64, 65, 77, 78, 79, 80] (by decide +kernel) (by decide +kernel)
set_option maxRecDepth 20000 in
theorem gX2_turnOnce_X3_moveGuide_n116 : GoodIn wsX2_turnOnce (wsX3_moveGuide) := ggX2_turnOnce_X3_moveGuide
theorem dX2_turnOnce_0 : decode cX2_turnOnce 0 = .ok (.aload_n 0, 1) := by decide +kernel
theorem dX2_turnOnce_1 : decode cX2_turnOnce 1 = .ok (.invokevirtual 88, 3) := by decide +kernel
theorem dX2_turnOnce_4 : decode cX2_turnOnce 4 = .ok (.ifCond .eq 4, 3) := by decide +kernel
theorem dX2_turnOnce_7 : decode cX2_turnOnce 7 = .ok (.return_, 1) := by decide +kernel
theorem dX2_turnOnce_8 : decode cX2_turnOnce 8 = .ok (.aload_n 0, 1) := by decide +kernel
theorem dX2_turnOnce_9 : decode cX2_turnOnce 9 = .ok (.dup, 1) := by decide +kernel
theorem dX2_turnOnce_10 : decode cX2_turnOnce 10 = .ok (.getfield 50, 3) := by decide +kernel
theorem dX2_turnOnce_13 : decode cX2_turnOnce 13 = .ok (.iconst 1, 1) := by decide +kernel
theorem dX2_turnOnce_14 : decode cX2_turnOnce 14 = .ok (.iadd, 1) := by decide +kernel
theorem dX2_turnOnce_15 : decode cX2_turnOnce 15 = .ok (.putfield 50, 3) := by decide +kernel
theorem dX2_turnOnce_18 : decode cX2_turnOnce 18 = .ok (.aload_n 0, 1) := by decide +kernel
theorem dX2_turnOnce_19 : decode cX2_turnOnce 19 = .ok (.getfield 12, 3) := by decide +kernel
theorem dX2_turnOnce_22 : decode cX2_turnOnce 22 = .ok (.invokevirtual 98, 3) := by decide +kernel
theorem dX2_turnOnce_25 : decode cX2_turnOnce 25 = .ok (.istore_n 1, 1) := by decide +kernel
theorem dX2_turnOnce_26 : decode cX2_turnOnce 26 = .ok (.bipush 10, 2) := by decide +kernel
theorem dX2_turnOnce_28 : decode cX2_turnOnce 28 = .ok (.aload_n 0, 1) := by decide +kernel
theorem dX2_turnOnce_29 : decode cX2_turnOnce 29 = .ok (.getfield 12, 3) := by decide +kernel
theorem dX2_turnOnce_32 : decode cX2_turnOnce 32 = .ok (.iload_n 1, 1) := by decide +kernel
theorem dX2_turnOnce_33 : decode cX2_turnOnce 33 = .ok (.invokevirtual 101, 3) := by decide +kernel
theorem dX2_turnOnce_36 : decode cX2_turnOnce 36 = .ok (.iadd, 1) := by decide +kernel
theorem dX2_turnOnce_37 : decode cX2_turnOnce 37 = .ok (.istore_n 2, 1) := by decide +kernel
theorem dX2_turnOnce_38 : decode cX2_turnOnce 38 = .ok (.aload_n 0, 1) := by decide +kernel
theorem dX2_turnOnce_39 : decode cX2_turnOnce 39 = .ok (.getfield 33, 3) := by decide +kernel
theorem dX2_turnOnce_42 : decode cX2_turnOnce 42 = .ok (.iload_n 2, 1) := by decide +kernel
theorem dX2_turnOnce_43 : decode cX2_turnOnce 43 = .ok (.if_icmp .ge 9, 3) := by decide +kernel
theorem dX2_turnOnce_46 : decode cX2_turnOnce 46 = .ok (.aload_n 0, 1) := by decide +kernel
theorem dX2_turnOnce_47 : decode cX2_turnOnce 47 = .ok (.iconst 0, 1) := by decide +kernel
theorem dX2_turnOnce_48 : decode cX2_turnOnce 48 = .ok (.putfield 33, 3) := by decide +kernel
theorem dX2_turnOnce_51 : decode cX2_turnOnce 51 = .ok (.return_, 1) := by decide +kernel
theorem dX2_turnOnce_52 : decode cX2_turnOnce 52 = .ok (.aload_n 0, 1) := by decide +kernel
theorem dX2_turnOnce_53 : decode cX2_turnOnce 53 = .ok (.dup, 1) := by decide +kernel
theorem dX2_turnOnce_54 : decode cX2_turnOnce 54 = .ok (.getfield 33, 3) := by decide +kernel
theorem dX2_turnOnce_57 : decode cX2_turnOnce 57 = .ok (.iload_n 2, 1) := by decide +kernel
theorem dX2_turnOnce_58 : decode cX2_turnOnce 58 = .ok (.isub, 1) := by decide +kernel
theorem dX2_turnOnce_59 : decode cX2_turnOnce 59 = .ok (.putfield 33, 3) := by decide +kernel
theorem dX2_turnOnce_62 : decode cX2_turnOnce 62 = .ok (.aload_n 0, 1) := by decide +kernel
theorem dX2_turnOnce_63 : decode cX2_turnOnce 63 = .ok (.getfield 12, 3) := by decide +kernel
theorem dX2_turnOnce_66 : decode cX2_turnOnce 66 = .ok (.invokevirtual 104, 3) := by decide +kernel
theorem dX2_turnOnce_69 : decode cX2_turnOnce 69 = .ok (.aload_n 0, 1) := by decide +kernel
theorem dX2_turnOnce_70 : decode cX2_turnOnce 70 = .ok (.aload_n 0, 1) := by decide +kernel
theorem dX2_turnOnce_71 : decode cX2_turnOnce 71 = .ok (.iload_n 1, 1) := by decide +kernel
theorem dX2_turnOnce_72 : decode cX2_turnOnce 72 = .ok (.invokevirtual 107, 3) := by decide +kernel
theorem dX2_turnOnce_75 : decode cX2_turnOnce 75 = .ok (.putfield 47, 3) := by decide +kernel
theorem dX2_turnOnce_78 : decode cX2_turnOnce 78 = .ok (.aload_n 0, 1) := by decide +kernel
theorem dX2_turnOnce_79 : decode cX2_turnOnce 79 = .ok (.iload_n 1, 1) := by decide +kernel
theorem dX2_turnOnce_80 : decode cX2_turnOnce 80 = .ok (.putfield 44, 3) := by decide +kernel
theorem dX2_turnOnce_83 : decode cX2_turnOnce 83 = .ok (.aload_n 0, 1) := by decide +kernel
theorem dX2_turnOnce_84 : decode cX2_turnOnce 84 = .ok (.invokevirtual 110, 3) := by decide +kernel
theorem dX2_turnOnce_87 : decode cX2_turnOnce 87 = .ok (.aload_n 0, 1) := by decide +kernel
theorem dX2_turnOnce_88 : decode cX2_turnOnce 88 = .ok (.getfield 47, 3) := by decide +kernel
theorem dX2_turnOnce_91 : decode cX2_turnOnce 91 = .ok (.aload_n 0, 1) := by decide +kernel
theorem dX2_turnOnce_92 : decode cX2_turnOnce 92 = .ok (.iconst 4, 1) := by decide +kernel
theorem dX2_turnOnce_93 : decode cX2_turnOnce 93 = .ok (.invokevirtual 113, 3) := by decide +kernel
theorem dX2_turnOnce_96 : decode cX2_turnOnce 96 = .ok (.if_icmp .le 18, 3) := by decide +kernel
theorem dX2_turnOnce_99 : decode cX2_turnOnce 99 = .ok (.aload_n 0, 1) := by decide +kernel
theorem dX2_turnOnce_100 : decode cX2_turnOnce 100 = .ok (.iconst 1, 1) := by decide +kernel
theorem dX2_turnOnce_101 : decode cX2_turnOnce 101 = .ok (.putfield 40, 3) := by decide +kernel
theorem dX2_turnOnce_104 : decode cX2_turnOnce 104 = .ok (.aload_n 0, 1) := by decide +kernel
theorem dX2_turnOnce_105 : decode cX2_turnOnce 105 = .ok (.dup, 1) := by decide +kernel
theorem dX2_turnOnce_106 : decode cX2_turnOnce 106 = .ok (.getfield 53, 3) := by decide +kernel
theorem dX2_turnOnce_109 : decode cX2_turnOnce 109 = .ok (.iconst 1, 1) := by decide +kernel
theorem dX2_turnOnce_110 : decode cX2_turnOnce 110 = .ok (.iadd, 1) := by decide +kernel
theorem dX2_turnOnce_111 : decode cX2_turnOnce 111 = .ok (.putfield 53, 3) := by decide +kernel
theorem dX2_turnOnce_114 : decode cX2_turnOnce 114 = .ok (.aload_n 0, 1) := by decide +kernel
theorem dX2_turnOnce_115 : decode cX2_turnOnce 115 = .ok (.getfield 12, 3) := by decide +kernel
theorem dX2_turnOnce_118 : decode cX2_turnOnce 118 = .ok (.aload_n 0, 1) := by decide +kernel
theorem dX2_turnOnce_119 : decode cX2_turnOnce 119 = .ok (.iconst 0, 1) := by decide +kernel
theorem dX2_turnOnce_120 : decode cX2_turnOnce 120 = .ok (.invokevirtual 113, 3) := by decide +kernel
theorem dX2_turnOnce_123 : decode cX2_turnOnce 123 = .ok (.aload_n 0, 1) := by decide +kernel
theorem dX2_turnOnce_124 : decode cX2_turnOnce 124 = .ok (.iconst 2, 1) := by decide +kernel
theorem dX2_turnOnce_125 : decode cX2_turnOnce 125 = .ok (.invokevirtual 113, 3) := by decide +kernel
theorem dX2_turnOnce_128 : decode cX2_turnOnce 128 = .ok (.aload_n 0, 1) := by decide +kernel
theorem dX2_turnOnce_129 : decode cX2_turnOnce 129 = .ok (.getfield 50, 3) := by decide +kernel
theorem dX2_turnOnce_132 : decode cX2_turnOnce 132 = .ok (.invokevirtual 116, 3) := by decide +kernel
theorem dX2_turnOnce_135 : decode cX2_turnOnce 135 = .ok (.return_, 1) := by decide +kernel
set_option maxRecDepth 20000 in
theorem ggX2_tensionAt_X2_number : GoodIn wsX2_tensionAt wsX2_number := goodIn_r _ [12, 13, 19, 20, 21, 22, 23, 24, 25, 26, 27, 28, 29] (by decide +kernel) (by decide +kernel)
set_option maxRecDepth 20000 in
theorem gX2_tensionAt_X2_number : GoodIn wsX2_tensionAt (wsV RX2 113 RX2 yX2_number wsX2_number) := goodIn_app (goodIn_of _ (by decide +kernel)) ggX2_tensionAt_X2_number
set_option maxRecDepth 20000 in
theorem ggX2_tensionAt_X3_heightAt : GoodIn wsX2_tensionAt wsX3_heightAt := goodIn_r _ [17, 18, 30, 31, 32, 33] (by decide +kernel) (by decide +kernel)
set_option maxRecDepth 20000 in
theorem gX2_tensionAt_X3_heightAt_n101 : GoodIn wsX2_tensionAt (wsX3_heightAt) := ggX2_tensionAt_X3_heightAt
theorem dX2_tensionAt_0 : decode cX2_tensionAt 0 = .ok (.iconst 4, 1) := by decide +kernel
theorem dX2_tensionAt_1 : decode cX2_tensionAt 1 = .ok (.aload_n 0, 1) := by decide +kernel
theorem dX2_tensionAt_2 : decode cX2_tensionAt 2 = .ok (.iconst 1, 1) := by decide +kernel
theorem dX2_tensionAt_3 : decode cX2_tensionAt 3 = .ok (.invokevirtual 113, 3) := by decide +kernel
theorem dX2_tensionAt_6 : decode cX2_tensionAt 6 = .ok (.imul, 1) := by decide +kernel
theorem dX2_tensionAt_7 : decode cX2_tensionAt 7 = .ok (.aload_n 0, 1) := by decide +kernel
theorem dX2_tensionAt_8 : decode cX2_tensionAt 8 = .ok (.getfield 37, 3) := by decide +kernel
theorem dX2_tensionAt_11 : decode cX2_tensionAt 11 = .ok (.bipush 10, 2) := by decide +kernel
theorem dX2_tensionAt_13 : decode cX2_tensionAt 13 = .ok (.idiv, 1) := by decide +kernel
theorem dX2_tensionAt_14 : decode cX2_tensionAt 14 = .ok (.iadd, 1) := by decide +kernel
theorem dX2_tensionAt_15 : decode cX2_tensionAt 15 = .ok (.istore_n 2, 1) := by decide +kernel
theorem dX2_tensionAt_16 : decode cX2_tensionAt 16 = .ok (.aload_n 0, 1) := by decide +kernel
theorem dX2_tensionAt_17 : decode cX2_tensionAt 17 = .ok (.getfield 44, 3) := by decide +kernel
theorem dX2_tensionAt_20 : decode cX2_tensionAt 20 = .ok (.iconst (-1), 1) := by decide +kernel
theorem dX2_tensionAt_21 : decode cX2_tensionAt 21 = .ok (.if_icmp .ne 5, 3) := by decide +kernel
theorem dX2_tensionAt_24 : decode cX2_tensionAt 24 = .ok (.iload_n 2, 1) := by decide +kernel
theorem dX2_tensionAt_25 : decode cX2_tensionAt 25 = .ok (.ireturn, 1) := by decide +kernel
theorem dX2_tensionAt_26 : decode cX2_tensionAt 26 = .ok (.aload_n 0, 1) := by decide +kernel
theorem dX2_tensionAt_27 : decode cX2_tensionAt 27 = .ok (.getfield 12, 3) := by decide +kernel
theorem dX2_tensionAt_30 : decode cX2_tensionAt 30 = .ok (.iload_n 1, 1) := by decide +kernel
theorem dX2_tensionAt_31 : decode cX2_tensionAt 31 = .ok (.invokevirtual 101, 3) := by decide +kernel
theorem dX2_tensionAt_34 : decode cX2_tensionAt 34 = .ok (.aload_n 0, 1) := by decide +kernel
theorem dX2_tensionAt_35 : decode cX2_tensionAt 35 = .ok (.getfield 12, 3) := by decide +kernel
theorem dX2_tensionAt_38 : decode cX2_tensionAt 38 = .ok (.aload_n 0, 1) := by decide +kernel
theorem dX2_tensionAt_39 : decode cX2_tensionAt 39 = .ok (.getfield 44, 3) := by decide +kernel
theorem dX2_tensionAt_42 : decode cX2_tensionAt 42 = .ok (.invokevirtual 101, 3) := by decide +kernel
theorem dX2_tensionAt_45 : decode cX2_tensionAt 45 = .ok (.isub, 1) := by decide +kernel
theorem dX2_tensionAt_46 : decode cX2_tensionAt 46 = .ok (.invokestatic 120, 3) := by decide +kernel
theorem dX2_tensionAt_49 : decode cX2_tensionAt 49 = .ok (.istore_n 3, 1) := by decide +kernel
theorem dX2_tensionAt_50 : decode cX2_tensionAt 50 = .ok (.iload_n 2, 1) := by decide +kernel
theorem dX2_tensionAt_51 : decode cX2_tensionAt 51 = .ok (.iconst 2, 1) := by decide +kernel
theorem dX2_tensionAt_52 : decode cX2_tensionAt 52 = .ok (.iload_n 3, 1) := by decide +kernel
theorem dX2_tensionAt_53 : decode cX2_tensionAt 53 = .ok (.imul, 1) := by decide +kernel
theorem dX2_tensionAt_54 : decode cX2_tensionAt 54 = .ok (.iadd, 1) := by decide +kernel
theorem dX2_tensionAt_55 : decode cX2_tensionAt 55 = .ok (.ireturn, 1) := by decide +kernel
set_option maxRecDepth 20000 in
theorem ggX2_warmDiscs_X2_number : GoodIn wsX2_warmDiscs wsX2_number := goodIn_r _ [13, 14, 15, 16, 17, 18, 19, 20, 21, 22, 23, 24, 25] (by decide +kernel) (by decide +kernel)
set_option maxRecDepth 20000 in
theorem gX2_warmDiscs_X2_number : GoodIn wsX2_warmDiscs (wsV RX2 113 RX2 yX2_number wsX2_number) := goodIn_app (goodIn_of _ (by decide +kernel)) ggX2_warmDiscs_X2_number
theorem dX2_warmDiscs_0 : decode cX2_warmDiscs 0 = .ok (.aload_n 0, 1) := by decide +kernel
theorem dX2_warmDiscs_1 : decode cX2_warmDiscs 1 = .ok (.iconst 0, 1) := by decide +kernel
theorem dX2_warmDiscs_2 : decode cX2_warmDiscs 2 = .ok (.sipush 300, 3) := by decide +kernel
theorem dX2_warmDiscs_5 : decode cX2_warmDiscs 5 = .ok (.aload_n 0, 1) := by decide +kernel
theorem dX2_warmDiscs_6 : decode cX2_warmDiscs 6 = .ok (.getfield 37, 3) := by decide +kernel
theorem dX2_warmDiscs_9 : decode cX2_warmDiscs 9 = .ok (.aload_n 0, 1) := by decide +kernel
theorem dX2_warmDiscs_10 : decode cX2_warmDiscs 10 = .ok (.iconst 1, 1) := by decide +kernel
theorem dX2_warmDiscs_11 : decode cX2_warmDiscs 11 = .ok (.invokevirtual 113, 3) := by decide +kernel
theorem dX2_warmDiscs_14 : decode cX2_warmDiscs 14 = .ok (.iadd, 1) := by decide +kernel
theorem dX2_warmDiscs_15 : decode cX2_warmDiscs 15 = .ok (.iconst 1, 1) := by decide +kernel
theorem dX2_warmDiscs_16 : decode cX2_warmDiscs 16 = .ok (.isub, 1) := by decide +kernel
theorem dX2_warmDiscs_17 : decode cX2_warmDiscs 17 = .ok (.invokestatic 125, 3) := by decide +kernel
theorem dX2_warmDiscs_20 : decode cX2_warmDiscs 20 = .ok (.invokestatic 128, 3) := by decide +kernel
theorem dX2_warmDiscs_23 : decode cX2_warmDiscs 23 = .ok (.putfield 37, 3) := by decide +kernel
theorem dX2_warmDiscs_26 : decode cX2_warmDiscs 26 = .ok (.return_, 1) := by decide +kernel
set_option maxRecDepth 20000 in
theorem ggX2_tieKnot_X2_number : GoodIn wsX2_tieKnot wsX2_number := goodIn_r _ [9, 10, 11, 12, 13, 14, 15, 16, 17, 18, 19, 20, 21] (by decide +kernel) (by decide +kernel)
set_option maxRecDepth 20000 in
theorem gX2_tieKnot_X2_number : GoodIn wsX2_tieKnot (wsV RX2 113 RX2 yX2_number wsX2_number) := goodIn_app (goodIn_of _ (by decide +kernel)) ggX2_tieKnot_X2_number
theorem dX2_tieKnot_0 : decode cX2_tieKnot 0 = .ok (.aload_n 0, 1) := by decide +kernel
theorem dX2_tieKnot_1 : decode cX2_tieKnot 1 = .ok (.iconst 3, 1) := by decide +kernel
theorem dX2_tieKnot_2 : decode cX2_tieKnot 2 = .ok (.invokevirtual 113, 3) := by decide +kernel
theorem dX2_tieKnot_5 : decode cX2_tieKnot 5 = .ok (.istore_n 1, 1) := by decide +kernel
theorem dX2_tieKnot_6 : decode cX2_tieKnot 6 = .ok (.aload_n 0, 1) := by decide +kernel
theorem dX2_tieKnot_7 : decode cX2_tieKnot 7 = .ok (.getfield 33, 3) := by decide +kernel
theorem dX2_tieKnot_10 : decode cX2_tieKnot 10 = .ok (.iload_n 1, 1) := by decide +kernel
theorem dX2_tieKnot_11 : decode cX2_tieKnot 11 = .ok (.if_icmp .ge 6, 3) := by decide +kernel
theorem dX2_tieKnot_14 : decode cX2_tieKnot 14 = .ok (.bipush (-4), 2) := by decide +kernel
theorem dX2_tieKnot_16 : decode cX2_tieKnot 16 = .ok (.ireturn, 1) := by decide +kernel
theorem dX2_tieKnot_17 : decode cX2_tieKnot 17 = .ok (.aload_n 0, 1) := by decide +kernel
theorem dX2_tieKnot_18 : decode cX2_tieKnot 18 = .ok (.getfield 40, 3) := by decide +kernel
theorem dX2_tieKnot_21 : decode cX2_tieKnot 21 = .ok (.ifCond .eq 22, 3) := by decide +kernel
theorem dX2_tieKnot_24 : decode cX2_tieKnot 24 = .ok (.aload_n 0, 1) := by decide +kernel
theorem dX2_tieKnot_25 : decode cX2_tieKnot 25 = .ok (.getfield 44, 3) := by decide +kernel
theorem dX2_tieKnot_28 : decode cX2_tieKnot 28 = .ok (.ifCond .lt 15, 3) := by decide +kernel
theorem dX2_tieKnot_31 : decode cX2_tieKnot 31 = .ok (.aload_n 0, 1) := by decide +kernel
theorem dX2_tieKnot_32 : decode cX2_tieKnot 32 = .ok (.getfield 44, 3) := by decide +kernel
theorem dX2_tieKnot_35 : decode cX2_tieKnot 35 = .ok (.aload_n 0, 1) := by decide +kernel
theorem dX2_tieKnot_36 : decode cX2_tieKnot 36 = .ok (.getfield 18, 3) := by decide +kernel
theorem dX2_tieKnot_39 : decode cX2_tieKnot 39 = .ok (.arraylength, 1) := by decide +kernel
theorem dX2_tieKnot_40 : decode cX2_tieKnot 40 = .ok (.if_icmp .lt 6, 3) := by decide +kernel
theorem dX2_tieKnot_43 : decode cX2_tieKnot 43 = .ok (.bipush (-5), 2) := by decide +kernel
theorem dX2_tieKnot_45 : decode cX2_tieKnot 45 = .ok (.ireturn, 1) := by decide +kernel
theorem dX2_tieKnot_46 : decode cX2_tieKnot 46 = .ok (.aload_n 0, 1) := by decide +kernel
theorem dX2_tieKnot_47 : decode cX2_tieKnot 47 = .ok (.dup, 1) := by decide +kernel
theorem dX2_tieKnot_48 : decode cX2_tieKnot 48 = .ok (.getfield 33, 3) := by decide +kernel
theorem dX2_tieKnot_51 : decode cX2_tieKnot 51 = .ok (.iload_n 1, 1) := by decide +kernel
theorem dX2_tieKnot_52 : decode cX2_tieKnot 52 = .ok (.isub, 1) := by decide +kernel
theorem dX2_tieKnot_53 : decode cX2_tieKnot 53 = .ok (.putfield 33, 3) := by decide +kernel
theorem dX2_tieKnot_56 : decode cX2_tieKnot 56 = .ok (.aload_n 0, 1) := by decide +kernel
theorem dX2_tieKnot_57 : decode cX2_tieKnot 57 = .ok (.iconst 0, 1) := by decide +kernel
theorem dX2_tieKnot_58 : decode cX2_tieKnot 58 = .ok (.putfield 40, 3) := by decide +kernel
theorem dX2_tieKnot_61 : decode cX2_tieKnot 61 = .ok (.aload_n 0, 1) := by decide +kernel
theorem dX2_tieKnot_62 : decode cX2_tieKnot 62 = .ok (.getfield 18, 3) := by decide +kernel
theorem dX2_tieKnot_65 : decode cX2_tieKnot 65 = .ok (.aload_n 0, 1) := by decide +kernel
theorem dX2_tieKnot_66 : decode cX2_tieKnot 66 = .ok (.getfield 44, 3) := by decide +kernel
theorem dX2_tieKnot_69 : decode cX2_tieKnot 69 = .ok (.dup2, 1) := by decide +kernel
theorem dX2_tieKnot_70 : decode cX2_tieKnot 70 = .ok (.iaload, 1) := by decide +kernel
theorem dX2_tieKnot_71 : decode cX2_tieKnot 71 = .ok (.iconst 1, 1) := by decide +kernel
theorem dX2_tieKnot_72 : decode cX2_tieKnot 72 = .ok (.iadd, 1) := by decide +kernel
theorem dX2_tieKnot_73 : decode cX2_tieKnot 73 = .ok (.iastore, 1) := by decide +kernel
theorem dX2_tieKnot_74 : decode cX2_tieKnot 74 = .ok (.aload_n 0, 1) := by decide +kernel
theorem dX2_tieKnot_75 : decode cX2_tieKnot 75 = .ok (.getfield 18, 3) := by decide +kernel
theorem dX2_tieKnot_78 : decode cX2_tieKnot 78 = .ok (.aload_n 0, 1) := by decide +kernel
theorem dX2_tieKnot_79 : decode cX2_tieKnot 79 = .ok (.getfield 44, 3) := by decide +kernel
theorem dX2_tieKnot_82 : decode cX2_tieKnot 82 = .ok (.iaload, 1) := by decide +kernel
theorem dX2_tieKnot_83 : decode cX2_tieKnot 83 = .ok (.ireturn, 1) := by decide +kernel
set_option maxRecDepth 20000 in
theorem ggX2_changeCone_X4_inRange : GoodIn wsX2_changeCone wsX4_inRange := goodIn_r _ [6, 7, 8, 5, 9, 10, 11, 12, 13, 14] (by decide +kernel) (by decide +kernel)
set_option maxRecDepth 20000 in
theorem gX2_changeCone_X4_inRange_n84 : GoodIn wsX2_changeCone (wsX4_inRange) := ggX2_changeCone_X4_inRange
theorem dX2_changeCone_0 : decode cX2_changeCone 0 = .ok (.bipush 6, 2) := by decide +kernel
theorem dX2_changeCone_2 : decode cX2_changeCone 2 = .ok (.iload_n 1, 1) := by decide +kernel
theorem dX2_changeCone_3 : decode cX2_changeCone 3 = .ok (.invokestatic 84, 3) := by decide +kernel
theorem dX2_changeCone_6 : decode cX2_changeCone 6 = .ok (.ifCond .ne 6, 3) := by decide +kernel
theorem dX2_changeCone_9 : decode cX2_changeCone 9 = .ok (.bipush (-2), 2) := by decide +kernel
theorem dX2_changeCone_11 : decode cX2_changeCone 11 = .ok (.ireturn, 1) := by decide +kernel
theorem dX2_changeCone_12 : decode cX2_changeCone 12 = .ok (.aload_n 0, 1) := by decide +kernel
theorem dX2_changeCone_13 : decode cX2_changeCone 13 = .ok (.getfield 33, 3) := by decide +kernel
theorem dX2_changeCone_16 : decode cX2_changeCone 16 = .ok (.istore_n 2, 1) := by decide +kernel
theorem dX2_changeCone_17 : decode cX2_changeCone 17 = .ok (.aload_n 0, 1) := by decide +kernel
theorem dX2_changeCone_18 : decode cX2_changeCone 18 = .ok (.iload_n 1, 1) := by decide +kernel
theorem dX2_changeCone_19 : decode cX2_changeCone 19 = .ok (.putfield 33, 3) := by decide +kernel
theorem dX2_changeCone_22 : decode cX2_changeCone 22 = .ok (.aload_n 0, 1) := by decide +kernel
theorem dX2_changeCone_23 : decode cX2_changeCone 23 = .ok (.aload_n 0, 1) := by decide +kernel
theorem dX2_changeCone_24 : decode cX2_changeCone 24 = .ok (.getfield 12, 3) := by decide +kernel
theorem dX2_changeCone_27 : decode cX2_changeCone 27 = .ok (.getfield 92, 3) := by decide +kernel
theorem dX2_changeCone_30 : decode cX2_changeCone 30 = .ok (.ifCond .le 7, 3) := by decide +kernel
theorem dX2_changeCone_33 : decode cX2_changeCone 33 = .ok (.iconst 1, 1) := by decide +kernel
theorem dX2_changeCone_34 : decode cX2_changeCone 34 = .ok (.goto 4, 3) := by decide +kernel
theorem dX2_changeCone_37 : decode cX2_changeCone 37 = .ok (.iconst 0, 1) := by decide +kernel
theorem dX2_changeCone_38 : decode cX2_changeCone 38 = .ok (.putfield 40, 3) := by decide +kernel
theorem dX2_changeCone_41 : decode cX2_changeCone 41 = .ok (.iload_n 2, 1) := by decide +kernel
theorem dX2_changeCone_42 : decode cX2_changeCone 42 = .ok (.ireturn, 1) := by decide +kernel
set_option maxRecDepth 20000 in
theorem ggX2_takePackageOff_X3_clear : GoodIn wsX2_takePackageOff wsX3_clear := goodIn_r _ [10, 11, 12, 13, 14, 15, 16, 17, 18, 31, 32, 33, 34] (by decide +kernel) (by decide +kernel)
set_option maxRecDepth 20000 in
theorem gX2_takePackageOff_X3_clear_n131 : GoodIn wsX2_takePackageOff (wsX3_clear) := ggX2_takePackageOff_X3_clear
set_option maxRecDepth 20000 in
theorem ggX2_takePackageOff_J7_fill_53178 : GoodIn wsX2_takePackageOff wsJ7_fill_53178 := goodIn_r _ [18] (by decide +kernel) (by decide +kernel)
set_option maxRecDepth 20000 in
theorem gX2_takePackageOff_J7_fill_53178 : GoodIn wsX2_takePackageOff (va_wsS RX2 134 yJ7_fill_53178 wsJ7_fill_53178) := goodIn_app (goodIn_of _ (by decide +kernel)) ggX2_takePackageOff_J7_fill_53178
theorem dX2_takePackageOff_0 : decode cX2_takePackageOff 0 = .ok (.aload_n 0, 1) := by decide +kernel
theorem dX2_takePackageOff_1 : decode cX2_takePackageOff 1 = .ok (.getfield 12, 3) := by decide +kernel
theorem dX2_takePackageOff_4 : decode cX2_takePackageOff 4 = .ok (.getfield 92, 3) := by decide +kernel
theorem dX2_takePackageOff_7 : decode cX2_takePackageOff 7 = .ok (.istore_n 1, 1) := by decide +kernel
theorem dX2_takePackageOff_8 : decode cX2_takePackageOff 8 = .ok (.iload_n 1, 1) := by decide +kernel
theorem dX2_takePackageOff_9 : decode cX2_takePackageOff 9 = .ok (.ifCond .ne 6, 3) := by decide +kernel
theorem dX2_takePackageOff_12 : decode cX2_takePackageOff 12 = .ok (.bipush (-5), 2) := by decide +kernel
theorem dX2_takePackageOff_14 : decode cX2_takePackageOff 14 = .ok (.ireturn, 1) := by decide +kernel
theorem dX2_takePackageOff_15 : decode cX2_takePackageOff 15 = .ok (.aload_n 0, 1) := by decide +kernel
theorem dX2_takePackageOff_16 : decode cX2_takePackageOff 16 = .ok (.getfield 12, 3) := by decide +kernel
theorem dX2_takePackageOff_19 : decode cX2_takePackageOff 19 = .ok (.invokevirtual 131, 3) := by decide +kernel
theorem dX2_takePackageOff_22 : decode cX2_takePackageOff 22 = .ok (.aload_n 0, 1) := by decide +kernel
theorem dX2_takePackageOff_23 : decode cX2_takePackageOff 23 = .ok (.getfield 18, 3) := by decide +kernel
theorem dX2_takePackageOff_26 : decode cX2_takePackageOff 26 = .ok (.iconst 0, 1) := by decide +kernel
theorem dX2_takePackageOff_27 : decode cX2_takePackageOff 27 = .ok (.invokestatic 134, 3) := by decide +kernel
theorem dX2_takePackageOff_30 : decode cX2_takePackageOff 30 = .ok (.aload_n 0, 1) := by decide +kernel
theorem dX2_takePackageOff_31 : decode cX2_takePackageOff 31 = .ok (.iconst 0, 1) := by decide +kernel
theorem dX2_takePackageOff_32 : decode cX2_takePackageOff 32 = .ok (.putfield 40, 3) := by decide +kernel
theorem dX2_takePackageOff_35 : decode cX2_takePackageOff 35 = .ok (.aload_n 0, 1) := by decide +kernel
theorem dX2_takePackageOff_36 : decode cX2_takePackageOff 36 = .ok (.iconst (-1), 1) := by decide +kernel
theorem dX2_takePackageOff_37 : decode cX2_takePackageOff 37 = .ok (.putfield 44, 3) := by decide +kernel
theorem dX2_takePackageOff_40 : decode cX2_takePackageOff 40 = .ok (.aload_n 0, 1) := by decide +kernel
theorem dX2_takePackageOff_41 : decode cX2_takePackageOff 41 = .ok (.iconst 0, 1) := by decide +kernel
theorem dX2_takePackageOff_42 : decode cX2_takePackageOff 42 = .ok (.putfield 47, 3) := by decide +kernel
theorem dX2_takePackageOff_45 : decode cX2_takePackageOff 45 = .ok (.aload_n 0, 1) := by decide +kernel
theorem dX2_takePackageOff_46 : decode cX2_takePackageOff 46 = .ok (.dup, 1) := by decide +kernel
theorem dX2_takePackageOff_47 : decode cX2_takePackageOff 47 = .ok (.getfield 56, 3) := by decide +kernel
theorem dX2_takePackageOff_50 : decode cX2_takePackageOff 50 = .ok (.iconst 1, 1) := by decide +kernel
theorem dX2_takePackageOff_51 : decode cX2_takePackageOff 51 = .ok (.iadd, 1) := by decide +kernel
theorem dX2_takePackageOff_52 : decode cX2_takePackageOff 52 = .ok (.putfield 56, 3) := by decide +kernel
theorem dX2_takePackageOff_55 : decode cX2_takePackageOff 55 = .ok (.iload_n 1, 1) := by decide +kernel
theorem dX2_takePackageOff_56 : decode cX2_takePackageOff 56 = .ok (.ireturn, 1) := by decide +kernel
set_option maxRecDepth 20000 in
theorem ggX2_isIdle_X2_isConeEmpty : GoodIn wsX2_isIdle wsX2_isConeEmpty := goodIn_r _ [7, 8, 14, 15, 16, 17, 18, 19, 20, 21, 22, 23, 24] (by decide +kernel) (by decide +kernel)
set_option maxRecDepth 20000 in
theorem gX2_isIdle_X2_isConeEmpty : GoodIn wsX2_isIdle (wsV RX2 140 RX2 yX2_isConeEmpty wsX2_isConeEmpty) := goodIn_app (goodIn_of _ (by decide +kernel)) ggX2_isIdle_X2_isConeEmpty
set_option maxRecDepth 20000 in
theorem ggX2_isIdle_X3_isFull : GoodIn wsX2_isIdle wsX3_isFull := goodIn_r _ [12, 13, 25, 26, 27, 28] (by decide +kernel) (by decide +kernel)
set_option maxRecDepth 20000 in
theorem gX2_isIdle_X3_isFull_n143 : GoodIn wsX2_isIdle (wsX3_isFull) := ggX2_isIdle_X3_isFull
theorem dX2_isIdle_0 : decode cX2_isIdle 0 = .ok (.aload_n 0, 1) := by decide +kernel
theorem dX2_isIdle_1 : decode cX2_isIdle 1 = .ok (.getfield 40, 3) := by decide +kernel
theorem dX2_isIdle_4 : decode cX2_isIdle 4 = .ok (.ifCond .ne 20, 3) := by decide +kernel
theorem dX2_isIdle_7 : decode cX2_isIdle 7 = .ok (.aload_n 0, 1) := by decide +kernel
theorem dX2_isIdle_8 : decode cX2_isIdle 8 = .ok (.invokevirtual 140, 3) := by decide +kernel
theorem dX2_isIdle_11 : decode cX2_isIdle 11 = .ok (.ifCond .ne 13, 3) := by decide +kernel
theorem dX2_isIdle_14 : decode cX2_isIdle 14 = .ok (.aload_n 0, 1) := by decide +kernel
theorem dX2_isIdle_15 : decode cX2_isIdle 15 = .ok (.getfield 12, 3) := by decide +kernel
theorem dX2_isIdle_18 : decode cX2_isIdle 18 = .ok (.invokevirtual 143, 3) := by decide +kernel
theorem dX2_isIdle_21 : decode cX2_isIdle 21 = .ok (.ifCond .eq 7, 3) := by decide +kernel
theorem dX2_isIdle_24 : decode cX2_isIdle 24 = .ok (.iconst 1, 1) := by decide +kernel
theorem dX2_isIdle_25 : decode cX2_isIdle 25 = .ok (.goto 4, 3) := by decide +kernel
theorem dX2_isIdle_28 : decode cX2_isIdle 28 = .ok (.iconst 0, 1) := by decide +kernel
theorem dX2_isIdle_29 : decode cX2_isIdle 29 = .ok (.ireturn, 1) := by decide +kernel
theorem dX2_isConeEmpty_0 : decode cX2_isConeEmpty 0 = .ok (.aload_n 0, 1) := by decide +kernel
theorem dX2_isConeEmpty_1 : decode cX2_isConeEmpty 1 = .ok (.getfield 33, 3) := by decide +kernel
theorem dX2_isConeEmpty_4 : decode cX2_isConeEmpty 4 = .ok (.ifCond .ne 7, 3) := by decide +kernel
theorem dX2_isConeEmpty_7 : decode cX2_isConeEmpty 7 = .ok (.iconst 1, 1) := by decide +kernel
theorem dX2_isConeEmpty_8 : decode cX2_isConeEmpty 8 = .ok (.goto 4, 3) := by decide +kernel
theorem dX2_isConeEmpty_11 : decode cX2_isConeEmpty 11 = .ok (.iconst 0, 1) := by decide +kernel
theorem dX2_isConeEmpty_12 : decode cX2_isConeEmpty 12 = .ok (.ireturn, 1) := by decide +kernel
theorem dX2_number_0 : decode cX2_number 0 = .ok (.iload_n 1, 1) := by decide +kernel
theorem dX2_number_1 : decode cX2_number 1 = .ok (.ifCond .lt 21, 3) := by decide +kernel
theorem dX2_number_4 : decode cX2_number 4 = .ok (.iload_n 1, 1) := by decide +kernel
theorem dX2_number_5 : decode cX2_number 5 = .ok (.aload_n 0, 1) := by decide +kernel
theorem dX2_number_6 : decode cX2_number 6 = .ok (.getfield 30, 3) := by decide +kernel
theorem dX2_number_9 : decode cX2_number 9 = .ok (.arraylength, 1) := by decide +kernel
theorem dX2_number_10 : decode cX2_number 10 = .ok (.if_icmp .ge 12, 3) := by decide +kernel
theorem dX2_number_13 : decode cX2_number 13 = .ok (.aload_n 0, 1) := by decide +kernel
theorem dX2_number_14 : decode cX2_number 14 = .ok (.getfield 30, 3) := by decide +kernel
theorem dX2_number_17 : decode cX2_number 17 = .ok (.iload_n 1, 1) := by decide +kernel
theorem dX2_number_18 : decode cX2_number 18 = .ok (.iaload, 1) := by decide +kernel
theorem dX2_number_19 : decode cX2_number 19 = .ok (.goto 4, 3) := by decide +kernel
theorem dX2_number_22 : decode cX2_number 22 = .ok (.iconst 0, 1) := by decide +kernel
theorem dX2_number_23 : decode cX2_number 23 = .ok (.ireturn, 1) := by decide +kernel
theorem dX2_knotsAt_0 : decode cX2_knotsAt 0 = .ok (.iload_n 1, 1) := by decide +kernel
theorem dX2_knotsAt_1 : decode cX2_knotsAt 1 = .ok (.ifCond .lt 21, 3) := by decide +kernel
theorem dX2_knotsAt_4 : decode cX2_knotsAt 4 = .ok (.iload_n 1, 1) := by decide +kernel
theorem dX2_knotsAt_5 : decode cX2_knotsAt 5 = .ok (.aload_n 0, 1) := by decide +kernel
theorem dX2_knotsAt_6 : decode cX2_knotsAt 6 = .ok (.getfield 18, 3) := by decide +kernel
theorem dX2_knotsAt_9 : decode cX2_knotsAt 9 = .ok (.arraylength, 1) := by decide +kernel
theorem dX2_knotsAt_10 : decode cX2_knotsAt 10 = .ok (.if_icmp .ge 12, 3) := by decide +kernel
theorem dX2_knotsAt_13 : decode cX2_knotsAt 13 = .ok (.aload_n 0, 1) := by decide +kernel
theorem dX2_knotsAt_14 : decode cX2_knotsAt 14 = .ok (.getfield 18, 3) := by decide +kernel
theorem dX2_knotsAt_17 : decode cX2_knotsAt 17 = .ok (.iload_n 1, 1) := by decide +kernel
theorem dX2_knotsAt_18 : decode cX2_knotsAt 18 = .ok (.iaload, 1) := by decide +kernel
theorem dX2_knotsAt_19 : decode cX2_knotsAt 19 = .ok (.goto 4, 3) := by decide +kernel
theorem dX2_knotsAt_22 : decode cX2_knotsAt 22 = .ok (.iconst 0, 1) := by decide +kernel
theorem dX2_knotsAt_23 : decode cX2_knotsAt 23 = .ok (.ireturn, 1) := by decide +kernel
set_option maxRecDepth 20000 in
theorem ggX2_isBad_X2_knotsAt : GoodIn wsX2_isBad wsX2_knotsAt := goodIn_r _ [5, 6, 7, 8, 9, 10, 11, 12, 13, 14, 15, 16, 17] (by decide +kernel) (by decide +kernel)
set_option maxRecDepth 20000 in
theorem gX2_isBad_X2_knotsAt : GoodIn wsX2_isBad (wsV RX2 146 RX2 yX2_knotsAt wsX2_knotsAt) := goodIn_app (goodIn_of _ (by decide +kernel)) ggX2_isBad_X2_knotsAt
theorem dX2_isBad_0 : decode cX2_isBad 0 = .ok (.aload_n 0, 1) := by decide +kernel
theorem dX2_isBad_1 : decode cX2_isBad 1 = .ok (.iload_n 1, 1) := by decide +kernel
theorem dX2_isBad_2 : decode cX2_isBad 2 = .ok (.invokevirtual 146, 3) := by decide +kernel
theorem dX2_isBad_5 : decode cX2_isBad 5 = .ok (.iconst 2, 1) := by decide +kernel
theorem dX2_isBad_6 : decode cX2_isBad 6 = .ok (.if_icmp .le 7, 3) := by decide +kernel
theorem dX2_isBad_9 : decode cX2_isBad 9 = .ok (.iconst 1, 1) := by decide +kernel
theorem dX2_isBad_10 : decode cX2_isBad 10 = .ok (.goto 4, 3) := by decide +kernel
theorem dX2_isBad_13 : decode cX2_isBad 13 = .ok (.iconst 0, 1) := by decide +kernel
theorem dX2_isBad_14 : decode cX2_isBad 14 = .ok (.ireturn, 1) := by decide +kernel
set_option maxRecDepth 20000 in
theorem ggX2_hasBadPlace_X2_isBad : GoodIn wsX2_hasBadPlace wsX2_isBad := goodIn_r _ [5, 6, 7, 8, 4, 9, 10, 11, 12, 13, 14, 15, 16, 17, 18, 19, 20, 21] (by decide +kernel) (by decide +kernel)
set_option maxRecDepth 20000 in
theorem gX2_hasBadPlace_X2_isBad : GoodIn wsX2_hasBadPlace (wsV RX2 149 RX2 yX2_isBad wsX2_isBad) := goodIn_app (goodIn_of _ (by decide +kernel)) ggX2_hasBadPlace_X2_isBad
theorem dX2_hasBadPlace_0 : decode cX2_hasBadPlace 0 = .ok (.iconst 0, 1) := by decide +kernel
theorem dX2_hasBadPlace_1 : decode cX2_hasBadPlace 1 = .ok (.istore_n 1, 1) := by decide +kernel
theorem dX2_hasBadPlace_2 : decode cX2_hasBadPlace 2 = .ok (.iconst 0, 1) := by decide +kernel
theorem dX2_hasBadPlace_3 : decode cX2_hasBadPlace 3 = .ok (.istore_n 2, 1) := by decide +kernel
theorem dX2_hasBadPlace_4 : decode cX2_hasBadPlace 4 = .ok (.iload_n 2, 1) := by decide +kernel
theorem dX2_hasBadPlace_5 : decode cX2_hasBadPlace 5 = .ok (.bipush 12, 2) := by decide +kernel
theorem dX2_hasBadPlace_7 : decode cX2_hasBadPlace 7 = .ok (.if_icmp .ge 27, 3) := by decide +kernel
theorem dX2_hasBadPlace_10 : decode cX2_hasBadPlace 10 = .ok (.iload_n 1, 1) := by decide +kernel
theorem dX2_hasBadPlace_11 : decode cX2_hasBadPlace 11 = .ok (.ifCond .ne 11, 3) := by decide +kernel
theorem dX2_hasBadPlace_14 : decode cX2_hasBadPlace 14 = .ok (.aload_n 0, 1) := by decide +kernel
theorem dX2_hasBadPlace_15 : decode cX2_hasBadPlace 15 = .ok (.iload_n 2, 1) := by decide +kernel
theorem dX2_hasBadPlace_16 : decode cX2_hasBadPlace 16 = .ok (.invokevirtual 149, 3) := by decide +kernel
theorem dX2_hasBadPlace_19 : decode cX2_hasBadPlace 19 = .ok (.ifCond .eq 7, 3) := by decide +kernel
theorem dX2_hasBadPlace_22 : decode cX2_hasBadPlace 22 = .ok (.iconst 1, 1) := by decide +kernel
theorem dX2_hasBadPlace_23 : decode cX2_hasBadPlace 23 = .ok (.goto 4, 3) := by decide +kernel
theorem dX2_hasBadPlace_26 : decode cX2_hasBadPlace 26 = .ok (.iconst 0, 1) := by decide +kernel
theorem dX2_hasBadPlace_27 : decode cX2_hasBadPlace 27 = .ok (.istore_n 1, 1) := by decide +kernel
theorem dX2_hasBadPlace_28 : decode cX2_hasBadPlace 28 = .ok (.iinc 2 1, 3) := by decide +kernel
theorem dX2_hasBadPlace_31 : decode cX2_hasBadPlace 31 = .ok (.goto (-27), 3) := by decide +kernel
theorem dX2_hasBadPlace_34 : decode cX2_hasBadPlace 34 = .ok (.iload_n 1, 1) := by decide +kernel
theorem dX2_hasBadPlace_35 : decode cX2_hasBadPlace 35 = .ok (.ireturn, 1) := by decide +kernel
theorem dX2_allKnots_0 : decode cX2_allKnots 0 = .ok (.iconst 0, 1) := by decide +kernel
theorem dX2_allKnots_1 : decode cX2_allKnots 1 = .ok (.istore_n 1, 1) := by decide +kernel
theorem dX2_allKnots_2 : decode cX2_allKnots 2 = .ok (.aload_n 0, 1) := by decide +kernel
theorem dX2_allKnots_3 : decode cX2_allKnots 3 = .ok (.getfield 18, 3) := by decide +kernel
theorem dX2_allKnots_6 : decode cX2_allKnots 6 = .ok (.astore_n 2, 1) := by decide +kernel
theorem dX2_allKnots_7 : decode cX2_allKnots 7 = .ok (.aload_n 2, 1) := by decide +kernel
theorem dX2_allKnots_8 : decode cX2_allKnots 8 = .ok (.arraylength, 1) := by decide +kernel
theorem dX2_allKnots_9 : decode cX2_allKnots 9 = .ok (.istore_n 3, 1) := by decide +kernel
theorem dX2_allKnots_10 : decode cX2_allKnots 10 = .ok (.iconst 0, 1) := by decide +kernel
theorem dX2_allKnots_11 : decode cX2_allKnots 11 = .ok (.istore 4, 2) := by decide +kernel
theorem dX2_allKnots_13 : decode cX2_allKnots 13 = .ok (.iload 4, 2) := by decide +kernel
theorem dX2_allKnots_15 : decode cX2_allKnots 15 = .ok (.iload_n 3, 1) := by decide +kernel
theorem dX2_allKnots_16 : decode cX2_allKnots 16 = .ok (.if_icmp .ge 20, 3) := by decide +kernel
theorem dX2_allKnots_19 : decode cX2_allKnots 19 = .ok (.aload_n 2, 1) := by decide +kernel
theorem dX2_allKnots_20 : decode cX2_allKnots 20 = .ok (.iload 4, 2) := by decide +kernel
theorem dX2_allKnots_22 : decode cX2_allKnots 22 = .ok (.iaload, 1) := by decide +kernel
theorem dX2_allKnots_23 : decode cX2_allKnots 23 = .ok (.istore 5, 2) := by decide +kernel
theorem dX2_allKnots_25 : decode cX2_allKnots 25 = .ok (.iload_n 1, 1) := by decide +kernel
theorem dX2_allKnots_26 : decode cX2_allKnots 26 = .ok (.iload 5, 2) := by decide +kernel
theorem dX2_allKnots_28 : decode cX2_allKnots 28 = .ok (.iadd, 1) := by decide +kernel
theorem dX2_allKnots_29 : decode cX2_allKnots 29 = .ok (.istore_n 1, 1) := by decide +kernel
theorem dX2_allKnots_30 : decode cX2_allKnots 30 = .ok (.iinc 4 1, 3) := by decide +kernel
theorem dX2_allKnots_33 : decode cX2_allKnots 33 = .ok (.goto (-20), 3) := by decide +kernel
theorem dX2_allKnots_36 : decode cX2_allKnots 36 = .ok (.iload_n 1, 1) := by decide +kernel
theorem dX2_allKnots_37 : decode cX2_allKnots 37 = .ok (.ireturn, 1) := by decide +kernel
end
section
theorem dX3_init_0 : decode cX3_init 0 = .ok (.aload_n 0, 1) := by decide +kernel
theorem dX3_init_1 : decode cX3_init 1 = .ok (.invokespecial 3, 3) := by decide +kernel
theorem dX3_init_4 : decode cX3_init 4 = .ok (.aload_n 0, 1) := by decide +kernel
theorem dX3_init_5 : decode cX3_init 5 = .ok (.bipush 12, 2) := by decide +kernel
theorem dX3_init_7 : decode cX3_init 7 = .ok (.newarray .int, 2) := by decide +kernel
theorem dX3_init_9 : decode cX3_init 9 = .ok (.putfield 9, 3) := by decide +kernel
theorem dX3_init_12 : decode cX3_init 12 = .ok (.aload_n 0, 1) := by decide +kernel
theorem dX3_init_13 : decode cX3_init 13 = .ok (.iconst 0, 1) := by decide +kernel
theorem dX3_init_14 : decode cX3_init 14 = .ok (.putfield 15, 3) := by decide +kernel
theorem dX3_init_17 : decode cX3_init 17 = .ok (.aload_n 0, 1) := by decide +kernel
theorem dX3_init_18 : decode cX3_init 18 = .ok (.iconst 0, 1) := by decide +kernel
theorem dX3_init_19 : decode cX3_init 19 = .ok (.putfield 19, 3) := by decide +kernel
theorem dX3_init_22 : decode cX3_init 22 = .ok (.aload_n 0, 1) := by decide +kernel
theorem dX3_init_23 : decode cX3_init 23 = .ok (.iconst 0, 1) := by decide +kernel
theorem dX3_init_24 : decode cX3_init 24 = .ok (.putfield 22, 3) := by decide +kernel
theorem dX3_init_27 : decode cX3_init 27 = .ok (.return_, 1) := by decide +kernel
theorem dX3_copyFrom_0 : decode cX3_copyFrom 0 = .ok (.aload_n 1, 1) := by decide +kernel
theorem dX3_copyFrom_1 : decode cX3_copyFrom 1 = .ok (.getfield 9, 3) := by decide +kernel
theorem dX3_copyFrom_4 : decode cX3_copyFrom 4 = .ok (.iconst 0, 1) := by decide +kernel
theorem dX3_copyFrom_5 : decode cX3_copyFrom 5 = .ok (.aload_n 0, 1) := by decide +kernel
theorem dX3_copyFrom_6 : decode cX3_copyFrom 6 = .ok (.getfield 9, 3) := by decide +kernel
theorem dX3_copyFrom_9 : decode cX3_copyFrom 9 = .ok (.iconst 0, 1) := by decide +kernel
theorem dX3_copyFrom_10 : decode cX3_copyFrom 10 = .ok (.bipush 12, 2) := by decide +kernel
theorem dX3_copyFrom_12 : decode cX3_copyFrom 12 = .ok (.invokestatic 25, 3) := by decide +kernel
theorem dX3_copyFrom_15 : decode cX3_copyFrom 15 = .ok (.aload_n 0, 1) := by decide +kernel
theorem dX3_copyFrom_16 : decode cX3_copyFrom 16 = .ok (.aload_n 1, 1) := by decide +kernel
theorem dX3_copyFrom_17 : decode cX3_copyFrom 17 = .ok (.getfield 15, 3) := by decide +kernel
theorem dX3_copyFrom_20 : decode cX3_copyFrom 20 = .ok (.putfield 15, 3) := by decide +kernel
theorem dX3_copyFrom_23 : decode cX3_copyFrom 23 = .ok (.aload_n 0, 1) := by decide +kernel
theorem dX3_copyFrom_24 : decode cX3_copyFrom 24 = .ok (.aload_n 1, 1) := by decide +kernel
theorem dX3_copyFrom_25 : decode cX3_copyFrom 25 = .ok (.getfield 19, 3) := by decide +kernel
theorem dX3_copyFrom_28 : decode cX3_copyFrom 28 = .ok (.putfield 19, 3) := by decide +kernel
theorem dX3_copyFrom_31 : decode cX3_copyFrom 31 = .ok (.aload_n 0, 1) := by decide +kernel
theorem dX3_copyFrom_32 : decode cX3_copyFrom 32 = .ok (.aload_n 1, 1) := by decide +kernel
theorem dX3_copyFrom_33 : decode cX3_copyFrom 33 = .ok (.getfield 22, 3) := by decide +kernel
theorem dX3_copyFrom_36 : decode cX3_copyFrom 36 = .ok (.putfield 22, 3) := by decide +kernel
theorem dX3_copyFrom_39 : decode cX3_copyFrom 39 = .ok (.return_, 1) := by decide +kernel
set_option maxRecDepth 20000 in
theorem ggX3_clear_J7_fill_53178 : GoodIn wsX3_clear wsJ7_fill_53178 := goodIn_r _ [8] (by decide +kernel) (by decide +kernel)
set_option maxRecDepth 20000 in
theorem gX3_clear_J7_fill_53178 : GoodIn wsX3_clear (va_wsS RX3 31 yJ7_fill_53178 wsJ7_fill_53178) := goodIn_app (goodIn_of _ (by decide +kernel)) ggX3_clear_J7_fill_53178
theorem dX3_clear_0 : decode cX3_clear 0 = .ok (.aload_n 0, 1) := by decide +kernel
theorem dX3_clear_1 : decode cX3_clear 1 = .ok (.getfield 9, 3) := by decide +kernel
theorem dX3_clear_4 : decode cX3_clear 4 = .ok (.iconst 0, 1) := by decide +kernel
theorem dX3_clear_5 : decode cX3_clear 5 = .ok (.invokestatic 31, 3) := by decide +kernel
theorem dX3_clear_8 : decode cX3_clear 8 = .ok (.aload_n 0, 1) := by decide +kernel
theorem dX3_clear_9 : decode cX3_clear 9 = .ok (.iconst 0, 1) := by decide +kernel
theorem dX3_clear_10 : decode cX3_clear 10 = .ok (.putfield 15, 3) := by decide +kernel
theorem dX3_clear_13 : decode cX3_clear 13 = .ok (.aload_n 0, 1) := by decide +kernel
theorem dX3_clear_14 : decode cX3_clear 14 = .ok (.iconst 0, 1) := by decide +kernel
theorem dX3_clear_15 : decode cX3_clear 15 = .ok (.putfield 19, 3) := by decide +kernel
theorem dX3_clear_18 : decode cX3_clear 18 = .ok (.aload_n 0, 1) := by decide +kernel
theorem dX3_clear_19 : decode cX3_clear 19 = .ok (.iconst 0, 1) := by decide +kernel
theorem dX3_clear_20 : decode cX3_clear 20 = .ok (.putfield 22, 3) := by decide +kernel
theorem dX3_clear_23 : decode cX3_clear 23 = .ok (.return_, 1) := by decide +kernel
theorem dX3_guidePlace_0 : decode cX3_guidePlace 0 = .ok (.aload_n 0, 1) := by decide +kernel
theorem dX3_guidePlace_1 : decode cX3_guidePlace 1 = .ok (.getfield 22, 3) := by decide +kernel
theorem dX3_guidePlace_4 : decode cX3_guidePlace 4 = .ok (.bipush 11, 2) := by decide +kernel
theorem dX3_guidePlace_6 : decode cX3_guidePlace 6 = .ok (.if_icmp .gt 10, 3) := by decide +kernel
theorem dX3_guidePlace_9 : decode cX3_guidePlace 9 = .ok (.aload_n 0, 1) := by decide +kernel
theorem dX3_guidePlace_10 : decode cX3_guidePlace 10 = .ok (.getfield 22, 3) := by decide +kernel
theorem dX3_guidePlace_13 : decode cX3_guidePlace 13 = .ok (.goto 10, 3) := by decide +kernel
theorem dX3_guidePlace_16 : decode cX3_guidePlace 16 = .ok (.bipush 22, 2) := by decide +kernel
theorem dX3_guidePlace_18 : decode cX3_guidePlace 18 = .ok (.aload_n 0, 1) := by decide +kernel
theorem dX3_guidePlace_19 : decode cX3_guidePlace 19 = .ok (.getfield 22, 3) := by decide +kernel
theorem dX3_guidePlace_22 : decode cX3_guidePlace 22 = .ok (.isub, 1) := by decide +kernel
theorem dX3_guidePlace_23 : decode cX3_guidePlace 23 = .ok (.ireturn, 1) := by decide +kernel
theorem dX3_guideGoesBack_0 : decode cX3_guideGoesBack 0 = .ok (.aload_n 0, 1) := by decide +kernel
theorem dX3_guideGoesBack_1 : decode cX3_guideGoesBack 1 = .ok (.getfield 22, 3) := by decide +kernel
theorem dX3_guideGoesBack_4 : decode cX3_guideGoesBack 4 = .ok (.bipush 11, 2) := by decide +kernel
theorem dX3_guideGoesBack_6 : decode cX3_guideGoesBack 6 = .ok (.if_icmp .lt 7, 3) := by decide +kernel
theorem dX3_guideGoesBack_9 : decode cX3_guideGoesBack 9 = .ok (.iconst 1, 1) := by decide +kernel
theorem dX3_guideGoesBack_10 : decode cX3_guideGoesBack 10 = .ok (.goto 4, 3) := by decide +kernel
theorem dX3_guideGoesBack_13 : decode cX3_guideGoesBack 13 = .ok (.iconst 0, 1) := by decide +kernel
theorem dX3_guideGoesBack_14 : decode cX3_guideGoesBack 14 = .ok (.ireturn, 1) := by decide +kernel
set_option maxRecDepth 20000 in
theorem ggX3_moveGuide_X4_oneIf : GoodIn wsX3_moveGuide wsX4_oneIf := goodIn_r _ [4] (by decide +kernel) (by decide +kernel)
set_option maxRecDepth 20000 in
theorem gX3_moveGuide_X4_oneIf_n37 : GoodIn wsX3_moveGuide (wsX4_oneIf) := ggX3_moveGuide_X4_oneIf
theorem dX3_moveGuide_0 : decode cX3_moveGuide 0 = .ok (.bipush 8, 2) := by decide +kernel
theorem dX3_moveGuide_2 : decode cX3_moveGuide 2 = .ok (.iload_n 2, 1) := by decide +kernel
theorem dX3_moveGuide_3 : decode cX3_moveGuide 3 = .ok (.isub, 1) := by decide +kernel
theorem dX3_moveGuide_4 : decode cX3_moveGuide 4 = .ok (.istore 4, 2) := by decide +kernel
theorem dX3_moveGuide_6 : decode cX3_moveGuide 6 = .ok (.iload_n 2, 1) := by decide +kernel
theorem dX3_moveGuide_7 : decode cX3_moveGuide 7 = .ok (.ifCond .le 19, 3) := by decide +kernel
theorem dX3_moveGuide_10 : decode cX3_moveGuide 10 = .ok (.iload 4, 2) := by decide +kernel
theorem dX3_moveGuide_12 : decode cX3_moveGuide 12 = .ok (.ifCond .le 14, 3) := by decide +kernel
theorem dX3_moveGuide_15 : decode cX3_moveGuide 15 = .ok (.iload_n 3, 1) := by decide +kernel
theorem dX3_moveGuide_16 : decode cX3_moveGuide 16 = .ok (.iload 4, 2) := by decide +kernel
theorem dX3_moveGuide_18 : decode cX3_moveGuide 18 = .ok (.irem, 1) := by decide +kernel
theorem dX3_moveGuide_19 : decode cX3_moveGuide 19 = .ok (.ifCond .ne 7, 3) := by decide +kernel
theorem dX3_moveGuide_22 : decode cX3_moveGuide 22 = .ok (.iconst 1, 1) := by decide +kernel
theorem dX3_moveGuide_23 : decode cX3_moveGuide 23 = .ok (.goto 4, 3) := by decide +kernel
theorem dX3_moveGuide_26 : decode cX3_moveGuide 26 = .ok (.iconst 0, 1) := by decide +kernel
theorem dX3_moveGuide_27 : decode cX3_moveGuide 27 = .ok (.istore 5, 2) := by decide +kernel
theorem dX3_moveGuide_29 : decode cX3_moveGuide 29 = .ok (.aload_n 0, 1) := by decide +kernel
theorem dX3_moveGuide_30 : decode cX3_moveGuide 30 = .ok (.aload_n 0, 1) := by decide +kernel
theorem dX3_moveGuide_31 : decode cX3_moveGuide 31 = .ok (.getfield 22, 3) := by decide +kernel
theorem dX3_moveGuide_34 : decode cX3_moveGuide 34 = .ok (.iload_n 1, 1) := by decide +kernel
theorem dX3_moveGuide_35 : decode cX3_moveGuide 35 = .ok (.iadd, 1) := by decide +kernel
theorem dX3_moveGuide_36 : decode cX3_moveGuide 36 = .ok (.iload 5, 2) := by decide +kernel
theorem dX3_moveGuide_38 : decode cX3_moveGuide 38 = .ok (.invokestatic 37, 3) := by decide +kernel
theorem dX3_moveGuide_41 : decode cX3_moveGuide 41 = .ok (.iadd, 1) := by decide +kernel
theorem dX3_moveGuide_42 : decode cX3_moveGuide 42 = .ok (.bipush 22, 2) := by decide +kernel
theorem dX3_moveGuide_44 : decode cX3_moveGuide 44 = .ok (.irem, 1) := by decide +kernel
theorem dX3_moveGuide_45 : decode cX3_moveGuide 45 = .ok (.putfield 22, 3) := by decide +kernel
theorem dX3_moveGuide_48 : decode cX3_moveGuide 48 = .ok (.return_, 1) := by decide +kernel
set_option maxRecDepth 20000 in
theorem ggX3_layWrap_X3_guidePlace : GoodIn wsX3_layWrap wsX3_guidePlace := goodIn_r _ [12, 13, 14, 15, 16, 17] (by decide +kernel) (by decide +kernel)
set_option maxRecDepth 20000 in
theorem gX3_layWrap_X3_guidePlace : GoodIn wsX3_layWrap (wsV RX3 41 RX3 yX3_guidePlace wsX3_guidePlace) := goodIn_app (goodIn_of _ (by decide +kernel)) ggX3_layWrap_X3_guidePlace
theorem dX3_layWrap_0 : decode cX3_layWrap 0 = .ok (.aload_n 0, 1) := by decide +kernel
theorem dX3_layWrap_1 : decode cX3_layWrap 1 = .ok (.invokevirtual 41, 3) := by decide +kernel
theorem dX3_layWrap_4 : decode cX3_layWrap 4 = .ok (.istore_n 1, 1) := by decide +kernel
theorem dX3_layWrap_5 : decode cX3_layWrap 5 = .ok (.iload_n 1, 1) := by decide +kernel
theorem dX3_layWrap_6 : decode cX3_layWrap 6 = .ok (.ifCond .lt 49, 3) := by decide +kernel
theorem dX3_layWrap_9 : decode cX3_layWrap 9 = .ok (.iload_n 1, 1) := by decide +kernel
theorem dX3_layWrap_10 : decode cX3_layWrap 10 = .ok (.aload_n 0, 1) := by decide +kernel
theorem dX3_layWrap_11 : decode cX3_layWrap 11 = .ok (.getfield 9, 3) := by decide +kernel
theorem dX3_layWrap_14 : decode cX3_layWrap 14 = .ok (.arraylength, 1) := by decide +kernel
theorem dX3_layWrap_15 : decode cX3_layWrap 15 = .ok (.if_icmp .ge 40, 3) := by decide +kernel
theorem dX3_layWrap_18 : decode cX3_layWrap 18 = .ok (.aload_n 0, 1) := by decide +kernel
theorem dX3_layWrap_19 : decode cX3_layWrap 19 = .ok (.getfield 9, 3) := by decide +kernel
theorem dX3_layWrap_22 : decode cX3_layWrap 22 = .ok (.iload_n 1, 1) := by decide +kernel
theorem dX3_layWrap_23 : decode cX3_layWrap 23 = .ok (.dup2, 1) := by decide +kernel
theorem dX3_layWrap_24 : decode cX3_layWrap 24 = .ok (.iaload, 1) := by decide +kernel
theorem dX3_layWrap_25 : decode cX3_layWrap 25 = .ok (.iconst 1, 1) := by decide +kernel
theorem dX3_layWrap_26 : decode cX3_layWrap 26 = .ok (.iadd, 1) := by decide +kernel
theorem dX3_layWrap_27 : decode cX3_layWrap 27 = .ok (.iastore, 1) := by decide +kernel
theorem dX3_layWrap_28 : decode cX3_layWrap 28 = .ok (.aload_n 0, 1) := by decide +kernel
theorem dX3_layWrap_29 : decode cX3_layWrap 29 = .ok (.dup, 1) := by decide +kernel
theorem dX3_layWrap_30 : decode cX3_layWrap 30 = .ok (.getfield 15, 3) := by decide +kernel
theorem dX3_layWrap_33 : decode cX3_layWrap 33 = .ok (.iconst 1, 1) := by decide +kernel
theorem dX3_layWrap_34 : decode cX3_layWrap 34 = .ok (.iadd, 1) := by decide +kernel
theorem dX3_layWrap_35 : decode cX3_layWrap 35 = .ok (.putfield 15, 3) := by decide +kernel
theorem dX3_layWrap_38 : decode cX3_layWrap 38 = .ok (.aload_n 0, 1) := by decide +kernel
theorem dX3_layWrap_39 : decode cX3_layWrap 39 = .ok (.aload_n 0, 1) := by decide +kernel
theorem dX3_layWrap_40 : decode cX3_layWrap 40 = .ok (.getfield 19, 3) := by decide +kernel
theorem dX3_layWrap_43 : decode cX3_layWrap 43 = .ok (.aload_n 0, 1) := by decide +kernel
theorem dX3_layWrap_44 : decode cX3_layWrap 44 = .ok (.getfield 9, 3) := by decide +kernel
theorem dX3_layWrap_47 : decode cX3_layWrap 47 = .ok (.iload_n 1, 1) := by decide +kernel
theorem dX3_layWrap_48 : decode cX3_layWrap 48 = .ok (.iaload, 1) := by decide +kernel
theorem dX3_layWrap_49 : decode cX3_layWrap 49 = .ok (.invokestatic 45, 3) := by decide +kernel
theorem dX3_layWrap_52 : decode cX3_layWrap 52 = .ok (.putfield 19, 3) := by decide +kernel
theorem dX3_layWrap_55 : decode cX3_layWrap 55 = .ok (.return_, 1) := by decide +kernel
theorem dX3_heightAt_0 : decode cX3_heightAt 0 = .ok (.iload_n 1, 1) := by decide +kernel
theorem dX3_heightAt_1 : decode cX3_heightAt 1 = .ok (.ifCond .lt 21, 3) := by decide +kernel
theorem dX3_heightAt_4 : decode cX3_heightAt 4 = .ok (.iload_n 1, 1) := by decide +kernel
theorem dX3_heightAt_5 : decode cX3_heightAt 5 = .ok (.aload_n 0, 1) := by decide +kernel
theorem dX3_heightAt_6 : decode cX3_heightAt 6 = .ok (.getfield 9, 3) := by decide +kernel
theorem dX3_heightAt_9 : decode cX3_heightAt 9 = .ok (.arraylength, 1) := by decide +kernel
theorem dX3_heightAt_10 : decode cX3_heightAt 10 = .ok (.if_icmp .ge 12, 3) := by decide +kernel
theorem dX3_heightAt_13 : decode cX3_heightAt 13 = .ok (.aload_n 0, 1) := by decide +kernel
theorem dX3_heightAt_14 : decode cX3_heightAt 14 = .ok (.getfield 9, 3) := by decide +kernel
theorem dX3_heightAt_17 : decode cX3_heightAt 17 = .ok (.iload_n 1, 1) := by decide +kernel
theorem dX3_heightAt_18 : decode cX3_heightAt 18 = .ok (.iaload, 1) := by decide +kernel
theorem dX3_heightAt_19 : decode cX3_heightAt 19 = .ok (.goto 4, 3) := by decide +kernel
theorem dX3_heightAt_22 : decode cX3_heightAt 22 = .ok (.iconst 0, 1) := by decide +kernel
theorem dX3_heightAt_23 : decode cX3_heightAt 23 = .ok (.ireturn, 1) := by decide +kernel
theorem dX3_isFull_0 : decode cX3_isFull 0 = .ok (.aload_n 0, 1) := by decide +kernel
theorem dX3_isFull_1 : decode cX3_isFull 1 = .ok (.getfield 19, 3) := by decide +kernel
theorem dX3_isFull_4 : decode cX3_isFull 4 = .ok (.sipush 200, 3) := by decide +kernel
theorem dX3_isFull_7 : decode cX3_isFull 7 = .ok (.if_icmp .lt 7, 3) := by decide +kernel
theorem dX3_isFull_10 : decode cX3_isFull 10 = .ok (.iconst 1, 1) := by decide +kernel
theorem dX3_isFull_11 : decode cX3_isFull 11 = .ok (.goto 4, 3) := by decide +kernel
theorem dX3_isFull_14 : decode cX3_isFull 14 = .ok (.iconst 0, 1) := by decide +kernel
theorem dX3_isFull_15 : decode cX3_isFull 15 = .ok (.ireturn, 1) := by decide +kernel
theorem dX3_evenness_0 : decode cX3_evenness 0 = .ok (.aload_n 0, 1) := by decide +kernel
theorem dX3_evenness_1 : decode cX3_evenness 1 = .ok (.getfield 19, 3) := by decide +kernel
theorem dX3_evenness_4 : decode cX3_evenness 4 = .ok (.istore_n 1, 1) := by decide +kernel
theorem dX3_evenness_5 : decode cX3_evenness 5 = .ok (.aload_n 0, 1) := by decide +kernel
theorem dX3_evenness_6 : decode cX3_evenness 6 = .ok (.getfield 9, 3) := by decide +kernel
theorem dX3_evenness_9 : decode cX3_evenness 9 = .ok (.astore_n 2, 1) := by decide +kernel
theorem dX3_evenness_10 : decode cX3_evenness 10 = .ok (.aload_n 2, 1) := by decide +kernel
theorem dX3_evenness_11 : decode cX3_evenness 11 = .ok (.arraylength, 1) := by decide +kernel
theorem dX3_evenness_12 : decode cX3_evenness 12 = .ok (.istore_n 3, 1) := by decide +kernel
theorem dX3_evenness_13 : decode cX3_evenness 13 = .ok (.iconst 0, 1) := by decide +kernel
theorem dX3_evenness_14 : decode cX3_evenness 14 = .ok (.istore 4, 2) := by decide +kernel
theorem dX3_evenness_16 : decode cX3_evenness 16 = .ok (.iload 4, 2) := by decide +kernel
theorem dX3_evenness_18 : decode cX3_evenness 18 = .ok (.iload_n 3, 1) := by decide +kernel
theorem dX3_evenness_19 : decode cX3_evenness 19 = .ok (.if_icmp .ge 22, 3) := by decide +kernel
theorem dX3_evenness_22 : decode cX3_evenness 22 = .ok (.aload_n 2, 1) := by decide +kernel
theorem dX3_evenness_23 : decode cX3_evenness 23 = .ok (.iload 4, 2) := by decide +kernel
theorem dX3_evenness_25 : decode cX3_evenness 25 = .ok (.iaload, 1) := by decide +kernel
theorem dX3_evenness_26 : decode cX3_evenness 26 = .ok (.istore 5, 2) := by decide +kernel
theorem dX3_evenness_28 : decode cX3_evenness 28 = .ok (.iload_n 1, 1) := by decide +kernel
theorem dX3_evenness_29 : decode cX3_evenness 29 = .ok (.iload 5, 2) := by decide +kernel
theorem dX3_evenness_31 : decode cX3_evenness 31 = .ok (.invokestatic 51, 3) := by decide +kernel
theorem dX3_evenness_34 : decode cX3_evenness 34 = .ok (.istore_n 1, 1) := by decide +kernel
theorem dX3_evenness_35 : decode cX3_evenness 35 = .ok (.iinc 4 1, 3) := by decide +kernel
theorem dX3_evenness_38 : decode cX3_evenness 38 = .ok (.goto (-22), 3) := by decide +kernel
theorem dX3_evenness_41 : decode cX3_evenness 41 = .ok (.aload_n 0, 1) := by decide +kernel
theorem dX3_evenness_42 : decode cX3_evenness 42 = .ok (.getfield 19, 3) := by decide +kernel
theorem dX3_evenness_45 : decode cX3_evenness 45 = .ok (.iload_n 1, 1) := by decide +kernel
theorem dX3_evenness_46 : decode cX3_evenness 46 = .ok (.isub, 1) := by decide +kernel
theorem dX3_evenness_47 : decode cX3_evenness 47 = .ok (.ireturn, 1) := by decide +kernel
set_option maxRecDepth 20000 in
theorem ggX3_isRibbon_X3_isRibbonOver : GoodIn wsX3_isRibbon wsX3_isRibbonOver := goodIn_r _ [5, 6, 7, 8, 4, 9, 10, 11, 12, 13, 14] (by decide +kernel) (by decide +kernel)
set_option maxRecDepth 20000 in
theorem gX3_isRibbon_X3_isRibbonOver : GoodIn wsX3_isRibbon (wsV RX3 54 RX3 yX3_isRibbonOver wsX3_isRibbonOver) := goodIn_app (goodIn_of _ (by decide +kernel)) ggX3_isRibbon_X3_isRibbonOver
theorem dX3_isRibbon_0 : decode cX3_isRibbon 0 = .ok (.iload_n 1, 1) := by decide +kernel
theorem dX3_isRibbon_1 : decode cX3_isRibbon 1 = .ok (.ifCond .eq 14, 3) := by decide +kernel
theorem dX3_isRibbon_4 : decode cX3_isRibbon 4 = .ok (.aload_n 0, 1) := by decide +kernel
theorem dX3_isRibbon_5 : decode cX3_isRibbon 5 = .ok (.iload_n 1, 1) := by decide +kernel
theorem dX3_isRibbon_6 : decode cX3_isRibbon 6 = .ok (.iload_n 1, 1) := by decide +kernel
theorem dX3_isRibbon_7 : decode cX3_isRibbon 7 = .ok (.iconst 1, 1) := by decide +kernel
theorem dX3_isRibbon_8 : decode cX3_isRibbon 8 = .ok (.isub, 1) := by decide +kernel
theorem dX3_isRibbon_9 : decode cX3_isRibbon 9 = .ok (.invokevirtual 54, 3) := by decide +kernel
theorem dX3_isRibbon_12 : decode cX3_isRibbon 12 = .ok (.ifCond .eq 7, 3) := by decide +kernel
theorem dX3_isRibbon_15 : decode cX3_isRibbon 15 = .ok (.iconst 1, 1) := by decide +kernel
theorem dX3_isRibbon_16 : decode cX3_isRibbon 16 = .ok (.goto 4, 3) := by decide +kernel
theorem dX3_isRibbon_19 : decode cX3_isRibbon 19 = .ok (.iconst 0, 1) := by decide +kernel
theorem dX3_isRibbon_20 : decode cX3_isRibbon 20 = .ok (.istore_n 2, 1) := by decide +kernel
theorem dX3_isRibbon_21 : decode cX3_isRibbon 21 = .ok (.iload_n 1, 1) := by decide +kernel
theorem dX3_isRibbon_22 : decode cX3_isRibbon 22 = .ok (.bipush 11, 2) := by decide +kernel
theorem dX3_isRibbon_24 : decode cX3_isRibbon 24 = .ok (.if_icmp .eq 14, 3) := by decide +kernel
theorem dX3_isRibbon_27 : decode cX3_isRibbon 27 = .ok (.aload_n 0, 1) := by decide +kernel
theorem dX3_isRibbon_28 : decode cX3_isRibbon 28 = .ok (.iload_n 1, 1) := by decide +kernel
theorem dX3_isRibbon_29 : decode cX3_isRibbon 29 = .ok (.iload_n 1, 1) := by decide +kernel
theorem dX3_isRibbon_30 : decode cX3_isRibbon 30 = .ok (.iconst 1, 1) := by decide +kernel
theorem dX3_isRibbon_31 : decode cX3_isRibbon 31 = .ok (.iadd, 1) := by decide +kernel
theorem dX3_isRibbon_32 : decode cX3_isRibbon 32 = .ok (.invokevirtual 54, 3) := by decide +kernel
theorem dX3_isRibbon_35 : decode cX3_isRibbon 35 = .ok (.ifCond .eq 7, 3) := by decide +kernel
theorem dX3_isRibbon_38 : decode cX3_isRibbon 38 = .ok (.iconst 1, 1) := by decide +kernel
theorem dX3_isRibbon_39 : decode cX3_isRibbon 39 = .ok (.goto 4, 3) := by decide +kernel
theorem dX3_isRibbon_42 : decode cX3_isRibbon 42 = .ok (.iconst 0, 1) := by decide +kernel
theorem dX3_isRibbon_43 : decode cX3_isRibbon 43 = .ok (.istore_n 3, 1) := by decide +kernel
theorem dX3_isRibbon_44 : decode cX3_isRibbon 44 = .ok (.iload_n 2, 1) := by decide +kernel
theorem dX3_isRibbon_45 : decode cX3_isRibbon 45 = .ok (.ifCond .eq 11, 3) := by decide +kernel
theorem dX3_isRibbon_48 : decode cX3_isRibbon 48 = .ok (.iload_n 3, 1) := by decide +kernel
theorem dX3_isRibbon_49 : decode cX3_isRibbon 49 = .ok (.ifCond .eq 7, 3) := by decide +kernel
theorem dX3_isRibbon_52 : decode cX3_isRibbon 52 = .ok (.iconst 1, 1) := by decide +kernel
theorem dX3_isRibbon_53 : decode cX3_isRibbon 53 = .ok (.goto 4, 3) := by decide +kernel
theorem dX3_isRibbon_56 : decode cX3_isRibbon 56 = .ok (.iconst 0, 1) := by decide +kernel
theorem dX3_isRibbon_57 : decode cX3_isRibbon 57 = .ok (.ireturn, 1) := by decide +kernel
set_option maxRecDepth 20000 in
theorem ggX3_isRibbonOver_X3_heightAt : GoodIn wsX3_isRibbonOver wsX3_heightAt := goodIn_r _ [5, 6, 7, 8, 9, 10] (by decide +kernel) (by decide +kernel)
set_option maxRecDepth 20000 in
theorem gX3_isRibbonOver_X3_heightAt : GoodIn wsX3_isRibbonOver (wsV RX3 58 RX3 yX3_heightAt wsX3_heightAt) := goodIn_app (goodIn_of _ (by decide +kernel)) ggX3_isRibbonOver_X3_heightAt
theorem dX3_isRibbonOver_0 : decode cX3_isRibbonOver 0 = .ok (.aload_n 0, 1) := by decide +kernel
theorem dX3_isRibbonOver_1 : decode cX3_isRibbonOver 1 = .ok (.iload_n 1, 1) := by decide +kernel
theorem dX3_isRibbonOver_2 : decode cX3_isRibbonOver 2 = .ok (.invokevirtual 58, 3) := by decide +kernel
theorem dX3_isRibbonOver_5 : decode cX3_isRibbonOver 5 = .ok (.aload_n 0, 1) := by decide +kernel
theorem dX3_isRibbonOver_6 : decode cX3_isRibbonOver 6 = .ok (.iload_n 2, 1) := by decide +kernel
theorem dX3_isRibbonOver_7 : decode cX3_isRibbonOver 7 = .ok (.invokevirtual 58, 3) := by decide +kernel
theorem dX3_isRibbonOver_10 : decode cX3_isRibbonOver 10 = .ok (.isub, 1) := by decide +kernel
theorem dX3_isRibbonOver_11 : decode cX3_isRibbonOver 11 = .ok (.bipush 6, 2) := by decide +kernel
theorem dX3_isRibbonOver_13 : decode cX3_isRibbonOver 13 = .ok (.if_icmp .lt 7, 3) := by decide +kernel
theorem dX3_isRibbonOver_16 : decode cX3_isRibbonOver 16 = .ok (.iconst 1, 1) := by decide +kernel
theorem dX3_isRibbonOver_17 : decode cX3_isRibbonOver 17 = .ok (.goto 4, 3) := by decide +kernel
theorem dX3_isRibbonOver_20 : decode cX3_isRibbonOver 20 = .ok (.iconst 0, 1) := by decide +kernel
theorem dX3_isRibbonOver_21 : decode cX3_isRibbonOver 21 = .ok (.ireturn, 1) := by decide +kernel
set_option maxRecDepth 20000 in
theorem ggX3_ribbons_X3_isRibbon : GoodIn wsX3_ribbons wsX3_isRibbon := goodIn_r _ [5, 6, 7, 8, 4, 9, 10, 11, 12, 13, 14, 18, 19, 20, 21] (by decide +kernel) (by decide +kernel)
set_option maxRecDepth 20000 in
theorem gX3_ribbons_X3_isRibbon : GoodIn wsX3_ribbons (wsV RX3 62 RX3 yX3_isRibbon wsX3_isRibbon) := goodIn_app (goodIn_of _ (by decide +kernel)) ggX3_ribbons_X3_isRibbon
set_option maxRecDepth 20000 in
theorem ggX3_ribbons_X4_oneIf : GoodIn wsX3_ribbons wsX4_oneIf := goodIn_r _ [17] (by decide +kernel) (by decide +kernel)
set_option maxRecDepth 20000 in
theorem gX3_ribbons_X4_oneIf_n37 : GoodIn wsX3_ribbons (wsX4_oneIf) := ggX3_ribbons_X4_oneIf
theorem dX3_ribbons_0 : decode cX3_ribbons 0 = .ok (.iconst 0, 1) := by decide +kernel
theorem dX3_ribbons_1 : decode cX3_ribbons 1 = .ok (.istore_n 1, 1) := by decide +kernel
theorem dX3_ribbons_2 : decode cX3_ribbons 2 = .ok (.iconst 0, 1) := by decide +kernel
theorem dX3_ribbons_3 : decode cX3_ribbons 3 = .ok (.istore_n 2, 1) := by decide +kernel
theorem dX3_ribbons_4 : decode cX3_ribbons 4 = .ok (.iload_n 2, 1) := by decide +kernel
theorem dX3_ribbons_5 : decode cX3_ribbons 5 = .ok (.bipush 12, 2) := by decide +kernel
theorem dX3_ribbons_7 : decode cX3_ribbons 7 = .ok (.if_icmp .ge 20, 3) := by decide +kernel
theorem dX3_ribbons_10 : decode cX3_ribbons 10 = .ok (.iload_n 1, 1) := by decide +kernel
theorem dX3_ribbons_11 : decode cX3_ribbons 11 = .ok (.aload_n 0, 1) := by decide +kernel
theorem dX3_ribbons_12 : decode cX3_ribbons 12 = .ok (.iload_n 2, 1) := by decide +kernel
theorem dX3_ribbons_13 : decode cX3_ribbons 13 = .ok (.invokevirtual 62, 3) := by decide +kernel
theorem dX3_ribbons_16 : decode cX3_ribbons 16 = .ok (.invokestatic 37, 3) := by decide +kernel
theorem dX3_ribbons_19 : decode cX3_ribbons 19 = .ok (.iadd, 1) := by decide +kernel
theorem dX3_ribbons_20 : decode cX3_ribbons 20 = .ok (.istore_n 1, 1) := by decide +kernel
theorem dX3_ribbons_21 : decode cX3_ribbons 21 = .ok (.iinc 2 1, 3) := by decide +kernel
theorem dX3_ribbons_24 : decode cX3_ribbons 24 = .ok (.goto (-20), 3) := by decide +kernel
theorem dX3_ribbons_27 : decode cX3_ribbons 27 = .ok (.iload_n 1, 1) := by decide +kernel
theorem dX3_ribbons_28 : decode cX3_ribbons 28 = .ok (.ireturn, 1) := by decide +kernel
set_option maxRecDepth 20000 in
theorem ggX3_barePlaces_X4_oneIf : GoodIn wsX3_barePlaces wsX4_oneIf := goodIn_r _ [4] (by decide +kernel) (by decide +kernel)
set_option maxRecDepth 20000 in
theorem gX3_barePlaces_X4_oneIf_n37 : GoodIn wsX3_barePlaces (wsX4_oneIf) := ggX3_barePlaces_X4_oneIf
theorem dX3_barePlaces_0 : decode cX3_barePlaces 0 = .ok (.iconst 0, 1) := by decide +kernel
theorem dX3_barePlaces_1 : decode cX3_barePlaces 1 = .ok (.istore_n 1, 1) := by decide +kernel
theorem dX3_barePlaces_2 : decode cX3_barePlaces 2 = .ok (.aload_n 0, 1) := by decide +kernel
theorem dX3_barePlaces_3 : decode cX3_barePlaces 3 = .ok (.getfield 9, 3) := by decide +kernel
theorem dX3_barePlaces_6 : decode cX3_barePlaces 6 = .ok (.astore_n 2, 1) := by decide +kernel
theorem dX3_barePlaces_7 : decode cX3_barePlaces 7 = .ok (.aload_n 2, 1) := by decide +kernel
theorem dX3_barePlaces_8 : decode cX3_barePlaces 8 = .ok (.arraylength, 1) := by decide +kernel
theorem dX3_barePlaces_9 : decode cX3_barePlaces 9 = .ok (.istore_n 3, 1) := by decide +kernel
theorem dX3_barePlaces_10 : decode cX3_barePlaces 10 = .ok (.iconst 0, 1) := by decide +kernel
theorem dX3_barePlaces_11 : decode cX3_barePlaces 11 = .ok (.istore 4, 2) := by decide +kernel
theorem dX3_barePlaces_13 : decode cX3_barePlaces 13 = .ok (.iload 4, 2) := by decide +kernel
theorem dX3_barePlaces_15 : decode cX3_barePlaces 15 = .ok (.iload_n 3, 1) := by decide +kernel
theorem dX3_barePlaces_16 : decode cX3_barePlaces 16 = .ok (.if_icmp .ge 31, 3) := by decide +kernel
theorem dX3_barePlaces_19 : decode cX3_barePlaces 19 = .ok (.aload_n 2, 1) := by decide +kernel
theorem dX3_barePlaces_20 : decode cX3_barePlaces 20 = .ok (.iload 4, 2) := by decide +kernel
theorem dX3_barePlaces_22 : decode cX3_barePlaces 22 = .ok (.iaload, 1) := by decide +kernel
theorem dX3_barePlaces_23 : decode cX3_barePlaces 23 = .ok (.istore 5, 2) := by decide +kernel
theorem dX3_barePlaces_25 : decode cX3_barePlaces 25 = .ok (.iload_n 1, 1) := by decide +kernel
theorem dX3_barePlaces_26 : decode cX3_barePlaces 26 = .ok (.iload 5, 2) := by decide +kernel
theorem dX3_barePlaces_28 : decode cX3_barePlaces 28 = .ok (.ifCond .ne 7, 3) := by decide +kernel
theorem dX3_barePlaces_31 : decode cX3_barePlaces 31 = .ok (.iconst 1, 1) := by decide +kernel
theorem dX3_barePlaces_32 : decode cX3_barePlaces 32 = .ok (.goto 4, 3) := by decide +kernel
theorem dX3_barePlaces_35 : decode cX3_barePlaces 35 = .ok (.iconst 0, 1) := by decide +kernel
theorem dX3_barePlaces_36 : decode cX3_barePlaces 36 = .ok (.invokestatic 37, 3) := by decide +kernel
theorem dX3_barePlaces_39 : decode cX3_barePlaces 39 = .ok (.iadd, 1) := by decide +kernel
theorem dX3_barePlaces_40 : decode cX3_barePlaces 40 = .ok (.istore_n 1, 1) := by decide +kernel
theorem dX3_barePlaces_41 : decode cX3_barePlaces 41 = .ok (.iinc 4 1, 3) := by decide +kernel
theorem dX3_barePlaces_44 : decode cX3_barePlaces 44 = .ok (.goto (-31), 3) := by decide +kernel
theorem dX3_barePlaces_47 : decode cX3_barePlaces 47 = .ok (.iload_n 1, 1) := by decide +kernel
theorem dX3_barePlaces_48 : decode cX3_barePlaces 48 = .ok (.ireturn, 1) := by decide +kernel
end
section
set_option maxRecDepth 20000 in
theorem ggX4_init_X2_init : GoodIn wsX4_init wsX2_init := goodIn_r _ [25, 26, 2, 3, 27, 11, 12, 28, 29, 30, 31, 32, 33, 34, 35, 36, 37, 38, 39, 40, 41, 42, 43, 44, 45, 46, 47, 48, 49, 50, 51, 52, 90, 91, 92, 93, 71, 72, 73, 74, 75, 76, 77, 78, 79, 80, 81] (by decide +kernel) (by decide +kernel)
set_option maxRecDepth 20000 in
theorem gX4_init_X2_init_n11 : GoodIn wsX4_init (wsX2_init) := ggX4_init_X2_init
set_option maxRecDepth 20000 in
theorem ggX4_init_X3_init : GoodIn wsX4_init wsX3_init := goodIn_r _ [47, 48, 2, 3, 29, 49, 50, 51, 52, 90, 91, 92, 93] (by decide +kernel) (by decide +kernel)
set_option maxRecDepth 20000 in
theorem gX4_init_X3_init_n24 : GoodIn wsX4_init (wsX3_init) := ggX4_init_X3_init
set_option maxRecDepth 20000 in
theorem ggX4_init_X1_init : GoodIn wsX4_init wsX1_init := goodIn_r _ [54, 55, 2, 3, 56, 57, 58, 59, 5, 6, 24, 25, 26, 27, 11, 12, 28, 29, 30, 31, 32, 33, 34, 35, 36, 37, 38, 39, 40, 41, 42, 43, 44, 45, 46, 47, 48, 49, 50, 51, 52, 94, 95, 96, 71, 72, 73, 74, 75, 76, 77, 78, 79, 80, 81, 90, 91, 92, 93] (by decide +kernel) (by decide +kernel)
set_option maxRecDepth 20000 in
theorem gX4_init_X1_init_n31 : GoodIn wsX4_init (wsX1_init) := ggX4_init_X1_init
set_option maxRecDepth 20000 in
theorem ggX4_init_X0_init : GoodIn wsX4_init wsX0_init := goodIn_r _ [61, 62, 2, 3, 63, 64, 29, 65, 66, 67, 68, 69, 70, 97, 98, 99, 100, 101, 102, 103] (by decide +kernel) (by decide +kernel)
set_option maxRecDepth 20000 in
theorem gX4_init_X0_init_n38 : GoodIn wsX4_init (wsX0_init) := ggX4_init_X0_init
theorem dX4_init_0 : decode cX4_init 0 = .ok (.aload_n 0, 1) := by decide +kernel
theorem dX4_init_1 : decode cX4_init 1 = .ok (.invokespecial 3, 3) := by decide +kernel
theorem dX4_init_4 : decode cX4_init 4 = .ok (.aload_n 0, 1) := by decide +kernel
theorem dX4_init_5 : decode cX4_init 5 = .ok (.new 9, 3) := by decide +kernel
theorem dX4_init_8 : decode cX4_init 8 = .ok (.dup, 1) := by decide +kernel
theorem dX4_init_9 : decode cX4_init 9 = .ok (.invokespecial 11, 3) := by decide +kernel
theorem dX4_init_12 : decode cX4_init 12 = .ok (.putfield 12, 3) := by decide +kernel
theorem dX4_init_15 : decode cX4_init 15 = .ok (.aload_n 0, 1) := by decide +kernel
theorem dX4_init_16 : decode cX4_init 16 = .ok (.new 9, 3) := by decide +kernel
theorem dX4_init_19 : decode cX4_init 19 = .ok (.dup, 1) := by decide +kernel
theorem dX4_init_20 : decode cX4_init 20 = .ok (.invokespecial 11, 3) := by decide +kernel
theorem dX4_init_23 : decode cX4_init 23 = .ok (.putfield 16, 3) := by decide +kernel
theorem dX4_init_26 : decode cX4_init 26 = .ok (.aload_n 0, 1) := by decide +kernel
theorem dX4_init_27 : decode cX4_init 27 = .ok (.new 9, 3) := by decide +kernel
theorem dX4_init_30 : decode cX4_init 30 = .ok (.dup, 1) := by decide +kernel
theorem dX4_init_31 : decode cX4_init 31 = .ok (.invokespecial 11, 3) := by decide +kernel
theorem dX4_init_34 : decode cX4_init 34 = .ok (.putfield 19, 3) := by decide +kernel
theorem dX4_init_37 : decode cX4_init 37 = .ok (.aload_n 0, 1) := by decide +kernel
theorem dX4_init_38 : decode cX4_init 38 = .ok (.new 22, 3) := by decide +kernel
theorem dX4_init_41 : decode cX4_init 41 = .ok (.dup, 1) := by decide +kernel
theorem dX4_init_42 : decode cX4_init 42 = .ok (.invokespecial 24, 3) := by decide +kernel
theorem dX4_init_45 : decode cX4_init 45 = .ok (.putfield 25, 3) := by decide +kernel
theorem dX4_init_48 : decode cX4_init 48 = .ok (.aload_n 0, 1) := by decide +kernel
theorem dX4_init_49 : decode cX4_init 49 = .ok (.new 29, 3) := by decide +kernel
theorem dX4_init_52 : decode cX4_init 52 = .ok (.dup, 1) := by decide +kernel
theorem dX4_init_53 : decode cX4_init 53 = .ok (.invokespecial 31, 3) := by decide +kernel
theorem dX4_init_56 : decode cX4_init 56 = .ok (.putfield 32, 3) := by decide +kernel
theorem dX4_init_59 : decode cX4_init 59 = .ok (.aload_n 0, 1) := by decide +kernel
theorem dX4_init_60 : decode cX4_init 60 = .ok (.new 36, 3) := by decide +kernel
theorem dX4_init_63 : decode cX4_init 63 = .ok (.dup, 1) := by decide +kernel
theorem dX4_init_64 : decode cX4_init 64 = .ok (.invokespecial 38, 3) := by decide +kernel
theorem dX4_init_67 : decode cX4_init 67 = .ok (.putfield 39, 3) := by decide +kernel
theorem dX4_init_70 : decode cX4_init 70 = .ok (.aload_n 0, 1) := by decide +kernel
theorem dX4_init_71 : decode cX4_init 71 = .ok (.iconst 0, 1) := by decide +kernel
theorem dX4_init_72 : decode cX4_init 72 = .ok (.putfield 43, 3) := by decide +kernel
theorem dX4_init_75 : decode cX4_init 75 = .ok (.aload_n 0, 1) := by decide +kernel
theorem dX4_init_76 : decode cX4_init 76 = .ok (.bipush (-5), 2) := by decide +kernel
theorem dX4_init_78 : decode cX4_init 78 = .ok (.putfield 47, 3) := by decide +kernel
theorem dX4_init_81 : decode cX4_init 81 = .ok (.return_, 1) := by decide +kernel
set_option maxRecDepth 20000 in
theorem ggX4_set_X2_copyFrom : GoodIn wsX4_set wsX2_copyFrom := goodIn_r _ [6, 7, 8, 9, 10, 11, 12, 13, 14, 15, 16, 17, 18, 19, 20, 21, 22, 23, 24, 25, 26, 27, 28, 29, 30, 73, 74, 75, 76, 77, 78, 79, 80, 81, 82, 83, 84, 85, 86, 87] (by decide +kernel) (by decide +kernel)
set_option maxRecDepth 20000 in
theorem gX4_set_X2_copyFrom_n51 : GoodIn wsX4_set (wsX2_copyFrom) := ggX4_set_X2_copyFrom
set_option maxRecDepth 20000 in
theorem ggX4_set_X2_changeNumber : GoodIn wsX4_set wsX2_changeNumber := goodIn_r _ [33, 13, 34, 35, 36, 37, 38, 39, 40, 41, 42, 43, 44, 73, 74, 75, 76, 77, 78, 79, 80, 81, 82, 83] (by decide +kernel) (by decide +kernel)
set_option maxRecDepth 20000 in
theorem gX4_set_X2_changeNumber_n55 : GoodIn wsX4_set (wsX2_changeNumber) := ggX4_set_X2_changeNumber
set_option maxRecDepth 20000 in
theorem ggX4_set_X4_finishAct : GoodIn wsX4_set wsX4_finishAct := goodIn_r _ [48, 49, 2, 1, 50, 51, 52, 53, 54, 55, 56, 57, 58, 59, 60, 61, 62, 63, 64, 3, 4, 5, 6, 7, 8, 9, 10, 11, 12, 13, 14, 15, 16, 17, 18, 19, 20, 21, 22, 23, 24, 25, 26, 27, 28, 29, 30, 65, 66, 67, 68, 69, 70, 71, 72, 88, 89, 90, 73, 74, 75, 76, 77, 78, 79, 80, 81, 82, 83, 84, 85, 86, 87] (by decide +kernel) (by decide +kernel)
set_option maxRecDepth 20000 in
theorem gX4_set_X4_finishAct : GoodIn wsX4_set (wsV RX4 59 RX4 yX4_finishAct wsX4_finishAct) := goodIn_app (goodIn_of _ (by decide +kernel)) ggX4_set_X4_finishAct
theorem dX4_set_0 : decode cX4_set 0 = .ok (.aload_n 0, 1) := by decide +kernel
theorem dX4_set_1 : decode cX4_set 1 = .ok (.getfield 16, 3) := by decide +kernel
theorem dX4_set_4 : decode cX4_set 4 = .ok (.aload_n 0, 1) := by decide +kernel
theorem dX4_set_5 : decode cX4_set 5 = .ok (.getfield 12, 3) := by decide +kernel
theorem dX4_set_8 : decode cX4_set 8 = .ok (.invokevirtual 51, 3) := by decide +kernel
theorem dX4_set_11 : decode cX4_set 11 = .ok (.aload_n 0, 1) := by decide +kernel
theorem dX4_set_12 : decode cX4_set 12 = .ok (.aload_n 0, 1) := by decide +kernel
theorem dX4_set_13 : decode cX4_set 13 = .ok (.getfield 16, 3) := by decide +kernel
theorem dX4_set_16 : decode cX4_set 16 = .ok (.iload_n 1, 1) := by decide +kernel
theorem dX4_set_17 : decode cX4_set 17 = .ok (.iload_n 2, 1) := by decide +kernel
theorem dX4_set_18 : decode cX4_set 18 = .ok (.invokevirtual 55, 3) := by decide +kernel
theorem dX4_set_21 : decode cX4_set 21 = .ok (.invokevirtual 59, 3) := by decide +kernel
theorem dX4_set_24 : decode cX4_set 24 = .ok (.ireturn, 1) := by decide +kernel
set_option maxRecDepth 20000 in
theorem ggX4_wind_X2_copyFrom : GoodIn wsX4_wind wsX2_copyFrom := goodIn_r _ [6, 7, 8, 9, 10, 11, 12, 13, 14, 15, 16, 17, 18, 19, 20, 21, 22, 23, 24, 25, 26, 27, 28, 29, 30, 123, 124, 125, 126, 127, 128, 129, 130, 131, 132, 133, 134, 135, 136, 137] (by decide +kernel) (by decide +kernel)
set_option maxRecDepth 20000 in
theorem gX4_wind_X2_copyFrom_n51 : GoodIn wsX4_wind (wsX2_copyFrom) := ggX4_wind_X2_copyFrom
set_option maxRecDepth 20000 in
theorem ggX4_wind_X2_turnOften : GoodIn wsX4_wind wsX2_turnOften := goodIn_r _ [33, 7, 34, 35, 36, 37, 38, 39, 40, 41, 42, 43, 44, 45, 46, 47, 4, 48, 16, 49, 50, 51, 52, 14, 53, 23, 54, 55, 29, 56, 57, 58, 59, 19, 18, 17, 20, 60, 61, 62, 30, 63, 64, 65, 26, 66, 67, 68, 28, 69, 70, 71, 72, 73, 74, 75, 76, 77, 15, 78, 79, 80, 81, 82, 83, 84, 13, 85, 86, 87, 88, 89, 90, 91, 92, 93, 94, 95, 96, 97, 123, 124, 125, 126, 127, 128, 129, 130, 131, 132, 133, 134, 135, 136, 137] (by decide +kernel) (by decide +kernel)
set_option maxRecDepth 20000 in
theorem gX4_wind_X2_turnOften_n63 : GoodIn wsX4_wind (wsX2_turnOften) := ggX4_wind_X2_turnOften
set_option maxRecDepth 20000 in
theorem ggX4_wind_X4_finishAct : GoodIn wsX4_wind wsX4_finishAct := goodIn_r _ [101, 102, 2, 1, 103, 104, 105, 106, 107, 108, 109, 90, 71, 91, 110, 111, 112, 113, 114, 3, 4, 5, 6, 7, 8, 9, 10, 11, 12, 13, 14, 15, 16, 17, 18, 19, 20, 21, 22, 23, 24, 25, 26, 27, 28, 29, 30, 115, 116, 117, 118, 119, 120, 121, 122, 138, 139, 140, 123, 124, 125, 126, 127, 128, 129, 130, 131, 132, 133, 134, 135, 136, 137] (by decide +kernel) (by decide +kernel)
set_option maxRecDepth 20000 in
theorem gX4_wind_X4_finishAct : GoodIn wsX4_wind (wsV RX4 59 RX4 yX4_finishAct wsX4_finishAct) := goodIn_app (goodIn_of _ (by decide +kernel)) ggX4_wind_X4_finishAct
theorem dX4_wind_0 : decode cX4_wind 0 = .ok (.aload_n 0, 1) := by decide +kernel
theorem dX4_wind_1 : decode cX4_wind 1 = .ok (.getfield 16, 3) := by decide +kernel
theorem dX4_wind_4 : decode cX4_wind 4 = .ok (.aload_n 0, 1) := by decide +kernel
theorem dX4_wind_5 : decode cX4_wind 5 = .ok (.getfield 12, 3) := by decide +kernel
theorem dX4_wind_8 : decode cX4_wind 8 = .ok (.invokevirtual 51, 3) := by decide +kernel
theorem dX4_wind_11 : decode cX4_wind 11 = .ok (.aload_n 0, 1) := by decide +kernel
theorem dX4_wind_12 : decode cX4_wind 12 = .ok (.aload_n 0, 1) := by decide +kernel
theorem dX4_wind_13 : decode cX4_wind 13 = .ok (.getfield 16, 3) := by decide +kernel
theorem dX4_wind_16 : decode cX4_wind 16 = .ok (.iload_n 1, 1) := by decide +kernel
theorem dX4_wind_17 : decode cX4_wind 17 = .ok (.invokevirtual 63, 3) := by decide +kernel
theorem dX4_wind_20 : decode cX4_wind 20 = .ok (.invokevirtual 59, 3) := by decide +kernel
theorem dX4_wind_23 : decode cX4_wind 23 = .ok (.ireturn, 1) := by decide +kernel
set_option maxRecDepth 20000 in
theorem ggX4_knot_X2_copyFrom : GoodIn wsX4_knot wsX2_copyFrom := goodIn_r _ [6, 7, 8, 9, 10, 11, 12, 13, 14, 15, 16, 17, 18, 19, 20, 21, 22, 23, 24, 25, 26, 27, 28, 29, 30, 67, 68, 69, 70, 71, 72, 73, 74, 75, 76, 77, 78, 79, 80, 81] (by decide +kernel) (by decide +kernel)
set_option maxRecDepth 20000 in
theorem gX4_knot_X2_copyFrom_n51 : GoodIn wsX4_knot (wsX2_copyFrom) := ggX4_knot_X2_copyFrom
set_option maxRecDepth 20000 in
theorem ggX4_knot_X2_tieKnot : GoodIn wsX4_knot wsX2_tieKnot := goodIn_r _ [33, 14, 16, 17, 8, 34, 35, 36, 4, 37, 13, 67, 68, 69, 70, 71, 72, 73, 74, 75, 76, 77] (by decide +kernel) (by decide +kernel)
set_option maxRecDepth 20000 in
theorem gX4_knot_X2_tieKnot_n66 : GoodIn wsX4_knot (wsX2_tieKnot) := ggX4_knot_X2_tieKnot
set_option maxRecDepth 20000 in
theorem ggX4_knot_X4_finishAct : GoodIn wsX4_knot wsX4_finishAct := goodIn_r _ [42, 43, 2, 1, 44, 45, 46, 47, 48, 49, 50, 51, 52, 53, 54, 55, 56, 57, 58, 3, 4, 5, 6, 7, 8, 9, 10, 11, 12, 13, 14, 15, 16, 17, 18, 19, 20, 21, 22, 23, 24, 25, 26, 27, 28, 29, 30, 59, 60, 61, 62, 63, 64, 65, 66, 82, 83, 84, 67, 68, 69, 70, 71, 72, 73, 74, 75, 76, 77, 78, 79, 80, 81] (by decide +kernel) (by decide +kernel)
set_option maxRecDepth 20000 in
theorem gX4_knot_X4_finishAct : GoodIn wsX4_knot (wsV RX4 59 RX4 yX4_finishAct wsX4_finishAct) := goodIn_app (goodIn_of _ (by decide +kernel)) ggX4_knot_X4_finishAct
theorem dX4_knot_0 : decode cX4_knot 0 = .ok (.aload_n 0, 1) := by decide +kernel
theorem dX4_knot_1 : decode cX4_knot 1 = .ok (.getfield 16, 3) := by decide +kernel
theorem dX4_knot_4 : decode cX4_knot 4 = .ok (.aload_n 0, 1) := by decide +kernel
theorem dX4_knot_5 : decode cX4_knot 5 = .ok (.getfield 12, 3) := by decide +kernel
theorem dX4_knot_8 : decode cX4_knot 8 = .ok (.invokevirtual 51, 3) := by decide +kernel
theorem dX4_knot_11 : decode cX4_knot 11 = .ok (.aload_n 0, 1) := by decide +kernel
theorem dX4_knot_12 : decode cX4_knot 12 = .ok (.aload_n 0, 1) := by decide +kernel
theorem dX4_knot_13 : decode cX4_knot 13 = .ok (.getfield 16, 3) := by decide +kernel
theorem dX4_knot_16 : decode cX4_knot 16 = .ok (.invokevirtual 66, 3) := by decide +kernel
theorem dX4_knot_19 : decode cX4_knot 19 = .ok (.invokevirtual 59, 3) := by decide +kernel
theorem dX4_knot_22 : decode cX4_knot 22 = .ok (.ireturn, 1) := by decide +kernel
set_option maxRecDepth 20000 in
theorem ggX4_cone_X2_copyFrom : GoodIn wsX4_cone wsX2_copyFrom := goodIn_r _ [6, 7, 8, 9, 10, 11, 12, 13, 14, 15, 16, 17, 18, 19, 20, 21, 22, 23, 24, 25, 26, 27, 28, 29, 30, 73, 74, 75, 76, 77, 78, 79, 80, 81, 82, 83, 84, 85, 86, 87] (by decide +kernel) (by decide +kernel)
set_option maxRecDepth 20000 in
theorem gX4_cone_X2_copyFrom_n51 : GoodIn wsX4_cone (wsX2_copyFrom) := ggX4_cone_X2_copyFrom
set_option maxRecDepth 20000 in
theorem ggX4_cone_X2_changeCone : GoodIn wsX4_cone wsX2_changeCone := goodIn_r _ [33, 14, 7, 16, 34, 35, 36, 37, 38, 39, 40, 41, 42, 43, 44, 73, 74, 75, 76, 77, 78, 79, 80, 81, 82, 83, 84, 85, 86, 87] (by decide +kernel) (by decide +kernel)
set_option maxRecDepth 20000 in
theorem gX4_cone_X2_changeCone_n70 : GoodIn wsX4_cone (wsX2_changeCone) := ggX4_cone_X2_changeCone
set_option maxRecDepth 20000 in
theorem ggX4_cone_X4_finishAct : GoodIn wsX4_cone wsX4_finishAct := goodIn_r _ [48, 49, 2, 1, 50, 51, 52, 53, 54, 55, 56, 57, 58, 59, 60, 61, 62, 63, 64, 3, 4, 5, 6, 7, 8, 9, 10, 11, 12, 13, 14, 15, 16, 17, 18, 19, 20, 21, 22, 23, 24, 25, 26, 27, 28, 29, 30, 65, 66, 67, 68, 69, 70, 71, 72, 88, 89, 90, 73, 74, 75, 76, 77, 78, 79, 80, 81, 82, 83, 84, 85, 86, 87] (by decide +kernel) (by decide +kernel)
set_option maxRecDepth 20000 in
theorem gX4_cone_X4_finishAct : GoodIn wsX4_cone (wsV RX4 59 RX4 yX4_finishAct wsX4_finishAct) := goodIn_app (goodIn_of _ (by decide +kernel)) ggX4_cone_X4_finishAct
theorem dX4_cone_0 : decode cX4_cone 0 = .ok (.aload_n 0, 1) := by decide +kernel
theorem dX4_cone_1 : decode cX4_cone 1 = .ok (.getfield 16, 3) := by decide +kernel
theorem dX4_cone_4 : decode cX4_cone 4 = .ok (.aload_n 0, 1) := by decide +kernel
theorem dX4_cone_5 : decode cX4_cone 5 = .ok (.getfield 12, 3) := by decide +kernel
theorem dX4_cone_8 : decode cX4_cone 8 = .ok (.invokevirtual 51, 3) := by decide +kernel
theorem dX4_cone_11 : decode cX4_cone 11 = .ok (.aload_n 0, 1) := by decide +kernel
theorem dX4_cone_12 : decode cX4_cone 12 = .ok (.aload_n 0, 1) := by decide +kernel
theorem dX4_cone_13 : decode cX4_cone 13 = .ok (.getfield 16, 3) := by decide +kernel
theorem dX4_cone_16 : decode cX4_cone 16 = .ok (.iload_n 1, 1) := by decide +kernel
theorem dX4_cone_17 : decode cX4_cone 17 = .ok (.invokevirtual 70, 3) := by decide +kernel
theorem dX4_cone_20 : decode cX4_cone 20 = .ok (.invokevirtual 59, 3) := by decide +kernel
theorem dX4_cone_23 : decode cX4_cone 23 = .ok (.ireturn, 1) := by decide +kernel
set_option maxRecDepth 20000 in
theorem ggX4_doff_X2_copyFrom : GoodIn wsX4_doff wsX2_copyFrom := goodIn_r _ [6, 7, 8, 9, 10, 11, 12, 13, 14, 15, 16, 17, 18, 19, 20, 21, 22, 23, 24, 25, 26, 27, 28, 29, 30, 71, 72, 73, 74, 75, 76, 77, 78, 79, 80, 81, 82, 83, 84, 85] (by decide +kernel) (by decide +kernel)
set_option maxRecDepth 20000 in
theorem gX4_doff_X2_copyFrom_n51 : GoodIn wsX4_doff (wsX2_copyFrom) := ggX4_doff_X2_copyFrom
set_option maxRecDepth 20000 in
theorem ggX4_doff_X2_takePackageOff : GoodIn wsX4_doff wsX2_takePackageOff := goodIn_r _ [33, 7, 8, 16, 17, 18, 21, 34, 23, 35, 36, 26, 28, 29, 30, 37, 38, 39, 40, 41, 71, 72, 73, 74, 75, 76, 77, 78, 79, 80, 81, 82, 83, 84, 85] (by decide +kernel) (by decide +kernel)
set_option maxRecDepth 20000 in
theorem gX4_doff_X2_takePackageOff_n73 : GoodIn wsX4_doff (wsX2_takePackageOff) := ggX4_doff_X2_takePackageOff
set_option maxRecDepth 20000 in
theorem ggX4_doff_X4_finishAct : GoodIn wsX4_doff wsX4_finishAct := goodIn_r _ [46, 47, 2, 1, 48, 49, 50, 51, 52, 53, 54, 55, 56, 57, 58, 59, 60, 61, 62, 3, 4, 5, 6, 7, 8, 9, 10, 11, 12, 13, 14, 15, 16, 17, 18, 19, 20, 21, 22, 23, 24, 25, 26, 27, 28, 29, 30, 63, 64, 65, 66, 67, 68, 69, 70, 86, 87, 88, 71, 72, 73, 74, 75, 76, 77, 78, 79, 80, 81, 82, 83, 84, 85] (by decide +kernel) (by decide +kernel)
set_option maxRecDepth 20000 in
theorem gX4_doff_X4_finishAct : GoodIn wsX4_doff (wsV RX4 59 RX4 yX4_finishAct wsX4_finishAct) := goodIn_app (goodIn_of _ (by decide +kernel)) ggX4_doff_X4_finishAct
theorem dX4_doff_0 : decode cX4_doff 0 = .ok (.aload_n 0, 1) := by decide +kernel
theorem dX4_doff_1 : decode cX4_doff 1 = .ok (.getfield 16, 3) := by decide +kernel
theorem dX4_doff_4 : decode cX4_doff 4 = .ok (.aload_n 0, 1) := by decide +kernel
theorem dX4_doff_5 : decode cX4_doff 5 = .ok (.getfield 12, 3) := by decide +kernel
theorem dX4_doff_8 : decode cX4_doff 8 = .ok (.invokevirtual 51, 3) := by decide +kernel
theorem dX4_doff_11 : decode cX4_doff 11 = .ok (.aload_n 0, 1) := by decide +kernel
theorem dX4_doff_12 : decode cX4_doff 12 = .ok (.aload_n 0, 1) := by decide +kernel
theorem dX4_doff_13 : decode cX4_doff 13 = .ok (.getfield 16, 3) := by decide +kernel
theorem dX4_doff_16 : decode cX4_doff 16 = .ok (.invokevirtual 73, 3) := by decide +kernel
theorem dX4_doff_19 : decode cX4_doff 19 = .ok (.invokevirtual 59, 3) := by decide +kernel
theorem dX4_doff_22 : decode cX4_doff 22 = .ok (.ireturn, 1) := by decide +kernel
set_option maxRecDepth 20000 in
theorem ggX4_place_X3_heightAt : GoodIn wsX4_place wsX3_heightAt := goodIn_r _ [5, 6, 47, 48, 49, 50] (by decide +kernel) (by decide +kernel)
set_option maxRecDepth 20000 in
theorem gX4_place_X3_heightAt_n108 : GoodIn wsX4_place (wsX3_heightAt) := ggX4_place_X3_heightAt
set_option maxRecDepth 20000 in
theorem ggX4_place_X2_knotsAt : GoodIn wsX4_place wsX2_knotsAt := goodIn_r _ [10, 11, 36, 37, 38, 39, 40, 41, 42, 43, 44, 45, 46] (by decide +kernel) (by decide +kernel)
set_option maxRecDepth 20000 in
theorem gX4_place_X2_knotsAt_n111 : GoodIn wsX4_place (wsX2_knotsAt) := ggX4_place_X2_knotsAt
set_option maxRecDepth 20000 in
theorem ggX4_place_X3_isRibbon : GoodIn wsX4_place wsX3_isRibbon := goodIn_r _ [14, 15, 16, 17, 3, 18, 19, 2, 4, 5, 6, 47, 48, 49, 50] (by decide +kernel) (by decide +kernel)
set_option maxRecDepth 20000 in
theorem gX4_place_X3_isRibbon_n114 : GoodIn wsX4_place (wsX3_isRibbon) := ggX4_place_X3_isRibbon
set_option maxRecDepth 20000 in
theorem ggX4_place_X4_oneIf : GoodIn wsX4_place wsX4_oneIf := goodIn_r _ [23] (by decide +kernel) (by decide +kernel)
set_option maxRecDepth 20000 in
theorem gX4_place_X4_oneIf : GoodIn wsX4_place (va_wsS RX4 118 yX4_oneIf wsX4_oneIf) := goodIn_app (goodIn_of _ (by decide +kernel)) ggX4_place_X4_oneIf
set_option maxRecDepth 20000 in
theorem ggX4_place_X2_isBad : GoodIn wsX4_place wsX2_isBad := goodIn_r _ [26, 27, 7, 9, 8, 10, 11, 36, 37, 38, 39, 40, 41, 42, 43, 44, 45, 46] (by decide +kernel) (by decide +kernel)
set_option maxRecDepth 20000 in
theorem gX4_place_X2_isBad_n122 : GoodIn wsX4_place (wsX2_isBad) := ggX4_place_X2_isBad
theorem dX4_place_0 : decode cX4_place 0 = .ok (.iload_n 1, 1) := by decide +kernel
theorem dX4_place_1 : decode cX4_place 1 = .ok (.ifCond .lt 9, 3) := by decide +kernel
theorem dX4_place_4 : decode cX4_place 4 = .ok (.iload_n 1, 1) := by decide +kernel
theorem dX4_place_5 : decode cX4_place 5 = .ok (.bipush 12, 2) := by decide +kernel
theorem dX4_place_7 : decode cX4_place 7 = .ok (.if_icmp .lt 5, 3) := by decide +kernel
theorem dX4_place_10 : decode cX4_place 10 = .ok (.iconst (-1), 1) := by decide +kernel
theorem dX4_place_11 : decode cX4_place 11 = .ok (.ireturn, 1) := by decide +kernel
theorem dX4_place_12 : decode cX4_place 12 = .ok (.iload_n 2, 1) := by decide +kernel
theorem dX4_place_13 : decode cX4_place 13 = .ok (.tableswitch 79 0 3 #[31, 43, 52, 67], 31) := by decide +kernel
theorem dX4_place_44 : decode cX4_place 44 = .ok (.aload_n 0, 1) := by decide +kernel
theorem dX4_place_45 : decode cX4_place 45 = .ok (.getfield 12, 3) := by decide +kernel
theorem dX4_place_48 : decode cX4_place 48 = .ok (.getfield 102, 3) := by decide +kernel
theorem dX4_place_51 : decode cX4_place 51 = .ok (.iload_n 1, 1) := by decide +kernel
theorem dX4_place_52 : decode cX4_place 52 = .ok (.invokevirtual 108, 3) := by decide +kernel
theorem dX4_place_55 : decode cX4_place 55 = .ok (.ireturn, 1) := by decide +kernel
theorem dX4_place_56 : decode cX4_place 56 = .ok (.aload_n 0, 1) := by decide +kernel
theorem dX4_place_57 : decode cX4_place 57 = .ok (.getfield 12, 3) := by decide +kernel
theorem dX4_place_60 : decode cX4_place 60 = .ok (.iload_n 1, 1) := by decide +kernel
theorem dX4_place_61 : decode cX4_place 61 = .ok (.invokevirtual 111, 3) := by decide +kernel
theorem dX4_place_64 : decode cX4_place 64 = .ok (.ireturn, 1) := by decide +kernel
theorem dX4_place_65 : decode cX4_place 65 = .ok (.aload_n 0, 1) := by decide +kernel
theorem dX4_place_66 : decode cX4_place 66 = .ok (.getfield 12, 3) := by decide +kernel
theorem dX4_place_69 : decode cX4_place 69 = .ok (.getfield 102, 3) := by decide +kernel
theorem dX4_place_72 : decode cX4_place 72 = .ok (.iload_n 1, 1) := by decide +kernel
theorem dX4_place_73 : decode cX4_place 73 = .ok (.invokevirtual 114, 3) := by decide +kernel
theorem dX4_place_76 : decode cX4_place 76 = .ok (.invokestatic 118, 3) := by decide +kernel
theorem dX4_place_79 : decode cX4_place 79 = .ok (.ireturn, 1) := by decide +kernel
theorem dX4_place_80 : decode cX4_place 80 = .ok (.aload_n 0, 1) := by decide +kernel
theorem dX4_place_81 : decode cX4_place 81 = .ok (.getfield 12, 3) := by decide +kernel
theorem dX4_place_84 : decode cX4_place 84 = .ok (.iload_n 1, 1) := by decide +kernel
theorem dX4_place_85 : decode cX4_place 85 = .ok (.invokevirtual 122, 3) := by decide +kernel
theorem dX4_place_88 : decode cX4_place 88 = .ok (.invokestatic 118, 3) := by decide +kernel
theorem dX4_place_91 : decode cX4_place 91 = .ok (.ireturn, 1) := by decide +kernel
theorem dX4_place_92 : decode cX4_place 92 = .ok (.bipush (-2), 2) := by decide +kernel
theorem dX4_place_94 : decode cX4_place 94 = .ok (.ireturn, 1) := by decide +kernel
set_option maxRecDepth 20000 in
theorem ggX4_wrong_X2_isConeEmpty : GoodIn wsX4_wrong wsX2_isConeEmpty := goodIn_r _ [5, 6, 55, 56, 57, 58, 59, 60, 61, 62, 63, 64, 65] (by decide +kernel) (by decide +kernel)
set_option maxRecDepth 20000 in
theorem gX4_wrong_X2_isConeEmpty_n128 : GoodIn wsX4_wrong (wsX2_isConeEmpty) := ggX4_wrong_X2_isConeEmpty
set_option maxRecDepth 20000 in
theorem ggX4_wrong_X2_hasBadPlace : GoodIn wsX4_wrong wsX2_hasBadPlace := goodIn_r _ [9, 10, 11, 12, 3, 13, 14, 15, 16, 17, 18, 55, 56, 57, 58, 59, 60, 61, 62, 63, 64, 65] (by decide +kernel) (by decide +kernel)
set_option maxRecDepth 20000 in
theorem gX4_wrong_X2_hasBadPlace_n132 : GoodIn wsX4_wrong (wsX2_hasBadPlace) := ggX4_wrong_X2_hasBadPlace
set_option maxRecDepth 20000 in
theorem ggX4_wrong_X3_ribbons : GoodIn wsX4_wrong wsX3_ribbons := goodIn_r _ [22, 23, 24, 25, 20, 26, 27, 28, 29, 30, 31, 32, 33, 34, 35, 36, 37, 38, 66, 67, 68, 69] (by decide +kernel) (by decide +kernel)
set_option maxRecDepth 20000 in
theorem gX4_wrong_X3_ribbons_n135 : GoodIn wsX4_wrong (wsX3_ribbons) := ggX4_wrong_X3_ribbons
set_option maxRecDepth 20000 in
theorem ggX4_wrong_X3_evenness : GoodIn wsX4_wrong wsX3_evenness := goodIn_r _ [41, 42, 35, 43, 44, 45, 46, 66, 67, 68, 69] (by decide +kernel) (by decide +kernel)
set_option maxRecDepth 20000 in
theorem gX4_wrong_X3_evenness_n138 : GoodIn wsX4_wrong (wsX3_evenness) := ggX4_wrong_X3_evenness
theorem dX4_wrong_0 : decode cX4_wrong 0 = .ok (.aload_n 0, 1) := by decide +kernel
theorem dX4_wrong_1 : decode cX4_wrong 1 = .ok (.getfield 12, 3) := by decide +kernel
theorem dX4_wrong_4 : decode cX4_wrong 4 = .ok (.getfield 125, 3) := by decide +kernel
theorem dX4_wrong_7 : decode cX4_wrong 7 = .ok (.ifCond .eq 5, 3) := by decide +kernel
theorem dX4_wrong_10 : decode cX4_wrong 10 = .ok (.iconst 1, 1) := by decide +kernel
theorem dX4_wrong_11 : decode cX4_wrong 11 = .ok (.ireturn, 1) := by decide +kernel
theorem dX4_wrong_12 : decode cX4_wrong 12 = .ok (.aload_n 0, 1) := by decide +kernel
theorem dX4_wrong_13 : decode cX4_wrong 13 = .ok (.getfield 12, 3) := by decide +kernel
theorem dX4_wrong_16 : decode cX4_wrong 16 = .ok (.invokevirtual 128, 3) := by decide +kernel
theorem dX4_wrong_19 : decode cX4_wrong 19 = .ok (.ifCond .eq 5, 3) := by decide +kernel
theorem dX4_wrong_22 : decode cX4_wrong 22 = .ok (.iconst 2, 1) := by decide +kernel
theorem dX4_wrong_23 : decode cX4_wrong 23 = .ok (.ireturn, 1) := by decide +kernel
theorem dX4_wrong_24 : decode cX4_wrong 24 = .ok (.aload_n 0, 1) := by decide +kernel
theorem dX4_wrong_25 : decode cX4_wrong 25 = .ok (.getfield 12, 3) := by decide +kernel
theorem dX4_wrong_28 : decode cX4_wrong 28 = .ok (.invokevirtual 132, 3) := by decide +kernel
theorem dX4_wrong_31 : decode cX4_wrong 31 = .ok (.ifCond .eq 5, 3) := by decide +kernel
theorem dX4_wrong_34 : decode cX4_wrong 34 = .ok (.iconst 3, 1) := by decide +kernel
theorem dX4_wrong_35 : decode cX4_wrong 35 = .ok (.ireturn, 1) := by decide +kernel
theorem dX4_wrong_36 : decode cX4_wrong 36 = .ok (.aload_n 0, 1) := by decide +kernel
theorem dX4_wrong_37 : decode cX4_wrong 37 = .ok (.getfield 12, 3) := by decide +kernel
theorem dX4_wrong_40 : decode cX4_wrong 40 = .ok (.getfield 102, 3) := by decide +kernel
theorem dX4_wrong_43 : decode cX4_wrong 43 = .ok (.invokevirtual 135, 3) := by decide +kernel
theorem dX4_wrong_46 : decode cX4_wrong 46 = .ok (.ifCond .le 5, 3) := by decide +kernel
theorem dX4_wrong_49 : decode cX4_wrong 49 = .ok (.iconst 4, 1) := by decide +kernel
theorem dX4_wrong_50 : decode cX4_wrong 50 = .ok (.ireturn, 1) := by decide +kernel
theorem dX4_wrong_51 : decode cX4_wrong 51 = .ok (.aload_n 0, 1) := by decide +kernel
theorem dX4_wrong_52 : decode cX4_wrong 52 = .ok (.getfield 12, 3) := by decide +kernel
theorem dX4_wrong_55 : decode cX4_wrong 55 = .ok (.getfield 102, 3) := by decide +kernel
theorem dX4_wrong_58 : decode cX4_wrong 58 = .ok (.invokevirtual 138, 3) := by decide +kernel
theorem dX4_wrong_61 : decode cX4_wrong 61 = .ok (.bipush 10, 2) := by decide +kernel
theorem dX4_wrong_63 : decode cX4_wrong 63 = .ok (.if_icmp .lt 7, 3) := by decide +kernel
theorem dX4_wrong_66 : decode cX4_wrong 66 = .ok (.iconst 5, 1) := by decide +kernel
theorem dX4_wrong_67 : decode cX4_wrong 67 = .ok (.goto 4, 3) := by decide +kernel
theorem dX4_wrong_70 : decode cX4_wrong 70 = .ok (.iconst 0, 1) := by decide +kernel
theorem dX4_wrong_71 : decode cX4_wrong 71 = .ok (.ireturn, 1) := by decide +kernel
set_option maxRecDepth 20000 in
theorem ggX4_breaksIn_X2_isConeEmpty : GoodIn wsX4_breaksIn wsX2_isConeEmpty := goodIn_r _ [6, 7, 92, 93, 94, 95, 96, 97, 98, 99, 100, 101, 102] (by decide +kernel) (by decide +kernel)
set_option maxRecDepth 20000 in
theorem gX4_breaksIn_X2_isConeEmpty_n128 : GoodIn wsX4_breaksIn (wsX2_isConeEmpty) := ggX4_breaksIn_X2_isConeEmpty
set_option maxRecDepth 20000 in
theorem ggX4_breaksIn_X2_copyFrom : GoodIn wsX4_breaksIn wsX2_copyFrom := goodIn_r _ [10, 11, 12, 13, 14, 15, 16, 17, 7, 18, 19, 20, 21, 22, 23, 24, 25, 26, 27, 28, 29, 30, 31, 32, 33, 92, 93, 94, 95, 96, 97, 98, 99, 100, 101, 102, 103, 104, 105, 106] (by decide +kernel) (by decide +kernel)
set_option maxRecDepth 20000 in
theorem gX4_breaksIn_X2_copyFrom_n51 : GoodIn wsX4_breaksIn (wsX2_copyFrom) := ggX4_breaksIn_X2_copyFrom
set_option maxRecDepth 20000 in
theorem ggX4_breaksIn_X2_isIdle : GoodIn wsX4_breaksIn wsX2_isIdle := goodIn_r _ [36, 19, 11, 37, 3, 5, 4, 6, 7, 38, 26, 39, 40, 32, 92, 93, 94, 95, 96, 97, 98, 99, 100, 101, 102, 103, 104, 105, 106] (by decide +kernel) (by decide +kernel)
set_option maxRecDepth 20000 in
theorem gX4_breaksIn_X2_isIdle_n141 : GoodIn wsX4_breaksIn (wsX2_isIdle) := ggX4_breaksIn_X2_isIdle
set_option maxRecDepth 20000 in
theorem ggX4_breaksIn_X2_turnOnce : GoodIn wsX4_breaksIn wsX2_turnOnce := goodIn_r _ [43, 22, 11, 7, 21, 20, 19, 23, 44, 34, 35, 4, 36, 37, 3, 5, 6, 38, 26, 39, 40, 32, 45, 46, 47, 33, 48, 49, 50, 29, 51, 52, 53, 31, 54, 55, 56, 57, 58, 59, 60, 61, 62, 18, 63, 64, 65, 66, 67, 68, 69, 17, 70, 71, 72, 73, 74, 75, 76, 77, 78, 79, 80, 81, 82, 83, 92, 93, 94, 95, 96, 97, 98, 99, 100, 101, 102, 103, 104, 105, 106] (by decide +kernel) (by decide +kernel)
set_option maxRecDepth 20000 in
theorem gX4_breaksIn_X2_turnOnce_n144 : GoodIn wsX4_breaksIn (wsX2_turnOnce) := ggX4_breaksIn_X2_turnOnce
theorem dX4_breaksIn_0 : decode cX4_breaksIn 0 = .ok (.aload_n 0, 1) := by decide +kernel
theorem dX4_breaksIn_1 : decode cX4_breaksIn 1 = .ok (.getfield 12, 3) := by decide +kernel
theorem dX4_breaksIn_4 : decode cX4_breaksIn 4 = .ok (.getfield 125, 3) := by decide +kernel
theorem dX4_breaksIn_7 : decode cX4_breaksIn 7 = .ok (.ifCond .ne 13, 3) := by decide +kernel
theorem dX4_breaksIn_10 : decode cX4_breaksIn 10 = .ok (.aload_n 0, 1) := by decide +kernel
theorem dX4_breaksIn_11 : decode cX4_breaksIn 11 = .ok (.getfield 12, 3) := by decide +kernel
theorem dX4_breaksIn_14 : decode cX4_breaksIn 14 = .ok (.invokevirtual 128, 3) := by decide +kernel
theorem dX4_breaksIn_17 : decode cX4_breaksIn 17 = .ok (.ifCond .eq 6, 3) := by decide +kernel
theorem dX4_breaksIn_20 : decode cX4_breaksIn 20 = .ok (.bipush (-4), 2) := by decide +kernel
theorem dX4_breaksIn_22 : decode cX4_breaksIn 22 = .ok (.ireturn, 1) := by decide +kernel
theorem dX4_breaksIn_23 : decode cX4_breaksIn 23 = .ok (.aload_n 0, 1) := by decide +kernel
theorem dX4_breaksIn_24 : decode cX4_breaksIn 24 = .ok (.getfield 16, 3) := by decide +kernel
theorem dX4_breaksIn_27 : decode cX4_breaksIn 27 = .ok (.aload_n 0, 1) := by decide +kernel
theorem dX4_breaksIn_28 : decode cX4_breaksIn 28 = .ok (.getfield 12, 3) := by decide +kernel
theorem dX4_breaksIn_31 : decode cX4_breaksIn 31 = .ok (.invokevirtual 51, 3) := by decide +kernel
theorem dX4_breaksIn_34 : decode cX4_breaksIn 34 = .ok (.iconst 1, 1) := by decide +kernel
theorem dX4_breaksIn_35 : decode cX4_breaksIn 35 = .ok (.istore_n 1, 1) := by decide +kernel
theorem dX4_breaksIn_36 : decode cX4_breaksIn 36 = .ok (.iload_n 1, 1) := by decide +kernel
theorem dX4_breaksIn_37 : decode cX4_breaksIn 37 = .ok (.sipush 1000, 3) := by decide +kernel
theorem dX4_breaksIn_40 : decode cX4_breaksIn 40 = .ok (.if_icmp .gt 38, 3) := by decide +kernel
theorem dX4_breaksIn_43 : decode cX4_breaksIn 43 = .ok (.aload_n 0, 1) := by decide +kernel
theorem dX4_breaksIn_44 : decode cX4_breaksIn 44 = .ok (.getfield 16, 3) := by decide +kernel
theorem dX4_breaksIn_47 : decode cX4_breaksIn 47 = .ok (.invokevirtual 141, 3) := by decide +kernel
theorem dX4_breaksIn_50 : decode cX4_breaksIn 50 = .ok (.ifCond .ne 28, 3) := by decide +kernel
theorem dX4_breaksIn_53 : decode cX4_breaksIn 53 = .ok (.aload_n 0, 1) := by decide +kernel
theorem dX4_breaksIn_54 : decode cX4_breaksIn 54 = .ok (.getfield 16, 3) := by decide +kernel
theorem dX4_breaksIn_57 : decode cX4_breaksIn 57 = .ok (.invokevirtual 144, 3) := by decide +kernel
theorem dX4_breaksIn_60 : decode cX4_breaksIn 60 = .ok (.aload_n 0, 1) := by decide +kernel
theorem dX4_breaksIn_61 : decode cX4_breaksIn 61 = .ok (.getfield 16, 3) := by decide +kernel
theorem dX4_breaksIn_64 : decode cX4_breaksIn 64 = .ok (.getfield 125, 3) := by decide +kernel
theorem dX4_breaksIn_67 : decode cX4_breaksIn 67 = .ok (.ifCond .eq 5, 3) := by decide +kernel
theorem dX4_breaksIn_70 : decode cX4_breaksIn 70 = .ok (.iload_n 1, 1) := by decide +kernel
theorem dX4_breaksIn_71 : decode cX4_breaksIn 71 = .ok (.ireturn, 1) := by decide +kernel
theorem dX4_breaksIn_72 : decode cX4_breaksIn 72 = .ok (.iinc 1 1, 3) := by decide +kernel
theorem dX4_breaksIn_75 : decode cX4_breaksIn 75 = .ok (.goto (-39), 3) := by decide +kernel
theorem dX4_breaksIn_78 : decode cX4_breaksIn 78 = .ok (.bipush (-5), 2) := by decide +kernel
theorem dX4_breaksIn_80 : decode cX4_breaksIn 80 = .ok (.ireturn, 1) := by decide +kernel
set_option maxRecDepth 20000 in
theorem ggX4_ifTraverse_X4_inRange : GoodIn wsX4_ifTraverse wsX4_inRange := goodIn_r _ [5, 6, 7, 4, 8, 9, 10, 11, 12, 13] (by decide +kernel) (by decide +kernel)
set_option maxRecDepth 20000 in
theorem gX4_ifTraverse_X4_inRange : GoodIn wsX4_ifTraverse (va_wsS RX4 147 yX4_inRange wsX4_inRange) := goodIn_app (goodIn_of _ (by decide +kernel)) ggX4_ifTraverse_X4_inRange
set_option maxRecDepth 20000 in
theorem ggX4_ifTraverse_X4_imagine : GoodIn wsX4_ifTraverse wsX4_imagine := goodIn_r _ [17, 1, 18, 19, 20, 21, 22, 23, 24, 25, 26, 27, 28, 29, 30, 31, 32, 33, 34, 35, 36, 37, 38, 39, 40, 41, 42, 43, 44, 45, 46, 47, 48, 49, 50, 51, 52, 53, 4, 54, 79, 80, 81, 82, 83, 84, 85, 86, 87, 88, 89, 90, 91, 92, 93, 94, 95, 96, 97, 98, 99, 100, 101] (by decide +kernel) (by decide +kernel)
set_option maxRecDepth 20000 in
theorem gX4_ifTraverse_X4_imagine : GoodIn wsX4_ifTraverse (wsV RX4 151 RX4 yX4_imagine wsX4_imagine) := goodIn_app (goodIn_of _ (by decide +kernel)) ggX4_ifTraverse_X4_imagine
set_option maxRecDepth 20000 in
theorem ggX4_ifTraverse_X3_evenness : GoodIn wsX4_ifTraverse wsX3_evenness := goodIn_r _ [57, 25, 23, 58, 59, 39, 60, 87, 88, 89, 90] (by decide +kernel) (by decide +kernel)
set_option maxRecDepth 20000 in
theorem gX4_ifTraverse_X3_evenness_n138 : GoodIn wsX4_ifTraverse (wsX3_evenness) := ggX4_ifTraverse_X3_evenness
set_option maxRecDepth 20000 in
theorem ggX4_ifTraverse_X3_ribbons : GoodIn wsX4_ifTraverse wsX3_ribbons := goodIn_r _ [63, 64, 65, 66, 20, 67, 68, 69, 70, 71, 72, 73, 74, 75, 23, 53, 4, 54, 87, 88, 89, 90] (by decide +kernel) (by decide +kernel)
set_option maxRecDepth 20000 in
theorem gX4_ifTraverse_X3_ribbons_n135 : GoodIn wsX4_ifTraverse (wsX3_ribbons) := ggX4_ifTraverse_X3_ribbons
set_option maxRecDepth 20000 in
theorem ggX4_ifTraverse_X3_barePlaces : GoodIn wsX4_ifTraverse wsX3_barePlaces := goodIn_r _ [78, 23, 53, 4, 54, 87, 88, 89, 90] (by decide +kernel) (by decide +kernel)
set_option maxRecDepth 20000 in
theorem gX4_ifTraverse_X3_barePlaces_n155 : GoodIn wsX4_ifTraverse (wsX3_barePlaces) := ggX4_ifTraverse_X3_barePlaces
theorem dX4_ifTraverse_0 : decode cX4_ifTraverse 0 = .ok (.iconst 0, 1) := by decide +kernel
theorem dX4_ifTraverse_1 : decode cX4_ifTraverse 1 = .ok (.iload_n 1, 1) := by decide +kernel
theorem dX4_ifTraverse_2 : decode cX4_ifTraverse 2 = .ok (.invokestatic 147, 3) := by decide +kernel
theorem dX4_ifTraverse_5 : decode cX4_ifTraverse 5 = .ok (.ifCond .eq 11, 3) := by decide +kernel
theorem dX4_ifTraverse_8 : decode cX4_ifTraverse 8 = .ok (.iconst 5, 1) := by decide +kernel
theorem dX4_ifTraverse_9 : decode cX4_ifTraverse 9 = .ok (.iload_n 2, 1) := by decide +kernel
theorem dX4_ifTraverse_10 : decode cX4_ifTraverse 10 = .ok (.invokestatic 147, 3) := by decide +kernel
theorem dX4_ifTraverse_13 : decode cX4_ifTraverse 13 = .ok (.ifCond .ne 6, 3) := by decide +kernel
theorem dX4_ifTraverse_16 : decode cX4_ifTraverse 16 = .ok (.bipush (-2), 2) := by decide +kernel
theorem dX4_ifTraverse_18 : decode cX4_ifTraverse 18 = .ok (.ireturn, 1) := by decide +kernel
theorem dX4_ifTraverse_19 : decode cX4_ifTraverse 19 = .ok (.aload_n 0, 1) := by decide +kernel
theorem dX4_ifTraverse_20 : decode cX4_ifTraverse 20 = .ok (.iload_n 1, 1) := by decide +kernel
theorem dX4_ifTraverse_21 : decode cX4_ifTraverse 21 = .ok (.iload_n 2, 1) := by decide +kernel
theorem dX4_ifTraverse_22 : decode cX4_ifTraverse 22 = .ok (.invokevirtual 151, 3) := by decide +kernel
theorem dX4_ifTraverse_25 : decode cX4_ifTraverse 25 = .ok (.iload_n 3, 1) := by decide +kernel
theorem dX4_ifTraverse_26 : decode cX4_ifTraverse 26 = .ok (.tableswitch 50 0 2 #[26, 34, 42], 26) := by decide +kernel
theorem dX4_ifTraverse_52 : decode cX4_ifTraverse 52 = .ok (.aload_n 0, 1) := by decide +kernel
theorem dX4_ifTraverse_53 : decode cX4_ifTraverse 53 = .ok (.getfield 25, 3) := by decide +kernel
theorem dX4_ifTraverse_56 : decode cX4_ifTraverse 56 = .ok (.invokevirtual 138, 3) := by decide +kernel
theorem dX4_ifTraverse_59 : decode cX4_ifTraverse 59 = .ok (.ireturn, 1) := by decide +kernel
theorem dX4_ifTraverse_60 : decode cX4_ifTraverse 60 = .ok (.aload_n 0, 1) := by decide +kernel
theorem dX4_ifTraverse_61 : decode cX4_ifTraverse 61 = .ok (.getfield 25, 3) := by decide +kernel
theorem dX4_ifTraverse_64 : decode cX4_ifTraverse 64 = .ok (.invokevirtual 135, 3) := by decide +kernel
theorem dX4_ifTraverse_67 : decode cX4_ifTraverse 67 = .ok (.ireturn, 1) := by decide +kernel
theorem dX4_ifTraverse_68 : decode cX4_ifTraverse 68 = .ok (.aload_n 0, 1) := by decide +kernel
theorem dX4_ifTraverse_69 : decode cX4_ifTraverse 69 = .ok (.getfield 25, 3) := by decide +kernel
theorem dX4_ifTraverse_72 : decode cX4_ifTraverse 72 = .ok (.invokevirtual 155, 3) := by decide +kernel
theorem dX4_ifTraverse_75 : decode cX4_ifTraverse 75 = .ok (.ireturn, 1) := by decide +kernel
theorem dX4_ifTraverse_76 : decode cX4_ifTraverse 76 = .ok (.bipush (-2), 2) := by decide +kernel
theorem dX4_ifTraverse_78 : decode cX4_ifTraverse 78 = .ok (.ireturn, 1) := by decide +kernel
set_option maxRecDepth 20000 in
theorem ggX4_bestTraverse_X4_inRange : GoodIn wsX4_bestTraverse wsX4_inRange := goodIn_r _ [5, 6, 7, 4, 8, 9, 10, 11, 12, 13] (by decide +kernel) (by decide +kernel)
set_option maxRecDepth 20000 in
theorem gX4_bestTraverse_X4_inRange : GoodIn wsX4_bestTraverse (va_wsS RX4 147 yX4_inRange wsX4_inRange) := goodIn_app (goodIn_of _ (by decide +kernel)) ggX4_bestTraverse_X4_inRange
set_option maxRecDepth 20000 in
theorem ggX4_bestTraverse_X4_lowest : GoodIn wsX4_bestTraverse wsX4_lowest := goodIn_r _ [8, 9] (by decide +kernel) (by decide +kernel)
set_option maxRecDepth 20000 in
theorem gX4_bestTraverse_X4_lowest : GoodIn wsX4_bestTraverse (va_wsS RX4 158 yX4_lowest wsX4_lowest) := goodIn_app (goodIn_of _ (by decide +kernel)) ggX4_bestTraverse_X4_lowest
set_option maxRecDepth 20000 in
theorem ggX4_bestTraverse_X4_highest : GoodIn wsX4_bestTraverse wsX4_highest := goodIn_r _ [12, 13] (by decide +kernel) (by decide +kernel)
set_option maxRecDepth 20000 in
theorem gX4_bestTraverse_X4_highest : GoodIn wsX4_bestTraverse (va_wsS RX4 161 yX4_highest wsX4_highest) := goodIn_app (goodIn_of _ (by decide +kernel)) ggX4_bestTraverse_X4_highest
set_option maxRecDepth 20000 in
theorem ggX4_bestTraverse_X4_imagine : GoodIn wsX4_bestTraverse wsX4_imagine := goodIn_r _ [17, 1, 18, 19, 20, 21, 22, 23, 24, 25, 26, 27, 28, 29, 30, 31, 32, 33, 34, 35, 36, 37, 38, 39, 40, 41, 42, 43, 44, 45, 46, 47, 48, 49, 50, 51, 52, 53, 4, 54, 61, 62, 63, 64, 65, 66, 67, 68, 69, 70, 71, 72, 73, 74, 75, 76, 77, 78, 79, 80, 81, 82, 83] (by decide +kernel) (by decide +kernel)
set_option maxRecDepth 20000 in
theorem gX4_bestTraverse_X4_imagine : GoodIn wsX4_bestTraverse (wsV RX4 151 RX4 yX4_imagine wsX4_imagine) := goodIn_app (goodIn_of _ (by decide +kernel)) ggX4_bestTraverse_X4_imagine
set_option maxRecDepth 20000 in
theorem ggX4_bestTraverse_X3_evenness : GoodIn wsX4_bestTraverse wsX3_evenness := goodIn_r _ [57, 25, 23, 58, 59, 39, 60, 69, 70, 71, 72] (by decide +kernel) (by decide +kernel)
set_option maxRecDepth 20000 in
theorem gX4_bestTraverse_X3_evenness_n138 : GoodIn wsX4_bestTraverse (wsX3_evenness) := ggX4_bestTraverse_X3_evenness
theorem dX4_bestTraverse_0 : decode cX4_bestTraverse 0 = .ok (.iconst 5, 1) := by decide +kernel
theorem dX4_bestTraverse_1 : decode cX4_bestTraverse 1 = .ok (.iload_n 1, 1) := by decide +kernel
theorem dX4_bestTraverse_2 : decode cX4_bestTraverse 2 = .ok (.invokestatic 147, 3) := by decide +kernel
theorem dX4_bestTraverse_5 : decode cX4_bestTraverse 5 = .ok (.ifCond .ne 6, 3) := by decide +kernel
theorem dX4_bestTraverse_8 : decode cX4_bestTraverse 8 = .ok (.bipush (-2), 2) := by decide +kernel
theorem dX4_bestTraverse_10 : decode cX4_bestTraverse 10 = .ok (.ireturn, 1) := by decide +kernel
theorem dX4_bestTraverse_11 : decode cX4_bestTraverse 11 = .ok (.iconst 0, 1) := by decide +kernel
theorem dX4_bestTraverse_12 : decode cX4_bestTraverse 12 = .ok (.istore_n 2, 1) := by decide +kernel
theorem dX4_bestTraverse_13 : decode cX4_bestTraverse 13 = .ok (.iconst 0, 1) := by decide +kernel
theorem dX4_bestTraverse_14 : decode cX4_bestTraverse 14 = .ok (.istore_n 3, 1) := by decide +kernel
theorem dX4_bestTraverse_15 : decode cX4_bestTraverse 15 = .ok (.iconst 0, 1) := by decide +kernel
theorem dX4_bestTraverse_16 : decode cX4_bestTraverse 16 = .ok (.invokestatic 158, 3) := by decide +kernel
theorem dX4_bestTraverse_19 : decode cX4_bestTraverse 19 = .ok (.istore 4, 2) := by decide +kernel
theorem dX4_bestTraverse_21 : decode cX4_bestTraverse 21 = .ok (.iload 4, 2) := by decide +kernel
theorem dX4_bestTraverse_23 : decode cX4_bestTraverse 23 = .ok (.iconst 0, 1) := by decide +kernel
theorem dX4_bestTraverse_24 : decode cX4_bestTraverse 24 = .ok (.invokestatic 161, 3) := by decide +kernel
theorem dX4_bestTraverse_27 : decode cX4_bestTraverse 27 = .ok (.if_icmp .gt 41, 3) := by decide +kernel
theorem dX4_bestTraverse_30 : decode cX4_bestTraverse 30 = .ok (.aload_n 0, 1) := by decide +kernel
theorem dX4_bestTraverse_31 : decode cX4_bestTraverse 31 = .ok (.iload 4, 2) := by decide +kernel
theorem dX4_bestTraverse_33 : decode cX4_bestTraverse 33 = .ok (.iload_n 1, 1) := by decide +kernel
theorem dX4_bestTraverse_34 : decode cX4_bestTraverse 34 = .ok (.invokevirtual 151, 3) := by decide +kernel
theorem dX4_bestTraverse_37 : decode cX4_bestTraverse 37 = .ok (.aload_n 0, 1) := by decide +kernel
theorem dX4_bestTraverse_38 : decode cX4_bestTraverse 38 = .ok (.getfield 25, 3) := by decide +kernel
theorem dX4_bestTraverse_41 : decode cX4_bestTraverse 41 = .ok (.invokevirtual 138, 3) := by decide +kernel
theorem dX4_bestTraverse_44 : decode cX4_bestTraverse 44 = .ok (.istore 5, 2) := by decide +kernel
theorem dX4_bestTraverse_46 : decode cX4_bestTraverse 46 = .ok (.iload_n 2, 1) := by decide +kernel
theorem dX4_bestTraverse_47 : decode cX4_bestTraverse 47 = .ok (.ifCond .eq 9, 3) := by decide +kernel
theorem dX4_bestTraverse_50 : decode cX4_bestTraverse 50 = .ok (.iload 5, 2) := by decide +kernel
theorem dX4_bestTraverse_52 : decode cX4_bestTraverse 52 = .ok (.iload_n 3, 1) := by decide +kernel
theorem dX4_bestTraverse_53 : decode cX4_bestTraverse 53 = .ok (.if_icmp .ge 9, 3) := by decide +kernel
theorem dX4_bestTraverse_56 : decode cX4_bestTraverse 56 = .ok (.iload 4, 2) := by decide +kernel
theorem dX4_bestTraverse_58 : decode cX4_bestTraverse 58 = .ok (.istore_n 2, 1) := by decide +kernel
theorem dX4_bestTraverse_59 : decode cX4_bestTraverse 59 = .ok (.iload 5, 2) := by decide +kernel
theorem dX4_bestTraverse_61 : decode cX4_bestTraverse 61 = .ok (.istore_n 3, 1) := by decide +kernel
theorem dX4_bestTraverse_62 : decode cX4_bestTraverse 62 = .ok (.iinc 4 1, 3) := by decide +kernel
theorem dX4_bestTraverse_65 : decode cX4_bestTraverse 65 = .ok (.goto (-44), 3) := by decide +kernel
theorem dX4_bestTraverse_68 : decode cX4_bestTraverse 68 = .ok (.iload_n 2, 1) := by decide +kernel
theorem dX4_bestTraverse_69 : decode cX4_bestTraverse 69 = .ok (.ireturn, 1) := by decide +kernel
set_option maxRecDepth 20000 in
theorem ggX4_period_X4_inRange : GoodIn wsX4_period wsX4_inRange := goodIn_r _ [4, 5, 6, 3, 7, 8, 9, 10, 11, 12] (by decide +kernel) (by decide +kernel)
set_option maxRecDepth 20000 in
theorem gX4_period_X4_inRange : GoodIn wsX4_period (va_wsS RX4 147 yX4_inRange wsX4_inRange) := goodIn_app (goodIn_of _ (by decide +kernel)) ggX4_period_X4_inRange
theorem dX4_period_0 : decode cX4_period 0 = .ok (.iconst 0, 1) := by decide +kernel
theorem dX4_period_1 : decode cX4_period 1 = .ok (.iload_n 1, 1) := by decide +kernel
theorem dX4_period_2 : decode cX4_period 2 = .ok (.invokestatic 147, 3) := by decide +kernel
theorem dX4_period_5 : decode cX4_period 5 = .ok (.ifCond .ne 6, 3) := by decide +kernel
theorem dX4_period_8 : decode cX4_period 8 = .ok (.bipush (-2), 2) := by decide +kernel
theorem dX4_period_10 : decode cX4_period 10 = .ok (.ireturn, 1) := by decide +kernel
theorem dX4_period_11 : decode cX4_period 11 = .ok (.iconst 1, 1) := by decide +kernel
theorem dX4_period_12 : decode cX4_period 12 = .ok (.istore_n 2, 1) := by decide +kernel
theorem dX4_period_13 : decode cX4_period 13 = .ok (.iload_n 2, 1) := by decide +kernel
theorem dX4_period_14 : decode cX4_period 14 = .ok (.bipush 22, 2) := by decide +kernel
theorem dX4_period_16 : decode cX4_period 16 = .ok (.if_icmp .ge 18, 3) := by decide +kernel
theorem dX4_period_19 : decode cX4_period 19 = .ok (.iload_n 2, 1) := by decide +kernel
theorem dX4_period_20 : decode cX4_period 20 = .ok (.iload_n 1, 1) := by decide +kernel
theorem dX4_period_21 : decode cX4_period 21 = .ok (.imul, 1) := by decide +kernel
theorem dX4_period_22 : decode cX4_period 22 = .ok (.bipush 22, 2) := by decide +kernel
theorem dX4_period_24 : decode cX4_period 24 = .ok (.irem, 1) := by decide +kernel
theorem dX4_period_25 : decode cX4_period 25 = .ok (.ifCond .eq 9, 3) := by decide +kernel
theorem dX4_period_28 : decode cX4_period 28 = .ok (.iinc 2 1, 3) := by decide +kernel
theorem dX4_period_31 : decode cX4_period 31 = .ok (.goto (-18), 3) := by decide +kernel
theorem dX4_period_34 : decode cX4_period 34 = .ok (.iload_n 2, 1) := by decide +kernel
theorem dX4_period_35 : decode cX4_period 35 = .ok (.ireturn, 1) := by decide +kernel
set_option maxRecDepth 20000 in
theorem ggX4_count_X3_guidePlace : GoodIn wsX4_count wsX3_guidePlace := goodIn_r _ [7, 8, 75, 76, 77, 78] (by decide +kernel) (by decide +kernel)
set_option maxRecDepth 20000 in
theorem gX4_count_X3_guidePlace_n167 : GoodIn wsX4_count (wsX3_guidePlace) := ggX4_count_X3_guidePlace
set_option maxRecDepth 20000 in
theorem ggX4_count_X3_guideGoesBack : GoodIn wsX4_count wsX3_guideGoesBack := goodIn_r _ [11, 8, 75, 76, 77, 78] (by decide +kernel) (by decide +kernel)
set_option maxRecDepth 20000 in
theorem gX4_count_X3_guideGoesBack_n170 : GoodIn wsX4_count (wsX3_guideGoesBack) := ggX4_count_X3_guideGoesBack
set_option maxRecDepth 20000 in
theorem ggX4_count_X4_oneIf : GoodIn wsX4_count wsX4_oneIf := goodIn_r _ [15] (by decide +kernel) (by decide +kernel)
set_option maxRecDepth 20000 in
theorem gX4_count_X4_oneIf : GoodIn wsX4_count (va_wsS RX4 118 yX4_oneIf wsX4_oneIf) := goodIn_app (goodIn_of _ (by decide +kernel)) ggX4_count_X4_oneIf
set_option maxRecDepth 20000 in
theorem ggX4_count_X2_isConeEmpty : GoodIn wsX4_count wsX2_isConeEmpty := goodIn_r _ [19, 20, 64, 65, 66, 67, 68, 69, 70, 71, 72, 73, 74] (by decide +kernel) (by decide +kernel)
set_option maxRecDepth 20000 in
theorem gX4_count_X2_isConeEmpty_n128 : GoodIn wsX4_count (wsX2_isConeEmpty) := ggX4_count_X2_isConeEmpty
set_option maxRecDepth 20000 in
theorem ggX4_count_X3_isFull : GoodIn wsX4_count wsX3_isFull := goodIn_r _ [23, 24, 75, 76, 77, 78] (by decide +kernel) (by decide +kernel)
set_option maxRecDepth 20000 in
theorem gX4_count_X3_isFull_n179 : GoodIn wsX4_count (wsX3_isFull) := ggX4_count_X3_isFull
set_option maxRecDepth 20000 in
theorem ggX4_count_X3_evenness : GoodIn wsX4_count wsX3_evenness := goodIn_r _ [27, 24, 28, 29, 30, 31, 32, 75, 76, 77, 78] (by decide +kernel) (by decide +kernel)
set_option maxRecDepth 20000 in
theorem gX4_count_X3_evenness_n138 : GoodIn wsX4_count (wsX3_evenness) := ggX4_count_X3_evenness
set_option maxRecDepth 20000 in
theorem ggX4_count_X3_ribbons : GoodIn wsX4_count wsX3_ribbons := goodIn_r _ [35, 36, 37, 38, 5, 39, 40, 41, 42, 43, 44, 45, 46, 47, 28, 13, 14, 15, 75, 76, 77, 78] (by decide +kernel) (by decide +kernel)
set_option maxRecDepth 20000 in
theorem gX4_count_X3_ribbons_n135 : GoodIn wsX4_count (wsX3_ribbons) := ggX4_count_X3_ribbons
set_option maxRecDepth 20000 in
theorem ggX4_count_X2_allKnots : GoodIn wsX4_count wsX2_allKnots := goodIn_r _ [50, 51, 64, 65, 66, 67, 68, 69, 70, 71, 72, 73, 74] (by decide +kernel) (by decide +kernel)
set_option maxRecDepth 20000 in
theorem gX4_count_X2_allKnots_n182 : GoodIn wsX4_count (wsX2_allKnots) := ggX4_count_X2_allKnots
set_option maxRecDepth 20000 in
theorem ggX4_count_X2_number : GoodIn wsX4_count wsX2_number := goodIn_r _ [54, 55, 64, 65, 66, 67, 68, 69, 70, 71, 72, 73, 74] (by decide +kernel) (by decide +kernel)
set_option maxRecDepth 20000 in
theorem gX4_count_X2_number_n200 : GoodIn wsX4_count (wsX2_number) := ggX4_count_X2_number
theorem dX4_count_0 : decode cX4_count 0 = .ok (.iload_n 1, 1) := by decide +kernel
theorem dX4_count_1 : decode cX4_count 1 = .ok (.tableswitch 293 0 24 #[115, 126, 134, 145, 159, 167, 175, 186, 197, 211, 222, 233, 241, 249, 257, 265, 273, 293, 293, 293, 281, 281, 281, 281, 281], 115) := by decide +kernel
theorem dX4_count_116 : decode cX4_count 116 = .ok (.aload_n 0, 1) := by decide +kernel
theorem dX4_count_117 : decode cX4_count 117 = .ok (.getfield 12, 3) := by decide +kernel
theorem dX4_count_120 : decode cX4_count 120 = .ok (.getfield 102, 3) := by decide +kernel
theorem dX4_count_123 : decode cX4_count 123 = .ok (.getfield 105, 3) := by decide +kernel
theorem dX4_count_126 : decode cX4_count 126 = .ok (.ireturn, 1) := by decide +kernel
theorem dX4_count_127 : decode cX4_count 127 = .ok (.aload_n 0, 1) := by decide +kernel
theorem dX4_count_128 : decode cX4_count 128 = .ok (.getfield 12, 3) := by decide +kernel
theorem dX4_count_131 : decode cX4_count 131 = .ok (.getfield 164, 3) := by decide +kernel
theorem dX4_count_134 : decode cX4_count 134 = .ok (.ireturn, 1) := by decide +kernel
theorem dX4_count_135 : decode cX4_count 135 = .ok (.aload_n 0, 1) := by decide +kernel
theorem dX4_count_136 : decode cX4_count 136 = .ok (.getfield 12, 3) := by decide +kernel
theorem dX4_count_139 : decode cX4_count 139 = .ok (.getfield 102, 3) := by decide +kernel
theorem dX4_count_142 : decode cX4_count 142 = .ok (.invokevirtual 167, 3) := by decide +kernel
theorem dX4_count_145 : decode cX4_count 145 = .ok (.ireturn, 1) := by decide +kernel
theorem dX4_count_146 : decode cX4_count 146 = .ok (.aload_n 0, 1) := by decide +kernel
theorem dX4_count_147 : decode cX4_count 147 = .ok (.getfield 12, 3) := by decide +kernel
theorem dX4_count_150 : decode cX4_count 150 = .ok (.getfield 102, 3) := by decide +kernel
theorem dX4_count_153 : decode cX4_count 153 = .ok (.invokevirtual 170, 3) := by decide +kernel
theorem dX4_count_156 : decode cX4_count 156 = .ok (.invokestatic 118, 3) := by decide +kernel
theorem dX4_count_159 : decode cX4_count 159 = .ok (.ireturn, 1) := by decide +kernel
theorem dX4_count_160 : decode cX4_count 160 = .ok (.aload_n 0, 1) := by decide +kernel
theorem dX4_count_161 : decode cX4_count 161 = .ok (.getfield 12, 3) := by decide +kernel
theorem dX4_count_164 : decode cX4_count 164 = .ok (.getfield 173, 3) := by decide +kernel
theorem dX4_count_167 : decode cX4_count 167 = .ok (.ireturn, 1) := by decide +kernel
theorem dX4_count_168 : decode cX4_count 168 = .ok (.aload_n 0, 1) := by decide +kernel
theorem dX4_count_169 : decode cX4_count 169 = .ok (.getfield 12, 3) := by decide +kernel
theorem dX4_count_172 : decode cX4_count 172 = .ok (.getfield 176, 3) := by decide +kernel
theorem dX4_count_175 : decode cX4_count 175 = .ok (.ireturn, 1) := by decide +kernel
theorem dX4_count_176 : decode cX4_count 176 = .ok (.aload_n 0, 1) := by decide +kernel
theorem dX4_count_177 : decode cX4_count 177 = .ok (.getfield 12, 3) := by decide +kernel
theorem dX4_count_180 : decode cX4_count 180 = .ok (.getfield 125, 3) := by decide +kernel
theorem dX4_count_183 : decode cX4_count 183 = .ok (.invokestatic 118, 3) := by decide +kernel
theorem dX4_count_186 : decode cX4_count 186 = .ok (.ireturn, 1) := by decide +kernel
theorem dX4_count_187 : decode cX4_count 187 = .ok (.aload_n 0, 1) := by decide +kernel
theorem dX4_count_188 : decode cX4_count 188 = .ok (.getfield 12, 3) := by decide +kernel
theorem dX4_count_191 : decode cX4_count 191 = .ok (.invokevirtual 128, 3) := by decide +kernel
theorem dX4_count_194 : decode cX4_count 194 = .ok (.invokestatic 118, 3) := by decide +kernel
theorem dX4_count_197 : decode cX4_count 197 = .ok (.ireturn, 1) := by decide +kernel
theorem dX4_count_198 : decode cX4_count 198 = .ok (.aload_n 0, 1) := by decide +kernel
theorem dX4_count_199 : decode cX4_count 199 = .ok (.getfield 12, 3) := by decide +kernel
theorem dX4_count_202 : decode cX4_count 202 = .ok (.getfield 102, 3) := by decide +kernel
theorem dX4_count_205 : decode cX4_count 205 = .ok (.invokevirtual 179, 3) := by decide +kernel
theorem dX4_count_208 : decode cX4_count 208 = .ok (.invokestatic 118, 3) := by decide +kernel
theorem dX4_count_211 : decode cX4_count 211 = .ok (.ireturn, 1) := by decide +kernel
theorem dX4_count_212 : decode cX4_count 212 = .ok (.aload_n 0, 1) := by decide +kernel
theorem dX4_count_213 : decode cX4_count 213 = .ok (.getfield 12, 3) := by decide +kernel
theorem dX4_count_216 : decode cX4_count 216 = .ok (.getfield 102, 3) := by decide +kernel
theorem dX4_count_219 : decode cX4_count 219 = .ok (.invokevirtual 138, 3) := by decide +kernel
theorem dX4_count_222 : decode cX4_count 222 = .ok (.ireturn, 1) := by decide +kernel
theorem dX4_count_223 : decode cX4_count 223 = .ok (.aload_n 0, 1) := by decide +kernel
theorem dX4_count_224 : decode cX4_count 224 = .ok (.getfield 12, 3) := by decide +kernel
theorem dX4_count_227 : decode cX4_count 227 = .ok (.getfield 102, 3) := by decide +kernel
theorem dX4_count_230 : decode cX4_count 230 = .ok (.invokevirtual 135, 3) := by decide +kernel
theorem dX4_count_233 : decode cX4_count 233 = .ok (.ireturn, 1) := by decide +kernel
theorem dX4_count_234 : decode cX4_count 234 = .ok (.aload_n 0, 1) := by decide +kernel
theorem dX4_count_235 : decode cX4_count 235 = .ok (.getfield 12, 3) := by decide +kernel
theorem dX4_count_238 : decode cX4_count 238 = .ok (.invokevirtual 182, 3) := by decide +kernel
theorem dX4_count_241 : decode cX4_count 241 = .ok (.ireturn, 1) := by decide +kernel
theorem dX4_count_242 : decode cX4_count 242 = .ok (.aload_n 0, 1) := by decide +kernel
theorem dX4_count_243 : decode cX4_count 243 = .ok (.getfield 12, 3) := by decide +kernel
theorem dX4_count_246 : decode cX4_count 246 = .ok (.getfield 185, 3) := by decide +kernel
theorem dX4_count_249 : decode cX4_count 249 = .ok (.ireturn, 1) := by decide +kernel
theorem dX4_count_250 : decode cX4_count 250 = .ok (.aload_n 0, 1) := by decide +kernel
theorem dX4_count_251 : decode cX4_count 251 = .ok (.getfield 12, 3) := by decide +kernel
theorem dX4_count_254 : decode cX4_count 254 = .ok (.getfield 188, 3) := by decide +kernel
theorem dX4_count_257 : decode cX4_count 257 = .ok (.ireturn, 1) := by decide +kernel
theorem dX4_count_258 : decode cX4_count 258 = .ok (.aload_n 0, 1) := by decide +kernel
theorem dX4_count_259 : decode cX4_count 259 = .ok (.getfield 12, 3) := by decide +kernel
theorem dX4_count_262 : decode cX4_count 262 = .ok (.getfield 191, 3) := by decide +kernel
theorem dX4_count_265 : decode cX4_count 265 = .ok (.ireturn, 1) := by decide +kernel
theorem dX4_count_266 : decode cX4_count 266 = .ok (.aload_n 0, 1) := by decide +kernel
theorem dX4_count_267 : decode cX4_count 267 = .ok (.getfield 32, 3) := by decide +kernel
theorem dX4_count_270 : decode cX4_count 270 = .ok (.getfield 194, 3) := by decide +kernel
theorem dX4_count_273 : decode cX4_count 273 = .ok (.ireturn, 1) := by decide +kernel
theorem dX4_count_274 : decode cX4_count 274 = .ok (.aload_n 0, 1) := by decide +kernel
theorem dX4_count_275 : decode cX4_count 275 = .ok (.getfield 39, 3) := by decide +kernel
theorem dX4_count_278 : decode cX4_count 278 = .ok (.getfield 197, 3) := by decide +kernel
theorem dX4_count_281 : decode cX4_count 281 = .ok (.ireturn, 1) := by decide +kernel
theorem dX4_count_282 : decode cX4_count 282 = .ok (.aload_n 0, 1) := by decide +kernel
theorem dX4_count_283 : decode cX4_count 283 = .ok (.getfield 12, 3) := by decide +kernel
theorem dX4_count_286 : decode cX4_count 286 = .ok (.iload_n 1, 1) := by decide +kernel
theorem dX4_count_287 : decode cX4_count 287 = .ok (.bipush 20, 2) := by decide +kernel
theorem dX4_count_289 : decode cX4_count 289 = .ok (.isub, 1) := by decide +kernel
theorem dX4_count_290 : decode cX4_count 290 = .ok (.invokevirtual 200, 3) := by decide +kernel
theorem dX4_count_293 : decode cX4_count 293 = .ok (.ireturn, 1) := by decide +kernel
theorem dX4_count_294 : decode cX4_count 294 = .ok (.bipush (-2), 2) := by decide +kernel
theorem dX4_count_296 : decode cX4_count 296 = .ok (.ireturn, 1) := by decide +kernel
set_option maxRecDepth 20000 in
theorem ggX4_finishAct_X1_remember : GoodIn wsX4_finishAct wsX1_remember := goodIn_r _ [7, 8, 9, 10, 11, 12, 13, 14, 15, 16, 5, 17, 18, 19, 20, 21, 22, 23, 24, 25, 26, 27, 28, 29, 30, 31, 32, 33, 34, 35, 36, 37, 38, 39, 40, 41, 42, 43, 44, 45, 46, 55, 56, 57, 58, 59, 60, 61, 62, 63, 64, 65, 66, 67, 68, 69, 70, 71, 72] (by decide +kernel) (by decide +kernel)
set_option maxRecDepth 20000 in
theorem gX4_finishAct_X1_remember_n203 : GoodIn wsX4_finishAct (wsX1_remember) := ggX4_finishAct_X1_remember
set_option maxRecDepth 20000 in
theorem ggX4_finishAct_X2_copyFrom : GoodIn wsX4_finishAct wsX2_copyFrom := goodIn_r _ [22, 23, 24, 25, 26, 27, 28, 29, 30, 31, 32, 33, 34, 35, 36, 37, 38, 39, 40, 41, 42, 43, 44, 45, 46, 58, 59, 60, 61, 62, 63, 64, 65, 66, 67, 68, 69, 70, 71, 72] (by decide +kernel) (by decide +kernel)
set_option maxRecDepth 20000 in
theorem gX4_finishAct_X2_copyFrom_n51 : GoodIn wsX4_finishAct (wsX2_copyFrom) := ggX4_finishAct_X2_copyFrom
theorem dX4_finishAct_0 : decode cX4_finishAct 0 = .ok (.iload_n 1, 1) := by decide +kernel
theorem dX4_finishAct_1 : decode cX4_finishAct 1 = .ok (.ifCond .lt 25, 3) := by decide +kernel
theorem dX4_finishAct_4 : decode cX4_finishAct 4 = .ok (.aload_n 0, 1) := by decide +kernel
theorem dX4_finishAct_5 : decode cX4_finishAct 5 = .ok (.getfield 32, 3) := by decide +kernel
theorem dX4_finishAct_8 : decode cX4_finishAct 8 = .ok (.aload_n 0, 1) := by decide +kernel
theorem dX4_finishAct_9 : decode cX4_finishAct 9 = .ok (.getfield 12, 3) := by decide +kernel
theorem dX4_finishAct_12 : decode cX4_finishAct 12 = .ok (.invokevirtual 203, 3) := by decide +kernel
theorem dX4_finishAct_15 : decode cX4_finishAct 15 = .ok (.aload_n 0, 1) := by decide +kernel
theorem dX4_finishAct_16 : decode cX4_finishAct 16 = .ok (.getfield 12, 3) := by decide +kernel
theorem dX4_finishAct_19 : decode cX4_finishAct 19 = .ok (.aload_n 0, 1) := by decide +kernel
theorem dX4_finishAct_20 : decode cX4_finishAct 20 = .ok (.getfield 16, 3) := by decide +kernel
theorem dX4_finishAct_23 : decode cX4_finishAct 23 = .ok (.invokevirtual 51, 3) := by decide +kernel
theorem dX4_finishAct_26 : decode cX4_finishAct 26 = .ok (.iload_n 1, 1) := by decide +kernel
theorem dX4_finishAct_27 : decode cX4_finishAct 27 = .ok (.ireturn, 1) := by decide +kernel
set_option maxRecDepth 20000 in
theorem ggX4_imagine_X3_clear : GoodIn wsX4_imagine wsX3_clear := goodIn_r _ [6, 7, 8, 9, 10, 11, 12, 13, 14, 48, 49, 50, 51] (by decide +kernel) (by decide +kernel)
set_option maxRecDepth 20000 in
theorem gX4_imagine_X3_clear_n206 : GoodIn wsX4_imagine (wsX3_clear) := ggX4_imagine_X3_clear
set_option maxRecDepth 20000 in
theorem ggX4_imagine_X3_isFull : GoodIn wsX4_imagine wsX3_isFull := goodIn_r _ [17, 9, 48, 49, 50, 51] (by decide +kernel) (by decide +kernel)
set_option maxRecDepth 20000 in
theorem gX4_imagine_X3_isFull_n179 : GoodIn wsX4_imagine (wsX3_isFull) := ggX4_imagine_X3_isFull
set_option maxRecDepth 20000 in
theorem ggX4_imagine_X3_layWrap : GoodIn wsX4_imagine wsX3_layWrap := goodIn_r _ [20, 7, 8, 9, 21, 22, 23, 24, 25, 26, 27, 4, 28, 10, 48, 49, 50, 51] (by decide +kernel) (by decide +kernel)
set_option maxRecDepth 20000 in
theorem gX4_imagine_X3_layWrap_n209 : GoodIn wsX4_imagine (wsX3_layWrap) := ggX4_imagine_X3_layWrap
set_option maxRecDepth 20000 in
theorem ggX4_imagine_X2_number : GoodIn wsX4_imagine wsX2_number := goodIn_r _ [32, 33, 52, 53, 54, 55, 56, 57, 58, 59, 60, 61, 62] (by decide +kernel) (by decide +kernel)
set_option maxRecDepth 20000 in
theorem gX4_imagine_X2_number_n200 : GoodIn wsX4_imagine (wsX2_number) := ggX4_imagine_X2_number
set_option maxRecDepth 20000 in
theorem ggX4_imagine_X3_moveGuide : GoodIn wsX4_imagine wsX3_moveGuide := goodIn_r _ [36, 10, 37, 38, 39, 48, 49, 50, 51] (by decide +kernel) (by decide +kernel)
set_option maxRecDepth 20000 in
theorem gX4_imagine_X3_moveGuide_n212 : GoodIn wsX4_imagine (wsX3_moveGuide) := ggX4_imagine_X3_moveGuide
theorem dX4_imagine_0 : decode cX4_imagine 0 = .ok (.aload_n 0, 1) := by decide +kernel
theorem dX4_imagine_1 : decode cX4_imagine 1 = .ok (.getfield 25, 3) := by decide +kernel
theorem dX4_imagine_4 : decode cX4_imagine 4 = .ok (.invokevirtual 206, 3) := by decide +kernel
theorem dX4_imagine_7 : decode cX4_imagine 7 = .ok (.iconst 1, 1) := by decide +kernel
theorem dX4_imagine_8 : decode cX4_imagine 8 = .ok (.istore_n 3, 1) := by decide +kernel
theorem dX4_imagine_9 : decode cX4_imagine 9 = .ok (.iload_n 3, 1) := by decide +kernel
theorem dX4_imagine_10 : decode cX4_imagine 10 = .ok (.iload_n 2, 1) := by decide +kernel
theorem dX4_imagine_11 : decode cX4_imagine 11 = .ok (.if_icmp .gt 43, 3) := by decide +kernel
theorem dX4_imagine_14 : decode cX4_imagine 14 = .ok (.aload_n 0, 1) := by decide +kernel
theorem dX4_imagine_15 : decode cX4_imagine 15 = .ok (.getfield 25, 3) := by decide +kernel
theorem dX4_imagine_18 : decode cX4_imagine 18 = .ok (.invokevirtual 179, 3) := by decide +kernel
theorem dX4_imagine_21 : decode cX4_imagine 21 = .ok (.ifCond .ne 33, 3) := by decide +kernel
theorem dX4_imagine_24 : decode cX4_imagine 24 = .ok (.aload_n 0, 1) := by decide +kernel
theorem dX4_imagine_25 : decode cX4_imagine 25 = .ok (.getfield 25, 3) := by decide +kernel
theorem dX4_imagine_28 : decode cX4_imagine 28 = .ok (.invokevirtual 209, 3) := by decide +kernel
theorem dX4_imagine_31 : decode cX4_imagine 31 = .ok (.aload_n 0, 1) := by decide +kernel
theorem dX4_imagine_32 : decode cX4_imagine 32 = .ok (.getfield 25, 3) := by decide +kernel
theorem dX4_imagine_35 : decode cX4_imagine 35 = .ok (.iload_n 1, 1) := by decide +kernel
theorem dX4_imagine_36 : decode cX4_imagine 36 = .ok (.aload_n 0, 1) := by decide +kernel
theorem dX4_imagine_37 : decode cX4_imagine 37 = .ok (.getfield 12, 3) := by decide +kernel
theorem dX4_imagine_40 : decode cX4_imagine 40 = .ok (.iconst 2, 1) := by decide +kernel
theorem dX4_imagine_41 : decode cX4_imagine 41 = .ok (.invokevirtual 200, 3) := by decide +kernel
theorem dX4_imagine_44 : decode cX4_imagine 44 = .ok (.iload_n 3, 1) := by decide +kernel
theorem dX4_imagine_45 : decode cX4_imagine 45 = .ok (.invokevirtual 212, 3) := by decide +kernel
theorem dX4_imagine_48 : decode cX4_imagine 48 = .ok (.iinc 3 1, 3) := by decide +kernel
theorem dX4_imagine_51 : decode cX4_imagine 51 = .ok (.goto (-42), 3) := by decide +kernel
theorem dX4_imagine_54 : decode cX4_imagine 54 = .ok (.return_, 1) := by decide +kernel
theorem dX4_oneIf_0 : decode cX4_oneIf 0 = .ok (.iload_n 0, 1) := by decide +kernel
theorem dX4_oneIf_1 : decode cX4_oneIf 1 = .ok (.ifCond .eq 7, 3) := by decide +kernel
theorem dX4_oneIf_4 : decode cX4_oneIf 4 = .ok (.iconst 1, 1) := by decide +kernel
theorem dX4_oneIf_5 : decode cX4_oneIf 5 = .ok (.goto 4, 3) := by decide +kernel
theorem dX4_oneIf_8 : decode cX4_oneIf 8 = .ok (.iconst 0, 1) := by decide +kernel
theorem dX4_oneIf_9 : decode cX4_oneIf 9 = .ok (.ireturn, 1) := by decide +kernel
theorem dX4_lowest_0 : decode cX4_lowest 0 = .ok (.iload_n 0, 1) := by decide +kernel
theorem dX4_lowest_1 : decode cX4_lowest 1 = .ok (.ifCond .lt 19, 3) := by decide +kernel
theorem dX4_lowest_4 : decode cX4_lowest 4 = .ok (.iload_n 0, 1) := by decide +kernel
theorem dX4_lowest_5 : decode cX4_lowest 5 = .ok (.getstatic 216, 3) := by decide +kernel
theorem dX4_lowest_8 : decode cX4_lowest 8 = .ok (.arraylength, 1) := by decide +kernel
theorem dX4_lowest_9 : decode cX4_lowest 9 = .ok (.if_icmp .ge 11, 3) := by decide +kernel
theorem dX4_lowest_12 : decode cX4_lowest 12 = .ok (.getstatic 216, 3) := by decide +kernel
theorem dX4_lowest_15 : decode cX4_lowest 15 = .ok (.iload_n 0, 1) := by decide +kernel
theorem dX4_lowest_16 : decode cX4_lowest 16 = .ok (.iaload, 1) := by decide +kernel
theorem dX4_lowest_17 : decode cX4_lowest 17 = .ok (.goto 4, 3) := by decide +kernel
theorem dX4_lowest_20 : decode cX4_lowest 20 = .ok (.iconst 0, 1) := by decide +kernel
theorem dX4_lowest_21 : decode cX4_lowest 21 = .ok (.ireturn, 1) := by decide +kernel
theorem dX4_highest_0 : decode cX4_highest 0 = .ok (.iload_n 0, 1) := by decide +kernel
theorem dX4_highest_1 : decode cX4_highest 1 = .ok (.ifCond .lt 19, 3) := by decide +kernel
theorem dX4_highest_4 : decode cX4_highest 4 = .ok (.iload_n 0, 1) := by decide +kernel
theorem dX4_highest_5 : decode cX4_highest 5 = .ok (.getstatic 220, 3) := by decide +kernel
theorem dX4_highest_8 : decode cX4_highest 8 = .ok (.arraylength, 1) := by decide +kernel
theorem dX4_highest_9 : decode cX4_highest 9 = .ok (.if_icmp .ge 11, 3) := by decide +kernel
theorem dX4_highest_12 : decode cX4_highest 12 = .ok (.getstatic 220, 3) := by decide +kernel
theorem dX4_highest_15 : decode cX4_highest 15 = .ok (.iload_n 0, 1) := by decide +kernel
theorem dX4_highest_16 : decode cX4_highest 16 = .ok (.iaload, 1) := by decide +kernel
theorem dX4_highest_17 : decode cX4_highest 17 = .ok (.goto 4, 3) := by decide +kernel
theorem dX4_highest_20 : decode cX4_highest 20 = .ok (.iconst (-1), 1) := by decide +kernel
theorem dX4_highest_21 : decode cX4_highest 21 = .ok (.ireturn, 1) := by decide +kernel
set_option maxRecDepth 20000 in
theorem ggX4_inRange_X4_lowest : GoodIn wsX4_inRange wsX4_lowest := goodIn_r _ [4, 5] (by decide +kernel) (by decide +kernel)
set_option maxRecDepth 20000 in
theorem gX4_inRange_X4_lowest : GoodIn wsX4_inRange (va_wsS RX4 158 yX4_lowest wsX4_lowest) := goodIn_app (goodIn_of _ (by decide +kernel)) ggX4_inRange_X4_lowest
set_option maxRecDepth 20000 in
theorem ggX4_inRange_X4_highest : GoodIn wsX4_inRange wsX4_highest := goodIn_r _ [8, 9] (by decide +kernel) (by decide +kernel)
set_option maxRecDepth 20000 in
theorem gX4_inRange_X4_highest : GoodIn wsX4_inRange (va_wsS RX4 161 yX4_highest wsX4_highest) := goodIn_app (goodIn_of _ (by decide +kernel)) ggX4_inRange_X4_highest
theorem dX4_inRange_0 : decode cX4_inRange 0 = .ok (.iload_n 1, 1) := by decide +kernel
theorem dX4_inRange_1 : decode cX4_inRange 1 = .ok (.iload_n 0, 1) := by decide +kernel
theorem dX4_inRange_2 : decode cX4_inRange 2 = .ok (.invokestatic 158, 3) := by decide +kernel
theorem dX4_inRange_5 : decode cX4_inRange 5 = .ok (.if_icmp .lt 15, 3) := by decide +kernel
theorem dX4_inRange_8 : decode cX4_inRange 8 = .ok (.iload_n 1, 1) := by decide +kernel
theorem dX4_inRange_9 : decode cX4_inRange 9 = .ok (.iload_n 0, 1) := by decide +kernel
theorem dX4_inRange_10 : decode cX4_inRange 10 = .ok (.invokestatic 161, 3) := by decide +kernel
theorem dX4_inRange_13 : decode cX4_inRange 13 = .ok (.if_icmp .gt 7, 3) := by decide +kernel
theorem dX4_inRange_16 : decode cX4_inRange 16 = .ok (.iconst 1, 1) := by decide +kernel
theorem dX4_inRange_17 : decode cX4_inRange 17 = .ok (.goto 4, 3) := by decide +kernel
theorem dX4_inRange_20 : decode cX4_inRange 20 = .ok (.iconst 0, 1) := by decide +kernel
theorem dX4_inRange_21 : decode cX4_inRange 21 = .ok (.ireturn, 1) := by decide +kernel
end
section
theorem dJ9_abs_0f7a4_0 : decode cJ9_abs_0f7a4 0 = .ok (.iload_n 0, 1) := by decide +kernel
theorem dJ9_abs_0f7a4_1 : decode cJ9_abs_0f7a4 1 = .ok (.ifCond .ge 8, 3) := by decide +kernel
theorem dJ9_abs_0f7a4_4 : decode cJ9_abs_0f7a4 4 = .ok (.iload_n 0, 1) := by decide +kernel
theorem dJ9_abs_0f7a4_5 : decode cJ9_abs_0f7a4 5 = .ok (.ineg, 1) := by decide +kernel
theorem dJ9_abs_0f7a4_6 : decode cJ9_abs_0f7a4 6 = .ok (.goto 4, 3) := by decide +kernel
theorem dJ9_abs_0f7a4_9 : decode cJ9_abs_0f7a4 9 = .ok (.iload_n 0, 1) := by decide +kernel
theorem dJ9_abs_0f7a4_10 : decode cJ9_abs_0f7a4 10 = .ok (.ireturn, 1) := by decide +kernel
theorem dJ9_max_7cf53_0 : decode cJ9_max_7cf53 0 = .ok (.iload_n 0, 1) := by decide +kernel
theorem dJ9_max_7cf53_1 : decode cJ9_max_7cf53 1 = .ok (.iload_n 1, 1) := by decide +kernel
theorem dJ9_max_7cf53_2 : decode cJ9_max_7cf53 2 = .ok (.if_icmp .lt 7, 3) := by decide +kernel
theorem dJ9_max_7cf53_5 : decode cJ9_max_7cf53 5 = .ok (.iload_n 0, 1) := by decide +kernel
theorem dJ9_max_7cf53_6 : decode cJ9_max_7cf53 6 = .ok (.goto 4, 3) := by decide +kernel
theorem dJ9_max_7cf53_9 : decode cJ9_max_7cf53 9 = .ok (.iload_n 1, 1) := by decide +kernel
theorem dJ9_max_7cf53_10 : decode cJ9_max_7cf53 10 = .ok (.ireturn, 1) := by decide +kernel
theorem dJ9_min_7cf53_0 : decode cJ9_min_7cf53 0 = .ok (.iload_n 0, 1) := by decide +kernel
theorem dJ9_min_7cf53_1 : decode cJ9_min_7cf53 1 = .ok (.iload_n 1, 1) := by decide +kernel
theorem dJ9_min_7cf53_2 : decode cJ9_min_7cf53 2 = .ok (.if_icmp .gt 7, 3) := by decide +kernel
theorem dJ9_min_7cf53_5 : decode cJ9_min_7cf53 5 = .ok (.iload_n 0, 1) := by decide +kernel
theorem dJ9_min_7cf53_6 : decode cJ9_min_7cf53 6 = .ok (.goto 4, 3) := by decide +kernel
theorem dJ9_min_7cf53_9 : decode cJ9_min_7cf53 9 = .ok (.iload_n 1, 1) := by decide +kernel
theorem dJ9_min_7cf53_10 : decode cJ9_min_7cf53 10 = .ok (.ireturn, 1) := by decide +kernel
theorem dJ7_fill_53178_0 : decode cJ7_fill_53178 0 = .ok (.iconst 0, 1) := by decide +kernel
theorem dJ7_fill_53178_1 : decode cJ7_fill_53178 1 = .ok (.istore_n 2, 1) := by decide +kernel
theorem dJ7_fill_53178_2 : decode cJ7_fill_53178 2 = .ok (.aload_n 0, 1) := by decide +kernel
theorem dJ7_fill_53178_3 : decode cJ7_fill_53178 3 = .ok (.arraylength, 1) := by decide +kernel
theorem dJ7_fill_53178_4 : decode cJ7_fill_53178 4 = .ok (.istore_n 3, 1) := by decide +kernel
theorem dJ7_fill_53178_5 : decode cJ7_fill_53178 5 = .ok (.iload_n 2, 1) := by decide +kernel
theorem dJ7_fill_53178_6 : decode cJ7_fill_53178 6 = .ok (.iload_n 3, 1) := by decide +kernel
theorem dJ7_fill_53178_7 : decode cJ7_fill_53178 7 = .ok (.if_icmp .ge 13, 3) := by decide +kernel
theorem dJ7_fill_53178_10 : decode cJ7_fill_53178 10 = .ok (.aload_n 0, 1) := by decide +kernel
theorem dJ7_fill_53178_11 : decode cJ7_fill_53178 11 = .ok (.iload_n 2, 1) := by decide +kernel
theorem dJ7_fill_53178_12 : decode cJ7_fill_53178 12 = .ok (.iload_n 1, 1) := by decide +kernel
theorem dJ7_fill_53178_13 : decode cJ7_fill_53178 13 = .ok (.iastore, 1) := by decide +kernel
theorem dJ7_fill_53178_14 : decode cJ7_fill_53178 14 = .ok (.iinc 2 1, 3) := by decide +kernel
theorem dJ7_fill_53178_17 : decode cJ7_fill_53178 17 = .ok (.goto (-12), 3) := by decide +kernel
theorem dJ7_fill_53178_20 : decode cJ7_fill_53178 20 = .ok (.return_, 1) := by decide +kernel
end
section
theorem dL_cell_0 : decode cL_cell 0 = .ok (.iload_n 1, 1) := by decide +kernel
theorem dL_cell_1 : decode cL_cell 1 = .ok (.aload_n 0, 1) := by decide +kernel
theorem dL_cell_2 : decode cL_cell 2 = .ok (.arraylength, 1) := by decide +kernel
theorem dL_cell_3 : decode cL_cell 3 = .ok (.if_icmp .ge 9, 3) := by decide +kernel
theorem dL_cell_6 : decode cL_cell 6 = .ok (.aload_n 0, 1) := by decide +kernel
theorem dL_cell_7 : decode cL_cell 7 = .ok (.iload_n 1, 1) := by decide +kernel
theorem dL_cell_8 : decode cL_cell 8 = .ok (.iaload, 1) := by decide +kernel
theorem dL_cell_9 : decode cL_cell 9 = .ok (.goto 11, 3) := by decide +kernel
theorem dL_cell_12 : decode cL_cell 12 = .ok (.ldc 7, 2) := by decide +kernel
theorem dL_cell_14 : decode cL_cell 14 = .ok (.iload_n 1, 1) := by decide +kernel
theorem dL_cell_15 : decode cL_cell 15 = .ok (.sipush 1039, 3) := by decide +kernel
theorem dL_cell_18 : decode cL_cell 18 = .ok (.iadd, 1) := by decide +kernel
theorem dL_cell_19 : decode cL_cell 19 = .ok (.imul, 1) := by decide +kernel
theorem dL_cell_20 : decode cL_cell 20 = .ok (.ireturn, 1) := by decide +kernel
theorem dL_up_0 : decode cL_up 0 = .ok (.iload_n 0, 1) := by decide +kernel
theorem dL_up_1 : decode cL_up 1 = .ok (.ldc 8, 2) := by decide +kernel
theorem dL_up_3 : decode cL_up 3 = .ok (.iand, 1) := by decide +kernel
theorem dL_up_4 : decode cL_up 4 = .ok (.iload_n 1, 1) := by decide +kernel
theorem dL_up_5 : decode cL_up 5 = .ok (.irem, 1) := by decide +kernel
theorem dL_up_6 : decode cL_up 6 = .ok (.ireturn, 1) := by decide +kernel
set_option maxRecDepth 20000 in
theorem ggL_isRound_X4_period : GoodIn wsL_isRound wsX4_period := goodIn_r _ [5, 6, 7, 4, 8, 9, 10, 11, 12, 13, 14, 15, 16] (by decide +kernel) (by decide +kernel)
set_option maxRecDepth 20000 in
theorem gL_isRound_X4_period : GoodIn wsL_isRound (wsV RL 45 RX4 yX4_period wsX4_period) := goodIn_app (goodIn_of _ (by decide +kernel)) ggL_isRound_X4_period
set_option maxRecDepth 20000 in
theorem ggL_isRound_X4_count : GoodIn wsL_isRound wsX4_count := goodIn_r _ [20, 21, 22, 23, 24, 25, 26, 27, 28, 29, 30, 31, 32, 33, 4, 34, 35, 36, 37, 38, 39, 40, 41, 42, 43, 44, 45, 46, 47, 48, 49, 50, 51, 52, 53, 54, 55, 56, 57, 58, 59, 60, 61, 62, 63, 64, 65, 66, 67, 68, 69, 70, 71, 72, 73, 74, 109, 110, 111, 112, 113, 114, 115, 116, 117, 118, 119, 120, 121, 122, 123, 124, 125, 126, 127, 128, 129, 130, 131, 132, 133, 134, 135, 136, 137, 138, 139, 140, 141] (by decide +kernel) (by decide +kernel)
set_option maxRecDepth 20000 in
theorem gL_isRound_X4_count : GoodIn wsL_isRound (wsV RL 9 RX4 yX4_count wsX4_count) := goodIn_app (goodIn_of _ (by decide +kernel)) ggL_isRound_X4_count
set_option maxRecDepth 20000 in
theorem ggL_isRound_X4_ifTraverse : GoodIn wsL_isRound wsX4_ifTraverse := goodIn_r _ [78, 79, 6, 7, 4, 8, 9, 10, 11, 12, 13, 14, 15, 16, 80, 81, 82, 83, 21, 84, 25, 85, 86, 47, 87, 43, 28, 88, 89, 90, 91, 40, 41, 42, 92, 93, 94, 95, 96, 50, 97, 98, 24, 26, 27, 71, 36, 72, 73, 74, 99, 100, 101, 33, 34, 44, 45, 46, 48, 49, 51, 52, 53, 54, 55, 56, 57, 58, 59, 60, 61, 62, 63, 64, 65, 66, 102, 103, 104, 109, 110, 111, 112, 113, 114, 115, 116, 128, 129, 130, 131, 117, 118, 119, 120, 121, 122, 123, 124, 125, 126, 127] (by decide +kernel) (by decide +kernel)
set_option maxRecDepth 20000 in
theorem gL_isRound_X4_ifTraverse : GoodIn wsL_isRound (wsV RL 37 RX4 yX4_ifTraverse wsX4_ifTraverse) := goodIn_app (goodIn_of _ (by decide +kernel)) ggL_isRound_X4_ifTraverse
set_option maxRecDepth 20000 in
theorem ggL_isRound_X4_bestTraverse : GoodIn wsL_isRound wsX4_bestTraverse := goodIn_r _ [108, 79, 6, 7, 4, 8, 9, 10, 11, 12, 13, 14, 15, 16, 80, 81, 82, 83, 21, 84, 25, 85, 86, 47, 87, 43, 28, 88, 89, 90, 91, 40, 41, 42, 92, 93, 94, 95, 96, 50, 97, 98, 24, 26, 27, 71, 36, 72, 73, 74, 99, 100, 101, 33, 34, 44, 45, 46, 48, 49, 51, 109, 110, 111, 112, 113, 114, 115, 116, 128, 129, 130, 131, 117, 118, 119, 120, 121, 122, 123, 124, 125, 126, 127] (by decide +kernel) (by decide +kernel)
set_option maxRecDepth 20000 in
theorem gL_isRound_X4_bestTraverse : GoodIn wsL_isRound (wsV RL 48 RX4 yX4_bestTraverse wsX4_bestTraverse) := goodIn_app (goodIn_of _ (by decide +kernel)) ggL_isRound_X4_bestTraverse
theorem dL_isRound_0 : decode cL_isRound 0 = .ok (.aload_n 0, 1) := by decide +kernel
theorem dL_isRound_1 : decode cL_isRound 1 = .ok (.iload_n 1, 1) := by decide +kernel
theorem dL_isRound_2 : decode cL_isRound 2 = .ok (.invokevirtual 45, 3) := by decide +kernel
theorem dL_isRound_5 : decode cL_isRound 5 = .ok (.istore_n 2, 1) := by decide +kernel
theorem dL_isRound_6 : decode cL_isRound 6 = .ok (.bipush 22, 2) := by decide +kernel
theorem dL_isRound_8 : decode cL_isRound 8 = .ok (.iload_n 2, 1) := by decide +kernel
theorem dL_isRound_9 : decode cL_isRound 9 = .ok (.irem, 1) := by decide +kernel
theorem dL_isRound_10 : decode cL_isRound 10 = .ok (.ifCond .ne 32, 3) := by decide +kernel
theorem dL_isRound_13 : decode cL_isRound 13 = .ok (.iload_n 2, 1) := by decide +kernel
theorem dL_isRound_14 : decode cL_isRound 14 = .ok (.iload_n 1, 1) := by decide +kernel
theorem dL_isRound_15 : decode cL_isRound 15 = .ok (.imul, 1) := by decide +kernel
theorem dL_isRound_16 : decode cL_isRound 16 = .ok (.bipush 22, 2) := by decide +kernel
theorem dL_isRound_18 : decode cL_isRound 18 = .ok (.irem, 1) := by decide +kernel
theorem dL_isRound_19 : decode cL_isRound 19 = .ok (.ifCond .ne 23, 3) := by decide +kernel
theorem dL_isRound_22 : decode cL_isRound 22 = .ok (.iload_n 2, 1) := by decide +kernel
theorem dL_isRound_23 : decode cL_isRound 23 = .ok (.iconst 1, 1) := by decide +kernel
theorem dL_isRound_24 : decode cL_isRound 24 = .ok (.if_icmp .eq 14, 3) := by decide +kernel
theorem dL_isRound_27 : decode cL_isRound 27 = .ok (.iload_n 1, 1) := by decide +kernel
theorem dL_isRound_28 : decode cL_isRound 28 = .ok (.iload_n 2, 1) := by decide +kernel
theorem dL_isRound_29 : decode cL_isRound 29 = .ok (.iconst 1, 1) := by decide +kernel
theorem dL_isRound_30 : decode cL_isRound 30 = .ok (.isub, 1) := by decide +kernel
theorem dL_isRound_31 : decode cL_isRound 31 = .ok (.imul, 1) := by decide +kernel
theorem dL_isRound_32 : decode cL_isRound 32 = .ok (.bipush 22, 2) := by decide +kernel
theorem dL_isRound_34 : decode cL_isRound 34 = .ok (.irem, 1) := by decide +kernel
theorem dL_isRound_35 : decode cL_isRound 35 = .ok (.ifCond .eq 7, 3) := by decide +kernel
theorem dL_isRound_38 : decode cL_isRound 38 = .ok (.iconst 1, 1) := by decide +kernel
theorem dL_isRound_39 : decode cL_isRound 39 = .ok (.goto 4, 3) := by decide +kernel
theorem dL_isRound_42 : decode cL_isRound 42 = .ok (.iconst 0, 1) := by decide +kernel
theorem dL_isRound_43 : decode cL_isRound 43 = .ok (.istore_n 3, 1) := by decide +kernel
theorem dL_isRound_44 : decode cL_isRound 44 = .ok (.aload_n 0, 1) := by decide +kernel
theorem dL_isRound_45 : decode cL_isRound 45 = .ok (.bipush 22, 2) := by decide +kernel
theorem dL_isRound_47 : decode cL_isRound 47 = .ok (.invokevirtual 9, 3) := by decide +kernel
theorem dL_isRound_50 : decode cL_isRound 50 = .ok (.ifCond .ne 70, 3) := by decide +kernel
theorem dL_isRound_53 : decode cL_isRound 53 = .ok (.iload_n 3, 1) := by decide +kernel
theorem dL_isRound_54 : decode cL_isRound 54 = .ok (.ifCond .eq 64, 3) := by decide +kernel
theorem dL_isRound_57 : decode cL_isRound 57 = .ok (.iload_n 2, 1) := by decide +kernel
theorem dL_isRound_58 : decode cL_isRound 58 = .ok (.bipush 22, 2) := by decide +kernel
theorem dL_isRound_60 : decode cL_isRound 60 = .ok (.if_icmp .ge 19, 3) := by decide +kernel
theorem dL_isRound_63 : decode cL_isRound 63 = .ok (.aload_n 0, 1) := by decide +kernel
theorem dL_isRound_64 : decode cL_isRound 64 = .ok (.iload_n 1, 1) := by decide +kernel
theorem dL_isRound_65 : decode cL_isRound 65 = .ok (.bipush 11, 2) := by decide +kernel
theorem dL_isRound_67 : decode cL_isRound 67 = .ok (.iload_n 2, 1) := by decide +kernel
theorem dL_isRound_68 : decode cL_isRound 68 = .ok (.imul, 1) := by decide +kernel
theorem dL_isRound_69 : decode cL_isRound 69 = .ok (.iconst 2, 1) := by decide +kernel
theorem dL_isRound_70 : decode cL_isRound 70 = .ok (.invokevirtual 37, 3) := by decide +kernel
theorem dL_isRound_73 : decode cL_isRound 73 = .ok (.ifCond .lt 45, 3) := by decide +kernel
theorem dL_isRound_76 : decode cL_isRound 76 = .ok (.goto 38, 3) := by decide +kernel
theorem dL_isRound_79 : decode cL_isRound 79 = .ok (.aload_n 0, 1) := by decide +kernel
theorem dL_isRound_80 : decode cL_isRound 80 = .ok (.iload_n 1, 1) := by decide +kernel
theorem dL_isRound_81 : decode cL_isRound 81 = .ok (.bipush 22, 2) := by decide +kernel
theorem dL_isRound_83 : decode cL_isRound 83 = .ok (.iconst 0, 1) := by decide +kernel
theorem dL_isRound_84 : decode cL_isRound 84 = .ok (.invokevirtual 37, 3) := by decide +kernel
theorem dL_isRound_87 : decode cL_isRound 87 = .ok (.iconst 1, 1) := by decide +kernel
theorem dL_isRound_88 : decode cL_isRound 88 = .ok (.if_icmp .ne 30, 3) := by decide +kernel
theorem dL_isRound_91 : decode cL_isRound 91 = .ok (.aload_n 0, 1) := by decide +kernel
theorem dL_isRound_92 : decode cL_isRound 92 = .ok (.iload_n 1, 1) := by decide +kernel
theorem dL_isRound_93 : decode cL_isRound 93 = .ok (.bipush 44, 2) := by decide +kernel
theorem dL_isRound_95 : decode cL_isRound 95 = .ok (.iconst 0, 1) := by decide +kernel
theorem dL_isRound_96 : decode cL_isRound 96 = .ok (.invokevirtual 37, 3) := by decide +kernel
theorem dL_isRound_99 : decode cL_isRound 99 = .ok (.iconst 2, 1) := by decide +kernel
theorem dL_isRound_100 : decode cL_isRound 100 = .ok (.if_icmp .ne 18, 3) := by decide +kernel
theorem dL_isRound_103 : decode cL_isRound 103 = .ok (.aload_n 0, 1) := by decide +kernel
theorem dL_isRound_104 : decode cL_isRound 104 = .ok (.iload_n 1, 1) := by decide +kernel
theorem dL_isRound_105 : decode cL_isRound 105 = .ok (.bipush 22, 2) := by decide +kernel
theorem dL_isRound_107 : decode cL_isRound 107 = .ok (.iconst 2, 1) := by decide +kernel
theorem dL_isRound_108 : decode cL_isRound 108 = .ok (.invokevirtual 37, 3) := by decide +kernel
theorem dL_isRound_111 : decode cL_isRound 111 = .ok (.ifCond .ne 7, 3) := by decide +kernel
theorem dL_isRound_114 : decode cL_isRound 114 = .ok (.iconst 1, 1) := by decide +kernel
theorem dL_isRound_115 : decode cL_isRound 115 = .ok (.goto 4, 3) := by decide +kernel
theorem dL_isRound_118 : decode cL_isRound 118 = .ok (.iconst 0, 1) := by decide +kernel
theorem dL_isRound_119 : decode cL_isRound 119 = .ok (.istore_n 3, 1) := by decide +kernel
theorem dL_isRound_120 : decode cL_isRound 120 = .ok (.aload_n 0, 1) := by decide +kernel
theorem dL_isRound_121 : decode cL_isRound 121 = .ok (.bipush 22, 2) := by decide +kernel
theorem dL_isRound_123 : decode cL_isRound 123 = .ok (.invokevirtual 48, 3) := by decide +kernel
theorem dL_isRound_126 : decode cL_isRound 126 = .ok (.istore 4, 2) := by decide +kernel
theorem dL_isRound_128 : decode cL_isRound 128 = .ok (.iload_n 3, 1) := by decide +kernel
theorem dL_isRound_129 : decode cL_isRound 129 = .ok (.ifCond .eq 49, 3) := by decide +kernel
theorem dL_isRound_132 : decode cL_isRound 132 = .ok (.aload_n 0, 1) := by decide +kernel
theorem dL_isRound_133 : decode cL_isRound 133 = .ok (.iload 4, 2) := by decide +kernel
theorem dL_isRound_135 : decode cL_isRound 135 = .ok (.bipush 22, 2) := by decide +kernel
theorem dL_isRound_137 : decode cL_isRound 137 = .ok (.iconst 0, 1) := by decide +kernel
theorem dL_isRound_138 : decode cL_isRound 138 = .ok (.invokevirtual 37, 3) := by decide +kernel
theorem dL_isRound_141 : decode cL_isRound 141 = .ok (.aload_n 0, 1) := by decide +kernel
theorem dL_isRound_142 : decode cL_isRound 142 = .ok (.iload_n 1, 1) := by decide +kernel
theorem dL_isRound_143 : decode cL_isRound 143 = .ok (.bipush 22, 2) := by decide +kernel
theorem dL_isRound_145 : decode cL_isRound 145 = .ok (.iconst 0, 1) := by decide +kernel
theorem dL_isRound_146 : decode cL_isRound 146 = .ok (.invokevirtual 37, 3) := by decide +kernel
theorem dL_isRound_149 : decode cL_isRound 149 = .ok (.if_icmp .gt 29, 3) := by decide +kernel
theorem dL_isRound_152 : decode cL_isRound 152 = .ok (.aload_n 0, 1) := by decide +kernel
theorem dL_isRound_153 : decode cL_isRound 153 = .ok (.iload_n 1, 1) := by decide +kernel
theorem dL_isRound_154 : decode cL_isRound 154 = .ok (.bipush 12, 2) := by decide +kernel
theorem dL_isRound_156 : decode cL_isRound 156 = .ok (.iconst 2, 1) := by decide +kernel
theorem dL_isRound_157 : decode cL_isRound 157 = .ok (.invokevirtual 37, 3) := by decide +kernel
theorem dL_isRound_160 : decode cL_isRound 160 = .ok (.ifCond .gt 14, 3) := by decide +kernel
theorem dL_isRound_163 : decode cL_isRound 163 = .ok (.aload_n 0, 1) := by decide +kernel
theorem dL_isRound_164 : decode cL_isRound 164 = .ok (.iload_n 1, 1) := by decide +kernel
theorem dL_isRound_165 : decode cL_isRound 165 = .ok (.bipush 12, 2) := by decide +kernel
theorem dL_isRound_167 : decode cL_isRound 167 = .ok (.iconst 0, 1) := by decide +kernel
theorem dL_isRound_168 : decode cL_isRound 168 = .ok (.invokevirtual 37, 3) := by decide +kernel
theorem dL_isRound_171 : decode cL_isRound 171 = .ok (.ifCond .ne 7, 3) := by decide +kernel
theorem dL_isRound_174 : decode cL_isRound 174 = .ok (.iconst 1, 1) := by decide +kernel
theorem dL_isRound_175 : decode cL_isRound 175 = .ok (.goto 4, 3) := by decide +kernel
theorem dL_isRound_178 : decode cL_isRound 178 = .ok (.iconst 0, 1) := by decide +kernel
theorem dL_isRound_179 : decode cL_isRound 179 = .ok (.ireturn, 1) := by decide +kernel
end
section
set_option maxRecDepth 20000 in
theorem ggL_isStep_X4_count : GoodIn wsL_isStep wsX4_count := goodIn_r _ [5, 6, 7, 8, 9, 10, 11, 12, 13, 14, 15, 16, 17, 18, 4, 19, 20, 21, 22, 23, 24, 25, 26, 27, 28, 29, 30, 31, 32, 33, 34, 35, 36, 37, 38, 39, 40, 41, 42, 43, 44, 45, 46, 47, 48, 49, 50, 51, 52, 53, 54, 55, 56, 57, 58, 59, 212, 213, 214, 215, 216, 217, 218, 219, 220, 221, 222, 223, 224, 225, 226, 227, 228, 229, 230, 231, 232, 233, 234, 235, 236, 237, 238, 239, 240, 241, 242, 243, 244] (by decide +kernel) (by decide +kernel)
set_option maxRecDepth 20000 in
theorem gL_isStep_X4_count : GoodIn wsL_isStep (wsV RL 9 RX4 yX4_count wsX4_count) := goodIn_app (goodIn_of _ (by decide +kernel)) ggL_isStep_X4_count
set_option maxRecDepth 20000 in
theorem ggL_isStep_L_up : GoodIn wsL_isStep wsL_up := goodIn_r _ [63, 64] (by decide +kernel) (by decide +kernel)
set_option maxRecDepth 20000 in
theorem gL_isStep_L_up : GoodIn wsL_isStep (va_wsS RL 15 yL_up wsL_up) := goodIn_app (goodIn_of _ (by decide +kernel)) ggL_isStep_L_up
set_option maxRecDepth 20000 in
theorem ggL_isStep_X4_wind : GoodIn wsL_isStep wsX4_wind := goodIn_r _ [68, 69, 6, 70, 21, 71, 72, 73, 55, 74, 75, 76, 77, 59, 24, 78, 79, 80, 81, 82, 83, 84, 85, 10, 86, 87, 32, 88, 89, 28, 13, 90, 91, 92, 93, 4, 94, 95, 96, 97, 98, 99, 100, 101, 102, 103, 104, 105, 106, 107, 20, 22, 23, 25, 26, 27, 108, 109, 110, 111, 9, 11, 12, 49, 50, 51, 112, 113, 114, 115, 116, 35, 117, 118, 119, 120, 121, 122, 123, 124, 125, 126, 56, 57, 58, 127, 128, 129, 130, 131, 34, 36, 132, 133, 134, 135, 18, 19, 136, 137, 138, 139, 7, 140, 141, 142, 143, 144, 145, 146, 147, 148, 149, 150, 151, 212, 213, 214, 215, 216, 217, 218, 219, 220, 221, 222, 223, 224, 225, 226, 227, 228, 229, 230, 231, 232, 233, 234, 235, 236, 237] (by decide +kernel) (by decide +kernel)
set_option maxRecDepth 20000 in
theorem gL_isStep_X4_wind : GoodIn wsL_isStep (wsV RL 21 RX4 yX4_wind wsX4_wind) := goodIn_app (goodIn_of _ (by decide +kernel)) ggL_isStep_X4_wind
set_option maxRecDepth 20000 in
theorem ggL_isStep_X4_set : GoodIn wsL_isStep wsX4_set := goodIn_r _ [155, 69, 6, 70, 21, 71, 72, 73, 55, 74, 75, 76, 77, 59, 24, 78, 79, 80, 81, 82, 83, 84, 85, 10, 86, 87, 32, 88, 89, 28, 13, 156, 157, 158, 93, 4, 94, 95, 96, 97, 98, 99, 100, 101, 102, 136, 137, 138, 139, 7, 140, 141, 142, 143, 144, 145, 146, 34, 35, 36, 147, 148, 149, 150, 151, 212, 213, 214, 215, 216, 217, 218, 219, 220, 221, 222, 223, 224, 225, 226, 227, 228, 229, 230, 231, 232, 233, 234, 235, 236, 237] (by decide +kernel) (by decide +kernel)
set_option maxRecDepth 20000 in
theorem gL_isStep_X4_set : GoodIn wsL_isStep (wsV RL 24 RX4 yX4_set wsX4_set) := goodIn_app (goodIn_of _ (by decide +kernel)) ggL_isStep_X4_set
set_option maxRecDepth 20000 in
theorem ggL_isStep_X4_knot : GoodIn wsL_isStep wsX4_knot := goodIn_r _ [162, 69, 6, 70, 21, 71, 72, 73, 55, 74, 75, 76, 77, 59, 24, 78, 79, 80, 81, 82, 83, 84, 85, 10, 86, 87, 32, 88, 89, 28, 13, 163, 164, 165, 126, 56, 57, 58, 136, 137, 138, 4, 139, 7, 140, 141, 142, 143, 144, 145, 146, 34, 35, 36, 147, 148, 149, 150, 151, 212, 213, 214, 215, 216, 217, 218, 219, 220, 221, 222, 223, 224, 225, 226, 227, 228, 229, 230, 231, 232, 233, 234, 235, 236, 237] (by decide +kernel) (by decide +kernel)
set_option maxRecDepth 20000 in
theorem gL_isStep_X4_knot : GoodIn wsL_isStep (wsV RL 27 RX4 yX4_knot wsX4_knot) := goodIn_app (goodIn_of _ (by decide +kernel)) ggL_isStep_X4_knot
set_option maxRecDepth 20000 in
theorem ggL_isStep_X4_cone : GoodIn wsL_isStep wsX4_cone := goodIn_r _ [169, 69, 6, 70, 21, 71, 72, 73, 55, 74, 75, 76, 77, 59, 24, 78, 79, 80, 81, 82, 83, 84, 85, 10, 86, 87, 32, 88, 89, 28, 13, 170, 171, 172, 93, 4, 94, 95, 96, 97, 98, 99, 100, 101, 102, 136, 137, 138, 139, 7, 140, 141, 142, 143, 144, 145, 146, 34, 35, 36, 147, 148, 149, 150, 151, 212, 213, 214, 215, 216, 217, 218, 219, 220, 221, 222, 223, 224, 225, 226, 227, 228, 229, 230, 231, 232, 233, 234, 235, 236, 237] (by decide +kernel) (by decide +kernel)
set_option maxRecDepth 20000 in
theorem gL_isStep_X4_cone : GoodIn wsL_isStep (wsV RL 31 RX4 yX4_cone wsX4_cone) := goodIn_app (goodIn_of _ (by decide +kernel)) ggL_isStep_X4_cone
set_option maxRecDepth 20000 in
theorem ggL_isStep_X4_doff : GoodIn wsL_isStep wsX4_doff := goodIn_r _ [176, 69, 6, 70, 21, 71, 72, 73, 55, 74, 75, 76, 77, 59, 24, 78, 79, 80, 81, 82, 83, 84, 85, 10, 86, 87, 32, 88, 89, 28, 13, 177, 178, 179, 180, 181, 182, 183, 184, 185, 186, 187, 136, 137, 138, 4, 139, 7, 140, 141, 142, 143, 144, 145, 146, 34, 35, 36, 147, 148, 149, 150, 151, 212, 213, 214, 215, 216, 217, 218, 219, 220, 221, 222, 223, 224, 225, 226, 227, 228, 229, 230, 231, 232, 233, 234, 235, 236, 237] (by decide +kernel) (by decide +kernel)
set_option maxRecDepth 20000 in
theorem gL_isStep_X4_doff : GoodIn wsL_isStep (wsV RL 34 RX4 yX4_doff wsX4_doff) := goodIn_app (goodIn_of _ (by decide +kernel)) ggL_isStep_X4_doff
set_option maxRecDepth 20000 in
theorem ggL_isStep_X4_ifTraverse : GoodIn wsL_isStep wsX4_ifTraverse := goodIn_r _ [191, 192, 193, 93, 4, 94, 95, 96, 97, 98, 99, 100, 101, 102, 194, 195, 196, 197, 6, 180, 10, 181, 182, 32, 89, 28, 13, 183, 184, 185, 186, 25, 26, 27, 112, 113, 114, 115, 116, 35, 117, 118, 9, 11, 12, 56, 21, 57, 58, 59, 133, 134, 135, 18, 19, 29, 30, 31, 33, 34, 36, 37, 38, 39, 40, 41, 42, 43, 44, 45, 46, 47, 48, 49, 50, 51, 198, 199, 200, 212, 213, 214, 215, 216, 217, 218, 219, 231, 232, 233, 234, 220, 221, 222, 223, 224, 225, 226, 227, 228, 229, 230] (by decide +kernel) (by decide +kernel)
set_option maxRecDepth 20000 in
theorem gL_isStep_X4_ifTraverse : GoodIn wsL_isStep (wsV RL 37 RX4 yX4_ifTraverse wsX4_ifTraverse) := goodIn_app (goodIn_of _ (by decide +kernel)) ggL_isStep_X4_ifTraverse
set_option maxRecDepth 20000 in
theorem ggL_isStep_L_isRound : GoodIn wsL_isStep wsL_isRound := goodIn_r _ [203, 204, 205, 206, 4, 207, 193, 93, 94, 95, 96, 97, 98, 99, 100, 101, 102, 1, 2, 3, 5, 6, 7, 8, 9, 10, 11, 12, 13, 14, 15, 16, 17, 18, 19, 20, 21, 22, 23, 24, 25, 26, 27, 28, 29, 30, 31, 32, 33, 34, 35, 36, 37, 38, 39, 40, 41, 42, 43, 44, 45, 46, 47, 48, 49, 50, 51, 52, 53, 54, 55, 56, 57, 58, 59, 188, 189, 190, 191, 192, 194, 195, 196, 197, 180, 181, 182, 89, 183, 184, 185, 186, 112, 113, 114, 115, 116, 117, 118, 133, 134, 135, 198, 199, 200, 208, 209, 210, 211, 212, 213, 214, 215, 216, 217, 218, 219, 220, 221, 222, 223, 224, 225, 226, 227, 228, 229, 230, 231, 232, 233, 234, 235, 236, 237, 238, 239, 240, 241, 242, 243, 244] (by decide +kernel) (by decide +kernel)
set_option maxRecDepth 20000 in
theorem gL_isStep_L_isRound : GoodIn wsL_isStep (va_wsS RL 41 yL_isRound wsL_isRound) := goodIn_app (goodIn_of _ (by decide +kernel)) ggL_isStep_L_isRound
theorem dL_isStep_0 : decode cL_isStep 0 = .ok (.iload_n 2, 1) := by decide +kernel
theorem dL_isStep_1 : decode cL_isStep 1 = .ok (.iconst 4, 1) := by decide +kernel
theorem dL_isStep_2 : decode cL_isStep 2 = .ok (.ishr, 1) := by decide +kernel
theorem dL_isStep_3 : decode cL_isStep 3 = .ok (.istore_n 3, 1) := by decide +kernel
theorem dL_isStep_4 : decode cL_isStep 4 = .ok (.aload_n 0, 1) := by decide +kernel
theorem dL_isStep_5 : decode cL_isStep 5 = .ok (.iconst 0, 1) := by decide +kernel
theorem dL_isStep_6 : decode cL_isStep 6 = .ok (.invokevirtual 9, 3) := by decide +kernel
theorem dL_isStep_9 : decode cL_isStep 9 = .ok (.istore 4, 2) := by decide +kernel
theorem dL_isStep_11 : decode cL_isStep 11 = .ok (.aload_n 0, 1) := by decide +kernel
theorem dL_isStep_12 : decode cL_isStep 12 = .ok (.iconst 1, 1) := by decide +kernel
theorem dL_isStep_13 : decode cL_isStep 13 = .ok (.invokevirtual 9, 3) := by decide +kernel
theorem dL_isStep_16 : decode cL_isStep 16 = .ok (.istore 5, 2) := by decide +kernel
theorem dL_isStep_18 : decode cL_isStep 18 = .ok (.aload_n 0, 1) := by decide +kernel
theorem dL_isStep_19 : decode cL_isStep 19 = .ok (.bipush 12, 2) := by decide +kernel
theorem dL_isStep_21 : decode cL_isStep 21 = .ok (.invokevirtual 9, 3) := by decide +kernel
theorem dL_isStep_24 : decode cL_isStep 24 = .ok (.istore 6, 2) := by decide +kernel
theorem dL_isStep_26 : decode cL_isStep 26 = .ok (.aload_n 0, 1) := by decide +kernel
theorem dL_isStep_27 : decode cL_isStep 27 = .ok (.bipush 13, 2) := by decide +kernel
theorem dL_isStep_29 : decode cL_isStep 29 = .ok (.invokevirtual 9, 3) := by decide +kernel
theorem dL_isStep_32 : decode cL_isStep 32 = .ok (.istore 7, 2) := by decide +kernel
theorem dL_isStep_34 : decode cL_isStep 34 = .ok (.iload_n 2, 1) := by decide +kernel
theorem dL_isStep_35 : decode cL_isStep 35 = .ok (.bipush 14, 2) := by decide +kernel
theorem dL_isStep_37 : decode cL_isStep 37 = .ok (.invokestatic 15, 3) := by decide +kernel
theorem dL_isStep_40 : decode cL_isStep 40 = .ok (.tableswitch 851 0 12 #[68, 68, 68, 68, 68, 378, 378, 378, 508, 508, 508, 645, 730], 68) := by decide +kernel
theorem dL_isStep_108 : decode cL_isStep 108 = .ok (.iconst 1, 1) := by decide +kernel
theorem dL_isStep_109 : decode cL_isStep 109 = .ok (.iload_n 3, 1) := by decide +kernel
theorem dL_isStep_110 : decode cL_isStep 110 = .ok (.iload_n 3, 1) := by decide +kernel
theorem dL_isStep_111 : decode cL_isStep 111 = .ok (.bipush 6, 2) := by decide +kernel
theorem dL_isStep_113 : decode cL_isStep 113 = .ok (.ishr, 1) := by decide +kernel
theorem dL_isStep_114 : decode cL_isStep 114 = .ok (.iconst 3, 1) := by decide +kernel
theorem dL_isStep_115 : decode cL_isStep 115 = .ok (.invokestatic 15, 3) := by decide +kernel
theorem dL_isStep_118 : decode cL_isStep 118 = .ok (.ifCond .ne 8, 3) := by decide +kernel
theorem dL_isStep_121 : decode cL_isStep 121 = .ok (.bipush 70, 2) := by decide +kernel
theorem dL_isStep_123 : decode cL_isStep 123 = .ok (.goto 5, 3) := by decide +kernel
theorem dL_isStep_126 : decode cL_isStep 126 = .ok (.bipush 15, 2) := by decide +kernel
theorem dL_isStep_128 : decode cL_isStep 128 = .ok (.invokestatic 15, 3) := by decide +kernel
theorem dL_isStep_131 : decode cL_isStep 131 = .ok (.iadd, 1) := by decide +kernel
theorem dL_isStep_132 : decode cL_isStep 132 = .ok (.istore 8, 2) := by decide +kernel
theorem dL_isStep_134 : decode cL_isStep 134 = .ok (.aload_n 0, 1) := by decide +kernel
theorem dL_isStep_135 : decode cL_isStep 135 = .ok (.bipush 6, 2) := by decide +kernel
theorem dL_isStep_137 : decode cL_isStep 137 = .ok (.invokevirtual 9, 3) := by decide +kernel
theorem dL_isStep_140 : decode cL_isStep 140 = .ok (.iconst 1, 1) := by decide +kernel
theorem dL_isStep_141 : decode cL_isStep 141 = .ok (.if_icmp .eq 23, 3) := by decide +kernel
theorem dL_isStep_144 : decode cL_isStep 144 = .ok (.aload_n 0, 1) := by decide +kernel
theorem dL_isStep_145 : decode cL_isStep 145 = .ok (.bipush 7, 2) := by decide +kernel
theorem dL_isStep_147 : decode cL_isStep 147 = .ok (.invokevirtual 9, 3) := by decide +kernel
theorem dL_isStep_150 : decode cL_isStep 150 = .ok (.iconst 1, 1) := by decide +kernel
theorem dL_isStep_151 : decode cL_isStep 151 = .ok (.if_icmp .eq 13, 3) := by decide +kernel
theorem dL_isStep_154 : decode cL_isStep 154 = .ok (.aload_n 0, 1) := by decide +kernel
theorem dL_isStep_155 : decode cL_isStep 155 = .ok (.bipush 8, 2) := by decide +kernel
theorem dL_isStep_157 : decode cL_isStep 157 = .ok (.invokevirtual 9, 3) := by decide +kernel
theorem dL_isStep_160 : decode cL_isStep 160 = .ok (.iconst 1, 1) := by decide +kernel
theorem dL_isStep_161 : decode cL_isStep 161 = .ok (.if_icmp .ne 7, 3) := by decide +kernel
theorem dL_isStep_164 : decode cL_isStep 164 = .ok (.iconst 1, 1) := by decide +kernel
theorem dL_isStep_165 : decode cL_isStep 165 = .ok (.goto 4, 3) := by decide +kernel
theorem dL_isStep_168 : decode cL_isStep 168 = .ok (.iconst 0, 1) := by decide +kernel
theorem dL_isStep_169 : decode cL_isStep 169 = .ok (.istore 9, 2) := by decide +kernel
theorem dL_isStep_171 : decode cL_isStep 171 = .ok (.aload_n 0, 1) := by decide +kernel
theorem dL_isStep_172 : decode cL_isStep 172 = .ok (.iload 8, 2) := by decide +kernel
theorem dL_isStep_174 : decode cL_isStep 174 = .ok (.invokevirtual 21, 3) := by decide +kernel
theorem dL_isStep_177 : decode cL_isStep 177 = .ok (.istore 10, 2) := by decide +kernel
theorem dL_isStep_179 : decode cL_isStep 179 = .ok (.iconst 0, 1) := by decide +kernel
theorem dL_isStep_180 : decode cL_isStep 180 = .ok (.istore 11, 2) := by decide +kernel
theorem dL_isStep_182 : decode cL_isStep 182 = .ok (.iconst 1, 1) := by decide +kernel
theorem dL_isStep_183 : decode cL_isStep 183 = .ok (.istore 12, 2) := by decide +kernel
theorem dL_isStep_185 : decode cL_isStep 185 = .ok (.iconst 0, 1) := by decide +kernel
theorem dL_isStep_186 : decode cL_isStep 186 = .ok (.istore 13, 2) := by decide +kernel
theorem dL_isStep_188 : decode cL_isStep 188 = .ok (.iload 13, 2) := by decide +kernel
theorem dL_isStep_190 : decode cL_isStep 190 = .ok (.iload 8, 2) := by decide +kernel
theorem dL_isStep_192 : decode cL_isStep 192 = .ok (.if_icmp .ge 121, 3) := by decide +kernel
theorem dL_isStep_195 : decode cL_isStep 195 = .ok (.iload 12, 2) := by decide +kernel
theorem dL_isStep_197 : decode cL_isStep 197 = .ok (.ifCond .eq 116, 3) := by decide +kernel
theorem dL_isStep_200 : decode cL_isStep 200 = .ok (.aload_n 1, 1) := by decide +kernel
theorem dL_isStep_201 : decode cL_isStep 201 = .ok (.bipush 24, 2) := by decide +kernel
theorem dL_isStep_203 : decode cL_isStep 203 = .ok (.invokevirtual 9, 3) := by decide +kernel
theorem dL_isStep_206 : decode cL_isStep 206 = .ok (.istore 14, 2) := by decide +kernel
theorem dL_isStep_208 : decode cL_isStep 208 = .ok (.iload 13, 2) := by decide +kernel
theorem dL_isStep_210 : decode cL_isStep 210 = .ok (.iconst 5, 1) := by decide +kernel
theorem dL_isStep_211 : decode cL_isStep 211 = .ok (.irem, 1) := by decide +kernel
theorem dL_isStep_212 : decode cL_isStep 212 = .ok (.iconst 2, 1) := by decide +kernel
theorem dL_isStep_213 : decode cL_isStep 213 = .ok (.if_icmp .ne 46, 3) := by decide +kernel
theorem dL_isStep_216 : decode cL_isStep 216 = .ok (.aload_n 1, 1) := by decide +kernel
theorem dL_isStep_217 : decode cL_isStep 217 = .ok (.iconst 4, 1) := by decide +kernel
theorem dL_isStep_218 : decode cL_isStep 218 = .ok (.iload 14, 2) := by decide +kernel
theorem dL_isStep_220 : decode cL_isStep 220 = .ok (.bipush 99, 2) := by decide +kernel
theorem dL_isStep_222 : decode cL_isStep 222 = .ok (.if_icmp .ne 8, 3) := by decide +kernel
theorem dL_isStep_225 : decode cL_isStep 225 = .ok (.bipush 98, 2) := by decide +kernel
theorem dL_isStep_227 : decode cL_isStep 227 = .ok (.goto 5, 3) := by decide +kernel
theorem dL_isStep_230 : decode cL_isStep 230 = .ok (.bipush 99, 2) := by decide +kernel
theorem dL_isStep_232 : decode cL_isStep 232 = .ok (.invokevirtual 24, 3) := by decide +kernel
theorem dL_isStep_235 : decode cL_isStep 235 = .ok (.iload 14, 2) := by decide +kernel
theorem dL_isStep_237 : decode cL_isStep 237 = .ok (.if_icmp .ne 19, 3) := by decide +kernel
theorem dL_isStep_240 : decode cL_isStep 240 = .ok (.aload_n 1, 1) := by decide +kernel
theorem dL_isStep_241 : decode cL_isStep 241 = .ok (.iconst 4, 1) := by decide +kernel
theorem dL_isStep_242 : decode cL_isStep 242 = .ok (.iload 14, 2) := by decide +kernel
theorem dL_isStep_244 : decode cL_isStep 244 = .ok (.invokevirtual 24, 3) := by decide +kernel
theorem dL_isStep_247 : decode cL_isStep 247 = .ok (.bipush 98, 2) := by decide +kernel
theorem dL_isStep_249 : decode cL_isStep 249 = .ok (.if_icmp .lt 7, 3) := by decide +kernel
theorem dL_isStep_252 : decode cL_isStep 252 = .ok (.iconst 1, 1) := by decide +kernel
theorem dL_isStep_253 : decode cL_isStep 253 = .ok (.goto 4, 3) := by decide +kernel
theorem dL_isStep_256 : decode cL_isStep 256 = .ok (.iconst 0, 1) := by decide +kernel
theorem dL_isStep_257 : decode cL_isStep 257 = .ok (.istore 12, 2) := by decide +kernel
theorem dL_isStep_259 : decode cL_isStep 259 = .ok (.aload_n 1, 1) := by decide +kernel
theorem dL_isStep_260 : decode cL_isStep 260 = .ok (.iconst 1, 1) := by decide +kernel
theorem dL_isStep_261 : decode cL_isStep 261 = .ok (.invokevirtual 21, 3) := by decide +kernel
theorem dL_isStep_264 : decode cL_isStep 264 = .ok (.istore 15, 2) := by decide +kernel
theorem dL_isStep_266 : decode cL_isStep 266 = .ok (.iload 12, 2) := by decide +kernel
theorem dL_isStep_268 : decode cL_isStep 268 = .ok (.ifCond .eq 20, 3) := by decide +kernel
theorem dL_isStep_271 : decode cL_isStep 271 = .ok (.iload 15, 2) := by decide +kernel
theorem dL_isStep_273 : decode cL_isStep 273 = .ok (.iconst 1, 1) := by decide +kernel
theorem dL_isStep_274 : decode cL_isStep 274 = .ok (.if_icmp .gt 14, 3) := by decide +kernel
theorem dL_isStep_277 : decode cL_isStep 277 = .ok (.iload 15, 2) := by decide +kernel
theorem dL_isStep_279 : decode cL_isStep 279 = .ok (.bipush (-2), 2) := by decide +kernel
theorem dL_isStep_281 : decode cL_isStep 281 = .ok (.if_icmp .eq 7, 3) := by decide +kernel
theorem dL_isStep_284 : decode cL_isStep 284 = .ok (.iconst 1, 1) := by decide +kernel
theorem dL_isStep_285 : decode cL_isStep 285 = .ok (.goto 4, 3) := by decide +kernel
theorem dL_isStep_288 : decode cL_isStep 288 = .ok (.iconst 0, 1) := by decide +kernel
theorem dL_isStep_289 : decode cL_isStep 289 = .ok (.istore 12, 2) := by decide +kernel
theorem dL_isStep_291 : decode cL_isStep 291 = .ok (.iload 11, 2) := by decide +kernel
theorem dL_isStep_293 : decode cL_isStep 293 = .ok (.iload 15, 2) := by decide +kernel
theorem dL_isStep_295 : decode cL_isStep 295 = .ok (.iconst 1, 1) := by decide +kernel
theorem dL_isStep_296 : decode cL_isStep 296 = .ok (.if_icmp .ne 7, 3) := by decide +kernel
theorem dL_isStep_299 : decode cL_isStep 299 = .ok (.iconst 1, 1) := by decide +kernel
theorem dL_isStep_300 : decode cL_isStep 300 = .ok (.goto 4, 3) := by decide +kernel
theorem dL_isStep_303 : decode cL_isStep 303 = .ok (.iconst 0, 1) := by decide +kernel
theorem dL_isStep_304 : decode cL_isStep 304 = .ok (.iadd, 1) := by decide +kernel
theorem dL_isStep_305 : decode cL_isStep 305 = .ok (.istore 11, 2) := by decide +kernel
theorem dL_isStep_307 : decode cL_isStep 307 = .ok (.iinc 13 1, 3) := by decide +kernel
theorem dL_isStep_310 : decode cL_isStep 310 = .ok (.goto (-122), 3) := by decide +kernel
theorem dL_isStep_313 : decode cL_isStep 313 = .ok (.aload_n 0, 1) := by decide +kernel
theorem dL_isStep_314 : decode cL_isStep 314 = .ok (.bipush 12, 2) := by decide +kernel
theorem dL_isStep_316 : decode cL_isStep 316 = .ok (.invokevirtual 9, 3) := by decide +kernel
theorem dL_isStep_319 : decode cL_isStep 319 = .ok (.iload 6, 2) := by decide +kernel
theorem dL_isStep_321 : decode cL_isStep 321 = .ok (.isub, 1) := by decide +kernel
theorem dL_isStep_322 : decode cL_isStep 322 = .ok (.istore 13, 2) := by decide +kernel
theorem dL_isStep_324 : decode cL_isStep 324 = .ok (.iload 12, 2) := by decide +kernel
theorem dL_isStep_326 : decode cL_isStep 326 = .ok (.ifCond .eq 90, 3) := by decide +kernel
theorem dL_isStep_329 : decode cL_isStep 329 = .ok (.iload 9, 2) := by decide +kernel
theorem dL_isStep_331 : decode cL_isStep 331 = .ok (.ifCond .eq 23, 3) := by decide +kernel
theorem dL_isStep_334 : decode cL_isStep 334 = .ok (.iload 10, 2) := by decide +kernel
theorem dL_isStep_336 : decode cL_isStep 336 = .ok (.bipush (-5), 2) := by decide +kernel
theorem dL_isStep_338 : decode cL_isStep 338 = .ok (.if_icmp .ne 78, 3) := by decide +kernel
theorem dL_isStep_341 : decode cL_isStep 341 = .ok (.iload 11, 2) := by decide +kernel
theorem dL_isStep_343 : decode cL_isStep 343 = .ok (.ifCond .ne 73, 3) := by decide +kernel
theorem dL_isStep_346 : decode cL_isStep 346 = .ok (.iload 13, 2) := by decide +kernel
theorem dL_isStep_348 : decode cL_isStep 348 = .ok (.ifCond .ne 68, 3) := by decide +kernel
theorem dL_isStep_351 : decode cL_isStep 351 = .ok (.goto 61, 3) := by decide +kernel
theorem dL_isStep_354 : decode cL_isStep 354 = .ok (.iload 10, 2) := by decide +kernel
theorem dL_isStep_356 : decode cL_isStep 356 = .ok (.iload 11, 2) := by decide +kernel
theorem dL_isStep_358 : decode cL_isStep 358 = .ok (.if_icmp .ne 58, 3) := by decide +kernel
theorem dL_isStep_361 : decode cL_isStep 361 = .ok (.iload 13, 2) := by decide +kernel
theorem dL_isStep_363 : decode cL_isStep 363 = .ok (.iload 10, 2) := by decide +kernel
theorem dL_isStep_365 : decode cL_isStep 365 = .ok (.if_icmp .lt 51, 3) := by decide +kernel
theorem dL_isStep_368 : decode cL_isStep 368 = .ok (.iload 13, 2) := by decide +kernel
theorem dL_isStep_370 : decode cL_isStep 370 = .ok (.iload 10, 2) := by decide +kernel
theorem dL_isStep_372 : decode cL_isStep 372 = .ok (.iconst 1, 1) := by decide +kernel
theorem dL_isStep_373 : decode cL_isStep 373 = .ok (.iadd, 1) := by decide +kernel
theorem dL_isStep_374 : decode cL_isStep 374 = .ok (.if_icmp .gt 42, 3) := by decide +kernel
theorem dL_isStep_377 : decode cL_isStep 377 = .ok (.iload 13, 2) := by decide +kernel
theorem dL_isStep_379 : decode cL_isStep 379 = .ok (.iconst 1, 1) := by decide +kernel
theorem dL_isStep_380 : decode cL_isStep 380 = .ok (.if_icmp .lt 36, 3) := by decide +kernel
theorem dL_isStep_383 : decode cL_isStep 383 = .ok (.aload_n 0, 1) := by decide +kernel
theorem dL_isStep_384 : decode cL_isStep 384 = .ok (.iconst 0, 1) := by decide +kernel
theorem dL_isStep_385 : decode cL_isStep 385 = .ok (.invokevirtual 9, 3) := by decide +kernel
theorem dL_isStep_388 : decode cL_isStep 388 = .ok (.iload 4, 2) := by decide +kernel
theorem dL_isStep_390 : decode cL_isStep 390 = .ok (.iload 10, 2) := by decide +kernel
theorem dL_isStep_392 : decode cL_isStep 392 = .ok (.iadd, 1) := by decide +kernel
theorem dL_isStep_393 : decode cL_isStep 393 = .ok (.if_icmp .ne 23, 3) := by decide +kernel
theorem dL_isStep_396 : decode cL_isStep 396 = .ok (.aload_n 0, 1) := by decide +kernel
theorem dL_isStep_397 : decode cL_isStep 397 = .ok (.iconst 1, 1) := by decide +kernel
theorem dL_isStep_398 : decode cL_isStep 398 = .ok (.invokevirtual 9, 3) := by decide +kernel
theorem dL_isStep_401 : decode cL_isStep 401 = .ok (.iload 5, 2) := by decide +kernel
theorem dL_isStep_403 : decode cL_isStep 403 = .ok (.bipush 10, 2) := by decide +kernel
theorem dL_isStep_405 : decode cL_isStep 405 = .ok (.iload 10, 2) := by decide +kernel
theorem dL_isStep_407 : decode cL_isStep 407 = .ok (.imul, 1) := by decide +kernel
theorem dL_isStep_408 : decode cL_isStep 408 = .ok (.isub, 1) := by decide +kernel
theorem dL_isStep_409 : decode cL_isStep 409 = .ok (.if_icmp .gt 7, 3) := by decide +kernel
theorem dL_isStep_412 : decode cL_isStep 412 = .ok (.iconst 1, 1) := by decide +kernel
theorem dL_isStep_413 : decode cL_isStep 413 = .ok (.goto 4, 3) := by decide +kernel
theorem dL_isStep_416 : decode cL_isStep 416 = .ok (.iconst 0, 1) := by decide +kernel
theorem dL_isStep_417 : decode cL_isStep 417 = .ok (.ireturn, 1) := by decide +kernel
theorem dL_isStep_418 : decode cL_isStep 418 = .ok (.iload_n 3, 1) := by decide +kernel
theorem dL_isStep_419 : decode cL_isStep 419 = .ok (.iconst 5, 1) := by decide +kernel
theorem dL_isStep_420 : decode cL_isStep 420 = .ok (.invokestatic 15, 3) := by decide +kernel
theorem dL_isStep_423 : decode cL_isStep 423 = .ok (.istore 8, 2) := by decide +kernel
theorem dL_isStep_425 : decode cL_isStep 425 = .ok (.iload 8, 2) := by decide +kernel
theorem dL_isStep_427 : decode cL_isStep 427 = .ok (.ifCond .ne 16, 3) := by decide +kernel
theorem dL_isStep_430 : decode cL_isStep 430 = .ok (.iconst 1, 1) := by decide +kernel
theorem dL_isStep_431 : decode cL_isStep 431 = .ok (.iload_n 3, 1) := by decide +kernel
theorem dL_isStep_432 : decode cL_isStep 432 = .ok (.iconst 3, 1) := by decide +kernel
theorem dL_isStep_433 : decode cL_isStep 433 = .ok (.ishr, 1) := by decide +kernel
theorem dL_isStep_434 : decode cL_isStep 434 = .ok (.bipush 11, 2) := by decide +kernel
theorem dL_isStep_436 : decode cL_isStep 436 = .ok (.invokestatic 15, 3) := by decide +kernel
theorem dL_isStep_439 : decode cL_isStep 439 = .ok (.iadd, 1) := by decide +kernel
theorem dL_isStep_440 : decode cL_isStep 440 = .ok (.goto 67, 3) := by decide +kernel
theorem dL_isStep_443 : decode cL_isStep 443 = .ok (.iload 8, 2) := by decide +kernel
theorem dL_isStep_445 : decode cL_isStep 445 = .ok (.iconst 1, 1) := by decide +kernel
theorem dL_isStep_446 : decode cL_isStep 446 = .ok (.if_icmp .ne 14, 3) := by decide +kernel
theorem dL_isStep_449 : decode cL_isStep 449 = .ok (.iload_n 3, 1) := by decide +kernel
theorem dL_isStep_450 : decode cL_isStep 450 = .ok (.iconst 3, 1) := by decide +kernel
theorem dL_isStep_451 : decode cL_isStep 451 = .ok (.ishr, 1) := by decide +kernel
theorem dL_isStep_452 : decode cL_isStep 452 = .ok (.bipush 10, 2) := by decide +kernel
theorem dL_isStep_454 : decode cL_isStep 454 = .ok (.invokestatic 15, 3) := by decide +kernel
theorem dL_isStep_457 : decode cL_isStep 457 = .ok (.goto 50, 3) := by decide +kernel
theorem dL_isStep_460 : decode cL_isStep 460 = .ok (.iload 8, 2) := by decide +kernel
theorem dL_isStep_462 : decode cL_isStep 462 = .ok (.iconst 2, 1) := by decide +kernel
theorem dL_isStep_463 : decode cL_isStep 463 = .ok (.if_icmp .ne 14, 3) := by decide +kernel
theorem dL_isStep_466 : decode cL_isStep 466 = .ok (.iload_n 3, 1) := by decide +kernel
theorem dL_isStep_467 : decode cL_isStep 467 = .ok (.iconst 3, 1) := by decide +kernel
theorem dL_isStep_468 : decode cL_isStep 468 = .ok (.ishr, 1) := by decide +kernel
theorem dL_isStep_469 : decode cL_isStep 469 = .ok (.bipush 6, 2) := by decide +kernel
theorem dL_isStep_471 : decode cL_isStep 471 = .ok (.invokestatic 15, 3) := by decide +kernel
theorem dL_isStep_474 : decode cL_isStep 474 = .ok (.goto 33, 3) := by decide +kernel
theorem dL_isStep_477 : decode cL_isStep 477 = .ok (.iload 8, 2) := by decide +kernel
theorem dL_isStep_479 : decode cL_isStep 479 = .ok (.iconst 3, 1) := by decide +kernel
theorem dL_isStep_480 : decode cL_isStep 480 = .ok (.if_icmp .ne 16, 3) := by decide +kernel
theorem dL_isStep_483 : decode cL_isStep 483 = .ok (.iconst 5, 1) := by decide +kernel
theorem dL_isStep_484 : decode cL_isStep 484 = .ok (.iload_n 3, 1) := by decide +kernel
theorem dL_isStep_485 : decode cL_isStep 485 = .ok (.iconst 3, 1) := by decide +kernel
theorem dL_isStep_486 : decode cL_isStep 486 = .ok (.ishr, 1) := by decide +kernel
theorem dL_isStep_487 : decode cL_isStep 487 = .ok (.bipush 46, 2) := by decide +kernel
theorem dL_isStep_489 : decode cL_isStep 489 = .ok (.invokestatic 15, 3) := by decide +kernel
theorem dL_isStep_492 : decode cL_isStep 492 = .ok (.iadd, 1) := by decide +kernel
theorem dL_isStep_493 : decode cL_isStep 493 = .ok (.goto 14, 3) := by decide +kernel
theorem dL_isStep_496 : decode cL_isStep 496 = .ok (.bipush 10, 2) := by decide +kernel
theorem dL_isStep_498 : decode cL_isStep 498 = .ok (.iload_n 3, 1) := by decide +kernel
theorem dL_isStep_499 : decode cL_isStep 499 = .ok (.iconst 3, 1) := by decide +kernel
theorem dL_isStep_500 : decode cL_isStep 500 = .ok (.ishr, 1) := by decide +kernel
theorem dL_isStep_501 : decode cL_isStep 501 = .ok (.bipush 90, 2) := by decide +kernel
theorem dL_isStep_503 : decode cL_isStep 503 = .ok (.invokestatic 15, 3) := by decide +kernel
theorem dL_isStep_506 : decode cL_isStep 506 = .ok (.iadd, 1) := by decide +kernel
theorem dL_isStep_507 : decode cL_isStep 507 = .ok (.istore 9, 2) := by decide +kernel
theorem dL_isStep_509 : decode cL_isStep 509 = .ok (.aload_n 0, 1) := by decide +kernel
theorem dL_isStep_510 : decode cL_isStep 510 = .ok (.iload 8, 2) := by decide +kernel
theorem dL_isStep_512 : decode cL_isStep 512 = .ok (.iload 9, 2) := by decide +kernel
theorem dL_isStep_514 : decode cL_isStep 514 = .ok (.invokevirtual 24, 3) := by decide +kernel
theorem dL_isStep_517 : decode cL_isStep 517 = .ok (.aload_n 1, 1) := by decide +kernel
theorem dL_isStep_518 : decode cL_isStep 518 = .ok (.iload 8, 2) := by decide +kernel
theorem dL_isStep_520 : decode cL_isStep 520 = .ok (.iload 9, 2) := by decide +kernel
theorem dL_isStep_522 : decode cL_isStep 522 = .ok (.invokevirtual 24, 3) := by decide +kernel
theorem dL_isStep_525 : decode cL_isStep 525 = .ok (.if_icmp .ne 21, 3) := by decide +kernel
theorem dL_isStep_528 : decode cL_isStep 528 = .ok (.aload_n 0, 1) := by decide +kernel
theorem dL_isStep_529 : decode cL_isStep 529 = .ok (.bipush 20, 2) := by decide +kernel
theorem dL_isStep_531 : decode cL_isStep 531 = .ok (.iload 8, 2) := by decide +kernel
theorem dL_isStep_533 : decode cL_isStep 533 = .ok (.iadd, 1) := by decide +kernel
theorem dL_isStep_534 : decode cL_isStep 534 = .ok (.invokevirtual 9, 3) := by decide +kernel
theorem dL_isStep_537 : decode cL_isStep 537 = .ok (.iload 9, 2) := by decide +kernel
theorem dL_isStep_539 : decode cL_isStep 539 = .ok (.if_icmp .ne 7, 3) := by decide +kernel
theorem dL_isStep_542 : decode cL_isStep 542 = .ok (.iconst 1, 1) := by decide +kernel
theorem dL_isStep_543 : decode cL_isStep 543 = .ok (.goto 4, 3) := by decide +kernel
theorem dL_isStep_546 : decode cL_isStep 546 = .ok (.iconst 0, 1) := by decide +kernel
theorem dL_isStep_547 : decode cL_isStep 547 = .ok (.ireturn, 1) := by decide +kernel
theorem dL_isStep_548 : decode cL_isStep 548 = .ok (.aload_n 0, 1) := by decide +kernel
theorem dL_isStep_549 : decode cL_isStep 549 = .ok (.bipush 6, 2) := by decide +kernel
theorem dL_isStep_551 : decode cL_isStep 551 = .ok (.invokevirtual 9, 3) := by decide +kernel
theorem dL_isStep_554 : decode cL_isStep 554 = .ok (.iconst 1, 1) := by decide +kernel
theorem dL_isStep_555 : decode cL_isStep 555 = .ok (.if_icmp .ne 7, 3) := by decide +kernel
theorem dL_isStep_558 : decode cL_isStep 558 = .ok (.iconst 1, 1) := by decide +kernel
theorem dL_isStep_559 : decode cL_isStep 559 = .ok (.goto 4, 3) := by decide +kernel
theorem dL_isStep_562 : decode cL_isStep 562 = .ok (.iconst 0, 1) := by decide +kernel
theorem dL_isStep_563 : decode cL_isStep 563 = .ok (.istore 8, 2) := by decide +kernel
theorem dL_isStep_565 : decode cL_isStep 565 = .ok (.aload_n 0, 1) := by decide +kernel
theorem dL_isStep_566 : decode cL_isStep 566 = .ok (.bipush 11, 2) := by decide +kernel
theorem dL_isStep_568 : decode cL_isStep 568 = .ok (.invokevirtual 9, 3) := by decide +kernel
theorem dL_isStep_571 : decode cL_isStep 571 = .ok (.istore 9, 2) := by decide +kernel
theorem dL_isStep_573 : decode cL_isStep 573 = .ok (.aload_n 0, 1) := by decide +kernel
theorem dL_isStep_574 : decode cL_isStep 574 = .ok (.bipush 23, 2) := by decide +kernel
theorem dL_isStep_576 : decode cL_isStep 576 = .ok (.invokevirtual 9, 3) := by decide +kernel
theorem dL_isStep_579 : decode cL_isStep 579 = .ok (.istore 10, 2) := by decide +kernel
theorem dL_isStep_581 : decode cL_isStep 581 = .ok (.aload_n 0, 1) := by decide +kernel
theorem dL_isStep_582 : decode cL_isStep 582 = .ok (.invokevirtual 27, 3) := by decide +kernel
theorem dL_isStep_585 : decode cL_isStep 585 = .ok (.istore 11, 2) := by decide +kernel
theorem dL_isStep_587 : decode cL_isStep 587 = .ok (.iload 11, 2) := by decide +kernel
theorem dL_isStep_589 : decode cL_isStep 589 = .ok (.aload_n 1, 1) := by decide +kernel
theorem dL_isStep_590 : decode cL_isStep 590 = .ok (.invokevirtual 27, 3) := by decide +kernel
theorem dL_isStep_593 : decode cL_isStep 593 = .ok (.if_icmp .ne 90, 3) := by decide +kernel
theorem dL_isStep_596 : decode cL_isStep 596 = .ok (.iload 5, 2) := by decide +kernel
theorem dL_isStep_598 : decode cL_isStep 598 = .ok (.iload 10, 2) := by decide +kernel
theorem dL_isStep_600 : decode cL_isStep 600 = .ok (.if_icmp .ge 13, 3) := by decide +kernel
theorem dL_isStep_603 : decode cL_isStep 603 = .ok (.iload 11, 2) := by decide +kernel
theorem dL_isStep_605 : decode cL_isStep 605 = .ok (.bipush (-4), 2) := by decide +kernel
theorem dL_isStep_607 : decode cL_isStep 607 = .ok (.if_icmp .ne 76, 3) := by decide +kernel
theorem dL_isStep_610 : decode cL_isStep 610 = .ok (.goto 69, 3) := by decide +kernel
theorem dL_isStep_613 : decode cL_isStep 613 = .ok (.iload 8, 2) := by decide +kernel
theorem dL_isStep_615 : decode cL_isStep 615 = .ok (.ifCond .ne 13, 3) := by decide +kernel
theorem dL_isStep_618 : decode cL_isStep 618 = .ok (.iload 11, 2) := by decide +kernel
theorem dL_isStep_620 : decode cL_isStep 620 = .ok (.bipush (-5), 2) := by decide +kernel
theorem dL_isStep_622 : decode cL_isStep 622 = .ok (.if_icmp .ne 61, 3) := by decide +kernel
theorem dL_isStep_625 : decode cL_isStep 625 = .ok (.goto 54, 3) := by decide +kernel
theorem dL_isStep_628 : decode cL_isStep 628 = .ok (.iload 11, 2) := by decide +kernel
theorem dL_isStep_630 : decode cL_isStep 630 = .ok (.iconst 1, 1) := by decide +kernel
theorem dL_isStep_631 : decode cL_isStep 631 = .ok (.if_icmp .lt 52, 3) := by decide +kernel
theorem dL_isStep_634 : decode cL_isStep 634 = .ok (.aload_n 0, 1) := by decide +kernel
theorem dL_isStep_635 : decode cL_isStep 635 = .ok (.bipush 6, 2) := by decide +kernel
theorem dL_isStep_637 : decode cL_isStep 637 = .ok (.invokevirtual 9, 3) := by decide +kernel
theorem dL_isStep_640 : decode cL_isStep 640 = .ok (.ifCond .ne 43, 3) := by decide +kernel
theorem dL_isStep_643 : decode cL_isStep 643 = .ok (.aload_n 0, 1) := by decide +kernel
theorem dL_isStep_644 : decode cL_isStep 644 = .ok (.bipush 11, 2) := by decide +kernel
theorem dL_isStep_646 : decode cL_isStep 646 = .ok (.invokevirtual 9, 3) := by decide +kernel
theorem dL_isStep_649 : decode cL_isStep 649 = .ok (.iload 9, 2) := by decide +kernel
theorem dL_isStep_651 : decode cL_isStep 651 = .ok (.iconst 1, 1) := by decide +kernel
theorem dL_isStep_652 : decode cL_isStep 652 = .ok (.iadd, 1) := by decide +kernel
theorem dL_isStep_653 : decode cL_isStep 653 = .ok (.if_icmp .ne 30, 3) := by decide +kernel
theorem dL_isStep_656 : decode cL_isStep 656 = .ok (.aload_n 0, 1) := by decide +kernel
theorem dL_isStep_657 : decode cL_isStep 657 = .ok (.iconst 1, 1) := by decide +kernel
theorem dL_isStep_658 : decode cL_isStep 658 = .ok (.invokevirtual 9, 3) := by decide +kernel
theorem dL_isStep_661 : decode cL_isStep 661 = .ok (.iload 5, 2) := by decide +kernel
theorem dL_isStep_663 : decode cL_isStep 663 = .ok (.iload 10, 2) := by decide +kernel
theorem dL_isStep_665 : decode cL_isStep 665 = .ok (.isub, 1) := by decide +kernel
theorem dL_isStep_666 : decode cL_isStep 666 = .ok (.if_icmp .ne 17, 3) := by decide +kernel
theorem dL_isStep_669 : decode cL_isStep 669 = .ok (.aload_n 0, 1) := by decide +kernel
theorem dL_isStep_670 : decode cL_isStep 670 = .ok (.iconst 0, 1) := by decide +kernel
theorem dL_isStep_671 : decode cL_isStep 671 = .ok (.invokevirtual 9, 3) := by decide +kernel
theorem dL_isStep_674 : decode cL_isStep 674 = .ok (.iload 4, 2) := by decide +kernel
theorem dL_isStep_676 : decode cL_isStep 676 = .ok (.if_icmp .ne 7, 3) := by decide +kernel
theorem dL_isStep_679 : decode cL_isStep 679 = .ok (.iconst 1, 1) := by decide +kernel
theorem dL_isStep_680 : decode cL_isStep 680 = .ok (.goto 4, 3) := by decide +kernel
theorem dL_isStep_683 : decode cL_isStep 683 = .ok (.iconst 0, 1) := by decide +kernel
theorem dL_isStep_684 : decode cL_isStep 684 = .ok (.ireturn, 1) := by decide +kernel
theorem dL_isStep_685 : decode cL_isStep 685 = .ok (.iconst 1, 1) := by decide +kernel
theorem dL_isStep_686 : decode cL_isStep 686 = .ok (.iload_n 3, 1) := by decide +kernel
theorem dL_isStep_687 : decode cL_isStep 687 = .ok (.iload_n 3, 1) := by decide +kernel
theorem dL_isStep_688 : decode cL_isStep 688 = .ok (.bipush 8, 2) := by decide +kernel
theorem dL_isStep_690 : decode cL_isStep 690 = .ok (.ishr, 1) := by decide +kernel
theorem dL_isStep_691 : decode cL_isStep 691 = .ok (.iconst 2, 1) := by decide +kernel
theorem dL_isStep_692 : decode cL_isStep 692 = .ok (.invokestatic 15, 3) := by decide +kernel
theorem dL_isStep_695 : decode cL_isStep 695 = .ok (.ifCond .ne 9, 3) := by decide +kernel
theorem dL_isStep_698 : decode cL_isStep 698 = .ok (.sipush 9999, 3) := by decide +kernel
theorem dL_isStep_701 : decode cL_isStep 701 = .ok (.goto 6, 3) := by decide +kernel
theorem dL_isStep_704 : decode cL_isStep 704 = .ok (.sipush 500, 3) := by decide +kernel
theorem dL_isStep_707 : decode cL_isStep 707 = .ok (.invokestatic 15, 3) := by decide +kernel
theorem dL_isStep_710 : decode cL_isStep 710 = .ok (.iadd, 1) := by decide +kernel
theorem dL_isStep_711 : decode cL_isStep 711 = .ok (.istore 8, 2) := by decide +kernel
theorem dL_isStep_713 : decode cL_isStep 713 = .ok (.aload_n 0, 1) := by decide +kernel
theorem dL_isStep_714 : decode cL_isStep 714 = .ok (.iload 8, 2) := by decide +kernel
theorem dL_isStep_716 : decode cL_isStep 716 = .ok (.invokevirtual 31, 3) := by decide +kernel
theorem dL_isStep_719 : decode cL_isStep 719 = .ok (.istore 9, 2) := by decide +kernel
theorem dL_isStep_721 : decode cL_isStep 721 = .ok (.iload 9, 2) := by decide +kernel
theorem dL_isStep_723 : decode cL_isStep 723 = .ok (.iload 5, 2) := by decide +kernel
theorem dL_isStep_725 : decode cL_isStep 725 = .ok (.if_icmp .ne 43, 3) := by decide +kernel
theorem dL_isStep_728 : decode cL_isStep 728 = .ok (.aload_n 1, 1) := by decide +kernel
theorem dL_isStep_729 : decode cL_isStep 729 = .ok (.iload 8, 2) := by decide +kernel
theorem dL_isStep_731 : decode cL_isStep 731 = .ok (.invokevirtual 31, 3) := by decide +kernel
theorem dL_isStep_734 : decode cL_isStep 734 = .ok (.iload 5, 2) := by decide +kernel
theorem dL_isStep_736 : decode cL_isStep 736 = .ok (.if_icmp .ne 32, 3) := by decide +kernel
theorem dL_isStep_739 : decode cL_isStep 739 = .ok (.aload_n 0, 1) := by decide +kernel
theorem dL_isStep_740 : decode cL_isStep 740 = .ok (.iconst 1, 1) := by decide +kernel
theorem dL_isStep_741 : decode cL_isStep 741 = .ok (.invokevirtual 9, 3) := by decide +kernel
theorem dL_isStep_744 : decode cL_isStep 744 = .ok (.iload 8, 2) := by decide +kernel
theorem dL_isStep_746 : decode cL_isStep 746 = .ok (.if_icmp .ne 22, 3) := by decide +kernel
theorem dL_isStep_749 : decode cL_isStep 749 = .ok (.iload 4, 2) := by decide +kernel
theorem dL_isStep_751 : decode cL_isStep 751 = .ok (.ifCond .eq 13, 3) := by decide +kernel
theorem dL_isStep_754 : decode cL_isStep 754 = .ok (.aload_n 0, 1) := by decide +kernel
theorem dL_isStep_755 : decode cL_isStep 755 = .ok (.bipush 6, 2) := by decide +kernel
theorem dL_isStep_757 : decode cL_isStep 757 = .ok (.invokevirtual 9, 3) := by decide +kernel
theorem dL_isStep_760 : decode cL_isStep 760 = .ok (.iconst 1, 1) := by decide +kernel
theorem dL_isStep_761 : decode cL_isStep 761 = .ok (.if_icmp .ne 7, 3) := by decide +kernel
theorem dL_isStep_764 : decode cL_isStep 764 = .ok (.iconst 1, 1) := by decide +kernel
theorem dL_isStep_765 : decode cL_isStep 765 = .ok (.goto 4, 3) := by decide +kernel
theorem dL_isStep_768 : decode cL_isStep 768 = .ok (.iconst 0, 1) := by decide +kernel
theorem dL_isStep_769 : decode cL_isStep 769 = .ok (.ireturn, 1) := by decide +kernel
theorem dL_isStep_770 : decode cL_isStep 770 = .ok (.iload_n 3, 1) := by decide +kernel
theorem dL_isStep_771 : decode cL_isStep 771 = .ok (.iconst 3, 1) := by decide +kernel
theorem dL_isStep_772 : decode cL_isStep 772 = .ok (.invokestatic 15, 3) := by decide +kernel
theorem dL_isStep_775 : decode cL_isStep 775 = .ok (.ifCond .le 5, 3) := by decide +kernel
theorem dL_isStep_778 : decode cL_isStep 778 = .ok (.iconst 1, 1) := by decide +kernel
theorem dL_isStep_779 : decode cL_isStep 779 = .ok (.ireturn, 1) := by decide +kernel
theorem dL_isStep_780 : decode cL_isStep 780 = .ok (.aload_n 0, 1) := by decide +kernel
theorem dL_isStep_781 : decode cL_isStep 781 = .ok (.bipush 14, 2) := by decide +kernel
theorem dL_isStep_783 : decode cL_isStep 783 = .ok (.invokevirtual 9, 3) := by decide +kernel
theorem dL_isStep_786 : decode cL_isStep 786 = .ok (.istore 8, 2) := by decide +kernel
theorem dL_isStep_788 : decode cL_isStep 788 = .ok (.aload_n 0, 1) := by decide +kernel
theorem dL_isStep_789 : decode cL_isStep 789 = .ok (.invokevirtual 34, 3) := by decide +kernel
theorem dL_isStep_792 : decode cL_isStep 792 = .ok (.istore 9, 2) := by decide +kernel
theorem dL_isStep_794 : decode cL_isStep 794 = .ok (.iload 9, 2) := by decide +kernel
theorem dL_isStep_796 : decode cL_isStep 796 = .ok (.aload_n 1, 1) := by decide +kernel
theorem dL_isStep_797 : decode cL_isStep 797 = .ok (.invokevirtual 34, 3) := by decide +kernel
theorem dL_isStep_800 : decode cL_isStep 800 = .ok (.if_icmp .ne 89, 3) := by decide +kernel
theorem dL_isStep_803 : decode cL_isStep 803 = .ok (.iload 4, 2) := by decide +kernel
theorem dL_isStep_805 : decode cL_isStep 805 = .ok (.ifCond .ne 13, 3) := by decide +kernel
theorem dL_isStep_808 : decode cL_isStep 808 = .ok (.iload 9, 2) := by decide +kernel
theorem dL_isStep_810 : decode cL_isStep 810 = .ok (.bipush (-5), 2) := by decide +kernel
theorem dL_isStep_812 : decode cL_isStep 812 = .ok (.if_icmp .ne 77, 3) := by decide +kernel
theorem dL_isStep_815 : decode cL_isStep 815 = .ok (.goto 70, 3) := by decide +kernel
theorem dL_isStep_818 : decode cL_isStep 818 = .ok (.iload 9, 2) := by decide +kernel
theorem dL_isStep_820 : decode cL_isStep 820 = .ok (.iload 4, 2) := by decide +kernel
theorem dL_isStep_822 : decode cL_isStep 822 = .ok (.if_icmp .ne 67, 3) := by decide +kernel
theorem dL_isStep_825 : decode cL_isStep 825 = .ok (.aload_n 0, 1) := by decide +kernel
theorem dL_isStep_826 : decode cL_isStep 826 = .ok (.iconst 0, 1) := by decide +kernel
theorem dL_isStep_827 : decode cL_isStep 827 = .ok (.invokevirtual 9, 3) := by decide +kernel
theorem dL_isStep_830 : decode cL_isStep 830 = .ok (.ifCond .ne 59, 3) := by decide +kernel
theorem dL_isStep_833 : decode cL_isStep 833 = .ok (.aload_n 0, 1) := by decide +kernel
theorem dL_isStep_834 : decode cL_isStep 834 = .ok (.bipush 14, 2) := by decide +kernel
theorem dL_isStep_836 : decode cL_isStep 836 = .ok (.invokevirtual 9, 3) := by decide +kernel
theorem dL_isStep_839 : decode cL_isStep 839 = .ok (.iload 8, 2) := by decide +kernel
theorem dL_isStep_841 : decode cL_isStep 841 = .ok (.iconst 1, 1) := by decide +kernel
theorem dL_isStep_842 : decode cL_isStep 842 = .ok (.iadd, 1) := by decide +kernel
theorem dL_isStep_843 : decode cL_isStep 843 = .ok (.if_icmp .ne 46, 3) := by decide +kernel
theorem dL_isStep_846 : decode cL_isStep 846 = .ok (.aload_n 0, 1) := by decide +kernel
theorem dL_isStep_847 : decode cL_isStep 847 = .ok (.bipush 9, 2) := by decide +kernel
theorem dL_isStep_849 : decode cL_isStep 849 = .ok (.invokevirtual 9, 3) := by decide +kernel
theorem dL_isStep_852 : decode cL_isStep 852 = .ok (.ifCond .ne 37, 3) := by decide +kernel
theorem dL_isStep_855 : decode cL_isStep 855 = .ok (.aload_n 0, 1) := by decide +kernel
theorem dL_isStep_856 : decode cL_isStep 856 = .ok (.iconst 2, 1) := by decide +kernel
theorem dL_isStep_857 : decode cL_isStep 857 = .ok (.invokevirtual 9, 3) := by decide +kernel
theorem dL_isStep_860 : decode cL_isStep 860 = .ok (.ifCond .ne 29, 3) := by decide +kernel
theorem dL_isStep_863 : decode cL_isStep 863 = .ok (.aload_n 0, 1) := by decide +kernel
theorem dL_isStep_864 : decode cL_isStep 864 = .ok (.bipush 12, 2) := by decide +kernel
theorem dL_isStep_866 : decode cL_isStep 866 = .ok (.invokevirtual 9, 3) := by decide +kernel
theorem dL_isStep_869 : decode cL_isStep 869 = .ok (.iload 6, 2) := by decide +kernel
theorem dL_isStep_871 : decode cL_isStep 871 = .ok (.if_icmp .ne 18, 3) := by decide +kernel
theorem dL_isStep_874 : decode cL_isStep 874 = .ok (.aload_n 0, 1) := by decide +kernel
theorem dL_isStep_875 : decode cL_isStep 875 = .ok (.bipush 13, 2) := by decide +kernel
theorem dL_isStep_877 : decode cL_isStep 877 = .ok (.invokevirtual 9, 3) := by decide +kernel
theorem dL_isStep_880 : decode cL_isStep 880 = .ok (.iload 7, 2) := by decide +kernel
theorem dL_isStep_882 : decode cL_isStep 882 = .ok (.if_icmp .ne 7, 3) := by decide +kernel
theorem dL_isStep_885 : decode cL_isStep 885 = .ok (.iconst 1, 1) := by decide +kernel
theorem dL_isStep_886 : decode cL_isStep 886 = .ok (.goto 4, 3) := by decide +kernel
theorem dL_isStep_889 : decode cL_isStep 889 = .ok (.iconst 0, 1) := by decide +kernel
theorem dL_isStep_890 : decode cL_isStep 890 = .ok (.ireturn, 1) := by decide +kernel
theorem dL_isStep_891 : decode cL_isStep 891 = .ok (.iconst 1, 1) := by decide +kernel
theorem dL_isStep_892 : decode cL_isStep 892 = .ok (.iload_n 3, 1) := by decide +kernel
theorem dL_isStep_893 : decode cL_isStep 893 = .ok (.bipush 11, 2) := by decide +kernel
theorem dL_isStep_895 : decode cL_isStep 895 = .ok (.invokestatic 15, 3) := by decide +kernel
theorem dL_isStep_898 : decode cL_isStep 898 = .ok (.iadd, 1) := by decide +kernel
theorem dL_isStep_899 : decode cL_isStep 899 = .ok (.istore 8, 2) := by decide +kernel
theorem dL_isStep_901 : decode cL_isStep 901 = .ok (.iconst 1, 1) := by decide +kernel
theorem dL_isStep_902 : decode cL_isStep 902 = .ok (.iload_n 3, 1) := by decide +kernel
theorem dL_isStep_903 : decode cL_isStep 903 = .ok (.iconst 4, 1) := by decide +kernel
theorem dL_isStep_904 : decode cL_isStep 904 = .ok (.ishr, 1) := by decide +kernel
theorem dL_isStep_905 : decode cL_isStep 905 = .ok (.bipush 40, 2) := by decide +kernel
theorem dL_isStep_907 : decode cL_isStep 907 = .ok (.invokestatic 15, 3) := by decide +kernel
theorem dL_isStep_910 : decode cL_isStep 910 = .ok (.iadd, 1) := by decide +kernel
theorem dL_isStep_911 : decode cL_isStep 911 = .ok (.istore 9, 2) := by decide +kernel
theorem dL_isStep_913 : decode cL_isStep 913 = .ok (.aload_n 0, 1) := by decide +kernel
theorem dL_isStep_914 : decode cL_isStep 914 = .ok (.iload 8, 2) := by decide +kernel
theorem dL_isStep_916 : decode cL_isStep 916 = .ok (.iload 9, 2) := by decide +kernel
theorem dL_isStep_918 : decode cL_isStep 918 = .ok (.iconst 0, 1) := by decide +kernel
theorem dL_isStep_919 : decode cL_isStep 919 = .ok (.invokevirtual 37, 3) := by decide +kernel
theorem dL_isStep_922 : decode cL_isStep 922 = .ok (.aload_n 1, 1) := by decide +kernel
theorem dL_isStep_923 : decode cL_isStep 923 = .ok (.iload 8, 2) := by decide +kernel
theorem dL_isStep_925 : decode cL_isStep 925 = .ok (.iload 9, 2) := by decide +kernel
theorem dL_isStep_927 : decode cL_isStep 927 = .ok (.iconst 0, 1) := by decide +kernel
theorem dL_isStep_928 : decode cL_isStep 928 = .ok (.invokevirtual 37, 3) := by decide +kernel
theorem dL_isStep_931 : decode cL_isStep 931 = .ok (.if_icmp .ne 16, 3) := by decide +kernel
theorem dL_isStep_934 : decode cL_isStep 934 = .ok (.aload_n 0, 1) := by decide +kernel
theorem dL_isStep_935 : decode cL_isStep 935 = .ok (.iload 8, 2) := by decide +kernel
theorem dL_isStep_937 : decode cL_isStep 937 = .ok (.invokestatic 41, 3) := by decide +kernel
theorem dL_isStep_940 : decode cL_isStep 940 = .ok (.ifCond .eq 7, 3) := by decide +kernel
theorem dL_isStep_943 : decode cL_isStep 943 = .ok (.iconst 1, 1) := by decide +kernel
theorem dL_isStep_944 : decode cL_isStep 944 = .ok (.goto 4, 3) := by decide +kernel
theorem dL_isStep_947 : decode cL_isStep 947 = .ok (.iconst 0, 1) := by decide +kernel
theorem dL_isStep_948 : decode cL_isStep 948 = .ok (.ireturn, 1) := by decide +kernel
end
section
set_option maxRecDepth 20000 in
theorem ggL_areAlike_X4_wrong : GoodIn wsL_areAlike wsX4_wrong := goodIn_r _ [5, 6, 7, 8, 9, 10, 11, 12, 13, 14, 15, 16, 17, 18, 19, 20, 21, 22, 23, 24, 25, 26, 27, 28, 29, 30, 31, 32, 33, 34, 35, 36, 37, 38, 39, 40, 41, 4, 42, 43, 44, 45, 46, 47, 48, 49, 50, 136, 137, 138, 139, 140, 141, 142, 143, 144, 145, 146, 147, 148, 149, 150, 151, 152, 153, 154, 155, 156, 157, 158] (by decide +kernel) (by decide +kernel)
set_option maxRecDepth 20000 in
theorem gL_areAlike_X4_wrong : GoodIn wsL_areAlike (wsV RL 51 RX4 yX4_wrong wsX4_wrong) := goodIn_app (goodIn_of _ (by decide +kernel)) ggL_areAlike_X4_wrong
set_option maxRecDepth 20000 in
theorem ggL_areAlike_X4_breaksIn : GoodIn wsL_areAlike wsX4_breaksIn := goodIn_r _ [54, 6, 55, 7, 8, 9, 10, 11, 56, 57, 58, 59, 23, 60, 61, 62, 63, 64, 65, 66, 67, 68, 69, 70, 71, 72, 25, 73, 74, 40, 75, 76, 46, 77, 78, 79, 80, 81, 82, 83, 84, 85, 86, 87, 88, 89, 90, 91, 37, 38, 39, 92, 93, 94, 95, 96, 49, 97, 98, 99, 100, 101, 102, 103, 104, 105, 106, 107, 108, 109, 110, 111, 112, 113, 114, 48, 50, 115, 116, 117, 118, 41, 4, 42, 136, 137, 138, 139, 140, 141, 142, 143, 144, 145, 146, 147, 148, 149, 150, 151, 152, 153, 154, 155, 156, 157, 158] (by decide +kernel) (by decide +kernel)
set_option maxRecDepth 20000 in
theorem gL_areAlike_X4_breaksIn : GoodIn wsL_areAlike (wsV RL 54 RX4 yX4_breaksIn wsX4_breaksIn) := goodIn_app (goodIn_of _ (by decide +kernel)) ggL_areAlike_X4_breaksIn
set_option maxRecDepth 20000 in
theorem ggL_areAlike_X4_count : GoodIn wsL_areAlike wsX4_count := goodIn_r _ [122, 6, 123, 124, 89, 25, 90, 91, 77, 125, 126, 127, 128, 41, 4, 42, 7, 8, 9, 10, 11, 82, 83, 84, 46, 43, 44, 45, 40, 47, 48, 49, 50, 24, 26, 27, 28, 29, 30, 31, 32, 33, 34, 35, 36, 37, 38, 39, 129, 130, 131, 23, 107, 108, 109, 64, 136, 137, 138, 139, 140, 141, 142, 143, 144, 145, 146, 147, 148, 149, 150, 151, 152, 153, 154, 155, 156, 157, 158, 159, 160, 161, 162, 163, 164, 165, 166, 167, 168] (by decide +kernel) (by decide +kernel)
set_option maxRecDepth 20000 in
theorem gL_areAlike_X4_count : GoodIn wsL_areAlike (wsV RL 9 RX4 yX4_count wsX4_count) := goodIn_app (goodIn_of _ (by decide +kernel)) ggL_areAlike_X4_count
set_option maxRecDepth 20000 in
theorem ggL_areAlike_X4_place : GoodIn wsL_areAlike wsX4_place := goodIn_r _ [135, 6, 37, 25, 38, 39, 40, 20, 8, 21, 22, 23, 29, 30, 31, 32, 33, 34, 35, 36, 128, 41, 4, 42, 16, 17, 18, 19, 136, 137, 138, 139, 140, 141, 142, 143, 144, 145, 146, 147, 148, 149, 150, 151, 152, 153, 154, 155, 156, 157, 158] (by decide +kernel) (by decide +kernel)
set_option maxRecDepth 20000 in
theorem gL_areAlike_X4_place : GoodIn wsL_areAlike (wsV RL 57 RX4 yX4_place wsX4_place) := goodIn_app (goodIn_of _ (by decide +kernel)) ggL_areAlike_X4_place
theorem dL_areAlike_0 : decode cL_areAlike 0 = .ok (.aload_n 0, 1) := by decide +kernel
theorem dL_areAlike_1 : decode cL_areAlike 1 = .ok (.invokevirtual 51, 3) := by decide +kernel
theorem dL_areAlike_4 : decode cL_areAlike 4 = .ok (.aload_n 1, 1) := by decide +kernel
theorem dL_areAlike_5 : decode cL_areAlike 5 = .ok (.invokevirtual 51, 3) := by decide +kernel
theorem dL_areAlike_8 : decode cL_areAlike 8 = .ok (.if_icmp .ne 18, 3) := by decide +kernel
theorem dL_areAlike_11 : decode cL_areAlike 11 = .ok (.aload_n 0, 1) := by decide +kernel
theorem dL_areAlike_12 : decode cL_areAlike 12 = .ok (.invokevirtual 54, 3) := by decide +kernel
theorem dL_areAlike_15 : decode cL_areAlike 15 = .ok (.aload_n 1, 1) := by decide +kernel
theorem dL_areAlike_16 : decode cL_areAlike 16 = .ok (.invokevirtual 54, 3) := by decide +kernel
theorem dL_areAlike_19 : decode cL_areAlike 19 = .ok (.if_icmp .ne 7, 3) := by decide +kernel
theorem dL_areAlike_22 : decode cL_areAlike 22 = .ok (.iconst 1, 1) := by decide +kernel
theorem dL_areAlike_23 : decode cL_areAlike 23 = .ok (.goto 4, 3) := by decide +kernel
theorem dL_areAlike_26 : decode cL_areAlike 26 = .ok (.iconst 0, 1) := by decide +kernel
theorem dL_areAlike_27 : decode cL_areAlike 27 = .ok (.istore_n 2, 1) := by decide +kernel
theorem dL_areAlike_28 : decode cL_areAlike 28 = .ok (.iconst 0, 1) := by decide +kernel
theorem dL_areAlike_29 : decode cL_areAlike 29 = .ok (.istore_n 3, 1) := by decide +kernel
theorem dL_areAlike_30 : decode cL_areAlike 30 = .ok (.iload_n 3, 1) := by decide +kernel
theorem dL_areAlike_31 : decode cL_areAlike 31 = .ok (.bipush 25, 2) := by decide +kernel
theorem dL_areAlike_33 : decode cL_areAlike 33 = .ok (.if_icmp .ge 44, 3) := by decide +kernel
theorem dL_areAlike_36 : decode cL_areAlike 36 = .ok (.iload_n 2, 1) := by decide +kernel
theorem dL_areAlike_37 : decode cL_areAlike 37 = .ok (.ifCond .eq 32, 3) := by decide +kernel
theorem dL_areAlike_40 : decode cL_areAlike 40 = .ok (.iload_n 3, 1) := by decide +kernel
theorem dL_areAlike_41 : decode cL_areAlike 41 = .ok (.bipush 15, 2) := by decide +kernel
theorem dL_areAlike_43 : decode cL_areAlike 43 = .ok (.if_icmp .eq 22, 3) := by decide +kernel
theorem dL_areAlike_46 : decode cL_areAlike 46 = .ok (.iload_n 3, 1) := by decide +kernel
theorem dL_areAlike_47 : decode cL_areAlike 47 = .ok (.bipush 16, 2) := by decide +kernel
theorem dL_areAlike_49 : decode cL_areAlike 49 = .ok (.if_icmp .eq 16, 3) := by decide +kernel
theorem dL_areAlike_52 : decode cL_areAlike 52 = .ok (.aload_n 0, 1) := by decide +kernel
theorem dL_areAlike_53 : decode cL_areAlike 53 = .ok (.iload_n 3, 1) := by decide +kernel
theorem dL_areAlike_54 : decode cL_areAlike 54 = .ok (.invokevirtual 9, 3) := by decide +kernel
theorem dL_areAlike_57 : decode cL_areAlike 57 = .ok (.aload_n 1, 1) := by decide +kernel
theorem dL_areAlike_58 : decode cL_areAlike 58 = .ok (.iload_n 3, 1) := by decide +kernel
theorem dL_areAlike_59 : decode cL_areAlike 59 = .ok (.invokevirtual 9, 3) := by decide +kernel
theorem dL_areAlike_62 : decode cL_areAlike 62 = .ok (.if_icmp .ne 7, 3) := by decide +kernel
theorem dL_areAlike_65 : decode cL_areAlike 65 = .ok (.iconst 1, 1) := by decide +kernel
theorem dL_areAlike_66 : decode cL_areAlike 66 = .ok (.goto 4, 3) := by decide +kernel
theorem dL_areAlike_69 : decode cL_areAlike 69 = .ok (.iconst 0, 1) := by decide +kernel
theorem dL_areAlike_70 : decode cL_areAlike 70 = .ok (.istore_n 2, 1) := by decide +kernel
theorem dL_areAlike_71 : decode cL_areAlike 71 = .ok (.iinc 3 1, 3) := by decide +kernel
theorem dL_areAlike_74 : decode cL_areAlike 74 = .ok (.goto (-44), 3) := by decide +kernel
theorem dL_areAlike_77 : decode cL_areAlike 77 = .ok (.iconst 0, 1) := by decide +kernel
theorem dL_areAlike_78 : decode cL_areAlike 78 = .ok (.istore_n 3, 1) := by decide +kernel
theorem dL_areAlike_79 : decode cL_areAlike 79 = .ok (.iload_n 3, 1) := by decide +kernel
theorem dL_areAlike_80 : decode cL_areAlike 80 = .ok (.bipush 12, 2) := by decide +kernel
theorem dL_areAlike_82 : decode cL_areAlike 82 = .ok (.if_icmp .ge 51, 3) := by decide +kernel
theorem dL_areAlike_85 : decode cL_areAlike 85 = .ok (.iconst 0, 1) := by decide +kernel
theorem dL_areAlike_86 : decode cL_areAlike 86 = .ok (.istore 4, 2) := by decide +kernel
theorem dL_areAlike_88 : decode cL_areAlike 88 = .ok (.iload 4, 2) := by decide +kernel
theorem dL_areAlike_90 : decode cL_areAlike 90 = .ok (.iconst 4, 1) := by decide +kernel
theorem dL_areAlike_91 : decode cL_areAlike 91 = .ok (.if_icmp .ge 36, 3) := by decide +kernel
theorem dL_areAlike_94 : decode cL_areAlike 94 = .ok (.iload_n 2, 1) := by decide +kernel
theorem dL_areAlike_95 : decode cL_areAlike 95 = .ok (.ifCond .eq 24, 3) := by decide +kernel
theorem dL_areAlike_98 : decode cL_areAlike 98 = .ok (.aload_n 0, 1) := by decide +kernel
theorem dL_areAlike_99 : decode cL_areAlike 99 = .ok (.iload_n 3, 1) := by decide +kernel
theorem dL_areAlike_100 : decode cL_areAlike 100 = .ok (.iload 4, 2) := by decide +kernel
theorem dL_areAlike_102 : decode cL_areAlike 102 = .ok (.invokevirtual 57, 3) := by decide +kernel
theorem dL_areAlike_105 : decode cL_areAlike 105 = .ok (.aload_n 1, 1) := by decide +kernel
theorem dL_areAlike_106 : decode cL_areAlike 106 = .ok (.iload_n 3, 1) := by decide +kernel
theorem dL_areAlike_107 : decode cL_areAlike 107 = .ok (.iload 4, 2) := by decide +kernel
theorem dL_areAlike_109 : decode cL_areAlike 109 = .ok (.invokevirtual 57, 3) := by decide +kernel
theorem dL_areAlike_112 : decode cL_areAlike 112 = .ok (.if_icmp .ne 7, 3) := by decide +kernel
theorem dL_areAlike_115 : decode cL_areAlike 115 = .ok (.iconst 1, 1) := by decide +kernel
theorem dL_areAlike_116 : decode cL_areAlike 116 = .ok (.goto 4, 3) := by decide +kernel
theorem dL_areAlike_119 : decode cL_areAlike 119 = .ok (.iconst 0, 1) := by decide +kernel
theorem dL_areAlike_120 : decode cL_areAlike 120 = .ok (.istore_n 2, 1) := by decide +kernel
theorem dL_areAlike_121 : decode cL_areAlike 121 = .ok (.iinc 4 1, 3) := by decide +kernel
theorem dL_areAlike_124 : decode cL_areAlike 124 = .ok (.goto (-36), 3) := by decide +kernel
theorem dL_areAlike_127 : decode cL_areAlike 127 = .ok (.iinc 3 1, 3) := by decide +kernel
theorem dL_areAlike_130 : decode cL_areAlike 130 = .ok (.goto (-51), 3) := by decide +kernel
theorem dL_areAlike_133 : decode cL_areAlike 133 = .ok (.iload_n 2, 1) := by decide +kernel
theorem dL_areAlike_134 : decode cL_areAlike 134 = .ok (.ireturn, 1) := by decide +kernel
set_option maxRecDepth 20000 in
theorem ggL_law_X4_init : GoodIn wsL_law wsX4_init := goodIn_r _ [5, 6, 7, 8, 9, 10, 11, 12, 13, 14, 15, 16, 17, 18, 19, 20, 21, 22, 23, 24, 25, 26, 27, 28, 29, 30, 31, 32, 33, 34, 35, 36, 37, 38, 39, 40, 41, 42, 43, 44, 45, 46, 47, 48, 49, 50, 51, 52, 53, 54, 55, 56, 57, 58, 59, 60, 61, 62, 63, 64, 65, 66, 67, 68, 69, 70, 71, 72, 73, 74, 75, 304, 305, 306, 307, 308, 309, 310, 311, 312, 313, 314, 296, 297, 298, 299, 300, 301, 302, 303, 315, 316, 317, 318, 319, 320, 321, 322, 323, 324, 325, 326, 327, 328] (by decide +kernel) (by decide +kernel)
set_option maxRecDepth 20000 in
theorem gL_law_X4_init : GoodIn wsL_law (wsX4_init) := ggL_law_X4_init
set_option maxRecDepth 20000 in
theorem ggL_law_L_cell : GoodIn wsL_law wsL_cell := goodIn_r _ [79, 80] (by decide +kernel) (by decide +kernel)
set_option maxRecDepth 20000 in
theorem gL_law_L_cell : GoodIn wsL_law (va_wsS RL 61 yL_cell wsL_cell) := goodIn_app (goodIn_of _ (by decide +kernel)) ggL_law_L_cell
set_option maxRecDepth 20000 in
theorem ggL_law_L_isStep : GoodIn wsL_law wsL_isStep := goodIn_r _ [83, 84, 85, 86, 2, 87, 12, 22, 26, 88, 17, 89, 90, 57, 91, 92, 93, 94, 95, 96, 97, 11, 98, 99, 43, 100, 101, 102, 56, 103, 104, 105, 54, 106, 107, 108, 109, 110, 111, 112, 113, 114, 115, 116, 117, 118, 119, 120, 121, 122, 123, 124, 125, 126, 127, 35, 128, 129, 130, 42, 131, 132, 78, 133, 134, 135, 136, 137, 138, 13, 139, 140, 141, 33, 142, 143, 144, 145, 44, 45, 46, 47, 48, 49, 50, 146, 147, 148, 149, 55, 150, 151, 152, 153, 154, 155, 156, 157, 158, 159, 160, 161, 162, 163, 164, 165, 166, 167, 168, 169, 170, 171, 172, 173, 174, 175, 176, 177, 178, 179, 180, 181, 182, 183, 184, 185, 186, 187, 188, 189, 190, 191, 192, 193, 194, 195, 196, 197, 198, 199, 200, 21, 201, 202, 63, 64, 203, 204, 205, 206, 207, 62, 208, 209, 210, 211, 212, 213, 214, 215, 216, 217, 218, 219, 220, 221, 222, 223, 224, 225, 226, 227, 228, 229, 230, 231, 232, 233, 234, 235, 236, 237, 238, 239, 240, 241, 242, 243, 244, 245, 246, 247, 18, 248, 249, 250, 251, 252, 253, 254, 255, 256, 257, 258, 259, 260, 261, 262, 263, 264, 265, 266, 296, 297, 298, 299, 300, 301, 302, 303, 304, 305, 306, 307, 308, 309, 310, 311, 312, 313, 314, 315, 316, 317, 318, 319, 320, 321, 322, 323, 324, 325, 326, 327, 328] (by decide +kernel) (by decide +kernel)
set_option maxRecDepth 20000 in
theorem gL_law_L_isStep : GoodIn wsL_law (va_wsS RL 65 yL_isStep wsL_isStep) := goodIn_app (goodIn_of _ (by decide +kernel)) ggL_law_L_isStep
set_option maxRecDepth 20000 in
theorem ggL_law_L_isWell : GoodIn wsL_law wsL_isWell := goodIn_r _ [269, 270, 271, 272, 2, 273, 12, 122, 17, 123, 124, 54, 274, 11, 275, 276, 35, 114, 115, 116, 117, 118, 119, 120, 121, 94, 95, 96, 277, 278, 279, 280, 281, 282, 283, 284, 13, 97, 98, 99, 43, 139, 140, 141, 33, 142, 143, 144, 145, 42, 44, 45, 46, 47, 48, 49, 50, 146, 147, 148, 149, 55, 56, 57, 164, 165, 166, 167, 100, 101, 102, 169, 170, 171, 163, 88, 89, 90, 172, 173, 174, 175, 176, 108, 177, 178, 179, 180, 181, 182, 183, 184, 185, 186, 128, 129, 130, 187, 188, 189, 190, 191, 107, 109, 192, 193, 194, 195, 84, 85, 86, 87, 22, 26, 91, 92, 93, 103, 104, 105, 106, 110, 111, 112, 113, 125, 126, 127, 285, 286, 287, 288, 289, 290, 291, 292, 296, 297, 298, 299, 300, 301, 302, 303, 304, 305, 306, 307, 308, 309, 310, 311, 312, 313, 314, 315, 316, 317, 318, 319, 320, 321, 322, 323, 324, 325, 326, 327, 328] (by decide +kernel) (by decide +kernel)
set_option maxRecDepth 20000 in
theorem gL_law_L_isWell : GoodIn wsL_law (va_wsS RL 69 yL_isWell wsL_isWell) := goodIn_app (goodIn_of _ (by decide +kernel)) ggL_law_L_isWell
set_option maxRecDepth 20000 in
theorem ggL_law_L_areAlike : GoodIn wsL_law wsL_areAlike := goodIn_r _ [295, 285, 286, 287, 2, 288, 12, 97, 11, 98, 99, 43, 289, 290, 291, 292, 277, 278, 279, 280, 274, 275, 276, 35, 110, 17, 111, 112, 113, 114, 115, 116, 117, 118, 119, 120, 121, 122, 123, 124, 54, 95, 96, 103, 104, 105, 56, 106, 107, 108, 109, 281, 282, 283, 284, 13, 139, 140, 141, 33, 142, 143, 144, 145, 42, 44, 45, 46, 47, 48, 49, 50, 146, 147, 148, 149, 55, 57, 164, 165, 166, 167, 100, 101, 102, 169, 170, 171, 163, 88, 89, 90, 172, 173, 174, 175, 176, 177, 178, 179, 180, 181, 182, 183, 184, 185, 186, 128, 129, 130, 187, 188, 189, 190, 191, 192, 193, 194, 195, 84, 85, 86, 87, 22, 26, 91, 92, 93, 94, 125, 126, 127, 270, 271, 272, 273, 296, 297, 298, 299, 300, 301, 302, 303, 304, 305, 306, 307, 308, 309, 310, 311, 312, 313, 314, 315, 316, 317, 318, 319, 320, 321, 322, 323, 324, 325, 326, 327, 328] (by decide +kernel) (by decide +kernel)
set_option maxRecDepth 20000 in
theorem gL_law_L_areAlike : GoodIn wsL_law (va_wsS RL 73 yL_areAlike wsL_areAlike) := goodIn_app (goodIn_of _ (by decide +kernel)) ggL_law_L_areAlike
theorem dL_law_0 : decode cL_law 0 = .ok (.new 10, 3) := by decide +kernel
theorem dL_law_3 : decode cL_law 3 = .ok (.dup, 1) := by decide +kernel
theorem dL_law_4 : decode cL_law 4 = .ok (.invokespecial 60, 3) := by decide +kernel
theorem dL_law_7 : decode cL_law 7 = .ok (.astore_n 1, 1) := by decide +kernel
theorem dL_law_8 : decode cL_law 8 = .ok (.new 10, 3) := by decide +kernel
theorem dL_law_11 : decode cL_law 11 = .ok (.dup, 1) := by decide +kernel
theorem dL_law_12 : decode cL_law 12 = .ok (.invokespecial 60, 3) := by decide +kernel
theorem dL_law_15 : decode cL_law 15 = .ok (.astore_n 2, 1) := by decide +kernel
theorem dL_law_16 : decode cL_law 16 = .ok (.iconst 1, 1) := by decide +kernel
theorem dL_law_17 : decode cL_law 17 = .ok (.istore_n 3, 1) := by decide +kernel
theorem dL_law_18 : decode cL_law 18 = .ok (.iconst 0, 1) := by decide +kernel
theorem dL_law_19 : decode cL_law 19 = .ok (.istore 4, 2) := by decide +kernel
theorem dL_law_21 : decode cL_law 21 = .ok (.iload 4, 2) := by decide +kernel
theorem dL_law_23 : decode cL_law 23 = .ok (.bipush 52, 2) := by decide +kernel
theorem dL_law_25 : decode cL_law 25 = .ok (.if_icmp .ge 47, 3) := by decide +kernel
theorem dL_law_28 : decode cL_law 28 = .ok (.iload_n 3, 1) := by decide +kernel
theorem dL_law_29 : decode cL_law 29 = .ok (.ifCond .eq 43, 3) := by decide +kernel
theorem dL_law_32 : decode cL_law 32 = .ok (.aload_n 1, 1) := by decide +kernel
theorem dL_law_33 : decode cL_law 33 = .ok (.aload_n 2, 1) := by decide +kernel
theorem dL_law_34 : decode cL_law 34 = .ok (.aload_n 0, 1) := by decide +kernel
theorem dL_law_35 : decode cL_law 35 = .ok (.iload 4, 2) := by decide +kernel
theorem dL_law_37 : decode cL_law 37 = .ok (.invokestatic 61, 3) := by decide +kernel
theorem dL_law_40 : decode cL_law 40 = .ok (.invokestatic 65, 3) := by decide +kernel
theorem dL_law_43 : decode cL_law 43 = .ok (.ifCond .eq 21, 3) := by decide +kernel
theorem dL_law_46 : decode cL_law 46 = .ok (.iload 4, 2) := by decide +kernel
theorem dL_law_48 : decode cL_law 48 = .ok (.iconst 5, 1) := by decide +kernel
theorem dL_law_49 : decode cL_law 49 = .ok (.irem, 1) := by decide +kernel
theorem dL_law_50 : decode cL_law 50 = .ok (.ifCond .gt 10, 3) := by decide +kernel
theorem dL_law_53 : decode cL_law 53 = .ok (.aload_n 1, 1) := by decide +kernel
theorem dL_law_54 : decode cL_law 54 = .ok (.invokestatic 69, 3) := by decide +kernel
theorem dL_law_57 : decode cL_law 57 = .ok (.ifCond .eq 7, 3) := by decide +kernel
theorem dL_law_60 : decode cL_law 60 = .ok (.iconst 1, 1) := by decide +kernel
theorem dL_law_61 : decode cL_law 61 = .ok (.goto 4, 3) := by decide +kernel
theorem dL_law_64 : decode cL_law 64 = .ok (.iconst 0, 1) := by decide +kernel
theorem dL_law_65 : decode cL_law 65 = .ok (.istore_n 3, 1) := by decide +kernel
theorem dL_law_66 : decode cL_law 66 = .ok (.iinc 4 1, 3) := by decide +kernel
theorem dL_law_69 : decode cL_law 69 = .ok (.goto (-48), 3) := by decide +kernel
theorem dL_law_72 : decode cL_law 72 = .ok (.iload_n 3, 1) := by decide +kernel
theorem dL_law_73 : decode cL_law 73 = .ok (.ifCond .eq 22, 3) := by decide +kernel
theorem dL_law_76 : decode cL_law 76 = .ok (.aload_n 1, 1) := by decide +kernel
theorem dL_law_77 : decode cL_law 77 = .ok (.invokestatic 69, 3) := by decide +kernel
theorem dL_law_80 : decode cL_law 80 = .ok (.ifCond .eq 15, 3) := by decide +kernel
theorem dL_law_83 : decode cL_law 83 = .ok (.aload_n 1, 1) := by decide +kernel
theorem dL_law_84 : decode cL_law 84 = .ok (.aload_n 2, 1) := by decide +kernel
theorem dL_law_85 : decode cL_law 85 = .ok (.invokestatic 73, 3) := by decide +kernel
theorem dL_law_88 : decode cL_law 88 = .ok (.ifCond .eq 7, 3) := by decide +kernel
theorem dL_law_91 : decode cL_law 91 = .ok (.iconst 1, 1) := by decide +kernel
theorem dL_law_92 : decode cL_law 92 = .ok (.goto 4, 3) := by decide +kernel
theorem dL_law_95 : decode cL_law 95 = .ok (.iconst 0, 1) := by decide +kernel
theorem dL_law_96 : decode cL_law 96 = .ok (.ireturn, 1) := by decide +kernel
end
section
set_option maxRecDepth 20000 in
theorem ggL_isWell_X4_place : GoodIn wsL_isWell wsX4_place := goodIn_r _ [5, 6, 7, 8, 9, 10, 11, 12, 13, 14, 15, 16, 17, 18, 19, 20, 21, 22, 23, 24, 25, 26, 4, 27, 28, 29, 30, 31, 136, 137, 138, 139, 140, 141, 142, 143, 144, 145, 146, 147, 148, 149, 150, 151, 152, 153, 154, 155, 156, 157, 158] (by decide +kernel) (by decide +kernel)
set_option maxRecDepth 20000 in
theorem gL_isWell_X4_place : GoodIn wsL_isWell (wsV RL 57 RX4 yX4_place wsX4_place) := goodIn_app (goodIn_of _ (by decide +kernel)) ggL_isWell_X4_place
set_option maxRecDepth 20000 in
theorem ggL_isWell_X4_breaksIn : GoodIn wsL_isWell wsX4_breaksIn := goodIn_r _ [35, 6, 36, 37, 13, 38, 39, 40, 41, 42, 43, 44, 16, 45, 46, 47, 48, 49, 50, 51, 52, 53, 54, 55, 56, 57, 8, 58, 59, 11, 60, 61, 62, 63, 64, 65, 66, 67, 68, 69, 70, 71, 72, 73, 74, 75, 76, 77, 7, 9, 10, 78, 79, 80, 81, 82, 83, 84, 85, 86, 87, 88, 89, 90, 91, 92, 93, 94, 95, 96, 97, 98, 99, 100, 101, 102, 103, 104, 105, 106, 107, 26, 4, 27, 136, 137, 138, 139, 140, 141, 142, 143, 144, 145, 146, 147, 148, 149, 150, 151, 152, 153, 154, 155, 156, 157, 158] (by decide +kernel) (by decide +kernel)
set_option maxRecDepth 20000 in
theorem gL_isWell_X4_breaksIn : GoodIn wsL_isWell (wsV RL 54 RX4 yX4_breaksIn wsX4_breaksIn) := goodIn_app (goodIn_of _ (by decide +kernel)) ggL_isWell_X4_breaksIn
set_option maxRecDepth 20000 in
theorem ggL_isWell_X4_count : GoodIn wsL_isWell wsX4_count := goodIn_r _ [111, 6, 112, 113, 75, 8, 76, 77, 63, 114, 115, 116, 25, 26, 4, 27, 37, 13, 38, 39, 40, 68, 69, 70, 62, 117, 118, 119, 11, 120, 102, 83, 103, 121, 122, 123, 124, 17, 18, 19, 20, 21, 22, 23, 24, 7, 9, 10, 125, 126, 127, 16, 94, 95, 96, 49, 136, 137, 138, 139, 140, 141, 142, 143, 144, 145, 146, 147, 148, 149, 150, 151, 152, 153, 154, 155, 156, 157, 158, 159, 160, 161, 162, 163, 164, 165, 166, 167, 168] (by decide +kernel) (by decide +kernel)
set_option maxRecDepth 20000 in
theorem gL_isWell_X4_count : GoodIn wsL_isWell (wsV RL 9 RX4 yX4_count wsX4_count) := goodIn_app (goodIn_of _ (by decide +kernel)) ggL_isWell_X4_count
set_option maxRecDepth 20000 in
theorem ggL_isWell_X4_wrong : GoodIn wsL_isWell wsX4_wrong := goodIn_r _ [131, 6, 37, 13, 38, 39, 40, 132, 133, 134, 135, 28, 29, 30, 31, 12, 14, 15, 16, 121, 8, 122, 123, 124, 17, 18, 19, 20, 21, 22, 23, 24, 7, 9, 10, 11, 26, 4, 27, 117, 118, 119, 62, 120, 102, 83, 103, 136, 137, 138, 139, 140, 141, 142, 143, 144, 145, 146, 147, 148, 149, 150, 151, 152, 153, 154, 155, 156, 157, 158] (by decide +kernel) (by decide +kernel)
set_option maxRecDepth 20000 in
theorem gL_isWell_X4_wrong : GoodIn wsL_isWell (wsV RL 51 RX4 yX4_wrong wsX4_wrong) := goodIn_app (goodIn_of _ (by decide +kernel)) ggL_isWell_X4_wrong
theorem dL_isWell_0 : decode cL_isWell 0 = .ok (.iconst 0, 1) := by decide +kernel
theorem dL_isWell_1 : decode cL_isWell 1 = .ok (.istore_n 1, 1) := by decide +kernel
theorem dL_isWell_2 : decode cL_isWell 2 = .ok (.iconst 0, 1) := by decide +kernel
theorem dL_isWell_3 : decode cL_isWell 3 = .ok (.istore_n 2, 1) := by decide +kernel
theorem dL_isWell_4 : decode cL_isWell 4 = .ok (.iconst 0, 1) := by decide +kernel
theorem dL_isWell_5 : decode cL_isWell 5 = .ok (.istore_n 3, 1) := by decide +kernel
theorem dL_isWell_6 : decode cL_isWell 6 = .ok (.iconst 0, 1) := by decide +kernel
theorem dL_isWell_7 : decode cL_isWell 7 = .ok (.istore 4, 2) := by decide +kernel
theorem dL_isWell_9 : decode cL_isWell 9 = .ok (.sipush 200, 3) := by decide +kernel
theorem dL_isWell_12 : decode cL_isWell 12 = .ok (.istore 5, 2) := by decide +kernel
theorem dL_isWell_14 : decode cL_isWell 14 = .ok (.iconst 0, 1) := by decide +kernel
theorem dL_isWell_15 : decode cL_isWell 15 = .ok (.istore 6, 2) := by decide +kernel
theorem dL_isWell_17 : decode cL_isWell 17 = .ok (.iconst 1, 1) := by decide +kernel
theorem dL_isWell_18 : decode cL_isWell 18 = .ok (.istore 7, 2) := by decide +kernel
theorem dL_isWell_20 : decode cL_isWell 20 = .ok (.iconst 0, 1) := by decide +kernel
theorem dL_isWell_21 : decode cL_isWell 21 = .ok (.istore 8, 2) := by decide +kernel
theorem dL_isWell_23 : decode cL_isWell 23 = .ok (.iload 8, 2) := by decide +kernel
theorem dL_isWell_25 : decode cL_isWell 25 = .ok (.bipush 12, 2) := by decide +kernel
theorem dL_isWell_27 : decode cL_isWell 27 = .ok (.if_icmp .ge 265, 3) := by decide +kernel
theorem dL_isWell_30 : decode cL_isWell 30 = .ok (.iload 7, 2) := by decide +kernel
theorem dL_isWell_32 : decode cL_isWell 32 = .ok (.ifCond .eq 260, 3) := by decide +kernel
theorem dL_isWell_35 : decode cL_isWell 35 = .ok (.aload_n 0, 1) := by decide +kernel
theorem dL_isWell_36 : decode cL_isWell 36 = .ok (.iload 8, 2) := by decide +kernel
theorem dL_isWell_38 : decode cL_isWell 38 = .ok (.iconst 0, 1) := by decide +kernel
theorem dL_isWell_39 : decode cL_isWell 39 = .ok (.invokevirtual 57, 3) := by decide +kernel
theorem dL_isWell_42 : decode cL_isWell 42 = .ok (.istore 9, 2) := by decide +kernel
theorem dL_isWell_44 : decode cL_isWell 44 = .ok (.iload 8, 2) := by decide +kernel
theorem dL_isWell_46 : decode cL_isWell 46 = .ok (.ifCond .eq 19, 3) := by decide +kernel
theorem dL_isWell_49 : decode cL_isWell 49 = .ok (.iload 9, 2) := by decide +kernel
theorem dL_isWell_51 : decode cL_isWell 51 = .ok (.aload_n 0, 1) := by decide +kernel
theorem dL_isWell_52 : decode cL_isWell 52 = .ok (.iload 8, 2) := by decide +kernel
theorem dL_isWell_54 : decode cL_isWell 54 = .ok (.iconst 1, 1) := by decide +kernel
theorem dL_isWell_55 : decode cL_isWell 55 = .ok (.isub, 1) := by decide +kernel
theorem dL_isWell_56 : decode cL_isWell 56 = .ok (.iconst 0, 1) := by decide +kernel
theorem dL_isWell_57 : decode cL_isWell 57 = .ok (.invokevirtual 57, 3) := by decide +kernel
theorem dL_isWell_60 : decode cL_isWell 60 = .ok (.isub, 1) := by decide +kernel
theorem dL_isWell_61 : decode cL_isWell 61 = .ok (.iconst 5, 1) := by decide +kernel
theorem dL_isWell_62 : decode cL_isWell 62 = .ok (.if_icmp .le 7, 3) := by decide +kernel
theorem dL_isWell_65 : decode cL_isWell 65 = .ok (.iconst 1, 1) := by decide +kernel
theorem dL_isWell_66 : decode cL_isWell 66 = .ok (.goto 4, 3) := by decide +kernel
theorem dL_isWell_69 : decode cL_isWell 69 = .ok (.iconst 0, 1) := by decide +kernel
theorem dL_isWell_70 : decode cL_isWell 70 = .ok (.istore 10, 2) := by decide +kernel
theorem dL_isWell_72 : decode cL_isWell 72 = .ok (.iload 8, 2) := by decide +kernel
theorem dL_isWell_74 : decode cL_isWell 74 = .ok (.bipush 11, 2) := by decide +kernel
theorem dL_isWell_76 : decode cL_isWell 76 = .ok (.if_icmp .eq 19, 3) := by decide +kernel
theorem dL_isWell_79 : decode cL_isWell 79 = .ok (.iload 9, 2) := by decide +kernel
theorem dL_isWell_81 : decode cL_isWell 81 = .ok (.aload_n 0, 1) := by decide +kernel
theorem dL_isWell_82 : decode cL_isWell 82 = .ok (.iload 8, 2) := by decide +kernel
theorem dL_isWell_84 : decode cL_isWell 84 = .ok (.iconst 1, 1) := by decide +kernel
theorem dL_isWell_85 : decode cL_isWell 85 = .ok (.iadd, 1) := by decide +kernel
theorem dL_isWell_86 : decode cL_isWell 86 = .ok (.iconst 0, 1) := by decide +kernel
theorem dL_isWell_87 : decode cL_isWell 87 = .ok (.invokevirtual 57, 3) := by decide +kernel
theorem dL_isWell_90 : decode cL_isWell 90 = .ok (.isub, 1) := by decide +kernel
theorem dL_isWell_91 : decode cL_isWell 91 = .ok (.iconst 5, 1) := by decide +kernel
theorem dL_isWell_92 : decode cL_isWell 92 = .ok (.if_icmp .le 7, 3) := by decide +kernel
theorem dL_isWell_95 : decode cL_isWell 95 = .ok (.iconst 1, 1) := by decide +kernel
theorem dL_isWell_96 : decode cL_isWell 96 = .ok (.goto 4, 3) := by decide +kernel
theorem dL_isWell_99 : decode cL_isWell 99 = .ok (.iconst 0, 1) := by decide +kernel
theorem dL_isWell_100 : decode cL_isWell 100 = .ok (.istore 11, 2) := by decide +kernel
theorem dL_isWell_102 : decode cL_isWell 102 = .ok (.iload 9, 2) := by decide +kernel
theorem dL_isWell_104 : decode cL_isWell 104 = .ok (.ifCond .lt 99, 3) := by decide +kernel
theorem dL_isWell_107 : decode cL_isWell 107 = .ok (.iload 9, 2) := by decide +kernel
theorem dL_isWell_109 : decode cL_isWell 109 = .ok (.sipush 200, 3) := by decide +kernel
theorem dL_isWell_112 : decode cL_isWell 112 = .ok (.if_icmp .gt 91, 3) := by decide +kernel
theorem dL_isWell_115 : decode cL_isWell 115 = .ok (.aload_n 0, 1) := by decide +kernel
theorem dL_isWell_116 : decode cL_isWell 116 = .ok (.iload 8, 2) := by decide +kernel
theorem dL_isWell_118 : decode cL_isWell 118 = .ok (.iconst 2, 1) := by decide +kernel
theorem dL_isWell_119 : decode cL_isWell 119 = .ok (.invokevirtual 57, 3) := by decide +kernel
theorem dL_isWell_122 : decode cL_isWell 122 = .ok (.iconst 1, 1) := by decide +kernel
theorem dL_isWell_123 : decode cL_isWell 123 = .ok (.if_icmp .ne 7, 3) := by decide +kernel
theorem dL_isWell_126 : decode cL_isWell 126 = .ok (.iconst 1, 1) := by decide +kernel
theorem dL_isWell_127 : decode cL_isWell 127 = .ok (.goto 4, 3) := by decide +kernel
theorem dL_isWell_130 : decode cL_isWell 130 = .ok (.iconst 0, 1) := by decide +kernel
theorem dL_isWell_131 : decode cL_isWell 131 = .ok (.iload 10, 2) := by decide +kernel
theorem dL_isWell_133 : decode cL_isWell 133 = .ok (.ifCond .eq 12, 3) := by decide +kernel
theorem dL_isWell_136 : decode cL_isWell 136 = .ok (.iload 11, 2) := by decide +kernel
theorem dL_isWell_138 : decode cL_isWell 138 = .ok (.ifCond .eq 7, 3) := by decide +kernel
theorem dL_isWell_141 : decode cL_isWell 141 = .ok (.iconst 1, 1) := by decide +kernel
theorem dL_isWell_142 : decode cL_isWell 142 = .ok (.goto 4, 3) := by decide +kernel
theorem dL_isWell_145 : decode cL_isWell 145 = .ok (.iconst 0, 1) := by decide +kernel
theorem dL_isWell_146 : decode cL_isWell 146 = .ok (.if_icmp .ne 57, 3) := by decide +kernel
theorem dL_isWell_149 : decode cL_isWell 149 = .ok (.aload_n 0, 1) := by decide +kernel
theorem dL_isWell_150 : decode cL_isWell 150 = .ok (.iload 8, 2) := by decide +kernel
theorem dL_isWell_152 : decode cL_isWell 152 = .ok (.iconst 3, 1) := by decide +kernel
theorem dL_isWell_153 : decode cL_isWell 153 = .ok (.invokevirtual 57, 3) := by decide +kernel
theorem dL_isWell_156 : decode cL_isWell 156 = .ok (.iconst 1, 1) := by decide +kernel
theorem dL_isWell_157 : decode cL_isWell 157 = .ok (.if_icmp .ne 7, 3) := by decide +kernel
theorem dL_isWell_160 : decode cL_isWell 160 = .ok (.iconst 1, 1) := by decide +kernel
theorem dL_isWell_161 : decode cL_isWell 161 = .ok (.goto 4, 3) := by decide +kernel
theorem dL_isWell_164 : decode cL_isWell 164 = .ok (.iconst 0, 1) := by decide +kernel
theorem dL_isWell_165 : decode cL_isWell 165 = .ok (.aload_n 0, 1) := by decide +kernel
theorem dL_isWell_166 : decode cL_isWell 166 = .ok (.iload 8, 2) := by decide +kernel
theorem dL_isWell_168 : decode cL_isWell 168 = .ok (.iconst 1, 1) := by decide +kernel
theorem dL_isWell_169 : decode cL_isWell 169 = .ok (.invokevirtual 57, 3) := by decide +kernel
theorem dL_isWell_172 : decode cL_isWell 172 = .ok (.iconst 2, 1) := by decide +kernel
theorem dL_isWell_173 : decode cL_isWell 173 = .ok (.if_icmp .le 7, 3) := by decide +kernel
theorem dL_isWell_176 : decode cL_isWell 176 = .ok (.iconst 1, 1) := by decide +kernel
theorem dL_isWell_177 : decode cL_isWell 177 = .ok (.goto 4, 3) := by decide +kernel
theorem dL_isWell_180 : decode cL_isWell 180 = .ok (.iconst 0, 1) := by decide +kernel
theorem dL_isWell_181 : decode cL_isWell 181 = .ok (.if_icmp .ne 22, 3) := by decide +kernel
theorem dL_isWell_184 : decode cL_isWell 184 = .ok (.aload_n 0, 1) := by decide +kernel
theorem dL_isWell_185 : decode cL_isWell 185 = .ok (.iload 8, 2) := by decide +kernel
theorem dL_isWell_187 : decode cL_isWell 187 = .ok (.iconst 1, 1) := by decide +kernel
theorem dL_isWell_188 : decode cL_isWell 188 = .ok (.invokevirtual 57, 3) := by decide +kernel
theorem dL_isWell_191 : decode cL_isWell 191 = .ok (.ifCond .eq 8, 3) := by decide +kernel
theorem dL_isWell_194 : decode cL_isWell 194 = .ok (.iload 9, 2) := by decide +kernel
theorem dL_isWell_196 : decode cL_isWell 196 = .ok (.ifCond .le 7, 3) := by decide +kernel
theorem dL_isWell_199 : decode cL_isWell 199 = .ok (.iconst 1, 1) := by decide +kernel
theorem dL_isWell_200 : decode cL_isWell 200 = .ok (.goto 4, 3) := by decide +kernel
theorem dL_isWell_203 : decode cL_isWell 203 = .ok (.iconst 0, 1) := by decide +kernel
theorem dL_isWell_204 : decode cL_isWell 204 = .ok (.istore 7, 2) := by decide +kernel
theorem dL_isWell_206 : decode cL_isWell 206 = .ok (.iload_n 1, 1) := by decide +kernel
theorem dL_isWell_207 : decode cL_isWell 207 = .ok (.iload 9, 2) := by decide +kernel
theorem dL_isWell_209 : decode cL_isWell 209 = .ok (.iadd, 1) := by decide +kernel
theorem dL_isWell_210 : decode cL_isWell 210 = .ok (.istore_n 1, 1) := by decide +kernel
theorem dL_isWell_211 : decode cL_isWell 211 = .ok (.iload_n 2, 1) := by decide +kernel
theorem dL_isWell_212 : decode cL_isWell 212 = .ok (.aload_n 0, 1) := by decide +kernel
theorem dL_isWell_213 : decode cL_isWell 213 = .ok (.iload 8, 2) := by decide +kernel
theorem dL_isWell_215 : decode cL_isWell 215 = .ok (.iconst 1, 1) := by decide +kernel
theorem dL_isWell_216 : decode cL_isWell 216 = .ok (.invokevirtual 57, 3) := by decide +kernel
theorem dL_isWell_219 : decode cL_isWell 219 = .ok (.iadd, 1) := by decide +kernel
theorem dL_isWell_220 : decode cL_isWell 220 = .ok (.istore_n 2, 1) := by decide +kernel
theorem dL_isWell_221 : decode cL_isWell 221 = .ok (.iload_n 3, 1) := by decide +kernel
theorem dL_isWell_222 : decode cL_isWell 222 = .ok (.aload_n 0, 1) := by decide +kernel
theorem dL_isWell_223 : decode cL_isWell 223 = .ok (.iload 8, 2) := by decide +kernel
theorem dL_isWell_225 : decode cL_isWell 225 = .ok (.iconst 2, 1) := by decide +kernel
theorem dL_isWell_226 : decode cL_isWell 226 = .ok (.invokevirtual 57, 3) := by decide +kernel
theorem dL_isWell_229 : decode cL_isWell 229 = .ok (.iadd, 1) := by decide +kernel
theorem dL_isWell_230 : decode cL_isWell 230 = .ok (.istore_n 3, 1) := by decide +kernel
theorem dL_isWell_231 : decode cL_isWell 231 = .ok (.iload 6, 2) := by decide +kernel
theorem dL_isWell_233 : decode cL_isWell 233 = .ok (.ifCond .ne 14, 3) := by decide +kernel
theorem dL_isWell_236 : decode cL_isWell 236 = .ok (.aload_n 0, 1) := by decide +kernel
theorem dL_isWell_237 : decode cL_isWell 237 = .ok (.iload 8, 2) := by decide +kernel
theorem dL_isWell_239 : decode cL_isWell 239 = .ok (.iconst 3, 1) := by decide +kernel
theorem dL_isWell_240 : decode cL_isWell 240 = .ok (.invokevirtual 57, 3) := by decide +kernel
theorem dL_isWell_243 : decode cL_isWell 243 = .ok (.iconst 1, 1) := by decide +kernel
theorem dL_isWell_244 : decode cL_isWell 244 = .ok (.if_icmp .ne 7, 3) := by decide +kernel
theorem dL_isWell_247 : decode cL_isWell 247 = .ok (.iconst 1, 1) := by decide +kernel
theorem dL_isWell_248 : decode cL_isWell 248 = .ok (.goto 4, 3) := by decide +kernel
theorem dL_isWell_251 : decode cL_isWell 251 = .ok (.iconst 0, 1) := by decide +kernel
theorem dL_isWell_252 : decode cL_isWell 252 = .ok (.istore 6, 2) := by decide +kernel
theorem dL_isWell_254 : decode cL_isWell 254 = .ok (.iload 9, 2) := by decide +kernel
theorem dL_isWell_256 : decode cL_isWell 256 = .ok (.iload 4, 2) := by decide +kernel
theorem dL_isWell_258 : decode cL_isWell 258 = .ok (.if_icmp .le 8, 3) := by decide +kernel
theorem dL_isWell_261 : decode cL_isWell 261 = .ok (.iload 9, 2) := by decide +kernel
theorem dL_isWell_263 : decode cL_isWell 263 = .ok (.goto 5, 3) := by decide +kernel
theorem dL_isWell_266 : decode cL_isWell 266 = .ok (.iload 4, 2) := by decide +kernel
theorem dL_isWell_268 : decode cL_isWell 268 = .ok (.istore 4, 2) := by decide +kernel
theorem dL_isWell_270 : decode cL_isWell 270 = .ok (.iload 9, 2) := by decide +kernel
theorem dL_isWell_272 : decode cL_isWell 272 = .ok (.iload 5, 2) := by decide +kernel
theorem dL_isWell_274 : decode cL_isWell 274 = .ok (.if_icmp .ge 8, 3) := by decide +kernel
theorem dL_isWell_277 : decode cL_isWell 277 = .ok (.iload 9, 2) := by decide +kernel
theorem dL_isWell_279 : decode cL_isWell 279 = .ok (.goto 5, 3) := by decide +kernel
theorem dL_isWell_282 : decode cL_isWell 282 = .ok (.iload 5, 2) := by decide +kernel
theorem dL_isWell_284 : decode cL_isWell 284 = .ok (.istore 5, 2) := by decide +kernel
theorem dL_isWell_286 : decode cL_isWell 286 = .ok (.iinc 8 1, 3) := by decide +kernel
theorem dL_isWell_289 : decode cL_isWell 289 = .ok (.goto (-266), 3) := by decide +kernel
theorem dL_isWell_292 : decode cL_isWell 292 = .ok (.aload_n 0, 1) := by decide +kernel
theorem dL_isWell_293 : decode cL_isWell 293 = .ok (.invokevirtual 54, 3) := by decide +kernel
theorem dL_isWell_296 : decode cL_isWell 296 = .ok (.istore 8, 2) := by decide +kernel
theorem dL_isWell_298 : decode cL_isWell 298 = .ok (.aload_n 0, 1) := by decide +kernel
theorem dL_isWell_299 : decode cL_isWell 299 = .ok (.bipush 6, 2) := by decide +kernel
theorem dL_isWell_301 : decode cL_isWell 301 = .ok (.invokevirtual 9, 3) := by decide +kernel
theorem dL_isWell_304 : decode cL_isWell 304 = .ok (.iconst 1, 1) := by decide +kernel
theorem dL_isWell_305 : decode cL_isWell 305 = .ok (.if_icmp .ne 7, 3) := by decide +kernel
theorem dL_isWell_308 : decode cL_isWell 308 = .ok (.iconst 1, 1) := by decide +kernel
theorem dL_isWell_309 : decode cL_isWell 309 = .ok (.goto 4, 3) := by decide +kernel
theorem dL_isWell_312 : decode cL_isWell 312 = .ok (.iconst 0, 1) := by decide +kernel
theorem dL_isWell_313 : decode cL_isWell 313 = .ok (.istore 9, 2) := by decide +kernel
theorem dL_isWell_315 : decode cL_isWell 315 = .ok (.aload_n 0, 1) := by decide +kernel
theorem dL_isWell_316 : decode cL_isWell 316 = .ok (.bipush 7, 2) := by decide +kernel
theorem dL_isWell_318 : decode cL_isWell 318 = .ok (.invokevirtual 9, 3) := by decide +kernel
theorem dL_isWell_321 : decode cL_isWell 321 = .ok (.iconst 1, 1) := by decide +kernel
theorem dL_isWell_322 : decode cL_isWell 322 = .ok (.if_icmp .ne 7, 3) := by decide +kernel
theorem dL_isWell_325 : decode cL_isWell 325 = .ok (.iconst 1, 1) := by decide +kernel
theorem dL_isWell_326 : decode cL_isWell 326 = .ok (.goto 4, 3) := by decide +kernel
theorem dL_isWell_329 : decode cL_isWell 329 = .ok (.iconst 0, 1) := by decide +kernel
theorem dL_isWell_330 : decode cL_isWell 330 = .ok (.istore 10, 2) := by decide +kernel
theorem dL_isWell_332 : decode cL_isWell 332 = .ok (.iload 7, 2) := by decide +kernel
theorem dL_isWell_334 : decode cL_isWell 334 = .ok (.ifCond .eq 171, 3) := by decide +kernel
theorem dL_isWell_337 : decode cL_isWell 337 = .ok (.iload_n 1, 1) := by decide +kernel
theorem dL_isWell_338 : decode cL_isWell 338 = .ok (.aload_n 0, 1) := by decide +kernel
theorem dL_isWell_339 : decode cL_isWell 339 = .ok (.iconst 0, 1) := by decide +kernel
theorem dL_isWell_340 : decode cL_isWell 340 = .ok (.invokevirtual 9, 3) := by decide +kernel
theorem dL_isWell_343 : decode cL_isWell 343 = .ok (.if_icmp .ne 162, 3) := by decide +kernel
theorem dL_isWell_346 : decode cL_isWell 346 = .ok (.iload_n 2, 1) := by decide +kernel
theorem dL_isWell_347 : decode cL_isWell 347 = .ok (.aload_n 0, 1) := by decide +kernel
theorem dL_isWell_348 : decode cL_isWell 348 = .ok (.bipush 11, 2) := by decide +kernel
theorem dL_isWell_350 : decode cL_isWell 350 = .ok (.invokevirtual 9, 3) := by decide +kernel
theorem dL_isWell_353 : decode cL_isWell 353 = .ok (.if_icmp .ne 152, 3) := by decide +kernel
theorem dL_isWell_356 : decode cL_isWell 356 = .ok (.iload_n 3, 1) := by decide +kernel
theorem dL_isWell_357 : decode cL_isWell 357 = .ok (.aload_n 0, 1) := by decide +kernel
theorem dL_isWell_358 : decode cL_isWell 358 = .ok (.bipush 10, 2) := by decide +kernel
theorem dL_isWell_360 : decode cL_isWell 360 = .ok (.invokevirtual 9, 3) := by decide +kernel
theorem dL_isWell_363 : decode cL_isWell 363 = .ok (.if_icmp .ne 142, 3) := by decide +kernel
theorem dL_isWell_366 : decode cL_isWell 366 = .ok (.iload 4, 2) := by decide +kernel
theorem dL_isWell_368 : decode cL_isWell 368 = .ok (.iload 5, 2) := by decide +kernel
theorem dL_isWell_370 : decode cL_isWell 370 = .ok (.isub, 1) := by decide +kernel
theorem dL_isWell_371 : decode cL_isWell 371 = .ok (.aload_n 0, 1) := by decide +kernel
theorem dL_isWell_372 : decode cL_isWell 372 = .ok (.bipush 9, 2) := by decide +kernel
theorem dL_isWell_374 : decode cL_isWell 374 = .ok (.invokevirtual 9, 3) := by decide +kernel
theorem dL_isWell_377 : decode cL_isWell 377 = .ok (.if_icmp .ne 128, 3) := by decide +kernel
theorem dL_isWell_380 : decode cL_isWell 380 = .ok (.aload_n 0, 1) := by decide +kernel
theorem dL_isWell_381 : decode cL_isWell 381 = .ok (.bipush 8, 2) := by decide +kernel
theorem dL_isWell_383 : decode cL_isWell 383 = .ok (.invokevirtual 9, 3) := by decide +kernel
theorem dL_isWell_386 : decode cL_isWell 386 = .ok (.iconst 1, 1) := by decide +kernel
theorem dL_isWell_387 : decode cL_isWell 387 = .ok (.if_icmp .ne 7, 3) := by decide +kernel
theorem dL_isWell_390 : decode cL_isWell 390 = .ok (.iconst 1, 1) := by decide +kernel
theorem dL_isWell_391 : decode cL_isWell 391 = .ok (.goto 4, 3) := by decide +kernel
theorem dL_isWell_394 : decode cL_isWell 394 = .ok (.iconst 0, 1) := by decide +kernel
theorem dL_isWell_395 : decode cL_isWell 395 = .ok (.iload 4, 2) := by decide +kernel
theorem dL_isWell_397 : decode cL_isWell 397 = .ok (.sipush 200, 3) := by decide +kernel
theorem dL_isWell_400 : decode cL_isWell 400 = .ok (.if_icmp .ne 7, 3) := by decide +kernel
theorem dL_isWell_403 : decode cL_isWell 403 = .ok (.iconst 1, 1) := by decide +kernel
theorem dL_isWell_404 : decode cL_isWell 404 = .ok (.goto 4, 3) := by decide +kernel
theorem dL_isWell_407 : decode cL_isWell 407 = .ok (.iconst 0, 1) := by decide +kernel
theorem dL_isWell_408 : decode cL_isWell 408 = .ok (.if_icmp .ne 97, 3) := by decide +kernel
theorem dL_isWell_411 : decode cL_isWell 411 = .ok (.iload 10, 2) := by decide +kernel
theorem dL_isWell_413 : decode cL_isWell 413 = .ok (.aload_n 0, 1) := by decide +kernel
theorem dL_isWell_414 : decode cL_isWell 414 = .ok (.iconst 1, 1) := by decide +kernel
theorem dL_isWell_415 : decode cL_isWell 415 = .ok (.invokevirtual 9, 3) := by decide +kernel
theorem dL_isWell_418 : decode cL_isWell 418 = .ok (.ifCond .ne 7, 3) := by decide +kernel
theorem dL_isWell_421 : decode cL_isWell 421 = .ok (.iconst 1, 1) := by decide +kernel
theorem dL_isWell_422 : decode cL_isWell 422 = .ok (.goto 4, 3) := by decide +kernel
theorem dL_isWell_425 : decode cL_isWell 425 = .ok (.iconst 0, 1) := by decide +kernel
theorem dL_isWell_426 : decode cL_isWell 426 = .ok (.if_icmp .ne 79, 3) := by decide +kernel
theorem dL_isWell_429 : decode cL_isWell 429 = .ok (.aload_n 0, 1) := by decide +kernel
theorem dL_isWell_430 : decode cL_isWell 430 = .ok (.iconst 4, 1) := by decide +kernel
theorem dL_isWell_431 : decode cL_isWell 431 = .ok (.invokevirtual 9, 3) := by decide +kernel
theorem dL_isWell_434 : decode cL_isWell 434 = .ok (.ifCond .lt 71, 3) := by decide +kernel
theorem dL_isWell_437 : decode cL_isWell 437 = .ok (.aload_n 0, 1) := by decide +kernel
theorem dL_isWell_438 : decode cL_isWell 438 = .ok (.iconst 4, 1) := by decide +kernel
theorem dL_isWell_439 : decode cL_isWell 439 = .ok (.invokevirtual 9, 3) := by decide +kernel
theorem dL_isWell_442 : decode cL_isWell 442 = .ok (.sipush 300, 3) := by decide +kernel
theorem dL_isWell_445 : decode cL_isWell 445 = .ok (.if_icmp .gt 60, 3) := by decide +kernel
theorem dL_isWell_448 : decode cL_isWell 448 = .ok (.aload_n 0, 1) := by decide +kernel
theorem dL_isWell_449 : decode cL_isWell 449 = .ok (.iconst 2, 1) := by decide +kernel
theorem dL_isWell_450 : decode cL_isWell 450 = .ok (.invokevirtual 9, 3) := by decide +kernel
theorem dL_isWell_453 : decode cL_isWell 453 = .ok (.ifCond .lt 52, 3) := by decide +kernel
theorem dL_isWell_456 : decode cL_isWell 456 = .ok (.aload_n 0, 1) := by decide +kernel
theorem dL_isWell_457 : decode cL_isWell 457 = .ok (.iconst 2, 1) := by decide +kernel
theorem dL_isWell_458 : decode cL_isWell 458 = .ok (.invokevirtual 9, 3) := by decide +kernel
theorem dL_isWell_461 : decode cL_isWell 461 = .ok (.bipush 11, 2) := by decide +kernel
theorem dL_isWell_463 : decode cL_isWell 463 = .ok (.if_icmp .gt 42, 3) := by decide +kernel
theorem dL_isWell_466 : decode cL_isWell 466 = .ok (.aload_n 0, 1) := by decide +kernel
theorem dL_isWell_467 : decode cL_isWell 467 = .ok (.iconst 2, 1) := by decide +kernel
theorem dL_isWell_468 : decode cL_isWell 468 = .ok (.invokevirtual 9, 3) := by decide +kernel
theorem dL_isWell_471 : decode cL_isWell 471 = .ok (.ifCond .gt 11, 3) := by decide +kernel
theorem dL_isWell_474 : decode cL_isWell 474 = .ok (.aload_n 0, 1) := by decide +kernel
theorem dL_isWell_475 : decode cL_isWell 475 = .ok (.iconst 3, 1) := by decide +kernel
theorem dL_isWell_476 : decode cL_isWell 476 = .ok (.invokevirtual 9, 3) := by decide +kernel
theorem dL_isWell_479 : decode cL_isWell 479 = .ok (.ifCond .ne 26, 3) := by decide +kernel
theorem dL_isWell_482 : decode cL_isWell 482 = .ok (.aload_n 0, 1) := by decide +kernel
theorem dL_isWell_483 : decode cL_isWell 483 = .ok (.iconst 2, 1) := by decide +kernel
theorem dL_isWell_484 : decode cL_isWell 484 = .ok (.invokevirtual 9, 3) := by decide +kernel
theorem dL_isWell_487 : decode cL_isWell 487 = .ok (.bipush 11, 2) := by decide +kernel
theorem dL_isWell_489 : decode cL_isWell 489 = .ok (.if_icmp .lt 12, 3) := by decide +kernel
theorem dL_isWell_492 : decode cL_isWell 492 = .ok (.aload_n 0, 1) := by decide +kernel
theorem dL_isWell_493 : decode cL_isWell 493 = .ok (.iconst 3, 1) := by decide +kernel
theorem dL_isWell_494 : decode cL_isWell 494 = .ok (.invokevirtual 9, 3) := by decide +kernel
theorem dL_isWell_497 : decode cL_isWell 497 = .ok (.iconst 1, 1) := by decide +kernel
theorem dL_isWell_498 : decode cL_isWell 498 = .ok (.if_icmp .ne 7, 3) := by decide +kernel
theorem dL_isWell_501 : decode cL_isWell 501 = .ok (.iconst 1, 1) := by decide +kernel
theorem dL_isWell_502 : decode cL_isWell 502 = .ok (.goto 4, 3) := by decide +kernel
theorem dL_isWell_505 : decode cL_isWell 505 = .ok (.iconst 0, 1) := by decide +kernel
theorem dL_isWell_506 : decode cL_isWell 506 = .ok (.istore 7, 2) := by decide +kernel
theorem dL_isWell_508 : decode cL_isWell 508 = .ok (.iload 7, 2) := by decide +kernel
theorem dL_isWell_510 : decode cL_isWell 510 = .ok (.ifCond .eq 60, 3) := by decide +kernel
theorem dL_isWell_513 : decode cL_isWell 513 = .ok (.iload 9, 2) := by decide +kernel
theorem dL_isWell_515 : decode cL_isWell 515 = .ok (.ifCond .ne 8, 3) := by decide +kernel
theorem dL_isWell_518 : decode cL_isWell 518 = .ok (.iload 10, 2) := by decide +kernel
theorem dL_isWell_520 : decode cL_isWell 520 = .ok (.ifCond .eq 13, 3) := by decide +kernel
theorem dL_isWell_523 : decode cL_isWell 523 = .ok (.iload 8, 2) := by decide +kernel
theorem dL_isWell_525 : decode cL_isWell 525 = .ok (.bipush (-4), 2) := by decide +kernel
theorem dL_isWell_527 : decode cL_isWell 527 = .ok (.if_icmp .ne 43, 3) := by decide +kernel
theorem dL_isWell_530 : decode cL_isWell 530 = .ok (.goto 24, 3) := by decide +kernel
theorem dL_isWell_533 : decode cL_isWell 533 = .ok (.iload 8, 2) := by decide +kernel
theorem dL_isWell_535 : decode cL_isWell 535 = .ok (.bipush (-5), 2) := by decide +kernel
theorem dL_isWell_537 : decode cL_isWell 537 = .ok (.if_icmp .eq 17, 3) := by decide +kernel
theorem dL_isWell_540 : decode cL_isWell 540 = .ok (.iload 8, 2) := by decide +kernel
theorem dL_isWell_542 : decode cL_isWell 542 = .ok (.iconst 1, 1) := by decide +kernel
theorem dL_isWell_543 : decode cL_isWell 543 = .ok (.if_icmp .lt 27, 3) := by decide +kernel
theorem dL_isWell_546 : decode cL_isWell 546 = .ok (.iload 8, 2) := by decide +kernel
theorem dL_isWell_548 : decode cL_isWell 548 = .ok (.sipush 1000, 3) := by decide +kernel
theorem dL_isWell_551 : decode cL_isWell 551 = .ok (.if_icmp .gt 19, 3) := by decide +kernel
theorem dL_isWell_554 : decode cL_isWell 554 = .ok (.iload_n 1, 1) := by decide +kernel
theorem dL_isWell_555 : decode cL_isWell 555 = .ok (.ifCond .gt 11, 3) := by decide +kernel
theorem dL_isWell_558 : decode cL_isWell 558 = .ok (.aload_n 0, 1) := by decide +kernel
theorem dL_isWell_559 : decode cL_isWell 559 = .ok (.iconst 5, 1) := by decide +kernel
theorem dL_isWell_560 : decode cL_isWell 560 = .ok (.invokevirtual 9, 3) := by decide +kernel
theorem dL_isWell_563 : decode cL_isWell 563 = .ok (.ifCond .ne 7, 3) := by decide +kernel
theorem dL_isWell_566 : decode cL_isWell 566 = .ok (.iconst 1, 1) := by decide +kernel
theorem dL_isWell_567 : decode cL_isWell 567 = .ok (.goto 4, 3) := by decide +kernel
theorem dL_isWell_570 : decode cL_isWell 570 = .ok (.iconst 0, 1) := by decide +kernel
theorem dL_isWell_571 : decode cL_isWell 571 = .ok (.istore 7, 2) := by decide +kernel
theorem dL_isWell_573 : decode cL_isWell 573 = .ok (.iload 7, 2) := by decide +kernel
theorem dL_isWell_575 : decode cL_isWell 575 = .ok (.ifCond .eq 64, 3) := by decide +kernel
theorem dL_isWell_578 : decode cL_isWell 578 = .ok (.aload_n 0, 1) := by decide +kernel
theorem dL_isWell_579 : decode cL_isWell 579 = .ok (.invokevirtual 51, 3) := by decide +kernel
theorem dL_isWell_582 : decode cL_isWell 582 = .ok (.iload 9, 2) := by decide +kernel
theorem dL_isWell_584 : decode cL_isWell 584 = .ok (.ifCond .eq 7, 3) := by decide +kernel
theorem dL_isWell_587 : decode cL_isWell 587 = .ok (.iconst 1, 1) := by decide +kernel
theorem dL_isWell_588 : decode cL_isWell 588 = .ok (.goto 44, 3) := by decide +kernel
theorem dL_isWell_591 : decode cL_isWell 591 = .ok (.iload 10, 2) := by decide +kernel
theorem dL_isWell_593 : decode cL_isWell 593 = .ok (.ifCond .eq 7, 3) := by decide +kernel
theorem dL_isWell_596 : decode cL_isWell 596 = .ok (.iconst 2, 1) := by decide +kernel
theorem dL_isWell_597 : decode cL_isWell 597 = .ok (.goto 35, 3) := by decide +kernel
theorem dL_isWell_600 : decode cL_isWell 600 = .ok (.iload 6, 2) := by decide +kernel
theorem dL_isWell_602 : decode cL_isWell 602 = .ok (.ifCond .eq 7, 3) := by decide +kernel
theorem dL_isWell_605 : decode cL_isWell 605 = .ok (.iconst 3, 1) := by decide +kernel
theorem dL_isWell_606 : decode cL_isWell 606 = .ok (.goto 26, 3) := by decide +kernel
theorem dL_isWell_609 : decode cL_isWell 609 = .ok (.iload_n 3, 1) := by decide +kernel
theorem dL_isWell_610 : decode cL_isWell 610 = .ok (.ifCond .le 7, 3) := by decide +kernel
theorem dL_isWell_613 : decode cL_isWell 613 = .ok (.iconst 4, 1) := by decide +kernel
theorem dL_isWell_614 : decode cL_isWell 614 = .ok (.goto 18, 3) := by decide +kernel
theorem dL_isWell_617 : decode cL_isWell 617 = .ok (.iload 4, 2) := by decide +kernel
theorem dL_isWell_619 : decode cL_isWell 619 = .ok (.iload 5, 2) := by decide +kernel
theorem dL_isWell_621 : decode cL_isWell 621 = .ok (.isub, 1) := by decide +kernel
theorem dL_isWell_622 : decode cL_isWell 622 = .ok (.bipush 9, 2) := by decide +kernel
theorem dL_isWell_624 : decode cL_isWell 624 = .ok (.if_icmp .le 7, 3) := by decide +kernel
theorem dL_isWell_627 : decode cL_isWell 627 = .ok (.iconst 5, 1) := by decide +kernel
theorem dL_isWell_628 : decode cL_isWell 628 = .ok (.goto 4, 3) := by decide +kernel
theorem dL_isWell_631 : decode cL_isWell 631 = .ok (.iconst 0, 1) := by decide +kernel
theorem dL_isWell_632 : decode cL_isWell 632 = .ok (.if_icmp .ne 7, 3) := by decide +kernel
theorem dL_isWell_635 : decode cL_isWell 635 = .ok (.iconst 1, 1) := by decide +kernel
theorem dL_isWell_636 : decode cL_isWell 636 = .ok (.goto 4, 3) := by decide +kernel
theorem dL_isWell_639 : decode cL_isWell 639 = .ok (.iconst 0, 1) := by decide +kernel
theorem dL_isWell_640 : decode cL_isWell 640 = .ok (.ireturn, 1) := by decide +kernel
end
section
/-! My own layer over the kit: a method's walk as a symbolic state (world, locals, pc, stack). -/
abbrev TT : Type := va_G × ClassId × ClassId × ClassId
abbrev tys (T : TT) : List (ClassId × FieldType) := [(T.2.1, .int), (T.2.2.1, .char), (T.2.2.2, .object RX2)]
abbrev CX : Type := (Program × Launch × Env × Room × State) × (MethodId × Array Value × List Frame × Method × Code) × ((Nat → Prop) × Nat)
abbrev xP (X : CX) : Program := X.1.1
abbrev xL (X : CX) : Launch := X.1.2.1
abbrev xE (X : CX) : Env := X.1.2.2.1
abbrev xR (X : CX) : Room := X.1.2.2.2.1
abbrev xS (X : CX) : State := X.1.2.2.2.2
abbrev xM (X : CX) : MethodId := X.2.1.1
abbrev xAr (X : CX) : Array Value := X.2.1.2.1
abbrev xBl (X : CX) : List Frame := X.2.1.2.2.1
abbrev xMe (X : CX) : Method := X.2.1.2.2.2.1
abbrev xC (X : CX) : Code := X.2.1.2.2.2.2
abbrev xA (X : CX) : Nat → Prop := X.2.2.1
abbrev xB (X : CX) : Nat := X.2.2.2
/-- links between nest mates -/
def nws : List Cond := [.fieldLinkNest RX2 92 "ThreadWinder$Wraps" "laid" "I" "ThreadWinder", .fieldLinkNest RX4 105 "ThreadWinder$Wraps" "laid" "I" "ThreadWinder", .fieldLinkNest RX2 22 "ThreadWinder" "FIRST_NUMBERS" "[I" "ThreadWinder", .fieldLinkNest RX4 102 "ThreadWinder$State" "wraps" "LThreadWinder$Wraps;" "ThreadWinder", .fieldLinkNest RX4 164 "ThreadWinder$State" "coneLeft" "I" "ThreadWinder", .fieldLinkNest RX4 173 "ThreadWinder$State" "warmth" "I" "ThreadWinder", .fieldLinkNest RX4 125 "ThreadWinder$State" "broken" "Z" "ThreadWinder", .fieldLinkNest RX4 176 "ThreadWinder$State" "lastTension" "I" "ThreadWinder", .fieldLinkNest RX4 185 "ThreadWinder$State" "turnsDone" "I" "ThreadWinder", .fieldLinkNest RX4 188 "ThreadWinder$State" "breaks" "I" "ThreadWinder", .fieldLinkNest RX4 191 "ThreadWinder$State" "packagesOff" "I" "ThreadWinder", .fieldLinkNest RX4 194 "ThreadWinder$History" "kept" "I" "ThreadWinder", .fieldLinkNest RX4 197 "ThreadWinder$CommandText" "length" "I" "ThreadWinder", .fieldLinkNest RX2 92 "ThreadWinder$Wraps" "laid" "I" "ThreadWinder", .methodLinkNest RX4 11 yX2_init "ThreadWinder", .methodLinkNest RX2 11 yX3_init "ThreadWinder", .methodLinkNest RX4 24 yX3_init "ThreadWinder", .methodLinkNest RX4 31 yX1_init "ThreadWinder", .methodLinkNest RX1 24 yX2_init "ThreadWinder", .methodLinkNest RX4 38 yX0_init "ThreadWinder", .methodLinkNest RX4 51 yX2_copyFrom "ThreadWinder", .methodLinkNest RX2 59 yX3_copyFrom "ThreadWinder", .methodLinkNest RX4 55 yX2_changeNumber "ThreadWinder", .methodLinkNest RX2 84 yX4_inRange "ThreadWinder", .methodLinkNest RX4 203 yX1_remember "ThreadWinder", .methodLinkNest RX1 29 yX2_copyFrom "ThreadWinder", .methodLinkNest RX4 63 yX2_turnOften "ThreadWinder", .methodLinkNest RX2 143 yX3_isFull "ThreadWinder", .methodLinkNest RX2 98 yX3_guidePlace "ThreadWinder", .methodLinkNest RX2 101 yX3_heightAt "ThreadWinder", .methodLinkNest RX2 104 yX3_layWrap "ThreadWinder", .methodLinkNest RX2 116 yX3_moveGuide "ThreadWinder", .methodLinkNest RX3 37 yX4_oneIf "ThreadWinder", .methodLinkNest RX4 66 yX2_tieKnot "ThreadWinder", .methodLinkNest RX4 70 yX2_changeCone "ThreadWinder", .methodLinkNest RX4 73 yX2_takePackageOff "ThreadWinder", .methodLinkNest RX2 131 yX3_clear "ThreadWinder", .fieldLinkNest RX2 92 "ThreadWinder$Wraps" "laid" "I" "ThreadWinder", .fieldLinkNest RX2 92 "ThreadWinder$Wraps" "laid" "I" "ThreadWinder", .fieldLinkNest RX2 92 "ThreadWinder$Wraps" "laid" "I" "ThreadWinder", .fieldLinkNest RX2 92 "ThreadWinder$Wraps" "laid" "I" "ThreadWinder", .fieldLinkNest RX2 92 "ThreadWinder$Wraps" "laid" "I" "ThreadWinder", .fieldLinkNest RX2 92 "ThreadWinder$Wraps" "laid" "I" "ThreadWinder", .fieldLinkNest RX2 92 "ThreadWinder$Wraps" "laid" "I" "ThreadWinder", .fieldLinkNest RX2 92 "ThreadWinder$Wraps" "laid" "I" "ThreadWinder", .fieldLinkNest RX2 92 "ThreadWinder$Wraps" "laid" "I" "ThreadWinder", .methodLinkNest RX4 108 yX3_heightAt "ThreadWinder", .methodLinkNest RX4 111 yX2_knotsAt "ThreadWinder", .methodLinkNest RX4 114 yX3_isRibbon "ThreadWinder", .methodLinkNest RX4 122 yX2_isBad "ThreadWinder", .methodLinkNest RX4 128 yX2_isConeEmpty "ThreadWinder", .methodLinkNest RX4 132 yX2_hasBadPlace "ThreadWinder", .methodLinkNest RX4 135 yX3_ribbons "ThreadWinder", .methodLinkNest RX4 138 yX3_evenness "ThreadWinder", .methodLinkNest RX4 141 yX2_isIdle "ThreadWinder", .methodLinkNest RX4 144 yX2_turnOnce "ThreadWinder", .methodLinkNest RX4 206 yX3_clear "ThreadWinder", .methodLinkNest RX4 179 yX3_isFull "ThreadWinder", .methodLinkNest RX4 209 yX3_layWrap "ThreadWinder", .methodLinkNest RX4 200 yX2_number "ThreadWinder", .methodLinkNest RX4 212 yX3_moveGuide "ThreadWinder", .methodLinkNest RX4 155 yX3_barePlaces "ThreadWinder", .methodLinkNest RX4 167 yX3_guidePlace "ThreadWinder", .methodLinkNest RX4 170 yX3_guideGoesBack "ThreadWinder", .methodLinkNest RX4 182 yX2_allKnots "ThreadWinder"]
def nK (w : Cond) : Bool := match w with
  | .fieldLinkNest .. => true
  | .methodLinkNest .. => true
  | _ => false
theorem nws_all : nws.all nK = true := by decide +kernel
theorem nK_warm {w : Cond} {s U : State} (hW : s.WarmedH U.vm) (hk : nK w = true) (h : va_Nw w s) : va_Nw w U := by
  cases w <;> first
    | exact va_Nw.warmF hW h
    | exact va_Nw.warmM hW h
    | (exact absurd hk (by decide))
    | (simp [nK] at hk)
def fLowI : Nat → Int32 := fun j => match j with | 0 => 1 | 1 => 0 | 2 => 0 | 3 => 5 | 4 => 10 | 5 => 1 | _ => 1
def fLow : Nat → Value := fun j => .int (fLowI j)
def fHighI : Nat → Int32 := fun j => match j with | 0 => 11 | 1 => 9 | 2 => 5 | 3 => 50 | 4 => 99 | 5 => 500 | _ => 9999
def fHigh : Nat → Value := fun j => .int (fHighI j)
def fFirst : Nat → Int32 := fun j => match j with | 0 => 5 | 1 => 3 | 2 => 0 | 3 => 10 | 4 => 60 | _ => 0
def sTab (n : String) (N : Nat) (f : Nat → Value) (b0 : Nat) (U : State) : Prop := ∃ t : Nat, va_Z RX4 n "[I" (.ref t) (fun q => b0 ≤ q) U U.heap ∧ va_T .int t N f (fun q => b0 ≤ q) U U.heap
theorem sTab_moved {n : String} {N : Nat} {f : Nat → Value} {b0 : Nat} {A : Nat → Prop} {s U : State} {H : Heap} {locs : List Loc} (h : sTab n N f b0 s) (hS : va_S A s.heap H locs) (hA : ∀ q, A q → b0 ≤ q) (hW : s.WarmedH U.vm) (hU : U.heap = H) : sTab n N f b0 U := by
  obtain ⟨t, h1, h2⟩ := h
  have hq : ∀ a : Nat, a < s.heap.size → ¬ (fun q => b0 ≤ q) a → H[a]? = s.heap[a]? := fun a ha hna => hS.2.1 a ha (fun z => hna (hA a z))
  exact ⟨t, by rw [hU]; exact (h1.moved hW.alike).kept hq, by rw [hU]; exact (h2.moved hW.alike).kept hq⟩
/-- the row of the first numbers: its class and what it holds; its lock and its hash are nobody's business -/
def fCell (T : TT) (t : Nat) (H : Heap) : Prop := ∃ cell : Cell, H[t]? = some cell ∧ cell.cls = T.2.1 ∧ cell.slots = (arrV T.2.1 5 (fun j => .int (fFirst j))).slots ∧ (∀ k, cell.vm ≠ .statics k) ∧ cell.vm ≠ .unknown
def sFirst (T : TT) (b0 : Nat) (U : State) : Prop := ∃ t : Nat, va_Z RX4 "FIRST_NUMBERS" "[I" (.ref t) (fun q => b0 ≤ q) U U.heap ∧ fCell T t U.heap ∧ t < b0 ∧ va_Nw (.castable "[I" "java/lang/Cloneable") U ∧ va_AO RX2 U
def EnvOk (T : TT) (b0 : Nat) (U : State) : Prop := (∀ w ∈ nws, va_Nw w U) ∧ sTab "LOWEST" 7 fLow b0 U ∧ sTab "HIGHEST" 7 fHigh b0 U ∧ sFirst T b0 U
theorem EnvOk.moved {T : TT} {b0 : Nat} {A : Nat → Prop} {s U : State} {H : Heap} {locs : List Loc} (h : EnvOk T b0 s) (hS : va_S A s.heap H locs) (hA : ∀ q, A q → b0 ≤ q) (hW : s.WarmedH U.vm) (hU : U.heap = H) : EnvOk T b0 U := by
  obtain ⟨h1, h2, h3, t, h4, h5, h6⟩ := h
  have hq : ∀ a : Nat, a < s.heap.size → ¬ (fun q => b0 ≤ q) a → H[a]? = s.heap[a]? := fun a ha hna => hS.2.1 a ha (fun z => hna (hA a z))
  refine ⟨fun w hw => nK_warm hW (List.all_eq_true.mp nws_all w hw) (h1 w hw), sTab_moved h2 hS hA hW hU, sTab_moved h3 hS hA hW hU, t, by rw [hU]; exact (h4.moved hW.alike).kept hq, ?_, h6.1, va_Nw.warmC hW h6.2.1, h6.2.2.moved hW.alike⟩
  obtain ⟨cell, c1, c2⟩ := h5
  exact ⟨cell, by rw [hU, hq t (Array.getElem?_eq_some_iff.mp c1).1 (by show ¬ b0 ≤ t; have := h6.1; omega)]; exact c1, c2⟩
/-- what a method's body stands on -/
def Fit (T : TT) (X : CX) (own : String) (nL : Nat) (Ts : List Cond) (cc : ByteArray) (ret : Option FieldType) (R : Room) : Prop :=
  (xP X).tables.exec = Jvm.exec ∧ (xC X).code = cc ∧ (xC X).maxLocals = nL ∧ (xS X).vm.findClass own = some (xM X).cls ∧ (∀ w ∈ Ts, w.before (xAr X) (xS X) = true) ∧ va_K T.1 vwCl (tys T) (xS X) ∧ (∀ q, (xS X).heap.size ≤ q → xA X q) ∧ (xMe X).locks = false ∧ EnvOk T (xB X) (xS X) ∧ (∀ q, xA X q → xB X ≤ q) ∧ (xMe X).sig.returnType = ret ∧ xR X = R
/-- the symbolic state: from it the machine comes to Q -/
def G (T : TT) (X : CX) (Q : State → Prop) (cells slots : Nat) (ws : va_W) (lv : List (Nat × Value)) (pc : Nat) (st : List Value) : Prop :=
  ∀ (H : Heap) (locs : List Loc) (ls : Array Slot), va_P T.1 vwCl ws H → va_D (xA X) ws → va_S (xA X) (xS X).heap H locs → lv_has ls (xC X).maxLocals lv → W (xP X) (xL X) (xE X) (xR X) (xS X) (xM X) (xAr X) (xBl X) (xMe X) (xC X) H locs cells slots Q (F0 (xM X) pc ls st)
/-- ends: an int (or nothing) and a world -/
def QI (T : TT) (X : CX) (mc ms : Nat) (rv : Int32) (w1 : va_W) : State → Prop := MQ (xBl X) (va_Qi (fun (r : Int32) (w : va_W) => r = rv ∧ w = w1) (fun w t => va_P T.1 vwCl w t.heap ∧ va_D (xA X) w) (xA X)) (xAr X) (xS X) mc ms (xA X)
def QV (T : TT) (X : CX) (mc ms : Nat) (w1 : va_W) : State → Prop := MQ (xBl X) (va_Qv (fun (w : va_W) => w = w1) (fun w t => va_P T.1 vwCl w t.heap ∧ va_D (xA X) w) (xA X)) (xAr X) (xS X) mc ms (xA X)
def PreC (T : TT) (b0 : Nat) (av : List Value) (w0 : va_W) (sz : Nat) : Array Value → State → Prop := va_Pc av (fun U => U.heap.size = sz ∧ va_P T.1 vwCl w0 U.heap ∧ va_K T.1 vwCl (tys T) U ∧ va_D (fun q => b0 ≤ q) w0 ∧ EnvOk T b0 U)
/-- a method's contract: from the world w0 to the answer rv and the world w1 -/
def ConI (l : Launch) (T : TT) (b0 : Nat) (y : MethodName) (wds : List Cond) (rm : Room) (av : List Value) (w0 : va_W) (rv : Int32) (w1 : va_W) : Prop := ∀ sz : Nat, b0 ≤ sz → Met l y wds rm (PreC T b0 av w0 sz) (va_Qi (fun (r : Int32) (w : va_W) => r = rv ∧ w = w1) (fun w t => va_P T.1 vwCl w t.heap ∧ va_D (va_A w0 sz) w) (va_A w0 sz)) 0 0 (va_A w0 sz)
def ConV (l : Launch) (T : TT) (b0 : Nat) (y : MethodName) (wds : List Cond) (rm : Room) (av : List Value) (w0 : va_W) (w1 : va_W) : Prop := ∀ sz : Nat, b0 ≤ sz → Met l y wds rm (PreC T b0 av w0 sz) (va_Qv (fun (w : va_W) => w = w1) (fun w t => va_P T.1 vwCl w t.heap ∧ va_D (va_A w0 sz) w) (va_A w0 sz)) 0 0 (va_A w0 sz)
/-- a constructor's contract: nc cells of ns slots come; where they lie is not said but by the world -/
def ConC (l : Launch) (T : TT) (b0 : Nat) (y : MethodName) (wds : List Cond) (rm : Room) (av : List Value) (w0 : va_W) (S : Type) (post : S → va_W → Prop) (nc ns : Nat) : Prop := ∀ sz : Nat, b0 ≤ sz → Met l y wds rm (PreC T b0 av w0 sz) (va_Qv (fun (u : S × va_W) => post u.1 u.2) (fun u t => va_P T.1 vwCl u.2 t.heap ∧ va_D (va_A w0 sz) u.2) (va_A w0 sz)) nc ns (va_A w0 sz)
theorem va_D_congr {A : Nat → Prop} {ws ws' : va_W} (h : ws'.map (fun q => q.1) = ws.map (fun q => q.1)) (hD : va_D A ws) : va_D A ws' := by
  have key : ∀ (k : Nat) (q : Nat × va_E), ws'[k]? = some q → ∃ q0, ws[k]? = some q0 ∧ q0.1 = q.1 := by
    intro k q hq
    have h1 : (ws'.map (fun q => q.1))[k]? = some q.1 := by rw [List.getElem?_map, hq]; rfl
    rw [h, List.getElem?_map] at h1
    cases hk : ws[k]? with
    | none => rw [hk] at h1; cases h1
    | some q0 => rw [hk] at h1; exact ⟨q0, rfl, Option.some.inj h1⟩
  refine ⟨fun i j x y hi hj hxy => ?_, fun k q hk => ?_⟩
  · obtain ⟨x0, h1, h2⟩ := key i x hi
    obtain ⟨y0, h3, h4⟩ := key j y hj
    exact hD.1 i j x0 y0 h1 h3 (h2.trans (hxy.trans h4.symm))
  · obtain ⟨q0, h1, h2⟩ := key k q hk
    rw [← h2]
    exact hD.2 k q0 h1
/-- the cells at the places is, replaced by w1 -/
def wput : va_W → List Nat → va_W → va_W
  | ws, i :: is, c :: cs => wput (ws.set i c) is cs
  | ws, _, _ => ws
theorem wput_P {D : va_G} {cl : List vw_C} {H1 : Heap} : ∀ (is : List Nat) (w1 ws : va_W), is.length = w1.length → (∀ (k : Nat) (q : Nat × va_E), ws[k]? = some q → k ∉ is → va_at D cl q H1) → va_P D cl w1 H1 → va_P D cl (wput ws is w1) H1
  | [], [], ws, _, h, _ => fun k q hk => h k q hk (by simp)
  | [], _ :: _, _, hl, _, _ => by simp at hl
  | _ :: _, [], _, hl, _, _ => by simp at hl
  | i :: is, c :: cs, ws, hl, h, hP => by
    refine wput_P is cs (ws.set i c) (by simpa using hl) (fun k q hk hn => ?_) (fun k q hk => hP (k + 1) q (by simpa using hk))
    by_cases hki : k = i
    · subst hki
      by_cases hlt : k < ws.length
      · rw [List.getElem?_set_self hlt] at hk
        cases hk
        exact hP 0 _ rfl
      · rw [List.getElem?_eq_none (by simpa using Nat.not_lt.mp hlt)] at hk
        cases hk
    · rw [List.getElem?_set_ne (Ne.symm hki)] at hk
      exact h k q hk (by simp [hki, hn])
theorem wput_D : ∀ (is : List Nat) (wc w1 ws : va_W), is.map (fun i => ws[i]?) = wc.map some → w1.map (fun q => q.1) = wc.map (fun q => q.1) → va_nd is = true → (wput ws is w1).map (fun q => q.1) = ws.map (fun q => q.1)
  | [], _, [], _, _, _, _ => rfl
  | [], wc, _ :: _, ws, h1, h2, _ => by
    cases wc with
    | nil => simp at h2
    | cons => simp at h1
  | _ :: _, _, [], _, _, _, _ => rfl
  | i :: is, [], c :: cs, ws, h1, h2, _ => by simp at h1
  | i :: is, d :: ds, c :: cs, ws, h1, h2, hn => by
    simp only [List.map_cons, List.cons.injEq] at h1 h2
    simp only [va_nd, Bool.and_eq_true, decide_eq_true_eq] at hn
    have e : (ws.set i c).map (fun q => q.1) = ws.map (fun q => q.1) := by
      apply List.ext_getElem?
      intro j
      by_cases hj : j = i
      · subst hj
        have hl := (List.getElem?_eq_some_iff.mp h1.1).1
        rw [List.getElem?_map, List.getElem?_map, List.getElem?_set_self hl, h1.1]
        simp [h2.1]
      · rw [List.getElem?_map, List.getElem?_map, List.getElem?_set_ne (Ne.symm hj)]
    rw [← e]
    refine wput_D is ds cs (ws.set i c) ?_ h2.2 hn.2
    rw [← h1.2]
    apply List.map_congr_left
    intro j hj
    have hne : i ≠ j := fun z => hn.1 (by rw [z]; exact hj)
    exact List.getElem?_set_ne hne
/-- behind a call, place by place -/
theorem va_back {A0 : Nat → Prop} {D : va_G} {cl : List vw_C} {ws wc w1 : va_W} {H H1 : Heap} (hP : va_P D cl ws H) (hD : va_D A0 ws) (is : List Nat) (hC : is.map (fun i => ws[i]?) = wc.map some) (hA : w1.map (fun q => q.1) = wc.map (fun q => q.1)) (hn : va_nd is = true)
    (hk : ∀ q : Nat, q < H.size → ¬ va_A wc H.size q → H1[q]? = H[q]?) (hP1 : va_P D cl w1 H1) : va_P D cl (wput ws is w1) H1 ∧ va_D A0 (wput ws is w1) := by
  have hlen : is.length = w1.length := by
    have e1 := congrArg List.length hC
    have e2 := congrArg List.length hA
    simp at e1 e2
    omega
  refine ⟨wput_P is w1 ws hlen (fun k q hq hni => ?_) hP1, va_D_congr (wput_D is wc w1 ws hC hA hn) hD⟩
  have hlt := (hP k q hq).lt
  refine (hP k q hq).kept (hk q.1 hlt (fun h => ?_))
  rcases h with ⟨j, e, h⟩ | h
  · have h1 : (is.map (fun i => ws[i]?))[j]? = some (some (q.1, e)) := by rw [hC, List.getElem?_map, h]; rfl
    rw [List.getElem?_map] at h1
    cases hi : is[j]? with
    | none => rw [hi] at h1; cases h1
    | some i =>
      rw [hi] at h1
      have h2 : ws[i]? = some (q.1, e) := Option.some.inj h1
      have := hD.1 k i q (q.1, e) hq h2 rfl
      subst this
      exact hni (List.mem_of_getElem? hi)
  · omega
theorem va_sub {D : va_G} {cl : List vw_C} {ws wc : va_W} {H : Heap} (hP : va_P D cl ws H) (is : List Nat) (hC : is.map (fun i => ws[i]?) = wc.map some) : va_P D cl wc H := by
  intro k q hk
  have h1 : (is.map (fun i => ws[i]?))[k]? = some (some q) := by rw [hC, List.getElem?_map, hk]; rfl
  rw [List.getElem?_map] at h1
  cases hi : is[k]? with
  | none => rw [hi] at h1; cases h1
  | some i => rw [hi] at h1; exact hP i q (Option.some.inj h1)
end
section
section GR
variable {T : TT} {X : CX} {own : String} {nL : Nat} {Ts : List Cond} {cc : ByteArray} {ret : Option FieldType} {R : Room} {Q : State → Prop} {cells slots : Nat} {ws : va_W} {lv : List (Nat × Value)} {pc : Nat} {st : List Value}
theorem g_cast {ws' : va_W} (h : ws = ws') (k : G T X Q cells slots ws' lv pc st) : G T X Q cells slots ws lv pc st := by rw [h]; exact k
theorem g_lv {lv' : List (Nat × Value)} (ks : List Nat) (h : lv_pick lv ks = lv') (k : G T X Q cells slots ws lv' pc st) : G T X Q cells slots ws lv pc st :=
  fun H locs ls hP hD hS hl => k H locs ls hP hD hS (lv_sub hl ks h)
theorem g_topi {x : Int32} (k : ∀ y : Int32, y = x → G T X Q cells slots ws lv pc (.int y :: st)) : G T X Q cells slots ws lv pc (.int x :: st) := k x rfl
theorem g_pc {pc' : Nat} (h : pc = pc') (k : G T X Q cells slots ws lv pc' st) : G T X Q cells slots ws lv pc st := by rw [h]; exact k
theorem g_iconst (hX : Fit T X own nL Ts cc ret R) {n : Int} {v : Int32} (hdg : decode cc pc = .ok (.iconst n, 1)) (hv : Int32.ofInt n = v) (k : G T X Q cells slots ws lv (pc + 1) (.int v :: st)) : G T X Q cells slots ws lv pc (st) := fun H locs ls hP hD hS hl => lv_iconst hX.1 hX.2.1 hdg hv (k H locs ls hP hD hS hl)
theorem g_bipush (hX : Fit T X own nL Ts cc ret R) {n : Int} {v : Int32} (hdg : decode cc pc = .ok (.bipush n, 2)) (hv : (Int8.ofInt n).toInt32 = v) (k : G T X Q cells slots ws lv (pc + 2) (.int v :: st)) : G T X Q cells slots ws lv pc (st) := fun H locs ls hP hD hS hl => lv_bipush hX.1 hX.2.1 hdg hv (k H locs ls hP hD hS hl)
theorem g_sipush (hX : Fit T X own nL Ts cc ret R) {n : Int} {v : Int32} (hdg : decode cc pc = .ok (.sipush n, 3)) (hv : (Int16.ofInt n).toInt32 = v) (k : G T X Q cells slots ws lv (pc + 3) (.int v :: st)) : G T X Q cells slots ws lv pc (st) := fun H locs ls hP hD hS hl => lv_sipush hX.1 hX.2.1 hdg hv (k H locs ls hP hD hS hl)
theorem g_lconst (hX : Fit T X own nL Ts cc ret R) {n : Fin 2} {v : Int64} (hdg : decode cc pc = .ok (.lconst n, 1)) (hv : Int64.ofNat (n : Nat) = v) (k : G T X Q cells slots ws lv (pc + 1) (.long v :: st)) : G T X Q cells slots ws lv pc (st) := fun H locs ls hP hD hS hl => lv_lconst hX.1 hX.2.1 hdg hv (k H locs ls hP hD hS hl)
theorem g_iload_n (hX : Fit T X own nL Ts cc ret R) {n : Fin 4} {i : Nat} {x : Int32} (hdg : decode cc pc = .ok (.iload_n n, 1)) (hi : (n : Nat) = i) (j : Nat) (hj : lv[j]? = some (i, .int x)) (k : G T X Q cells slots ws lv (pc + 1) (.int x :: st)) : G T X Q cells slots ws lv pc (st) := fun H locs ls hP hD hS hl => lv_iload_n hX.1 hX.2.1 hdg hi (lv_at hl j hj) (k H locs ls hP hD hS hl)
theorem g_iload (hX : Fit T X own nL Ts cc ret R) {i : Nat} {x : Int32} (hdg : decode cc pc = .ok (.iload i, 2)) (j : Nat) (hj : lv[j]? = some (i, .int x)) (k : G T X Q cells slots ws lv (pc + 2) (.int x :: st)) : G T X Q cells slots ws lv pc (st) := fun H locs ls hP hD hS hl => lv_iload hX.1 hX.2.1 hdg (lv_at hl j hj) (k H locs ls hP hD hS hl)
theorem g_lload_n (hX : Fit T X own nL Ts cc ret R) {n : Fin 4} {i : Nat} {x : Int64} (hdg : decode cc pc = .ok (.lload_n n, 1)) (hi : (n : Nat) = i) (j : Nat) (hj : lv[j]? = some (i, .long x)) (k : G T X Q cells slots ws lv (pc + 1) (.long x :: st)) : G T X Q cells slots ws lv pc (st) := fun H locs ls hP hD hS hl => lv_lload_n hX.1 hX.2.1 hdg hi (lv_at hl j hj) (k H locs ls hP hD hS hl)
theorem g_lload (hX : Fit T X own nL Ts cc ret R) {i : Nat} {x : Int64} (hdg : decode cc pc = .ok (.lload i, 2)) (j : Nat) (hj : lv[j]? = some (i, .long x)) (k : G T X Q cells slots ws lv (pc + 2) (.long x :: st)) : G T X Q cells slots ws lv pc (st) := fun H locs ls hP hD hS hl => lv_lload hX.1 hX.2.1 hdg (lv_at hl j hj) (k H locs ls hP hD hS hl)
theorem g_aload_n (hX : Fit T X own nL Ts cc ret R) {n : Fin 4} {i : Nat} {x : Nat} (hdg : decode cc pc = .ok (.aload_n n, 1)) (hi : (n : Nat) = i) (j : Nat) (hj : lv[j]? = some (i, .ref x)) (k : G T X Q cells slots ws lv (pc + 1) (.ref x :: st)) : G T X Q cells slots ws lv pc (st) := fun H locs ls hP hD hS hl => lv_aload_n hX.1 hX.2.1 hdg hi (lv_at hl j hj) (k H locs ls hP hD hS hl)
theorem g_iadd (hX : Fit T X own nL Ts cc ret R) {x y : Int32} (hdg : decode cc pc = .ok (.iadd, 1))  (k : G T X Q cells slots ws lv (pc + 1) (.int (x + y) :: st)) : G T X Q cells slots ws lv pc (.int y :: .int x :: st) := fun H locs ls hP hD hS hl => lv_iadd hX.1 hX.2.1 hdg (k H locs ls hP hD hS hl)
theorem g_isub (hX : Fit T X own nL Ts cc ret R) {x y : Int32} (hdg : decode cc pc = .ok (.isub, 1))  (k : G T X Q cells slots ws lv (pc + 1) (.int (x - y) :: st)) : G T X Q cells slots ws lv pc (.int y :: .int x :: st) := fun H locs ls hP hD hS hl => lv_isub hX.1 hX.2.1 hdg (k H locs ls hP hD hS hl)
theorem g_imul (hX : Fit T X own nL Ts cc ret R) {x y : Int32} (hdg : decode cc pc = .ok (.imul, 1))  (k : G T X Q cells slots ws lv (pc + 1) (.int (x * y) :: st)) : G T X Q cells slots ws lv pc (.int y :: .int x :: st) := fun H locs ls hP hD hS hl => lv_imul hX.1 hX.2.1 hdg (k H locs ls hP hD hS hl)
theorem g_iand (hX : Fit T X own nL Ts cc ret R) {x y : Int32} (hdg : decode cc pc = .ok (.iand, 1))  (k : G T X Q cells slots ws lv (pc + 1) (.int (x &&& y) :: st)) : G T X Q cells slots ws lv pc (.int y :: .int x :: st) := fun H locs ls hP hD hS hl => lv_iand hX.1 hX.2.1 hdg (k H locs ls hP hD hS hl)
theorem g_idiv (hX : Fit T X own nL Ts cc ret R) {x y : Int32} (hdg : decode cc pc = .ok (.idiv, 1)) (hne : ¬ y = 0) (k : G T X Q cells slots ws lv (pc + 1) (.int (x / y) :: st)) : G T X Q cells slots ws lv pc (.int y :: .int x :: st) := fun H locs ls hP hD hS hl => lv_idiv hX.1 hX.2.1 hdg hne (k H locs ls hP hD hS hl)
theorem g_irem (hX : Fit T X own nL Ts cc ret R) {x y : Int32} (hdg : decode cc pc = .ok (.irem, 1)) (hne : ¬ y = 0) (k : G T X Q cells slots ws lv (pc + 1) (.int (x - x / y * y) :: st)) : G T X Q cells slots ws lv pc (.int y :: .int x :: st) := fun H locs ls hP hD hS hl => lv_irem hX.1 hX.2.1 hdg hne (k H locs ls hP hD hS hl)
theorem g_ineg (hX : Fit T X own nL Ts cc ret R) {x : Int32} (hdg : decode cc pc = .ok (.ineg, 1))  (k : G T X Q cells slots ws lv (pc + 1) (.int (0 - x) :: st)) : G T X Q cells slots ws lv pc (.int x :: st) := fun H locs ls hP hD hS hl => lv_ineg hX.1 hX.2.1 hdg (k H locs ls hP hD hS hl)
theorem g_i2l (hX : Fit T X own nL Ts cc ret R) {x : Int32} {v : Int64} (hdg : decode cc pc = .ok (.i2l, 1)) (hv : x.toInt64 = v) (k : G T X Q cells slots ws lv (pc + 1) (.long v :: st)) : G T X Q cells slots ws lv pc (.int x :: st) := fun H locs ls hP hD hS hl => lv_i2l hX.1 hX.2.1 hdg hv (k H locs ls hP hD hS hl)
theorem g_i2c (hX : Fit T X own nL Ts cc ret R) {x v : Int32} (hdg : decode cc pc = .ok (.i2c, 1)) (hv : (x.toUInt32 % 65536).toInt32 = v) (k : G T X Q cells slots ws lv (pc + 1) (.int v :: st)) : G T X Q cells slots ws lv pc (.int x :: st) := fun H locs ls hP hD hS hl => lv_i2c hX.1 hX.2.1 hdg hv (k H locs ls hP hD hS hl)
theorem g_lcmp (hX : Fit T X own nL Ts cc ret R) {x y : Int64} (hdg : decode cc pc = .ok (.lcmp, 1))  (k : G T X Q cells slots ws lv (pc + 1) (.int (lg_cmp x y) :: st)) : G T X Q cells slots ws lv pc (.long y :: .long x :: st) := fun H locs ls hP hD hS hl => W.lcmp hX.1 hX.2.1 hdg (k H locs ls hP hD hS hl)
theorem g_dup (hX : Fit T X own nL Ts cc ret R) {va : Value} (hdg : decode cc pc = .ok (.dup, 1)) (hva : va.category = 1) (k : G T X Q cells slots ws lv (pc + 1) (va :: va :: st)) : G T X Q cells slots ws lv pc (va :: st) := fun H locs ls hP hD hS hl => lv_dup hX.1 hX.2.1 hdg hva (k H locs ls hP hD hS hl)
theorem g_dup2 (hX : Fit T X own nL Ts cc ret R) {va vb : Value} (hdg : decode cc pc = .ok (.dup2, 1)) (hva : va.category = 1) (hvb : vb.category = 1) (k : G T X Q cells slots ws lv (pc + 1) (va :: vb :: va :: vb :: st)) : G T X Q cells slots ws lv pc (va :: vb :: st) := fun H locs ls hP hD hS hl => lv_dup2_11 hX.1 hX.2.1 hdg hva hvb (k H locs ls hP hD hS hl)
theorem g_null (hX : Fit T X own nL Ts cc ret R)  (hdg : decode cc pc = .ok (.aconst_null, 1))  (k : G T X Q cells slots ws lv (pc + 1) (.null :: st)) : G T X Q cells slots ws lv pc (st) := fun H locs ls hP hD hS hl => lv_null hX.1 hX.2.1 hdg (k H locs ls hP hD hS hl)
theorem g_ldc (hX : Fit T X own nL Ts cc ret R) {index : Nat} {v : Int32} (hc : Cond.constant own index v ∈ Ts) (hdg : decode cc pc = .ok (.ldc index, 2)) (k : G T X Q cells slots ws lv (pc + 2) (.int v :: st)) : G T X Q cells slots ws lv pc st := fun H locs ls hP hD hS hl => lv_ldc hX.1 hX.2.1 hX.2.2.2.1 (hX.2.2.2.2.1 _ hc) hdg (k H locs ls hP hD hS hl)
theorem g_ldc2 (hX : Fit T X own nL Ts cc ret R) {index : Nat} {v : Int64} (hc : Cond.constantLong own index v ∈ Ts) (hdg : decode cc pc = .ok (.ldc2_w index, 3)) (k : G T X Q cells slots ws lv (pc + 3) (.long v :: st)) : G T X Q cells slots ws lv pc st := fun H locs ls hP hD hS hl => lv_ldc2 hX.1 hX.2.1 hX.2.2.2.1 (hX.2.2.2.2.1 _ hc) hdg (k H locs ls hP hD hS hl)
theorem g_if_eq (hX : Fit T X own nL Ts cc ret R) {x : Int32} {off : Int} (tgt : Nat) (hdg : decode cc pc = .ok (.ifCond .eq off, 3)) (ht : (pc : Int) + off = (tgt : Int)) (kt : x = 0 → G T X Q cells slots ws lv tgt st) (kf : ¬ x = 0 → G T X Q cells slots ws lv (pc + 3) st) : G T X Q cells slots ws lv pc (.int x :: st) := fun H locs ls hP hD hS hl => lv_if_eq hX.1 hX.2.1 hdg ht (fun q => kt q H locs ls hP hD hS hl) (fun q => kf q H locs ls hP hD hS hl)
theorem g_if_ne (hX : Fit T X own nL Ts cc ret R) {x : Int32} {off : Int} (tgt : Nat) (hdg : decode cc pc = .ok (.ifCond .ne off, 3)) (ht : (pc : Int) + off = (tgt : Int)) (kt : ¬ x = 0 → G T X Q cells slots ws lv tgt st) (kf : x = 0 → G T X Q cells slots ws lv (pc + 3) st) : G T X Q cells slots ws lv pc (.int x :: st) := fun H locs ls hP hD hS hl => lv_if_ne hX.1 hX.2.1 hdg ht (fun q => kt q H locs ls hP hD hS hl) (fun q => kf q H locs ls hP hD hS hl)
theorem g_if_lt (hX : Fit T X own nL Ts cc ret R) {x : Int32} {off : Int} (tgt : Nat) (hdg : decode cc pc = .ok (.ifCond .lt off, 3)) (ht : (pc : Int) + off = (tgt : Int)) (kt : x < 0 → G T X Q cells slots ws lv tgt st) (kf : ¬ x < 0 → G T X Q cells slots ws lv (pc + 3) st) : G T X Q cells slots ws lv pc (.int x :: st) := fun H locs ls hP hD hS hl => lv_if_lt hX.1 hX.2.1 hdg ht (fun q => kt q H locs ls hP hD hS hl) (fun q => kf q H locs ls hP hD hS hl)
theorem g_if_ge (hX : Fit T X own nL Ts cc ret R) {x : Int32} {off : Int} (tgt : Nat) (hdg : decode cc pc = .ok (.ifCond .ge off, 3)) (ht : (pc : Int) + off = (tgt : Int)) (kt : 0 ≤ x → G T X Q cells slots ws lv tgt st) (kf : ¬ 0 ≤ x → G T X Q cells slots ws lv (pc + 3) st) : G T X Q cells slots ws lv pc (.int x :: st) := fun H locs ls hP hD hS hl => lv_if_ge hX.1 hX.2.1 hdg ht (fun q => kt q H locs ls hP hD hS hl) (fun q => kf q H locs ls hP hD hS hl)
theorem g_if_gt (hX : Fit T X own nL Ts cc ret R) {x : Int32} {off : Int} (tgt : Nat) (hdg : decode cc pc = .ok (.ifCond .gt off, 3)) (ht : (pc : Int) + off = (tgt : Int)) (kt : 0 < x → G T X Q cells slots ws lv tgt st) (kf : ¬ 0 < x → G T X Q cells slots ws lv (pc + 3) st) : G T X Q cells slots ws lv pc (.int x :: st) := fun H locs ls hP hD hS hl => lv_if_gt hX.1 hX.2.1 hdg ht (fun q => kt q H locs ls hP hD hS hl) (fun q => kf q H locs ls hP hD hS hl)
theorem g_if_le (hX : Fit T X own nL Ts cc ret R) {x : Int32} {off : Int} (tgt : Nat) (hdg : decode cc pc = .ok (.ifCond .le off, 3)) (ht : (pc : Int) + off = (tgt : Int)) (kt : x ≤ 0 → G T X Q cells slots ws lv tgt st) (kf : ¬ x ≤ 0 → G T X Q cells slots ws lv (pc + 3) st) : G T X Q cells slots ws lv pc (.int x :: st) := fun H locs ls hP hD hS hl => lv_if_le hX.1 hX.2.1 hdg ht (fun q => kt q H locs ls hP hD hS hl) (fun q => kf q H locs ls hP hD hS hl)
theorem g_icmp_eq (hX : Fit T X own nL Ts cc ret R) {x y : Int32} {off : Int} (tgt : Nat) (hdg : decode cc pc = .ok (.if_icmp .eq off, 3)) (ht : (pc : Int) + off = (tgt : Int)) (kt : x = y → G T X Q cells slots ws lv tgt st) (kf : ¬ x = y → G T X Q cells slots ws lv (pc + 3) st) : G T X Q cells slots ws lv pc (.int y :: .int x :: st) := fun H locs ls hP hD hS hl => lv_icmp_eq hX.1 hX.2.1 hdg ht (fun q => kt q H locs ls hP hD hS hl) (fun q => kf q H locs ls hP hD hS hl)
theorem g_icmp_ne (hX : Fit T X own nL Ts cc ret R) {x y : Int32} {off : Int} (tgt : Nat) (hdg : decode cc pc = .ok (.if_icmp .ne off, 3)) (ht : (pc : Int) + off = (tgt : Int)) (kt : ¬ x = y → G T X Q cells slots ws lv tgt st) (kf : x = y → G T X Q cells slots ws lv (pc + 3) st) : G T X Q cells slots ws lv pc (.int y :: .int x :: st) := fun H locs ls hP hD hS hl => lv_icmp_ne hX.1 hX.2.1 hdg ht (fun q => kt q H locs ls hP hD hS hl) (fun q => kf q H locs ls hP hD hS hl)
theorem g_icmp_lt (hX : Fit T X own nL Ts cc ret R) {x y : Int32} {off : Int} (tgt : Nat) (hdg : decode cc pc = .ok (.if_icmp .lt off, 3)) (ht : (pc : Int) + off = (tgt : Int)) (kt : x < y → G T X Q cells slots ws lv tgt st) (kf : ¬ x < y → G T X Q cells slots ws lv (pc + 3) st) : G T X Q cells slots ws lv pc (.int y :: .int x :: st) := fun H locs ls hP hD hS hl => lv_icmp_lt hX.1 hX.2.1 hdg ht (fun q => kt q H locs ls hP hD hS hl) (fun q => kf q H locs ls hP hD hS hl)
theorem g_icmp_ge (hX : Fit T X own nL Ts cc ret R) {x y : Int32} {off : Int} (tgt : Nat) (hdg : decode cc pc = .ok (.if_icmp .ge off, 3)) (ht : (pc : Int) + off = (tgt : Int)) (kt : y ≤ x → G T X Q cells slots ws lv tgt st) (kf : ¬ y ≤ x → G T X Q cells slots ws lv (pc + 3) st) : G T X Q cells slots ws lv pc (.int y :: .int x :: st) := fun H locs ls hP hD hS hl => lv_icmp_ge hX.1 hX.2.1 hdg ht (fun q => kt q H locs ls hP hD hS hl) (fun q => kf q H locs ls hP hD hS hl)
theorem g_icmp_gt (hX : Fit T X own nL Ts cc ret R) {x y : Int32} {off : Int} (tgt : Nat) (hdg : decode cc pc = .ok (.if_icmp .gt off, 3)) (ht : (pc : Int) + off = (tgt : Int)) (kt : y < x → G T X Q cells slots ws lv tgt st) (kf : ¬ y < x → G T X Q cells slots ws lv (pc + 3) st) : G T X Q cells slots ws lv pc (.int y :: .int x :: st) := fun H locs ls hP hD hS hl => lv_icmp_gt hX.1 hX.2.1 hdg ht (fun q => kt q H locs ls hP hD hS hl) (fun q => kf q H locs ls hP hD hS hl)
theorem g_icmp_le (hX : Fit T X own nL Ts cc ret R) {x y : Int32} {off : Int} (tgt : Nat) (hdg : decode cc pc = .ok (.if_icmp .le off, 3)) (ht : (pc : Int) + off = (tgt : Int)) (kt : x ≤ y → G T X Q cells slots ws lv tgt st) (kf : ¬ x ≤ y → G T X Q cells slots ws lv (pc + 3) st) : G T X Q cells slots ws lv pc (.int y :: .int x :: st) := fun H locs ls hP hD hS hl => lv_icmp_le hX.1 hX.2.1 hdg ht (fun q => kt q H locs ls hP hD hS hl) (fun q => kf q H locs ls hP hD hS hl)
theorem g_goto (hX : Fit T X own nL Ts cc ret R) {off : Int} (tgt : Nat) (hdg : decode cc pc = .ok (.goto off, 3)) (ht : (pc : Int) + off = (tgt : Int)) (k : G T X Q cells slots ws lv tgt st) : G T X Q cells slots ws lv pc st := fun H locs ls hP hD hS hl => lv_goto hX.1 hX.2.1 hdg ht (k H locs ls hP hD hS hl)
theorem g_ifnonnull (hX : Fit T X own nL Ts cc ret R) {x : Nat} {off : Int} (tgt : Nat) (hdg : decode cc pc = .ok (.ifnonnull off, 3)) (ht : (pc : Int) + off = (tgt : Int)) (k : G T X Q cells slots ws lv tgt st) : G T X Q cells slots ws lv pc (.ref x :: st) := fun H locs ls hP hD hS hl => lv_ifnonnull hX.1 hX.2.1 hdg ht (k H locs ls hP hD hS hl)
theorem g_ifnull (hX : Fit T X own nL Ts cc ret R) {x : Nat} {off : Int} (hdg : decode cc pc = .ok (.ifnull off, 3)) (k : G T X Q cells slots ws lv (pc + 3) st) : G T X Q cells slots ws lv pc (.ref x :: st) := fun H locs ls hP hD hS hl => lv_ifnull hX.1 hX.2.1 hdg (k H locs ls hP hD hS hl)
theorem g_tabOut (hX : Fit T X own nL Ts cc ret R) {dflt lo hi : Int} {offs : Array Int} {len : Nat} {x : Int32} (tgt : Nat) (hdg : decode cc pc = .ok (.tableswitch dflt lo hi offs, len)) (h : x.toInt < lo ∨ hi < x.toInt) (ht : (pc : Int) + dflt = (tgt : Int)) (k : G T X Q cells slots ws lv tgt st) : G T X Q cells slots ws lv pc (.int x :: st) := fun H locs ls hP hD hS hl => lv_tableOut hX.1 hX.2.1 hdg h ht (k H locs ls hP hD hS hl)
theorem g_tabIn (hX : Fit T X own nL Ts cc ret R) {dflt lo hi : Int} {offs : Array Int} {len : Nat} {x : Int32} {off : Int} (tgt : Nat) (hdg : decode cc pc = .ok (.tableswitch dflt lo hi offs, len)) (h1 : ¬ x.toInt < lo) (h2 : ¬ hi < x.toInt) (ho : offs[(x.toInt - lo).toNat]? = some off) (ht : (pc : Int) + off = (tgt : Int)) (k : G T X Q cells slots ws lv tgt st) : G T X Q cells slots ws lv pc (.int x :: st) := fun H locs ls hP hD hS hl => lv_tableIn hX.1 hX.2.1 hdg h1 h2 ho ht (k H locs ls hP hD hS hl)
theorem g_tabDef (hX : Fit T X own nL Ts cc ret R) {dflt lo hi : Int} {offs : Array Int} {len : Nat} {x : Int32} (tgt : Nat) (hdg : decode cc pc = .ok (.tableswitch dflt lo hi offs, len)) (h : x.toInt < lo ∨ hi < x.toInt ∨ offs[(x.toInt - lo).toNat]? = some dflt) (ht : (pc : Int) + dflt = (tgt : Int)) (k : G T X Q cells slots ws lv tgt st) : G T X Q cells slots ws lv pc (.int x :: st) := by
  by_cases h1 : x.toInt < lo
  · exact g_tabOut hX tgt hdg (Or.inl h1) ht k
  · by_cases h2 : hi < x.toInt
    · exact g_tabOut hX tgt hdg (Or.inr h2) ht k
    · exact g_tabIn hX tgt hdg h1 h2 (h.elim (fun z => absurd z h1) (fun z => z.elim (fun z => absurd z h2) (fun z => z))) ht k
theorem g_istore_n (hX : Fit T X own nL Ts cc ret R) {n : Fin 4} {i : Nat} {x : Int32} {lv' : List (Nat × Value)} (hdg : decode cc pc = .ok (.istore_n n, 1)) (hi : (n : Nat) = i) (hn : i < nL) (hl' : (i, Value.int x) :: lv.filter (fun q => !(q.1 == i) && !(q.1 + 1 == i && q.2.category == 2)) = lv') (k : G T X Q cells slots ws lv' (pc + 1) st) : G T X Q cells slots ws lv pc (.int x :: st) := fun H locs ls hP hD hS hl => lv_istore_n hX.1 hX.2.1 hdg hi hl (by rw [hX.2.2.1]; exact hn) hl' (fun ls2 hl2 => k H locs ls2 hP hD hS hl2)
theorem g_astore_n (hX : Fit T X own nL Ts cc ret R) {n : Fin 4} {i : Nat} {x : Nat} {lv' : List (Nat × Value)} (hdg : decode cc pc = .ok (.astore_n n, 1)) (hi : (n : Nat) = i) (hn : i < nL) (hl' : (i, Value.ref x) :: lv.filter (fun q => !(q.1 == i) && !(q.1 + 1 == i && q.2.category == 2)) = lv') (k : G T X Q cells slots ws lv' (pc + 1) st) : G T X Q cells slots ws lv pc (.ref x :: st) := fun H locs ls hP hD hS hl => lv_astore_n hX.1 hX.2.1 hdg hi hl (by rw [hX.2.2.1]; exact hn) hl' (fun ls2 hl2 => k H locs ls2 hP hD hS hl2)
theorem g_istore (hX : Fit T X own nL Ts cc ret R) {i : Nat} {x : Int32} {lv' : List (Nat × Value)} (hdg : decode cc pc = .ok (.istore i, 2)) (hn : i < nL) (hl' : (i, Value.int x) :: lv.filter (fun q => !(q.1 == i) && !(q.1 + 1 == i && q.2.category == 2)) = lv') (k : G T X Q cells slots ws lv' (pc + 2) st) : G T X Q cells slots ws lv pc (.int x :: st) := fun H locs ls hP hD hS hl => lv_istore hX.1 hX.2.1 hdg hl (by rw [hX.2.2.1]; exact hn) hl' (fun ls2 hl2 => k H locs ls2 hP hD hS hl2)
theorem g_iinc (hX : Fit T X own nL Ts cc ret R) {i : Nat} (j : Nat) {n : Int} {x v : Int32} {lv' : List (Nat × Value)} (hdg : decode cc pc = .ok (.iinc i n, 3)) (hj : lv[j]? = some (i, .int x)) (hv : x + Int32.ofInt n = v) (hn : i < nL) (hl' : (i, Value.int v) :: lv.filter (fun q => !(q.1 == i) && !(q.1 + 1 == i && q.2.category == 2)) = lv') (k : G T X Q cells slots ws lv' (pc + 3) st) : G T X Q cells slots ws lv pc st := fun H locs ls hP hD hS hl => lv_iinc hX.1 hX.2.1 hdg hl hj hv (by rw [hX.2.2.1]; exact hn) hl' (fun ls2 hl2 => k H locs ls2 hP hD hS hl2)
theorem g_get (hX : Fit T X own nL Ts cc ret R) {C : String} {U : u_T} {N : Nat} (ci : Nat) {index a : Nat} (hin : ∀ w ∈ u_ws C U N, w ∈ Ts) (q0 : Nat) {fs : List Value} (he : ws[q0]? = some (a, .inr (ci, fs))) (hc : vwCl[ci]? = some (C, U, N)) (f : Nat) (hf : f < N) (hlink : Cond.fieldLink own index C (U f).2.1 (U f).2.2.1 ∈ Ts) (hown : (U f).1 = C) {v : Value} (hv : fs[f]? = some v) (hdg : decode cc pc = .ok (.getfield index, 3)) (k : G T X Q cells slots ws lv (pc + 3) (v :: st)) : G T X Q cells slots ws lv pc (.ref a :: st) := fun H locs ls hP hD hS hl => va_get (D := T.1) hX.1 hX.2.1 hX.2.2.2.2.1 hin hX.2.2.2.1 hX.2.2.2.2.2.1 hP q0 he hc f hf (hX.2.2.2.2.1 _ hlink) (fun _ h9 => by rw [hown] at h9; exact h9) hv hdg (k H locs ls hP hD hS hl)
theorem g_getN (hX : Fit T X own nL Ts cc ret R) {C : String} {U : u_T} {N : Nat} (ci : Nat) {index a : Nat} (hin : ∀ w ∈ u_ws C U N, w ∈ Ts) (q0 : Nat) {fs : List Value} (he : ws[q0]? = some (a, .inr (ci, fs))) (hc : vwCl[ci]? = some (C, U, N)) (f : Nat) (hf : f < N) (nk : Nat) {host : String} (hlink : nws[nk]? = some (Cond.fieldLinkNest own index C (U f).2.1 (U f).2.2.1 host)) (hown : (U f).1 = C) {v : Value} (hv : fs[f]? = some v) (hdg : decode cc pc = .ok (.getfield index, 3)) (k : G T X Q cells slots ws lv (pc + 3) (v :: st)) : G T X Q cells slots ws lv pc (.ref a :: st) := fun H locs ls hP hD hS hl => va_getN (D := T.1) hX.1 hX.2.1 hX.2.2.2.2.1 hin hX.2.2.2.1 hX.2.2.2.2.2.1 hP q0 he hc f hf (va_Nw.use rfl (hX.2.2.2.2.2.2.2.2.1.1 _ (List.mem_of_getElem? hlink))) (fun _ h9 => by rw [hown] at h9; exact h9) hv hdg (k H locs ls hP hD hS hl)
theorem g_put (hX : Fit T X own nL Ts cc ret R) {C : String} {U : u_T} {N : Nat} (ci : Nat) {index a : Nat} (hin : ∀ w ∈ u_ws C U N, w ∈ Ts) (q0 : Nat) {fs : List Value} (he : ws[q0]? = some (a, .inr (ci, fs))) (hc : vwCl[ci]? = some (C, U, N)) (f : Nat) (hf : f < N) (ty0 : Nat → FieldType) (hty : ∀ k, k < N → parseFieldDescriptor (U k).2.2.1 = some (ty0 k)) (hnm : ∀ a, a < N → ∀ b, b < N → a ≠ b → (U a).2.1 ≠ (U b).2.1) (hlink : Cond.fieldLink own index C (U f).2.1 (U f).2.2.1 ∈ Ts) (hown : (U f).1 = C) (hfin : (U f).2.2.2 = false) {ty : FieldType} {v : Value} (hd : ty0 f = ty) (hn : narrow ty v = v) (hfit : fits ty v = true) (hlen : f < fs.length) (hdg : decode cc pc = .ok (.putfield index, 3)) {ws' : va_W} (hw : ws.set q0 (a, .inr (ci, fs.set f v)) = ws') (k : G T X Q cells slots ws' lv (pc + 3) st) : G T X Q cells slots ws lv pc (v :: .ref a :: st) := by
  subst hw
  exact fun H locs ls hP hD hS hl => va_put (D := T.1) hX.1 hX.2.1 hX.2.2.2.2.1 hin ty0 hty hnm hX.2.2.2.1 hX.2.2.2.2.2.1 hP hD hS q0 he hc f hf (hX.2.2.2.2.1 _ hlink) (fun _ h9 => by rw [hown] at h9; exact h9) hfin (by rw [hty f hf, hd]) hn hfit hlen hdg (fun H1 locs1 hP1 hD1 hS1 => k H1 locs1 ls hP1 hD1 hS1 hl)
theorem g_putF (hX : Fit T X own nL Ts cc ret R) {C : String} {U : u_T} {N : Nat} (ci : Nat) {index a : Nat} (hin : ∀ w ∈ u_ws C U N, w ∈ Ts) (q0 : Nat) {fs : List Value} (he : ws[q0]? = some (a, .inr (ci, fs))) (hc : vwCl[ci]? = some (C, U, N)) (f : Nat) (hf : f < N) (ty0 : Nat → FieldType) (hty : ∀ k, k < N → parseFieldDescriptor (U k).2.2.1 = some (ty0 k)) (hnm : ∀ a, a < N → ∀ b, b < N → a ≠ b → (U a).2.1 ≠ (U b).2.1) (hlink : Cond.fieldLink own index C (U f).2.1 (U f).2.2.1 ∈ Ts) (hown : (U f).1 = C) (hfin : (U f).2.2.2 = true) (hinit : (xMe X).name = "<init>") (hdecl : C = own) {ty : FieldType} {v : Value} (hd : ty0 f = ty) (hn : narrow ty v = v) (hfit : fits ty v = true) (hlen : f < fs.length) (hdg : decode cc pc = .ok (.putfield index, 3)) {ws' : va_W} (hw : ws.set q0 (a, .inr (ci, fs.set f v)) = ws') (k : G T X Q cells slots ws' lv (pc + 3) st) : G T X Q cells slots ws lv pc (v :: .ref a :: st) := by
  subst hw
  exact fun H locs ls hP hD hS hl => va_putF (D := T.1) hX.1 hX.2.1 hX.2.2.2.2.1 hin ty0 hty hnm hX.2.2.2.1 hX.2.2.2.2.2.1 hP hD hS q0 he hc f hf (hX.2.2.2.2.1 _ hlink) (fun _ h9 => by rw [hown] at h9; exact h9) hfin hinit (by rw [hown]; exact hdecl) (by rw [hty f hf, hd]) hn hfit hlen hdg (fun H1 locs1 hP1 hD1 hS1 => k H1 locs1 ls hP1 hD1 hS1 hl)
theorem g_iald (hX : Fit T X own nL Ts cc ret R) (q0 : Nat) {a n : Nat} {f : Nat → Int32} (ha : ws[q0]? = some (a, .inl (T.2.1, n, .inl f))) {i : Int32} (hin : vp_in i n) {v : Int32} (hv : f i.toNatClampNeg = v) (hdg : decode cc pc = .ok (.iaload, 1)) (k : G T X Q cells slots ws lv (pc + 1) (.int v :: st)) : G T X Q cells slots ws lv pc (.int i :: .ref a :: st) := fun H locs ls hP hD hS hl => va_iald (D := T.1) hX.1 hX.2.1 hX.2.2.2.2.2.1 hP q0 0 ha rfl hin hdg (by rw [hv]; exact k H locs ls hP hD hS hl)
theorem g_cald (hX : Fit T X own nL Ts cc ret R) (q0 : Nat) {a n : Nat} {f : Nat → Int32} (ha : ws[q0]? = some (a, .inl (T.2.2.1, n, .inl f))) {i : Int32} (hin : vp_in i n) {v : Int32} (hv : f i.toNatClampNeg = v) (hdg : decode cc pc = .ok (.caload, 1)) (k : G T X Q cells slots ws lv (pc + 1) (.int v :: st)) : G T X Q cells slots ws lv pc (.int i :: .ref a :: st) := fun H locs ls hP hD hS hl => va_cald (D := T.1) hX.1 hX.2.1 hX.2.2.2.2.2.1 hP q0 1 ha rfl hin hdg (by rw [hv]; exact k H locs ls hP hD hS hl)
theorem g_iast (hX : Fit T X own nL Ts cc ret R) (q0 : Nat) {a n : Nat} {f : Nat → Int32} (ha : ws[q0]? = some (a, .inl (T.2.1, n, .inl f))) {i x : Int32} (hin : vp_in i n) (hdg : decode cc pc = .ok (.iastore, 1)) {ws' : va_W} (hw : ws.set q0 (a, .inl (T.2.1, n, .inl (upd f i.toNatClampNeg x))) = ws') (k : G T X Q cells slots ws' lv (pc + 1) st) : G T X Q cells slots ws lv pc (.int x :: .int i :: .ref a :: st) := by
  subst hw
  exact fun H locs ls hP hD hS hl => va_iast (D := T.1) hX.1 hX.2.1 hX.2.2.2.2.2.1 hP hD hS q0 0 ha rfl hin hdg (fun H1 locs1 hP1 hD1 hS1 => k H1 locs1 ls hP1 hD1 hS1 hl)
theorem g_cast_ (hX : Fit T X own nL Ts cc ret R) (q0 : Nat) {a n : Nat} {f : Nat → Int32} (ha : ws[q0]? = some (a, .inl (T.2.2.1, n, .inl f))) {i x : Int32} (hin : vp_in i n) (hdg : decode cc pc = .ok (.castore, 1)) {ws' : va_W} (hw : ws.set q0 (a, .inl (T.2.2.1, n, .inl (upd f i.toNatClampNeg (vp_nar .char x)))) = ws') (k : G T X Q cells slots ws' lv (pc + 1) st) : G T X Q cells slots ws lv pc (.int x :: .int i :: .ref a :: st) := by
  subst hw
  exact fun H locs ls hP hD hS hl => va_cast (D := T.1) hX.1 hX.2.1 hX.2.2.2.2.2.1 hP hD hS q0 1 ha rfl hin hdg (fun H1 locs1 hP1 hD1 hS1 => k H1 locs1 ls hP1 hD1 hS1 hl)
theorem g_alen (hX : Fit T X own nL Ts cc ret R) (q0 t0 : Nat) {a : Nat} {cA : ClassId} {x : vp_A} (ha : ws[q0]? = some (a, .inl (cA, x))) {ty : FieldType} (ht : (tys T)[t0]? = some (cA, ty)) {v : Int32} (hv : Int32.ofNat x.1 = v) (hdg : decode cc pc = .ok (.arraylength, 1)) (k : G T X Q cells slots ws lv (pc + 1) (.int v :: st)) : G T X Q cells slots ws lv pc (.ref a :: st) := fun H locs ls hP hD hS hl => va_alen (D := T.1) hX.1 hX.2.1 hX.2.2.2.2.2.1 hP q0 t0 ha ht hv hdg (k H locs ls hP hD hS hl)
theorem g_aald (hX : Fit T X own nL Ts cc ret R) (q0 : Nat) {a n : Nat} {f : Nat → Option Nat} (ha : ws[q0]? = some (a, .inl (T.2.2.2, n, .inr (.inr (.inr (.inr f)))))) {i : Int32} (hin : vp_in i n) {v : Nat} (hv : f i.toNatClampNeg = some v) (hdg : decode cc pc = .ok (.aaload, 1)) (k : G T X Q cells slots ws lv (pc + 1) (.ref v :: st)) : G T X Q cells slots ws lv pc (.int i :: .ref a :: st) := fun H locs ls hP hD hS hl => va_aldq (D := T.1) hX.1 hX.2.1 hX.2.2.2.2.2.1 hP q0 2 ha rfl hin hdg (by rw [hv]; exact k H locs ls hP hD hS hl)
theorem vp_cell_congr {cA : ClassId} {n : Nat} {f g : Nat → Int32} (h : ∀ j, j < n → f j = g j) : vp_cell cA (n, .inl f) = vp_cell cA (n, .inl g) := by
  show arrV cA n (fun j => .int (f j)) = arrV cA n (fun j => .int (g j))
  unfold arrV
  congr 1
  congr 1
  funext j
  show Value.int (f j.val) = Value.int (g j.val)
  rw [h j.val j.isLt]
theorem g_same (q0 : Nat) {a n : Nat} {cA : ClassId} {f : Nat → Int32} (g : Nat → Int32) (ha : ws[q0]? = some (a, .inl (cA, n, .inl f))) (h : ∀ j, j < n → f j = g j) {ws' : va_W} (hw : ws.set q0 (a, .inl (cA, n, .inl g)) = ws') (k : G T X Q cells slots ws' lv pc st) : G T X Q cells slots ws lv pc st := by
  subst hw
  intro H locs ls hP hD hS hl
  refine k H locs ls ?_ (hD.set ha) hS hl
  exact hP.set hD ha (show H[a]? = some (vp_cell cA (n, .inl g)) from by rw [← vp_cell_congr h]; exact hP q0 _ ha) (fun q _ => rfl)
theorem g_tab (hX : Fit T X own nL Ts cc ret R) {index N : Nat} {n : String} {f : Nat → Value} (hT : sTab n N f (xB X) (xS X)) (hlink : Cond.fieldLink own index RX4 n "[I" ∈ Ts) (hdg : decode cc pc = .ok (.getstatic index, 3)) (k : ∀ t : Nat, va_T .int t N f (xA X) (xS X) (xS X).heap → G T X Q cells slots ws lv (pc + 3) (.ref t :: st)) : G T X Q cells slots ws lv pc st := by
  obtain ⟨t, h1, h2⟩ := hT
  intro H locs ls hP hD hS hl
  have hAB := hX.2.2.2.2.2.2.2.2.2.1
  exact va_gets hX.1 hX.2.1 (h1.narrow hAB) hS hX.2.2.2.1 (hX.2.2.2.2.1 _ hlink) (fun _ h9 => h9) hdg (k t (h2.narrow hAB) H locs ls hP hD hS hl)
theorem g_tlen (hX : Fit T X own nL Ts cc ret R) {t N : Nat} {f : Nat → Value} (hT : va_T .int t N f (xA X) (xS X) (xS X).heap) {v : Int32} (hv : Int32.ofNat N = v) (hdg : decode cc pc = .ok (.arraylength, 1)) (k : G T X Q cells slots ws lv (pc + 1) (.int v :: st)) : G T X Q cells slots ws lv pc (.ref t :: st) := fun H locs ls hP hD hS hl => va_tlen hX.1 hX.2.1 hT hS hv hdg (k H locs ls hP hD hS hl)
theorem g_tld (hX : Fit T X own nL Ts cc ret R) {t N : Nat} {f : Nat → Value} (hT : va_T .int t N f (xA X) (xS X) (xS X).heap) {i : Int32} (hin : vp_in i N) {v : Value} (hv : f i.toNatClampNeg = v) (hdg : decode cc pc = .ok (.iaload, 1)) (k : G T X Q cells slots ws lv (pc + 1) (v :: st)) : G T X Q cells slots ws lv pc (.int i :: .ref t :: st) := fun H locs ls hP hD hS hl => va_ti hX.1 hX.2.1 hT hS hin hv hdg (k H locs ls hP hD hS hl)
theorem g_mmax (hX : Fit T X own nL Ts cc ret R) {index : Nat} {x y : Int32} (hlink : Cond.methodLink own index Lib.Math.max.name ∈ Ts) (hstat : Cond.static Lib.Math.max.name ∈ Ts) (hini : Cond.initialized "java/lang/Math" ∈ Ts) (hcode : Cond.code Lib.Math.max.name Lib.Math.max.code 2 (some .int) ∈ Ts) (hfr : 1 ≤ R.frames) (hlo : (st.map fun v => v.category).sum + 13 ≤ R.locals) (hc : cells ≤ R.cells) (hs : slots ≤ R.slots) (hdg : decode cc pc = .ok (.invokestatic index, 3)) (k : G T X Q cells slots ws lv (pc + 3) (.int (if x < y then y else x) :: st)) : G T X Q cells slots ws lv pc (.int y :: .int x :: st) := fun H locs ls hP hD hS hl => va_mmax hX.1 hX.2.1 (by rw [hl.1]) hX.2.2.2.1 (hX.2.2.2.2.1 _ hlink) (hX.2.2.2.2.1 _ hstat) (hX.2.2.2.2.1 _ hini) (hX.2.2.2.2.1 _ hcode) (by rw [hX.2.2.2.2.2.2.2.2.2.2.2]; exact hfr) (by rw [hX.2.2.2.2.2.2.2.2.2.2.2]; exact hlo) (by rw [hX.2.2.2.2.2.2.2.2.2.2.2]; exact hc) (by rw [hX.2.2.2.2.2.2.2.2.2.2.2]; exact hs) hdg (k H locs ls hP hD hS hl)
theorem g_mmin (hX : Fit T X own nL Ts cc ret R) {index : Nat} {x y : Int32} (hlink : Cond.methodLink own index Lib.Math.min.name ∈ Ts) (hstat : Cond.static Lib.Math.min.name ∈ Ts) (hini : Cond.initialized "java/lang/Math" ∈ Ts) (hcode : Cond.code Lib.Math.min.name Lib.Math.min.code 2 (some .int) ∈ Ts) (hfr : 1 ≤ R.frames) (hlo : (st.map fun v => v.category).sum + 13 ≤ R.locals) (hc : cells ≤ R.cells) (hs : slots ≤ R.slots) (hdg : decode cc pc = .ok (.invokestatic index, 3)) (k : G T X Q cells slots ws lv (pc + 3) (.int (if y < x then y else x) :: st)) : G T X Q cells slots ws lv pc (.int y :: .int x :: st) := fun H locs ls hP hD hS hl => va_mmin hX.1 hX.2.1 (by rw [hl.1]) hX.2.2.2.1 (hX.2.2.2.2.1 _ hlink) (hX.2.2.2.2.1 _ hstat) (hX.2.2.2.2.1 _ hini) (hX.2.2.2.2.1 _ hcode) (by rw [hX.2.2.2.2.2.2.2.2.2.2.2]; exact hfr) (by rw [hX.2.2.2.2.2.2.2.2.2.2.2]; exact hlo) (by rw [hX.2.2.2.2.2.2.2.2.2.2.2]; exact hc) (by rw [hX.2.2.2.2.2.2.2.2.2.2.2]; exact hs) hdg (k H locs ls hP hD hS hl)
theorem g_mabs (hX : Fit T X own nL Ts cc ret R) {index : Nat} {x : Int32} (hlink : Cond.methodLink own index Lib.Math.abs.name ∈ Ts) (hstat : Cond.static Lib.Math.abs.name ∈ Ts) (hini : Cond.initialized "java/lang/Math" ∈ Ts) (hcode : Cond.code Lib.Math.abs.name Lib.Math.abs.code 1 (some .int) ∈ Ts) (hfr : 1 ≤ R.frames) (hlo : (st.map fun v => v.category).sum + 13 ≤ R.locals) (hc : cells ≤ R.cells) (hs : slots ≤ R.slots) (hdg : decode cc pc = .ok (.invokestatic index, 3)) (k : G T X Q cells slots ws lv (pc + 3) (.int (if 0 ≤ x then x else 0 - x) :: st)) : G T X Q cells slots ws lv pc (.int x :: st) := fun H locs ls hP hD hS hl => va_mabs hX.1 hX.2.1 (by rw [hl.1]) hX.2.2.2.1 (hX.2.2.2.2.1 _ hlink) (hX.2.2.2.2.1 _ hstat) (hX.2.2.2.2.1 _ hini) (hX.2.2.2.2.1 _ hcode) (by rw [hX.2.2.2.2.2.2.2.2.2.2.2]; exact hfr) (by rw [hX.2.2.2.2.2.2.2.2.2.2.2]; exact hlo) (by rw [hX.2.2.2.2.2.2.2.2.2.2.2]; exact hc) (by rw [hX.2.2.2.2.2.2.2.2.2.2.2]; exact hs) hdg (k H locs ls hP hD hS hl)
theorem g_copyi (hX : Fit T X own nL Ts cc ret R) {index : Nat} (hlink : Cond.methodLink own index arraycopyName ∈ Ts) (hnat : Cond.native arraycopyName ∈ Ts) (hstat : Cond.static arraycopyName ∈ Ts) (hini : Cond.initialized "java/lang/System" ∈ Ts) (q0 q1 : Nat) {a0 a1 n0 : Nat} {f g : Nat → Int32} (ha0 : ws[q0]? = some (a0, .inl (T.2.1, n0, .inl f))) (ha1 : ws[q1]? = some (a1, .inl (T.2.1, n0, .inl g))) {n : Int32} (hn : ¬ n < 0) (hn0 : n.toNatClampNeg = n0) (hfr : 1 ≤ R.frames) (hlo : (st.map fun v => v.category).sum + (nativeFrameWords "java/lang/System" "arraycopy" 5 + 11) ≤ R.locals) (hdg : decode cc pc = .ok (.invokestatic index, 3)) {ws' : va_W} (hw : ws.set q1 (a1, .inl (T.2.1, n0, .inl f)) = ws') (k : G T X Q cells slots ws' lv (pc + 3) st) : G T X Q cells slots ws lv pc (.int n :: .int 0 :: .ref a1 :: .int 0 :: .ref a0 :: st) := by
  subst hw
  intro H locs ls hP hD hS hl
  refine va_copyi (D := T.1) hX.1 hX.2.1 (by rw [hl.1]) hX.2.2.2.1 (hX.2.2.2.2.1 _ hlink) (hX.2.2.2.2.1 _ hnat) (hX.2.2.2.2.1 _ hstat) (hX.2.2.2.2.1 _ hini) hX.2.2.2.2.2.1 hP hD hS q0 q1 0 0 ha0 ha1 rfl rfl rfl (by decide) (by decide) hn (by rw [hn0]; exact Nat.le_of_eq (Nat.zero_add _)) (by rw [hn0]; exact Nat.le_of_eq (Nat.zero_add _)) (fun _ _ => rfl) (by rw [hX.2.2.2.2.2.2.2.2.2.2.2]; exact hfr) (by rw [hX.2.2.2.2.2.2.2.2.2.2.2]; exact hlo) hdg (fun H1 locs1 hP1 hD1 hS1 => ?_)
  refine k H1 locs1 ls ?_ (hD.set ha1) hS1 hl
  have e : vp_cell T.2.1 (n0, .inl (va_cpy f g (Int32.toNatClampNeg 0) (Int32.toNatClampNeg 0) n.toNatClampNeg)) = vp_cell T.2.1 (n0, .inl f) := vp_cell_congr (fun j hj => by
    show (if _ then _ else _) = _
    rw [hn0, if_pos (by simpa using hj)]
    simp)
  have hl1 := (List.getElem?_eq_some_iff.mp ha1).1
  intro j q hq
  by_cases hj : j = q1
  · subst hj
    rw [List.getElem?_set_self hl1] at hq
    cases hq
    have := hP1 j _ (List.getElem?_set_self hl1)
    show H1[a1]? = some (vp_cell T.2.1 (n0, .inl f))
    rw [← e]
    exact this
  · refine hP1 j q ?_
    rw [List.getElem?_set_ne (Ne.symm hj)] at hq ⊢
    exact hq
end GR
end
section
theorem EnvOk.calling {T : TT} {b0 : Nat} {U : State} (g : JFrame) (mk : MethodId) (a : Array Value) (h : EnvOk T b0 U) : EnvOk T b0 (U.calling g mk a) := by
  obtain ⟨h1, ⟨t2, a2, b2⟩, ⟨t3, a3, b3⟩, t4, a4, b4, c4⟩ := h
  have hk : ∀ w ∈ nws, w.onTables = true := fun w hw => by
    have h0 := List.all_eq_true.mp nws_all w hw
    cases w <;> first | rfl | (exact absurd h0 (by decide)) | (simp [nK] at h0)
  have ha : U.vm.Alike (U.calling g mk a).vm := Vm.Alike.refl U.vm
  exact ⟨fun w hw => va_Nw.same (u := U) (U := U.calling g mk a) (hk w hw) rfl (h1 w hw), ⟨t2, a2.moved ha, b2.moved ha⟩, ⟨t3, a3.moved ha, b3.moved ha⟩, t4, a4.moved ha, b4, c4.1, va_Nw.same (u := U) (U := U.calling g mk a) rfl rfl c4.2.1, c4.2.2.moved ha⟩
theorem PreC_blind {T : TT} {b0 : Nat} {av : List Value} {w0 : va_W} {sz : Nat} : FrameBlind (PreC T b0 av w0 sz) := fun a U g mk q => by
  obtain ⟨q0, q1, q2, q3, q4, q5⟩ := q
  exact ⟨q0, q1, q2, va_K.moved (u := U) (U := U.calling g mk a) (Vm.Alike.refl U.vm) q3, q4, q5.calling g mk a⟩
theorem fit_body {l : Launch} {T : TT} {b0 : Nat} {y : MethodName} {wds wds' : List Cond} {rm : Room} {av : List Value} {w0 : va_W} {cc : ByteArray} {maxL : Nat} {ret : Option FieldType} {lv0 : List (Nat × Value)} {Qc : Array Value → State → Outcome → State → Prop} {mc ms sz : Nat} (hy : plainName y.cls = true) (hw : wds = .code y cc maxL ret :: wds') (hav : (lg_sl av).length ≤ maxL) (hlv : lv_args 0 av = lv0) (hsz : b0 ≤ sz)
    (body : ∀ X : CX, Fit T X y.cls maxL wds cc ret rm → xL X = l → xB X = b0 → (xMe X).name = y.name → xA X = va_A w0 sz → (xS X).heap.size = sz → G T X (MQ (xBl X) Qc (xAr X) (xS X) mc ms (xA X)) 0 0 w0 lv0 0 []) : Met l y wds rm (PreC T b0 av w0 sz) Qc mc ms (va_A w0 sz) := by
  refine Met.ofW (cc := cc) (maxL := maxL) (ret := ret) hy hw ?_
  intro p e s m args below meth c s₁ B hml hv
  obtain ⟨rfl, hs, hP, hK, hD, hE⟩ := hv
  have hts := atoms_spec (ws := wds) B.pre
  have hown : s.vm.findClass y.cls = some m.cls := findClass_of_methodNamed B.named
  subst hs
  have hD1 : va_D (va_A w0 s.heap.size) w0 := hD.self
  have hAB : ∀ q, va_A w0 s.heap.size q → b0 ≤ q := fun q h => by
    rcases h with ⟨k, e, h⟩ | h
    · exact hD.2 k _ h
    · omega
  have hX : Fit T ((p, l, e, rm, s), (m, av.toArray, below, meth, c), (va_A w0 s.heap.size, b0)) y.cls maxL wds cc ret rm := ⟨B.exec, B.bytes, hml, hown, hts, hK, fun q h => Or.inr h, B.notSynchronized, hE, hAB, B.returns, rfl⟩
  have hl := lv_entry av (n := maxL) hav
  have k := body _ hX rfl rfl (name_of_methodNamed B.named B.method).1 rfl rfl s.heap [] _ hP hD1 va_S.rf (by show lv_has _ c.maxLocals lv0; rw [hml, ← hlv]; exact hl)
  rw [lg_entry_eq]
  exact k
theorem conI_of {l : Launch} {T : TT} {b0 : Nat} {y : MethodName} {wds wds' : List Cond} {rm : Room} {av : List Value} {w0 w1 : va_W} {rv : Int32} {cc : ByteArray} {maxL : Nat} {ret : Option FieldType} {lv0 : List (Nat × Value)} (hy : plainName y.cls = true) (hw : wds = .code y cc maxL ret :: wds') (hav : (lg_sl av).length ≤ maxL) (hlv : lv_args 0 av = lv0)
    (body : ∀ X : CX, Fit T X y.cls maxL wds cc ret rm → G T X (QI T X 0 0 rv w1) 0 0 w0 lv0 0 []) : ConI l T b0 y wds rm av w0 rv w1 := fun sz hsz =>
  fit_body hy hw hav hlv hsz (fun X hX hl hB hn hA hs => by
    have k := body X hX
    unfold QI at k
    rw [hA] at k ⊢
    exact k)
theorem conV_of {l : Launch} {T : TT} {b0 : Nat} {y : MethodName} {wds wds' : List Cond} {rm : Room} {av : List Value} {w0 w1 : va_W} {cc : ByteArray} {maxL : Nat} {ret : Option FieldType} {lv0 : List (Nat × Value)} (hy : plainName y.cls = true) (hw : wds = .code y cc maxL ret :: wds') (hav : (lg_sl av).length ≤ maxL) (hlv : lv_args 0 av = lv0)
    (body : ∀ X : CX, Fit T X y.cls maxL wds cc ret rm → G T X (QV T X 0 0 w1) 0 0 w0 lv0 0 []) : ConV l T b0 y wds rm av w0 w1 := fun sz hsz =>
  fit_body hy hw hav hlv hsz (fun X hX hl hB hn hA hs => by
    have k := body X hX
    unfold QV at k
    rw [hA] at k ⊢
    exact k)
section GC
variable {T : TT} {X : CX} {own : String} {nL : Nat} {Ts : List Cond} {cc : ByteArray} {ret : Option FieldType} {R : Room} {Q : State → Prop} {cells slots : Nat} {ws w1 : va_W} {lv : List (Nat × Value)} {pc : Nat} {st : List Value} {x rv : Int32}
theorem g_iret (hX : Fit T X own nL Ts cc (some .int) R) (hdg : decode cc pc = .ok (.ireturn, 1)) (hr : x = rv) (hw : ws = w1) : G T X (QI T X cells slots rv w1) cells slots ws lv pc [.int x] := by
  subst hw
  subst hr
  intro H locs ls hP hD hS hl
  exact W.iret hX.1 hX.2.1 hX.2.2.2.2.2.2.2.2.2.2.1 (fun t ht hW => ⟨⟨x, ws, rfl, ⟨rfl, rfl⟩, by rw [ht]; exact hP, hD⟩, hS.F ht⟩) hS.2.2 hdg (hlocks := hX.2.2.2.2.2.2.2.1)
theorem g_zret (hX : Fit T X own nL Ts cc (some .boolean) R) (hdg : decode cc pc = .ok (.ireturn, 1)) (hn : narrow .boolean (.int x) = .int x) (hr : x = rv) (hw : ws = w1) : G T X (QI T X cells slots rv w1) cells slots ws lv pc [.int x] := by
  subst hw
  subst hr
  intro H locs ls hP hD hS hl
  exact W.zret hX.1 hX.2.1 hX.2.2.2.2.2.2.2.2.2.2.1 hn (fun t ht hW => ⟨⟨x, ws, rfl, ⟨rfl, rfl⟩, by rw [ht]; exact hP, hD⟩, hS.F ht⟩) hS.2.2 hdg (hlocks := hX.2.2.2.2.2.2.2.1)
theorem g_vret (hX : Fit T X own nL Ts cc none R) (hdg : decode cc pc = .ok (.return_, 1)) (hw : ws = w1) : G T X (QV T X cells slots w1) cells slots ws lv pc [] := by
  subst hw
  intro H locs ls hP hD hS hl
  exact W.vret hX.1 hX.2.1 hX.2.2.2.2.2.2.2.2.2.2.1 (fun t ht hW => ⟨⟨ws, rfl, rfl, by rw [ht]; exact hP, hD⟩, hS.F ht⟩) hS.2.2 hdg (hlocks := hX.2.2.2.2.2.2.2.1)
theorem fit_low (hX : Fit T X own nL Ts cc ret R) {H : Heap} {locs : List Loc} (hS : va_S (xA X) (xS X).heap H locs) : xB X ≤ H.size := hX.2.2.2.2.2.2.2.2.2.1 _ (hX.2.2.2.2.2.2.1 _ hS.1)
theorem g_cV_I (hX : Fit T X own nL Ts cc ret R) {y : MethodName} {bytes : ByteArray} {maxL n index : Nat} {ret' : Option FieldType} {wds wds' : List Cond} {rm : Room} {As : List Value} {wc ws' : va_W} {stk : List Value} {b ci : Nat} {fs : List Value} {U : u_T} {N : Nat} (q0 : Nat) (hrec : ws[q0]? = some (b, .inr (ci, fs))) (hc : vwCl[ci]? = some (y.cls, U, N)) (hM : ConI (xL X) T (xB X) y wds rm (.ref b :: As) wc rv w1) (hG : GoodIn Ts (wsV own index y.cls y wds)) (hw : wds = Cond.code y bytes maxL ret' :: wds') (hrc : rm.cells = 0) (hrs : rm.slots = 0) (hR : rm.frames + 1 ≤ R.frames ∧ 8 + (maxL + 11) + rm.locals ≤ R.locals) (hcs : cells ≤ R.cells ∧ slots ≤ R.slots) (hd : y.cls ≠ "java/lang/invoke/MethodHandle" ∧ y.cls ≠ "java/lang/invoke/VarHandle" ∧ (parseMethodDescriptor y.desc).map (fun d => d.parameters.length) = some n) (hlen : As.length = n) (is : List Nat) (hC : is.map (fun i => ws[i]?) = wc.map some) (hA : w1.map (fun q => q.1) = wc.map (fun q => q.1)) (hn : va_nd is = true) (hstk : stk = As.reverse ++ .ref b :: st) (hcat : (st.map fun v => v.category).sum ≤ 8) (hdg : decode cc pc = .ok (.invokevirtual index, 3)) (hws : wput ws is w1 = ws') (k : G T X Q cells slots ws' lv (pc + 3) (.int rv :: st)) : G T X Q cells slots ws lv pc stk := by
  subst hws
  intro H locs ls hP hD hS hl
  have hPc := va_sub hP is hC
  have hDc : va_D (xA X) wc := hD.sub is hn hC
  have hFc := va_free (wc := wc) hD hS hX.2.2.2.2.2.2.1 is hC
  have hR' : rm.frames + 1 ≤ (xR X).frames ∧ 8 + (maxL + 11) + rm.locals ≤ (xR X).locals := by rw [hX.2.2.2.2.2.2.2.2.2.2.2]; exact hR
  have hcs' : cells + 0 ≤ (xR X).cells ∧ slots + 0 ≤ (xR X).slots := by rw [hX.2.2.2.2.2.2.2.2.2.2.2]; exact hcs
  refine va_calli (va_runV (As := As) (rest := st) ⟨hX.1, hX.2.1, rfl, hX.2.2.2.1, hX.2.2.2.2.1⟩ (hM H.size (fit_low hX hS)) (cwV n hX.2.2.2.2.1 hG hw hrc hrs ⟨rfl, hd⟩ hR') ⟨PreC_blind, va_recv hX.2.2.2.2.2.1 hP hc hrec, fun U hU hW => ⟨rfl, by rw [hU], by rw [hU]; exact hPc, va_K.moved hW.alike hX.2.2.2.2.2.1, hDc.weaken (fun _ q _ h => hX.2.2.2.2.2.2.2.2.2.1 _ h), hX.2.2.2.2.2.2.2.2.1.moved hS hX.2.2.2.2.2.2.2.2.2.1 hW hU⟩⟩ rfl hlen hl.1 hstk (lv_room hcat) hdg hcs') hS (fun q _ h => hFc q h) hFc (fun r u t H1 locs1 ht hvm hw2 hB hz1 hk1 hS1 => ?_)
  obtain ⟨rfl, rfl⟩ := hw2
  obtain ⟨hP1, hD1⟩ := hB
  rw [ht] at hP1
  obtain ⟨hP2, hD2⟩ := va_back hP hD is hC hA hn hk1 hP1
  exact k H1 locs1 ls hP2 hD2 hS1 hl
theorem g_cV_V (hX : Fit T X own nL Ts cc ret R) {y : MethodName} {bytes : ByteArray} {maxL n index : Nat} {ret' : Option FieldType} {wds wds' : List Cond} {rm : Room} {As : List Value} {wc ws' : va_W} {stk : List Value} {b ci : Nat} {fs : List Value} {U : u_T} {N : Nat} (q0 : Nat) (hrec : ws[q0]? = some (b, .inr (ci, fs))) (hc : vwCl[ci]? = some (y.cls, U, N)) (hM : ConV (xL X) T (xB X) y wds rm (.ref b :: As) wc w1) (hG : GoodIn Ts (wsV own index y.cls y wds)) (hw : wds = Cond.code y bytes maxL ret' :: wds') (hrc : rm.cells = 0) (hrs : rm.slots = 0) (hR : rm.frames + 1 ≤ R.frames ∧ 8 + (maxL + 11) + rm.locals ≤ R.locals) (hcs : cells ≤ R.cells ∧ slots ≤ R.slots) (hd : y.cls ≠ "java/lang/invoke/MethodHandle" ∧ y.cls ≠ "java/lang/invoke/VarHandle" ∧ (parseMethodDescriptor y.desc).map (fun d => d.parameters.length) = some n) (hlen : As.length = n) (is : List Nat) (hC : is.map (fun i => ws[i]?) = wc.map some) (hA : w1.map (fun q => q.1) = wc.map (fun q => q.1)) (hn : va_nd is = true) (hstk : stk = As.reverse ++ .ref b :: st) (hcat : (st.map fun v => v.category).sum ≤ 8) (hdg : decode cc pc = .ok (.invokevirtual index, 3)) (hws : wput ws is w1 = ws') (k : G T X Q cells slots ws' lv (pc + 3) st) : G T X Q cells slots ws lv pc stk := by
  subst hws
  intro H locs ls hP hD hS hl
  have hPc := va_sub hP is hC
  have hDc : va_D (xA X) wc := hD.sub is hn hC
  have hFc := va_free (wc := wc) hD hS hX.2.2.2.2.2.2.1 is hC
  have hR' : rm.frames + 1 ≤ (xR X).frames ∧ 8 + (maxL + 11) + rm.locals ≤ (xR X).locals := by rw [hX.2.2.2.2.2.2.2.2.2.2.2]; exact hR
  have hcs' : cells + 0 ≤ (xR X).cells ∧ slots + 0 ≤ (xR X).slots := by rw [hX.2.2.2.2.2.2.2.2.2.2.2]; exact hcs
  refine va_callv (va_runV (As := As) (rest := st) ⟨hX.1, hX.2.1, rfl, hX.2.2.2.1, hX.2.2.2.2.1⟩ (hM H.size (fit_low hX hS)) (cwV n hX.2.2.2.2.1 hG hw hrc hrs ⟨rfl, hd⟩ hR') ⟨PreC_blind, va_recv hX.2.2.2.2.2.1 hP hc hrec, fun U hU hW => ⟨rfl, by rw [hU], by rw [hU]; exact hPc, va_K.moved hW.alike hX.2.2.2.2.2.1, hDc.weaken (fun _ q _ h => hX.2.2.2.2.2.2.2.2.2.1 _ h), hX.2.2.2.2.2.2.2.2.1.moved hS hX.2.2.2.2.2.2.2.2.2.1 hW hU⟩⟩ rfl hlen hl.1 hstk (lv_room hcat) hdg hcs') hS (fun q _ h => hFc q h) hFc (fun u t H1 locs1 ht hvm hw2 hB hz1 hk1 hS1 => ?_)
  subst hw2
  obtain ⟨hP1, hD1⟩ := hB
  rw [ht] at hP1
  obtain ⟨hP2, hD2⟩ := va_back hP hD is hC hA hn hk1 hP1
  exact k H1 locs1 ls hP2 hD2 hS1 hl
theorem g_cVN_I (hX : Fit T X own nL Ts cc ret R) {y : MethodName} {bytes : ByteArray} {maxL n index : Nat} {ret' : Option FieldType} {wds wds' : List Cond} {rm : Room} {As : List Value} {wc ws' : va_W} {stk : List Value} {b ci : Nat} {fs : List Value} {U : u_T} {N : Nat} (q0 : Nat) (hrec : ws[q0]? = some (b, .inr (ci, fs))) (hc : vwCl[ci]? = some (y.cls, U, N)) (hM : ConI (xL X) T (xB X) y wds rm (.ref b :: As) wc rv w1) (hG : GoodIn Ts wds) (nk : Nat) {host : String} (hlink : nws[nk]? = some (Cond.methodLinkNest own index y host)) (hini : Cond.initialized y.cls ∈ Ts) (hinst : Cond.instanceMethod y ∈ Ts) (hsel : Cond.selects y.cls y y ∈ Ts) (hw : wds = Cond.code y bytes maxL ret' :: wds') (hrc : rm.cells = 0) (hrs : rm.slots = 0) (hR : rm.frames + 1 ≤ R.frames ∧ 8 + (maxL + 11) + rm.locals ≤ R.locals) (hcs : cells ≤ R.cells ∧ slots ≤ R.slots) (hd : y.cls ≠ "java/lang/invoke/MethodHandle" ∧ y.cls ≠ "java/lang/invoke/VarHandle" ∧ (parseMethodDescriptor y.desc).map (fun d => d.parameters.length) = some n) (hlen : As.length = n) (is : List Nat) (hC : is.map (fun i => ws[i]?) = wc.map some) (hA : w1.map (fun q => q.1) = wc.map (fun q => q.1)) (hn : va_nd is = true) (hstk : stk = As.reverse ++ .ref b :: st) (hcat : (st.map fun v => v.category).sum ≤ 8) (hdg : decode cc pc = .ok (.invokevirtual index, 3)) (hws : wput ws is w1 = ws') (k : G T X Q cells slots ws' lv (pc + 3) (.int rv :: st)) : G T X Q cells slots ws lv pc stk := by
  subst hws
  intro H locs ls hP hD hS hl
  have hPc := va_sub hP is hC
  have hDc : va_D (xA X) wc := hD.sub is hn hC
  have hFc := va_free (wc := wc) hD hS hX.2.2.2.2.2.2.1 is hC
  have hR' : rm.frames + 1 ≤ (xR X).frames ∧ 8 + (maxL + 11) + rm.locals ≤ (xR X).locals := by rw [hX.2.2.2.2.2.2.2.2.2.2.2]; exact hR
  have hcs' : cells + 0 ≤ (xR X).cells ∧ slots + 0 ≤ (xR X).slots := by rw [hX.2.2.2.2.2.2.2.2.2.2.2]; exact hcs
  refine va_calli (va_runVN (As := As) (rest := st) ⟨hX.1, hX.2.1, rfl, hX.2.2.2.1, hX.2.2.2.2.1⟩ (hM H.size (fit_low hX hS)) ⟨va_cnB n hX.2.2.2.2.1 hG hw hrc hrs (hX.2.2.2.2.2.2.2.2.1.1 _ (List.mem_of_getElem? hlink)) (hX.2.2.2.2.1 _ hini) hd hR', hX.2.2.2.2.1 _ hinst, hX.2.2.2.2.1 _ hsel⟩ ⟨PreC_blind, va_recv hX.2.2.2.2.2.1 hP hc hrec, fun U hU hW => ⟨rfl, by rw [hU], by rw [hU]; exact hPc, va_K.moved hW.alike hX.2.2.2.2.2.1, hDc.weaken (fun _ q _ h => hX.2.2.2.2.2.2.2.2.2.1 _ h), hX.2.2.2.2.2.2.2.2.1.moved hS hX.2.2.2.2.2.2.2.2.2.1 hW hU⟩⟩ rfl hlen hl.1 hstk (lv_room hcat) hdg hcs') hS (fun q _ h => hFc q h) hFc (fun r u t H1 locs1 ht hvm hw2 hB hz1 hk1 hS1 => ?_)
  obtain ⟨rfl, rfl⟩ := hw2
  obtain ⟨hP1, hD1⟩ := hB
  rw [ht] at hP1
  obtain ⟨hP2, hD2⟩ := va_back hP hD is hC hA hn hk1 hP1
  exact k H1 locs1 ls hP2 hD2 hS1 hl
theorem g_cVN_V (hX : Fit T X own nL Ts cc ret R) {y : MethodName} {bytes : ByteArray} {maxL n index : Nat} {ret' : Option FieldType} {wds wds' : List Cond} {rm : Room} {As : List Value} {wc ws' : va_W} {stk : List Value} {b ci : Nat} {fs : List Value} {U : u_T} {N : Nat} (q0 : Nat) (hrec : ws[q0]? = some (b, .inr (ci, fs))) (hc : vwCl[ci]? = some (y.cls, U, N)) (hM : ConV (xL X) T (xB X) y wds rm (.ref b :: As) wc w1) (hG : GoodIn Ts wds) (nk : Nat) {host : String} (hlink : nws[nk]? = some (Cond.methodLinkNest own index y host)) (hini : Cond.initialized y.cls ∈ Ts) (hinst : Cond.instanceMethod y ∈ Ts) (hsel : Cond.selects y.cls y y ∈ Ts) (hw : wds = Cond.code y bytes maxL ret' :: wds') (hrc : rm.cells = 0) (hrs : rm.slots = 0) (hR : rm.frames + 1 ≤ R.frames ∧ 8 + (maxL + 11) + rm.locals ≤ R.locals) (hcs : cells ≤ R.cells ∧ slots ≤ R.slots) (hd : y.cls ≠ "java/lang/invoke/MethodHandle" ∧ y.cls ≠ "java/lang/invoke/VarHandle" ∧ (parseMethodDescriptor y.desc).map (fun d => d.parameters.length) = some n) (hlen : As.length = n) (is : List Nat) (hC : is.map (fun i => ws[i]?) = wc.map some) (hA : w1.map (fun q => q.1) = wc.map (fun q => q.1)) (hn : va_nd is = true) (hstk : stk = As.reverse ++ .ref b :: st) (hcat : (st.map fun v => v.category).sum ≤ 8) (hdg : decode cc pc = .ok (.invokevirtual index, 3)) (hws : wput ws is w1 = ws') (k : G T X Q cells slots ws' lv (pc + 3) st) : G T X Q cells slots ws lv pc stk := by
  subst hws
  intro H locs ls hP hD hS hl
  have hPc := va_sub hP is hC
  have hDc : va_D (xA X) wc := hD.sub is hn hC
  have hFc := va_free (wc := wc) hD hS hX.2.2.2.2.2.2.1 is hC
  have hR' : rm.frames + 1 ≤ (xR X).frames ∧ 8 + (maxL + 11) + rm.locals ≤ (xR X).locals := by rw [hX.2.2.2.2.2.2.2.2.2.2.2]; exact hR
  have hcs' : cells + 0 ≤ (xR X).cells ∧ slots + 0 ≤ (xR X).slots := by rw [hX.2.2.2.2.2.2.2.2.2.2.2]; exact hcs
  refine va_callv (va_runVN (As := As) (rest := st) ⟨hX.1, hX.2.1, rfl, hX.2.2.2.1, hX.2.2.2.2.1⟩ (hM H.size (fit_low hX hS)) ⟨va_cnB n hX.2.2.2.2.1 hG hw hrc hrs (hX.2.2.2.2.2.2.2.2.1.1 _ (List.mem_of_getElem? hlink)) (hX.2.2.2.2.1 _ hini) hd hR', hX.2.2.2.2.1 _ hinst, hX.2.2.2.2.1 _ hsel⟩ ⟨PreC_blind, va_recv hX.2.2.2.2.2.1 hP hc hrec, fun U hU hW => ⟨rfl, by rw [hU], by rw [hU]; exact hPc, va_K.moved hW.alike hX.2.2.2.2.2.1, hDc.weaken (fun _ q _ h => hX.2.2.2.2.2.2.2.2.2.1 _ h), hX.2.2.2.2.2.2.2.2.1.moved hS hX.2.2.2.2.2.2.2.2.2.1 hW hU⟩⟩ rfl hlen hl.1 hstk (lv_room hcat) hdg hcs') hS (fun q _ h => hFc q h) hFc (fun u t H1 locs1 ht hvm hw2 hB hz1 hk1 hS1 => ?_)
  subst hw2
  obtain ⟨hP1, hD1⟩ := hB
  rw [ht] at hP1
  obtain ⟨hP2, hD2⟩ := va_back hP hD is hC hA hn hk1 hP1
  exact k H1 locs1 ls hP2 hD2 hS1 hl
theorem g_cS_I (hX : Fit T X own nL Ts cc ret R) {y : MethodName} {bytes : ByteArray} {maxL n index : Nat} {ret' : Option FieldType} {wds wds' : List Cond} {rm : Room} {As : List Value} {wc ws' : va_W} {stk : List Value}  (hM : ConI (xL X) T (xB X) y wds rm As wc rv w1) (hG : GoodIn Ts (va_wsS own index y wds)) (hw : wds = Cond.code y bytes maxL ret' :: wds') (hrc : rm.cells = 0) (hrs : rm.slots = 0) (hR : rm.frames + 1 ≤ R.frames ∧ 8 + (maxL + 11) + rm.locals ≤ R.locals) (hcs : cells ≤ R.cells ∧ slots ≤ R.slots) (hd : y.cls ≠ "java/lang/invoke/MethodHandle" ∧ y.cls ≠ "java/lang/invoke/VarHandle" ∧ (parseMethodDescriptor y.desc).map (fun d => d.parameters.length) = some n) (hlen : As.length = n) (is : List Nat) (hC : is.map (fun i => ws[i]?) = wc.map some) (hA : w1.map (fun q => q.1) = wc.map (fun q => q.1)) (hn : va_nd is = true) (hstk : stk = As.reverse ++ st) (hcat : (st.map fun v => v.category).sum ≤ 8) (hdg : decode cc pc = .ok (.invokestatic index, 3)) (hws : wput ws is w1 = ws') (k : G T X Q cells slots ws' lv (pc + 3) (.int rv :: st)) : G T X Q cells slots ws lv pc stk := by
  subst hws
  intro H locs ls hP hD hS hl
  have hPc := va_sub hP is hC
  have hDc : va_D (xA X) wc := hD.sub is hn hC
  have hFc := va_free (wc := wc) hD hS hX.2.2.2.2.2.2.1 is hC
  have hR' : rm.frames + 1 ≤ (xR X).frames ∧ 8 + (maxL + 11) + rm.locals ≤ (xR X).locals := by rw [hX.2.2.2.2.2.2.2.2.2.2.2]; exact hR
  have hcs' : cells + 0 ≤ (xR X).cells ∧ slots + 0 ≤ (xR X).slots := by rw [hX.2.2.2.2.2.2.2.2.2.2.2]; exact hcs
  refine va_calli (va_runS (As := As) (rest := st) ⟨hX.1, hX.2.1, rfl, hX.2.2.2.1, hX.2.2.2.2.1⟩ (hM H.size (fit_low hX hS)) (va_cwS n hX.2.2.2.2.1 hG hw hrc hrs hd hR') ⟨PreC_blind, fun U hU hW => ⟨rfl, by rw [hU], by rw [hU]; exact hPc, va_K.moved hW.alike hX.2.2.2.2.2.1, hDc.weaken (fun _ q _ h => hX.2.2.2.2.2.2.2.2.2.1 _ h), hX.2.2.2.2.2.2.2.2.1.moved hS hX.2.2.2.2.2.2.2.2.2.1 hW hU⟩⟩ rfl hlen hl.1 hstk (lv_room hcat) hdg hcs') hS (fun q _ h => hFc q h) hFc (fun r u t H1 locs1 ht hvm hw2 hB hz1 hk1 hS1 => ?_)
  obtain ⟨rfl, rfl⟩ := hw2
  obtain ⟨hP1, hD1⟩ := hB
  rw [ht] at hP1
  obtain ⟨hP2, hD2⟩ := va_back hP hD is hC hA hn hk1 hP1
  exact k H1 locs1 ls hP2 hD2 hS1 hl
theorem g_cS_V (hX : Fit T X own nL Ts cc ret R) {y : MethodName} {bytes : ByteArray} {maxL n index : Nat} {ret' : Option FieldType} {wds wds' : List Cond} {rm : Room} {As : List Value} {wc ws' : va_W} {stk : List Value}  (hM : ConV (xL X) T (xB X) y wds rm As wc w1) (hG : GoodIn Ts (va_wsS own index y wds)) (hw : wds = Cond.code y bytes maxL ret' :: wds') (hrc : rm.cells = 0) (hrs : rm.slots = 0) (hR : rm.frames + 1 ≤ R.frames ∧ 8 + (maxL + 11) + rm.locals ≤ R.locals) (hcs : cells ≤ R.cells ∧ slots ≤ R.slots) (hd : y.cls ≠ "java/lang/invoke/MethodHandle" ∧ y.cls ≠ "java/lang/invoke/VarHandle" ∧ (parseMethodDescriptor y.desc).map (fun d => d.parameters.length) = some n) (hlen : As.length = n) (is : List Nat) (hC : is.map (fun i => ws[i]?) = wc.map some) (hA : w1.map (fun q => q.1) = wc.map (fun q => q.1)) (hn : va_nd is = true) (hstk : stk = As.reverse ++ st) (hcat : (st.map fun v => v.category).sum ≤ 8) (hdg : decode cc pc = .ok (.invokestatic index, 3)) (hws : wput ws is w1 = ws') (k : G T X Q cells slots ws' lv (pc + 3) st) : G T X Q cells slots ws lv pc stk := by
  subst hws
  intro H locs ls hP hD hS hl
  have hPc := va_sub hP is hC
  have hDc : va_D (xA X) wc := hD.sub is hn hC
  have hFc := va_free (wc := wc) hD hS hX.2.2.2.2.2.2.1 is hC
  have hR' : rm.frames + 1 ≤ (xR X).frames ∧ 8 + (maxL + 11) + rm.locals ≤ (xR X).locals := by rw [hX.2.2.2.2.2.2.2.2.2.2.2]; exact hR
  have hcs' : cells + 0 ≤ (xR X).cells ∧ slots + 0 ≤ (xR X).slots := by rw [hX.2.2.2.2.2.2.2.2.2.2.2]; exact hcs
  refine va_callv (va_runS (As := As) (rest := st) ⟨hX.1, hX.2.1, rfl, hX.2.2.2.1, hX.2.2.2.2.1⟩ (hM H.size (fit_low hX hS)) (va_cwS n hX.2.2.2.2.1 hG hw hrc hrs hd hR') ⟨PreC_blind, fun U hU hW => ⟨rfl, by rw [hU], by rw [hU]; exact hPc, va_K.moved hW.alike hX.2.2.2.2.2.1, hDc.weaken (fun _ q _ h => hX.2.2.2.2.2.2.2.2.2.1 _ h), hX.2.2.2.2.2.2.2.2.1.moved hS hX.2.2.2.2.2.2.2.2.2.1 hW hU⟩⟩ rfl hlen hl.1 hstk (lv_room hcat) hdg hcs') hS (fun q _ h => hFc q h) hFc (fun u t H1 locs1 ht hvm hw2 hB hz1 hk1 hS1 => ?_)
  subst hw2
  obtain ⟨hP1, hD1⟩ := hB
  rw [ht] at hP1
  obtain ⟨hP2, hD2⟩ := va_back hP hD is hC hA hn hk1 hP1
  exact k H1 locs1 ls hP2 hD2 hS1 hl
theorem g_cSN_I (hX : Fit T X own nL Ts cc ret R) {y : MethodName} {bytes : ByteArray} {maxL n index : Nat} {ret' : Option FieldType} {wds wds' : List Cond} {rm : Room} {As : List Value} {wc ws' : va_W} {stk : List Value}  (hM : ConI (xL X) T (xB X) y wds rm As wc rv w1) (hG : GoodIn Ts wds) (nk : Nat) {host : String} (hlink : nws[nk]? = some (Cond.methodLinkNest own index y host)) (hini : Cond.initialized y.cls ∈ Ts) (hstt : Cond.static y ∈ Ts) (hw : wds = Cond.code y bytes maxL ret' :: wds') (hrc : rm.cells = 0) (hrs : rm.slots = 0) (hR : rm.frames + 1 ≤ R.frames ∧ 8 + (maxL + 11) + rm.locals ≤ R.locals) (hcs : cells ≤ R.cells ∧ slots ≤ R.slots) (hd : y.cls ≠ "java/lang/invoke/MethodHandle" ∧ y.cls ≠ "java/lang/invoke/VarHandle" ∧ (parseMethodDescriptor y.desc).map (fun d => d.parameters.length) = some n) (hlen : As.length = n) (is : List Nat) (hC : is.map (fun i => ws[i]?) = wc.map some) (hA : w1.map (fun q => q.1) = wc.map (fun q => q.1)) (hn : va_nd is = true) (hstk : stk = As.reverse ++ st) (hcat : (st.map fun v => v.category).sum ≤ 8) (hdg : decode cc pc = .ok (.invokestatic index, 3)) (hws : wput ws is w1 = ws') (k : G T X Q cells slots ws' lv (pc + 3) (.int rv :: st)) : G T X Q cells slots ws lv pc stk := by
  subst hws
  intro H locs ls hP hD hS hl
  have hPc := va_sub hP is hC
  have hDc : va_D (xA X) wc := hD.sub is hn hC
  have hFc := va_free (wc := wc) hD hS hX.2.2.2.2.2.2.1 is hC
  have hR' : rm.frames + 1 ≤ (xR X).frames ∧ 8 + (maxL + 11) + rm.locals ≤ (xR X).locals := by rw [hX.2.2.2.2.2.2.2.2.2.2.2]; exact hR
  have hcs' : cells + 0 ≤ (xR X).cells ∧ slots + 0 ≤ (xR X).slots := by rw [hX.2.2.2.2.2.2.2.2.2.2.2]; exact hcs
  refine va_calli (va_runSN (As := As) (rest := st) ⟨hX.1, hX.2.1, rfl, hX.2.2.2.1, hX.2.2.2.2.1⟩ (hM H.size (fit_low hX hS)) ⟨va_cnB n hX.2.2.2.2.1 hG hw hrc hrs (hX.2.2.2.2.2.2.2.2.1.1 _ (List.mem_of_getElem? hlink)) (hX.2.2.2.2.1 _ hini) hd hR', hX.2.2.2.2.1 _ hstt, trivial⟩ ⟨PreC_blind, fun U hU hW => ⟨rfl, by rw [hU], by rw [hU]; exact hPc, va_K.moved hW.alike hX.2.2.2.2.2.1, hDc.weaken (fun _ q _ h => hX.2.2.2.2.2.2.2.2.2.1 _ h), hX.2.2.2.2.2.2.2.2.1.moved hS hX.2.2.2.2.2.2.2.2.2.1 hW hU⟩⟩ rfl hlen hl.1 hstk (lv_room hcat) hdg hcs') hS (fun q _ h => hFc q h) hFc (fun r u t H1 locs1 ht hvm hw2 hB hz1 hk1 hS1 => ?_)
  obtain ⟨rfl, rfl⟩ := hw2
  obtain ⟨hP1, hD1⟩ := hB
  rw [ht] at hP1
  obtain ⟨hP2, hD2⟩ := va_back hP hD is hC hA hn hk1 hP1
  exact k H1 locs1 ls hP2 hD2 hS1 hl
theorem g_cSN_V (hX : Fit T X own nL Ts cc ret R) {y : MethodName} {bytes : ByteArray} {maxL n index : Nat} {ret' : Option FieldType} {wds wds' : List Cond} {rm : Room} {As : List Value} {wc ws' : va_W} {stk : List Value}  (hM : ConV (xL X) T (xB X) y wds rm As wc w1) (hG : GoodIn Ts wds) (nk : Nat) {host : String} (hlink : nws[nk]? = some (Cond.methodLinkNest own index y host)) (hini : Cond.initialized y.cls ∈ Ts) (hstt : Cond.static y ∈ Ts) (hw : wds = Cond.code y bytes maxL ret' :: wds') (hrc : rm.cells = 0) (hrs : rm.slots = 0) (hR : rm.frames + 1 ≤ R.frames ∧ 8 + (maxL + 11) + rm.locals ≤ R.locals) (hcs : cells ≤ R.cells ∧ slots ≤ R.slots) (hd : y.cls ≠ "java/lang/invoke/MethodHandle" ∧ y.cls ≠ "java/lang/invoke/VarHandle" ∧ (parseMethodDescriptor y.desc).map (fun d => d.parameters.length) = some n) (hlen : As.length = n) (is : List Nat) (hC : is.map (fun i => ws[i]?) = wc.map some) (hA : w1.map (fun q => q.1) = wc.map (fun q => q.1)) (hn : va_nd is = true) (hstk : stk = As.reverse ++ st) (hcat : (st.map fun v => v.category).sum ≤ 8) (hdg : decode cc pc = .ok (.invokestatic index, 3)) (hws : wput ws is w1 = ws') (k : G T X Q cells slots ws' lv (pc + 3) st) : G T X Q cells slots ws lv pc stk := by
  subst hws
  intro H locs ls hP hD hS hl
  have hPc := va_sub hP is hC
  have hDc : va_D (xA X) wc := hD.sub is hn hC
  have hFc := va_free (wc := wc) hD hS hX.2.2.2.2.2.2.1 is hC
  have hR' : rm.frames + 1 ≤ (xR X).frames ∧ 8 + (maxL + 11) + rm.locals ≤ (xR X).locals := by rw [hX.2.2.2.2.2.2.2.2.2.2.2]; exact hR
  have hcs' : cells + 0 ≤ (xR X).cells ∧ slots + 0 ≤ (xR X).slots := by rw [hX.2.2.2.2.2.2.2.2.2.2.2]; exact hcs
  refine va_callv (va_runSN (As := As) (rest := st) ⟨hX.1, hX.2.1, rfl, hX.2.2.2.1, hX.2.2.2.2.1⟩ (hM H.size (fit_low hX hS)) ⟨va_cnB n hX.2.2.2.2.1 hG hw hrc hrs (hX.2.2.2.2.2.2.2.2.1.1 _ (List.mem_of_getElem? hlink)) (hX.2.2.2.2.1 _ hini) hd hR', hX.2.2.2.2.1 _ hstt, trivial⟩ ⟨PreC_blind, fun U hU hW => ⟨rfl, by rw [hU], by rw [hU]; exact hPc, va_K.moved hW.alike hX.2.2.2.2.2.1, hDc.weaken (fun _ q _ h => hX.2.2.2.2.2.2.2.2.2.1 _ h), hX.2.2.2.2.2.2.2.2.1.moved hS hX.2.2.2.2.2.2.2.2.2.1 hW hU⟩⟩ rfl hlen hl.1 hstk (lv_room hcat) hdg hcs') hS (fun q _ h => hFc q h) hFc (fun u t H1 locs1 ht hvm hw2 hB hz1 hk1 hS1 => ?_)
  subst hw2
  obtain ⟨hP1, hD1⟩ := hB
  rw [ht] at hP1
  obtain ⟨hP2, hD2⟩ := va_back hP hD is hC hA hn hk1 hP1
  exact k H1 locs1 ls hP2 hD2 hS1 hl
theorem g_objInit (hX : Fit T X own nL Ts cc ret R) {a index : Nat} (hlink : Cond.methodLink own index objectInit ∈ Ts) (hinst : Cond.instanceMethod objectInit ∈ Ts) (hcode : Cond.code objectInit ⟨#[0xb1]⟩ 1 none ∈ Ts) (hfr : 1 ≤ R.frames) (hlo : 12 + (st.map fun v => v.category).sum ≤ R.locals) (hdg : decode cc pc = .ok (.invokespecial index, 3)) (k : G T X Q cells slots ws lv (pc + 3) st) : G T X Q cells slots ws lv pc (.ref a :: st) := by
  intro H locs ls hP hD hS hl
  have e : xR X = R := hX.2.2.2.2.2.2.2.2.2.2.2
  exact W.objInit hX.1 hX.2.1 hX.2.2.2.1 (hX.2.2.2.2.1 _ hlink) (hX.2.2.2.2.1 _ hinst) (hX.2.2.2.2.1 _ hcode) rfl hl.1 rfl hdg (by rw [e]; exact hfr) (by rw [e]; show 2 * 0 + _ + 12 ≤ _; omega) (k H locs ls hP hD hS hl)
end GC
end
section
/-! What a state of each class is: cells at addresses, and a value of functions on places -/
abbrev WV : Type := (Nat → Int32) × (Nat → Int32)
abbrev SV : Type := (Nat → Int32) × WV × (Nat → Int32) × (Nat → Int32)
abbrev TV : Type := (Nat → Int32) × (Nat → Int32) × (Nat → Int32) × (Nat → Int32)
abbrev QV2 : Type := (Nat → Int32) × (Nat → Int32)
abbrev MV : Type := (Nat → Int32) × (Nat → Int32) × (Nat → Int32) × (Nat → Int32) × (Nat → Int32) × (Nat → Int32) × (Nat → Int32)
abbrev wAr (T : TT) (a : Nat) (N : Nat) (f : Nat → Int32) : va_W := [(a, .inl (T.2.1, N, .inl f))]
abbrev wWr (T : TT) (w h : Nat) (v : WV) : va_W := [(w, .inr (3, [.ref h, .int (v.1 0), .int (v.1 1), .int (v.1 2)])), (h, .inl (T.2.1, 12, .inl v.2))]
abbrev wSt (T : TT) (a w h k n : Nat) (u : SV) : va_W := [(a, .inr (2, [.ref w, .ref k, .ref n, .int (u.1 0), .int (u.1 1), .int (u.1 2), .int (u.1 3), .int (u.1 4), .int (u.1 5), .int (u.1 6), .int (u.1 7)])), (w, .inr (3, [.ref h, .int (u.2.1.1 0), .int (u.2.1.1 1), .int (u.2.1.1 2)])), (h, .inl (T.2.1, 12, .inl u.2.1.2)), (k, .inl (T.2.1, 12, .inl u.2.2.1)), (n, .inl (T.2.1, 5, .inl u.2.2.2))]
abbrev wTx (T : TT) (t c k v : Nat) (u : TV) : va_W := [(t, .inr (0, [.ref c, .ref k, .ref v, .int (u.1 0), .int (u.1 1), .int (u.1 2), .int (u.1 3)])), (c, .inl (T.2.2.1, 60, .inl u.2.1)), (k, .inl (T.2.1, 60, .inl u.2.2.1)), (v, .inl (T.2.1, 60, .inl u.2.2.2))]
abbrev wMa (T : TT) (x al : Nat) (rs : List Value) (a : Nat → Int32) : va_W := [(x, .inr (5, .ref al :: rs)), (al, .inl (T.2.1, 37, .inl a))]
abbrev wMt (T : TT) (x te : Nat) (o0 o1 o2 o3 o4 o5 o6 o11 : Value) (q : QV2) : va_W := [(x, .inr (5, [o0, o1, o2, o3, o4, o5, o6, .ref te, .int (q.1 0), .int (q.1 1), .int (q.1 2), o11])), (te, .inl (T.2.1, 60, .inl q.2))]
abbrev wMo (T : TT) (x al ke tr hi sn te : Nat) (u : MV) : va_W := [(x, .inr (5, [.ref al, .ref ke, .ref tr, .ref hi, .int (u.1 0), .ref sn, .int (u.1 1), .ref te, .int (u.1 2), .int (u.1 3), .int (u.1 4), .int (u.1 5)])), (al, .inl (T.2.1, 37, .inl u.2.1)), (ke, .inl (T.2.1, 37, .inl u.2.2.1)), (tr, .inl (T.2.1, 37, .inl u.2.2.2.1)), (hi, .inl (T.2.1, 148, .inl u.2.2.2.2.1)), (sn, .inl (T.2.1, 37, .inl u.2.2.2.2.2.1)), (te, .inl (T.2.1, 60, .inl u.2.2.2.2.2.2))]
theorem vin_of {i N : Int32} {n : Nat} (h1 : ¬ i < 0) (h2 : ¬ N ≤ i) (hN : N.toInt = (n : Int)) : vp_in i n := by
  rw [vp_in_iff]
  rw [Int32.lt_iff_toInt_lt] at h1
  rw [Int32.le_iff_toInt_le, hN] at h2
  have h0 : (0 : Int32).toInt = 0 := by decide
  rw [h0] at h1
  omega
theorem vin_c {i : Int32} {n : Nat} (h : decide (¬ (i < 0 ∨ n ≤ i.toNatClampNeg)) = true) : vp_in i n := (show ¬ (i < 0 ∨ n ≤ i.toNatClampNeg) from of_decide_eq_true h)
theorem fit_low_tab {T : TT} {X : CX} {own : String} {nL : Nat} {Ts : List Cond} {cc : ByteArray} {ret : Option FieldType} {R : Room} (hX : Fit T X own nL Ts cc ret R) : sTab "LOWEST" 7 fLow (xB X) (xS X) := hX.2.2.2.2.2.2.2.2.1.2.1
theorem fit_high_tab {T : TT} {X : CX} {own : String} {nL : Nat} {Ts : List Cond} {cc : ByteArray} {ret : Option FieldType} {R : Room} (hX : Fit T X own nL Ts cc ret R) : sTab "HIGHEST" 7 fHigh (xB X) (xS X) := hX.2.2.2.2.2.2.2.2.1.2.2.1
theorem nlt_of {j c : Nat} {C : Int32} (h : ¬ C ≤ nI j) (hC : C.toInt = (c : Int)) (hj : j < 2 ^ 31) : j < c := by
  rw [Int32.le_iff_toInt_le, hC, nI_toInt hj] at h
  omega
theorem ixc (c j : Nat) (h : c + j < 2 ^ 31) : (nI c + nI j).toNatClampNeg = c + j := by rw [nI_add]; exact nI_clamp h
theorem vinc (c j n : Nat) (h : c + j < n) (hn : n < 2 ^ 31) : vp_in (nI c + nI j) n := by rw [nI_add]; exact vp_in_nI h hn
theorem lt_of_n {j c : Nat} {C : Int32} (h : nI j < C) (hC : C.toInt = (c : Int)) (hj : j < 2 ^ 31) : j < c := by
  rw [Int32.lt_iff_toInt_lt, hC, nI_toInt hj] at h
  omega
theorem le_of_n {j c : Nat} {C : Int32} (h : nI j ≤ C) (hC : C.toInt = (c : Int)) (hj : j < 2 ^ 31) : j ≤ c := by
  rw [Int32.le_iff_toInt_le, hC, nI_toInt hj] at h
  omega
theorem nle_of {j c : Nat} {C : Int32} (h : ¬ C < nI j) (hC : C.toInt = (c : Int)) (hj : j < 2 ^ 31) : j ≤ c := by
  rw [Int32.lt_iff_toInt_lt, hC, nI_toInt hj] at h
  omega
theorem nlt_p {j c : Nat} {p : Int32} (h : ¬ p ≤ nI j) (hp : p.toInt ≤ (c : Int)) (hj : j < 2 ^ 31) : j < c := by
  rw [Int32.le_iff_toInt_le, nI_toInt hj] at h
  omega
theorem nle_p {j c : Nat} {p : Int32} (h : ¬ p < nI j) (hp : p.toInt ≤ (c : Int)) (hj : j < 2 ^ 31) : j ≤ c := by
  rw [Int32.lt_iff_toInt_lt, nI_toInt hj] at h
  omega
theorem narrow_b {x : Int32} (h : x = 0 ∨ x = 1) : narrow .boolean (.int x) = .int x := by
  rcases h with h | h <;> rw [h] <;> rfl
theorem vin_lt {i N : Int32} {n : Nat} (h1 : ¬ i < 0) (h2 : i < N) (hN : N.toInt = (n : Int)) : vp_in i n := by
  rw [vp_in_iff]
  rw [Int32.lt_iff_toInt_lt] at h1 h2
  have h0 : (0 : Int32).toInt = 0 := by decide
  rw [h0] at h1
  rw [hN] at h2
  omega
section GF
variable {T : TT} {X : CX} {own : String} {nL : Nat} {Ts : List Cond} {cc : ByteArray} {ret : Option FieldType} {R : Room} {Q : State → Prop} {cells slots : Nat} {ws : va_W} {lv : List (Nat × Value)} {pc : Nat} {st : List Value}
def fHas (T : TT) (X : CX) (t : Nat) : Prop := fCell T t (xS X).heap ∧ t < xB X
theorem fHas_T (hX : Fit T X own nL Ts cc ret R) {t : Nat} (hF : fHas T X t) : va_T .int t 5 (fun j => .int (fFirst j)) (xA X) (xS X) (xS X).heap := by
  obtain ⟨⟨cell, c1, c2, c3, c4, c5⟩, h2⟩ := hF
  have hn : ¬ xA X t := fun z => by
    have := hX.2.2.2.2.2.2.2.2.2.1 t z
    omega
  have h3 := ((hX.2.2.2.2.2.1.2 0 (T.2.1, .int) rfl).1 0 (fun _ => .null)).2
  refine ⟨cell, c1, ⟨c4, ?_⟩, c5, ?_, ?_, fun j hj => ?_, hn⟩
  · rw [c2]
    exact h3
  · rw [c3, arrV_size]
    exact Nat.le_refl _
  · rw [c3, arrV_size]
  · rw [c3, arrV_read _ _ hj]
theorem g_first (hX : Fit T X own nL Ts cc ret R) {index : Nat} (nk : Nat) {host : String} (hlink : nws[nk]? = some (Cond.fieldLinkNest own index RX4 "FIRST_NUMBERS" "[I" host)) (hdg : decode cc pc = .ok (.getstatic index, 3)) (k : ∀ t : Nat, fHas T X t → G T X Q cells slots ws lv (pc + 3) (.ref t :: st)) : G T X Q cells slots ws lv pc st := by
  obtain ⟨t, h1, h2, h3⟩ := hX.2.2.2.2.2.2.2.2.1.2.2.2
  intro H locs ls hP hD hS hl
  exact va_getsN hX.1 hX.2.1 (h1.narrow hX.2.2.2.2.2.2.2.2.2.1) hS hX.2.2.2.1 (va_Nw.use rfl (hX.2.2.2.2.2.2.2.2.1.1 _ (List.mem_of_getElem? hlink))) (fun _ h9 => h9) hdg (k t ⟨h2, h3.1⟩ H locs ls hP hD hS hl)
theorem g_flen (hX : Fit T X own nL Ts cc ret R) {t : Nat} (hF : fHas T X t) (hdg : decode cc pc = .ok (.arraylength, 1)) (k : G T X Q cells slots ws lv (pc + 1) (.int 5 :: st)) : G T X Q cells slots ws lv pc (.ref t :: st) := g_tlen hX (fHas_T hX hF) (v := 5) rfl hdg k
end GF
theorem fits_b {x : Int32} (h : x = 0 ∨ x = 1) : fits .boolean (.int x) = true := by
  rcases h with h | h <;> rw [h] <;> rfl
theorem ix0 (j : Nat) (h : j < 2 ^ 31) : ((0 : Int32) + nI j).toNatClampNeg = j := by
  rw [Int32.zero_add]
  exact nI_clamp h
end
section
/-! X4_oneIf -/
def rmX4_oneIf : Room := { frames := 0, cells := 0, slots := 0, locals := 0 }
def F_X4_oneIf (p1 : Int32) : Int32 :=
  (if p1 = 0 then 0 else 1)
set_option maxHeartbeats 4000000 in
set_option maxRecDepth 100000 in
theorem c_X4_oneIf (l : Launch) (T : TT) (b0 : Nat) (p1 : Int32)  : ConI l T b0 yX4_oneIf wsX4_oneIf rmX4_oneIf [.int p1] ([]) (F_X4_oneIf p1) ([]) := by
  refine conI_of (cc := cX4_oneIf) (maxL := 1) (ret := (some .int)) (lv0 := [(0, .int p1)]) (by decide +kernel) rfl (Nat.le_of_ble_eq_true rfl) rfl (fun X hX => ?_)
  refine g_iload_n hX dX4_oneIf_0 rfl 0 rfl ?_
  refine g_if_eq hX 8 dX4_oneIf_1 (by decide) (fun c_1 => ?_) (fun c_1 => ?_)
  · skip
    refine g_iconst hX (v := 0) dX4_oneIf_8 (by decide) ?_
    have e9 : F_X4_oneIf p1 = 0 := by simp only [F_X4_oneIf, eq_true c_1, if_true, if_false]
    rw [e9]
    exact g_iret hX dX4_oneIf_9 rfl rfl
  · skip
    refine g_iconst hX (v := 1) dX4_oneIf_4 (by decide) ?_
    refine g_goto hX 9 dX4_oneIf_5 (by decide) ?_
    have e9 : F_X4_oneIf p1 = 1 := by simp only [F_X4_oneIf, eq_false c_1, if_true, if_false]
    rw [e9]
    exact g_iret hX dX4_oneIf_9 rfl rfl
/-! X4_lowest -/
def rmX4_lowest : Room := { frames := 0, cells := 0, slots := 0, locals := 0 }
theorem k_X4_lowest_0 : Cond.fieldLink RX4 216 RX4 "LOWEST" "[I" ∈ wsX4_lowest := List.mem_of_getElem? (i := 1) rfl
def F_X4_lowest (p1 : Int32) : Int32 :=
  (if p1 < 0 then 0 else (if 7 ≤ p1 then 0 else (fLowI (Int32.toNatClampNeg p1))))
set_option maxHeartbeats 4000000 in
set_option maxRecDepth 100000 in
theorem c_X4_lowest (l : Launch) (T : TT) (b0 : Nat) (p1 : Int32)  : ConI l T b0 yX4_lowest wsX4_lowest rmX4_lowest [.int p1] ([]) (F_X4_lowest p1) ([]) := by
  refine conI_of (cc := cX4_lowest) (maxL := 1) (ret := (some .int)) (lv0 := [(0, .int p1)]) (by decide +kernel) rfl (Nat.le_of_ble_eq_true rfl) rfl (fun X hX => ?_)
  refine g_iload_n hX dX4_lowest_0 rfl 0 rfl ?_
  refine g_if_lt hX 20 dX4_lowest_1 (by decide) (fun c_1 => ?_) (fun c_1 => ?_)
  · skip
    refine g_iconst hX (v := 0) dX4_lowest_20 (by decide) ?_
    have e9 : F_X4_lowest p1 = 0 := by simp only [F_X4_lowest, eq_true c_1, if_true, if_false]
    rw [e9]
    exact g_iret hX dX4_lowest_21 rfl rfl
  · skip
    refine g_iload_n hX dX4_lowest_4 rfl 0 rfl ?_
    refine g_tab hX (fit_low_tab hX) k_X4_lowest_0 dX4_lowest_5 (fun t_5 hT_5 => ?_)
    refine g_tlen hX hT_5 (v := 7) (by decide) dX4_lowest_8 ?_
    refine g_icmp_ge hX 20 dX4_lowest_9 (by decide) (fun c_9 => ?_) (fun c_9 => ?_)
    · skip
      refine g_iconst hX (v := 0) dX4_lowest_20 (by decide) ?_
      have e9 : F_X4_lowest p1 = 0 := by simp only [F_X4_lowest, eq_false c_1, eq_true c_9, if_true, if_false]
      rw [e9]
      exact g_iret hX dX4_lowest_21 rfl rfl
    · skip
      refine g_tab hX (fit_low_tab hX) k_X4_lowest_0 dX4_lowest_12 (fun t_12 hT_12 => ?_)
      refine g_iload_n hX dX4_lowest_15 rfl 0 rfl ?_
      refine g_tld hX hT_12 (vin_of c_1 c_9 (by decide)) (v := .int (fLowI (Int32.toNatClampNeg p1))) rfl dX4_lowest_16 ?_
      refine g_goto hX 21 dX4_lowest_17 (by decide) ?_
      have e9 : F_X4_lowest p1 = (fLowI (Int32.toNatClampNeg p1)) := by simp only [F_X4_lowest, eq_false c_1, eq_false c_9, if_true, if_false]
      rw [e9]
      exact g_iret hX dX4_lowest_21 rfl rfl
/-! X4_highest -/
def rmX4_highest : Room := { frames := 0, cells := 0, slots := 0, locals := 0 }
theorem k_X4_highest_0 : Cond.fieldLink RX4 220 RX4 "HIGHEST" "[I" ∈ wsX4_highest := List.mem_of_getElem? (i := 1) rfl
def F_X4_highest (p1 : Int32) : Int32 :=
  (if p1 < 0 then (-1) else (if 7 ≤ p1 then (-1) else (fHighI (Int32.toNatClampNeg p1))))
set_option maxHeartbeats 4000000 in
set_option maxRecDepth 100000 in
theorem c_X4_highest (l : Launch) (T : TT) (b0 : Nat) (p1 : Int32)  : ConI l T b0 yX4_highest wsX4_highest rmX4_highest [.int p1] ([]) (F_X4_highest p1) ([]) := by
  refine conI_of (cc := cX4_highest) (maxL := 1) (ret := (some .int)) (lv0 := [(0, .int p1)]) (by decide +kernel) rfl (Nat.le_of_ble_eq_true rfl) rfl (fun X hX => ?_)
  refine g_iload_n hX dX4_highest_0 rfl 0 rfl ?_
  refine g_if_lt hX 20 dX4_highest_1 (by decide) (fun c_1 => ?_) (fun c_1 => ?_)
  · skip
    refine g_iconst hX (v := (-1)) dX4_highest_20 (by decide) ?_
    have e9 : F_X4_highest p1 = (-1) := by simp only [F_X4_highest, eq_true c_1, if_true, if_false]
    rw [e9]
    exact g_iret hX dX4_highest_21 rfl rfl
  · skip
    refine g_iload_n hX dX4_highest_4 rfl 0 rfl ?_
    refine g_tab hX (fit_high_tab hX) k_X4_highest_0 dX4_highest_5 (fun t_5 hT_5 => ?_)
    refine g_tlen hX hT_5 (v := 7) (by decide) dX4_highest_8 ?_
    refine g_icmp_ge hX 20 dX4_highest_9 (by decide) (fun c_9 => ?_) (fun c_9 => ?_)
    · skip
      refine g_iconst hX (v := (-1)) dX4_highest_20 (by decide) ?_
      have e9 : F_X4_highest p1 = (-1) := by simp only [F_X4_highest, eq_false c_1, eq_true c_9, if_true, if_false]
      rw [e9]
      exact g_iret hX dX4_highest_21 rfl rfl
    · skip
      refine g_tab hX (fit_high_tab hX) k_X4_highest_0 dX4_highest_12 (fun t_12 hT_12 => ?_)
      refine g_iload_n hX dX4_highest_15 rfl 0 rfl ?_
      refine g_tld hX hT_12 (vin_of c_1 c_9 (by decide)) (v := .int (fHighI (Int32.toNatClampNeg p1))) rfl dX4_highest_16 ?_
      refine g_goto hX 21 dX4_highest_17 (by decide) ?_
      have e9 : F_X4_highest p1 = (fHighI (Int32.toNatClampNeg p1)) := by simp only [F_X4_highest, eq_false c_1, eq_false c_9, if_true, if_false]
      rw [e9]
      exact g_iret hX dX4_highest_21 rfl rfl
/-! X4_inRange -/
def rmX4_inRange : Room := { frames := 1, cells := 0, slots := 0, locals := 20 }
def F_X4_inRange (p1 : Int32) (p2 : Int32) : Int32 :=
  (if p2 < (F_X4_lowest p1) then 0 else (if (F_X4_highest p1) < p2 then 0 else 1))
set_option maxHeartbeats 4000000 in
set_option maxRecDepth 100000 in
theorem c_X4_inRange (l : Launch) (T : TT) (b0 : Nat) (p1 : Int32) (p2 : Int32)  : ConI l T b0 yX4_inRange wsX4_inRange rmX4_inRange [.int p1, .int p2] ([]) (F_X4_inRange p1 p2) ([]) := by
  refine conI_of (cc := cX4_inRange) (maxL := 2) (ret := (some .boolean)) (lv0 := [(0, .int p1), (1, .int p2)]) (by decide +kernel) rfl (Nat.le_of_ble_eq_true rfl) rfl (fun X hX => ?_)
  refine g_iload_n hX dX4_inRange_0 rfl 1 rfl ?_
  refine g_iload_n hX dX4_inRange_1 rfl 0 rfl ?_
  refine g_cS_I hX (n := 1) (As := [.int p1]) (wc := []) (w1 := []) (rv := (F_X4_lowest p1)) (st := [.int p2]) (c_X4_lowest (xL X) T (xB X) p1) gX4_inRange_X4_lowest rfl rfl rfl ⟨Nat.le_of_ble_eq_true rfl, Nat.le_of_ble_eq_true rfl⟩ ⟨Nat.zero_le _, Nat.zero_le _⟩ ⟨by decide +kernel, by decide +kernel, by decide +kernel⟩ rfl [] rfl rfl (by decide) rfl (Nat.le_of_ble_eq_true rfl) dX4_inRange_2 (ws' := []) rfl ?_
  refine g_icmp_lt hX 20 dX4_inRange_5 (by decide) (fun c_5 => ?_) (fun c_5 => ?_)
  · skip
    refine g_iconst hX (v := 0) dX4_inRange_20 (by decide) ?_
    have e9 : F_X4_inRange p1 p2 = 0 := by simp only [F_X4_inRange, eq_true c_5, if_true, if_false]
    rw [e9]
    exact g_zret hX dX4_inRange_21 rfl rfl rfl
  · skip
    refine g_iload_n hX dX4_inRange_8 rfl 1 rfl ?_
    refine g_iload_n hX dX4_inRange_9 rfl 0 rfl ?_
    refine g_cS_I hX (n := 1) (As := [.int p1]) (wc := []) (w1 := []) (rv := (F_X4_highest p1)) (st := [.int p2]) (c_X4_highest (xL X) T (xB X) p1) gX4_inRange_X4_highest rfl rfl rfl ⟨Nat.le_of_ble_eq_true rfl, Nat.le_of_ble_eq_true rfl⟩ ⟨Nat.zero_le _, Nat.zero_le _⟩ ⟨by decide +kernel, by decide +kernel, by decide +kernel⟩ rfl [] rfl rfl (by decide) rfl (Nat.le_of_ble_eq_true rfl) dX4_inRange_10 (ws' := []) rfl ?_
    refine g_icmp_gt hX 20 dX4_inRange_13 (by decide) (fun c_13 => ?_) (fun c_13 => ?_)
    · skip
      refine g_iconst hX (v := 0) dX4_inRange_20 (by decide) ?_
      have e9 : F_X4_inRange p1 p2 = 0 := by simp only [F_X4_inRange, eq_false c_5, eq_true c_13, if_true, if_false]
      rw [e9]
      exact g_zret hX dX4_inRange_21 rfl rfl rfl
    · skip
      refine g_iconst hX (v := 1) dX4_inRange_16 (by decide) ?_
      refine g_goto hX 21 dX4_inRange_17 (by decide) ?_
      have e9 : F_X4_inRange p1 p2 = 1 := by simp only [F_X4_inRange, eq_false c_5, eq_false c_13, if_true, if_false]
      rw [e9]
      exact g_zret hX dX4_inRange_21 rfl rfl rfl
/-! X3_guidePlace -/
def rmX3_guidePlace : Room := { frames := 0, cells := 0, slots := 0, locals := 0 }
theorem k_X3_guidePlace_0 : Cond.fieldLink RX3 22 RX3 (TX3 3).2.1 (TX3 3).2.2.1 ∈ wsX3_guidePlace := List.mem_of_getElem? (i := 1) rfl
theorem h_X3_guidePlace_X3 : ∀ w ∈ u_ws RX3 TX3 4, w ∈ wsX3_guidePlace := fun w h => List.mem_cons_of_mem _ (List.mem_append_right _ h)
def F_X3_guidePlace (u : WV) : Int32 :=
  (if 11 < (u.1 2) then (22 - (u.1 2)) else (u.1 2))
set_option maxHeartbeats 4000000 in
set_option maxRecDepth 100000 in
theorem c_X3_guidePlace (l : Launch) (T : TT) (b0 : Nat) (w h : Nat) (u : WV)  : ConI l T b0 yX3_guidePlace wsX3_guidePlace rmX3_guidePlace [.ref w] (wWr T w h u) (F_X3_guidePlace u) (wWr T w h u) := by
  refine conI_of (cc := cX3_guidePlace) (maxL := 1) (ret := (some .int)) (lv0 := [(0, .ref w)]) (by decide +kernel) rfl (Nat.le_of_ble_eq_true rfl) rfl (fun X hX => ?_)
  refine g_aload_n hX dX3_guidePlace_0 rfl 0 rfl ?_
  refine g_get hX 3 h_X3_guidePlace_X3 0 rfl rfl 3 (by decide) k_X3_guidePlace_0 rfl (v := .int (u.1 2)) rfl dX3_guidePlace_1 ?_
  refine g_bipush hX (v := 11) dX3_guidePlace_4 (by decide) ?_
  refine g_icmp_gt hX 16 dX3_guidePlace_6 (by decide) (fun c_6 => ?_) (fun c_6 => ?_)
  · skip
    refine g_bipush hX (v := 22) dX3_guidePlace_16 (by decide) ?_
    refine g_aload_n hX dX3_guidePlace_18 rfl 0 rfl ?_
    refine g_get hX 3 h_X3_guidePlace_X3 0 rfl rfl 3 (by decide) k_X3_guidePlace_0 rfl (v := .int (u.1 2)) rfl dX3_guidePlace_19 ?_
    refine g_isub hX dX3_guidePlace_22 ?_
    have e9 : F_X3_guidePlace u = (22 - (u.1 2)) := by simp only [F_X3_guidePlace, eq_true c_6, if_true, if_false]
    rw [e9]
    exact g_iret hX dX3_guidePlace_23 rfl rfl
  · skip
    refine g_aload_n hX dX3_guidePlace_9 rfl 0 rfl ?_
    refine g_get hX 3 h_X3_guidePlace_X3 0 rfl rfl 3 (by decide) k_X3_guidePlace_0 rfl (v := .int (u.1 2)) rfl dX3_guidePlace_10 ?_
    refine g_goto hX 23 dX3_guidePlace_13 (by decide) ?_
    have e9 : F_X3_guidePlace u = (u.1 2) := by simp only [F_X3_guidePlace, eq_false c_6, if_true, if_false]
    rw [e9]
    exact g_iret hX dX3_guidePlace_23 rfl rfl
/-! X3_guideGoesBack -/
def rmX3_guideGoesBack : Room := { frames := 0, cells := 0, slots := 0, locals := 0 }
theorem k_X3_guideGoesBack_0 : Cond.fieldLink RX3 22 RX3 (TX3 3).2.1 (TX3 3).2.2.1 ∈ wsX3_guideGoesBack := List.mem_of_getElem? (i := 1) rfl
theorem h_X3_guideGoesBack_X3 : ∀ w ∈ u_ws RX3 TX3 4, w ∈ wsX3_guideGoesBack := fun w h => List.mem_cons_of_mem _ (List.mem_append_right _ h)
def F_X3_guideGoesBack (u : WV) : Int32 :=
  (if (u.1 2) < 11 then 0 else 1)
set_option maxHeartbeats 4000000 in
set_option maxRecDepth 100000 in
theorem c_X3_guideGoesBack (l : Launch) (T : TT) (b0 : Nat) (w h : Nat) (u : WV)  : ConI l T b0 yX3_guideGoesBack wsX3_guideGoesBack rmX3_guideGoesBack [.ref w] (wWr T w h u) (F_X3_guideGoesBack u) (wWr T w h u) := by
  refine conI_of (cc := cX3_guideGoesBack) (maxL := 1) (ret := (some .boolean)) (lv0 := [(0, .ref w)]) (by decide +kernel) rfl (Nat.le_of_ble_eq_true rfl) rfl (fun X hX => ?_)
  refine g_aload_n hX dX3_guideGoesBack_0 rfl 0 rfl ?_
  refine g_get hX 3 h_X3_guideGoesBack_X3 0 rfl rfl 3 (by decide) k_X3_guideGoesBack_0 rfl (v := .int (u.1 2)) rfl dX3_guideGoesBack_1 ?_
  refine g_bipush hX (v := 11) dX3_guideGoesBack_4 (by decide) ?_
  refine g_icmp_lt hX 13 dX3_guideGoesBack_6 (by decide) (fun c_6 => ?_) (fun c_6 => ?_)
  · skip
    refine g_iconst hX (v := 0) dX3_guideGoesBack_13 (by decide) ?_
    have e9 : F_X3_guideGoesBack u = 0 := by simp only [F_X3_guideGoesBack, eq_true c_6, if_true, if_false]
    rw [e9]
    exact g_zret hX dX3_guideGoesBack_14 rfl rfl rfl
  · skip
    refine g_iconst hX (v := 1) dX3_guideGoesBack_9 (by decide) ?_
    refine g_goto hX 14 dX3_guideGoesBack_10 (by decide) ?_
    have e9 : F_X3_guideGoesBack u = 1 := by simp only [F_X3_guideGoesBack, eq_false c_6, if_true, if_false]
    rw [e9]
    exact g_zret hX dX3_guideGoesBack_14 rfl rfl rfl
/-! X3_heightAt -/
def rmX3_heightAt : Room := { frames := 0, cells := 0, slots := 0, locals := 0 }
theorem k_X3_heightAt_0 : Cond.fieldLink RX3 9 RX3 (TX3 0).2.1 (TX3 0).2.2.1 ∈ wsX3_heightAt := List.mem_of_getElem? (i := 1) rfl
theorem h_X3_heightAt_X3 : ∀ w ∈ u_ws RX3 TX3 4, w ∈ wsX3_heightAt := fun w h => List.mem_cons_of_mem _ (List.mem_append_right _ h)
def F_X3_heightAt (u : WV) (p1 : Int32) : Int32 :=
  (if p1 < 0 then 0 else (if 12 ≤ p1 then 0 else (u.2 (Int32.toNatClampNeg p1))))
set_option maxHeartbeats 4000000 in
set_option maxRecDepth 100000 in
theorem c_X3_heightAt (l : Launch) (T : TT) (b0 : Nat) (w h : Nat) (u : WV) (p1 : Int32)  : ConI l T b0 yX3_heightAt wsX3_heightAt rmX3_heightAt [.ref w, .int p1] (wWr T w h u) (F_X3_heightAt u p1) (wWr T w h u) := by
  refine conI_of (cc := cX3_heightAt) (maxL := 2) (ret := (some .int)) (lv0 := [(0, .ref w), (1, .int p1)]) (by decide +kernel) rfl (Nat.le_of_ble_eq_true rfl) rfl (fun X hX => ?_)
  refine g_iload_n hX dX3_heightAt_0 rfl 1 rfl ?_
  refine g_if_lt hX 22 dX3_heightAt_1 (by decide) (fun c_1 => ?_) (fun c_1 => ?_)
  · skip
    refine g_iconst hX (v := 0) dX3_heightAt_22 (by decide) ?_
    have e9 : F_X3_heightAt u p1 = 0 := by simp only [F_X3_heightAt, eq_true c_1, if_true, if_false]
    rw [e9]
    exact g_iret hX dX3_heightAt_23 rfl rfl
  · skip
    refine g_iload_n hX dX3_heightAt_4 rfl 1 rfl ?_
    refine g_aload_n hX dX3_heightAt_5 rfl 0 rfl ?_
    refine g_get hX 3 h_X3_heightAt_X3 0 rfl rfl 0 (by decide) k_X3_heightAt_0 rfl (v := .ref h) rfl dX3_heightAt_6 ?_
    refine g_alen hX 1 0 rfl rfl (v := 12) rfl dX3_heightAt_9 ?_
    refine g_icmp_ge hX 22 dX3_heightAt_10 (by decide) (fun c_10 => ?_) (fun c_10 => ?_)
    · skip
      refine g_iconst hX (v := 0) dX3_heightAt_22 (by decide) ?_
      have e9 : F_X3_heightAt u p1 = 0 := by simp only [F_X3_heightAt, eq_false c_1, eq_true c_10, if_true, if_false]
      rw [e9]
      exact g_iret hX dX3_heightAt_23 rfl rfl
    · skip
      refine g_aload_n hX dX3_heightAt_13 rfl 0 rfl ?_
      refine g_get hX 3 h_X3_heightAt_X3 0 rfl rfl 0 (by decide) k_X3_heightAt_0 rfl (v := .ref h) rfl dX3_heightAt_14 ?_
      refine g_iload_n hX dX3_heightAt_17 rfl 1 rfl ?_
      refine g_iald hX 1 rfl (vin_of c_1 c_10 (by decide)) (v := (u.2 (Int32.toNatClampNeg p1))) (congrArg _ rfl) dX3_heightAt_18 ?_
      refine g_goto hX 23 dX3_heightAt_19 (by decide) ?_
      have e9 : F_X3_heightAt u p1 = (u.2 (Int32.toNatClampNeg p1)) := by simp only [F_X3_heightAt, eq_false c_1, eq_false c_10, if_true, if_false]
      rw [e9]
      exact g_iret hX dX3_heightAt_23 rfl rfl
/-! X3_isFull -/
def rmX3_isFull : Room := { frames := 0, cells := 0, slots := 0, locals := 0 }
theorem k_X3_isFull_0 : Cond.fieldLink RX3 19 RX3 (TX3 2).2.1 (TX3 2).2.2.1 ∈ wsX3_isFull := List.mem_of_getElem? (i := 1) rfl
theorem h_X3_isFull_X3 : ∀ w ∈ u_ws RX3 TX3 4, w ∈ wsX3_isFull := fun w h => List.mem_cons_of_mem _ (List.mem_append_right _ h)
def F_X3_isFull (u : WV) : Int32 :=
  (if (u.1 1) < 200 then 0 else 1)
set_option maxHeartbeats 4000000 in
set_option maxRecDepth 100000 in
theorem c_X3_isFull (l : Launch) (T : TT) (b0 : Nat) (w h : Nat) (u : WV)  : ConI l T b0 yX3_isFull wsX3_isFull rmX3_isFull [.ref w] (wWr T w h u) (F_X3_isFull u) (wWr T w h u) := by
  refine conI_of (cc := cX3_isFull) (maxL := 1) (ret := (some .boolean)) (lv0 := [(0, .ref w)]) (by decide +kernel) rfl (Nat.le_of_ble_eq_true rfl) rfl (fun X hX => ?_)
  refine g_aload_n hX dX3_isFull_0 rfl 0 rfl ?_
  refine g_get hX 3 h_X3_isFull_X3 0 rfl rfl 2 (by decide) k_X3_isFull_0 rfl (v := .int (u.1 1)) rfl dX3_isFull_1 ?_
  refine g_sipush hX (v := 200) dX3_isFull_4 (by decide) ?_
  refine g_icmp_lt hX 14 dX3_isFull_7 (by decide) (fun c_7 => ?_) (fun c_7 => ?_)
  · skip
    refine g_iconst hX (v := 0) dX3_isFull_14 (by decide) ?_
    have e9 : F_X3_isFull u = 0 := by simp only [F_X3_isFull, eq_true c_7, if_true, if_false]
    rw [e9]
    exact g_zret hX dX3_isFull_15 rfl rfl rfl
  · skip
    refine g_iconst hX (v := 1) dX3_isFull_10 (by decide) ?_
    refine g_goto hX 15 dX3_isFull_11 (by decide) ?_
    have e9 : F_X3_isFull u = 1 := by simp only [F_X3_isFull, eq_false c_7, if_true, if_false]
    rw [e9]
    exact g_zret hX dX3_isFull_15 rfl rfl rfl
/-! X3_isRibbonOver -/
def rmX3_isRibbonOver : Room := { frames := 1, cells := 0, slots := 0, locals := 21 }
def F_X3_isRibbonOver (u : WV) (p1 : Int32) (p2 : Int32) : Int32 :=
  (if ((F_X3_heightAt u p1) - (F_X3_heightAt u p2)) < 6 then 0 else 1)
set_option maxHeartbeats 4000000 in
set_option maxRecDepth 100000 in
theorem c_X3_isRibbonOver (l : Launch) (T : TT) (b0 : Nat) (w h : Nat) (u : WV) (p1 : Int32) (p2 : Int32)  : ConI l T b0 yX3_isRibbonOver wsX3_isRibbonOver rmX3_isRibbonOver [.ref w, .int p1, .int p2] (wWr T w h u) (F_X3_isRibbonOver u p1 p2) (wWr T w h u) := by
  refine conI_of (cc := cX3_isRibbonOver) (maxL := 3) (ret := (some .boolean)) (lv0 := [(0, .ref w), (1, .int p1), (2, .int p2)]) (by decide +kernel) rfl (Nat.le_of_ble_eq_true rfl) rfl (fun X hX => ?_)
  refine g_aload_n hX dX3_isRibbonOver_0 rfl 0 rfl ?_
  refine g_iload_n hX dX3_isRibbonOver_1 rfl 1 rfl ?_
  refine g_cV_I hX (n := 1) (As := [.int p1]) (wc := wWr T w h u) (w1 := wWr T w h u) (rv := (F_X3_heightAt u p1)) (st := []) 0 rfl rfl (c_X3_heightAt (xL X) T (xB X) w h u p1) gX3_isRibbonOver_X3_heightAt rfl rfl rfl ⟨Nat.le_of_ble_eq_true rfl, Nat.le_of_ble_eq_true rfl⟩ ⟨Nat.zero_le _, Nat.zero_le _⟩ ⟨by decide +kernel, by decide +kernel, by decide +kernel⟩ rfl [0, 1] rfl rfl (by decide) rfl (Nat.le_of_ble_eq_true rfl) dX3_isRibbonOver_2 (ws' := wWr T w h u) rfl ?_
  refine g_aload_n hX dX3_isRibbonOver_5 rfl 0 rfl ?_
  refine g_iload_n hX dX3_isRibbonOver_6 rfl 2 rfl ?_
  refine g_cV_I hX (n := 1) (As := [.int p2]) (wc := wWr T w h u) (w1 := wWr T w h u) (rv := (F_X3_heightAt u p2)) (st := [.int (F_X3_heightAt u p1)]) 0 rfl rfl (c_X3_heightAt (xL X) T (xB X) w h u p2) gX3_isRibbonOver_X3_heightAt rfl rfl rfl ⟨Nat.le_of_ble_eq_true rfl, Nat.le_of_ble_eq_true rfl⟩ ⟨Nat.zero_le _, Nat.zero_le _⟩ ⟨by decide +kernel, by decide +kernel, by decide +kernel⟩ rfl [0, 1] rfl rfl (by decide) rfl (Nat.le_of_ble_eq_true rfl) dX3_isRibbonOver_7 (ws' := wWr T w h u) rfl ?_
  refine g_isub hX dX3_isRibbonOver_10 ?_
  refine g_bipush hX (v := 6) dX3_isRibbonOver_11 (by decide) ?_
  refine g_icmp_lt hX 20 dX3_isRibbonOver_13 (by decide) (fun c_13 => ?_) (fun c_13 => ?_)
  · skip
    refine g_iconst hX (v := 0) dX3_isRibbonOver_20 (by decide) ?_
    have e9 : F_X3_isRibbonOver u p1 p2 = 0 := by simp only [F_X3_isRibbonOver, eq_true c_13, if_true, if_false]
    rw [e9]
    exact g_zret hX dX3_isRibbonOver_21 rfl rfl rfl
  · skip
    refine g_iconst hX (v := 1) dX3_isRibbonOver_16 (by decide) ?_
    refine g_goto hX 21 dX3_isRibbonOver_17 (by decide) ?_
    have e9 : F_X3_isRibbonOver u p1 p2 = 1 := by simp only [F_X3_isRibbonOver, eq_false c_13, if_true, if_false]
    rw [e9]
    exact g_zret hX dX3_isRibbonOver_21 rfl rfl rfl
/-! X3_isRibbon -/
def rmX3_isRibbon : Room := { frames := 2, cells := 0, slots := 0, locals := 43 }
def F_X3_isRibbon (u : WV) (p1 : Int32) : Int32 :=
  (if p1 = 0 then (if p1 = 11 then 1 else (if (F_X3_isRibbonOver u p1 (p1 + 1)) = 0 then 0 else 1)) else (if (F_X3_isRibbonOver u p1 (p1 - 1)) = 0 then (if p1 = 11 then 0 else (if (F_X3_isRibbonOver u p1 (p1 + 1)) = 0 then 0 else 0)) else (if p1 = 11 then 1 else (if (F_X3_isRibbonOver u p1 (p1 + 1)) = 0 then 0 else 1))))
set_option maxHeartbeats 4000000 in
set_option maxRecDepth 100000 in
theorem c_X3_isRibbon (l : Launch) (T : TT) (b0 : Nat) (w h : Nat) (u : WV) (p1 : Int32)  : ConI l T b0 yX3_isRibbon wsX3_isRibbon rmX3_isRibbon [.ref w, .int p1] (wWr T w h u) (F_X3_isRibbon u p1) (wWr T w h u) := by
  refine conI_of (cc := cX3_isRibbon) (maxL := 4) (ret := (some .boolean)) (lv0 := [(0, .ref w), (1, .int p1)]) (by decide +kernel) rfl (Nat.le_of_ble_eq_true rfl) rfl (fun X hX => ?_)
  refine g_iload_n hX dX3_isRibbon_0 rfl 1 rfl ?_
  refine g_if_eq hX 15 dX3_isRibbon_1 (by decide) (fun c_1 => ?_) (fun c_1 => ?_)
  · skip
    refine g_iconst hX (v := 1) dX3_isRibbon_15 (by decide) ?_
    refine g_goto hX 20 dX3_isRibbon_16 (by decide) ?_
    refine g_istore_n hX (lv' := [(2, .int 1), (0, .ref w), (1, .int p1)]) dX3_isRibbon_20 rfl (by decide) rfl ?_
    refine g_iload_n hX dX3_isRibbon_21 rfl 2 rfl ?_
    refine g_bipush hX (v := 11) dX3_isRibbon_22 (by decide) ?_
    refine g_icmp_eq hX 38 dX3_isRibbon_24 (by decide) (fun c_24 => ?_) (fun c_24 => ?_)
    · skip
      refine g_iconst hX (v := 1) dX3_isRibbon_38 (by decide) ?_
      refine g_goto hX 43 dX3_isRibbon_39 (by decide) ?_
      refine g_istore_n hX (lv' := [(3, .int 1), (2, .int 1), (0, .ref w), (1, .int p1)]) dX3_isRibbon_43 rfl (by decide) rfl ?_
      refine g_iload_n hX dX3_isRibbon_44 rfl 1 rfl ?_
      refine g_if_eq hX 56 dX3_isRibbon_45 (by decide) (fun c0 => absurd c0 (by decide)) (fun _ => ?_)
      refine g_iload_n hX dX3_isRibbon_48 rfl 0 rfl ?_
      refine g_if_eq hX 56 dX3_isRibbon_49 (by decide) (fun c0 => absurd c0 (by decide)) (fun _ => ?_)
      refine g_iconst hX (v := 1) dX3_isRibbon_52 (by decide) ?_
      refine g_goto hX 57 dX3_isRibbon_53 (by decide) ?_
      have e9 : F_X3_isRibbon u p1 = 1 := by simp only [F_X3_isRibbon, eq_true c_1, eq_true c_24, if_true, if_false]
      rw [e9]
      exact g_zret hX dX3_isRibbon_57 rfl rfl rfl
    · skip
      refine g_aload_n hX dX3_isRibbon_27 rfl 1 rfl ?_
      refine g_iload_n hX dX3_isRibbon_28 rfl 2 rfl ?_
      refine g_iload_n hX dX3_isRibbon_29 rfl 2 rfl ?_
      refine g_iconst hX (v := 1) dX3_isRibbon_30 (by decide) ?_
      refine g_iadd hX dX3_isRibbon_31 ?_
      refine g_cV_I hX (n := 2) (As := [.int p1, .int (p1 + 1)]) (wc := wWr T w h u) (w1 := wWr T w h u) (rv := (F_X3_isRibbonOver u p1 (p1 + 1))) (st := []) 0 rfl rfl (c_X3_isRibbonOver (xL X) T (xB X) w h u p1 (p1 + 1)) gX3_isRibbon_X3_isRibbonOver rfl rfl rfl ⟨Nat.le_of_ble_eq_true rfl, Nat.le_of_ble_eq_true rfl⟩ ⟨Nat.zero_le _, Nat.zero_le _⟩ ⟨by decide +kernel, by decide +kernel, by decide +kernel⟩ rfl [0, 1] rfl rfl (by decide) rfl (Nat.le_of_ble_eq_true rfl) dX3_isRibbon_32 (ws' := wWr T w h u) rfl ?_
      refine g_if_eq hX 42 dX3_isRibbon_35 (by decide) (fun c_35 => ?_) (fun c_35 => ?_)
      · skip
        refine g_iconst hX (v := 0) dX3_isRibbon_42 (by decide) ?_
        refine g_istore_n hX (lv' := [(3, .int 0), (2, .int 1), (0, .ref w), (1, .int p1)]) dX3_isRibbon_43 rfl (by decide) rfl ?_
        refine g_iload_n hX dX3_isRibbon_44 rfl 1 rfl ?_
        refine g_if_eq hX 56 dX3_isRibbon_45 (by decide) (fun c0 => absurd c0 (by decide)) (fun _ => ?_)
        refine g_iload_n hX dX3_isRibbon_48 rfl 0 rfl ?_
        refine g_if_eq hX 56 dX3_isRibbon_49 (by decide) (fun _ => ?_) (fun c0 => absurd c0 (by decide))
        refine g_iconst hX (v := 0) dX3_isRibbon_56 (by decide) ?_
        have e9 : F_X3_isRibbon u p1 = 0 := by simp only [F_X3_isRibbon, eq_true c_1, eq_false c_24, eq_true c_35, if_true, if_false]
        rw [e9]
        exact g_zret hX dX3_isRibbon_57 rfl rfl rfl
      · skip
        refine g_iconst hX (v := 1) dX3_isRibbon_38 (by decide) ?_
        refine g_goto hX 43 dX3_isRibbon_39 (by decide) ?_
        refine g_istore_n hX (lv' := [(3, .int 1), (2, .int 1), (0, .ref w), (1, .int p1)]) dX3_isRibbon_43 rfl (by decide) rfl ?_
        refine g_iload_n hX dX3_isRibbon_44 rfl 1 rfl ?_
        refine g_if_eq hX 56 dX3_isRibbon_45 (by decide) (fun c0 => absurd c0 (by decide)) (fun _ => ?_)
        refine g_iload_n hX dX3_isRibbon_48 rfl 0 rfl ?_
        refine g_if_eq hX 56 dX3_isRibbon_49 (by decide) (fun c0 => absurd c0 (by decide)) (fun _ => ?_)
        refine g_iconst hX (v := 1) dX3_isRibbon_52 (by decide) ?_
        refine g_goto hX 57 dX3_isRibbon_53 (by decide) ?_
        have e9 : F_X3_isRibbon u p1 = 1 := by simp only [F_X3_isRibbon, eq_true c_1, eq_false c_24, eq_false c_35, if_true, if_false]
        rw [e9]
        exact g_zret hX dX3_isRibbon_57 rfl rfl rfl
  · skip
    refine g_aload_n hX dX3_isRibbon_4 rfl 0 rfl ?_
    refine g_iload_n hX dX3_isRibbon_5 rfl 1 rfl ?_
    refine g_iload_n hX dX3_isRibbon_6 rfl 1 rfl ?_
    refine g_iconst hX (v := 1) dX3_isRibbon_7 (by decide) ?_
    refine g_isub hX dX3_isRibbon_8 ?_
    refine g_cV_I hX (n := 2) (As := [.int p1, .int (p1 - 1)]) (wc := wWr T w h u) (w1 := wWr T w h u) (rv := (F_X3_isRibbonOver u p1 (p1 - 1))) (st := []) 0 rfl rfl (c_X3_isRibbonOver (xL X) T (xB X) w h u p1 (p1 - 1)) gX3_isRibbon_X3_isRibbonOver rfl rfl rfl ⟨Nat.le_of_ble_eq_true rfl, Nat.le_of_ble_eq_true rfl⟩ ⟨Nat.zero_le _, Nat.zero_le _⟩ ⟨by decide +kernel, by decide +kernel, by decide +kernel⟩ rfl [0, 1] rfl rfl (by decide) rfl (Nat.le_of_ble_eq_true rfl) dX3_isRibbon_9 (ws' := wWr T w h u) rfl ?_
    refine g_if_eq hX 19 dX3_isRibbon_12 (by decide) (fun c_12 => ?_) (fun c_12 => ?_)
    · skip
      refine g_iconst hX (v := 0) dX3_isRibbon_19 (by decide) ?_
      refine g_istore_n hX (lv' := [(2, .int 0), (0, .ref w), (1, .int p1)]) dX3_isRibbon_20 rfl (by decide) rfl ?_
      refine g_iload_n hX dX3_isRibbon_21 rfl 2 rfl ?_
      refine g_bipush hX (v := 11) dX3_isRibbon_22 (by decide) ?_
      refine g_icmp_eq hX 38 dX3_isRibbon_24 (by decide) (fun c_24 => ?_) (fun c_24 => ?_)
      · skip
        refine g_iconst hX (v := 1) dX3_isRibbon_38 (by decide) ?_
        refine g_goto hX 43 dX3_isRibbon_39 (by decide) ?_
        refine g_istore_n hX (lv' := [(3, .int 1), (2, .int 0), (0, .ref w), (1, .int p1)]) dX3_isRibbon_43 rfl (by decide) rfl ?_
        refine g_iload_n hX dX3_isRibbon_44 rfl 1 rfl ?_
        refine g_if_eq hX 56 dX3_isRibbon_45 (by decide) (fun _ => ?_) (fun c0 => absurd c0 (by decide))
        refine g_iconst hX (v := 0) dX3_isRibbon_56 (by decide) ?_
        have e9 : F_X3_isRibbon u p1 = 0 := by simp only [F_X3_isRibbon, eq_false c_1, eq_true c_12, eq_true c_24, if_true, if_false]
        rw [e9]
        exact g_zret hX dX3_isRibbon_57 rfl rfl rfl
      · skip
        refine g_aload_n hX dX3_isRibbon_27 rfl 1 rfl ?_
        refine g_iload_n hX dX3_isRibbon_28 rfl 2 rfl ?_
        refine g_iload_n hX dX3_isRibbon_29 rfl 2 rfl ?_
        refine g_iconst hX (v := 1) dX3_isRibbon_30 (by decide) ?_
        refine g_iadd hX dX3_isRibbon_31 ?_
        refine g_cV_I hX (n := 2) (As := [.int p1, .int (p1 + 1)]) (wc := wWr T w h u) (w1 := wWr T w h u) (rv := (F_X3_isRibbonOver u p1 (p1 + 1))) (st := []) 0 rfl rfl (c_X3_isRibbonOver (xL X) T (xB X) w h u p1 (p1 + 1)) gX3_isRibbon_X3_isRibbonOver rfl rfl rfl ⟨Nat.le_of_ble_eq_true rfl, Nat.le_of_ble_eq_true rfl⟩ ⟨Nat.zero_le _, Nat.zero_le _⟩ ⟨by decide +kernel, by decide +kernel, by decide +kernel⟩ rfl [0, 1] rfl rfl (by decide) rfl (Nat.le_of_ble_eq_true rfl) dX3_isRibbon_32 (ws' := wWr T w h u) rfl ?_
        refine g_if_eq hX 42 dX3_isRibbon_35 (by decide) (fun c_35 => ?_) (fun c_35 => ?_)
        · skip
          refine g_iconst hX (v := 0) dX3_isRibbon_42 (by decide) ?_
          refine g_istore_n hX (lv' := [(3, .int 0), (2, .int 0), (0, .ref w), (1, .int p1)]) dX3_isRibbon_43 rfl (by decide) rfl ?_
          refine g_iload_n hX dX3_isRibbon_44 rfl 1 rfl ?_
          refine g_if_eq hX 56 dX3_isRibbon_45 (by decide) (fun _ => ?_) (fun c0 => absurd c0 (by decide))
          refine g_iconst hX (v := 0) dX3_isRibbon_56 (by decide) ?_
          have e9 : F_X3_isRibbon u p1 = 0 := by simp only [F_X3_isRibbon, eq_false c_1, eq_true c_12, eq_false c_24, eq_true c_35, if_true, if_false]
          rw [e9]
          exact g_zret hX dX3_isRibbon_57 rfl rfl rfl
        · skip
          refine g_iconst hX (v := 1) dX3_isRibbon_38 (by decide) ?_
          refine g_goto hX 43 dX3_isRibbon_39 (by decide) ?_
          refine g_istore_n hX (lv' := [(3, .int 1), (2, .int 0), (0, .ref w), (1, .int p1)]) dX3_isRibbon_43 rfl (by decide) rfl ?_
          refine g_iload_n hX dX3_isRibbon_44 rfl 1 rfl ?_
          refine g_if_eq hX 56 dX3_isRibbon_45 (by decide) (fun _ => ?_) (fun c0 => absurd c0 (by decide))
          refine g_iconst hX (v := 0) dX3_isRibbon_56 (by decide) ?_
          have e9 : F_X3_isRibbon u p1 = 0 := by simp only [F_X3_isRibbon, eq_false c_1, eq_true c_12, eq_false c_24, eq_false c_35, if_true, if_false]
          rw [e9]
          exact g_zret hX dX3_isRibbon_57 rfl rfl rfl
    · skip
      refine g_iconst hX (v := 1) dX3_isRibbon_15 (by decide) ?_
      refine g_goto hX 20 dX3_isRibbon_16 (by decide) ?_
      refine g_istore_n hX (lv' := [(2, .int 1), (0, .ref w), (1, .int p1)]) dX3_isRibbon_20 rfl (by decide) rfl ?_
      refine g_iload_n hX dX3_isRibbon_21 rfl 2 rfl ?_
      refine g_bipush hX (v := 11) dX3_isRibbon_22 (by decide) ?_
      refine g_icmp_eq hX 38 dX3_isRibbon_24 (by decide) (fun c_24 => ?_) (fun c_24 => ?_)
      · skip
        refine g_iconst hX (v := 1) dX3_isRibbon_38 (by decide) ?_
        refine g_goto hX 43 dX3_isRibbon_39 (by decide) ?_
        refine g_istore_n hX (lv' := [(3, .int 1), (2, .int 1), (0, .ref w), (1, .int p1)]) dX3_isRibbon_43 rfl (by decide) rfl ?_
        refine g_iload_n hX dX3_isRibbon_44 rfl 1 rfl ?_
        refine g_if_eq hX 56 dX3_isRibbon_45 (by decide) (fun c0 => absurd c0 (by decide)) (fun _ => ?_)
        refine g_iload_n hX dX3_isRibbon_48 rfl 0 rfl ?_
        refine g_if_eq hX 56 dX3_isRibbon_49 (by decide) (fun c0 => absurd c0 (by decide)) (fun _ => ?_)
        refine g_iconst hX (v := 1) dX3_isRibbon_52 (by decide) ?_
        refine g_goto hX 57 dX3_isRibbon_53 (by decide) ?_
        have e9 : F_X3_isRibbon u p1 = 1 := by simp only [F_X3_isRibbon, eq_false c_1, eq_false c_12, eq_true c_24, if_true, if_false]
        rw [e9]
        exact g_zret hX dX3_isRibbon_57 rfl rfl rfl
      · skip
        refine g_aload_n hX dX3_isRibbon_27 rfl 1 rfl ?_
        refine g_iload_n hX dX3_isRibbon_28 rfl 2 rfl ?_
        refine g_iload_n hX dX3_isRibbon_29 rfl 2 rfl ?_
        refine g_iconst hX (v := 1) dX3_isRibbon_30 (by decide) ?_
        refine g_iadd hX dX3_isRibbon_31 ?_
        refine g_cV_I hX (n := 2) (As := [.int p1, .int (p1 + 1)]) (wc := wWr T w h u) (w1 := wWr T w h u) (rv := (F_X3_isRibbonOver u p1 (p1 + 1))) (st := []) 0 rfl rfl (c_X3_isRibbonOver (xL X) T (xB X) w h u p1 (p1 + 1)) gX3_isRibbon_X3_isRibbonOver rfl rfl rfl ⟨Nat.le_of_ble_eq_true rfl, Nat.le_of_ble_eq_true rfl⟩ ⟨Nat.zero_le _, Nat.zero_le _⟩ ⟨by decide +kernel, by decide +kernel, by decide +kernel⟩ rfl [0, 1] rfl rfl (by decide) rfl (Nat.le_of_ble_eq_true rfl) dX3_isRibbon_32 (ws' := wWr T w h u) rfl ?_
        refine g_if_eq hX 42 dX3_isRibbon_35 (by decide) (fun c_35 => ?_) (fun c_35 => ?_)
        · skip
          refine g_iconst hX (v := 0) dX3_isRibbon_42 (by decide) ?_
          refine g_istore_n hX (lv' := [(3, .int 0), (2, .int 1), (0, .ref w), (1, .int p1)]) dX3_isRibbon_43 rfl (by decide) rfl ?_
          refine g_iload_n hX dX3_isRibbon_44 rfl 1 rfl ?_
          refine g_if_eq hX 56 dX3_isRibbon_45 (by decide) (fun c0 => absurd c0 (by decide)) (fun _ => ?_)
          refine g_iload_n hX dX3_isRibbon_48 rfl 0 rfl ?_
          refine g_if_eq hX 56 dX3_isRibbon_49 (by decide) (fun _ => ?_) (fun c0 => absurd c0 (by decide))
          refine g_iconst hX (v := 0) dX3_isRibbon_56 (by decide) ?_
          have e9 : F_X3_isRibbon u p1 = 0 := by simp only [F_X3_isRibbon, eq_false c_1, eq_false c_12, eq_false c_24, eq_true c_35, if_true, if_false]
          rw [e9]
          exact g_zret hX dX3_isRibbon_57 rfl rfl rfl
        · skip
          refine g_iconst hX (v := 1) dX3_isRibbon_38 (by decide) ?_
          refine g_goto hX 43 dX3_isRibbon_39 (by decide) ?_
          refine g_istore_n hX (lv' := [(3, .int 1), (2, .int 1), (0, .ref w), (1, .int p1)]) dX3_isRibbon_43 rfl (by decide) rfl ?_
          refine g_iload_n hX dX3_isRibbon_44 rfl 1 rfl ?_
          refine g_if_eq hX 56 dX3_isRibbon_45 (by decide) (fun c0 => absurd c0 (by decide)) (fun _ => ?_)
          refine g_iload_n hX dX3_isRibbon_48 rfl 0 rfl ?_
          refine g_if_eq hX 56 dX3_isRibbon_49 (by decide) (fun c0 => absurd c0 (by decide)) (fun _ => ?_)
          refine g_iconst hX (v := 1) dX3_isRibbon_52 (by decide) ?_
          refine g_goto hX 57 dX3_isRibbon_53 (by decide) ?_
          have e9 : F_X3_isRibbon u p1 = 1 := by simp only [F_X3_isRibbon, eq_false c_1, eq_false c_12, eq_false c_24, eq_false c_35, if_true, if_false]
          rw [e9]
          exact g_zret hX dX3_isRibbon_57 rfl rfl rfl
/-! X3_layWrap -/
def rmX3_layWrap : Room := { frames := 1, cells := 0, slots := 0, locals := 20 }
theorem k_X3_layWrap_0 : Cond.fieldLink RX3 9 RX3 (TX3 0).2.1 (TX3 0).2.2.1 ∈ wsX3_layWrap := List.mem_of_getElem? (i := 1) rfl
theorem h_X3_layWrap_X3 : ∀ w ∈ u_ws RX3 TX3 4, w ∈ wsX3_layWrap := fun w h => List.mem_cons_of_mem _ (List.mem_append_right _ h)
theorem k_X3_layWrap_1 : Cond.fieldLink RX3 15 RX3 (TX3 1).2.1 (TX3 1).2.2.1 ∈ wsX3_layWrap := List.mem_of_getElem? (i := 2) rfl
theorem k_X3_layWrap_2 : Cond.fieldLink RX3 19 RX3 (TX3 2).2.1 (TX3 2).2.2.1 ∈ wsX3_layWrap := List.mem_of_getElem? (i := 3) rfl
theorem k_X3_layWrap_3 : Cond.methodLink RX3 45 Lib.Math.max.name ∈ wsX3_layWrap := List.mem_of_getElem? (i := 4) rfl
theorem k_X3_layWrap_4 : Cond.static Lib.Math.max.name ∈ wsX3_layWrap := List.mem_of_getElem? (i := 5) rfl
theorem k_X3_layWrap_5 : Cond.initialized "java/lang/Math" ∈ wsX3_layWrap := List.mem_of_getElem? (i := 6) rfl
theorem k_X3_layWrap_6 : Cond.code Lib.Math.max.name Lib.Math.max.code 2 (some .int) ∈ wsX3_layWrap := List.mem_of_getElem? (i := 7) rfl
def F_X3_layWrap (u : WV) : WV :=
  (if (F_X3_guidePlace u) < 0 then u else (if 12 ≤ (F_X3_guidePlace u) then u else (upd (upd u.1 0 ((u.1 0) + 1)) 1 (if (u.1 1) < ((upd u.2 (Int32.toNatClampNeg (F_X3_guidePlace u)) ((u.2 (Int32.toNatClampNeg (F_X3_guidePlace u))) + 1)) (Int32.toNatClampNeg (F_X3_guidePlace u))) then ((upd u.2 (Int32.toNatClampNeg (F_X3_guidePlace u)) ((u.2 (Int32.toNatClampNeg (F_X3_guidePlace u))) + 1)) (Int32.toNatClampNeg (F_X3_guidePlace u))) else (u.1 1)), (upd u.2 (Int32.toNatClampNeg (F_X3_guidePlace u)) ((u.2 (Int32.toNatClampNeg (F_X3_guidePlace u))) + 1)))))
set_option maxHeartbeats 4000000 in
set_option maxRecDepth 100000 in
theorem c_X3_layWrap (l : Launch) (T : TT) (b0 : Nat) (w h : Nat) (u : WV)  : ConV l T b0 yX3_layWrap wsX3_layWrap rmX3_layWrap [.ref w] (wWr T w h u) (wWr T w h (F_X3_layWrap u)) := by
  refine conV_of (cc := cX3_layWrap) (maxL := 2) (ret := none) (lv0 := [(0, .ref w)]) (by decide +kernel) rfl (Nat.le_of_ble_eq_true rfl) rfl (fun X hX => ?_)
  refine g_aload_n hX dX3_layWrap_0 rfl 0 rfl ?_
  refine g_cV_I hX (n := 0) (As := []) (wc := wWr T w h u) (w1 := wWr T w h u) (rv := (F_X3_guidePlace u)) (st := []) 0 rfl rfl (c_X3_guidePlace (xL X) T (xB X) w h u) gX3_layWrap_X3_guidePlace rfl rfl rfl ⟨Nat.le_of_ble_eq_true rfl, Nat.le_of_ble_eq_true rfl⟩ ⟨Nat.zero_le _, Nat.zero_le _⟩ ⟨by decide +kernel, by decide +kernel, by decide +kernel⟩ rfl [0, 1] rfl rfl (by decide) rfl (Nat.le_of_ble_eq_true rfl) dX3_layWrap_1 (ws' := wWr T w h u) rfl ?_
  refine g_istore_n hX (lv' := [(1, .int (F_X3_guidePlace u)), (0, .ref w)]) dX3_layWrap_4 rfl (by decide) rfl ?_
  refine g_iload_n hX dX3_layWrap_5 rfl 0 rfl ?_
  refine g_if_lt hX 55 dX3_layWrap_6 (by decide) (fun c_6 => ?_) (fun c_6 => ?_)
  · skip
    have e9 : F_X3_layWrap u = u := by simp only [F_X3_layWrap, eq_true c_6, if_true, if_false]
    rw [e9]
    exact g_vret hX dX3_layWrap_55 rfl
  · skip
    refine g_iload_n hX dX3_layWrap_9 rfl 0 rfl ?_
    refine g_aload_n hX dX3_layWrap_10 rfl 1 rfl ?_
    refine g_get hX 3 h_X3_layWrap_X3 0 rfl rfl 0 (by decide) k_X3_layWrap_0 rfl (v := .ref h) rfl dX3_layWrap_11 ?_
    refine g_alen hX 1 0 rfl rfl (v := 12) rfl dX3_layWrap_14 ?_
    refine g_icmp_ge hX 55 dX3_layWrap_15 (by decide) (fun c_15 => ?_) (fun c_15 => ?_)
    · skip
      have e9 : F_X3_layWrap u = u := by simp only [F_X3_layWrap, eq_false c_6, eq_true c_15, if_true, if_false]
      rw [e9]
      exact g_vret hX dX3_layWrap_55 rfl
    · skip
      refine g_aload_n hX dX3_layWrap_18 rfl 1 rfl ?_
      refine g_get hX 3 h_X3_layWrap_X3 0 rfl rfl 0 (by decide) k_X3_layWrap_0 rfl (v := .ref h) rfl dX3_layWrap_19 ?_
      refine g_iload_n hX dX3_layWrap_22 rfl 0 rfl ?_
      refine g_dup2 hX dX3_layWrap_23 rfl rfl ?_
      refine g_iald hX 1 rfl (vin_of c_6 c_15 (by decide)) (v := (u.2 (Int32.toNatClampNeg (F_X3_guidePlace u)))) (congrArg _ rfl) dX3_layWrap_24 ?_
      refine g_iconst hX (v := 1) dX3_layWrap_25 (by decide) ?_
      refine g_iadd hX dX3_layWrap_26 ?_
      refine g_iast hX 1 rfl (vin_of c_6 c_15 (by decide)) dX3_layWrap_27 (ws' := wWr T w h (u.1, (upd u.2 (Int32.toNatClampNeg (F_X3_guidePlace u)) ((u.2 (Int32.toNatClampNeg (F_X3_guidePlace u))) + 1)))) rfl ?_
      refine g_aload_n hX dX3_layWrap_28 rfl 1 rfl ?_
      refine g_dup hX dX3_layWrap_29 rfl ?_
      refine g_get hX 3 h_X3_layWrap_X3 0 rfl rfl 1 (by decide) k_X3_layWrap_1 rfl (v := .int (u.1 0)) rfl dX3_layWrap_30 ?_
      refine g_iconst hX (v := 1) dX3_layWrap_33 (by decide) ?_
      refine g_iadd hX dX3_layWrap_34 ?_
      refine g_put hX 3 h_X3_layWrap_X3 0 rfl rfl 1 (by decide) tyX3 tyX3_ok nmX3 k_X3_layWrap_1 rfl rfl rfl rfl rfl (Nat.le_of_ble_eq_true rfl) dX3_layWrap_35 (ws' := wWr T w h (upd u.1 0 ((u.1 0) + 1), (upd u.2 (Int32.toNatClampNeg (F_X3_guidePlace u)) ((u.2 (Int32.toNatClampNeg (F_X3_guidePlace u))) + 1)))) rfl ?_
      refine g_aload_n hX dX3_layWrap_38 rfl 1 rfl ?_
      refine g_aload_n hX dX3_layWrap_39 rfl 1 rfl ?_
      refine g_get hX 3 h_X3_layWrap_X3 0 rfl rfl 2 (by decide) k_X3_layWrap_2 rfl (v := .int (u.1 1)) rfl dX3_layWrap_40 ?_
      refine g_aload_n hX dX3_layWrap_43 rfl 1 rfl ?_
      refine g_get hX 3 h_X3_layWrap_X3 0 rfl rfl 0 (by decide) k_X3_layWrap_0 rfl (v := .ref h) rfl dX3_layWrap_44 ?_
      refine g_iload_n hX dX3_layWrap_47 rfl 0 rfl ?_
      refine g_iald hX 1 rfl (vin_of c_6 c_15 (by decide)) (v := ((upd u.2 (Int32.toNatClampNeg (F_X3_guidePlace u)) ((u.2 (Int32.toNatClampNeg (F_X3_guidePlace u))) + 1)) (Int32.toNatClampNeg (F_X3_guidePlace u)))) (congrArg _ rfl) dX3_layWrap_48 ?_
      refine g_mmax hX k_X3_layWrap_3 k_X3_layWrap_4 k_X3_layWrap_5 k_X3_layWrap_6 (Nat.le_of_ble_eq_true rfl) (Nat.le_of_ble_eq_true rfl) (Nat.zero_le _) (Nat.zero_le _) dX3_layWrap_49 ?_
      refine g_put hX 3 h_X3_layWrap_X3 0 rfl rfl 2 (by decide) tyX3 tyX3_ok nmX3 k_X3_layWrap_2 rfl rfl rfl rfl rfl (Nat.le_of_ble_eq_true rfl) dX3_layWrap_52 (ws' := wWr T w h (upd (upd u.1 0 ((u.1 0) + 1)) 1 (if (u.1 1) < ((upd u.2 (Int32.toNatClampNeg (F_X3_guidePlace u)) ((u.2 (Int32.toNatClampNeg (F_X3_guidePlace u))) + 1)) (Int32.toNatClampNeg (F_X3_guidePlace u))) then ((upd u.2 (Int32.toNatClampNeg (F_X3_guidePlace u)) ((u.2 (Int32.toNatClampNeg (F_X3_guidePlace u))) + 1)) (Int32.toNatClampNeg (F_X3_guidePlace u))) else (u.1 1)), (upd u.2 (Int32.toNatClampNeg (F_X3_guidePlace u)) ((u.2 (Int32.toNatClampNeg (F_X3_guidePlace u))) + 1)))) rfl ?_
      have e9 : F_X3_layWrap u = (upd (upd u.1 0 ((u.1 0) + 1)) 1 (if (u.1 1) < ((upd u.2 (Int32.toNatClampNeg (F_X3_guidePlace u)) ((u.2 (Int32.toNatClampNeg (F_X3_guidePlace u))) + 1)) (Int32.toNatClampNeg (F_X3_guidePlace u))) then ((upd u.2 (Int32.toNatClampNeg (F_X3_guidePlace u)) ((u.2 (Int32.toNatClampNeg (F_X3_guidePlace u))) + 1)) (Int32.toNatClampNeg (F_X3_guidePlace u))) else (u.1 1)), (upd u.2 (Int32.toNatClampNeg (F_X3_guidePlace u)) ((u.2 (Int32.toNatClampNeg (F_X3_guidePlace u))) + 1))) := by simp only [F_X3_layWrap, eq_false c_6, eq_false c_15, if_true, if_false]
      rw [e9]
      exact g_vret hX dX3_layWrap_55 rfl
/-! X3_moveGuide -/
def rmX3_moveGuide : Room := { frames := 1, cells := 0, slots := 0, locals := 20 }
theorem k_X3_moveGuide_0 : Cond.fieldLink RX3 22 RX3 (TX3 3).2.1 (TX3 3).2.2.1 ∈ wsX3_moveGuide := List.mem_of_getElem? (i := 1) rfl
theorem h_X3_moveGuide_X3 : ∀ w ∈ u_ws RX3 TX3 4, w ∈ wsX3_moveGuide := fun w h => List.mem_cons_of_mem _ (List.mem_append_right _ h)
theorem k_X3_moveGuide_2 : Cond.initialized RX4 ∈ wsX3_moveGuide := List.mem_of_getElem? (i := 3) rfl
theorem k_X3_moveGuide_1 : Cond.static yX4_oneIf ∈ wsX3_moveGuide := List.mem_of_getElem? (i := 2) rfl
def F_X3_moveGuide (u : WV) (p1 : Int32) (p2 : Int32) (p3 : Int32) : WV :=
  (if p2 ≤ 0 then (upd u.1 2 ((((u.1 2) + p1) + (F_X4_oneIf 0)) - (((u.1 2) + p1) + (F_X4_oneIf 0)) / 22 * 22), u.2) else (if (8 - p2) ≤ 0 then (upd u.1 2 ((((u.1 2) + p1) + (F_X4_oneIf 0)) - (((u.1 2) + p1) + (F_X4_oneIf 0)) / 22 * 22), u.2) else (if (p3 - p3 / (8 - p2) * (8 - p2)) = 0 then (upd u.1 2 ((((u.1 2) + p1) + (F_X4_oneIf 1)) - (((u.1 2) + p1) + (F_X4_oneIf 1)) / 22 * 22), u.2) else (upd u.1 2 ((((u.1 2) + p1) + (F_X4_oneIf 0)) - (((u.1 2) + p1) + (F_X4_oneIf 0)) / 22 * 22), u.2))))
set_option maxHeartbeats 4000000 in
set_option maxRecDepth 100000 in
theorem c_X3_moveGuide (l : Launch) (T : TT) (b0 : Nat) (w h : Nat) (u : WV) (p1 : Int32) (p2 : Int32) (p3 : Int32)  : ConV l T b0 yX3_moveGuide wsX3_moveGuide rmX3_moveGuide [.ref w, .int p1, .int p2, .int p3] (wWr T w h u) (wWr T w h (F_X3_moveGuide u p1 p2 p3)) := by
  refine conV_of (cc := cX3_moveGuide) (maxL := 6) (ret := none) (lv0 := [(0, .ref w), (1, .int p1), (2, .int p2), (3, .int p3)]) (by decide +kernel) rfl (Nat.le_of_ble_eq_true rfl) rfl (fun X hX => ?_)
  refine g_bipush hX (v := 8) dX3_moveGuide_0 (by decide) ?_
  refine g_iload_n hX dX3_moveGuide_2 rfl 2 rfl ?_
  refine g_isub hX dX3_moveGuide_3 ?_
  refine g_istore hX (lv' := [(4, .int (8 - p2)), (0, .ref w), (1, .int p1), (2, .int p2), (3, .int p3)]) dX3_moveGuide_4 (by decide) rfl ?_
  refine g_iload_n hX dX3_moveGuide_6 rfl 3 rfl ?_
  refine g_if_le hX 26 dX3_moveGuide_7 (by decide) (fun c_7 => ?_) (fun c_7 => ?_)
  · skip
    refine g_iconst hX (v := 0) dX3_moveGuide_26 (by decide) ?_
    refine g_istore hX (lv' := [(5, .int 0), (4, .int (8 - p2)), (0, .ref w), (1, .int p1), (2, .int p2), (3, .int p3)]) dX3_moveGuide_27 (by decide) rfl ?_
    refine g_aload_n hX dX3_moveGuide_29 rfl 2 rfl ?_
    refine g_aload_n hX dX3_moveGuide_30 rfl 2 rfl ?_
    refine g_get hX 3 h_X3_moveGuide_X3 0 rfl rfl 3 (by decide) k_X3_moveGuide_0 rfl (v := .int (u.1 2)) rfl dX3_moveGuide_31 ?_
    refine g_iload_n hX dX3_moveGuide_34 rfl 3 rfl ?_
    refine g_iadd hX dX3_moveGuide_35 ?_
    refine g_iload hX dX3_moveGuide_36 0 rfl ?_
    refine g_cSN_I hX (n := 1) (As := [.int 0]) (wc := []) (w1 := []) (rv := (F_X4_oneIf 0)) (st := [.int ((u.1 2) + p1), .ref w]) (c_X4_oneIf (xL X) T (xB X) 0) ggX3_moveGuide_X4_oneIf 32 rfl k_X3_moveGuide_2 k_X3_moveGuide_1 rfl rfl rfl ⟨Nat.le_of_ble_eq_true rfl, Nat.le_of_ble_eq_true rfl⟩ ⟨Nat.zero_le _, Nat.zero_le _⟩ ⟨by decide +kernel, by decide +kernel, by decide +kernel⟩ rfl [] rfl rfl (by decide) rfl (Nat.le_of_ble_eq_true rfl) dX3_moveGuide_38 (ws' := wWr T w h u) rfl ?_
    refine g_iadd hX dX3_moveGuide_41 ?_
    refine g_bipush hX (v := 22) dX3_moveGuide_42 (by decide) ?_
    refine g_irem hX dX3_moveGuide_44 (by decide) ?_
    refine g_put hX 3 h_X3_moveGuide_X3 0 rfl rfl 3 (by decide) tyX3 tyX3_ok nmX3 k_X3_moveGuide_0 rfl rfl rfl rfl rfl (Nat.le_of_ble_eq_true rfl) dX3_moveGuide_45 (ws' := wWr T w h (upd u.1 2 ((((u.1 2) + p1) + (F_X4_oneIf 0)) - (((u.1 2) + p1) + (F_X4_oneIf 0)) / 22 * 22), u.2)) rfl ?_
    have e9 : F_X3_moveGuide u p1 p2 p3 = (upd u.1 2 ((((u.1 2) + p1) + (F_X4_oneIf 0)) - (((u.1 2) + p1) + (F_X4_oneIf 0)) / 22 * 22), u.2) := by simp only [F_X3_moveGuide, eq_true c_7, if_true, if_false]
    rw [e9]
    exact g_vret hX dX3_moveGuide_48 rfl
  · skip
    refine g_iload hX dX3_moveGuide_10 0 rfl ?_
    refine g_if_le hX 26 dX3_moveGuide_12 (by decide) (fun c_12 => ?_) (fun c_12 => ?_)
    · skip
      refine g_iconst hX (v := 0) dX3_moveGuide_26 (by decide) ?_
      refine g_istore hX (lv' := [(5, .int 0), (4, .int (8 - p2)), (0, .ref w), (1, .int p1), (2, .int p2), (3, .int p3)]) dX3_moveGuide_27 (by decide) rfl ?_
      refine g_aload_n hX dX3_moveGuide_29 rfl 2 rfl ?_
      refine g_aload_n hX dX3_moveGuide_30 rfl 2 rfl ?_
      refine g_get hX 3 h_X3_moveGuide_X3 0 rfl rfl 3 (by decide) k_X3_moveGuide_0 rfl (v := .int (u.1 2)) rfl dX3_moveGuide_31 ?_
      refine g_iload_n hX dX3_moveGuide_34 rfl 3 rfl ?_
      refine g_iadd hX dX3_moveGuide_35 ?_
      refine g_iload hX dX3_moveGuide_36 0 rfl ?_
      refine g_cSN_I hX (n := 1) (As := [.int 0]) (wc := []) (w1 := []) (rv := (F_X4_oneIf 0)) (st := [.int ((u.1 2) + p1), .ref w]) (c_X4_oneIf (xL X) T (xB X) 0) ggX3_moveGuide_X4_oneIf 32 rfl k_X3_moveGuide_2 k_X3_moveGuide_1 rfl rfl rfl ⟨Nat.le_of_ble_eq_true rfl, Nat.le_of_ble_eq_true rfl⟩ ⟨Nat.zero_le _, Nat.zero_le _⟩ ⟨by decide +kernel, by decide +kernel, by decide +kernel⟩ rfl [] rfl rfl (by decide) rfl (Nat.le_of_ble_eq_true rfl) dX3_moveGuide_38 (ws' := wWr T w h u) rfl ?_
      refine g_iadd hX dX3_moveGuide_41 ?_
      refine g_bipush hX (v := 22) dX3_moveGuide_42 (by decide) ?_
      refine g_irem hX dX3_moveGuide_44 (by decide) ?_
      refine g_put hX 3 h_X3_moveGuide_X3 0 rfl rfl 3 (by decide) tyX3 tyX3_ok nmX3 k_X3_moveGuide_0 rfl rfl rfl rfl rfl (Nat.le_of_ble_eq_true rfl) dX3_moveGuide_45 (ws' := wWr T w h (upd u.1 2 ((((u.1 2) + p1) + (F_X4_oneIf 0)) - (((u.1 2) + p1) + (F_X4_oneIf 0)) / 22 * 22), u.2)) rfl ?_
      have e9 : F_X3_moveGuide u p1 p2 p3 = (upd u.1 2 ((((u.1 2) + p1) + (F_X4_oneIf 0)) - (((u.1 2) + p1) + (F_X4_oneIf 0)) / 22 * 22), u.2) := by simp only [F_X3_moveGuide, eq_false c_7, eq_true c_12, if_true, if_false]
      rw [e9]
      exact g_vret hX dX3_moveGuide_48 rfl
    · skip
      refine g_iload_n hX dX3_moveGuide_15 rfl 4 rfl ?_
      refine g_iload hX dX3_moveGuide_16 0 rfl ?_
      refine g_irem hX dX3_moveGuide_18 (fun z9 => c_12 (by rw [z9]; decide)) ?_
      refine g_if_ne hX 26 dX3_moveGuide_19 (by decide) (fun c_19 => ?_) (fun c_19 => ?_)
      · skip
        refine g_iconst hX (v := 0) dX3_moveGuide_26 (by decide) ?_
        refine g_istore hX (lv' := [(5, .int 0), (4, .int (8 - p2)), (0, .ref w), (1, .int p1), (2, .int p2), (3, .int p3)]) dX3_moveGuide_27 (by decide) rfl ?_
        refine g_aload_n hX dX3_moveGuide_29 rfl 2 rfl ?_
        refine g_aload_n hX dX3_moveGuide_30 rfl 2 rfl ?_
        refine g_get hX 3 h_X3_moveGuide_X3 0 rfl rfl 3 (by decide) k_X3_moveGuide_0 rfl (v := .int (u.1 2)) rfl dX3_moveGuide_31 ?_
        refine g_iload_n hX dX3_moveGuide_34 rfl 3 rfl ?_
        refine g_iadd hX dX3_moveGuide_35 ?_
        refine g_iload hX dX3_moveGuide_36 0 rfl ?_
        refine g_cSN_I hX (n := 1) (As := [.int 0]) (wc := []) (w1 := []) (rv := (F_X4_oneIf 0)) (st := [.int ((u.1 2) + p1), .ref w]) (c_X4_oneIf (xL X) T (xB X) 0) ggX3_moveGuide_X4_oneIf 32 rfl k_X3_moveGuide_2 k_X3_moveGuide_1 rfl rfl rfl ⟨Nat.le_of_ble_eq_true rfl, Nat.le_of_ble_eq_true rfl⟩ ⟨Nat.zero_le _, Nat.zero_le _⟩ ⟨by decide +kernel, by decide +kernel, by decide +kernel⟩ rfl [] rfl rfl (by decide) rfl (Nat.le_of_ble_eq_true rfl) dX3_moveGuide_38 (ws' := wWr T w h u) rfl ?_
        refine g_iadd hX dX3_moveGuide_41 ?_
        refine g_bipush hX (v := 22) dX3_moveGuide_42 (by decide) ?_
        refine g_irem hX dX3_moveGuide_44 (by decide) ?_
        refine g_put hX 3 h_X3_moveGuide_X3 0 rfl rfl 3 (by decide) tyX3 tyX3_ok nmX3 k_X3_moveGuide_0 rfl rfl rfl rfl rfl (Nat.le_of_ble_eq_true rfl) dX3_moveGuide_45 (ws' := wWr T w h (upd u.1 2 ((((u.1 2) + p1) + (F_X4_oneIf 0)) - (((u.1 2) + p1) + (F_X4_oneIf 0)) / 22 * 22), u.2)) rfl ?_
        have e9 : F_X3_moveGuide u p1 p2 p3 = (upd u.1 2 ((((u.1 2) + p1) + (F_X4_oneIf 0)) - (((u.1 2) + p1) + (F_X4_oneIf 0)) / 22 * 22), u.2) := by simp only [F_X3_moveGuide, eq_false c_7, eq_false c_12, eq_false c_19, if_true, if_false]
        rw [e9]
        exact g_vret hX dX3_moveGuide_48 rfl
      · skip
        refine g_iconst hX (v := 1) dX3_moveGuide_22 (by decide) ?_
        refine g_goto hX 27 dX3_moveGuide_23 (by decide) ?_
        refine g_istore hX (lv' := [(5, .int 1), (4, .int (8 - p2)), (0, .ref w), (1, .int p1), (2, .int p2), (3, .int p3)]) dX3_moveGuide_27 (by decide) rfl ?_
        refine g_aload_n hX dX3_moveGuide_29 rfl 2 rfl ?_
        refine g_aload_n hX dX3_moveGuide_30 rfl 2 rfl ?_
        refine g_get hX 3 h_X3_moveGuide_X3 0 rfl rfl 3 (by decide) k_X3_moveGuide_0 rfl (v := .int (u.1 2)) rfl dX3_moveGuide_31 ?_
        refine g_iload_n hX dX3_moveGuide_34 rfl 3 rfl ?_
        refine g_iadd hX dX3_moveGuide_35 ?_
        refine g_iload hX dX3_moveGuide_36 0 rfl ?_
        refine g_cSN_I hX (n := 1) (As := [.int 1]) (wc := []) (w1 := []) (rv := (F_X4_oneIf 1)) (st := [.int ((u.1 2) + p1), .ref w]) (c_X4_oneIf (xL X) T (xB X) 1) ggX3_moveGuide_X4_oneIf 32 rfl k_X3_moveGuide_2 k_X3_moveGuide_1 rfl rfl rfl ⟨Nat.le_of_ble_eq_true rfl, Nat.le_of_ble_eq_true rfl⟩ ⟨Nat.zero_le _, Nat.zero_le _⟩ ⟨by decide +kernel, by decide +kernel, by decide +kernel⟩ rfl [] rfl rfl (by decide) rfl (Nat.le_of_ble_eq_true rfl) dX3_moveGuide_38 (ws' := wWr T w h u) rfl ?_
        refine g_iadd hX dX3_moveGuide_41 ?_
        refine g_bipush hX (v := 22) dX3_moveGuide_42 (by decide) ?_
        refine g_irem hX dX3_moveGuide_44 (by decide) ?_
        refine g_put hX 3 h_X3_moveGuide_X3 0 rfl rfl 3 (by decide) tyX3 tyX3_ok nmX3 k_X3_moveGuide_0 rfl rfl rfl rfl rfl (Nat.le_of_ble_eq_true rfl) dX3_moveGuide_45 (ws' := wWr T w h (upd u.1 2 ((((u.1 2) + p1) + (F_X4_oneIf 1)) - (((u.1 2) + p1) + (F_X4_oneIf 1)) / 22 * 22), u.2)) rfl ?_
        have e9 : F_X3_moveGuide u p1 p2 p3 = (upd u.1 2 ((((u.1 2) + p1) + (F_X4_oneIf 1)) - (((u.1 2) + p1) + (F_X4_oneIf 1)) / 22 * 22), u.2) := by simp only [F_X3_moveGuide, eq_false c_7, eq_false c_12, eq_true c_19, if_true, if_false]
        rw [e9]
        exact g_vret hX dX3_moveGuide_48 rfl
/-! X3_copyFrom -/
def rmX3_copyFrom : Room := { frames := 1, cells := 0, slots := 0, locals := 40 }
theorem k_X3_copyFrom_0 : Cond.fieldLink RX3 9 RX3 (TX3 0).2.1 (TX3 0).2.2.1 ∈ wsX3_copyFrom := List.mem_of_getElem? (i := 1) rfl
theorem h_X3_copyFrom_X3 : ∀ w ∈ u_ws RX3 TX3 4, w ∈ wsX3_copyFrom := fun w h => List.mem_cons_of_mem _ (List.mem_append_right _ h)
theorem k_X3_copyFrom_1 : Cond.methodLink RX3 25 arraycopyName ∈ wsX3_copyFrom := List.mem_of_getElem? (i := 2) rfl
theorem k_X3_copyFrom_2 : Cond.native arraycopyName ∈ wsX3_copyFrom := List.mem_of_getElem? (i := 3) rfl
theorem k_X3_copyFrom_3 : Cond.static arraycopyName ∈ wsX3_copyFrom := List.mem_of_getElem? (i := 4) rfl
theorem k_X3_copyFrom_4 : Cond.initialized "java/lang/System" ∈ wsX3_copyFrom := List.mem_of_getElem? (i := 5) rfl
theorem k_X3_copyFrom_5 : Cond.fieldLink RX3 15 RX3 (TX3 1).2.1 (TX3 1).2.2.1 ∈ wsX3_copyFrom := List.mem_of_getElem? (i := 6) rfl
theorem k_X3_copyFrom_6 : Cond.fieldLink RX3 19 RX3 (TX3 2).2.1 (TX3 2).2.2.1 ∈ wsX3_copyFrom := List.mem_of_getElem? (i := 7) rfl
theorem k_X3_copyFrom_7 : Cond.fieldLink RX3 22 RX3 (TX3 3).2.1 (TX3 3).2.2.1 ∈ wsX3_copyFrom := List.mem_of_getElem? (i := 8) rfl
def F_X3_copyFrom (u : WV) (v : WV) : WV :=
  v
set_option maxHeartbeats 4000000 in
set_option maxRecDepth 100000 in
theorem c_X3_copyFrom (l : Launch) (T : TT) (b0 : Nat) (w h w2 h2 : Nat) (u : WV) (v : WV)  : ConV l T b0 yX3_copyFrom wsX3_copyFrom rmX3_copyFrom [.ref w, .ref w2] (wWr T w h u ++ wWr T w2 h2 v) (wWr T w h (F_X3_copyFrom u v) ++ wWr T w2 h2 v) := by
  refine conV_of (cc := cX3_copyFrom) (maxL := 2) (ret := none) (lv0 := [(0, .ref w), (1, .ref w2)]) (by decide +kernel) rfl (Nat.le_of_ble_eq_true rfl) rfl (fun X hX => ?_)
  refine g_aload_n hX dX3_copyFrom_0 rfl 1 rfl ?_
  refine g_get hX 3 h_X3_copyFrom_X3 2 rfl rfl 0 (by decide) k_X3_copyFrom_0 rfl (v := .ref h2) rfl dX3_copyFrom_1 ?_
  refine g_iconst hX (v := 0) dX3_copyFrom_4 (by decide) ?_
  refine g_aload_n hX dX3_copyFrom_5 rfl 0 rfl ?_
  refine g_get hX 3 h_X3_copyFrom_X3 0 rfl rfl 0 (by decide) k_X3_copyFrom_0 rfl (v := .ref h) rfl dX3_copyFrom_6 ?_
  refine g_iconst hX (v := 0) dX3_copyFrom_9 (by decide) ?_
  refine g_bipush hX (v := 12) dX3_copyFrom_10 (by decide) ?_
  refine g_copyi hX k_X3_copyFrom_1 k_X3_copyFrom_2 k_X3_copyFrom_3 k_X3_copyFrom_4 3 1 rfl rfl (by decide) (by decide) (Nat.le_of_ble_eq_true rfl) (by decide +kernel) dX3_copyFrom_12 (ws' := wWr T w h (u.1, v.2) ++ wWr T w2 h2 v) rfl ?_
  refine g_aload_n hX dX3_copyFrom_15 rfl 0 rfl ?_
  refine g_aload_n hX dX3_copyFrom_16 rfl 1 rfl ?_
  refine g_get hX 3 h_X3_copyFrom_X3 2 rfl rfl 1 (by decide) k_X3_copyFrom_5 rfl (v := .int (v.1 0)) rfl dX3_copyFrom_17 ?_
  refine g_put hX 3 h_X3_copyFrom_X3 0 rfl rfl 1 (by decide) tyX3 tyX3_ok nmX3 k_X3_copyFrom_5 rfl rfl rfl rfl rfl (Nat.le_of_ble_eq_true rfl) dX3_copyFrom_20 (ws' := wWr T w h (upd u.1 0 (v.1 0), v.2) ++ wWr T w2 h2 v) rfl ?_
  refine g_aload_n hX dX3_copyFrom_23 rfl 0 rfl ?_
  refine g_aload_n hX dX3_copyFrom_24 rfl 1 rfl ?_
  refine g_get hX 3 h_X3_copyFrom_X3 2 rfl rfl 2 (by decide) k_X3_copyFrom_6 rfl (v := .int (v.1 1)) rfl dX3_copyFrom_25 ?_
  refine g_put hX 3 h_X3_copyFrom_X3 0 rfl rfl 2 (by decide) tyX3 tyX3_ok nmX3 k_X3_copyFrom_6 rfl rfl rfl rfl rfl (Nat.le_of_ble_eq_true rfl) dX3_copyFrom_28 (ws' := wWr T w h (upd (upd u.1 0 (v.1 0)) 1 (v.1 1), v.2) ++ wWr T w2 h2 v) rfl ?_
  refine g_aload_n hX dX3_copyFrom_31 rfl 0 rfl ?_
  refine g_aload_n hX dX3_copyFrom_32 rfl 1 rfl ?_
  refine g_get hX 3 h_X3_copyFrom_X3 2 rfl rfl 3 (by decide) k_X3_copyFrom_7 rfl (v := .int (v.1 2)) rfl dX3_copyFrom_33 ?_
  refine g_put hX 3 h_X3_copyFrom_X3 0 rfl rfl 3 (by decide) tyX3 tyX3_ok nmX3 k_X3_copyFrom_7 rfl rfl rfl rfl rfl (Nat.le_of_ble_eq_true rfl) dX3_copyFrom_36 (ws' := wWr T w h (upd (upd (upd u.1 0 (v.1 0)) 1 (v.1 1)) 2 (v.1 2), v.2) ++ wWr T w2 h2 v) rfl ?_
  have e9 : F_X3_copyFrom u v = v := by simp only [F_X3_copyFrom, if_true, if_false]
  rw [e9]
  exact g_vret hX dX3_copyFrom_39 rfl
end
section
def F_J7_fill_53178 (A : Nat → Int32) (p1 : Int32) : Nat → Int32 := fun _ => p1
def rmJ7_fill_53178 : Room := { frames := 0, cells := 0, slots := 0, locals := 0 }
set_option maxHeartbeats 4000000 in
set_option maxRecDepth 100000 in
theorem k_J7_fill_loop {T : TT} {X : CX} (hX : Fit T X (yJ7_fill_53178).cls 4 wsJ7_fill_53178 cJ7_fill_53178 none rmJ7_fill_53178) (a : Nat) (N : Nat) (hN : N < 2 ^ 31) (p1 : Int32) : ∀ (n : Nat) (A : Nat → Int32) (j : Nat) (hn : j + n = N + 1) (hj : j ≤ N) (hA : ∀ i, i < j → A i = p1), G T X (QV T X 0 0 (wAr T a N (fun _ => p1))) 0 0 (wAr T a N A) [(2, .int (nI j)), (3, .int (nI N)), (0, .ref a), (1, .int p1)] 5 [] := by
  intro n
  induction n with
  | zero =>
    intro A j hn hj hA
    exact absurd hn (by omega)
  | succ n ih =>
    intro A j hn hj hA
    refine g_iload_n hX dJ7_fill_53178_5 rfl 0 rfl ?_
    refine g_iload_n hX dJ7_fill_53178_6 rfl 1 rfl ?_
    refine g_icmp_ge hX 20 dJ7_fill_53178_7 (by decide) (fun c_7 => ?_) (fun c_7 => ?_)
    · have hjN : ¬ j < N := fun q => absurd c_7 (nI_ge q hN)
      refine g_same 0 (fun _ => p1) rfl (fun i hi => hA i (by omega)) (ws' := wAr T a N (fun _ => p1)) rfl ?_
      exact g_vret hX dJ7_fill_53178_20 rfl
    · have hjN : j < N := Nat.lt_of_not_le (fun q => c_7 (nI_le q (by omega)))
      refine g_aload_n hX dJ7_fill_53178_10 rfl 2 rfl ?_
      refine g_iload_n hX dJ7_fill_53178_11 rfl 0 rfl ?_
      refine g_iload_n hX dJ7_fill_53178_12 rfl 3 rfl ?_
      refine g_iast hX 0 rfl (vp_in_nI hjN hN) dJ7_fill_53178_13 (ws' := wAr T a N (upd A j p1)) (by rw [show Int32.toNatClampNeg (nI j) = j from nI_clamp (by omega)] <;> rfl) ?_
      refine g_iinc hX (lv' := [(2, .int (nI (j + 1))), (3, .int (nI N)), (0, .ref a), (1, .int p1)]) (v := (nI (j + 1))) 0 dJ7_fill_53178_14 rfl (nI_1 _) (by decide) rfl ?_
      refine g_goto hX 5 dJ7_fill_53178_17 (by decide) ?_
      refine ih (upd A j p1) (j + 1) (by omega) (by omega) (fun i hi => ?_)
      by_cases hij : i = j
      · simp [upd, hij]
      · simp only [upd, if_neg hij]
        exact hA i (by omega)
set_option maxHeartbeats 4000000 in
set_option maxRecDepth 100000 in
theorem c_J7_fill_53178 (l : Launch) (T : TT) (b0 : Nat) (a : Nat) (N : Nat) (A : Nat → Int32) (p1 : Int32) (hN : N < 2 ^ 31) : ConV l T b0 yJ7_fill_53178 wsJ7_fill_53178 rmJ7_fill_53178 [.ref a, .int p1] (wAr T a N A) (wAr T a N (F_J7_fill_53178 A p1)) := by
  refine conV_of (cc := cJ7_fill_53178) (maxL := 4) (ret := none) (lv0 := [(0, .ref a), (1, .int p1)]) (by decide +kernel) rfl (Nat.le_of_ble_eq_true rfl) rfl (fun X hX => ?_)
  refine g_iconst hX (v := 0) dJ7_fill_53178_0 (by decide) ?_
  refine g_istore_n hX (lv' := [(2, .int 0), (0, .ref a), (1, .int p1)]) dJ7_fill_53178_1 rfl (by decide) rfl ?_
  refine g_aload_n hX dJ7_fill_53178_2 rfl 1 rfl ?_
  refine g_alen hX 0 0 rfl rfl (v := nI N) rfl dJ7_fill_53178_3 ?_
  refine g_istore_n hX (lv' := [(3, .int (nI N)), (2, .int 0), (0, .ref a), (1, .int p1)]) dJ7_fill_53178_4 rfl (by decide) rfl ?_
  refine g_lv (lv' := [(2, .int (nI 0)), (3, .int (nI N)), (0, .ref a), (1, .int p1)]) [1, 0, 2, 3] rfl ?_
  exact k_J7_fill_loop hX a N hN p1 (N + 1) A 0 (by omega) (by omega) (fun i hi => absurd hi (by omega))
theorem lowI_eq (x : Int32) : F_X4_lowest x = if x < 0 then 0 else if 7 ≤ x then 0 else fLowI x.toNatClampNeg := rfl

/-! X3_clear -/
def rmX3_clear : Room := { frames := 1, cells := 0, slots := 0, locals := 23 }
theorem k_X3_clear_0 : Cond.fieldLink RX3 9 RX3 (TX3 0).2.1 (TX3 0).2.2.1 ∈ wsX3_clear := List.mem_of_getElem? (i := 1) rfl
theorem h_X3_clear_X3 : ∀ w ∈ u_ws RX3 TX3 4, w ∈ wsX3_clear := fun w h => List.mem_cons_of_mem _ (List.mem_append_right _ h)
theorem k_X3_clear_1 : Cond.fieldLink RX3 15 RX3 (TX3 1).2.1 (TX3 1).2.2.1 ∈ wsX3_clear := List.mem_of_getElem? (i := 2) rfl
theorem k_X3_clear_2 : Cond.fieldLink RX3 19 RX3 (TX3 2).2.1 (TX3 2).2.2.1 ∈ wsX3_clear := List.mem_of_getElem? (i := 3) rfl
theorem k_X3_clear_3 : Cond.fieldLink RX3 22 RX3 (TX3 3).2.1 (TX3 3).2.2.1 ∈ wsX3_clear := List.mem_of_getElem? (i := 4) rfl
def F_X3_clear (u : WV) : WV :=
  (let z_5 := F_J7_fill_53178 u.2 0
  (upd (upd (upd u.1 0 0) 1 0) 2 0, z_5))
set_option maxHeartbeats 4000000 in
set_option maxRecDepth 100000 in
theorem c_X3_clear (l : Launch) (T : TT) (b0 : Nat) (w h : Nat) (u : WV)  : ConV l T b0 yX3_clear wsX3_clear rmX3_clear [.ref w] (wWr T w h u) (wWr T w h (F_X3_clear u)) := by
  refine conV_of (cc := cX3_clear) (maxL := 1) (ret := none) (lv0 := [(0, .ref w)]) (by decide +kernel) rfl (Nat.le_of_ble_eq_true rfl) rfl (fun X hX => ?_)
  refine g_aload_n hX dX3_clear_0 rfl 0 rfl ?_
  refine g_get hX 3 h_X3_clear_X3 0 rfl rfl 0 (by decide) k_X3_clear_0 rfl (v := .ref h) rfl dX3_clear_1 ?_
  refine g_iconst hX (v := 0) dX3_clear_4 (by decide) ?_
  obtain ⟨z_5, hz_5⟩ : ∃ z : (Nat → Int32), z = F_J7_fill_53178 u.2 0 := ⟨_, rfl⟩
  refine g_cS_V hX (n := 2) (As := [.ref h, .int 0]) (wc := wAr T h 12 u.2) (w1 := wAr T h 12 z_5) (st := []) (by rw [hz_5]; exact (c_J7_fill_53178 (xL X) T (xB X) h 12 u.2 0 (by decide))) gX3_clear_J7_fill_53178 rfl rfl rfl ⟨Nat.le_of_ble_eq_true rfl, Nat.le_of_ble_eq_true rfl⟩ ⟨Nat.zero_le _, Nat.zero_le _⟩ ⟨by decide +kernel, by decide +kernel, by decide +kernel⟩ rfl [1] rfl rfl (by decide) rfl (Nat.le_of_ble_eq_true rfl) dX3_clear_5 (ws' := wWr T w h (u.1, z_5)) rfl ?_
  refine g_aload_n hX dX3_clear_8 rfl 0 rfl ?_
  refine g_iconst hX (v := 0) dX3_clear_9 (by decide) ?_
  refine g_put hX 3 h_X3_clear_X3 0 rfl rfl 1 (by decide) tyX3 tyX3_ok nmX3 k_X3_clear_1 rfl rfl rfl rfl rfl (Nat.le_of_ble_eq_true rfl) dX3_clear_10 (ws' := wWr T w h (upd u.1 0 0, z_5)) rfl ?_
  refine g_aload_n hX dX3_clear_13 rfl 0 rfl ?_
  refine g_iconst hX (v := 0) dX3_clear_14 (by decide) ?_
  refine g_put hX 3 h_X3_clear_X3 0 rfl rfl 2 (by decide) tyX3 tyX3_ok nmX3 k_X3_clear_2 rfl rfl rfl rfl rfl (Nat.le_of_ble_eq_true rfl) dX3_clear_15 (ws' := wWr T w h (upd (upd u.1 0 0) 1 0, z_5)) rfl ?_
  refine g_aload_n hX dX3_clear_18 rfl 0 rfl ?_
  refine g_iconst hX (v := 0) dX3_clear_19 (by decide) ?_
  refine g_put hX 3 h_X3_clear_X3 0 rfl rfl 3 (by decide) tyX3 tyX3_ok nmX3 k_X3_clear_3 rfl rfl rfl rfl rfl (Nat.le_of_ble_eq_true rfl) dX3_clear_20 (ws' := wWr T w h (upd (upd (upd u.1 0 0) 1 0) 2 0, z_5)) rfl ?_
  have e9 : F_X3_clear u = (upd (upd (upd u.1 0 0) 1 0) 2 0, z_5) := by simp only [F_X3_clear, ← hz_5, if_true, if_false]
  rw [e9]
  exact g_vret hX dX3_clear_23 rfl
/-! X3_evenness -/
def rmX3_evenness : Room := { frames := 1, cells := 0, slots := 0, locals := 13 }
theorem k_X3_evenness_0 : Cond.fieldLink RX3 19 RX3 (TX3 2).2.1 (TX3 2).2.2.1 ∈ wsX3_evenness := List.mem_of_getElem? (i := 1) rfl
theorem h_X3_evenness_X3 : ∀ w ∈ u_ws RX3 TX3 4, w ∈ wsX3_evenness := fun w h => List.mem_cons_of_mem _ (List.mem_append_right _ h)
theorem k_X3_evenness_1 : Cond.fieldLink RX3 9 RX3 (TX3 0).2.1 (TX3 0).2.2.1 ∈ wsX3_evenness := List.mem_of_getElem? (i := 2) rfl
theorem k_X3_evenness_2 : Cond.methodLink RX3 51 Lib.Math.min.name ∈ wsX3_evenness := List.mem_of_getElem? (i := 3) rfl
theorem k_X3_evenness_3 : Cond.static Lib.Math.min.name ∈ wsX3_evenness := List.mem_of_getElem? (i := 4) rfl
theorem k_X3_evenness_4 : Cond.initialized "java/lang/Math" ∈ wsX3_evenness := List.mem_of_getElem? (i := 5) rfl
theorem k_X3_evenness_5 : Cond.code Lib.Math.min.name Lib.Math.min.code 2 (some .int) ∈ wsX3_evenness := List.mem_of_getElem? (i := 6) rfl
def K_X3_evenness_16 : Nat → WV → Nat → Int32 → Int32
  | 0, u, j, e => 0
  | n + 1, u, j, e => (if 12 ≤ (nI j) then ((u.1 1) - e) else K_X3_evenness_16 n u (j + 1) (if (u.2 j) < e then (u.2 j) else e))
def F_X3_evenness (u : WV) : Int32 :=
  K_X3_evenness_16 13 u 0 (u.1 1)
set_option maxHeartbeats 4000000 in
set_option maxRecDepth 100000 in
theorem k_X3_evenness_16 {T : TT} {X : CX} (hX : Fit T X (yX3_evenness).cls 6 wsX3_evenness cX3_evenness (some .int) rmX3_evenness) (w h : Nat) : ∀ (n : Nat) (u : WV) (j : Nat) (e : Int32) (hn : j + n = 13) (hj : j ≤ 12), G T X (QI T X 0 0 (K_X3_evenness_16 n u j e) (wWr T w h u)) 0 0 (wWr T w h u) [(4, .int (nI j)), (1, .int e), (2, .ref h), (3, .int 12), (0, .ref w)] 16 [] := by
  intro n
  induction n with
  | zero =>
    intro u j e hn hj
    exact absurd hn (by omega)
  | succ n ih =>
    intro u j e hn hj
    refine g_iload hX dX3_evenness_16 0 rfl ?_
    refine g_iload_n hX dX3_evenness_18 rfl 3 rfl ?_
    refine g_icmp_ge hX 41 dX3_evenness_19 (by decide) (fun c_19 => ?_) (fun c_19 => ?_)
    · skip
      refine g_aload_n hX dX3_evenness_41 rfl 4 rfl ?_
      refine g_get hX 3 h_X3_evenness_X3 0 rfl rfl 2 (by decide) k_X3_evenness_0 rfl (v := .int (u.1 1)) rfl dX3_evenness_42 ?_
      refine g_iload_n hX dX3_evenness_45 rfl 1 rfl ?_
      refine g_isub hX dX3_evenness_46 ?_
      have e9 : K_X3_evenness_16 (n + 1) u j e = ((u.1 1) - e) := by simp only [K_X3_evenness_16, eq_true c_19, if_true, if_false]
      rw [e9]
      exact g_iret hX dX3_evenness_47 rfl rfl
    · skip
      have hlt_19 : j < 12 := nlt_of c_19 (by decide) (by omega)
      refine g_aload_n hX dX3_evenness_22 rfl 2 rfl ?_
      refine g_iload hX dX3_evenness_23 0 rfl ?_
      refine g_iald hX 1 rfl (vp_in_nI (by omega) (by omega)) (v := (u.2 j)) (congrArg _ (nI_clamp (by omega))) dX3_evenness_25 ?_
      refine g_istore hX (lv' := [(5, .int (u.2 j)), (4, .int (nI j)), (1, .int e), (2, .ref h), (3, .int 12), (0, .ref w)]) dX3_evenness_26 (by decide) rfl ?_
      refine g_iload_n hX dX3_evenness_28 rfl 2 rfl ?_
      refine g_iload hX dX3_evenness_29 0 rfl ?_
      refine g_mmin hX k_X3_evenness_2 k_X3_evenness_3 k_X3_evenness_4 k_X3_evenness_5 (Nat.le_of_ble_eq_true rfl) (Nat.le_of_ble_eq_true rfl) (Nat.zero_le _) (Nat.zero_le _) dX3_evenness_31 ?_
      refine g_istore_n hX (lv' := [(1, .int (if (u.2 j) < e then (u.2 j) else e)), (5, .int (u.2 j)), (4, .int (nI j)), (2, .ref h), (3, .int 12), (0, .ref w)]) dX3_evenness_34 rfl (by decide) rfl ?_
      refine g_iinc hX (lv' := [(4, .int (nI (j + 1))), (1, .int (if (u.2 j) < e then (u.2 j) else e)), (5, .int (u.2 j)), (2, .ref h), (3, .int 12), (0, .ref w)]) (v := (nI (j + 1))) 2 dX3_evenness_35 rfl (nI_1 _) (by decide) rfl ?_
      refine g_goto hX 16 dX3_evenness_38 (by decide) ?_
      have e9 : K_X3_evenness_16 (n + 1) u j e = K_X3_evenness_16 n u (j + 1) (if (u.2 j) < e then (u.2 j) else e) := by simp only [K_X3_evenness_16, eq_false c_19, if_true, if_false]
      rw [e9]
      refine g_lv (lv' := [(4, .int (nI (j + 1))), (1, .int (if (u.2 j) < e then (u.2 j) else e)), (2, .ref h), (3, .int 12), (0, .ref w)]) [0, 1, 3, 4, 5] rfl ?_
      exact ih u (j + 1) (if (u.2 j) < e then (u.2 j) else e) (by omega) (by omega)
set_option maxHeartbeats 4000000 in
set_option maxRecDepth 100000 in
theorem c_X3_evenness (l : Launch) (T : TT) (b0 : Nat) (w h : Nat) (u : WV)  : ConI l T b0 yX3_evenness wsX3_evenness rmX3_evenness [.ref w] (wWr T w h u) (F_X3_evenness u) (wWr T w h u) := by
  refine conI_of (cc := cX3_evenness) (maxL := 6) (ret := (some .int)) (lv0 := [(0, .ref w)]) (by decide +kernel) rfl (Nat.le_of_ble_eq_true rfl) rfl (fun X hX => ?_)
  refine g_aload_n hX dX3_evenness_0 rfl 0 rfl ?_
  refine g_get hX 3 h_X3_evenness_X3 0 rfl rfl 2 (by decide) k_X3_evenness_0 rfl (v := .int (u.1 1)) rfl dX3_evenness_1 ?_
  refine g_istore_n hX (lv' := [(1, .int (u.1 1)), (0, .ref w)]) dX3_evenness_4 rfl (by decide) rfl ?_
  refine g_aload_n hX dX3_evenness_5 rfl 1 rfl ?_
  refine g_get hX 3 h_X3_evenness_X3 0 rfl rfl 0 (by decide) k_X3_evenness_1 rfl (v := .ref h) rfl dX3_evenness_6 ?_
  refine g_astore_n hX (lv' := [(2, .ref h), (1, .int (u.1 1)), (0, .ref w)]) dX3_evenness_9 rfl (by decide) rfl ?_
  refine g_aload_n hX dX3_evenness_10 rfl 0 rfl ?_
  refine g_alen hX 1 0 rfl rfl (v := 12) rfl dX3_evenness_11 ?_
  refine g_istore_n hX (lv' := [(3, .int 12), (2, .ref h), (1, .int (u.1 1)), (0, .ref w)]) dX3_evenness_12 rfl (by decide) rfl ?_
  refine g_iconst hX (v := 0) dX3_evenness_13 (by decide) ?_
  refine g_istore hX (lv' := [(4, .int 0), (3, .int 12), (2, .ref h), (1, .int (u.1 1)), (0, .ref w)]) dX3_evenness_14 (by decide) rfl ?_
  have e9 : F_X3_evenness u = K_X3_evenness_16 13 u 0 (u.1 1) := by simp only [F_X3_evenness, if_true, if_false]
  rw [e9]
  refine g_lv (lv' := [(4, .int (nI 0)), (1, .int (u.1 1)), (2, .ref h), (3, .int 12), (0, .ref w)]) [0, 3, 2, 1, 4] rfl ?_
  exact k_X3_evenness_16 hX w h 13 u 0 (u.1 1) (by omega) (by omega)
/-! X3_ribbons -/
def rmX3_ribbons : Room := { frames := 3, cells := 0, slots := 0, locals := 66 }
theorem k_X3_ribbons_15 : Cond.initialized RX4 ∈ wsX3_ribbons := List.mem_of_getElem? (i := 16) rfl
theorem k_X3_ribbons_14 : Cond.static yX4_oneIf ∈ wsX3_ribbons := List.mem_of_getElem? (i := 15) rfl
def K_X3_ribbons_4 : Nat → WV → Nat → Int32 → Int32
  | 0, u, j, e => 0
  | n + 1, u, j, e => (if 12 ≤ (nI j) then e else K_X3_ribbons_4 n u (j + 1) (e + (F_X4_oneIf (F_X3_isRibbon u (nI j)))))
def F_X3_ribbons (u : WV) : Int32 :=
  K_X3_ribbons_4 13 u 0 0
set_option maxHeartbeats 4000000 in
set_option maxRecDepth 100000 in
theorem k_X3_ribbons_4 {T : TT} {X : CX} (hX : Fit T X (yX3_ribbons).cls 3 wsX3_ribbons cX3_ribbons (some .int) rmX3_ribbons) (w h : Nat) : ∀ (n : Nat) (u : WV) (j : Nat) (e : Int32) (hn : j + n = 13) (hj : j ≤ 12), G T X (QI T X 0 0 (K_X3_ribbons_4 n u j e) (wWr T w h u)) 0 0 (wWr T w h u) [(2, .int (nI j)), (1, .int e), (0, .ref w)] 4 [] := by
  intro n
  induction n with
  | zero =>
    intro u j e hn hj
    exact absurd hn (by omega)
  | succ n ih =>
    intro u j e hn hj
    refine g_iload_n hX dX3_ribbons_4 rfl 0 rfl ?_
    refine g_bipush hX (v := 12) dX3_ribbons_5 (by decide) ?_
    refine g_icmp_ge hX 27 dX3_ribbons_7 (by decide) (fun c_7 => ?_) (fun c_7 => ?_)
    · skip
      refine g_iload_n hX dX3_ribbons_27 rfl 1 rfl ?_
      have e9 : K_X3_ribbons_4 (n + 1) u j e = e := by simp only [K_X3_ribbons_4, eq_true c_7, if_true, if_false]
      rw [e9]
      exact g_iret hX dX3_ribbons_28 rfl rfl
    · skip
      have hlt_7 : j < 12 := nlt_of c_7 (by decide) (by omega)
      refine g_iload_n hX dX3_ribbons_10 rfl 1 rfl ?_
      refine g_aload_n hX dX3_ribbons_11 rfl 2 rfl ?_
      refine g_iload_n hX dX3_ribbons_12 rfl 0 rfl ?_
      refine g_cV_I hX (n := 1) (As := [.int (nI j)]) (wc := wWr T w h u) (w1 := wWr T w h u) (rv := (F_X3_isRibbon u (nI j))) (st := [.int e]) 0 rfl rfl (c_X3_isRibbon (xL X) T (xB X) w h u (nI j)) gX3_ribbons_X3_isRibbon rfl rfl rfl ⟨Nat.le_of_ble_eq_true rfl, Nat.le_of_ble_eq_true rfl⟩ ⟨Nat.zero_le _, Nat.zero_le _⟩ ⟨by decide +kernel, by decide +kernel, by decide +kernel⟩ rfl [0, 1] rfl rfl (by decide) rfl (Nat.le_of_ble_eq_true rfl) dX3_ribbons_13 (ws' := wWr T w h u) rfl ?_
      refine g_cSN_I hX (n := 1) (As := [.int (F_X3_isRibbon u (nI j))]) (wc := []) (w1 := []) (rv := (F_X4_oneIf (F_X3_isRibbon u (nI j)))) (st := [.int e]) (c_X4_oneIf (xL X) T (xB X) (F_X3_isRibbon u (nI j))) ggX3_ribbons_X4_oneIf 32 rfl k_X3_ribbons_15 k_X3_ribbons_14 rfl rfl rfl ⟨Nat.le_of_ble_eq_true rfl, Nat.le_of_ble_eq_true rfl⟩ ⟨Nat.zero_le _, Nat.zero_le _⟩ ⟨by decide +kernel, by decide +kernel, by decide +kernel⟩ rfl [] rfl rfl (by decide) rfl (Nat.le_of_ble_eq_true rfl) dX3_ribbons_16 (ws' := wWr T w h u) rfl ?_
      refine g_iadd hX dX3_ribbons_19 ?_
      refine g_istore_n hX (lv' := [(1, .int (e + (F_X4_oneIf (F_X3_isRibbon u (nI j))))), (2, .int (nI j)), (0, .ref w)]) dX3_ribbons_20 rfl (by decide) rfl ?_
      refine g_iinc hX (lv' := [(2, .int (nI (j + 1))), (1, .int (e + (F_X4_oneIf (F_X3_isRibbon u (nI j))))), (0, .ref w)]) (v := (nI (j + 1))) 1 dX3_ribbons_21 rfl (nI_1 _) (by decide) rfl ?_
      refine g_goto hX 4 dX3_ribbons_24 (by decide) ?_
      have e9 : K_X3_ribbons_4 (n + 1) u j e = K_X3_ribbons_4 n u (j + 1) (e + (F_X4_oneIf (F_X3_isRibbon u (nI j)))) := by simp only [K_X3_ribbons_4, eq_false c_7, if_true, if_false]
      rw [e9]
      refine g_lv (lv' := [(2, .int (nI (j + 1))), (1, .int (e + (F_X4_oneIf (F_X3_isRibbon u (nI j))))), (0, .ref w)]) [0, 1, 2] rfl ?_
      exact ih u (j + 1) (e + (F_X4_oneIf (F_X3_isRibbon u (nI j)))) (by omega) (by omega)
set_option maxHeartbeats 4000000 in
set_option maxRecDepth 100000 in
theorem c_X3_ribbons (l : Launch) (T : TT) (b0 : Nat) (w h : Nat) (u : WV)  : ConI l T b0 yX3_ribbons wsX3_ribbons rmX3_ribbons [.ref w] (wWr T w h u) (F_X3_ribbons u) (wWr T w h u) := by
  refine conI_of (cc := cX3_ribbons) (maxL := 3) (ret := (some .int)) (lv0 := [(0, .ref w)]) (by decide +kernel) rfl (Nat.le_of_ble_eq_true rfl) rfl (fun X hX => ?_)
  refine g_iconst hX (v := 0) dX3_ribbons_0 (by decide) ?_
  refine g_istore_n hX (lv' := [(1, .int 0), (0, .ref w)]) dX3_ribbons_1 rfl (by decide) rfl ?_
  refine g_iconst hX (v := 0) dX3_ribbons_2 (by decide) ?_
  refine g_istore_n hX (lv' := [(2, .int 0), (1, .int 0), (0, .ref w)]) dX3_ribbons_3 rfl (by decide) rfl ?_
  have e9 : F_X3_ribbons u = K_X3_ribbons_4 13 u 0 0 := by simp only [F_X3_ribbons, if_true, if_false]
  rw [e9]
  refine g_lv (lv' := [(2, .int (nI 0)), (1, .int 0), (0, .ref w)]) [0, 1, 2] rfl ?_
  exact k_X3_ribbons_4 hX w h 13 u 0 0 (by omega) (by omega)
/-! X3_barePlaces -/
def rmX3_barePlaces : Room := { frames := 1, cells := 0, slots := 0, locals := 20 }
theorem k_X3_barePlaces_0 : Cond.fieldLink RX3 9 RX3 (TX3 0).2.1 (TX3 0).2.2.1 ∈ wsX3_barePlaces := List.mem_of_getElem? (i := 1) rfl
theorem h_X3_barePlaces_X3 : ∀ w ∈ u_ws RX3 TX3 4, w ∈ wsX3_barePlaces := fun w h => List.mem_cons_of_mem _ (List.mem_append_right _ h)
theorem k_X3_barePlaces_2 : Cond.initialized RX4 ∈ wsX3_barePlaces := List.mem_of_getElem? (i := 3) rfl
theorem k_X3_barePlaces_1 : Cond.static yX4_oneIf ∈ wsX3_barePlaces := List.mem_of_getElem? (i := 2) rfl
def K_X3_barePlaces_13 : Nat → WV → Nat → Int32 → Int32
  | 0, u, j, e => 0
  | n + 1, u, j, e => (if 12 ≤ (nI j) then e else (if (u.2 j) = 0 then K_X3_barePlaces_13 n u (j + 1) (e + (F_X4_oneIf 1)) else K_X3_barePlaces_13 n u (j + 1) (e + (F_X4_oneIf 0))))
def F_X3_barePlaces (u : WV) : Int32 :=
  K_X3_barePlaces_13 13 u 0 0
set_option maxHeartbeats 4000000 in
set_option maxRecDepth 100000 in
theorem k_X3_barePlaces_13 {T : TT} {X : CX} (hX : Fit T X (yX3_barePlaces).cls 6 wsX3_barePlaces cX3_barePlaces (some .int) rmX3_barePlaces) (w h : Nat) : ∀ (n : Nat) (u : WV) (j : Nat) (e : Int32) (hn : j + n = 13) (hj : j ≤ 12), G T X (QI T X 0 0 (K_X3_barePlaces_13 n u j e) (wWr T w h u)) 0 0 (wWr T w h u) [(4, .int (nI j)), (1, .int e), (2, .ref h), (3, .int 12), (0, .ref w)] 13 [] := by
  intro n
  induction n with
  | zero =>
    intro u j e hn hj
    exact absurd hn (by omega)
  | succ n ih =>
    intro u j e hn hj
    refine g_iload hX dX3_barePlaces_13 0 rfl ?_
    refine g_iload_n hX dX3_barePlaces_15 rfl 3 rfl ?_
    refine g_icmp_ge hX 47 dX3_barePlaces_16 (by decide) (fun c_16 => ?_) (fun c_16 => ?_)
    · skip
      refine g_iload_n hX dX3_barePlaces_47 rfl 1 rfl ?_
      have e9 : K_X3_barePlaces_13 (n + 1) u j e = e := by simp only [K_X3_barePlaces_13, eq_true c_16, if_true, if_false]
      rw [e9]
      exact g_iret hX dX3_barePlaces_48 rfl rfl
    · skip
      have hlt_16 : j < 12 := nlt_of c_16 (by decide) (by omega)
      refine g_aload_n hX dX3_barePlaces_19 rfl 2 rfl ?_
      refine g_iload hX dX3_barePlaces_20 0 rfl ?_
      refine g_iald hX 1 rfl (vp_in_nI (by omega) (by omega)) (v := (u.2 j)) (congrArg _ (nI_clamp (by omega))) dX3_barePlaces_22 ?_
      refine g_istore hX (lv' := [(5, .int (u.2 j)), (4, .int (nI j)), (1, .int e), (2, .ref h), (3, .int 12), (0, .ref w)]) dX3_barePlaces_23 (by decide) rfl ?_
      refine g_iload_n hX dX3_barePlaces_25 rfl 2 rfl ?_
      refine g_iload hX dX3_barePlaces_26 0 rfl ?_
      refine g_if_ne hX 35 dX3_barePlaces_28 (by decide) (fun c_28 => ?_) (fun c_28 => ?_)
      · skip
        refine g_iconst hX (v := 0) dX3_barePlaces_35 (by decide) ?_
        refine g_cSN_I hX (n := 1) (As := [.int 0]) (wc := []) (w1 := []) (rv := (F_X4_oneIf 0)) (st := [.int e]) (c_X4_oneIf (xL X) T (xB X) 0) ggX3_barePlaces_X4_oneIf 32 rfl k_X3_barePlaces_2 k_X3_barePlaces_1 rfl rfl rfl ⟨Nat.le_of_ble_eq_true rfl, Nat.le_of_ble_eq_true rfl⟩ ⟨Nat.zero_le _, Nat.zero_le _⟩ ⟨by decide +kernel, by decide +kernel, by decide +kernel⟩ rfl [] rfl rfl (by decide) rfl (Nat.le_of_ble_eq_true rfl) dX3_barePlaces_36 (ws' := wWr T w h u) rfl ?_
        refine g_iadd hX dX3_barePlaces_39 ?_
        refine g_istore_n hX (lv' := [(1, .int (e + (F_X4_oneIf 0))), (5, .int (u.2 j)), (4, .int (nI j)), (2, .ref h), (3, .int 12), (0, .ref w)]) dX3_barePlaces_40 rfl (by decide) rfl ?_
        refine g_iinc hX (lv' := [(4, .int (nI (j + 1))), (1, .int (e + (F_X4_oneIf 0))), (5, .int (u.2 j)), (2, .ref h), (3, .int 12), (0, .ref w)]) (v := (nI (j + 1))) 2 dX3_barePlaces_41 rfl (nI_1 _) (by decide) rfl ?_
        refine g_goto hX 13 dX3_barePlaces_44 (by decide) ?_
        have e9 : K_X3_barePlaces_13 (n + 1) u j e = K_X3_barePlaces_13 n u (j + 1) (e + (F_X4_oneIf 0)) := by simp only [K_X3_barePlaces_13, eq_false c_16, eq_false c_28, if_true, if_false]
        rw [e9]
        refine g_lv (lv' := [(4, .int (nI (j + 1))), (1, .int (e + (F_X4_oneIf 0))), (2, .ref h), (3, .int 12), (0, .ref w)]) [0, 1, 3, 4, 5] rfl ?_
        exact ih u (j + 1) (e + (F_X4_oneIf 0)) (by omega) (by omega)
      · skip
        refine g_iconst hX (v := 1) dX3_barePlaces_31 (by decide) ?_
        refine g_goto hX 36 dX3_barePlaces_32 (by decide) ?_
        refine g_cSN_I hX (n := 1) (As := [.int 1]) (wc := []) (w1 := []) (rv := (F_X4_oneIf 1)) (st := [.int e]) (c_X4_oneIf (xL X) T (xB X) 1) ggX3_barePlaces_X4_oneIf 32 rfl k_X3_barePlaces_2 k_X3_barePlaces_1 rfl rfl rfl ⟨Nat.le_of_ble_eq_true rfl, Nat.le_of_ble_eq_true rfl⟩ ⟨Nat.zero_le _, Nat.zero_le _⟩ ⟨by decide +kernel, by decide +kernel, by decide +kernel⟩ rfl [] rfl rfl (by decide) rfl (Nat.le_of_ble_eq_true rfl) dX3_barePlaces_36 (ws' := wWr T w h u) rfl ?_
        refine g_iadd hX dX3_barePlaces_39 ?_
        refine g_istore_n hX (lv' := [(1, .int (e + (F_X4_oneIf 1))), (5, .int (u.2 j)), (4, .int (nI j)), (2, .ref h), (3, .int 12), (0, .ref w)]) dX3_barePlaces_40 rfl (by decide) rfl ?_
        refine g_iinc hX (lv' := [(4, .int (nI (j + 1))), (1, .int (e + (F_X4_oneIf 1))), (5, .int (u.2 j)), (2, .ref h), (3, .int 12), (0, .ref w)]) (v := (nI (j + 1))) 2 dX3_barePlaces_41 rfl (nI_1 _) (by decide) rfl ?_
        refine g_goto hX 13 dX3_barePlaces_44 (by decide) ?_
        have e9 : K_X3_barePlaces_13 (n + 1) u j e = K_X3_barePlaces_13 n u (j + 1) (e + (F_X4_oneIf 1)) := by simp only [K_X3_barePlaces_13, eq_false c_16, eq_true c_28, if_true, if_false]
        rw [e9]
        refine g_lv (lv' := [(4, .int (nI (j + 1))), (1, .int (e + (F_X4_oneIf 1))), (2, .ref h), (3, .int 12), (0, .ref w)]) [0, 1, 3, 4, 5] rfl ?_
        exact ih u (j + 1) (e + (F_X4_oneIf 1)) (by omega) (by omega)
set_option maxHeartbeats 4000000 in
set_option maxRecDepth 100000 in
theorem c_X3_barePlaces (l : Launch) (T : TT) (b0 : Nat) (w h : Nat) (u : WV)  : ConI l T b0 yX3_barePlaces wsX3_barePlaces rmX3_barePlaces [.ref w] (wWr T w h u) (F_X3_barePlaces u) (wWr T w h u) := by
  refine conI_of (cc := cX3_barePlaces) (maxL := 6) (ret := (some .int)) (lv0 := [(0, .ref w)]) (by decide +kernel) rfl (Nat.le_of_ble_eq_true rfl) rfl (fun X hX => ?_)
  refine g_iconst hX (v := 0) dX3_barePlaces_0 (by decide) ?_
  refine g_istore_n hX (lv' := [(1, .int 0), (0, .ref w)]) dX3_barePlaces_1 rfl (by decide) rfl ?_
  refine g_aload_n hX dX3_barePlaces_2 rfl 1 rfl ?_
  refine g_get hX 3 h_X3_barePlaces_X3 0 rfl rfl 0 (by decide) k_X3_barePlaces_0 rfl (v := .ref h) rfl dX3_barePlaces_3 ?_
  refine g_astore_n hX (lv' := [(2, .ref h), (1, .int 0), (0, .ref w)]) dX3_barePlaces_6 rfl (by decide) rfl ?_
  refine g_aload_n hX dX3_barePlaces_7 rfl 0 rfl ?_
  refine g_alen hX 1 0 rfl rfl (v := 12) rfl dX3_barePlaces_8 ?_
  refine g_istore_n hX (lv' := [(3, .int 12), (2, .ref h), (1, .int 0), (0, .ref w)]) dX3_barePlaces_9 rfl (by decide) rfl ?_
  refine g_iconst hX (v := 0) dX3_barePlaces_10 (by decide) ?_
  refine g_istore hX (lv' := [(4, .int 0), (3, .int 12), (2, .ref h), (1, .int 0), (0, .ref w)]) dX3_barePlaces_11 (by decide) rfl ?_
  have e9 : F_X3_barePlaces u = K_X3_barePlaces_13 13 u 0 0 := by simp only [F_X3_barePlaces, if_true, if_false]
  rw [e9]
  refine g_lv (lv' := [(4, .int (nI 0)), (1, .int 0), (2, .ref h), (3, .int 12), (0, .ref w)]) [0, 3, 2, 1, 4] rfl ?_
  exact k_X3_barePlaces_13 hX w h 13 u 0 0 (by omega) (by omega)
end
section
theorem inr_hi {a p : Int32} (h : ¬ F_X4_inRange a p = 0) : F_X4_lowest a ≤ p ∧ p ≤ F_X4_highest a := by
  unfold F_X4_inRange at h
  split at h
  · exact absurd rfl h
  · split at h
    · exact absurd rfl h
    · rename_i h1 h2
      exact ⟨Int32.not_lt.mp h1, Int32.not_lt.mp h2⟩
theorem inr5 {p : Int32} (h : ¬ F_X4_inRange 5 p = 0) : p.toInt ≤ 500 := by
  have h2 := (inr_hi h).2
  rw [Int32.le_iff_toInt_le, show (F_X4_highest 5).toInt = 500 from by decide] at h2
  exact h2
/-! X2_number -/
def rmX2_number : Room := { frames := 0, cells := 0, slots := 0, locals := 0 }
theorem k_X2_number_0 : Cond.fieldLink RX2 30 RX2 (TX2 2).2.1 (TX2 2).2.2.1 ∈ wsX2_number := List.mem_of_getElem? (i := 1) rfl
theorem h_X2_number_X2 : ∀ w ∈ u_ws RX2 TX2 11, w ∈ wsX2_number := fun w h => List.mem_cons_of_mem _ (List.mem_append_right _ h)
def F_X2_number (u : SV) (p1 : Int32) : Int32 :=
  (if p1 < 0 then 0 else (if 5 ≤ p1 then 0 else (u.2.2.2 (Int32.toNatClampNeg p1))))
set_option maxHeartbeats 4000000 in
set_option maxRecDepth 100000 in
theorem c_X2_number (l : Launch) (T : TT) (b0 : Nat) (a w h k d : Nat) (u : SV) (p1 : Int32)  : ConI l T b0 yX2_number wsX2_number rmX2_number [.ref a, .int p1] (wSt T a w h k d u) (F_X2_number u p1) (wSt T a w h k d u) := by
  refine conI_of (cc := cX2_number) (maxL := 2) (ret := (some .int)) (lv0 := [(0, .ref a), (1, .int p1)]) (by decide +kernel) rfl (Nat.le_of_ble_eq_true rfl) rfl (fun X hX => ?_)
  refine g_iload_n hX dX2_number_0 rfl 1 rfl ?_
  refine g_if_lt hX 22 dX2_number_1 (by decide) (fun c_1 => ?_) (fun c_1 => ?_)
  · skip
    refine g_iconst hX (v := 0) dX2_number_22 (by decide) ?_
    have e9 : F_X2_number u p1 = 0 := by simp only [F_X2_number, eq_true c_1, if_true, if_false]
    rw [e9]
    exact g_iret hX dX2_number_23 rfl rfl
  · skip
    refine g_iload_n hX dX2_number_4 rfl 1 rfl ?_
    refine g_aload_n hX dX2_number_5 rfl 0 rfl ?_
    refine g_get hX 2 h_X2_number_X2 0 rfl rfl 2 (by decide) k_X2_number_0 rfl (v := .ref d) rfl dX2_number_6 ?_
    refine g_alen hX 4 0 rfl rfl (v := 5) rfl dX2_number_9 ?_
    refine g_icmp_ge hX 22 dX2_number_10 (by decide) (fun c_10 => ?_) (fun c_10 => ?_)
    · skip
      refine g_iconst hX (v := 0) dX2_number_22 (by decide) ?_
      have e9 : F_X2_number u p1 = 0 := by simp only [F_X2_number, eq_false c_1, eq_true c_10, if_true, if_false]
      rw [e9]
      exact g_iret hX dX2_number_23 rfl rfl
    · skip
      refine g_aload_n hX dX2_number_13 rfl 0 rfl ?_
      refine g_get hX 2 h_X2_number_X2 0 rfl rfl 2 (by decide) k_X2_number_0 rfl (v := .ref d) rfl dX2_number_14 ?_
      refine g_iload_n hX dX2_number_17 rfl 1 rfl ?_
      refine g_iald hX 4 rfl (vin_of c_1 c_10 (by decide)) (v := (u.2.2.2 (Int32.toNatClampNeg p1))) (congrArg _ rfl) dX2_number_18 ?_
      refine g_goto hX 23 dX2_number_19 (by decide) ?_
      have e9 : F_X2_number u p1 = (u.2.2.2 (Int32.toNatClampNeg p1)) := by simp only [F_X2_number, eq_false c_1, eq_false c_10, if_true, if_false]
      rw [e9]
      exact g_iret hX dX2_number_23 rfl rfl
/-! X2_knotsAt -/
def rmX2_knotsAt : Room := { frames := 0, cells := 0, slots := 0, locals := 0 }
theorem k_X2_knotsAt_0 : Cond.fieldLink RX2 18 RX2 (TX2 1).2.1 (TX2 1).2.2.1 ∈ wsX2_knotsAt := List.mem_of_getElem? (i := 1) rfl
theorem h_X2_knotsAt_X2 : ∀ w ∈ u_ws RX2 TX2 11, w ∈ wsX2_knotsAt := fun w h => List.mem_cons_of_mem _ (List.mem_append_right _ h)
def F_X2_knotsAt (u : SV) (p1 : Int32) : Int32 :=
  (if p1 < 0 then 0 else (if 12 ≤ p1 then 0 else (u.2.2.1 (Int32.toNatClampNeg p1))))
set_option maxHeartbeats 4000000 in
set_option maxRecDepth 100000 in
theorem c_X2_knotsAt (l : Launch) (T : TT) (b0 : Nat) (a w h k d : Nat) (u : SV) (p1 : Int32)  : ConI l T b0 yX2_knotsAt wsX2_knotsAt rmX2_knotsAt [.ref a, .int p1] (wSt T a w h k d u) (F_X2_knotsAt u p1) (wSt T a w h k d u) := by
  refine conI_of (cc := cX2_knotsAt) (maxL := 2) (ret := (some .int)) (lv0 := [(0, .ref a), (1, .int p1)]) (by decide +kernel) rfl (Nat.le_of_ble_eq_true rfl) rfl (fun X hX => ?_)
  refine g_iload_n hX dX2_knotsAt_0 rfl 1 rfl ?_
  refine g_if_lt hX 22 dX2_knotsAt_1 (by decide) (fun c_1 => ?_) (fun c_1 => ?_)
  · skip
    refine g_iconst hX (v := 0) dX2_knotsAt_22 (by decide) ?_
    have e9 : F_X2_knotsAt u p1 = 0 := by simp only [F_X2_knotsAt, eq_true c_1, if_true, if_false]
    rw [e9]
    exact g_iret hX dX2_knotsAt_23 rfl rfl
  · skip
    refine g_iload_n hX dX2_knotsAt_4 rfl 1 rfl ?_
    refine g_aload_n hX dX2_knotsAt_5 rfl 0 rfl ?_
    refine g_get hX 2 h_X2_knotsAt_X2 0 rfl rfl 1 (by decide) k_X2_knotsAt_0 rfl (v := .ref k) rfl dX2_knotsAt_6 ?_
    refine g_alen hX 3 0 rfl rfl (v := 12) rfl dX2_knotsAt_9 ?_
    refine g_icmp_ge hX 22 dX2_knotsAt_10 (by decide) (fun c_10 => ?_) (fun c_10 => ?_)
    · skip
      refine g_iconst hX (v := 0) dX2_knotsAt_22 (by decide) ?_
      have e9 : F_X2_knotsAt u p1 = 0 := by simp only [F_X2_knotsAt, eq_false c_1, eq_true c_10, if_true, if_false]
      rw [e9]
      exact g_iret hX dX2_knotsAt_23 rfl rfl
    · skip
      refine g_aload_n hX dX2_knotsAt_13 rfl 0 rfl ?_
      refine g_get hX 2 h_X2_knotsAt_X2 0 rfl rfl 1 (by decide) k_X2_knotsAt_0 rfl (v := .ref k) rfl dX2_knotsAt_14 ?_
      refine g_iload_n hX dX2_knotsAt_17 rfl 1 rfl ?_
      refine g_iald hX 3 rfl (vin_of c_1 c_10 (by decide)) (v := (u.2.2.1 (Int32.toNatClampNeg p1))) (congrArg _ rfl) dX2_knotsAt_18 ?_
      refine g_goto hX 23 dX2_knotsAt_19 (by decide) ?_
      have e9 : F_X2_knotsAt u p1 = (u.2.2.1 (Int32.toNatClampNeg p1)) := by simp only [F_X2_knotsAt, eq_false c_1, eq_false c_10, if_true, if_false]
      rw [e9]
      exact g_iret hX dX2_knotsAt_23 rfl rfl
/-! X2_isBad -/
def rmX2_isBad : Room := { frames := 1, cells := 0, slots := 0, locals := 21 }
def F_X2_isBad (u : SV) (p1 : Int32) : Int32 :=
  (if (F_X2_knotsAt u p1) ≤ 2 then 0 else 1)
set_option maxHeartbeats 4000000 in
set_option maxRecDepth 100000 in
theorem c_X2_isBad (l : Launch) (T : TT) (b0 : Nat) (a w h k d : Nat) (u : SV) (p1 : Int32)  : ConI l T b0 yX2_isBad wsX2_isBad rmX2_isBad [.ref a, .int p1] (wSt T a w h k d u) (F_X2_isBad u p1) (wSt T a w h k d u) := by
  refine conI_of (cc := cX2_isBad) (maxL := 2) (ret := (some .boolean)) (lv0 := [(0, .ref a), (1, .int p1)]) (by decide +kernel) rfl (Nat.le_of_ble_eq_true rfl) rfl (fun X hX => ?_)
  refine g_aload_n hX dX2_isBad_0 rfl 0 rfl ?_
  refine g_iload_n hX dX2_isBad_1 rfl 1 rfl ?_
  refine g_cV_I hX (n := 1) (As := [.int p1]) (wc := wSt T a w h k d u) (w1 := wSt T a w h k d u) (rv := (F_X2_knotsAt u p1)) (st := []) 0 rfl rfl (c_X2_knotsAt (xL X) T (xB X) a w h k d u p1) gX2_isBad_X2_knotsAt rfl rfl rfl ⟨Nat.le_of_ble_eq_true rfl, Nat.le_of_ble_eq_true rfl⟩ ⟨Nat.zero_le _, Nat.zero_le _⟩ ⟨by decide +kernel, by decide +kernel, by decide +kernel⟩ rfl [0, 1, 2, 3, 4] rfl rfl (by decide) rfl (Nat.le_of_ble_eq_true rfl) dX2_isBad_2 (ws' := wSt T a w h k d u) rfl ?_
  refine g_iconst hX (v := 2) dX2_isBad_5 (by decide) ?_
  refine g_icmp_le hX 13 dX2_isBad_6 (by decide) (fun c_6 => ?_) (fun c_6 => ?_)
  · skip
    refine g_iconst hX (v := 0) dX2_isBad_13 (by decide) ?_
    have e9 : F_X2_isBad u p1 = 0 := by simp only [F_X2_isBad, eq_true c_6, if_true, if_false]
    rw [e9]
    exact g_zret hX dX2_isBad_14 rfl rfl rfl
  · skip
    refine g_iconst hX (v := 1) dX2_isBad_9 (by decide) ?_
    refine g_goto hX 14 dX2_isBad_10 (by decide) ?_
    have e9 : F_X2_isBad u p1 = 1 := by simp only [F_X2_isBad, eq_false c_6, if_true, if_false]
    rw [e9]
    exact g_zret hX dX2_isBad_14 rfl rfl rfl
/-! X2_hasBadPlace -/
def rmX2_hasBadPlace : Room := { frames := 2, cells := 0, slots := 0, locals := 42 }
def K_X2_hasBadPlace_4 : Nat → SV → Nat → Int32 → Int32
  | 0, u, j, e => 0
  | n + 1, u, j, e => (if 12 ≤ (nI j) then e else (if e = 0 then (if (F_X2_isBad u (nI j)) = 0 then K_X2_hasBadPlace_4 n u (j + 1) 0 else K_X2_hasBadPlace_4 n u (j + 1) 1) else K_X2_hasBadPlace_4 n u (j + 1) 1))
def F_X2_hasBadPlace (u : SV) : Int32 :=
  K_X2_hasBadPlace_4 13 u 0 0
set_option maxHeartbeats 4000000 in
set_option maxRecDepth 100000 in
theorem k_X2_hasBadPlace_4 {T : TT} {X : CX} (hX : Fit T X (yX2_hasBadPlace).cls 3 wsX2_hasBadPlace cX2_hasBadPlace (some .boolean) rmX2_hasBadPlace) (a w h k d : Nat) : ∀ (n : Nat) (u : SV) (j : Nat) (e : Int32) (hn : j + n = 13) (hj : j ≤ 12) (he : e = 0 ∨ e = 1), G T X (QI T X 0 0 (K_X2_hasBadPlace_4 n u j e) (wSt T a w h k d u)) 0 0 (wSt T a w h k d u) [(2, .int (nI j)), (1, .int e), (0, .ref a)] 4 [] := by
  intro n
  induction n with
  | zero =>
    intro u j e hn hj he
    exact absurd hn (by omega)
  | succ n ih =>
    intro u j e hn hj he
    refine g_iload_n hX dX2_hasBadPlace_4 rfl 0 rfl ?_
    refine g_bipush hX (v := 12) dX2_hasBadPlace_5 (by decide) ?_
    refine g_icmp_ge hX 34 dX2_hasBadPlace_7 (by decide) (fun c_7 => ?_) (fun c_7 => ?_)
    · skip
      refine g_iload_n hX dX2_hasBadPlace_34 rfl 1 rfl ?_
      have e9 : K_X2_hasBadPlace_4 (n + 1) u j e = e := by simp only [K_X2_hasBadPlace_4, eq_true c_7, if_true, if_false]
      rw [e9]
      exact g_zret hX dX2_hasBadPlace_35 (narrow_b he) rfl rfl
    · skip
      have hlt_7 : j < 12 := nlt_of c_7 (by decide) (by omega)
      refine g_iload_n hX dX2_hasBadPlace_10 rfl 1 rfl ?_
      refine g_if_ne hX 22 dX2_hasBadPlace_11 (by decide) (fun c_11 => ?_) (fun c_11 => ?_)
      · skip
        refine g_iconst hX (v := 1) dX2_hasBadPlace_22 (by decide) ?_
        refine g_goto hX 27 dX2_hasBadPlace_23 (by decide) ?_
        refine g_istore_n hX (lv' := [(1, .int 1), (2, .int (nI j)), (0, .ref a)]) dX2_hasBadPlace_27 rfl (by decide) rfl ?_
        refine g_iinc hX (lv' := [(2, .int (nI (j + 1))), (1, .int 1), (0, .ref a)]) (v := (nI (j + 1))) 1 dX2_hasBadPlace_28 rfl (nI_1 _) (by decide) rfl ?_
        refine g_goto hX 4 dX2_hasBadPlace_31 (by decide) ?_
        have e9 : K_X2_hasBadPlace_4 (n + 1) u j e = K_X2_hasBadPlace_4 n u (j + 1) 1 := by simp only [K_X2_hasBadPlace_4, eq_false c_7, eq_false c_11, if_true, if_false]
        rw [e9]
        refine g_lv (lv' := [(2, .int (nI (j + 1))), (1, .int 1), (0, .ref a)]) [0, 1, 2] rfl ?_
        exact ih u (j + 1) 1 (by omega) (by omega) (by first | exact Or.inl rfl | exact Or.inr rfl)
      · skip
        refine g_aload_n hX dX2_hasBadPlace_14 rfl 2 rfl ?_
        refine g_iload_n hX dX2_hasBadPlace_15 rfl 0 rfl ?_
        refine g_cV_I hX (n := 1) (As := [.int (nI j)]) (wc := wSt T a w h k d u) (w1 := wSt T a w h k d u) (rv := (F_X2_isBad u (nI j))) (st := []) 0 rfl rfl (c_X2_isBad (xL X) T (xB X) a w h k d u (nI j)) gX2_hasBadPlace_X2_isBad rfl rfl rfl ⟨Nat.le_of_ble_eq_true rfl, Nat.le_of_ble_eq_true rfl⟩ ⟨Nat.zero_le _, Nat.zero_le _⟩ ⟨by decide +kernel, by decide +kernel, by decide +kernel⟩ rfl [0, 1, 2, 3, 4] rfl rfl (by decide) rfl (Nat.le_of_ble_eq_true rfl) dX2_hasBadPlace_16 (ws' := wSt T a w h k d u) rfl ?_
        refine g_if_eq hX 26 dX2_hasBadPlace_19 (by decide) (fun c_19 => ?_) (fun c_19 => ?_)
        · skip
          refine g_iconst hX (v := 0) dX2_hasBadPlace_26 (by decide) ?_
          refine g_istore_n hX (lv' := [(1, .int 0), (2, .int (nI j)), (0, .ref a)]) dX2_hasBadPlace_27 rfl (by decide) rfl ?_
          refine g_iinc hX (lv' := [(2, .int (nI (j + 1))), (1, .int 0), (0, .ref a)]) (v := (nI (j + 1))) 1 dX2_hasBadPlace_28 rfl (nI_1 _) (by decide) rfl ?_
          refine g_goto hX 4 dX2_hasBadPlace_31 (by decide) ?_
          have e9 : K_X2_hasBadPlace_4 (n + 1) u j e = K_X2_hasBadPlace_4 n u (j + 1) 0 := by simp only [K_X2_hasBadPlace_4, eq_false c_7, eq_true c_11, eq_true c_19, if_true, if_false]
          rw [e9]
          refine g_lv (lv' := [(2, .int (nI (j + 1))), (1, .int 0), (0, .ref a)]) [0, 1, 2] rfl ?_
          exact ih u (j + 1) 0 (by omega) (by omega) (by first | exact Or.inl rfl | exact Or.inr rfl)
        · skip
          refine g_iconst hX (v := 1) dX2_hasBadPlace_22 (by decide) ?_
          refine g_goto hX 27 dX2_hasBadPlace_23 (by decide) ?_
          refine g_istore_n hX (lv' := [(1, .int 1), (2, .int (nI j)), (0, .ref a)]) dX2_hasBadPlace_27 rfl (by decide) rfl ?_
          refine g_iinc hX (lv' := [(2, .int (nI (j + 1))), (1, .int 1), (0, .ref a)]) (v := (nI (j + 1))) 1 dX2_hasBadPlace_28 rfl (nI_1 _) (by decide) rfl ?_
          refine g_goto hX 4 dX2_hasBadPlace_31 (by decide) ?_
          have e9 : K_X2_hasBadPlace_4 (n + 1) u j e = K_X2_hasBadPlace_4 n u (j + 1) 1 := by simp only [K_X2_hasBadPlace_4, eq_false c_7, eq_true c_11, eq_false c_19, if_true, if_false]
          rw [e9]
          refine g_lv (lv' := [(2, .int (nI (j + 1))), (1, .int 1), (0, .ref a)]) [0, 1, 2] rfl ?_
          exact ih u (j + 1) 1 (by omega) (by omega) (by first | exact Or.inl rfl | exact Or.inr rfl)
set_option maxHeartbeats 4000000 in
set_option maxRecDepth 100000 in
theorem c_X2_hasBadPlace (l : Launch) (T : TT) (b0 : Nat) (a w h k d : Nat) (u : SV)  : ConI l T b0 yX2_hasBadPlace wsX2_hasBadPlace rmX2_hasBadPlace [.ref a] (wSt T a w h k d u) (F_X2_hasBadPlace u) (wSt T a w h k d u) := by
  refine conI_of (cc := cX2_hasBadPlace) (maxL := 3) (ret := (some .boolean)) (lv0 := [(0, .ref a)]) (by decide +kernel) rfl (Nat.le_of_ble_eq_true rfl) rfl (fun X hX => ?_)
  refine g_iconst hX (v := 0) dX2_hasBadPlace_0 (by decide) ?_
  refine g_istore_n hX (lv' := [(1, .int 0), (0, .ref a)]) dX2_hasBadPlace_1 rfl (by decide) rfl ?_
  refine g_iconst hX (v := 0) dX2_hasBadPlace_2 (by decide) ?_
  refine g_istore_n hX (lv' := [(2, .int 0), (1, .int 0), (0, .ref a)]) dX2_hasBadPlace_3 rfl (by decide) rfl ?_
  have e9 : F_X2_hasBadPlace u = K_X2_hasBadPlace_4 13 u 0 0 := by simp only [F_X2_hasBadPlace, if_true, if_false]
  rw [e9]
  refine g_lv (lv' := [(2, .int (nI 0)), (1, .int 0), (0, .ref a)]) [0, 1, 2] rfl ?_
  exact k_X2_hasBadPlace_4 hX a w h k d 13 u 0 0 (by omega) (by omega) (Or.inl rfl)
/-! X2_allKnots -/
def rmX2_allKnots : Room := { frames := 0, cells := 0, slots := 0, locals := 0 }
theorem k_X2_allKnots_0 : Cond.fieldLink RX2 18 RX2 (TX2 1).2.1 (TX2 1).2.2.1 ∈ wsX2_allKnots := List.mem_of_getElem? (i := 1) rfl
theorem h_X2_allKnots_X2 : ∀ w ∈ u_ws RX2 TX2 11, w ∈ wsX2_allKnots := fun w h => List.mem_cons_of_mem _ (List.mem_append_right _ h)
def K_X2_allKnots_13 : Nat → SV → Nat → Int32 → Int32
  | 0, u, j, e => 0
  | n + 1, u, j, e => (if 12 ≤ (nI j) then e else K_X2_allKnots_13 n u (j + 1) (e + (u.2.2.1 j)))
def F_X2_allKnots (u : SV) : Int32 :=
  K_X2_allKnots_13 13 u 0 0
set_option maxHeartbeats 4000000 in
set_option maxRecDepth 100000 in
theorem k_X2_allKnots_13 {T : TT} {X : CX} (hX : Fit T X (yX2_allKnots).cls 6 wsX2_allKnots cX2_allKnots (some .int) rmX2_allKnots) (a w h k d : Nat) : ∀ (n : Nat) (u : SV) (j : Nat) (e : Int32) (hn : j + n = 13) (hj : j ≤ 12), G T X (QI T X 0 0 (K_X2_allKnots_13 n u j e) (wSt T a w h k d u)) 0 0 (wSt T a w h k d u) [(4, .int (nI j)), (1, .int e), (2, .ref k), (3, .int 12), (0, .ref a)] 13 [] := by
  intro n
  induction n with
  | zero =>
    intro u j e hn hj
    exact absurd hn (by omega)
  | succ n ih =>
    intro u j e hn hj
    refine g_iload hX dX2_allKnots_13 0 rfl ?_
    refine g_iload_n hX dX2_allKnots_15 rfl 3 rfl ?_
    refine g_icmp_ge hX 36 dX2_allKnots_16 (by decide) (fun c_16 => ?_) (fun c_16 => ?_)
    · skip
      refine g_iload_n hX dX2_allKnots_36 rfl 1 rfl ?_
      have e9 : K_X2_allKnots_13 (n + 1) u j e = e := by simp only [K_X2_allKnots_13, eq_true c_16, if_true, if_false]
      rw [e9]
      exact g_iret hX dX2_allKnots_37 rfl rfl
    · skip
      have hlt_16 : j < 12 := nlt_of c_16 (by decide) (by omega)
      refine g_aload_n hX dX2_allKnots_19 rfl 2 rfl ?_
      refine g_iload hX dX2_allKnots_20 0 rfl ?_
      refine g_iald hX 3 rfl (vp_in_nI (by omega) (by omega)) (v := (u.2.2.1 j)) (congrArg _ (nI_clamp (by omega))) dX2_allKnots_22 ?_
      refine g_istore hX (lv' := [(5, .int (u.2.2.1 j)), (4, .int (nI j)), (1, .int e), (2, .ref k), (3, .int 12), (0, .ref a)]) dX2_allKnots_23 (by decide) rfl ?_
      refine g_iload_n hX dX2_allKnots_25 rfl 2 rfl ?_
      refine g_iload hX dX2_allKnots_26 0 rfl ?_
      refine g_iadd hX dX2_allKnots_28 ?_
      refine g_istore_n hX (lv' := [(1, .int (e + (u.2.2.1 j))), (5, .int (u.2.2.1 j)), (4, .int (nI j)), (2, .ref k), (3, .int 12), (0, .ref a)]) dX2_allKnots_29 rfl (by decide) rfl ?_
      refine g_iinc hX (lv' := [(4, .int (nI (j + 1))), (1, .int (e + (u.2.2.1 j))), (5, .int (u.2.2.1 j)), (2, .ref k), (3, .int 12), (0, .ref a)]) (v := (nI (j + 1))) 2 dX2_allKnots_30 rfl (nI_1 _) (by decide) rfl ?_
      refine g_goto hX 13 dX2_allKnots_33 (by decide) ?_
      have e9 : K_X2_allKnots_13 (n + 1) u j e = K_X2_allKnots_13 n u (j + 1) (e + (u.2.2.1 j)) := by simp only [K_X2_allKnots_13, eq_false c_16, if_true, if_false]
      rw [e9]
      refine g_lv (lv' := [(4, .int (nI (j + 1))), (1, .int (e + (u.2.2.1 j))), (2, .ref k), (3, .int 12), (0, .ref a)]) [0, 1, 3, 4, 5] rfl ?_
      exact ih u (j + 1) (e + (u.2.2.1 j)) (by omega) (by omega)
set_option maxHeartbeats 4000000 in
set_option maxRecDepth 100000 in
theorem c_X2_allKnots (l : Launch) (T : TT) (b0 : Nat) (a w h k d : Nat) (u : SV)  : ConI l T b0 yX2_allKnots wsX2_allKnots rmX2_allKnots [.ref a] (wSt T a w h k d u) (F_X2_allKnots u) (wSt T a w h k d u) := by
  refine conI_of (cc := cX2_allKnots) (maxL := 6) (ret := (some .int)) (lv0 := [(0, .ref a)]) (by decide +kernel) rfl (Nat.le_of_ble_eq_true rfl) rfl (fun X hX => ?_)
  refine g_iconst hX (v := 0) dX2_allKnots_0 (by decide) ?_
  refine g_istore_n hX (lv' := [(1, .int 0), (0, .ref a)]) dX2_allKnots_1 rfl (by decide) rfl ?_
  refine g_aload_n hX dX2_allKnots_2 rfl 1 rfl ?_
  refine g_get hX 2 h_X2_allKnots_X2 0 rfl rfl 1 (by decide) k_X2_allKnots_0 rfl (v := .ref k) rfl dX2_allKnots_3 ?_
  refine g_astore_n hX (lv' := [(2, .ref k), (1, .int 0), (0, .ref a)]) dX2_allKnots_6 rfl (by decide) rfl ?_
  refine g_aload_n hX dX2_allKnots_7 rfl 0 rfl ?_
  refine g_alen hX 3 0 rfl rfl (v := 12) rfl dX2_allKnots_8 ?_
  refine g_istore_n hX (lv' := [(3, .int 12), (2, .ref k), (1, .int 0), (0, .ref a)]) dX2_allKnots_9 rfl (by decide) rfl ?_
  refine g_iconst hX (v := 0) dX2_allKnots_10 (by decide) ?_
  refine g_istore hX (lv' := [(4, .int 0), (3, .int 12), (2, .ref k), (1, .int 0), (0, .ref a)]) dX2_allKnots_11 (by decide) rfl ?_
  have e9 : F_X2_allKnots u = K_X2_allKnots_13 13 u 0 0 := by simp only [F_X2_allKnots, if_true, if_false]
  rw [e9]
  refine g_lv (lv' := [(4, .int (nI 0)), (1, .int 0), (2, .ref k), (3, .int 12), (0, .ref a)]) [0, 3, 2, 1, 4] rfl ?_
  exact k_X2_allKnots_13 hX a w h k d 13 u 0 0 (by omega) (by omega)
/-! X2_isConeEmpty -/
def rmX2_isConeEmpty : Room := { frames := 0, cells := 0, slots := 0, locals := 0 }
theorem k_X2_isConeEmpty_0 : Cond.fieldLink RX2 33 RX2 (TX2 3).2.1 (TX2 3).2.2.1 ∈ wsX2_isConeEmpty := List.mem_of_getElem? (i := 1) rfl
theorem h_X2_isConeEmpty_X2 : ∀ w ∈ u_ws RX2 TX2 11, w ∈ wsX2_isConeEmpty := fun w h => List.mem_cons_of_mem _ (List.mem_append_right _ h)
def F_X2_isConeEmpty (u : SV) : Int32 :=
  (if (u.1 0) = 0 then 1 else 0)
set_option maxHeartbeats 4000000 in
set_option maxRecDepth 100000 in
theorem c_X2_isConeEmpty (l : Launch) (T : TT) (b0 : Nat) (a w h k d : Nat) (u : SV)  : ConI l T b0 yX2_isConeEmpty wsX2_isConeEmpty rmX2_isConeEmpty [.ref a] (wSt T a w h k d u) (F_X2_isConeEmpty u) (wSt T a w h k d u) := by
  refine conI_of (cc := cX2_isConeEmpty) (maxL := 1) (ret := (some .boolean)) (lv0 := [(0, .ref a)]) (by decide +kernel) rfl (Nat.le_of_ble_eq_true rfl) rfl (fun X hX => ?_)
  refine g_aload_n hX dX2_isConeEmpty_0 rfl 0 rfl ?_
  refine g_get hX 2 h_X2_isConeEmpty_X2 0 rfl rfl 3 (by decide) k_X2_isConeEmpty_0 rfl (v := .int (u.1 0)) rfl dX2_isConeEmpty_1 ?_
  refine g_if_ne hX 11 dX2_isConeEmpty_4 (by decide) (fun c_4 => ?_) (fun c_4 => ?_)
  · skip
    refine g_iconst hX (v := 0) dX2_isConeEmpty_11 (by decide) ?_
    have e9 : F_X2_isConeEmpty u = 0 := by simp only [F_X2_isConeEmpty, eq_false c_4, if_true, if_false]
    rw [e9]
    exact g_zret hX dX2_isConeEmpty_12 rfl rfl rfl
  · skip
    refine g_iconst hX (v := 1) dX2_isConeEmpty_7 (by decide) ?_
    refine g_goto hX 12 dX2_isConeEmpty_8 (by decide) ?_
    have e9 : F_X2_isConeEmpty u = 1 := by simp only [F_X2_isConeEmpty, eq_true c_4, if_true, if_false]
    rw [e9]
    exact g_zret hX dX2_isConeEmpty_12 rfl rfl rfl
/-! X2_isIdle -/
def rmX2_isIdle : Room := { frames := 1, cells := 0, slots := 0, locals := 20 }
theorem k_X2_isIdle_0 : Cond.fieldLink RX2 40 RX2 (TX2 5).2.1 (TX2 5).2.2.1 ∈ wsX2_isIdle := List.mem_of_getElem? (i := 1) rfl
theorem h_X2_isIdle_X2 : ∀ w ∈ u_ws RX2 TX2 11, w ∈ wsX2_isIdle := fun w h => List.mem_cons_of_mem _ (List.mem_append_left _ (List.mem_append_right _ h))
theorem k_X2_isIdle_1 : Cond.fieldLink RX2 12 RX2 (TX2 0).2.1 (TX2 0).2.2.1 ∈ wsX2_isIdle := List.mem_of_getElem? (i := 2) rfl
theorem k_X2_isIdle_9 : Cond.initialized RX3 ∈ wsX2_isIdle := List.mem_of_getElem? (i := 10) rfl
theorem k_X2_isIdle_8 : Cond.instanceMethod yX3_isFull ∈ wsX2_isIdle := List.mem_of_getElem? (i := 9) rfl
theorem k_X2_isIdle_10 : Cond.selects RX3 yX3_isFull yX3_isFull ∈ wsX2_isIdle := List.mem_of_getElem? (i := 11) rfl
def F_X2_isIdle (u : SV) : Int32 :=
  (if (u.1 2) = 0 then (if (F_X2_isConeEmpty u) = 0 then (if (F_X3_isFull u.2.1) = 0 then 0 else 1) else 1) else 1)
set_option maxHeartbeats 4000000 in
set_option maxRecDepth 100000 in
theorem c_X2_isIdle (l : Launch) (T : TT) (b0 : Nat) (a w h k d : Nat) (u : SV)  : ConI l T b0 yX2_isIdle wsX2_isIdle rmX2_isIdle [.ref a] (wSt T a w h k d u) (F_X2_isIdle u) (wSt T a w h k d u) := by
  refine conI_of (cc := cX2_isIdle) (maxL := 1) (ret := (some .boolean)) (lv0 := [(0, .ref a)]) (by decide +kernel) rfl (Nat.le_of_ble_eq_true rfl) rfl (fun X hX => ?_)
  refine g_aload_n hX dX2_isIdle_0 rfl 0 rfl ?_
  refine g_get hX 2 h_X2_isIdle_X2 0 rfl rfl 5 (by decide) k_X2_isIdle_0 rfl (v := .int (u.1 2)) rfl dX2_isIdle_1 ?_
  refine g_if_ne hX 24 dX2_isIdle_4 (by decide) (fun c_4 => ?_) (fun c_4 => ?_)
  · skip
    refine g_iconst hX (v := 1) dX2_isIdle_24 (by decide) ?_
    refine g_goto hX 29 dX2_isIdle_25 (by decide) ?_
    have e9 : F_X2_isIdle u = 1 := by simp only [F_X2_isIdle, eq_false c_4, if_true, if_false]
    rw [e9]
    exact g_zret hX dX2_isIdle_29 rfl rfl rfl
  · skip
    refine g_aload_n hX dX2_isIdle_7 rfl 0 rfl ?_
    refine g_cV_I hX (n := 0) (As := []) (wc := wSt T a w h k d u) (w1 := wSt T a w h k d u) (rv := (F_X2_isConeEmpty u)) (st := []) 0 rfl rfl (c_X2_isConeEmpty (xL X) T (xB X) a w h k d u) gX2_isIdle_X2_isConeEmpty rfl rfl rfl ⟨Nat.le_of_ble_eq_true rfl, Nat.le_of_ble_eq_true rfl⟩ ⟨Nat.zero_le _, Nat.zero_le _⟩ ⟨by decide +kernel, by decide +kernel, by decide +kernel⟩ rfl [0, 1, 2, 3, 4] rfl rfl (by decide) rfl (Nat.le_of_ble_eq_true rfl) dX2_isIdle_8 (ws' := wSt T a w h k d u) rfl ?_
    refine g_if_ne hX 24 dX2_isIdle_11 (by decide) (fun c_11 => ?_) (fun c_11 => ?_)
    · skip
      refine g_iconst hX (v := 1) dX2_isIdle_24 (by decide) ?_
      refine g_goto hX 29 dX2_isIdle_25 (by decide) ?_
      have e9 : F_X2_isIdle u = 1 := by simp only [F_X2_isIdle, eq_true c_4, eq_false c_11, if_true, if_false]
      rw [e9]
      exact g_zret hX dX2_isIdle_29 rfl rfl rfl
    · skip
      refine g_aload_n hX dX2_isIdle_14 rfl 0 rfl ?_
      refine g_get hX 2 h_X2_isIdle_X2 0 rfl rfl 0 (by decide) k_X2_isIdle_1 rfl (v := .ref w) rfl dX2_isIdle_15 ?_
      refine g_cVN_I hX (n := 0) (As := []) (wc := wWr T w h u.2.1) (w1 := wWr T w h u.2.1) (rv := (F_X3_isFull u.2.1)) (st := []) 1 rfl rfl (c_X3_isFull (xL X) T (xB X) w h u.2.1) ggX2_isIdle_X3_isFull 27 rfl k_X2_isIdle_9 k_X2_isIdle_8 k_X2_isIdle_10 rfl rfl rfl ⟨Nat.le_of_ble_eq_true rfl, Nat.le_of_ble_eq_true rfl⟩ ⟨Nat.zero_le _, Nat.zero_le _⟩ ⟨by decide +kernel, by decide +kernel, by decide +kernel⟩ rfl [1, 2] rfl rfl (by decide) rfl (Nat.le_of_ble_eq_true rfl) dX2_isIdle_18 (ws' := wSt T a w h k d u) rfl ?_
      refine g_if_eq hX 28 dX2_isIdle_21 (by decide) (fun c_21 => ?_) (fun c_21 => ?_)
      · skip
        refine g_iconst hX (v := 0) dX2_isIdle_28 (by decide) ?_
        have e9 : F_X2_isIdle u = 0 := by simp only [F_X2_isIdle, eq_true c_4, eq_true c_11, eq_true c_21, if_true, if_false]
        rw [e9]
        exact g_zret hX dX2_isIdle_29 rfl rfl rfl
      · skip
        refine g_iconst hX (v := 1) dX2_isIdle_24 (by decide) ?_
        refine g_goto hX 29 dX2_isIdle_25 (by decide) ?_
        have e9 : F_X2_isIdle u = 1 := by simp only [F_X2_isIdle, eq_true c_4, eq_true c_11, eq_false c_21, if_true, if_false]
        rw [e9]
        exact g_zret hX dX2_isIdle_29 rfl rfl rfl
/-! X2_warmDiscs -/
def rmX2_warmDiscs : Room := { frames := 1, cells := 0, slots := 0, locals := 21 }
theorem k_X2_warmDiscs_0 : Cond.fieldLink RX2 37 RX2 (TX2 4).2.1 (TX2 4).2.2.1 ∈ wsX2_warmDiscs := List.mem_of_getElem? (i := 1) rfl
theorem h_X2_warmDiscs_X2 : ∀ w ∈ u_ws RX2 TX2 11, w ∈ wsX2_warmDiscs := fun w h => List.mem_cons_of_mem _ (List.mem_append_right _ h)
theorem k_X2_warmDiscs_1 : Cond.methodLink RX2 125 Lib.Math.min.name ∈ wsX2_warmDiscs := List.mem_of_getElem? (i := 2) rfl
theorem k_X2_warmDiscs_2 : Cond.static Lib.Math.min.name ∈ wsX2_warmDiscs := List.mem_of_getElem? (i := 3) rfl
theorem k_X2_warmDiscs_3 : Cond.initialized "java/lang/Math" ∈ wsX2_warmDiscs := List.mem_of_getElem? (i := 4) rfl
theorem k_X2_warmDiscs_4 : Cond.code Lib.Math.min.name Lib.Math.min.code 2 (some .int) ∈ wsX2_warmDiscs := List.mem_of_getElem? (i := 5) rfl
theorem k_X2_warmDiscs_5 : Cond.methodLink RX2 128 Lib.Math.max.name ∈ wsX2_warmDiscs := List.mem_of_getElem? (i := 6) rfl
theorem k_X2_warmDiscs_6 : Cond.static Lib.Math.max.name ∈ wsX2_warmDiscs := List.mem_of_getElem? (i := 7) rfl
theorem k_X2_warmDiscs_7 : Cond.code Lib.Math.max.name Lib.Math.max.code 2 (some .int) ∈ wsX2_warmDiscs := List.mem_of_getElem? (i := 8) rfl
def F_X2_warmDiscs (u : SV) : SV :=
  (upd u.1 1 (if 0 < (if (((u.1 1) + (F_X2_number u 1)) - 1) < 300 then (((u.1 1) + (F_X2_number u 1)) - 1) else 300) then (if (((u.1 1) + (F_X2_number u 1)) - 1) < 300 then (((u.1 1) + (F_X2_number u 1)) - 1) else 300) else 0), u.2.1, u.2.2.1, u.2.2.2)
set_option maxHeartbeats 4000000 in
set_option maxRecDepth 100000 in
theorem c_X2_warmDiscs (l : Launch) (T : TT) (b0 : Nat) (a w h k d : Nat) (u : SV)  : ConV l T b0 yX2_warmDiscs wsX2_warmDiscs rmX2_warmDiscs [.ref a] (wSt T a w h k d u) (wSt T a w h k d (F_X2_warmDiscs u)) := by
  refine conV_of (cc := cX2_warmDiscs) (maxL := 1) (ret := none) (lv0 := [(0, .ref a)]) (by decide +kernel) rfl (Nat.le_of_ble_eq_true rfl) rfl (fun X hX => ?_)
  refine g_aload_n hX dX2_warmDiscs_0 rfl 0 rfl ?_
  refine g_iconst hX (v := 0) dX2_warmDiscs_1 (by decide) ?_
  refine g_sipush hX (v := 300) dX2_warmDiscs_2 (by decide) ?_
  refine g_aload_n hX dX2_warmDiscs_5 rfl 0 rfl ?_
  refine g_get hX 2 h_X2_warmDiscs_X2 0 rfl rfl 4 (by decide) k_X2_warmDiscs_0 rfl (v := .int (u.1 1)) rfl dX2_warmDiscs_6 ?_
  refine g_aload_n hX dX2_warmDiscs_9 rfl 0 rfl ?_
  refine g_iconst hX (v := 1) dX2_warmDiscs_10 (by decide) ?_
  refine g_cV_I hX (n := 1) (As := [.int 1]) (wc := wSt T a w h k d u) (w1 := wSt T a w h k d u) (rv := (F_X2_number u 1)) (st := [.int (u.1 1), .int 300, .int 0, .ref a]) 0 rfl rfl (c_X2_number (xL X) T (xB X) a w h k d u 1) gX2_warmDiscs_X2_number rfl rfl rfl ⟨Nat.le_of_ble_eq_true rfl, Nat.le_of_ble_eq_true rfl⟩ ⟨Nat.zero_le _, Nat.zero_le _⟩ ⟨by decide +kernel, by decide +kernel, by decide +kernel⟩ rfl [0, 1, 2, 3, 4] rfl rfl (by decide) rfl (Nat.le_of_ble_eq_true rfl) dX2_warmDiscs_11 (ws' := wSt T a w h k d u) rfl ?_
  refine g_iadd hX dX2_warmDiscs_14 ?_
  refine g_iconst hX (v := 1) dX2_warmDiscs_15 (by decide) ?_
  refine g_isub hX dX2_warmDiscs_16 ?_
  refine g_mmin hX k_X2_warmDiscs_1 k_X2_warmDiscs_2 k_X2_warmDiscs_3 k_X2_warmDiscs_4 (Nat.le_of_ble_eq_true rfl) (Nat.le_of_ble_eq_true rfl) (Nat.zero_le _) (Nat.zero_le _) dX2_warmDiscs_17 ?_
  refine g_mmax hX k_X2_warmDiscs_5 k_X2_warmDiscs_6 k_X2_warmDiscs_3 k_X2_warmDiscs_7 (Nat.le_of_ble_eq_true rfl) (Nat.le_of_ble_eq_true rfl) (Nat.zero_le _) (Nat.zero_le _) dX2_warmDiscs_20 ?_
  refine g_put hX 2 h_X2_warmDiscs_X2 0 rfl rfl 4 (by decide) tyX2 tyX2_ok nmX2 k_X2_warmDiscs_0 rfl rfl rfl rfl rfl (Nat.le_of_ble_eq_true rfl) dX2_warmDiscs_23 (ws' := wSt T a w h k d (upd u.1 1 (if 0 < (if (((u.1 1) + (F_X2_number u 1)) - 1) < 300 then (((u.1 1) + (F_X2_number u 1)) - 1) else 300) then (if (((u.1 1) + (F_X2_number u 1)) - 1) < 300 then (((u.1 1) + (F_X2_number u 1)) - 1) else 300) else 0), u.2.1, u.2.2.1, u.2.2.2)) rfl ?_
  have e9 : F_X2_warmDiscs u = (upd u.1 1 (if 0 < (if (((u.1 1) + (F_X2_number u 1)) - 1) < 300 then (((u.1 1) + (F_X2_number u 1)) - 1) else 300) then (if (((u.1 1) + (F_X2_number u 1)) - 1) < 300 then (((u.1 1) + (F_X2_number u 1)) - 1) else 300) else 0), u.2.1, u.2.2.1, u.2.2.2) := by simp only [F_X2_warmDiscs, if_true, if_false]
  rw [e9]
  exact g_vret hX dX2_warmDiscs_26 rfl
/-! X2_tensionAt -/
def rmX2_tensionAt : Room := { frames := 1, cells := 0, slots := 0, locals := 21 }
theorem k_X2_tensionAt_0 : Cond.fieldLink RX2 37 RX2 (TX2 4).2.1 (TX2 4).2.2.1 ∈ wsX2_tensionAt := List.mem_of_getElem? (i := 1) rfl
theorem h_X2_tensionAt_X2 : ∀ w ∈ u_ws RX2 TX2 11, w ∈ wsX2_tensionAt := fun w h => List.mem_cons_of_mem _ (List.mem_append_left _ (List.mem_append_right _ h))
theorem k_X2_tensionAt_1 : Cond.fieldLink RX2 44 RX2 (TX2 6).2.1 (TX2 6).2.2.1 ∈ wsX2_tensionAt := List.mem_of_getElem? (i := 2) rfl
theorem k_X2_tensionAt_2 : Cond.fieldLink RX2 12 RX2 (TX2 0).2.1 (TX2 0).2.2.1 ∈ wsX2_tensionAt := List.mem_of_getElem? (i := 3) rfl
theorem k_X2_tensionAt_14 : Cond.initialized RX3 ∈ wsX2_tensionAt := List.mem_of_getElem? (i := 15) rfl
theorem k_X2_tensionAt_13 : Cond.instanceMethod yX3_heightAt ∈ wsX2_tensionAt := List.mem_of_getElem? (i := 14) rfl
theorem k_X2_tensionAt_15 : Cond.selects RX3 yX3_heightAt yX3_heightAt ∈ wsX2_tensionAt := List.mem_of_getElem? (i := 16) rfl
theorem k_X2_tensionAt_3 : Cond.methodLink RX2 120 Lib.Math.abs.name ∈ wsX2_tensionAt := List.mem_of_getElem? (i := 4) rfl
theorem k_X2_tensionAt_4 : Cond.static Lib.Math.abs.name ∈ wsX2_tensionAt := List.mem_of_getElem? (i := 5) rfl
theorem k_X2_tensionAt_5 : Cond.initialized "java/lang/Math" ∈ wsX2_tensionAt := List.mem_of_getElem? (i := 6) rfl
theorem k_X2_tensionAt_6 : Cond.code Lib.Math.abs.name Lib.Math.abs.code 1 (some .int) ∈ wsX2_tensionAt := List.mem_of_getElem? (i := 7) rfl
def F_X2_tensionAt (u : SV) (p1 : Int32) : Int32 :=
  (if (u.1 3) = (-1) then ((4 * (F_X2_number u 1)) + ((u.1 1) / 10)) else (((4 * (F_X2_number u 1)) + ((u.1 1) / 10)) + (2 * (if 0 ≤ ((F_X3_heightAt u.2.1 p1) - (F_X3_heightAt u.2.1 (u.1 3))) then ((F_X3_heightAt u.2.1 p1) - (F_X3_heightAt u.2.1 (u.1 3))) else 0 - ((F_X3_heightAt u.2.1 p1) - (F_X3_heightAt u.2.1 (u.1 3)))))))
set_option maxHeartbeats 4000000 in
set_option maxRecDepth 100000 in
theorem c_X2_tensionAt (l : Launch) (T : TT) (b0 : Nat) (a w h k d : Nat) (u : SV) (p1 : Int32)  : ConI l T b0 yX2_tensionAt wsX2_tensionAt rmX2_tensionAt [.ref a, .int p1] (wSt T a w h k d u) (F_X2_tensionAt u p1) (wSt T a w h k d u) := by
  refine conI_of (cc := cX2_tensionAt) (maxL := 4) (ret := (some .int)) (lv0 := [(0, .ref a), (1, .int p1)]) (by decide +kernel) rfl (Nat.le_of_ble_eq_true rfl) rfl (fun X hX => ?_)
  refine g_iconst hX (v := 4) dX2_tensionAt_0 (by decide) ?_
  refine g_aload_n hX dX2_tensionAt_1 rfl 0 rfl ?_
  refine g_iconst hX (v := 1) dX2_tensionAt_2 (by decide) ?_
  refine g_cV_I hX (n := 1) (As := [.int 1]) (wc := wSt T a w h k d u) (w1 := wSt T a w h k d u) (rv := (F_X2_number u 1)) (st := [.int 4]) 0 rfl rfl (c_X2_number (xL X) T (xB X) a w h k d u 1) gX2_tensionAt_X2_number rfl rfl rfl ⟨Nat.le_of_ble_eq_true rfl, Nat.le_of_ble_eq_true rfl⟩ ⟨Nat.zero_le _, Nat.zero_le _⟩ ⟨by decide +kernel, by decide +kernel, by decide +kernel⟩ rfl [0, 1, 2, 3, 4] rfl rfl (by decide) rfl (Nat.le_of_ble_eq_true rfl) dX2_tensionAt_3 (ws' := wSt T a w h k d u) rfl ?_
  refine g_imul hX dX2_tensionAt_6 ?_
  refine g_aload_n hX dX2_tensionAt_7 rfl 0 rfl ?_
  refine g_get hX 2 h_X2_tensionAt_X2 0 rfl rfl 4 (by decide) k_X2_tensionAt_0 rfl (v := .int (u.1 1)) rfl dX2_tensionAt_8 ?_
  refine g_bipush hX (v := 10) dX2_tensionAt_11 (by decide) ?_
  refine g_idiv hX dX2_tensionAt_13 (by decide) ?_
  refine g_iadd hX dX2_tensionAt_14 ?_
  refine g_istore_n hX (lv' := [(2, .int ((4 * (F_X2_number u 1)) + ((u.1 1) / 10))), (0, .ref a), (1, .int p1)]) dX2_tensionAt_15 rfl (by decide) rfl ?_
  refine g_aload_n hX dX2_tensionAt_16 rfl 1 rfl ?_
  refine g_get hX 2 h_X2_tensionAt_X2 0 rfl rfl 6 (by decide) k_X2_tensionAt_1 rfl (v := .int (u.1 3)) rfl dX2_tensionAt_17 ?_
  refine g_iconst hX (v := (-1)) dX2_tensionAt_20 (by decide) ?_
  refine g_icmp_ne hX 26 dX2_tensionAt_21 (by decide) (fun c_21 => ?_) (fun c_21 => ?_)
  · skip
    refine g_aload_n hX dX2_tensionAt_26 rfl 1 rfl ?_
    refine g_get hX 2 h_X2_tensionAt_X2 0 rfl rfl 0 (by decide) k_X2_tensionAt_2 rfl (v := .ref w) rfl dX2_tensionAt_27 ?_
    refine g_iload_n hX dX2_tensionAt_30 rfl 2 rfl ?_
    refine g_cVN_I hX (n := 1) (As := [.int p1]) (wc := wWr T w h u.2.1) (w1 := wWr T w h u.2.1) (rv := (F_X3_heightAt u.2.1 p1)) (st := []) 1 rfl rfl (c_X3_heightAt (xL X) T (xB X) w h u.2.1 p1) ggX2_tensionAt_X3_heightAt 29 rfl k_X2_tensionAt_14 k_X2_tensionAt_13 k_X2_tensionAt_15 rfl rfl rfl ⟨Nat.le_of_ble_eq_true rfl, Nat.le_of_ble_eq_true rfl⟩ ⟨Nat.zero_le _, Nat.zero_le _⟩ ⟨by decide +kernel, by decide +kernel, by decide +kernel⟩ rfl [1, 2] rfl rfl (by decide) rfl (Nat.le_of_ble_eq_true rfl) dX2_tensionAt_31 (ws' := wSt T a w h k d u) rfl ?_
    refine g_aload_n hX dX2_tensionAt_34 rfl 1 rfl ?_
    refine g_get hX 2 h_X2_tensionAt_X2 0 rfl rfl 0 (by decide) k_X2_tensionAt_2 rfl (v := .ref w) rfl dX2_tensionAt_35 ?_
    refine g_aload_n hX dX2_tensionAt_38 rfl 1 rfl ?_
    refine g_get hX 2 h_X2_tensionAt_X2 0 rfl rfl 6 (by decide) k_X2_tensionAt_1 rfl (v := .int (u.1 3)) rfl dX2_tensionAt_39 ?_
    refine g_cVN_I hX (n := 1) (As := [.int (u.1 3)]) (wc := wWr T w h u.2.1) (w1 := wWr T w h u.2.1) (rv := (F_X3_heightAt u.2.1 (u.1 3))) (st := [.int (F_X3_heightAt u.2.1 p1)]) 1 rfl rfl (c_X3_heightAt (xL X) T (xB X) w h u.2.1 (u.1 3)) ggX2_tensionAt_X3_heightAt 29 rfl k_X2_tensionAt_14 k_X2_tensionAt_13 k_X2_tensionAt_15 rfl rfl rfl ⟨Nat.le_of_ble_eq_true rfl, Nat.le_of_ble_eq_true rfl⟩ ⟨Nat.zero_le _, Nat.zero_le _⟩ ⟨by decide +kernel, by decide +kernel, by decide +kernel⟩ rfl [1, 2] rfl rfl (by decide) rfl (Nat.le_of_ble_eq_true rfl) dX2_tensionAt_42 (ws' := wSt T a w h k d u) rfl ?_
    refine g_isub hX dX2_tensionAt_45 ?_
    refine g_mabs hX k_X2_tensionAt_3 k_X2_tensionAt_4 k_X2_tensionAt_5 k_X2_tensionAt_6 (Nat.le_of_ble_eq_true rfl) (Nat.le_of_ble_eq_true rfl) (Nat.zero_le _) (Nat.zero_le _) dX2_tensionAt_46 ?_
    refine g_istore_n hX (lv' := [(3, .int (if 0 ≤ ((F_X3_heightAt u.2.1 p1) - (F_X3_heightAt u.2.1 (u.1 3))) then ((F_X3_heightAt u.2.1 p1) - (F_X3_heightAt u.2.1 (u.1 3))) else 0 - ((F_X3_heightAt u.2.1 p1) - (F_X3_heightAt u.2.1 (u.1 3))))), (2, .int ((4 * (F_X2_number u 1)) + ((u.1 1) / 10))), (0, .ref a), (1, .int p1)]) dX2_tensionAt_49 rfl (by decide) rfl ?_
    refine g_iload_n hX dX2_tensionAt_50 rfl 1 rfl ?_
    refine g_iconst hX (v := 2) dX2_tensionAt_51 (by decide) ?_
    refine g_iload_n hX dX2_tensionAt_52 rfl 0 rfl ?_
    refine g_imul hX dX2_tensionAt_53 ?_
    refine g_iadd hX dX2_tensionAt_54 ?_
    have e9 : F_X2_tensionAt u p1 = (((4 * (F_X2_number u 1)) + ((u.1 1) / 10)) + (2 * (if 0 ≤ ((F_X3_heightAt u.2.1 p1) - (F_X3_heightAt u.2.1 (u.1 3))) then ((F_X3_heightAt u.2.1 p1) - (F_X3_heightAt u.2.1 (u.1 3))) else 0 - ((F_X3_heightAt u.2.1 p1) - (F_X3_heightAt u.2.1 (u.1 3)))))) := by simp only [F_X2_tensionAt, eq_false c_21, if_true, if_false]
    rw [e9]
    exact g_iret hX dX2_tensionAt_55 rfl rfl
  · skip
    refine g_iload_n hX dX2_tensionAt_24 rfl 0 rfl ?_
    have e9 : F_X2_tensionAt u p1 = ((4 * (F_X2_number u 1)) + ((u.1 1) / 10)) := by simp only [F_X2_tensionAt, eq_true c_21, if_true, if_false]
    rw [e9]
    exact g_iret hX dX2_tensionAt_25 rfl rfl
/-! X2_copyFrom -/
def rmX2_copyFrom : Room := { frames := 2, cells := 0, slots := 0, locals := 61 }
theorem k_X2_copyFrom_0 : Cond.fieldLink RX2 12 RX2 (TX2 0).2.1 (TX2 0).2.2.1 ∈ wsX2_copyFrom := List.mem_of_getElem? (i := 1) rfl
theorem h_X2_copyFrom_X2 : ∀ w ∈ u_ws RX2 TX2 11, w ∈ wsX2_copyFrom := fun w h => List.mem_cons_of_mem _ (List.mem_append_left _ (List.mem_append_right _ h))
theorem k_X2_copyFrom_16 : Cond.initialized RX3 ∈ wsX2_copyFrom := List.mem_of_getElem? (i := 17) rfl
theorem k_X2_copyFrom_15 : Cond.instanceMethod yX3_copyFrom ∈ wsX2_copyFrom := List.mem_of_getElem? (i := 16) rfl
theorem k_X2_copyFrom_17 : Cond.selects RX3 yX3_copyFrom yX3_copyFrom ∈ wsX2_copyFrom := List.mem_of_getElem? (i := 18) rfl
theorem k_X2_copyFrom_1 : Cond.fieldLink RX2 18 RX2 (TX2 1).2.1 (TX2 1).2.2.1 ∈ wsX2_copyFrom := List.mem_of_getElem? (i := 2) rfl
theorem k_X2_copyFrom_2 : Cond.methodLink RX2 63 arraycopyName ∈ wsX2_copyFrom := List.mem_of_getElem? (i := 3) rfl
theorem k_X2_copyFrom_3 : Cond.native arraycopyName ∈ wsX2_copyFrom := List.mem_of_getElem? (i := 4) rfl
theorem k_X2_copyFrom_4 : Cond.static arraycopyName ∈ wsX2_copyFrom := List.mem_of_getElem? (i := 5) rfl
theorem k_X2_copyFrom_5 : Cond.initialized "java/lang/System" ∈ wsX2_copyFrom := List.mem_of_getElem? (i := 6) rfl
theorem k_X2_copyFrom_6 : Cond.fieldLink RX2 30 RX2 (TX2 2).2.1 (TX2 2).2.2.1 ∈ wsX2_copyFrom := List.mem_of_getElem? (i := 7) rfl
theorem k_X2_copyFrom_7 : Cond.fieldLink RX2 33 RX2 (TX2 3).2.1 (TX2 3).2.2.1 ∈ wsX2_copyFrom := List.mem_of_getElem? (i := 8) rfl
theorem k_X2_copyFrom_8 : Cond.fieldLink RX2 37 RX2 (TX2 4).2.1 (TX2 4).2.2.1 ∈ wsX2_copyFrom := List.mem_of_getElem? (i := 9) rfl
theorem k_X2_copyFrom_9 : Cond.fieldLink RX2 40 RX2 (TX2 5).2.1 (TX2 5).2.2.1 ∈ wsX2_copyFrom := List.mem_of_getElem? (i := 10) rfl
theorem k_X2_copyFrom_10 : Cond.fieldLink RX2 44 RX2 (TX2 6).2.1 (TX2 6).2.2.1 ∈ wsX2_copyFrom := List.mem_of_getElem? (i := 11) rfl
theorem k_X2_copyFrom_11 : Cond.fieldLink RX2 47 RX2 (TX2 7).2.1 (TX2 7).2.2.1 ∈ wsX2_copyFrom := List.mem_of_getElem? (i := 12) rfl
theorem k_X2_copyFrom_12 : Cond.fieldLink RX2 50 RX2 (TX2 8).2.1 (TX2 8).2.2.1 ∈ wsX2_copyFrom := List.mem_of_getElem? (i := 13) rfl
theorem k_X2_copyFrom_13 : Cond.fieldLink RX2 53 RX2 (TX2 9).2.1 (TX2 9).2.2.1 ∈ wsX2_copyFrom := List.mem_of_getElem? (i := 14) rfl
theorem k_X2_copyFrom_14 : Cond.fieldLink RX2 56 RX2 (TX2 10).2.1 (TX2 10).2.2.1 ∈ wsX2_copyFrom := List.mem_of_getElem? (i := 15) rfl
def F_X2_copyFrom (u : SV) (v : SV) : SV :=
  v
set_option maxHeartbeats 4000000 in
set_option maxRecDepth 100000 in
theorem c_X2_copyFrom (l : Launch) (T : TT) (b0 : Nat) (a w h k d a2 w2 h2 k2 d2 : Nat) (u : SV) (v : SV) (hb : v.1 2 = 0 ∨ v.1 2 = 1) : ConV l T b0 yX2_copyFrom wsX2_copyFrom rmX2_copyFrom [.ref a, .ref a2] (wSt T a w h k d u ++ wSt T a2 w2 h2 k2 d2 v) (wSt T a w h k d (F_X2_copyFrom u v) ++ wSt T a2 w2 h2 k2 d2 v) := by
  refine conV_of (cc := cX2_copyFrom) (maxL := 2) (ret := none) (lv0 := [(0, .ref a), (1, .ref a2)]) (by decide +kernel) rfl (Nat.le_of_ble_eq_true rfl) rfl (fun X hX => ?_)
  refine g_aload_n hX dX2_copyFrom_0 rfl 0 rfl ?_
  refine g_get hX 2 h_X2_copyFrom_X2 0 rfl rfl 0 (by decide) k_X2_copyFrom_0 rfl (v := .ref w) rfl dX2_copyFrom_1 ?_
  refine g_aload_n hX dX2_copyFrom_4 rfl 1 rfl ?_
  refine g_get hX 2 h_X2_copyFrom_X2 5 rfl rfl 0 (by decide) k_X2_copyFrom_0 rfl (v := .ref w2) rfl dX2_copyFrom_5 ?_
  refine g_cVN_V hX (n := 1) (As := [.ref w2]) (wc := wWr T w h u.2.1 ++ wWr T w2 h2 v.2.1) (w1 := wWr T w h v.2.1 ++ wWr T w2 h2 v.2.1) (st := []) 1 rfl rfl (c_X3_copyFrom (xL X) T (xB X) w h w2 h2 u.2.1 v.2.1) ggX2_copyFrom_X3_copyFrom 21 rfl k_X2_copyFrom_16 k_X2_copyFrom_15 k_X2_copyFrom_17 rfl rfl rfl ⟨Nat.le_of_ble_eq_true rfl, Nat.le_of_ble_eq_true rfl⟩ ⟨Nat.zero_le _, Nat.zero_le _⟩ ⟨by decide +kernel, by decide +kernel, by decide +kernel⟩ rfl [1, 2, 6, 7] rfl rfl (by decide) rfl (Nat.le_of_ble_eq_true rfl) dX2_copyFrom_8 (ws' := wSt T a w h k d (u.1, v.2.1, u.2.2.1, u.2.2.2) ++ wSt T a2 w2 h2 k2 d2 v) rfl ?_
  refine g_aload_n hX dX2_copyFrom_11 rfl 1 rfl ?_
  refine g_get hX 2 h_X2_copyFrom_X2 5 rfl rfl 1 (by decide) k_X2_copyFrom_1 rfl (v := .ref k2) rfl dX2_copyFrom_12 ?_
  refine g_iconst hX (v := 0) dX2_copyFrom_15 (by decide) ?_
  refine g_aload_n hX dX2_copyFrom_16 rfl 0 rfl ?_
  refine g_get hX 2 h_X2_copyFrom_X2 0 rfl rfl 1 (by decide) k_X2_copyFrom_1 rfl (v := .ref k) rfl dX2_copyFrom_17 ?_
  refine g_iconst hX (v := 0) dX2_copyFrom_20 (by decide) ?_
  refine g_bipush hX (v := 12) dX2_copyFrom_21 (by decide) ?_
  refine g_copyi hX k_X2_copyFrom_2 k_X2_copyFrom_3 k_X2_copyFrom_4 k_X2_copyFrom_5 8 3 rfl rfl (by decide) (by decide) (Nat.le_of_ble_eq_true rfl) (by decide +kernel) dX2_copyFrom_23 (ws' := wSt T a w h k d (u.1, v.2.1, v.2.2.1, u.2.2.2) ++ wSt T a2 w2 h2 k2 d2 v) rfl ?_
  refine g_aload_n hX dX2_copyFrom_26 rfl 1 rfl ?_
  refine g_get hX 2 h_X2_copyFrom_X2 5 rfl rfl 2 (by decide) k_X2_copyFrom_6 rfl (v := .ref d2) rfl dX2_copyFrom_27 ?_
  refine g_iconst hX (v := 0) dX2_copyFrom_30 (by decide) ?_
  refine g_aload_n hX dX2_copyFrom_31 rfl 0 rfl ?_
  refine g_get hX 2 h_X2_copyFrom_X2 0 rfl rfl 2 (by decide) k_X2_copyFrom_6 rfl (v := .ref d) rfl dX2_copyFrom_32 ?_
  refine g_iconst hX (v := 0) dX2_copyFrom_35 (by decide) ?_
  refine g_first hX 2 rfl dX2_copyFrom_36 (fun t_36 hF_36 => ?_)
  refine g_flen hX hF_36 dX2_copyFrom_39 ?_
  refine g_copyi hX k_X2_copyFrom_2 k_X2_copyFrom_3 k_X2_copyFrom_4 k_X2_copyFrom_5 9 4 rfl rfl (by decide) (by decide) (Nat.le_of_ble_eq_true rfl) (by decide +kernel) dX2_copyFrom_40 (ws' := wSt T a w h k d (u.1, v.2.1, v.2.2.1, v.2.2.2) ++ wSt T a2 w2 h2 k2 d2 v) rfl ?_
  refine g_aload_n hX dX2_copyFrom_43 rfl 0 rfl ?_
  refine g_aload_n hX dX2_copyFrom_44 rfl 1 rfl ?_
  refine g_get hX 2 h_X2_copyFrom_X2 5 rfl rfl 3 (by decide) k_X2_copyFrom_7 rfl (v := .int (v.1 0)) rfl dX2_copyFrom_45 ?_
  refine g_put hX 2 h_X2_copyFrom_X2 0 rfl rfl 3 (by decide) tyX2 tyX2_ok nmX2 k_X2_copyFrom_7 rfl rfl rfl rfl rfl (Nat.le_of_ble_eq_true rfl) dX2_copyFrom_48 (ws' := wSt T a w h k d (upd u.1 0 (v.1 0), v.2.1, v.2.2.1, v.2.2.2) ++ wSt T a2 w2 h2 k2 d2 v) rfl ?_
  refine g_aload_n hX dX2_copyFrom_51 rfl 0 rfl ?_
  refine g_aload_n hX dX2_copyFrom_52 rfl 1 rfl ?_
  refine g_get hX 2 h_X2_copyFrom_X2 5 rfl rfl 4 (by decide) k_X2_copyFrom_8 rfl (v := .int (v.1 1)) rfl dX2_copyFrom_53 ?_
  refine g_put hX 2 h_X2_copyFrom_X2 0 rfl rfl 4 (by decide) tyX2 tyX2_ok nmX2 k_X2_copyFrom_8 rfl rfl rfl rfl rfl (Nat.le_of_ble_eq_true rfl) dX2_copyFrom_56 (ws' := wSt T a w h k d (upd (upd u.1 0 (v.1 0)) 1 (v.1 1), v.2.1, v.2.2.1, v.2.2.2) ++ wSt T a2 w2 h2 k2 d2 v) rfl ?_
  refine g_aload_n hX dX2_copyFrom_59 rfl 0 rfl ?_
  refine g_aload_n hX dX2_copyFrom_60 rfl 1 rfl ?_
  refine g_get hX 2 h_X2_copyFrom_X2 5 rfl rfl 5 (by decide) k_X2_copyFrom_9 rfl (v := .int (v.1 2)) rfl dX2_copyFrom_61 ?_
  refine g_put hX 2 h_X2_copyFrom_X2 0 rfl rfl 5 (by decide) tyX2 tyX2_ok nmX2 k_X2_copyFrom_9 rfl rfl rfl (narrow_b hb) (fits_b hb) (Nat.le_of_ble_eq_true rfl) dX2_copyFrom_64 (ws' := wSt T a w h k d (upd (upd (upd u.1 0 (v.1 0)) 1 (v.1 1)) 2 (v.1 2), v.2.1, v.2.2.1, v.2.2.2) ++ wSt T a2 w2 h2 k2 d2 v) rfl ?_
  refine g_aload_n hX dX2_copyFrom_67 rfl 0 rfl ?_
  refine g_aload_n hX dX2_copyFrom_68 rfl 1 rfl ?_
  refine g_get hX 2 h_X2_copyFrom_X2 5 rfl rfl 6 (by decide) k_X2_copyFrom_10 rfl (v := .int (v.1 3)) rfl dX2_copyFrom_69 ?_
  refine g_put hX 2 h_X2_copyFrom_X2 0 rfl rfl 6 (by decide) tyX2 tyX2_ok nmX2 k_X2_copyFrom_10 rfl rfl rfl rfl rfl (Nat.le_of_ble_eq_true rfl) dX2_copyFrom_72 (ws' := wSt T a w h k d (upd (upd (upd (upd u.1 0 (v.1 0)) 1 (v.1 1)) 2 (v.1 2)) 3 (v.1 3), v.2.1, v.2.2.1, v.2.2.2) ++ wSt T a2 w2 h2 k2 d2 v) rfl ?_
  refine g_aload_n hX dX2_copyFrom_75 rfl 0 rfl ?_
  refine g_aload_n hX dX2_copyFrom_76 rfl 1 rfl ?_
  refine g_get hX 2 h_X2_copyFrom_X2 5 rfl rfl 7 (by decide) k_X2_copyFrom_11 rfl (v := .int (v.1 4)) rfl dX2_copyFrom_77 ?_
  refine g_put hX 2 h_X2_copyFrom_X2 0 rfl rfl 7 (by decide) tyX2 tyX2_ok nmX2 k_X2_copyFrom_11 rfl rfl rfl rfl rfl (Nat.le_of_ble_eq_true rfl) dX2_copyFrom_80 (ws' := wSt T a w h k d (upd (upd (upd (upd (upd u.1 0 (v.1 0)) 1 (v.1 1)) 2 (v.1 2)) 3 (v.1 3)) 4 (v.1 4), v.2.1, v.2.2.1, v.2.2.2) ++ wSt T a2 w2 h2 k2 d2 v) rfl ?_
  refine g_aload_n hX dX2_copyFrom_83 rfl 0 rfl ?_
  refine g_aload_n hX dX2_copyFrom_84 rfl 1 rfl ?_
  refine g_get hX 2 h_X2_copyFrom_X2 5 rfl rfl 8 (by decide) k_X2_copyFrom_12 rfl (v := .int (v.1 5)) rfl dX2_copyFrom_85 ?_
  refine g_put hX 2 h_X2_copyFrom_X2 0 rfl rfl 8 (by decide) tyX2 tyX2_ok nmX2 k_X2_copyFrom_12 rfl rfl rfl rfl rfl (Nat.le_of_ble_eq_true rfl) dX2_copyFrom_88 (ws' := wSt T a w h k d (upd (upd (upd (upd (upd (upd u.1 0 (v.1 0)) 1 (v.1 1)) 2 (v.1 2)) 3 (v.1 3)) 4 (v.1 4)) 5 (v.1 5), v.2.1, v.2.2.1, v.2.2.2) ++ wSt T a2 w2 h2 k2 d2 v) rfl ?_
  refine g_aload_n hX dX2_copyFrom_91 rfl 0 rfl ?_
  refine g_aload_n hX dX2_copyFrom_92 rfl 1 rfl ?_
  refine g_get hX 2 h_X2_copyFrom_X2 5 rfl rfl 9 (by decide) k_X2_copyFrom_13 rfl (v := .int (v.1 6)) rfl dX2_copyFrom_93 ?_
  refine g_put hX 2 h_X2_copyFrom_X2 0 rfl rfl 9 (by decide) tyX2 tyX2_ok nmX2 k_X2_copyFrom_13 rfl rfl rfl rfl rfl (Nat.le_of_ble_eq_true rfl) dX2_copyFrom_96 (ws' := wSt T a w h k d (upd (upd (upd (upd (upd (upd (upd u.1 0 (v.1 0)) 1 (v.1 1)) 2 (v.1 2)) 3 (v.1 3)) 4 (v.1 4)) 5 (v.1 5)) 6 (v.1 6), v.2.1, v.2.2.1, v.2.2.2) ++ wSt T a2 w2 h2 k2 d2 v) rfl ?_
  refine g_aload_n hX dX2_copyFrom_99 rfl 0 rfl ?_
  refine g_aload_n hX dX2_copyFrom_100 rfl 1 rfl ?_
  refine g_get hX 2 h_X2_copyFrom_X2 5 rfl rfl 10 (by decide) k_X2_copyFrom_14 rfl (v := .int (v.1 7)) rfl dX2_copyFrom_101 ?_
  refine g_put hX 2 h_X2_copyFrom_X2 0 rfl rfl 10 (by decide) tyX2 tyX2_ok nmX2 k_X2_copyFrom_14 rfl rfl rfl rfl rfl (Nat.le_of_ble_eq_true rfl) dX2_copyFrom_104 (ws' := wSt T a w h k d (upd (upd (upd (upd (upd (upd (upd (upd u.1 0 (v.1 0)) 1 (v.1 1)) 2 (v.1 2)) 3 (v.1 3)) 4 (v.1 4)) 5 (v.1 5)) 6 (v.1 6)) 7 (v.1 7), v.2.1, v.2.2.1, v.2.2.2) ++ wSt T a2 w2 h2 k2 d2 v) rfl ?_
  have e9 : F_X2_copyFrom u v = v := by simp only [F_X2_copyFrom, if_true, if_false]
  rw [e9]
  exact g_vret hX dX2_copyFrom_107 rfl
/-! X2_turnOnce -/
def rmX2_turnOnce : Room := { frames := 2, cells := 0, slots := 0, locals := 45 }
theorem k_X2_turnOnce_0 : Cond.fieldLink RX2 50 RX2 (TX2 8).2.1 (TX2 8).2.2.1 ∈ wsX2_turnOnce := List.mem_of_getElem? (i := 1) rfl
theorem h_X2_turnOnce_X2 : ∀ w ∈ u_ws RX2 TX2 11, w ∈ wsX2_turnOnce := fun w h => List.mem_cons_of_mem _ (List.mem_append_left _ (List.mem_append_right _ h))
theorem k_X2_turnOnce_1 : Cond.fieldLink RX2 12 RX2 (TX2 0).2.1 (TX2 0).2.2.1 ∈ wsX2_turnOnce := List.mem_of_getElem? (i := 2) rfl
theorem k_X2_turnOnce_17 : Cond.initialized RX3 ∈ wsX2_turnOnce := List.mem_of_getElem? (i := 18) rfl
theorem k_X2_turnOnce_21 : Cond.instanceMethod yX3_guidePlace ∈ wsX2_turnOnce := List.mem_of_getElem? (i := 22) rfl
theorem k_X2_turnOnce_22 : Cond.selects RX3 yX3_guidePlace yX3_guidePlace ∈ wsX2_turnOnce := List.mem_of_getElem? (i := 23) rfl
theorem k_X2_turnOnce_25 : Cond.instanceMethod yX3_heightAt ∈ wsX2_turnOnce := List.mem_of_getElem? (i := 26) rfl
theorem k_X2_turnOnce_26 : Cond.selects RX3 yX3_heightAt yX3_heightAt ∈ wsX2_turnOnce := List.mem_of_getElem? (i := 27) rfl
theorem k_X2_turnOnce_2 : Cond.fieldLink RX2 33 RX2 (TX2 3).2.1 (TX2 3).2.2.1 ∈ wsX2_turnOnce := List.mem_of_getElem? (i := 3) rfl
theorem k_X2_turnOnce_29 : Cond.instanceMethod yX3_layWrap ∈ wsX2_turnOnce := List.mem_of_getElem? (i := 30) rfl
theorem k_X2_turnOnce_30 : Cond.selects RX3 yX3_layWrap yX3_layWrap ∈ wsX2_turnOnce := List.mem_of_getElem? (i := 31) rfl
theorem k_X2_turnOnce_3 : Cond.fieldLink RX2 47 RX2 (TX2 7).2.1 (TX2 7).2.2.1 ∈ wsX2_turnOnce := List.mem_of_getElem? (i := 4) rfl
theorem k_X2_turnOnce_4 : Cond.fieldLink RX2 44 RX2 (TX2 6).2.1 (TX2 6).2.2.1 ∈ wsX2_turnOnce := List.mem_of_getElem? (i := 5) rfl
theorem k_X2_turnOnce_59 : Cond.instanceMethod yX3_moveGuide ∈ wsX2_turnOnce := List.mem_of_getElem? (i := 60) rfl
theorem k_X2_turnOnce_60 : Cond.selects RX3 yX3_moveGuide yX3_moveGuide ∈ wsX2_turnOnce := List.mem_of_getElem? (i := 61) rfl
theorem k_X2_turnOnce_5 : Cond.fieldLink RX2 40 RX2 (TX2 5).2.1 (TX2 5).2.2.1 ∈ wsX2_turnOnce := List.mem_of_getElem? (i := 6) rfl
theorem k_X2_turnOnce_6 : Cond.fieldLink RX2 53 RX2 (TX2 9).2.1 (TX2 9).2.2.1 ∈ wsX2_turnOnce := List.mem_of_getElem? (i := 7) rfl
def F_X2_turnOnce (u : SV) : SV :=
  (if (F_X2_isIdle u) = 0 then (if (10 + (F_X3_heightAt u.2.1 (F_X3_guidePlace u.2.1))) ≤ (u.1 0) then (let z_66 := F_X3_layWrap u.2.1
  (let z_84 := F_X2_warmDiscs (upd (upd (upd (upd u.1 5 ((u.1 5) + 1)) 0 ((u.1 0) - (10 + (F_X3_heightAt u.2.1 (F_X3_guidePlace u.2.1))))) 4 (F_X2_tensionAt (upd (upd u.1 5 ((u.1 5) + 1)) 0 ((u.1 0) - (10 + (F_X3_heightAt u.2.1 (F_X3_guidePlace u.2.1)))), z_66, u.2.2.1, u.2.2.2) (F_X3_guidePlace u.2.1))) 3 (F_X3_guidePlace u.2.1), z_66, u.2.2.1, u.2.2.2)
  (if (z_84.1 4) ≤ (F_X2_number z_84 4) then (let z_132 := F_X3_moveGuide z_84.2.1 (F_X2_number z_84 0) (F_X2_number z_84 2) (z_84.1 5)
  (z_84.1, z_132, z_84.2.2.1, z_84.2.2.2)) else (let z_132 := F_X3_moveGuide z_84.2.1 (F_X2_number (upd (upd z_84.1 2 1) 6 ((z_84.1 6) + 1), z_84.2.1, z_84.2.2.1, z_84.2.2.2) 0) (F_X2_number (upd (upd z_84.1 2 1) 6 ((z_84.1 6) + 1), z_84.2.1, z_84.2.2.1, z_84.2.2.2) 2) (z_84.1 5)
  (upd (upd z_84.1 2 1) 6 ((z_84.1 6) + 1), z_132, z_84.2.2.1, z_84.2.2.2))))) else (upd (upd u.1 5 ((u.1 5) + 1)) 0 0, u.2.1, u.2.2.1, u.2.2.2)) else u)
set_option maxHeartbeats 4000000 in
set_option maxRecDepth 100000 in
theorem c_X2_turnOnce (l : Launch) (T : TT) (b0 : Nat) (a w h k d : Nat) (u : SV)  : ConV l T b0 yX2_turnOnce wsX2_turnOnce rmX2_turnOnce [.ref a] (wSt T a w h k d u) (wSt T a w h k d (F_X2_turnOnce u)) := by
  refine conV_of (cc := cX2_turnOnce) (maxL := 3) (ret := none) (lv0 := [(0, .ref a)]) (by decide +kernel) rfl (Nat.le_of_ble_eq_true rfl) rfl (fun X hX => ?_)
  refine g_aload_n hX dX2_turnOnce_0 rfl 0 rfl ?_
  refine g_cV_I hX (n := 0) (As := []) (wc := wSt T a w h k d u) (w1 := wSt T a w h k d u) (rv := (F_X2_isIdle u)) (st := []) 0 rfl rfl (c_X2_isIdle (xL X) T (xB X) a w h k d u) gX2_turnOnce_X2_isIdle rfl rfl rfl ⟨Nat.le_of_ble_eq_true rfl, Nat.le_of_ble_eq_true rfl⟩ ⟨Nat.zero_le _, Nat.zero_le _⟩ ⟨by decide +kernel, by decide +kernel, by decide +kernel⟩ rfl [0, 1, 2, 3, 4] rfl rfl (by decide) rfl (Nat.le_of_ble_eq_true rfl) dX2_turnOnce_1 (ws' := wSt T a w h k d u) rfl ?_
  refine g_if_eq hX 8 dX2_turnOnce_4 (by decide) (fun c_4 => ?_) (fun c_4 => ?_)
  · skip
    refine g_aload_n hX dX2_turnOnce_8 rfl 0 rfl ?_
    refine g_dup hX dX2_turnOnce_9 rfl ?_
    refine g_get hX 2 h_X2_turnOnce_X2 0 rfl rfl 8 (by decide) k_X2_turnOnce_0 rfl (v := .int (u.1 5)) rfl dX2_turnOnce_10 ?_
    refine g_iconst hX (v := 1) dX2_turnOnce_13 (by decide) ?_
    refine g_iadd hX dX2_turnOnce_14 ?_
    refine g_put hX 2 h_X2_turnOnce_X2 0 rfl rfl 8 (by decide) tyX2 tyX2_ok nmX2 k_X2_turnOnce_0 rfl rfl rfl rfl rfl (Nat.le_of_ble_eq_true rfl) dX2_turnOnce_15 (ws' := wSt T a w h k d (upd u.1 5 ((u.1 5) + 1), u.2.1, u.2.2.1, u.2.2.2)) rfl ?_
    refine g_aload_n hX dX2_turnOnce_18 rfl 0 rfl ?_
    refine g_get hX 2 h_X2_turnOnce_X2 0 rfl rfl 0 (by decide) k_X2_turnOnce_1 rfl (v := .ref w) rfl dX2_turnOnce_19 ?_
    refine g_cVN_I hX (n := 0) (As := []) (wc := wWr T w h u.2.1) (w1 := wWr T w h u.2.1) (rv := (F_X3_guidePlace u.2.1)) (st := []) 1 rfl rfl (c_X3_guidePlace (xL X) T (xB X) w h u.2.1) ggX2_turnOnce_X3_guidePlace 28 rfl k_X2_turnOnce_17 k_X2_turnOnce_21 k_X2_turnOnce_22 rfl rfl rfl ⟨Nat.le_of_ble_eq_true rfl, Nat.le_of_ble_eq_true rfl⟩ ⟨Nat.zero_le _, Nat.zero_le _⟩ ⟨by decide +kernel, by decide +kernel, by decide +kernel⟩ rfl [1, 2] rfl rfl (by decide) rfl (Nat.le_of_ble_eq_true rfl) dX2_turnOnce_22 (ws' := wSt T a w h k d (upd u.1 5 ((u.1 5) + 1), u.2.1, u.2.2.1, u.2.2.2)) rfl ?_
    refine g_istore_n hX (lv' := [(1, .int (F_X3_guidePlace u.2.1)), (0, .ref a)]) dX2_turnOnce_25 rfl (by decide) rfl ?_
    refine g_bipush hX (v := 10) dX2_turnOnce_26 (by decide) ?_
    refine g_aload_n hX dX2_turnOnce_28 rfl 1 rfl ?_
    refine g_get hX 2 h_X2_turnOnce_X2 0 rfl rfl 0 (by decide) k_X2_turnOnce_1 rfl (v := .ref w) rfl dX2_turnOnce_29 ?_
    refine g_iload_n hX dX2_turnOnce_32 rfl 0 rfl ?_
    refine g_cVN_I hX (n := 1) (As := [.int (F_X3_guidePlace u.2.1)]) (wc := wWr T w h u.2.1) (w1 := wWr T w h u.2.1) (rv := (F_X3_heightAt u.2.1 (F_X3_guidePlace u.2.1))) (st := [.int 10]) 1 rfl rfl (c_X3_heightAt (xL X) T (xB X) w h u.2.1 (F_X3_guidePlace u.2.1)) ggX2_turnOnce_X3_heightAt 29 rfl k_X2_turnOnce_17 k_X2_turnOnce_25 k_X2_turnOnce_26 rfl rfl rfl ⟨Nat.le_of_ble_eq_true rfl, Nat.le_of_ble_eq_true rfl⟩ ⟨Nat.zero_le _, Nat.zero_le _⟩ ⟨by decide +kernel, by decide +kernel, by decide +kernel⟩ rfl [1, 2] rfl rfl (by decide) rfl (Nat.le_of_ble_eq_true rfl) dX2_turnOnce_33 (ws' := wSt T a w h k d (upd u.1 5 ((u.1 5) + 1), u.2.1, u.2.2.1, u.2.2.2)) rfl ?_
    refine g_iadd hX dX2_turnOnce_36 ?_
    refine g_istore_n hX (lv' := [(2, .int (10 + (F_X3_heightAt u.2.1 (F_X3_guidePlace u.2.1)))), (1, .int (F_X3_guidePlace u.2.1)), (0, .ref a)]) dX2_turnOnce_37 rfl (by decide) rfl ?_
    refine g_aload_n hX dX2_turnOnce_38 rfl 2 rfl ?_
    refine g_get hX 2 h_X2_turnOnce_X2 0 rfl rfl 3 (by decide) k_X2_turnOnce_2 rfl (v := .int (u.1 0)) rfl dX2_turnOnce_39 ?_
    refine g_iload_n hX dX2_turnOnce_42 rfl 0 rfl ?_
    refine g_icmp_ge hX 52 dX2_turnOnce_43 (by decide) (fun c_43 => ?_) (fun c_43 => ?_)
    · skip
      refine g_aload_n hX dX2_turnOnce_52 rfl 2 rfl ?_
      refine g_dup hX dX2_turnOnce_53 rfl ?_
      refine g_get hX 2 h_X2_turnOnce_X2 0 rfl rfl 3 (by decide) k_X2_turnOnce_2 rfl (v := .int (u.1 0)) rfl dX2_turnOnce_54 ?_
      refine g_iload_n hX dX2_turnOnce_57 rfl 0 rfl ?_
      refine g_isub hX dX2_turnOnce_58 ?_
      refine g_put hX 2 h_X2_turnOnce_X2 0 rfl rfl 3 (by decide) tyX2 tyX2_ok nmX2 k_X2_turnOnce_2 rfl rfl rfl rfl rfl (Nat.le_of_ble_eq_true rfl) dX2_turnOnce_59 (ws' := wSt T a w h k d (upd (upd u.1 5 ((u.1 5) + 1)) 0 ((u.1 0) - (10 + (F_X3_heightAt u.2.1 (F_X3_guidePlace u.2.1)))), u.2.1, u.2.2.1, u.2.2.2)) rfl ?_
      refine g_aload_n hX dX2_turnOnce_62 rfl 2 rfl ?_
      refine g_get hX 2 h_X2_turnOnce_X2 0 rfl rfl 0 (by decide) k_X2_turnOnce_1 rfl (v := .ref w) rfl dX2_turnOnce_63 ?_
      obtain ⟨z_66, hz_66⟩ : ∃ z : WV, z = F_X3_layWrap u.2.1 := ⟨_, rfl⟩
      refine g_cVN_V hX (n := 0) (As := []) (wc := wWr T w h u.2.1) (w1 := wWr T w h z_66) (st := []) 1 rfl rfl (by rw [hz_66]; exact (c_X3_layWrap (xL X) T (xB X) w h u.2.1)) ggX2_turnOnce_X3_layWrap 30 rfl k_X2_turnOnce_17 k_X2_turnOnce_29 k_X2_turnOnce_30 rfl rfl rfl ⟨Nat.le_of_ble_eq_true rfl, Nat.le_of_ble_eq_true rfl⟩ ⟨Nat.zero_le _, Nat.zero_le _⟩ ⟨by decide +kernel, by decide +kernel, by decide +kernel⟩ rfl [1, 2] rfl rfl (by decide) rfl (Nat.le_of_ble_eq_true rfl) dX2_turnOnce_66 (ws' := wSt T a w h k d (upd (upd u.1 5 ((u.1 5) + 1)) 0 ((u.1 0) - (10 + (F_X3_heightAt u.2.1 (F_X3_guidePlace u.2.1)))), z_66, u.2.2.1, u.2.2.2)) rfl ?_
      refine g_aload_n hX dX2_turnOnce_69 rfl 2 rfl ?_
      refine g_aload_n hX dX2_turnOnce_70 rfl 2 rfl ?_
      refine g_iload_n hX dX2_turnOnce_71 rfl 1 rfl ?_
      refine g_cV_I hX (n := 1) (As := [.int (F_X3_guidePlace u.2.1)]) (wc := wSt T a w h k d (upd (upd u.1 5 ((u.1 5) + 1)) 0 ((u.1 0) - (10 + (F_X3_heightAt u.2.1 (F_X3_guidePlace u.2.1)))), z_66, u.2.2.1, u.2.2.2)) (w1 := wSt T a w h k d (upd (upd u.1 5 ((u.1 5) + 1)) 0 ((u.1 0) - (10 + (F_X3_heightAt u.2.1 (F_X3_guidePlace u.2.1)))), z_66, u.2.2.1, u.2.2.2)) (rv := (F_X2_tensionAt (upd (upd u.1 5 ((u.1 5) + 1)) 0 ((u.1 0) - (10 + (F_X3_heightAt u.2.1 (F_X3_guidePlace u.2.1)))), z_66, u.2.2.1, u.2.2.2) (F_X3_guidePlace u.2.1))) (st := [.ref a]) 0 rfl rfl (c_X2_tensionAt (xL X) T (xB X) a w h k d (upd (upd u.1 5 ((u.1 5) + 1)) 0 ((u.1 0) - (10 + (F_X3_heightAt u.2.1 (F_X3_guidePlace u.2.1)))), z_66, u.2.2.1, u.2.2.2) (F_X3_guidePlace u.2.1)) gX2_turnOnce_X2_tensionAt rfl rfl rfl ⟨Nat.le_of_ble_eq_true rfl, Nat.le_of_ble_eq_true rfl⟩ ⟨Nat.zero_le _, Nat.zero_le _⟩ ⟨by decide +kernel, by decide +kernel, by decide +kernel⟩ rfl [0, 1, 2, 3, 4] rfl rfl (by decide) rfl (Nat.le_of_ble_eq_true rfl) dX2_turnOnce_72 (ws' := wSt T a w h k d (upd (upd u.1 5 ((u.1 5) + 1)) 0 ((u.1 0) - (10 + (F_X3_heightAt u.2.1 (F_X3_guidePlace u.2.1)))), z_66, u.2.2.1, u.2.2.2)) rfl ?_
      refine g_put hX 2 h_X2_turnOnce_X2 0 rfl rfl 7 (by decide) tyX2 tyX2_ok nmX2 k_X2_turnOnce_3 rfl rfl rfl rfl rfl (Nat.le_of_ble_eq_true rfl) dX2_turnOnce_75 (ws' := wSt T a w h k d (upd (upd (upd u.1 5 ((u.1 5) + 1)) 0 ((u.1 0) - (10 + (F_X3_heightAt u.2.1 (F_X3_guidePlace u.2.1))))) 4 (F_X2_tensionAt (upd (upd u.1 5 ((u.1 5) + 1)) 0 ((u.1 0) - (10 + (F_X3_heightAt u.2.1 (F_X3_guidePlace u.2.1)))), z_66, u.2.2.1, u.2.2.2) (F_X3_guidePlace u.2.1)), z_66, u.2.2.1, u.2.2.2)) rfl ?_
      refine g_aload_n hX dX2_turnOnce_78 rfl 2 rfl ?_
      refine g_iload_n hX dX2_turnOnce_79 rfl 1 rfl ?_
      refine g_put hX 2 h_X2_turnOnce_X2 0 rfl rfl 6 (by decide) tyX2 tyX2_ok nmX2 k_X2_turnOnce_4 rfl rfl rfl rfl rfl (Nat.le_of_ble_eq_true rfl) dX2_turnOnce_80 (ws' := wSt T a w h k d (upd (upd (upd (upd u.1 5 ((u.1 5) + 1)) 0 ((u.1 0) - (10 + (F_X3_heightAt u.2.1 (F_X3_guidePlace u.2.1))))) 4 (F_X2_tensionAt (upd (upd u.1 5 ((u.1 5) + 1)) 0 ((u.1 0) - (10 + (F_X3_heightAt u.2.1 (F_X3_guidePlace u.2.1)))), z_66, u.2.2.1, u.2.2.2) (F_X3_guidePlace u.2.1))) 3 (F_X3_guidePlace u.2.1), z_66, u.2.2.1, u.2.2.2)) rfl ?_
      refine g_aload_n hX dX2_turnOnce_83 rfl 2 rfl ?_
      obtain ⟨z_84, hz_84⟩ : ∃ z : SV, z = F_X2_warmDiscs (upd (upd (upd (upd u.1 5 ((u.1 5) + 1)) 0 ((u.1 0) - (10 + (F_X3_heightAt u.2.1 (F_X3_guidePlace u.2.1))))) 4 (F_X2_tensionAt (upd (upd u.1 5 ((u.1 5) + 1)) 0 ((u.1 0) - (10 + (F_X3_heightAt u.2.1 (F_X3_guidePlace u.2.1)))), z_66, u.2.2.1, u.2.2.2) (F_X3_guidePlace u.2.1))) 3 (F_X3_guidePlace u.2.1), z_66, u.2.2.1, u.2.2.2) := ⟨_, rfl⟩
      refine g_cV_V hX (n := 0) (As := []) (wc := wSt T a w h k d (upd (upd (upd (upd u.1 5 ((u.1 5) + 1)) 0 ((u.1 0) - (10 + (F_X3_heightAt u.2.1 (F_X3_guidePlace u.2.1))))) 4 (F_X2_tensionAt (upd (upd u.1 5 ((u.1 5) + 1)) 0 ((u.1 0) - (10 + (F_X3_heightAt u.2.1 (F_X3_guidePlace u.2.1)))), z_66, u.2.2.1, u.2.2.2) (F_X3_guidePlace u.2.1))) 3 (F_X3_guidePlace u.2.1), z_66, u.2.2.1, u.2.2.2)) (w1 := wSt T a w h k d z_84) (st := []) 0 rfl rfl (by rw [hz_84]; exact (c_X2_warmDiscs (xL X) T (xB X) a w h k d (upd (upd (upd (upd u.1 5 ((u.1 5) + 1)) 0 ((u.1 0) - (10 + (F_X3_heightAt u.2.1 (F_X3_guidePlace u.2.1))))) 4 (F_X2_tensionAt (upd (upd u.1 5 ((u.1 5) + 1)) 0 ((u.1 0) - (10 + (F_X3_heightAt u.2.1 (F_X3_guidePlace u.2.1)))), z_66, u.2.2.1, u.2.2.2) (F_X3_guidePlace u.2.1))) 3 (F_X3_guidePlace u.2.1), z_66, u.2.2.1, u.2.2.2))) gX2_turnOnce_X2_warmDiscs rfl rfl rfl ⟨Nat.le_of_ble_eq_true rfl, Nat.le_of_ble_eq_true rfl⟩ ⟨Nat.zero_le _, Nat.zero_le _⟩ ⟨by decide +kernel, by decide +kernel, by decide +kernel⟩ rfl [0, 1, 2, 3, 4] rfl rfl (by decide) rfl (Nat.le_of_ble_eq_true rfl) dX2_turnOnce_84 (ws' := wSt T a w h k d z_84) rfl ?_
      refine g_aload_n hX dX2_turnOnce_87 rfl 2 rfl ?_
      refine g_get hX 2 h_X2_turnOnce_X2 0 rfl rfl 7 (by decide) k_X2_turnOnce_3 rfl (v := .int (z_84.1 4)) rfl dX2_turnOnce_88 ?_
      refine g_aload_n hX dX2_turnOnce_91 rfl 2 rfl ?_
      refine g_iconst hX (v := 4) dX2_turnOnce_92 (by decide) ?_
      refine g_cV_I hX (n := 1) (As := [.int 4]) (wc := wSt T a w h k d z_84) (w1 := wSt T a w h k d z_84) (rv := (F_X2_number z_84 4)) (st := [.int (z_84.1 4)]) 0 rfl rfl (c_X2_number (xL X) T (xB X) a w h k d z_84 4) gX2_turnOnce_X2_number rfl rfl rfl ⟨Nat.le_of_ble_eq_true rfl, Nat.le_of_ble_eq_true rfl⟩ ⟨Nat.zero_le _, Nat.zero_le _⟩ ⟨by decide +kernel, by decide +kernel, by decide +kernel⟩ rfl [0, 1, 2, 3, 4] rfl rfl (by decide) rfl (Nat.le_of_ble_eq_true rfl) dX2_turnOnce_93 (ws' := wSt T a w h k d z_84) rfl ?_
      refine g_icmp_le hX 114 dX2_turnOnce_96 (by decide) (fun c_96 => ?_) (fun c_96 => ?_)
      · skip
        refine g_aload_n hX dX2_turnOnce_114 rfl 2 rfl ?_
        refine g_get hX 2 h_X2_turnOnce_X2 0 rfl rfl 0 (by decide) k_X2_turnOnce_1 rfl (v := .ref w) rfl dX2_turnOnce_115 ?_
        refine g_aload_n hX dX2_turnOnce_118 rfl 2 rfl ?_
        refine g_iconst hX (v := 0) dX2_turnOnce_119 (by decide) ?_
        refine g_cV_I hX (n := 1) (As := [.int 0]) (wc := wSt T a w h k d z_84) (w1 := wSt T a w h k d z_84) (rv := (F_X2_number z_84 0)) (st := [.ref w]) 0 rfl rfl (c_X2_number (xL X) T (xB X) a w h k d z_84 0) gX2_turnOnce_X2_number rfl rfl rfl ⟨Nat.le_of_ble_eq_true rfl, Nat.le_of_ble_eq_true rfl⟩ ⟨Nat.zero_le _, Nat.zero_le _⟩ ⟨by decide +kernel, by decide +kernel, by decide +kernel⟩ rfl [0, 1, 2, 3, 4] rfl rfl (by decide) rfl (Nat.le_of_ble_eq_true rfl) dX2_turnOnce_120 (ws' := wSt T a w h k d z_84) rfl ?_
        refine g_aload_n hX dX2_turnOnce_123 rfl 2 rfl ?_
        refine g_iconst hX (v := 2) dX2_turnOnce_124 (by decide) ?_
        refine g_cV_I hX (n := 1) (As := [.int 2]) (wc := wSt T a w h k d z_84) (w1 := wSt T a w h k d z_84) (rv := (F_X2_number z_84 2)) (st := [.int (F_X2_number z_84 0), .ref w]) 0 rfl rfl (c_X2_number (xL X) T (xB X) a w h k d z_84 2) gX2_turnOnce_X2_number rfl rfl rfl ⟨Nat.le_of_ble_eq_true rfl, Nat.le_of_ble_eq_true rfl⟩ ⟨Nat.zero_le _, Nat.zero_le _⟩ ⟨by decide +kernel, by decide +kernel, by decide +kernel⟩ rfl [0, 1, 2, 3, 4] rfl rfl (by decide) rfl (Nat.le_of_ble_eq_true rfl) dX2_turnOnce_125 (ws' := wSt T a w h k d z_84) rfl ?_
        refine g_aload_n hX dX2_turnOnce_128 rfl 2 rfl ?_
        refine g_get hX 2 h_X2_turnOnce_X2 0 rfl rfl 8 (by decide) k_X2_turnOnce_0 rfl (v := .int (z_84.1 5)) rfl dX2_turnOnce_129 ?_
        obtain ⟨z_132, hz_132⟩ : ∃ z : WV, z = F_X3_moveGuide z_84.2.1 (F_X2_number z_84 0) (F_X2_number z_84 2) (z_84.1 5) := ⟨_, rfl⟩
        refine g_cVN_V hX (n := 3) (As := [.int (F_X2_number z_84 0), .int (F_X2_number z_84 2), .int (z_84.1 5)]) (wc := wWr T w h z_84.2.1) (w1 := wWr T w h z_132) (st := []) 1 rfl rfl (by rw [hz_132]; exact (c_X3_moveGuide (xL X) T (xB X) w h z_84.2.1 (F_X2_number z_84 0) (F_X2_number z_84 2) (z_84.1 5))) ggX2_turnOnce_X3_moveGuide 31 rfl k_X2_turnOnce_17 k_X2_turnOnce_59 k_X2_turnOnce_60 rfl rfl rfl ⟨Nat.le_of_ble_eq_true rfl, Nat.le_of_ble_eq_true rfl⟩ ⟨Nat.zero_le _, Nat.zero_le _⟩ ⟨by decide +kernel, by decide +kernel, by decide +kernel⟩ rfl [1, 2] rfl rfl (by decide) rfl (Nat.le_of_ble_eq_true rfl) dX2_turnOnce_132 (ws' := wSt T a w h k d (z_84.1, z_132, z_84.2.2.1, z_84.2.2.2)) rfl ?_
        have e9 : F_X2_turnOnce u = (z_84.1, z_132, z_84.2.2.1, z_84.2.2.2) := by simp only [F_X2_turnOnce, ← hz_66, ← hz_84, ← hz_132, eq_true c_4, eq_true c_43, eq_true c_96, if_true, if_false]
        rw [e9]
        exact g_vret hX dX2_turnOnce_135 rfl
      · skip
        refine g_aload_n hX dX2_turnOnce_99 rfl 2 rfl ?_
        refine g_iconst hX (v := 1) dX2_turnOnce_100 (by decide) ?_
        refine g_put hX 2 h_X2_turnOnce_X2 0 rfl rfl 5 (by decide) tyX2 tyX2_ok nmX2 k_X2_turnOnce_5 rfl rfl rfl rfl rfl (Nat.le_of_ble_eq_true rfl) dX2_turnOnce_101 (ws' := wSt T a w h k d (upd z_84.1 2 1, z_84.2.1, z_84.2.2.1, z_84.2.2.2)) rfl ?_
        refine g_aload_n hX dX2_turnOnce_104 rfl 2 rfl ?_
        refine g_dup hX dX2_turnOnce_105 rfl ?_
        refine g_get hX 2 h_X2_turnOnce_X2 0 rfl rfl 9 (by decide) k_X2_turnOnce_6 rfl (v := .int (z_84.1 6)) rfl dX2_turnOnce_106 ?_
        refine g_iconst hX (v := 1) dX2_turnOnce_109 (by decide) ?_
        refine g_iadd hX dX2_turnOnce_110 ?_
        refine g_put hX 2 h_X2_turnOnce_X2 0 rfl rfl 9 (by decide) tyX2 tyX2_ok nmX2 k_X2_turnOnce_6 rfl rfl rfl rfl rfl (Nat.le_of_ble_eq_true rfl) dX2_turnOnce_111 (ws' := wSt T a w h k d (upd (upd z_84.1 2 1) 6 ((z_84.1 6) + 1), z_84.2.1, z_84.2.2.1, z_84.2.2.2)) rfl ?_
        refine g_aload_n hX dX2_turnOnce_114 rfl 2 rfl ?_
        refine g_get hX 2 h_X2_turnOnce_X2 0 rfl rfl 0 (by decide) k_X2_turnOnce_1 rfl (v := .ref w) rfl dX2_turnOnce_115 ?_
        refine g_aload_n hX dX2_turnOnce_118 rfl 2 rfl ?_
        refine g_iconst hX (v := 0) dX2_turnOnce_119 (by decide) ?_
        refine g_cV_I hX (n := 1) (As := [.int 0]) (wc := wSt T a w h k d (upd (upd z_84.1 2 1) 6 ((z_84.1 6) + 1), z_84.2.1, z_84.2.2.1, z_84.2.2.2)) (w1 := wSt T a w h k d (upd (upd z_84.1 2 1) 6 ((z_84.1 6) + 1), z_84.2.1, z_84.2.2.1, z_84.2.2.2)) (rv := (F_X2_number (upd (upd z_84.1 2 1) 6 ((z_84.1 6) + 1), z_84.2.1, z_84.2.2.1, z_84.2.2.2) 0)) (st := [.ref w]) 0 rfl rfl (c_X2_number (xL X) T (xB X) a w h k d (upd (upd z_84.1 2 1) 6 ((z_84.1 6) + 1), z_84.2.1, z_84.2.2.1, z_84.2.2.2) 0) gX2_turnOnce_X2_number rfl rfl rfl ⟨Nat.le_of_ble_eq_true rfl, Nat.le_of_ble_eq_true rfl⟩ ⟨Nat.zero_le _, Nat.zero_le _⟩ ⟨by decide +kernel, by decide +kernel, by decide +kernel⟩ rfl [0, 1, 2, 3, 4] rfl rfl (by decide) rfl (Nat.le_of_ble_eq_true rfl) dX2_turnOnce_120 (ws' := wSt T a w h k d (upd (upd z_84.1 2 1) 6 ((z_84.1 6) + 1), z_84.2.1, z_84.2.2.1, z_84.2.2.2)) rfl ?_
        refine g_aload_n hX dX2_turnOnce_123 rfl 2 rfl ?_
        refine g_iconst hX (v := 2) dX2_turnOnce_124 (by decide) ?_
        refine g_cV_I hX (n := 1) (As := [.int 2]) (wc := wSt T a w h k d (upd (upd z_84.1 2 1) 6 ((z_84.1 6) + 1), z_84.2.1, z_84.2.2.1, z_84.2.2.2)) (w1 := wSt T a w h k d (upd (upd z_84.1 2 1) 6 ((z_84.1 6) + 1), z_84.2.1, z_84.2.2.1, z_84.2.2.2)) (rv := (F_X2_number (upd (upd z_84.1 2 1) 6 ((z_84.1 6) + 1), z_84.2.1, z_84.2.2.1, z_84.2.2.2) 2)) (st := [.int (F_X2_number (upd (upd z_84.1 2 1) 6 ((z_84.1 6) + 1), z_84.2.1, z_84.2.2.1, z_84.2.2.2) 0), .ref w]) 0 rfl rfl (c_X2_number (xL X) T (xB X) a w h k d (upd (upd z_84.1 2 1) 6 ((z_84.1 6) + 1), z_84.2.1, z_84.2.2.1, z_84.2.2.2) 2) gX2_turnOnce_X2_number rfl rfl rfl ⟨Nat.le_of_ble_eq_true rfl, Nat.le_of_ble_eq_true rfl⟩ ⟨Nat.zero_le _, Nat.zero_le _⟩ ⟨by decide +kernel, by decide +kernel, by decide +kernel⟩ rfl [0, 1, 2, 3, 4] rfl rfl (by decide) rfl (Nat.le_of_ble_eq_true rfl) dX2_turnOnce_125 (ws' := wSt T a w h k d (upd (upd z_84.1 2 1) 6 ((z_84.1 6) + 1), z_84.2.1, z_84.2.2.1, z_84.2.2.2)) rfl ?_
        refine g_aload_n hX dX2_turnOnce_128 rfl 2 rfl ?_
        refine g_get hX 2 h_X2_turnOnce_X2 0 rfl rfl 8 (by decide) k_X2_turnOnce_0 rfl (v := .int (z_84.1 5)) rfl dX2_turnOnce_129 ?_
        obtain ⟨z_132, hz_132⟩ : ∃ z : WV, z = F_X3_moveGuide z_84.2.1 (F_X2_number (upd (upd z_84.1 2 1) 6 ((z_84.1 6) + 1), z_84.2.1, z_84.2.2.1, z_84.2.2.2) 0) (F_X2_number (upd (upd z_84.1 2 1) 6 ((z_84.1 6) + 1), z_84.2.1, z_84.2.2.1, z_84.2.2.2) 2) (z_84.1 5) := ⟨_, rfl⟩
        refine g_cVN_V hX (n := 3) (As := [.int (F_X2_number (upd (upd z_84.1 2 1) 6 ((z_84.1 6) + 1), z_84.2.1, z_84.2.2.1, z_84.2.2.2) 0), .int (F_X2_number (upd (upd z_84.1 2 1) 6 ((z_84.1 6) + 1), z_84.2.1, z_84.2.2.1, z_84.2.2.2) 2), .int (z_84.1 5)]) (wc := wWr T w h z_84.2.1) (w1 := wWr T w h z_132) (st := []) 1 rfl rfl (by rw [hz_132]; exact (c_X3_moveGuide (xL X) T (xB X) w h z_84.2.1 (F_X2_number (upd (upd z_84.1 2 1) 6 ((z_84.1 6) + 1), z_84.2.1, z_84.2.2.1, z_84.2.2.2) 0) (F_X2_number (upd (upd z_84.1 2 1) 6 ((z_84.1 6) + 1), z_84.2.1, z_84.2.2.1, z_84.2.2.2) 2) (z_84.1 5))) ggX2_turnOnce_X3_moveGuide 31 rfl k_X2_turnOnce_17 k_X2_turnOnce_59 k_X2_turnOnce_60 rfl rfl rfl ⟨Nat.le_of_ble_eq_true rfl, Nat.le_of_ble_eq_true rfl⟩ ⟨Nat.zero_le _, Nat.zero_le _⟩ ⟨by decide +kernel, by decide +kernel, by decide +kernel⟩ rfl [1, 2] rfl rfl (by decide) rfl (Nat.le_of_ble_eq_true rfl) dX2_turnOnce_132 (ws' := wSt T a w h k d (upd (upd z_84.1 2 1) 6 ((z_84.1 6) + 1), z_132, z_84.2.2.1, z_84.2.2.2)) rfl ?_
        have e9 : F_X2_turnOnce u = (upd (upd z_84.1 2 1) 6 ((z_84.1 6) + 1), z_132, z_84.2.2.1, z_84.2.2.2) := by simp only [F_X2_turnOnce, ← hz_66, ← hz_84, ← hz_132, eq_true c_4, eq_true c_43, eq_false c_96, if_true, if_false]
        rw [e9]
        exact g_vret hX dX2_turnOnce_135 rfl
    · skip
      refine g_aload_n hX dX2_turnOnce_46 rfl 2 rfl ?_
      refine g_iconst hX (v := 0) dX2_turnOnce_47 (by decide) ?_
      refine g_put hX 2 h_X2_turnOnce_X2 0 rfl rfl 3 (by decide) tyX2 tyX2_ok nmX2 k_X2_turnOnce_2 rfl rfl rfl rfl rfl (Nat.le_of_ble_eq_true rfl) dX2_turnOnce_48 (ws' := wSt T a w h k d (upd (upd u.1 5 ((u.1 5) + 1)) 0 0, u.2.1, u.2.2.1, u.2.2.2)) rfl ?_
      have e9 : F_X2_turnOnce u = (upd (upd u.1 5 ((u.1 5) + 1)) 0 0, u.2.1, u.2.2.1, u.2.2.2) := by simp only [F_X2_turnOnce, eq_true c_4, eq_false c_43, if_true, if_false]
      rw [e9]
      exact g_vret hX dX2_turnOnce_51 rfl
  · skip
    have e9 : F_X2_turnOnce u = u := by simp only [F_X2_turnOnce, eq_false c_4, if_true, if_false]
    rw [e9]
    exact g_vret hX dX2_turnOnce_7 rfl
/-! X2_tieKnot -/
def rmX2_tieKnot : Room := { frames := 1, cells := 0, slots := 0, locals := 21 }
theorem k_X2_tieKnot_0 : Cond.fieldLink RX2 33 RX2 (TX2 3).2.1 (TX2 3).2.2.1 ∈ wsX2_tieKnot := List.mem_of_getElem? (i := 1) rfl
theorem h_X2_tieKnot_X2 : ∀ w ∈ u_ws RX2 TX2 11, w ∈ wsX2_tieKnot := fun w h => List.mem_cons_of_mem _ (List.mem_append_right _ h)
theorem k_X2_tieKnot_1 : Cond.fieldLink RX2 40 RX2 (TX2 5).2.1 (TX2 5).2.2.1 ∈ wsX2_tieKnot := List.mem_of_getElem? (i := 2) rfl
theorem k_X2_tieKnot_2 : Cond.fieldLink RX2 44 RX2 (TX2 6).2.1 (TX2 6).2.2.1 ∈ wsX2_tieKnot := List.mem_of_getElem? (i := 3) rfl
theorem k_X2_tieKnot_3 : Cond.fieldLink RX2 18 RX2 (TX2 1).2.1 (TX2 1).2.2.1 ∈ wsX2_tieKnot := List.mem_of_getElem? (i := 4) rfl
def F_X2_tieKnot (u : SV) : Int32 × SV :=
  (if (F_X2_number u 3) ≤ (u.1 0) then (if (u.1 2) = 0 then ((-5), u) else (if (u.1 3) < 0 then ((-5), u) else (if (u.1 3) < 12 then (((upd u.2.2.1 (Int32.toNatClampNeg (u.1 3)) ((u.2.2.1 (Int32.toNatClampNeg (u.1 3))) + 1)) (Int32.toNatClampNeg (u.1 3))), (upd (upd u.1 0 ((u.1 0) - (F_X2_number u 3))) 2 0, u.2.1, (upd u.2.2.1 (Int32.toNatClampNeg (u.1 3)) ((u.2.2.1 (Int32.toNatClampNeg (u.1 3))) + 1)), u.2.2.2)) else ((-5), u)))) else ((-4), u))
set_option maxHeartbeats 4000000 in
set_option maxRecDepth 100000 in
theorem c_X2_tieKnot (l : Launch) (T : TT) (b0 : Nat) (a w h k d : Nat) (u : SV)  : ConI l T b0 yX2_tieKnot wsX2_tieKnot rmX2_tieKnot [.ref a] (wSt T a w h k d u) ((F_X2_tieKnot u).1) (wSt T a w h k d ((F_X2_tieKnot u).2)) := by
  refine conI_of (cc := cX2_tieKnot) (maxL := 2) (ret := (some .int)) (lv0 := [(0, .ref a)]) (by decide +kernel) rfl (Nat.le_of_ble_eq_true rfl) rfl (fun X hX => ?_)
  refine g_aload_n hX dX2_tieKnot_0 rfl 0 rfl ?_
  refine g_iconst hX (v := 3) dX2_tieKnot_1 (by decide) ?_
  refine g_cV_I hX (n := 1) (As := [.int 3]) (wc := wSt T a w h k d u) (w1 := wSt T a w h k d u) (rv := (F_X2_number u 3)) (st := []) 0 rfl rfl (c_X2_number (xL X) T (xB X) a w h k d u 3) gX2_tieKnot_X2_number rfl rfl rfl ⟨Nat.le_of_ble_eq_true rfl, Nat.le_of_ble_eq_true rfl⟩ ⟨Nat.zero_le _, Nat.zero_le _⟩ ⟨by decide +kernel, by decide +kernel, by decide +kernel⟩ rfl [0, 1, 2, 3, 4] rfl rfl (by decide) rfl (Nat.le_of_ble_eq_true rfl) dX2_tieKnot_2 (ws' := wSt T a w h k d u) rfl ?_
  refine g_istore_n hX (lv' := [(1, .int (F_X2_number u 3)), (0, .ref a)]) dX2_tieKnot_5 rfl (by decide) rfl ?_
  refine g_aload_n hX dX2_tieKnot_6 rfl 1 rfl ?_
  refine g_get hX 2 h_X2_tieKnot_X2 0 rfl rfl 3 (by decide) k_X2_tieKnot_0 rfl (v := .int (u.1 0)) rfl dX2_tieKnot_7 ?_
  refine g_iload_n hX dX2_tieKnot_10 rfl 0 rfl ?_
  refine g_icmp_ge hX 17 dX2_tieKnot_11 (by decide) (fun c_11 => ?_) (fun c_11 => ?_)
  · skip
    refine g_aload_n hX dX2_tieKnot_17 rfl 1 rfl ?_
    refine g_get hX 2 h_X2_tieKnot_X2 0 rfl rfl 5 (by decide) k_X2_tieKnot_1 rfl (v := .int (u.1 2)) rfl dX2_tieKnot_18 ?_
    refine g_if_eq hX 43 dX2_tieKnot_21 (by decide) (fun c_21 => ?_) (fun c_21 => ?_)
    · skip
      refine g_bipush hX (v := (-5)) dX2_tieKnot_43 (by decide) ?_
      have e9 : F_X2_tieKnot u = ((-5), u) := by simp only [F_X2_tieKnot, eq_true c_11, eq_true c_21, if_true, if_false]
      rw [e9]
      exact g_iret hX dX2_tieKnot_45 rfl rfl
    · skip
      refine g_aload_n hX dX2_tieKnot_24 rfl 1 rfl ?_
      refine g_get hX 2 h_X2_tieKnot_X2 0 rfl rfl 6 (by decide) k_X2_tieKnot_2 rfl (v := .int (u.1 3)) rfl dX2_tieKnot_25 ?_
      refine g_if_lt hX 43 dX2_tieKnot_28 (by decide) (fun c_28 => ?_) (fun c_28 => ?_)
      · skip
        refine g_bipush hX (v := (-5)) dX2_tieKnot_43 (by decide) ?_
        have e9 : F_X2_tieKnot u = ((-5), u) := by simp only [F_X2_tieKnot, eq_true c_11, eq_false c_21, eq_true c_28, if_true, if_false]
        rw [e9]
        exact g_iret hX dX2_tieKnot_45 rfl rfl
      · skip
        refine g_aload_n hX dX2_tieKnot_31 rfl 1 rfl ?_
        refine g_get hX 2 h_X2_tieKnot_X2 0 rfl rfl 6 (by decide) k_X2_tieKnot_2 rfl (v := .int (u.1 3)) rfl dX2_tieKnot_32 ?_
        refine g_aload_n hX dX2_tieKnot_35 rfl 1 rfl ?_
        refine g_get hX 2 h_X2_tieKnot_X2 0 rfl rfl 1 (by decide) k_X2_tieKnot_3 rfl (v := .ref k) rfl dX2_tieKnot_36 ?_
        refine g_alen hX 3 0 rfl rfl (v := 12) rfl dX2_tieKnot_39 ?_
        refine g_icmp_lt hX 46 dX2_tieKnot_40 (by decide) (fun c_40 => ?_) (fun c_40 => ?_)
        · skip
          refine g_aload_n hX dX2_tieKnot_46 rfl 1 rfl ?_
          refine g_dup hX dX2_tieKnot_47 rfl ?_
          refine g_get hX 2 h_X2_tieKnot_X2 0 rfl rfl 3 (by decide) k_X2_tieKnot_0 rfl (v := .int (u.1 0)) rfl dX2_tieKnot_48 ?_
          refine g_iload_n hX dX2_tieKnot_51 rfl 0 rfl ?_
          refine g_isub hX dX2_tieKnot_52 ?_
          refine g_put hX 2 h_X2_tieKnot_X2 0 rfl rfl 3 (by decide) tyX2 tyX2_ok nmX2 k_X2_tieKnot_0 rfl rfl rfl rfl rfl (Nat.le_of_ble_eq_true rfl) dX2_tieKnot_53 (ws' := wSt T a w h k d (upd u.1 0 ((u.1 0) - (F_X2_number u 3)), u.2.1, u.2.2.1, u.2.2.2)) rfl ?_
          refine g_aload_n hX dX2_tieKnot_56 rfl 1 rfl ?_
          refine g_iconst hX (v := 0) dX2_tieKnot_57 (by decide) ?_
          refine g_put hX 2 h_X2_tieKnot_X2 0 rfl rfl 5 (by decide) tyX2 tyX2_ok nmX2 k_X2_tieKnot_1 rfl rfl rfl rfl rfl (Nat.le_of_ble_eq_true rfl) dX2_tieKnot_58 (ws' := wSt T a w h k d (upd (upd u.1 0 ((u.1 0) - (F_X2_number u 3))) 2 0, u.2.1, u.2.2.1, u.2.2.2)) rfl ?_
          refine g_aload_n hX dX2_tieKnot_61 rfl 1 rfl ?_
          refine g_get hX 2 h_X2_tieKnot_X2 0 rfl rfl 1 (by decide) k_X2_tieKnot_3 rfl (v := .ref k) rfl dX2_tieKnot_62 ?_
          refine g_aload_n hX dX2_tieKnot_65 rfl 1 rfl ?_
          refine g_get hX 2 h_X2_tieKnot_X2 0 rfl rfl 6 (by decide) k_X2_tieKnot_2 rfl (v := .int (u.1 3)) rfl dX2_tieKnot_66 ?_
          refine g_dup2 hX dX2_tieKnot_69 rfl rfl ?_
          refine g_iald hX 3 rfl (vin_lt c_28 c_40 (by decide)) (v := (u.2.2.1 (Int32.toNatClampNeg (u.1 3)))) (congrArg _ rfl) dX2_tieKnot_70 ?_
          refine g_iconst hX (v := 1) dX2_tieKnot_71 (by decide) ?_
          refine g_iadd hX dX2_tieKnot_72 ?_
          refine g_iast hX 3 rfl (vin_lt c_28 c_40 (by decide)) dX2_tieKnot_73 (ws' := wSt T a w h k d (upd (upd u.1 0 ((u.1 0) - (F_X2_number u 3))) 2 0, u.2.1, (upd u.2.2.1 (Int32.toNatClampNeg (u.1 3)) ((u.2.2.1 (Int32.toNatClampNeg (u.1 3))) + 1)), u.2.2.2)) rfl ?_
          refine g_aload_n hX dX2_tieKnot_74 rfl 1 rfl ?_
          refine g_get hX 2 h_X2_tieKnot_X2 0 rfl rfl 1 (by decide) k_X2_tieKnot_3 rfl (v := .ref k) rfl dX2_tieKnot_75 ?_
          refine g_aload_n hX dX2_tieKnot_78 rfl 1 rfl ?_
          refine g_get hX 2 h_X2_tieKnot_X2 0 rfl rfl 6 (by decide) k_X2_tieKnot_2 rfl (v := .int (u.1 3)) rfl dX2_tieKnot_79 ?_
          refine g_iald hX 3 rfl (vin_lt c_28 c_40 (by decide)) (v := ((upd u.2.2.1 (Int32.toNatClampNeg (u.1 3)) ((u.2.2.1 (Int32.toNatClampNeg (u.1 3))) + 1)) (Int32.toNatClampNeg (u.1 3)))) (congrArg _ rfl) dX2_tieKnot_82 ?_
          have e9 : F_X2_tieKnot u = (((upd u.2.2.1 (Int32.toNatClampNeg (u.1 3)) ((u.2.2.1 (Int32.toNatClampNeg (u.1 3))) + 1)) (Int32.toNatClampNeg (u.1 3))), (upd (upd u.1 0 ((u.1 0) - (F_X2_number u 3))) 2 0, u.2.1, (upd u.2.2.1 (Int32.toNatClampNeg (u.1 3)) ((u.2.2.1 (Int32.toNatClampNeg (u.1 3))) + 1)), u.2.2.2)) := by simp only [F_X2_tieKnot, eq_true c_11, eq_false c_21, eq_false c_28, eq_true c_40, if_true, if_false]
          rw [e9]
          exact g_iret hX dX2_tieKnot_83 rfl rfl
        · skip
          refine g_bipush hX (v := (-5)) dX2_tieKnot_43 (by decide) ?_
          have e9 : F_X2_tieKnot u = ((-5), u) := by simp only [F_X2_tieKnot, eq_true c_11, eq_false c_21, eq_false c_28, eq_false c_40, if_true, if_false]
          rw [e9]
          exact g_iret hX dX2_tieKnot_45 rfl rfl
  · skip
    refine g_bipush hX (v := (-4)) dX2_tieKnot_14 (by decide) ?_
    have e9 : F_X2_tieKnot u = ((-4), u) := by simp only [F_X2_tieKnot, eq_false c_11, if_true, if_false]
    rw [e9]
    exact g_iret hX dX2_tieKnot_16 rfl rfl
/-! X2_changeCone -/
def rmX2_changeCone : Room := { frames := 2, cells := 0, slots := 0, locals := 41 }
theorem k_X2_changeCone_4 : Cond.initialized RX4 ∈ wsX2_changeCone := List.mem_of_getElem? (i := 5) rfl
theorem k_X2_changeCone_3 : Cond.static yX4_inRange ∈ wsX2_changeCone := List.mem_of_getElem? (i := 4) rfl
theorem k_X2_changeCone_0 : Cond.fieldLink RX2 33 RX2 (TX2 3).2.1 (TX2 3).2.2.1 ∈ wsX2_changeCone := List.mem_of_getElem? (i := 1) rfl
theorem h_X2_changeCone_X2 : ∀ w ∈ u_ws RX2 TX2 11, w ∈ wsX2_changeCone := fun w h => List.mem_cons_of_mem _ (List.mem_append_left _ (List.mem_append_right _ h))
theorem k_X2_changeCone_1 : Cond.fieldLink RX2 12 RX2 (TX2 0).2.1 (TX2 0).2.2.1 ∈ wsX2_changeCone := List.mem_of_getElem? (i := 2) rfl
theorem h_X2_changeCone_X3 : ∀ w ∈ u_ws RX3 TX3 4, w ∈ wsX2_changeCone := fun w h => List.mem_cons_of_mem _ (List.mem_append_right _ h)
theorem k_X2_changeCone_2 : Cond.fieldLink RX2 40 RX2 (TX2 5).2.1 (TX2 5).2.2.1 ∈ wsX2_changeCone := List.mem_of_getElem? (i := 3) rfl
def F_X2_changeCone (u : SV) (p1 : Int32) : Int32 × SV :=
  (if (F_X4_inRange 6 p1) = 0 then ((-2), u) else (if (u.2.1.1 0) ≤ 0 then ((u.1 0), (upd (upd u.1 0 p1) 2 0, u.2.1, u.2.2.1, u.2.2.2)) else ((u.1 0), (upd (upd u.1 0 p1) 2 1, u.2.1, u.2.2.1, u.2.2.2))))
set_option maxHeartbeats 4000000 in
set_option maxRecDepth 100000 in
theorem c_X2_changeCone (l : Launch) (T : TT) (b0 : Nat) (a w h k d : Nat) (u : SV) (p1 : Int32)  : ConI l T b0 yX2_changeCone wsX2_changeCone rmX2_changeCone [.ref a, .int p1] (wSt T a w h k d u) ((F_X2_changeCone u p1).1) (wSt T a w h k d ((F_X2_changeCone u p1).2)) := by
  refine conI_of (cc := cX2_changeCone) (maxL := 3) (ret := (some .int)) (lv0 := [(0, .ref a), (1, .int p1)]) (by decide +kernel) rfl (Nat.le_of_ble_eq_true rfl) rfl (fun X hX => ?_)
  refine g_bipush hX (v := 6) dX2_changeCone_0 (by decide) ?_
  refine g_iload_n hX dX2_changeCone_2 rfl 1 rfl ?_
  refine g_cSN_I hX (n := 2) (As := [.int 6, .int p1]) (wc := []) (w1 := []) (rv := (F_X4_inRange 6 p1)) (st := []) (c_X4_inRange (xL X) T (xB X) 6 p1) ggX2_changeCone_X4_inRange 23 rfl k_X2_changeCone_4 k_X2_changeCone_3 rfl rfl rfl ⟨Nat.le_of_ble_eq_true rfl, Nat.le_of_ble_eq_true rfl⟩ ⟨Nat.zero_le _, Nat.zero_le _⟩ ⟨by decide +kernel, by decide +kernel, by decide +kernel⟩ rfl [] rfl rfl (by decide) rfl (Nat.le_of_ble_eq_true rfl) dX2_changeCone_3 (ws' := wSt T a w h k d u) rfl ?_
  refine g_if_ne hX 12 dX2_changeCone_6 (by decide) (fun c_6 => ?_) (fun c_6 => ?_)
  · skip
    refine g_aload_n hX dX2_changeCone_12 rfl 0 rfl ?_
    refine g_get hX 2 h_X2_changeCone_X2 0 rfl rfl 3 (by decide) k_X2_changeCone_0 rfl (v := .int (u.1 0)) rfl dX2_changeCone_13 ?_
    refine g_istore_n hX (lv' := [(2, .int (u.1 0)), (0, .ref a), (1, .int p1)]) dX2_changeCone_16 rfl (by decide) rfl ?_
    refine g_aload_n hX dX2_changeCone_17 rfl 1 rfl ?_
    refine g_iload_n hX dX2_changeCone_18 rfl 2 rfl ?_
    refine g_put hX 2 h_X2_changeCone_X2 0 rfl rfl 3 (by decide) tyX2 tyX2_ok nmX2 k_X2_changeCone_0 rfl rfl rfl rfl rfl (Nat.le_of_ble_eq_true rfl) dX2_changeCone_19 (ws' := wSt T a w h k d (upd u.1 0 p1, u.2.1, u.2.2.1, u.2.2.2)) rfl ?_
    refine g_aload_n hX dX2_changeCone_22 rfl 1 rfl ?_
    refine g_aload_n hX dX2_changeCone_23 rfl 1 rfl ?_
    refine g_get hX 2 h_X2_changeCone_X2 0 rfl rfl 0 (by decide) k_X2_changeCone_1 rfl (v := .ref w) rfl dX2_changeCone_24 ?_
    refine g_getN hX 3 h_X2_changeCone_X3 1 rfl rfl 1 (by decide) 0 rfl rfl (v := .int (u.2.1.1 0)) rfl dX2_changeCone_27 ?_
    refine g_if_le hX 37 dX2_changeCone_30 (by decide) (fun c_30 => ?_) (fun c_30 => ?_)
    · skip
      refine g_iconst hX (v := 0) dX2_changeCone_37 (by decide) ?_
      refine g_put hX 2 h_X2_changeCone_X2 0 rfl rfl 5 (by decide) tyX2 tyX2_ok nmX2 k_X2_changeCone_2 rfl rfl rfl rfl rfl (Nat.le_of_ble_eq_true rfl) dX2_changeCone_38 (ws' := wSt T a w h k d (upd (upd u.1 0 p1) 2 0, u.2.1, u.2.2.1, u.2.2.2)) rfl ?_
      refine g_iload_n hX dX2_changeCone_41 rfl 0 rfl ?_
      have e9 : F_X2_changeCone u p1 = ((u.1 0), (upd (upd u.1 0 p1) 2 0, u.2.1, u.2.2.1, u.2.2.2)) := by simp only [F_X2_changeCone, eq_false c_6, eq_true c_30, if_true, if_false]
      rw [e9]
      exact g_iret hX dX2_changeCone_42 rfl rfl
    · skip
      refine g_iconst hX (v := 1) dX2_changeCone_33 (by decide) ?_
      refine g_goto hX 38 dX2_changeCone_34 (by decide) ?_
      refine g_put hX 2 h_X2_changeCone_X2 0 rfl rfl 5 (by decide) tyX2 tyX2_ok nmX2 k_X2_changeCone_2 rfl rfl rfl rfl rfl (Nat.le_of_ble_eq_true rfl) dX2_changeCone_38 (ws' := wSt T a w h k d (upd (upd u.1 0 p1) 2 1, u.2.1, u.2.2.1, u.2.2.2)) rfl ?_
      refine g_iload_n hX dX2_changeCone_41 rfl 0 rfl ?_
      have e9 : F_X2_changeCone u p1 = ((u.1 0), (upd (upd u.1 0 p1) 2 1, u.2.1, u.2.2.1, u.2.2.2)) := by simp only [F_X2_changeCone, eq_false c_6, eq_false c_30, if_true, if_false]
      rw [e9]
      exact g_iret hX dX2_changeCone_42 rfl rfl
  · skip
    refine g_bipush hX (v := (-2)) dX2_changeCone_9 (by decide) ?_
    have e9 : F_X2_changeCone u p1 = ((-2), u) := by simp only [F_X2_changeCone, eq_true c_6, if_true, if_false]
    rw [e9]
    exact g_iret hX dX2_changeCone_11 rfl rfl
/-! X2_changeNumber -/
def rmX2_changeNumber : Room := { frames := 2, cells := 0, slots := 0, locals := 41 }
theorem k_X2_changeNumber_0 : Cond.fieldLink RX2 30 RX2 (TX2 2).2.1 (TX2 2).2.2.1 ∈ wsX2_changeNumber := List.mem_of_getElem? (i := 1) rfl
theorem h_X2_changeNumber_X2 : ∀ w ∈ u_ws RX2 TX2 11, w ∈ wsX2_changeNumber := fun w h => List.mem_cons_of_mem _ (List.mem_append_right _ h)
theorem k_X2_changeNumber_2 : Cond.initialized RX4 ∈ wsX2_changeNumber := List.mem_of_getElem? (i := 3) rfl
theorem k_X2_changeNumber_1 : Cond.static yX4_inRange ∈ wsX2_changeNumber := List.mem_of_getElem? (i := 2) rfl
def F_X2_changeNumber (u : SV) (p1 : Int32) (p2 : Int32) : Int32 × SV :=
  (if p1 < 0 then ((-1), u) else (if p1 < 5 then (if (F_X4_inRange p1 p2) = 0 then ((-2), u) else (if (u.2.2.2 (Int32.toNatClampNeg p1)) = p2 then ((-5), u) else ((u.2.2.2 (Int32.toNatClampNeg p1)), (u.1, u.2.1, u.2.2.1, (upd u.2.2.2 (Int32.toNatClampNeg p1) p2))))) else ((-1), u)))
set_option maxHeartbeats 4000000 in
set_option maxRecDepth 100000 in
theorem c_X2_changeNumber (l : Launch) (T : TT) (b0 : Nat) (a w h k d : Nat) (u : SV) (p1 : Int32) (p2 : Int32)  : ConI l T b0 yX2_changeNumber wsX2_changeNumber rmX2_changeNumber [.ref a, .int p1, .int p2] (wSt T a w h k d u) ((F_X2_changeNumber u p1 p2).1) (wSt T a w h k d ((F_X2_changeNumber u p1 p2).2)) := by
  refine conI_of (cc := cX2_changeNumber) (maxL := 4) (ret := (some .int)) (lv0 := [(0, .ref a), (1, .int p1), (2, .int p2)]) (by decide +kernel) rfl (Nat.le_of_ble_eq_true rfl) rfl (fun X hX => ?_)
  refine g_iload_n hX dX2_changeNumber_0 rfl 1 rfl ?_
  refine g_if_lt hX 13 dX2_changeNumber_1 (by decide) (fun c_1 => ?_) (fun c_1 => ?_)
  · skip
    refine g_iconst hX (v := (-1)) dX2_changeNumber_13 (by decide) ?_
    have e9 : F_X2_changeNumber u p1 p2 = ((-1), u) := by simp only [F_X2_changeNumber, eq_true c_1, if_true, if_false]
    rw [e9]
    exact g_iret hX dX2_changeNumber_14 rfl rfl
  · skip
    refine g_iload_n hX dX2_changeNumber_4 rfl 1 rfl ?_
    refine g_aload_n hX dX2_changeNumber_5 rfl 0 rfl ?_
    refine g_get hX 2 h_X2_changeNumber_X2 0 rfl rfl 2 (by decide) k_X2_changeNumber_0 rfl (v := .ref d) rfl dX2_changeNumber_6 ?_
    refine g_alen hX 4 0 rfl rfl (v := 5) rfl dX2_changeNumber_9 ?_
    refine g_icmp_lt hX 15 dX2_changeNumber_10 (by decide) (fun c_10 => ?_) (fun c_10 => ?_)
    · skip
      refine g_iload_n hX dX2_changeNumber_15 rfl 1 rfl ?_
      refine g_iload_n hX dX2_changeNumber_16 rfl 2 rfl ?_
      refine g_cSN_I hX (n := 2) (As := [.int p1, .int p2]) (wc := []) (w1 := []) (rv := (F_X4_inRange p1 p2)) (st := []) (c_X4_inRange (xL X) T (xB X) p1 p2) ggX2_changeNumber_X4_inRange 23 rfl k_X2_changeNumber_2 k_X2_changeNumber_1 rfl rfl rfl ⟨Nat.le_of_ble_eq_true rfl, Nat.le_of_ble_eq_true rfl⟩ ⟨Nat.zero_le _, Nat.zero_le _⟩ ⟨by decide +kernel, by decide +kernel, by decide +kernel⟩ rfl [] rfl rfl (by decide) rfl (Nat.le_of_ble_eq_true rfl) dX2_changeNumber_17 (ws' := wSt T a w h k d u) rfl ?_
      refine g_if_ne hX 26 dX2_changeNumber_20 (by decide) (fun c_20 => ?_) (fun c_20 => ?_)
      · skip
        refine g_aload_n hX dX2_changeNumber_26 rfl 0 rfl ?_
        refine g_get hX 2 h_X2_changeNumber_X2 0 rfl rfl 2 (by decide) k_X2_changeNumber_0 rfl (v := .ref d) rfl dX2_changeNumber_27 ?_
        refine g_iload_n hX dX2_changeNumber_30 rfl 1 rfl ?_
        refine g_iald hX 4 rfl (vin_lt c_1 c_10 (by decide)) (v := (u.2.2.2 (Int32.toNatClampNeg p1))) (congrArg _ rfl) dX2_changeNumber_31 ?_
        refine g_istore_n hX (lv' := [(3, .int (u.2.2.2 (Int32.toNatClampNeg p1))), (0, .ref a), (1, .int p1), (2, .int p2)]) dX2_changeNumber_32 rfl (by decide) rfl ?_
        refine g_iload_n hX dX2_changeNumber_33 rfl 0 rfl ?_
        refine g_iload_n hX dX2_changeNumber_34 rfl 3 rfl ?_
        refine g_icmp_ne hX 41 dX2_changeNumber_35 (by decide) (fun c_35 => ?_) (fun c_35 => ?_)
        · skip
          refine g_aload_n hX dX2_changeNumber_41 rfl 1 rfl ?_
          refine g_get hX 2 h_X2_changeNumber_X2 0 rfl rfl 2 (by decide) k_X2_changeNumber_0 rfl (v := .ref d) rfl dX2_changeNumber_42 ?_
          refine g_iload_n hX dX2_changeNumber_45 rfl 2 rfl ?_
          refine g_iload_n hX dX2_changeNumber_46 rfl 3 rfl ?_
          refine g_iast hX 4 rfl (vin_lt c_1 c_10 (by decide)) dX2_changeNumber_47 (ws' := wSt T a w h k d (u.1, u.2.1, u.2.2.1, (upd u.2.2.2 (Int32.toNatClampNeg p1) p2))) rfl ?_
          refine g_iload_n hX dX2_changeNumber_48 rfl 0 rfl ?_
          have e9 : F_X2_changeNumber u p1 p2 = ((u.2.2.2 (Int32.toNatClampNeg p1)), (u.1, u.2.1, u.2.2.1, (upd u.2.2.2 (Int32.toNatClampNeg p1) p2))) := by simp only [F_X2_changeNumber, eq_false c_1, eq_true c_10, eq_false c_20, eq_false c_35, if_true, if_false]
          rw [e9]
          exact g_iret hX dX2_changeNumber_49 rfl rfl
        · skip
          refine g_bipush hX (v := (-5)) dX2_changeNumber_38 (by decide) ?_
          have e9 : F_X2_changeNumber u p1 p2 = ((-5), u) := by simp only [F_X2_changeNumber, eq_false c_1, eq_true c_10, eq_false c_20, eq_true c_35, if_true, if_false]
          rw [e9]
          exact g_iret hX dX2_changeNumber_40 rfl rfl
      · skip
        refine g_bipush hX (v := (-2)) dX2_changeNumber_23 (by decide) ?_
        have e9 : F_X2_changeNumber u p1 p2 = ((-2), u) := by simp only [F_X2_changeNumber, eq_false c_1, eq_true c_10, eq_true c_20, if_true, if_false]
        rw [e9]
        exact g_iret hX dX2_changeNumber_25 rfl rfl
    · skip
      refine g_iconst hX (v := (-1)) dX2_changeNumber_13 (by decide) ?_
      have e9 : F_X2_changeNumber u p1 p2 = ((-1), u) := by simp only [F_X2_changeNumber, eq_false c_1, eq_false c_10, if_true, if_false]
      rw [e9]
      exact g_iret hX dX2_changeNumber_14 rfl rfl
/-! X2_takePackageOff -/
def rmX2_takePackageOff : Room := { frames := 2, cells := 0, slots := 0, locals := 43 }
theorem k_X2_takePackageOff_0 : Cond.fieldLink RX2 12 RX2 (TX2 0).2.1 (TX2 0).2.2.1 ∈ wsX2_takePackageOff := List.mem_of_getElem? (i := 1) rfl
theorem h_X2_takePackageOff_X2 : ∀ w ∈ u_ws RX2 TX2 11, w ∈ wsX2_takePackageOff := fun w h => List.mem_cons_of_mem _ (List.mem_append_left _ (List.mem_append_right _ h))
theorem h_X2_takePackageOff_X3 : ∀ w ∈ u_ws RX3 TX3 4, w ∈ wsX2_takePackageOff := fun w h => List.mem_cons_of_mem _ (List.mem_append_right _ h)
theorem k_X2_takePackageOff_7 : Cond.initialized RX3 ∈ wsX2_takePackageOff := List.mem_of_getElem? (i := 8) rfl
theorem k_X2_takePackageOff_6 : Cond.instanceMethod yX3_clear ∈ wsX2_takePackageOff := List.mem_of_getElem? (i := 7) rfl
theorem k_X2_takePackageOff_8 : Cond.selects RX3 yX3_clear yX3_clear ∈ wsX2_takePackageOff := List.mem_of_getElem? (i := 9) rfl
theorem k_X2_takePackageOff_1 : Cond.fieldLink RX2 18 RX2 (TX2 1).2.1 (TX2 1).2.2.1 ∈ wsX2_takePackageOff := List.mem_of_getElem? (i := 2) rfl
theorem k_X2_takePackageOff_2 : Cond.fieldLink RX2 40 RX2 (TX2 5).2.1 (TX2 5).2.2.1 ∈ wsX2_takePackageOff := List.mem_of_getElem? (i := 3) rfl
theorem k_X2_takePackageOff_3 : Cond.fieldLink RX2 44 RX2 (TX2 6).2.1 (TX2 6).2.2.1 ∈ wsX2_takePackageOff := List.mem_of_getElem? (i := 4) rfl
theorem k_X2_takePackageOff_4 : Cond.fieldLink RX2 47 RX2 (TX2 7).2.1 (TX2 7).2.2.1 ∈ wsX2_takePackageOff := List.mem_of_getElem? (i := 5) rfl
theorem k_X2_takePackageOff_5 : Cond.fieldLink RX2 56 RX2 (TX2 10).2.1 (TX2 10).2.2.1 ∈ wsX2_takePackageOff := List.mem_of_getElem? (i := 6) rfl
def F_X2_takePackageOff (u : SV) : Int32 × SV :=
  (if (u.2.1.1 0) = 0 then ((-5), u) else (let z_19 := F_X3_clear u.2.1
  (let z_27 := F_J7_fill_53178 u.2.2.1 0
  ((u.2.1.1 0), (upd (upd (upd (upd u.1 2 0) 3 (-1)) 4 0) 7 ((u.1 7) + 1), z_19, z_27, u.2.2.2)))))
set_option maxHeartbeats 4000000 in
set_option maxRecDepth 100000 in
theorem c_X2_takePackageOff (l : Launch) (T : TT) (b0 : Nat) (a w h k d : Nat) (u : SV)  : ConI l T b0 yX2_takePackageOff wsX2_takePackageOff rmX2_takePackageOff [.ref a] (wSt T a w h k d u) ((F_X2_takePackageOff u).1) (wSt T a w h k d ((F_X2_takePackageOff u).2)) := by
  refine conI_of (cc := cX2_takePackageOff) (maxL := 2) (ret := (some .int)) (lv0 := [(0, .ref a)]) (by decide +kernel) rfl (Nat.le_of_ble_eq_true rfl) rfl (fun X hX => ?_)
  refine g_aload_n hX dX2_takePackageOff_0 rfl 0 rfl ?_
  refine g_get hX 2 h_X2_takePackageOff_X2 0 rfl rfl 0 (by decide) k_X2_takePackageOff_0 rfl (v := .ref w) rfl dX2_takePackageOff_1 ?_
  refine g_getN hX 3 h_X2_takePackageOff_X3 1 rfl rfl 1 (by decide) 0 rfl rfl (v := .int (u.2.1.1 0)) rfl dX2_takePackageOff_4 ?_
  refine g_istore_n hX (lv' := [(1, .int (u.2.1.1 0)), (0, .ref a)]) dX2_takePackageOff_7 rfl (by decide) rfl ?_
  refine g_iload_n hX dX2_takePackageOff_8 rfl 0 rfl ?_
  refine g_if_ne hX 15 dX2_takePackageOff_9 (by decide) (fun c_9 => ?_) (fun c_9 => ?_)
  · skip
    refine g_aload_n hX dX2_takePackageOff_15 rfl 1 rfl ?_
    refine g_get hX 2 h_X2_takePackageOff_X2 0 rfl rfl 0 (by decide) k_X2_takePackageOff_0 rfl (v := .ref w) rfl dX2_takePackageOff_16 ?_
    obtain ⟨z_19, hz_19⟩ : ∃ z : WV, z = F_X3_clear u.2.1 := ⟨_, rfl⟩
    refine g_cVN_V hX (n := 0) (As := []) (wc := wWr T w h u.2.1) (w1 := wWr T w h z_19) (st := []) 1 rfl rfl (by rw [hz_19]; exact (c_X3_clear (xL X) T (xB X) w h u.2.1)) ggX2_takePackageOff_X3_clear 36 rfl k_X2_takePackageOff_7 k_X2_takePackageOff_6 k_X2_takePackageOff_8 rfl rfl rfl ⟨Nat.le_of_ble_eq_true rfl, Nat.le_of_ble_eq_true rfl⟩ ⟨Nat.zero_le _, Nat.zero_le _⟩ ⟨by decide +kernel, by decide +kernel, by decide +kernel⟩ rfl [1, 2] rfl rfl (by decide) rfl (Nat.le_of_ble_eq_true rfl) dX2_takePackageOff_19 (ws' := wSt T a w h k d (u.1, z_19, u.2.2.1, u.2.2.2)) rfl ?_
    refine g_aload_n hX dX2_takePackageOff_22 rfl 1 rfl ?_
    refine g_get hX 2 h_X2_takePackageOff_X2 0 rfl rfl 1 (by decide) k_X2_takePackageOff_1 rfl (v := .ref k) rfl dX2_takePackageOff_23 ?_
    refine g_iconst hX (v := 0) dX2_takePackageOff_26 (by decide) ?_
    obtain ⟨z_27, hz_27⟩ : ∃ z : (Nat → Int32), z = F_J7_fill_53178 u.2.2.1 0 := ⟨_, rfl⟩
    refine g_cS_V hX (n := 2) (As := [.ref k, .int 0]) (wc := wAr T k 12 u.2.2.1) (w1 := wAr T k 12 z_27) (st := []) (by rw [hz_27]; exact (c_J7_fill_53178 (xL X) T (xB X) k 12 u.2.2.1 0 (by decide))) gX2_takePackageOff_J7_fill_53178 rfl rfl rfl ⟨Nat.le_of_ble_eq_true rfl, Nat.le_of_ble_eq_true rfl⟩ ⟨Nat.zero_le _, Nat.zero_le _⟩ ⟨by decide +kernel, by decide +kernel, by decide +kernel⟩ rfl [3] rfl rfl (by decide) rfl (Nat.le_of_ble_eq_true rfl) dX2_takePackageOff_27 (ws' := wSt T a w h k d (u.1, z_19, z_27, u.2.2.2)) rfl ?_
    refine g_aload_n hX dX2_takePackageOff_30 rfl 1 rfl ?_
    refine g_iconst hX (v := 0) dX2_takePackageOff_31 (by decide) ?_
    refine g_put hX 2 h_X2_takePackageOff_X2 0 rfl rfl 5 (by decide) tyX2 tyX2_ok nmX2 k_X2_takePackageOff_2 rfl rfl rfl rfl rfl (Nat.le_of_ble_eq_true rfl) dX2_takePackageOff_32 (ws' := wSt T a w h k d (upd u.1 2 0, z_19, z_27, u.2.2.2)) rfl ?_
    refine g_aload_n hX dX2_takePackageOff_35 rfl 1 rfl ?_
    refine g_iconst hX (v := (-1)) dX2_takePackageOff_36 (by decide) ?_
    refine g_put hX 2 h_X2_takePackageOff_X2 0 rfl rfl 6 (by decide) tyX2 tyX2_ok nmX2 k_X2_takePackageOff_3 rfl rfl rfl rfl rfl (Nat.le_of_ble_eq_true rfl) dX2_takePackageOff_37 (ws' := wSt T a w h k d (upd (upd u.1 2 0) 3 (-1), z_19, z_27, u.2.2.2)) rfl ?_
    refine g_aload_n hX dX2_takePackageOff_40 rfl 1 rfl ?_
    refine g_iconst hX (v := 0) dX2_takePackageOff_41 (by decide) ?_
    refine g_put hX 2 h_X2_takePackageOff_X2 0 rfl rfl 7 (by decide) tyX2 tyX2_ok nmX2 k_X2_takePackageOff_4 rfl rfl rfl rfl rfl (Nat.le_of_ble_eq_true rfl) dX2_takePackageOff_42 (ws' := wSt T a w h k d (upd (upd (upd u.1 2 0) 3 (-1)) 4 0, z_19, z_27, u.2.2.2)) rfl ?_
    refine g_aload_n hX dX2_takePackageOff_45 rfl 1 rfl ?_
    refine g_dup hX dX2_takePackageOff_46 rfl ?_
    refine g_get hX 2 h_X2_takePackageOff_X2 0 rfl rfl 10 (by decide) k_X2_takePackageOff_5 rfl (v := .int (u.1 7)) rfl dX2_takePackageOff_47 ?_
    refine g_iconst hX (v := 1) dX2_takePackageOff_50 (by decide) ?_
    refine g_iadd hX dX2_takePackageOff_51 ?_
    refine g_put hX 2 h_X2_takePackageOff_X2 0 rfl rfl 10 (by decide) tyX2 tyX2_ok nmX2 k_X2_takePackageOff_5 rfl rfl rfl rfl rfl (Nat.le_of_ble_eq_true rfl) dX2_takePackageOff_52 (ws' := wSt T a w h k d (upd (upd (upd (upd u.1 2 0) 3 (-1)) 4 0) 7 ((u.1 7) + 1), z_19, z_27, u.2.2.2)) rfl ?_
    refine g_iload_n hX dX2_takePackageOff_55 rfl 0 rfl ?_
    have e9 : F_X2_takePackageOff u = ((u.2.1.1 0), (upd (upd (upd (upd u.1 2 0) 3 (-1)) 4 0) 7 ((u.1 7) + 1), z_19, z_27, u.2.2.2)) := by simp only [F_X2_takePackageOff, ← hz_19, ← hz_27, eq_false c_9, if_true, if_false]
    rw [e9]
    exact g_iret hX dX2_takePackageOff_56 rfl rfl
  · skip
    refine g_bipush hX (v := (-5)) dX2_takePackageOff_12 (by decide) ?_
    have e9 : F_X2_takePackageOff u = ((-5), u) := by simp only [F_X2_takePackageOff, eq_true c_9, if_true, if_false]
    rw [e9]
    exact g_iret hX dX2_takePackageOff_14 rfl rfl
/-! X2_turnOften -/
def rmX2_turnOften : Room := { frames := 3, cells := 0, slots := 0, locals := 67 }
theorem k_X2_turnOften_2 : Cond.initialized RX4 ∈ wsX2_turnOften := List.mem_of_getElem? (i := 3) rfl
theorem k_X2_turnOften_1 : Cond.static yX4_inRange ∈ wsX2_turnOften := List.mem_of_getElem? (i := 2) rfl
theorem k_X2_turnOften_0 : Cond.fieldLink RX2 12 RX2 (TX2 0).2.1 (TX2 0).2.2.1 ∈ wsX2_turnOften := List.mem_of_getElem? (i := 1) rfl
theorem h_X2_turnOften_X2 : ∀ w ∈ u_ws RX2 TX2 11, w ∈ wsX2_turnOften := fun w h => List.mem_cons_of_mem _ (List.mem_append_left _ (List.mem_append_right _ h))
theorem h_X2_turnOften_X3 : ∀ w ∈ u_ws RX3 TX3 4, w ∈ wsX2_turnOften := fun w h => List.mem_cons_of_mem _ (List.mem_append_right _ h)
def K_X2_turnOften_31 : Nat → SV → Int32 → Nat → Int32 → Int32 × SV
  | 0, u, p1, j, e => (0, u)
  | n + 1, u, p1, j, e => (if p1 ≤ (nI j) then (((u.2.1.1 0) - e), u) else (if (F_X2_isIdle u) = 0 then (let z_44 := F_X2_turnOnce u
  K_X2_turnOften_31 n z_44 p1 (j + 1) e) else (((u.2.1.1 0) - e), u)))
def F_X2_turnOften (u : SV) (p1 : Int32) : Int32 × SV :=
  (if (F_X4_inRange 5 p1) = 0 then ((-2), u) else (if (F_X2_isIdle u) = 0 then K_X2_turnOften_31 501 u p1 0 (u.2.1.1 0) else ((-5), u)))
set_option maxHeartbeats 4000000 in
set_option maxRecDepth 100000 in
theorem k_X2_turnOften_31 {T : TT} {X : CX} (hX : Fit T X (yX2_turnOften).cls 4 wsX2_turnOften cX2_turnOften (some .int) rmX2_turnOften) (a w h k d : Nat) : ∀ (n : Nat) (u : SV) (p1 : Int32) (j : Nat) (e : Int32) (hn : j + n = 501) (hj : j ≤ 500) (hp : p1.toInt ≤ 500), G T X (QI T X 0 0 ((K_X2_turnOften_31 n u p1 j e).1) (wSt T a w h k d ((K_X2_turnOften_31 n u p1 j e).2))) 0 0 (wSt T a w h k d u) [(3, .int (nI j)), (2, .int e), (0, .ref a), (1, .int p1)] 31 [] := by
  intro n
  induction n with
  | zero =>
    intro u p1 j e hn hj hp
    exact absurd hn (by omega)
  | succ n ih =>
    intro u p1 j e hn hj hp
    refine g_iload_n hX dX2_turnOften_31 rfl 0 rfl ?_
    refine g_iload_n hX dX2_turnOften_32 rfl 3 rfl ?_
    refine g_icmp_ge hX 53 dX2_turnOften_33 (by decide) (fun c_33 => ?_) (fun c_33 => ?_)
    · skip
      refine g_aload_n hX dX2_turnOften_53 rfl 2 rfl ?_
      refine g_get hX 2 h_X2_turnOften_X2 0 rfl rfl 0 (by decide) k_X2_turnOften_0 rfl (v := .ref w) rfl dX2_turnOften_54 ?_
      refine g_getN hX 3 h_X2_turnOften_X3 1 rfl rfl 1 (by decide) 0 rfl rfl (v := .int (u.2.1.1 0)) rfl dX2_turnOften_57 ?_
      refine g_iload_n hX dX2_turnOften_60 rfl 1 rfl ?_
      refine g_isub hX dX2_turnOften_61 ?_
      have e9 : K_X2_turnOften_31 (n + 1) u p1 j e = (((u.2.1.1 0) - e), u) := by simp only [K_X2_turnOften_31, eq_true c_33, if_true, if_false]
      rw [e9]
      exact g_iret hX dX2_turnOften_62 rfl rfl
    · skip
      have hlt : j < 500 := nlt_p c_33 hp (by omega)
      refine g_aload_n hX dX2_turnOften_36 rfl 2 rfl ?_
      refine g_cV_I hX (n := 0) (As := []) (wc := wSt T a w h k d u) (w1 := wSt T a w h k d u) (rv := (F_X2_isIdle u)) (st := []) 0 rfl rfl (c_X2_isIdle (xL X) T (xB X) a w h k d u) gX2_turnOften_X2_isIdle rfl rfl rfl ⟨Nat.le_of_ble_eq_true rfl, Nat.le_of_ble_eq_true rfl⟩ ⟨Nat.zero_le _, Nat.zero_le _⟩ ⟨by decide +kernel, by decide +kernel, by decide +kernel⟩ rfl [0, 1, 2, 3, 4] rfl rfl (by decide) rfl (Nat.le_of_ble_eq_true rfl) dX2_turnOften_37 (ws' := wSt T a w h k d u) rfl ?_
      refine g_if_ne hX 53 dX2_turnOften_40 (by decide) (fun c_40 => ?_) (fun c_40 => ?_)
      · skip
        refine g_aload_n hX dX2_turnOften_53 rfl 2 rfl ?_
        refine g_get hX 2 h_X2_turnOften_X2 0 rfl rfl 0 (by decide) k_X2_turnOften_0 rfl (v := .ref w) rfl dX2_turnOften_54 ?_
        refine g_getN hX 3 h_X2_turnOften_X3 1 rfl rfl 1 (by decide) 0 rfl rfl (v := .int (u.2.1.1 0)) rfl dX2_turnOften_57 ?_
        refine g_iload_n hX dX2_turnOften_60 rfl 1 rfl ?_
        refine g_isub hX dX2_turnOften_61 ?_
        have e9 : K_X2_turnOften_31 (n + 1) u p1 j e = (((u.2.1.1 0) - e), u) := by simp only [K_X2_turnOften_31, eq_false c_33, eq_false c_40, if_true, if_false]
        rw [e9]
        exact g_iret hX dX2_turnOften_62 rfl rfl
      · skip
        refine g_aload_n hX dX2_turnOften_43 rfl 2 rfl ?_
        obtain ⟨z_44, hz_44⟩ : ∃ z : SV, z = F_X2_turnOnce u := ⟨_, rfl⟩
        refine g_cV_V hX (n := 0) (As := []) (wc := wSt T a w h k d u) (w1 := wSt T a w h k d z_44) (st := []) 0 rfl rfl (by rw [hz_44]; exact (c_X2_turnOnce (xL X) T (xB X) a w h k d u)) gX2_turnOften_X2_turnOnce rfl rfl rfl ⟨Nat.le_of_ble_eq_true rfl, Nat.le_of_ble_eq_true rfl⟩ ⟨Nat.zero_le _, Nat.zero_le _⟩ ⟨by decide +kernel, by decide +kernel, by decide +kernel⟩ rfl [0, 1, 2, 3, 4] rfl rfl (by decide) rfl (Nat.le_of_ble_eq_true rfl) dX2_turnOften_44 (ws' := wSt T a w h k d z_44) rfl ?_
        refine g_iinc hX (lv' := [(3, .int (nI (j + 1))), (2, .int e), (0, .ref a), (1, .int p1)]) (v := (nI (j + 1))) 0 dX2_turnOften_47 rfl (nI_1 _) (by decide) rfl ?_
        refine g_goto hX 31 dX2_turnOften_50 (by decide) ?_
        have e9 : K_X2_turnOften_31 (n + 1) u p1 j e = K_X2_turnOften_31 n z_44 p1 (j + 1) e := by simp only [K_X2_turnOften_31, ← hz_44, eq_false c_33, eq_true c_40, if_true, if_false]
        rw [e9]
        refine g_lv (lv' := [(3, .int (nI (j + 1))), (2, .int e), (0, .ref a), (1, .int p1)]) [0, 1, 2, 3] rfl ?_
        exact ih z_44 p1 (j + 1) e (by omega) (by omega) hp
set_option maxHeartbeats 4000000 in
set_option maxRecDepth 100000 in
theorem c_X2_turnOften (l : Launch) (T : TT) (b0 : Nat) (a w h k d : Nat) (u : SV) (p1 : Int32)  : ConI l T b0 yX2_turnOften wsX2_turnOften rmX2_turnOften [.ref a, .int p1] (wSt T a w h k d u) ((F_X2_turnOften u p1).1) (wSt T a w h k d ((F_X2_turnOften u p1).2)) := by
  refine conI_of (cc := cX2_turnOften) (maxL := 4) (ret := (some .int)) (lv0 := [(0, .ref a), (1, .int p1)]) (by decide +kernel) rfl (Nat.le_of_ble_eq_true rfl) rfl (fun X hX => ?_)
  refine g_iconst hX (v := 5) dX2_turnOften_0 (by decide) ?_
  refine g_iload_n hX dX2_turnOften_1 rfl 1 rfl ?_
  refine g_cSN_I hX (n := 2) (As := [.int 5, .int p1]) (wc := []) (w1 := []) (rv := (F_X4_inRange 5 p1)) (st := []) (c_X4_inRange (xL X) T (xB X) 5 p1) ggX2_turnOften_X4_inRange 23 rfl k_X2_turnOften_2 k_X2_turnOften_1 rfl rfl rfl ⟨Nat.le_of_ble_eq_true rfl, Nat.le_of_ble_eq_true rfl⟩ ⟨Nat.zero_le _, Nat.zero_le _⟩ ⟨by decide +kernel, by decide +kernel, by decide +kernel⟩ rfl [] rfl rfl (by decide) rfl (Nat.le_of_ble_eq_true rfl) dX2_turnOften_2 (ws' := wSt T a w h k d u) rfl ?_
  refine g_if_ne hX 11 dX2_turnOften_5 (by decide) (fun c_5 => ?_) (fun c_5 => ?_)
  · skip
    refine g_aload_n hX dX2_turnOften_11 rfl 0 rfl ?_
    refine g_cV_I hX (n := 0) (As := []) (wc := wSt T a w h k d u) (w1 := wSt T a w h k d u) (rv := (F_X2_isIdle u)) (st := []) 0 rfl rfl (c_X2_isIdle (xL X) T (xB X) a w h k d u) gX2_turnOften_X2_isIdle rfl rfl rfl ⟨Nat.le_of_ble_eq_true rfl, Nat.le_of_ble_eq_true rfl⟩ ⟨Nat.zero_le _, Nat.zero_le _⟩ ⟨by decide +kernel, by decide +kernel, by decide +kernel⟩ rfl [0, 1, 2, 3, 4] rfl rfl (by decide) rfl (Nat.le_of_ble_eq_true rfl) dX2_turnOften_12 (ws' := wSt T a w h k d u) rfl ?_
    refine g_if_eq hX 21 dX2_turnOften_15 (by decide) (fun c_15 => ?_) (fun c_15 => ?_)
    · skip
      refine g_aload_n hX dX2_turnOften_21 rfl 0 rfl ?_
      refine g_get hX 2 h_X2_turnOften_X2 0 rfl rfl 0 (by decide) k_X2_turnOften_0 rfl (v := .ref w) rfl dX2_turnOften_22 ?_
      refine g_getN hX 3 h_X2_turnOften_X3 1 rfl rfl 1 (by decide) 0 rfl rfl (v := .int (u.2.1.1 0)) rfl dX2_turnOften_25 ?_
      refine g_istore_n hX (lv' := [(2, .int (u.2.1.1 0)), (0, .ref a), (1, .int p1)]) dX2_turnOften_28 rfl (by decide) rfl ?_
      refine g_iconst hX (v := 0) dX2_turnOften_29 (by decide) ?_
      refine g_istore_n hX (lv' := [(3, .int 0), (2, .int (u.2.1.1 0)), (0, .ref a), (1, .int p1)]) dX2_turnOften_30 rfl (by decide) rfl ?_
      have e9 : F_X2_turnOften u p1 = K_X2_turnOften_31 501 u p1 0 (u.2.1.1 0) := by simp only [F_X2_turnOften, eq_false c_5, eq_true c_15, if_true, if_false]
      rw [e9]
      refine g_lv (lv' := [(3, .int (nI 0)), (2, .int (u.2.1.1 0)), (0, .ref a), (1, .int p1)]) [0, 1, 2, 3] rfl ?_
      exact k_X2_turnOften_31 hX a w h k d 501 u p1 0 (u.2.1.1 0) (by omega) (by omega) (inr5 c_5)
    · skip
      refine g_bipush hX (v := (-5)) dX2_turnOften_18 (by decide) ?_
      have e9 : F_X2_turnOften u p1 = ((-5), u) := by simp only [F_X2_turnOften, eq_false c_5, eq_false c_15, if_true, if_false]
      rw [e9]
      exact g_iret hX dX2_turnOften_20 rfl rfl
  · skip
    refine g_bipush hX (v := (-2)) dX2_turnOften_8 (by decide) ?_
    have e9 : F_X2_turnOften u p1 = ((-2), u) := by simp only [F_X2_turnOften, eq_true c_5, if_true, if_false]
    rw [e9]
    exact g_iret hX dX2_turnOften_10 rfl rfl
end
section
/-! The history: a ring of four states; the whole winder's cells -/
abbrev HV : Type := (Nat → Int32) × (Nat → SV)
abbrev XV : Type := (Nat → Int32) × SV × SV × SV × WV × HV × TV
def updS (f : Nat → SV) (k : Nat) (v : SV) : Nat → SV := fun j => if j = k then v else f j
abbrev fSt (ad : Nat → Nat) : Nat → Option Nat := fun j => some (ad (20 + 5 * j))
abbrev wHh (T : TT) (ad : Nat → Nat) (c : Nat → Int32) : va_W := [(ad 18, .inr (1, [.ref (ad 19), .int (c 0), .int (c 1)])), (ad 19, .inl (T.2.2.2, 4, .inr (.inr (.inr (.inr (fSt ad))))))]
abbrev wHi (T : TT) (ad : Nat → Nat) (v : HV) : va_W := wHh T ad v.1 ++ wSt T (ad 20) (ad 21) (ad 22) (ad 23) (ad 24) (v.2 0) ++ wSt T (ad 25) (ad 26) (ad 27) (ad 28) (ad 29) (v.2 1) ++ wSt T (ad 30) (ad 31) (ad 32) (ad 33) (ad 34) (v.2 2) ++ wSt T (ad 35) (ad 36) (ad 37) (ad 38) (ad 39) (v.2 3)
abbrev wXX (T : TT) (ad : Nat → Nat) (X : XV) : va_W := [(ad 0, .inr (4, [.ref (ad 1), .ref (ad 6), .ref (ad 11), .ref (ad 16), .ref (ad 18), .ref (ad 40), .int (X.1 0), .int (X.1 1)]))] ++ wSt T (ad 1) (ad 2) (ad 3) (ad 4) (ad 5) X.2.1 ++ wSt T (ad 6) (ad 7) (ad 8) (ad 9) (ad 10) X.2.2.1 ++ wSt T (ad 11) (ad 12) (ad 13) (ad 14) (ad 15) X.2.2.2.1 ++ wWr T (ad 16) (ad 17) X.2.2.2.2.1 ++ wHi T ad X.2.2.2.2.2.1 ++ wTx T (ad 40) (ad 41) (ad 42) (ad 43) X.2.2.2.2.2.2
/-- a contract whose answer is a cell -/
def ConR (l : Launch) (T : TT) (b0 : Nat) (y : MethodName) (wds : List Cond) (rm : Room) (av : List Value) (w0 : va_W) (ra : Nat) (w1 : va_W) : Prop := ∀ sz : Nat, b0 ≤ sz → Met l y wds rm (PreC T b0 av w0 sz) (va_Qr (fun (w : va_W) => w = w1) (fun w a t => a = ra ∧ va_P T.1 vwCl w t.heap ∧ va_D (va_A w0 sz) w) (va_A w0 sz)) 0 0 (va_A w0 sz)
def QR (T : TT) (X : CX) (mc ms : Nat) (ra : Nat) (w1 : va_W) : State → Prop := MQ (xBl X) (va_Qr (fun (w : va_W) => w = w1) (fun w a t => a = ra ∧ va_P T.1 vwCl w t.heap ∧ va_D (xA X) w) (xA X)) (xAr X) (xS X) mc ms (xA X)
theorem conR_of {l : Launch} {T : TT} {b0 : Nat} {y : MethodName} {wds wds' : List Cond} {rm : Room} {av : List Value} {w0 w1 : va_W} {ra : Nat} {cc : ByteArray} {maxL : Nat} {ret : Option FieldType} {lv0 : List (Nat × Value)} (hy : plainName y.cls = true) (hw : wds = .code y cc maxL ret :: wds') (hav : (lg_sl av).length ≤ maxL) (hlv : lv_args 0 av = lv0)
    (body : ∀ X : CX, Fit T X y.cls maxL wds cc ret rm → G T X (QR T X 0 0 ra w1) 0 0 w0 lv0 0 []) : ConR l T b0 y wds rm av w0 ra w1 := fun sz hsz =>
  fit_body hy hw hav hlv hsz (fun X hX hl hB hn hA hs => by
    have k := body X hX
    unfold QR at k
    rw [hA] at k ⊢
    exact k)
section GCR
variable {T : TT} {X : CX} {own : String} {nL : Nat} {Ts : List Cond} {cc : ByteArray} {ret : Option FieldType} {R : Room} {Q : State → Prop} {cells slots : Nat} {ws w1 : va_W} {lv : List (Nat × Value)} {pc : Nat} {st : List Value}
theorem g_aret {C : String} {x : Nat} (hX : Fit T X own nL Ts cc (some (.object C)) R) (hdg : decode cc pc = .ok (.areturn, 1)) (hw : ws = w1) : G T X (QR T X cells slots x w1) cells slots ws lv pc [.ref x] := by
  subst hw
  intro H locs ls hP hD hS hl
  exact W.aret hX.1 hX.2.1 hX.2.2.2.2.2.2.2.2.2.2.1 (Or.inl ⟨C, rfl⟩) (Or.inr ⟨x, rfl⟩) (fun t ht hW => ⟨⟨ws, x, rfl, rfl, rfl, by rw [ht]; exact hP, hD⟩, hS.F ht⟩) hS.2.2 hdg (hlocks := hX.2.2.2.2.2.2.2.1)
theorem g_cV_R (hX : Fit T X own nL Ts cc ret R) {y : MethodName} {bytes : ByteArray} {maxL n index : Nat} {ret' : Option FieldType} {wds wds' : List Cond} {rm : Room} {As : List Value} {wc ws' : va_W} {stk : List Value} {ra : Nat} {b ci : Nat} {fs : List Value} {U : u_T} {N : Nat} (q0 : Nat) (hrec : ws[q0]? = some (b, .inr (ci, fs))) (hc : vwCl[ci]? = some (y.cls, U, N)) (hM : ConR (xL X) T (xB X) y wds rm (.ref b :: As) wc ra w1) (hG : GoodIn Ts (wsV own index y.cls y wds)) (hw : wds = Cond.code y bytes maxL ret' :: wds') (hrc : rm.cells = 0) (hrs : rm.slots = 0) (hR : rm.frames + 1 ≤ R.frames ∧ 8 + (maxL + 11) + rm.locals ≤ R.locals) (hcs : cells ≤ R.cells ∧ slots ≤ R.slots) (hd : y.cls ≠ "java/lang/invoke/MethodHandle" ∧ y.cls ≠ "java/lang/invoke/VarHandle" ∧ (parseMethodDescriptor y.desc).map (fun d => d.parameters.length) = some n) (hlen : As.length = n) (is : List Nat) (hC : is.map (fun i => ws[i]?) = wc.map some) (hA : w1.map (fun q => q.1) = wc.map (fun q => q.1)) (hn : va_nd is = true) (hstk : stk = As.reverse ++ .ref b :: st) (hcat : (st.map fun v => v.category).sum ≤ 8) (hdg : decode cc pc = .ok (.invokevirtual index, 3)) (hws : wput ws is w1 = ws') (k : G T X Q cells slots ws' lv (pc + 3) (.ref ra :: st)) : G T X Q cells slots ws lv pc stk := by
  subst hws
  intro H locs ls hP hD hS hl
  have hPc := va_sub hP is hC
  have hDc : va_D (xA X) wc := hD.sub is hn hC
  have hFc := va_free (wc := wc) hD hS hX.2.2.2.2.2.2.1 is hC
  have hR' : rm.frames + 1 ≤ (xR X).frames ∧ 8 + (maxL + 11) + rm.locals ≤ (xR X).locals := by rw [hX.2.2.2.2.2.2.2.2.2.2.2]; exact hR
  have hcs' : cells + 0 ≤ (xR X).cells ∧ slots + 0 ≤ (xR X).slots := by rw [hX.2.2.2.2.2.2.2.2.2.2.2]; exact hcs
  refine va_callr (va_runV (As := As) (rest := st) ⟨hX.1, hX.2.1, rfl, hX.2.2.2.1, hX.2.2.2.2.1⟩ (hM H.size (fit_low hX hS)) (cwV n hX.2.2.2.2.1 hG hw hrc hrs ⟨rfl, hd⟩ hR') ⟨PreC_blind, va_recv hX.2.2.2.2.2.1 hP hc hrec, fun U hU hW => ⟨rfl, by rw [hU], by rw [hU]; exact hPc, va_K.moved hW.alike hX.2.2.2.2.2.1, hDc.weaken (fun _ q _ h => hX.2.2.2.2.2.2.2.2.2.1 _ h), hX.2.2.2.2.2.2.2.2.1.moved hS hX.2.2.2.2.2.2.2.2.2.1 hW hU⟩⟩ rfl hlen hl.1 hstk (lv_room hcat) hdg hcs') hS (fun q _ h => hFc q h) hFc (fun u a t H1 locs1 ht hvm hw2 hB hz1 hk1 hS1 => ?_)
  subst hw2
  obtain ⟨ha, hP1, hD1⟩ := hB
  subst ha
  rw [ht] at hP1
  obtain ⟨hP2, hD2⟩ := va_back hP hD is hC hA hn hk1 hP1
  exact k H1 locs1 ls hP2 hD2 hS1 hl
end GCR
def rmX1_stateAt : Room := { frames := 0, cells := 0, slots := 0, locals := 0 }
theorem k_X1_stateAt_0 : Cond.fieldLink RX1 11 RX1 (TX1 0).2.1 (TX1 0).2.2.1 ∈ wsX1_stateAt := List.mem_of_getElem? (i := 1) rfl
theorem h_X1_stateAt_X1 : ∀ w ∈ u_ws RX1 TX1 3, w ∈ wsX1_stateAt := fun w h => List.mem_cons_of_mem _ (List.mem_append_right _ h)
set_option maxHeartbeats 4000000 in
set_option maxRecDepth 100000 in
theorem c_X1_stateAt (l : Launch) (T : TT) (b0 : Nat) (ad : Nat → Nat) (c : Nat → Int32) (p1 : Int32) (j : Nat) (hp : p1 = nI j) (hj : j < 4) : ConR l T b0 yX1_stateAt wsX1_stateAt rmX1_stateAt [.ref (ad 18), .int p1] (wHh T ad c) (ad (20 + 5 * j)) (wHh T ad c) := by
  refine conR_of (cc := cX1_stateAt) (maxL := 2) (ret := (some (.object "ThreadWinder$State"))) (lv0 := [(0, .ref (ad 18)), (1, .int p1)]) (by decide +kernel) rfl (Nat.le_of_ble_eq_true rfl) rfl (fun X hX => ?_)
  subst hp
  refine g_iload_n hX dX1_stateAt_0 rfl 1 rfl ?_
  refine g_if_lt hX 22 dX1_stateAt_1 (by decide) (fun c_1 => absurd c_1 (nI_pos (by omega))) (fun c_1 => ?_)
  refine g_iload_n hX dX1_stateAt_4 rfl 1 rfl ?_
  refine g_aload_n hX dX1_stateAt_5 rfl 0 rfl ?_
  refine g_get hX 1 h_X1_stateAt_X1 0 rfl rfl 0 (by decide) k_X1_stateAt_0 rfl (v := .ref (ad 19)) rfl dX1_stateAt_6 ?_
  refine g_alen hX 1 2 rfl rfl (v := 4) rfl dX1_stateAt_9 ?_
  refine g_icmp_ge hX 22 dX1_stateAt_10 (by decide) (fun c_10 => absurd (show nI 4 ≤ nI j from c_10) (nI_ge hj (by omega))) (fun c_10 => ?_)
  refine g_aload_n hX dX1_stateAt_13 rfl 0 rfl ?_
  refine g_get hX 1 h_X1_stateAt_X1 0 rfl rfl 0 (by decide) k_X1_stateAt_0 rfl (v := .ref (ad 19)) rfl dX1_stateAt_14 ?_
  refine g_iload_n hX dX1_stateAt_17 rfl 1 rfl ?_
  refine g_aald hX 1 rfl (vp_in_nI hj (by omega)) (v := ad (20 + 5 * j)) (by show some (ad (20 + 5 * (nI j).toNatClampNeg)) = _; rw [nI_clamp (by omega)]) dX1_stateAt_18 ?_
  refine g_goto hX 23 dX1_stateAt_19 (by decide) ?_
  exact g_aret hX dX1_stateAt_23 rfl
end
section
/-! remember, next = 0 -/
def rmX1_remember : Room := { frames := 3, cells := 0, slots := 0, locals := 82 }
theorem k_X1_remember_0 : Cond.fieldLink RX1 17 RX1 (TX1 1).2.1 (TX1 1).2.2.1 ∈ wsX1_remember := List.mem_of_getElem? (i := 1) rfl
theorem h_X1_remember_X1 : ∀ w ∈ u_ws RX1 TX1 3, w ∈ wsX1_remember := fun w h => List.mem_cons_of_mem _ (List.mem_append_left _ (List.mem_append_left _ (List.mem_append_right _ h)))
theorem k_X1_remember_13 : Cond.initialized RX2 ∈ wsX1_remember := List.mem_of_getElem? (i := 14) rfl
theorem k_X1_remember_12 : Cond.instanceMethod yX2_copyFrom ∈ wsX1_remember := List.mem_of_getElem? (i := 13) rfl
theorem k_X1_remember_14 : Cond.selects RX2 yX2_copyFrom yX2_copyFrom ∈ wsX1_remember := List.mem_of_getElem? (i := 15) rfl
theorem k_X1_remember_1 : Cond.fieldLink RX1 21 RX1 (TX1 2).2.1 (TX1 2).2.2.1 ∈ wsX1_remember := List.mem_of_getElem? (i := 2) rfl
theorem k_X1_remember_2 : Cond.methodLink RX1 33 Lib.Math.min.name ∈ wsX1_remember := List.mem_of_getElem? (i := 3) rfl
theorem k_X1_remember_3 : Cond.static Lib.Math.min.name ∈ wsX1_remember := List.mem_of_getElem? (i := 4) rfl
theorem k_X1_remember_4 : Cond.initialized "java/lang/Math" ∈ wsX1_remember := List.mem_of_getElem? (i := 5) rfl
theorem k_X1_remember_5 : Cond.code Lib.Math.min.name Lib.Math.min.code 2 (some .int) ∈ wsX1_remember := List.mem_of_getElem? (i := 6) rfl
def F_X1_remember_0 (v : HV) (u : SV) : HV :=
  (upd (upd v.1 0 1) 1 (if 4 < ((v.1 1) + 1) then 4 else ((v.1 1) + 1)), updS v.2 0 u)
set_option maxHeartbeats 4000000 in
set_option maxRecDepth 100000 in
theorem c_X1_remember_0 (l : Launch) (T : TT) (b0 : Nat) (ad : Nat → Nat) (a2 w2 h2 k2 d2 : Nat) (v : HV) (u : SV) (hb : u.1 2 = 0 ∨ u.1 2 = 1) (hn : v.1 0 = 0) : ConV l T b0 yX1_remember wsX1_remember rmX1_remember [.ref (ad 18), .ref a2] (wHi T ad v ++ wSt T a2 w2 h2 k2 d2 u) (wHi T ad (F_X1_remember_0 v u) ++ wSt T a2 w2 h2 k2 d2 u) := by
  refine conV_of (cc := cX1_remember) (maxL := 3) (ret := none) (lv0 := [(0, .ref (ad 18)), (1, .ref a2)]) (by decide +kernel) rfl (Nat.le_of_ble_eq_true rfl) rfl (fun X hX => ?_)
  refine g_aload_n hX dX1_remember_0 rfl 0 rfl ?_
  refine g_aload_n hX dX1_remember_1 rfl 0 rfl ?_
  refine g_get hX 1 h_X1_remember_X1 0 rfl rfl 1 (by decide) k_X1_remember_0 rfl (v := .int 0) (by show some (Value.int (v.1 0)) = _; rw [hn]) dX1_remember_2 ?_
  refine g_cV_R hX (n := 1) (As := [.int 0]) (wc := wHh T ad v.1) (w1 := wHh T ad v.1) (ra := ad 20) (st := []) 0 rfl rfl (c_X1_stateAt (xL X) T (xB X) ad v.1 0 0 (by decide) (by omega)) gX1_remember_X1_stateAt rfl rfl rfl ⟨Nat.le_of_ble_eq_true rfl, Nat.le_of_ble_eq_true rfl⟩ ⟨Nat.zero_le _, Nat.zero_le _⟩ ⟨by decide +kernel, by decide +kernel, by decide +kernel⟩ rfl [0, 1] rfl rfl (by decide) rfl (Nat.le_of_ble_eq_true rfl) dX1_remember_5 (ws' := wHi T ad v ++ wSt T a2 w2 h2 k2 d2 u) rfl ?_
  refine g_astore_n hX (lv' := [(2, .ref (ad 20)), (0, .ref (ad 18)), (1, .ref a2)]) dX1_remember_8 rfl (by decide) rfl ?_
  refine g_aload_n hX dX1_remember_9 rfl 0 rfl ?_
  refine g_ifnull hX dX1_remember_10 ?_
  refine g_aload_n hX dX1_remember_13 rfl 0 rfl ?_
  refine g_aload_n hX dX1_remember_14 rfl 2 rfl ?_
  refine g_cVN_V hX (n := 1) (As := [.ref a2]) (wc := wSt T (ad 20) (ad 21) (ad 22) (ad 23) (ad 24) (v.2 0) ++ wSt T a2 w2 h2 k2 d2 u) (w1 := wSt T (ad 20) (ad 21) (ad 22) (ad 23) (ad 24) u ++ wSt T a2 w2 h2 k2 d2 u) (st := []) 2 rfl rfl (c_X2_copyFrom (xL X) T (xB X) (ad 20) (ad 21) (ad 22) (ad 23) (ad 24) a2 w2 h2 k2 d2 (v.2 0) u hb) ggX1_remember_X2_copyFrom 25 rfl k_X1_remember_13 k_X1_remember_12 k_X1_remember_14 rfl rfl rfl ⟨Nat.le_of_ble_eq_true rfl, Nat.le_of_ble_eq_true rfl⟩ ⟨Nat.zero_le _, Nat.zero_le _⟩ ⟨by decide +kernel, by decide +kernel, by decide +kernel⟩ rfl [2, 3, 4, 5, 6, 22, 23, 24, 25, 26] rfl rfl (by decide) rfl (Nat.le_of_ble_eq_true rfl) dX1_remember_15 (ws' := wHi T ad (v.1, updS v.2 0 u) ++ wSt T a2 w2 h2 k2 d2 u) rfl ?_
  refine g_aload_n hX dX1_remember_18 rfl 1 rfl ?_
  refine g_aload_n hX dX1_remember_19 rfl 1 rfl ?_
  refine g_get hX 1 h_X1_remember_X1 0 rfl rfl 1 (by decide) k_X1_remember_0 rfl (v := .int 0) (by show some (Value.int (v.1 0)) = _; rw [hn]) dX1_remember_20 ?_
  refine g_iconst hX (v := 1) dX1_remember_23 (by decide) ?_
  refine g_iadd hX dX1_remember_24 ?_
  rw [show (0 + 1 : Int32) = 1 from by decide]
  refine g_iconst hX (v := 4) dX1_remember_25 (by decide) ?_
  refine g_irem hX dX1_remember_26 (by decide) ?_
  rw [show (1 - 1 / 4 * 4 : Int32) = 1 from by decide]
  refine g_put hX 1 h_X1_remember_X1 0 rfl rfl 1 (by decide) tyX1 tyX1_ok nmX1 k_X1_remember_0 rfl rfl rfl rfl rfl (Nat.le_of_ble_eq_true rfl) dX1_remember_27 (ws' := wHi T ad (upd v.1 0 1, updS v.2 0 u) ++ wSt T a2 w2 h2 k2 d2 u) rfl ?_
  refine g_aload_n hX dX1_remember_30 rfl 1 rfl ?_
  refine g_aload_n hX dX1_remember_31 rfl 1 rfl ?_
  refine g_get hX 1 h_X1_remember_X1 0 rfl rfl 2 (by decide) k_X1_remember_1 rfl (v := .int (v.1 1)) rfl dX1_remember_32 ?_
  refine g_iconst hX (v := 1) dX1_remember_35 (by decide) ?_
  refine g_iadd hX dX1_remember_36 ?_
  refine g_iconst hX (v := 4) dX1_remember_37 (by decide) ?_
  refine g_mmin hX k_X1_remember_2 k_X1_remember_3 k_X1_remember_4 k_X1_remember_5 (Nat.le_of_ble_eq_true rfl) (Nat.le_of_ble_eq_true rfl) (Nat.zero_le _) (Nat.zero_le _) dX1_remember_38 ?_
  refine g_put hX 1 h_X1_remember_X1 0 rfl rfl 2 (by decide) tyX1 tyX1_ok nmX1 k_X1_remember_1 rfl rfl rfl rfl rfl (Nat.le_of_ble_eq_true rfl) dX1_remember_41 (ws' := wHi T ad (upd (upd v.1 0 1) 1 (if 4 < ((v.1 1) + 1) then 4 else ((v.1 1) + 1)), updS v.2 0 u) ++ wSt T a2 w2 h2 k2 d2 u) rfl ?_
  have e9 : F_X1_remember_0 v u = (upd (upd v.1 0 1) 1 (if 4 < ((v.1 1) + 1) then 4 else ((v.1 1) + 1)), updS v.2 0 u) := by simp only [F_X1_remember_0, if_true, if_false]
  rw [e9]
  exact g_vret hX dX1_remember_44 rfl
/-! remember, next = 1 -/
def F_X1_remember_1 (v : HV) (u : SV) : HV :=
  (upd (upd v.1 0 2) 1 (if 4 < ((v.1 1) + 1) then 4 else ((v.1 1) + 1)), updS v.2 1 u)
set_option maxHeartbeats 4000000 in
set_option maxRecDepth 100000 in
theorem c_X1_remember_1 (l : Launch) (T : TT) (b0 : Nat) (ad : Nat → Nat) (a2 w2 h2 k2 d2 : Nat) (v : HV) (u : SV) (hb : u.1 2 = 0 ∨ u.1 2 = 1) (hn : v.1 0 = 1) : ConV l T b0 yX1_remember wsX1_remember rmX1_remember [.ref (ad 18), .ref a2] (wHi T ad v ++ wSt T a2 w2 h2 k2 d2 u) (wHi T ad (F_X1_remember_1 v u) ++ wSt T a2 w2 h2 k2 d2 u) := by
  refine conV_of (cc := cX1_remember) (maxL := 3) (ret := none) (lv0 := [(0, .ref (ad 18)), (1, .ref a2)]) (by decide +kernel) rfl (Nat.le_of_ble_eq_true rfl) rfl (fun X hX => ?_)
  refine g_aload_n hX dX1_remember_0 rfl 0 rfl ?_
  refine g_aload_n hX dX1_remember_1 rfl 0 rfl ?_
  refine g_get hX 1 h_X1_remember_X1 0 rfl rfl 1 (by decide) k_X1_remember_0 rfl (v := .int 1) (by show some (Value.int (v.1 0)) = _; rw [hn]) dX1_remember_2 ?_
  refine g_cV_R hX (n := 1) (As := [.int 1]) (wc := wHh T ad v.1) (w1 := wHh T ad v.1) (ra := ad 25) (st := []) 0 rfl rfl (c_X1_stateAt (xL X) T (xB X) ad v.1 1 1 (by decide) (by omega)) gX1_remember_X1_stateAt rfl rfl rfl ⟨Nat.le_of_ble_eq_true rfl, Nat.le_of_ble_eq_true rfl⟩ ⟨Nat.zero_le _, Nat.zero_le _⟩ ⟨by decide +kernel, by decide +kernel, by decide +kernel⟩ rfl [0, 1] rfl rfl (by decide) rfl (Nat.le_of_ble_eq_true rfl) dX1_remember_5 (ws' := wHi T ad v ++ wSt T a2 w2 h2 k2 d2 u) rfl ?_
  refine g_astore_n hX (lv' := [(2, .ref (ad 25)), (0, .ref (ad 18)), (1, .ref a2)]) dX1_remember_8 rfl (by decide) rfl ?_
  refine g_aload_n hX dX1_remember_9 rfl 0 rfl ?_
  refine g_ifnull hX dX1_remember_10 ?_
  refine g_aload_n hX dX1_remember_13 rfl 0 rfl ?_
  refine g_aload_n hX dX1_remember_14 rfl 2 rfl ?_
  refine g_cVN_V hX (n := 1) (As := [.ref a2]) (wc := wSt T (ad 25) (ad 26) (ad 27) (ad 28) (ad 29) (v.2 1) ++ wSt T a2 w2 h2 k2 d2 u) (w1 := wSt T (ad 25) (ad 26) (ad 27) (ad 28) (ad 29) u ++ wSt T a2 w2 h2 k2 d2 u) (st := []) 7 rfl rfl (c_X2_copyFrom (xL X) T (xB X) (ad 25) (ad 26) (ad 27) (ad 28) (ad 29) a2 w2 h2 k2 d2 (v.2 1) u hb) ggX1_remember_X2_copyFrom 25 rfl k_X1_remember_13 k_X1_remember_12 k_X1_remember_14 rfl rfl rfl ⟨Nat.le_of_ble_eq_true rfl, Nat.le_of_ble_eq_true rfl⟩ ⟨Nat.zero_le _, Nat.zero_le _⟩ ⟨by decide +kernel, by decide +kernel, by decide +kernel⟩ rfl [7, 8, 9, 10, 11, 22, 23, 24, 25, 26] rfl rfl (by decide) rfl (Nat.le_of_ble_eq_true rfl) dX1_remember_15 (ws' := wHi T ad (v.1, updS v.2 1 u) ++ wSt T a2 w2 h2 k2 d2 u) rfl ?_
  refine g_aload_n hX dX1_remember_18 rfl 1 rfl ?_
  refine g_aload_n hX dX1_remember_19 rfl 1 rfl ?_
  refine g_get hX 1 h_X1_remember_X1 0 rfl rfl 1 (by decide) k_X1_remember_0 rfl (v := .int 1) (by show some (Value.int (v.1 0)) = _; rw [hn]) dX1_remember_20 ?_
  refine g_iconst hX (v := 1) dX1_remember_23 (by decide) ?_
  refine g_iadd hX dX1_remember_24 ?_
  rw [show (1 + 1 : Int32) = 2 from by decide]
  refine g_iconst hX (v := 4) dX1_remember_25 (by decide) ?_
  refine g_irem hX dX1_remember_26 (by decide) ?_
  rw [show (2 - 2 / 4 * 4 : Int32) = 2 from by decide]
  refine g_put hX 1 h_X1_remember_X1 0 rfl rfl 1 (by decide) tyX1 tyX1_ok nmX1 k_X1_remember_0 rfl rfl rfl rfl rfl (Nat.le_of_ble_eq_true rfl) dX1_remember_27 (ws' := wHi T ad (upd v.1 0 2, updS v.2 1 u) ++ wSt T a2 w2 h2 k2 d2 u) rfl ?_
  refine g_aload_n hX dX1_remember_30 rfl 1 rfl ?_
  refine g_aload_n hX dX1_remember_31 rfl 1 rfl ?_
  refine g_get hX 1 h_X1_remember_X1 0 rfl rfl 2 (by decide) k_X1_remember_1 rfl (v := .int (v.1 1)) rfl dX1_remember_32 ?_
  refine g_iconst hX (v := 1) dX1_remember_35 (by decide) ?_
  refine g_iadd hX dX1_remember_36 ?_
  refine g_iconst hX (v := 4) dX1_remember_37 (by decide) ?_
  refine g_mmin hX k_X1_remember_2 k_X1_remember_3 k_X1_remember_4 k_X1_remember_5 (Nat.le_of_ble_eq_true rfl) (Nat.le_of_ble_eq_true rfl) (Nat.zero_le _) (Nat.zero_le _) dX1_remember_38 ?_
  refine g_put hX 1 h_X1_remember_X1 0 rfl rfl 2 (by decide) tyX1 tyX1_ok nmX1 k_X1_remember_1 rfl rfl rfl rfl rfl (Nat.le_of_ble_eq_true rfl) dX1_remember_41 (ws' := wHi T ad (upd (upd v.1 0 2) 1 (if 4 < ((v.1 1) + 1) then 4 else ((v.1 1) + 1)), updS v.2 1 u) ++ wSt T a2 w2 h2 k2 d2 u) rfl ?_
  have e9 : F_X1_remember_1 v u = (upd (upd v.1 0 2) 1 (if 4 < ((v.1 1) + 1) then 4 else ((v.1 1) + 1)), updS v.2 1 u) := by simp only [F_X1_remember_1, if_true, if_false]
  rw [e9]
  exact g_vret hX dX1_remember_44 rfl
/-! remember, next = 2 -/
def F_X1_remember_2 (v : HV) (u : SV) : HV :=
  (upd (upd v.1 0 3) 1 (if 4 < ((v.1 1) + 1) then 4 else ((v.1 1) + 1)), updS v.2 2 u)
set_option maxHeartbeats 4000000 in
set_option maxRecDepth 100000 in
theorem c_X1_remember_2 (l : Launch) (T : TT) (b0 : Nat) (ad : Nat → Nat) (a2 w2 h2 k2 d2 : Nat) (v : HV) (u : SV) (hb : u.1 2 = 0 ∨ u.1 2 = 1) (hn : v.1 0 = 2) : ConV l T b0 yX1_remember wsX1_remember rmX1_remember [.ref (ad 18), .ref a2] (wHi T ad v ++ wSt T a2 w2 h2 k2 d2 u) (wHi T ad (F_X1_remember_2 v u) ++ wSt T a2 w2 h2 k2 d2 u) := by
  refine conV_of (cc := cX1_remember) (maxL := 3) (ret := none) (lv0 := [(0, .ref (ad 18)), (1, .ref a2)]) (by decide +kernel) rfl (Nat.le_of_ble_eq_true rfl) rfl (fun X hX => ?_)
  refine g_aload_n hX dX1_remember_0 rfl 0 rfl ?_
  refine g_aload_n hX dX1_remember_1 rfl 0 rfl ?_
  refine g_get hX 1 h_X1_remember_X1 0 rfl rfl 1 (by decide) k_X1_remember_0 rfl (v := .int 2) (by show some (Value.int (v.1 0)) = _; rw [hn]) dX1_remember_2 ?_
  refine g_cV_R hX (n := 1) (As := [.int 2]) (wc := wHh T ad v.1) (w1 := wHh T ad v.1) (ra := ad 30) (st := []) 0 rfl rfl (c_X1_stateAt (xL X) T (xB X) ad v.1 2 2 (by decide) (by omega)) gX1_remember_X1_stateAt rfl rfl rfl ⟨Nat.le_of_ble_eq_true rfl, Nat.le_of_ble_eq_true rfl⟩ ⟨Nat.zero_le _, Nat.zero_le _⟩ ⟨by decide +kernel, by decide +kernel, by decide +kernel⟩ rfl [0, 1] rfl rfl (by decide) rfl (Nat.le_of_ble_eq_true rfl) dX1_remember_5 (ws' := wHi T ad v ++ wSt T a2 w2 h2 k2 d2 u) rfl ?_
  refine g_astore_n hX (lv' := [(2, .ref (ad 30)), (0, .ref (ad 18)), (1, .ref a2)]) dX1_remember_8 rfl (by decide) rfl ?_
  refine g_aload_n hX dX1_remember_9 rfl 0 rfl ?_
  refine g_ifnull hX dX1_remember_10 ?_
  refine g_aload_n hX dX1_remember_13 rfl 0 rfl ?_
  refine g_aload_n hX dX1_remember_14 rfl 2 rfl ?_
  refine g_cVN_V hX (n := 1) (As := [.ref a2]) (wc := wSt T (ad 30) (ad 31) (ad 32) (ad 33) (ad 34) (v.2 2) ++ wSt T a2 w2 h2 k2 d2 u) (w1 := wSt T (ad 30) (ad 31) (ad 32) (ad 33) (ad 34) u ++ wSt T a2 w2 h2 k2 d2 u) (st := []) 12 rfl rfl (c_X2_copyFrom (xL X) T (xB X) (ad 30) (ad 31) (ad 32) (ad 33) (ad 34) a2 w2 h2 k2 d2 (v.2 2) u hb) ggX1_remember_X2_copyFrom 25 rfl k_X1_remember_13 k_X1_remember_12 k_X1_remember_14 rfl rfl rfl ⟨Nat.le_of_ble_eq_true rfl, Nat.le_of_ble_eq_true rfl⟩ ⟨Nat.zero_le _, Nat.zero_le _⟩ ⟨by decide +kernel, by decide +kernel, by decide +kernel⟩ rfl [12, 13, 14, 15, 16, 22, 23, 24, 25, 26] rfl rfl (by decide) rfl (Nat.le_of_ble_eq_true rfl) dX1_remember_15 (ws' := wHi T ad (v.1, updS v.2 2 u) ++ wSt T a2 w2 h2 k2 d2 u) rfl ?_
  refine g_aload_n hX dX1_remember_18 rfl 1 rfl ?_
  refine g_aload_n hX dX1_remember_19 rfl 1 rfl ?_
  refine g_get hX 1 h_X1_remember_X1 0 rfl rfl 1 (by decide) k_X1_remember_0 rfl (v := .int 2) (by show some (Value.int (v.1 0)) = _; rw [hn]) dX1_remember_20 ?_
  refine g_iconst hX (v := 1) dX1_remember_23 (by decide) ?_
  refine g_iadd hX dX1_remember_24 ?_
  rw [show (2 + 1 : Int32) = 3 from by decide]
  refine g_iconst hX (v := 4) dX1_remember_25 (by decide) ?_
  refine g_irem hX dX1_remember_26 (by decide) ?_
  rw [show (3 - 3 / 4 * 4 : Int32) = 3 from by decide]
  refine g_put hX 1 h_X1_remember_X1 0 rfl rfl 1 (by decide) tyX1 tyX1_ok nmX1 k_X1_remember_0 rfl rfl rfl rfl rfl (Nat.le_of_ble_eq_true rfl) dX1_remember_27 (ws' := wHi T ad (upd v.1 0 3, updS v.2 2 u) ++ wSt T a2 w2 h2 k2 d2 u) rfl ?_
  refine g_aload_n hX dX1_remember_30 rfl 1 rfl ?_
  refine g_aload_n hX dX1_remember_31 rfl 1 rfl ?_
  refine g_get hX 1 h_X1_remember_X1 0 rfl rfl 2 (by decide) k_X1_remember_1 rfl (v := .int (v.1 1)) rfl dX1_remember_32 ?_
  refine g_iconst hX (v := 1) dX1_remember_35 (by decide) ?_
  refine g_iadd hX dX1_remember_36 ?_
  refine g_iconst hX (v := 4) dX1_remember_37 (by decide) ?_
  refine g_mmin hX k_X1_remember_2 k_X1_remember_3 k_X1_remember_4 k_X1_remember_5 (Nat.le_of_ble_eq_true rfl) (Nat.le_of_ble_eq_true rfl) (Nat.zero_le _) (Nat.zero_le _) dX1_remember_38 ?_
  refine g_put hX 1 h_X1_remember_X1 0 rfl rfl 2 (by decide) tyX1 tyX1_ok nmX1 k_X1_remember_1 rfl rfl rfl rfl rfl (Nat.le_of_ble_eq_true rfl) dX1_remember_41 (ws' := wHi T ad (upd (upd v.1 0 3) 1 (if 4 < ((v.1 1) + 1) then 4 else ((v.1 1) + 1)), updS v.2 2 u) ++ wSt T a2 w2 h2 k2 d2 u) rfl ?_
  have e9 : F_X1_remember_2 v u = (upd (upd v.1 0 3) 1 (if 4 < ((v.1 1) + 1) then 4 else ((v.1 1) + 1)), updS v.2 2 u) := by simp only [F_X1_remember_2, if_true, if_false]
  rw [e9]
  exact g_vret hX dX1_remember_44 rfl
/-! remember, next = 3 -/
def F_X1_remember_3 (v : HV) (u : SV) : HV :=
  (upd (upd v.1 0 0) 1 (if 4 < ((v.1 1) + 1) then 4 else ((v.1 1) + 1)), updS v.2 3 u)
set_option maxHeartbeats 4000000 in
set_option maxRecDepth 100000 in
theorem c_X1_remember_3 (l : Launch) (T : TT) (b0 : Nat) (ad : Nat → Nat) (a2 w2 h2 k2 d2 : Nat) (v : HV) (u : SV) (hb : u.1 2 = 0 ∨ u.1 2 = 1) (hn : v.1 0 = 3) : ConV l T b0 yX1_remember wsX1_remember rmX1_remember [.ref (ad 18), .ref a2] (wHi T ad v ++ wSt T a2 w2 h2 k2 d2 u) (wHi T ad (F_X1_remember_3 v u) ++ wSt T a2 w2 h2 k2 d2 u) := by
  refine conV_of (cc := cX1_remember) (maxL := 3) (ret := none) (lv0 := [(0, .ref (ad 18)), (1, .ref a2)]) (by decide +kernel) rfl (Nat.le_of_ble_eq_true rfl) rfl (fun X hX => ?_)
  refine g_aload_n hX dX1_remember_0 rfl 0 rfl ?_
  refine g_aload_n hX dX1_remember_1 rfl 0 rfl ?_
  refine g_get hX 1 h_X1_remember_X1 0 rfl rfl 1 (by decide) k_X1_remember_0 rfl (v := .int 3) (by show some (Value.int (v.1 0)) = _; rw [hn]) dX1_remember_2 ?_
  refine g_cV_R hX (n := 1) (As := [.int 3]) (wc := wHh T ad v.1) (w1 := wHh T ad v.1) (ra := ad 35) (st := []) 0 rfl rfl (c_X1_stateAt (xL X) T (xB X) ad v.1 3 3 (by decide) (by omega)) gX1_remember_X1_stateAt rfl rfl rfl ⟨Nat.le_of_ble_eq_true rfl, Nat.le_of_ble_eq_true rfl⟩ ⟨Nat.zero_le _, Nat.zero_le _⟩ ⟨by decide +kernel, by decide +kernel, by decide +kernel⟩ rfl [0, 1] rfl rfl (by decide) rfl (Nat.le_of_ble_eq_true rfl) dX1_remember_5 (ws' := wHi T ad v ++ wSt T a2 w2 h2 k2 d2 u) rfl ?_
  refine g_astore_n hX (lv' := [(2, .ref (ad 35)), (0, .ref (ad 18)), (1, .ref a2)]) dX1_remember_8 rfl (by decide) rfl ?_
  refine g_aload_n hX dX1_remember_9 rfl 0 rfl ?_
  refine g_ifnull hX dX1_remember_10 ?_
  refine g_aload_n hX dX1_remember_13 rfl 0 rfl ?_
  refine g_aload_n hX dX1_remember_14 rfl 2 rfl ?_
  refine g_cVN_V hX (n := 1) (As := [.ref a2]) (wc := wSt T (ad 35) (ad 36) (ad 37) (ad 38) (ad 39) (v.2 3) ++ wSt T a2 w2 h2 k2 d2 u) (w1 := wSt T (ad 35) (ad 36) (ad 37) (ad 38) (ad 39) u ++ wSt T a2 w2 h2 k2 d2 u) (st := []) 17 rfl rfl (c_X2_copyFrom (xL X) T (xB X) (ad 35) (ad 36) (ad 37) (ad 38) (ad 39) a2 w2 h2 k2 d2 (v.2 3) u hb) ggX1_remember_X2_copyFrom 25 rfl k_X1_remember_13 k_X1_remember_12 k_X1_remember_14 rfl rfl rfl ⟨Nat.le_of_ble_eq_true rfl, Nat.le_of_ble_eq_true rfl⟩ ⟨Nat.zero_le _, Nat.zero_le _⟩ ⟨by decide +kernel, by decide +kernel, by decide +kernel⟩ rfl [17, 18, 19, 20, 21, 22, 23, 24, 25, 26] rfl rfl (by decide) rfl (Nat.le_of_ble_eq_true rfl) dX1_remember_15 (ws' := wHi T ad (v.1, updS v.2 3 u) ++ wSt T a2 w2 h2 k2 d2 u) rfl ?_
  refine g_aload_n hX dX1_remember_18 rfl 1 rfl ?_
  refine g_aload_n hX dX1_remember_19 rfl 1 rfl ?_
  refine g_get hX 1 h_X1_remember_X1 0 rfl rfl 1 (by decide) k_X1_remember_0 rfl (v := .int 3) (by show some (Value.int (v.1 0)) = _; rw [hn]) dX1_remember_20 ?_
  refine g_iconst hX (v := 1) dX1_remember_23 (by decide) ?_
  refine g_iadd hX dX1_remember_24 ?_
  rw [show (3 + 1 : Int32) = 4 from by decide]
  refine g_iconst hX (v := 4) dX1_remember_25 (by decide) ?_
  refine g_irem hX dX1_remember_26 (by decide) ?_
  rw [show (4 - 4 / 4 * 4 : Int32) = 0 from by decide]
  refine g_put hX 1 h_X1_remember_X1 0 rfl rfl 1 (by decide) tyX1 tyX1_ok nmX1 k_X1_remember_0 rfl rfl rfl rfl rfl (Nat.le_of_ble_eq_true rfl) dX1_remember_27 (ws' := wHi T ad (upd v.1 0 0, updS v.2 3 u) ++ wSt T a2 w2 h2 k2 d2 u) rfl ?_
  refine g_aload_n hX dX1_remember_30 rfl 1 rfl ?_
  refine g_aload_n hX dX1_remember_31 rfl 1 rfl ?_
  refine g_get hX 1 h_X1_remember_X1 0 rfl rfl 2 (by decide) k_X1_remember_1 rfl (v := .int (v.1 1)) rfl dX1_remember_32 ?_
  refine g_iconst hX (v := 1) dX1_remember_35 (by decide) ?_
  refine g_iadd hX dX1_remember_36 ?_
  refine g_iconst hX (v := 4) dX1_remember_37 (by decide) ?_
  refine g_mmin hX k_X1_remember_2 k_X1_remember_3 k_X1_remember_4 k_X1_remember_5 (Nat.le_of_ble_eq_true rfl) (Nat.le_of_ble_eq_true rfl) (Nat.zero_le _) (Nat.zero_le _) dX1_remember_38 ?_
  refine g_put hX 1 h_X1_remember_X1 0 rfl rfl 2 (by decide) tyX1 tyX1_ok nmX1 k_X1_remember_1 rfl rfl rfl rfl rfl (Nat.le_of_ble_eq_true rfl) dX1_remember_41 (ws' := wHi T ad (upd (upd v.1 0 0) 1 (if 4 < ((v.1 1) + 1) then 4 else ((v.1 1) + 1)), updS v.2 3 u) ++ wSt T a2 w2 h2 k2 d2 u) rfl ?_
  have e9 : F_X1_remember_3 v u = (upd (upd v.1 0 0) 1 (if 4 < ((v.1 1) + 1) then 4 else ((v.1 1) + 1)), updS v.2 3 u) := by simp only [F_X1_remember_3, if_true, if_false]
  rw [e9]
  exact g_vret hX dX1_remember_44 rfl
def F_X1_remember (v : HV) (u : SV) : HV := (upd (upd v.1 0 (v.1 0 + 1 - (v.1 0 + 1) / 4 * 4)) 1 (if 4 < v.1 1 + 1 then 4 else v.1 1 + 1), updS v.2 (v.1 0).toNatClampNeg u)
theorem c_X1_remember (l : Launch) (T : TT) (b0 : Nat) (ad : Nat → Nat) (a2 w2 h2 k2 d2 : Nat) (v : HV) (u : SV) (hb : u.1 2 = 0 ∨ u.1 2 = 1) (hn : ∃ j : Nat, j < 4 ∧ v.1 0 = nI j) : ConV l T b0 yX1_remember wsX1_remember rmX1_remember [.ref (ad 18), .ref a2] (wHi T ad v ++ wSt T a2 w2 h2 k2 d2 u) (wHi T ad (F_X1_remember v u) ++ wSt T a2 w2 h2 k2 d2 u) := by
  obtain ⟨j, hj, hn⟩ := hn
  have h4 : j = 0 ∨ j = 1 ∨ j = 2 ∨ j = 3 := by omega
  rcases h4 with z | z | z | z <;> subst z
  · have e : F_X1_remember v u = F_X1_remember_0 v u := by unfold F_X1_remember F_X1_remember_0; rw [hn]; rfl
    rw [e]
    exact c_X1_remember_0 l T b0 ad a2 w2 h2 k2 d2 v u hb hn
  · have e : F_X1_remember v u = F_X1_remember_1 v u := by unfold F_X1_remember F_X1_remember_1; rw [hn]; rfl
    rw [e]
    exact c_X1_remember_1 l T b0 ad a2 w2 h2 k2 d2 v u hb hn
  · have e : F_X1_remember v u = F_X1_remember_2 v u := by unfold F_X1_remember F_X1_remember_2; rw [hn]; rfl
    rw [e]
    exact c_X1_remember_2 l T b0 ad a2 w2 h2 k2 d2 v u hb hn
  · have e : F_X1_remember v u = F_X1_remember_3 v u := by unfold F_X1_remember F_X1_remember_3; rw [hn]; rfl
    rw [e]
    exact c_X1_remember_3 l T b0 ad a2 w2 h2 k2 d2 v u hb hn
end
section
/-! Wide worlds: a call on the first cells; cells in another order -/
theorem zva_P_mem {D : va_G} {cl : List vw_C} {ws : va_W} {H : Heap} : va_P D cl ws H ↔ ∀ q ∈ ws, va_at D cl q H :=
  ⟨fun h q hq => by obtain ⟨k, hk⟩ := List.getElem?_of_mem hq; exact h k q hk, fun h k q hk => h q (List.mem_of_getElem? hk)⟩
theorem zva_P_perm {D : va_G} {cl : List vw_C} {ws ws' : va_W} {H : Heap} (h : List.Perm ws ws') (hP : va_P D cl ws H) : va_P D cl ws' H := zva_P_mem.mpr (fun q hq => zva_P_mem.mp hP q (h.mem_iff.mpr hq))
theorem zva_D_nodup {A : Nat → Prop} {ws : va_W} : va_D A ws ↔ (ws.map (fun q => q.1)).Nodup ∧ ∀ q ∈ ws, A q.1 := by
  constructor
  · intro h
    refine ⟨?_, fun q hq => by obtain ⟨k, hk⟩ := List.getElem?_of_mem hq; exact h.2 k q hk⟩
    refine List.pairwise_iff_getElem.mpr (fun i j hi hj hij e => ?_)
    rw [List.length_map] at hi hj
    rw [List.getElem_map, List.getElem_map] at e
    have := h.1 i j _ _ (List.getElem?_eq_getElem hi) (List.getElem?_eq_getElem hj) e
    omega
  · intro h
    refine ⟨fun i j p q hi hj e => ?_, fun k q hk => h.2 q (List.mem_of_getElem? hk)⟩
    have hn := List.pairwise_iff_getElem.mp h.1
    have li := (List.getElem?_eq_some_iff.mp hi).1
    have lj := (List.getElem?_eq_some_iff.mp hj).1
    rcases Nat.lt_trichotomy i j with z | z | z
    · refine absurd ?_ (hn i j (by rw [List.length_map]; exact li) (by rw [List.length_map]; exact lj) z)
      rw [List.getElem_map, List.getElem_map, (List.getElem?_eq_some_iff.mp hi).2, (List.getElem?_eq_some_iff.mp hj).2]
      exact e
    · exact z
    · refine absurd ?_ (hn j i (by rw [List.length_map]; exact lj) (by rw [List.length_map]; exact li) z)
      rw [List.getElem_map, List.getElem_map, (List.getElem?_eq_some_iff.mp hi).2, (List.getElem?_eq_some_iff.mp hj).2]
      exact e.symm
theorem zva_D_perm {A : Nat → Prop} {ws ws' : va_W} (h : List.Perm ws ws') (hD : va_D A ws) : va_D A ws' := by
  rw [zva_D_nodup] at hD ⊢
  exact ⟨(h.map _).nodup_iff.mp hD.1, fun q hq => hD.2 q (h.mem_iff.mpr hq)⟩
theorem zva_D_left {A : Nat → Prop} {a b : va_W} (hD : va_D A (a ++ b)) : va_D A a := by
  rw [zva_D_nodup] at hD ⊢
  rw [List.map_append, List.nodup_append] at hD
  exact ⟨hD.1.1, fun q hq => hD.2 q (List.mem_append_left _ hq)⟩
theorem zva_P_left {D : va_G} {cl : List vw_C} {a b : va_W} {H : Heap} (h : va_P D cl (a ++ b) H) : va_P D cl a H := zva_P_mem.mpr (fun q hq => zva_P_mem.mp h q (List.mem_append_left _ hq))
theorem zva_backP {A0 : Nat → Prop} {D : va_G} {cl : List vw_C} {wc rest w1 : va_W} {H H1 : Heap} (hP : va_P D cl (wc ++ rest) H) (hD : va_D A0 (wc ++ rest)) (hA : w1.map (fun q => q.1) = wc.map (fun q => q.1))
    (hk : ∀ q : Nat, q < H.size → ¬ va_A wc H.size q → H1[q]? = H[q]?) (hP1 : va_P D cl w1 H1) : va_P D cl (w1 ++ rest) H1 ∧ va_D A0 (w1 ++ rest) := by
  refine ⟨hP1.app (zva_P_mem.mpr (fun q hq => ?_)), va_D_congr (by rw [List.map_append, List.map_append, hA]) hD⟩
  have h1 := zva_P_mem.mp hP q (List.mem_append_right _ hq)
  refine h1.kept (hk q.1 h1.lt (fun h => ?_))
  rcases h with ⟨k, e, h⟩ | h
  · rw [zva_D_nodup, List.map_append, List.nodup_append] at hD
    exact hD.1.2.2 q.1 (List.mem_map.mpr ⟨(q.1, e), List.mem_of_getElem? h, rfl⟩) q.1 (List.mem_map.mpr ⟨q, hq, rfl⟩) rfl
  · have := h1.lt
    omega
theorem zva_freeP {A0 : Nat → Prop} {wc rest : va_W} {H0 H : Heap} {locs : List Loc} (hD : va_D A0 (wc ++ rest)) (hS : va_S A0 H0 H locs) (hA : ∀ q, H0.size ≤ q → A0 q) : ∀ q, va_A wc H.size q → A0 q := by
  intro q h
  rcases h with ⟨k, e, h⟩ | h
  · exact (zva_D_nodup.mp hD).2 (q, e) (List.mem_append_left _ (List.mem_of_getElem? h))
  · exact hA q (Nat.le_trans hS.1 h)
section GP
variable {T : TT} {X : CX} {own : String} {nL : Nat} {Ts : List Cond} {cc : ByteArray} {ret : Option FieldType} {R : Room} {Q : State → Prop} {cells slots : Nat} {ws w1 : va_W} {lv : List (Nat × Value)} {pc : Nat} {st : List Value} {x rv : Int32}
theorem g_perm {ws' : va_W} (h : List.Perm ws ws') (k : G T X Q cells slots ws' lv pc st) : G T X Q cells slots ws lv pc st :=
  fun H locs ls hP hD hS hl => k H locs ls (zva_P_perm h hP) (zva_D_perm h hD) hS hl
theorem g_pV_I (hX : Fit T X own nL Ts cc ret R) {y : MethodName} {bytes : ByteArray} {maxL n index : Nat} {ret' : Option FieldType} {wds wds' : List Cond} {rm : Room} {As : List Value} {wc rest ws' : va_W} {stk : List Value} {b ci : Nat} {fs : List Value} {U : u_T} {N : Nat} (q0 : Nat) (hrec : ws[q0]? = some (b, .inr (ci, fs))) (hc : vwCl[ci]? = some (y.cls, U, N)) (hM : ConI (xL X) T (xB X) y wds rm (.ref b :: As) wc rv w1) (hG : GoodIn Ts (wsV own index y.cls y wds)) (hw : wds = Cond.code y bytes maxL ret' :: wds') (hrc : rm.cells = 0) (hrs : rm.slots = 0) (hR : rm.frames + 1 ≤ R.frames ∧ 8 + (maxL + 11) + rm.locals ≤ R.locals) (hcs : cells ≤ R.cells ∧ slots ≤ R.slots) (hd : y.cls ≠ "java/lang/invoke/MethodHandle" ∧ y.cls ≠ "java/lang/invoke/VarHandle" ∧ (parseMethodDescriptor y.desc).map (fun d => d.parameters.length) = some n) (hlen : As.length = n) (hws0 : ws = wc ++ rest) (hA : w1.map (fun q => q.1) = wc.map (fun q => q.1)) (hstk : stk = As.reverse ++ .ref b :: st) (hcat : (st.map fun v => v.category).sum ≤ 8) (hdg : decode cc pc = .ok (.invokevirtual index, 3)) (hws : w1 ++ rest = ws') (k : G T X Q cells slots ws' lv (pc + 3) (.int rv :: st)) : G T X Q cells slots ws lv pc stk := by
  subst hws
  subst hws0
  intro H locs ls hP hD hS hl
  have hPc := zva_P_left hP
  have hDc := zva_D_left hD
  have hFc := zva_freeP hD hS hX.2.2.2.2.2.2.1
  have hR' : rm.frames + 1 ≤ (xR X).frames ∧ 8 + (maxL + 11) + rm.locals ≤ (xR X).locals := by rw [hX.2.2.2.2.2.2.2.2.2.2.2]; exact hR
  have hcs' : cells + 0 ≤ (xR X).cells ∧ slots + 0 ≤ (xR X).slots := by rw [hX.2.2.2.2.2.2.2.2.2.2.2]; exact hcs
  refine va_calli (va_runV (As := As) (rest := st) ⟨hX.1, hX.2.1, rfl, hX.2.2.2.1, hX.2.2.2.2.1⟩ (hM H.size (fit_low hX hS)) (cwV n hX.2.2.2.2.1 hG hw hrc hrs ⟨rfl, hd⟩ hR') ⟨PreC_blind, va_recv hX.2.2.2.2.2.1 hP hc hrec, fun U hU hW => ⟨rfl, by rw [hU], by rw [hU]; exact hPc, va_K.moved hW.alike hX.2.2.2.2.2.1, hDc.weaken (fun _ q _ h => hX.2.2.2.2.2.2.2.2.2.1 _ h), hX.2.2.2.2.2.2.2.2.1.moved hS hX.2.2.2.2.2.2.2.2.2.1 hW hU⟩⟩ rfl hlen hl.1 hstk (lv_room hcat) hdg hcs') hS (fun q _ h => hFc q h) hFc (fun r u t H1 locs1 ht hvm hw2 hB hz1 hk1 hS1 => ?_)
  obtain ⟨rfl, rfl⟩ := hw2
  obtain ⟨hP1, hD1⟩ := hB
  rw [ht] at hP1
  obtain ⟨hP2, hD2⟩ := zva_backP hP hD hA hk1 hP1
  exact k H1 locs1 ls hP2 hD2 hS1 hl
theorem g_pV_V (hX : Fit T X own nL Ts cc ret R) {y : MethodName} {bytes : ByteArray} {maxL n index : Nat} {ret' : Option FieldType} {wds wds' : List Cond} {rm : Room} {As : List Value} {wc rest ws' : va_W} {stk : List Value} {b ci : Nat} {fs : List Value} {U : u_T} {N : Nat} (q0 : Nat) (hrec : ws[q0]? = some (b, .inr (ci, fs))) (hc : vwCl[ci]? = some (y.cls, U, N)) (hM : ConV (xL X) T (xB X) y wds rm (.ref b :: As) wc w1) (hG : GoodIn Ts (wsV own index y.cls y wds)) (hw : wds = Cond.code y bytes maxL ret' :: wds') (hrc : rm.cells = 0) (hrs : rm.slots = 0) (hR : rm.frames + 1 ≤ R.frames ∧ 8 + (maxL + 11) + rm.locals ≤ R.locals) (hcs : cells ≤ R.cells ∧ slots ≤ R.slots) (hd : y.cls ≠ "java/lang/invoke/MethodHandle" ∧ y.cls ≠ "java/lang/invoke/VarHandle" ∧ (parseMethodDescriptor y.desc).map (fun d => d.parameters.length) = some n) (hlen : As.length = n) (hws0 : ws = wc ++ rest) (hA : w1.map (fun q => q.1) = wc.map (fun q => q.1)) (hstk : stk = As.reverse ++ .ref b :: st) (hcat : (st.map fun v => v.category).sum ≤ 8) (hdg : decode cc pc = .ok (.invokevirtual index, 3)) (hws : w1 ++ rest = ws') (k : G T X Q cells slots ws' lv (pc + 3) st) : G T X Q cells slots ws lv pc stk := by
  subst hws
  subst hws0
  intro H locs ls hP hD hS hl
  have hPc := zva_P_left hP
  have hDc := zva_D_left hD
  have hFc := zva_freeP hD hS hX.2.2.2.2.2.2.1
  have hR' : rm.frames + 1 ≤ (xR X).frames ∧ 8 + (maxL + 11) + rm.locals ≤ (xR X).locals := by rw [hX.2.2.2.2.2.2.2.2.2.2.2]; exact hR
  have hcs' : cells + 0 ≤ (xR X).cells ∧ slots + 0 ≤ (xR X).slots := by rw [hX.2.2.2.2.2.2.2.2.2.2.2]; exact hcs
  refine va_callv (va_runV (As := As) (rest := st) ⟨hX.1, hX.2.1, rfl, hX.2.2.2.1, hX.2.2.2.2.1⟩ (hM H.size (fit_low hX hS)) (cwV n hX.2.2.2.2.1 hG hw hrc hrs ⟨rfl, hd⟩ hR') ⟨PreC_blind, va_recv hX.2.2.2.2.2.1 hP hc hrec, fun U hU hW => ⟨rfl, by rw [hU], by rw [hU]; exact hPc, va_K.moved hW.alike hX.2.2.2.2.2.1, hDc.weaken (fun _ q _ h => hX.2.2.2.2.2.2.2.2.2.1 _ h), hX.2.2.2.2.2.2.2.2.1.moved hS hX.2.2.2.2.2.2.2.2.2.1 hW hU⟩⟩ rfl hlen hl.1 hstk (lv_room hcat) hdg hcs') hS (fun q _ h => hFc q h) hFc (fun u t H1 locs1 ht hvm hw2 hB hz1 hk1 hS1 => ?_)
  subst hw2
  obtain ⟨hP1, hD1⟩ := hB
  rw [ht] at hP1
  obtain ⟨hP2, hD2⟩ := zva_backP hP hD hA hk1 hP1
  exact k H1 locs1 ls hP2 hD2 hS1 hl
theorem g_pVN_I (hX : Fit T X own nL Ts cc ret R) {y : MethodName} {bytes : ByteArray} {maxL n index : Nat} {ret' : Option FieldType} {wds wds' : List Cond} {rm : Room} {As : List Value} {wc rest ws' : va_W} {stk : List Value} {b ci : Nat} {fs : List Value} {U : u_T} {N : Nat} (q0 : Nat) (hrec : ws[q0]? = some (b, .inr (ci, fs))) (hc : vwCl[ci]? = some (y.cls, U, N)) (hM : ConI (xL X) T (xB X) y wds rm (.ref b :: As) wc rv w1) (hG : GoodIn Ts wds) (nk : Nat) {host : String} (hlink : nws[nk]? = some (Cond.methodLinkNest own index y host)) (hini : Cond.initialized y.cls ∈ Ts) (hinst : Cond.instanceMethod y ∈ Ts) (hsel : Cond.selects y.cls y y ∈ Ts) (hw : wds = Cond.code y bytes maxL ret' :: wds') (hrc : rm.cells = 0) (hrs : rm.slots = 0) (hR : rm.frames + 1 ≤ R.frames ∧ 8 + (maxL + 11) + rm.locals ≤ R.locals) (hcs : cells ≤ R.cells ∧ slots ≤ R.slots) (hd : y.cls ≠ "java/lang/invoke/MethodHandle" ∧ y.cls ≠ "java/lang/invoke/VarHandle" ∧ (parseMethodDescriptor y.desc).map (fun d => d.parameters.length) = some n) (hlen : As.length = n) (hws0 : ws = wc ++ rest) (hA : w1.map (fun q => q.1) = wc.map (fun q => q.1)) (hstk : stk = As.reverse ++ .ref b :: st) (hcat : (st.map fun v => v.category).sum ≤ 8) (hdg : decode cc pc = .ok (.invokevirtual index, 3)) (hws : w1 ++ rest = ws') (k : G T X Q cells slots ws' lv (pc + 3) (.int rv :: st)) : G T X Q cells slots ws lv pc stk := by
  subst hws
  subst hws0
  intro H locs ls hP hD hS hl
  have hPc := zva_P_left hP
  have hDc := zva_D_left hD
  have hFc := zva_freeP hD hS hX.2.2.2.2.2.2.1
  have hR' : rm.frames + 1 ≤ (xR X).frames ∧ 8 + (maxL + 11) + rm.locals ≤ (xR X).locals := by rw [hX.2.2.2.2.2.2.2.2.2.2.2]; exact hR
  have hcs' : cells + 0 ≤ (xR X).cells ∧ slots + 0 ≤ (xR X).slots := by rw [hX.2.2.2.2.2.2.2.2.2.2.2]; exact hcs
  refine va_calli (va_runVN (As := As) (rest := st) ⟨hX.1, hX.2.1, rfl, hX.2.2.2.1, hX.2.2.2.2.1⟩ (hM H.size (fit_low hX hS)) ⟨va_cnB n hX.2.2.2.2.1 hG hw hrc hrs (hX.2.2.2.2.2.2.2.2.1.1 _ (List.mem_of_getElem? hlink)) (hX.2.2.2.2.1 _ hini) hd hR', hX.2.2.2.2.1 _ hinst, hX.2.2.2.2.1 _ hsel⟩ ⟨PreC_blind, va_recv hX.2.2.2.2.2.1 hP hc hrec, fun U hU hW => ⟨rfl, by rw [hU], by rw [hU]; exact hPc, va_K.moved hW.alike hX.2.2.2.2.2.1, hDc.weaken (fun _ q _ h => hX.2.2.2.2.2.2.2.2.2.1 _ h), hX.2.2.2.2.2.2.2.2.1.moved hS hX.2.2.2.2.2.2.2.2.2.1 hW hU⟩⟩ rfl hlen hl.1 hstk (lv_room hcat) hdg hcs') hS (fun q _ h => hFc q h) hFc (fun r u t H1 locs1 ht hvm hw2 hB hz1 hk1 hS1 => ?_)
  obtain ⟨rfl, rfl⟩ := hw2
  obtain ⟨hP1, hD1⟩ := hB
  rw [ht] at hP1
  obtain ⟨hP2, hD2⟩ := zva_backP hP hD hA hk1 hP1
  exact k H1 locs1 ls hP2 hD2 hS1 hl
theorem g_pVN_V (hX : Fit T X own nL Ts cc ret R) {y : MethodName} {bytes : ByteArray} {maxL n index : Nat} {ret' : Option FieldType} {wds wds' : List Cond} {rm : Room} {As : List Value} {wc rest ws' : va_W} {stk : List Value} {b ci : Nat} {fs : List Value} {U : u_T} {N : Nat} (q0 : Nat) (hrec : ws[q0]? = some (b, .inr (ci, fs))) (hc : vwCl[ci]? = some (y.cls, U, N)) (hM : ConV (xL X) T (xB X) y wds rm (.ref b :: As) wc w1) (hG : GoodIn Ts wds) (nk : Nat) {host : String} (hlink : nws[nk]? = some (Cond.methodLinkNest own index y host)) (hini : Cond.initialized y.cls ∈ Ts) (hinst : Cond.instanceMethod y ∈ Ts) (hsel : Cond.selects y.cls y y ∈ Ts) (hw : wds = Cond.code y bytes maxL ret' :: wds') (hrc : rm.cells = 0) (hrs : rm.slots = 0) (hR : rm.frames + 1 ≤ R.frames ∧ 8 + (maxL + 11) + rm.locals ≤ R.locals) (hcs : cells ≤ R.cells ∧ slots ≤ R.slots) (hd : y.cls ≠ "java/lang/invoke/MethodHandle" ∧ y.cls ≠ "java/lang/invoke/VarHandle" ∧ (parseMethodDescriptor y.desc).map (fun d => d.parameters.length) = some n) (hlen : As.length = n) (hws0 : ws = wc ++ rest) (hA : w1.map (fun q => q.1) = wc.map (fun q => q.1)) (hstk : stk = As.reverse ++ .ref b :: st) (hcat : (st.map fun v => v.category).sum ≤ 8) (hdg : decode cc pc = .ok (.invokevirtual index, 3)) (hws : w1 ++ rest = ws') (k : G T X Q cells slots ws' lv (pc + 3) st) : G T X Q cells slots ws lv pc stk := by
  subst hws
  subst hws0
  intro H locs ls hP hD hS hl
  have hPc := zva_P_left hP
  have hDc := zva_D_left hD
  have hFc := zva_freeP hD hS hX.2.2.2.2.2.2.1
  have hR' : rm.frames + 1 ≤ (xR X).frames ∧ 8 + (maxL + 11) + rm.locals ≤ (xR X).locals := by rw [hX.2.2.2.2.2.2.2.2.2.2.2]; exact hR
  have hcs' : cells + 0 ≤ (xR X).cells ∧ slots + 0 ≤ (xR X).slots := by rw [hX.2.2.2.2.2.2.2.2.2.2.2]; exact hcs
  refine va_callv (va_runVN (As := As) (rest := st) ⟨hX.1, hX.2.1, rfl, hX.2.2.2.1, hX.2.2.2.2.1⟩ (hM H.size (fit_low hX hS)) ⟨va_cnB n hX.2.2.2.2.1 hG hw hrc hrs (hX.2.2.2.2.2.2.2.2.1.1 _ (List.mem_of_getElem? hlink)) (hX.2.2.2.2.1 _ hini) hd hR', hX.2.2.2.2.1 _ hinst, hX.2.2.2.2.1 _ hsel⟩ ⟨PreC_blind, va_recv hX.2.2.2.2.2.1 hP hc hrec, fun U hU hW => ⟨rfl, by rw [hU], by rw [hU]; exact hPc, va_K.moved hW.alike hX.2.2.2.2.2.1, hDc.weaken (fun _ q _ h => hX.2.2.2.2.2.2.2.2.2.1 _ h), hX.2.2.2.2.2.2.2.2.1.moved hS hX.2.2.2.2.2.2.2.2.2.1 hW hU⟩⟩ rfl hlen hl.1 hstk (lv_room hcat) hdg hcs') hS (fun q _ h => hFc q h) hFc (fun u t H1 locs1 ht hvm hw2 hB hz1 hk1 hS1 => ?_)
  subst hw2
  obtain ⟨hP1, hD1⟩ := hB
  rw [ht] at hP1
  obtain ⟨hP2, hD2⟩ := zva_backP hP hD hA hk1 hP1
  exact k H1 locs1 ls hP2 hD2 hS1 hl
end GP
theorem pm (s : Nat → va_W) (l1 l2 : List Nat) (h : l1.isPerm l2 = true) : List.Perm ((l1.map s).flatten) ((l2.map s).flatten) := ((List.isPerm_iff.mp h).map s).flatten
theorem pm_21 (a b c d e f g : va_W) : List.Perm (a ++ b ++ c ++ d ++ e ++ f ++ g) ((c ++ b) ++ (a ++ d ++ e ++ f ++ g)) := by
  have h := pm (fun i => match i with | 0 => a | 1 => b | 2 => c | 3 => d | 4 => e | 5 => f | _ => g) [0, 1, 2, 3, 4, 5, 6] [2, 1, 0, 3, 4, 5, 6] (by decide)
  simpa using h
theorem pm_12 (a b c d e f g : va_W) : List.Perm (a ++ b ++ c ++ d ++ e ++ f ++ g) ((b ++ c) ++ (a ++ d ++ e ++ f ++ g)) := by
  have h := pm (fun i => match i with | 0 => a | 1 => b | 2 => c | 3 => d | 4 => e | 5 => f | _ => g) [0, 1, 2, 3, 4, 5, 6] [1, 2, 0, 3, 4, 5, 6] (by decide)
  simpa using h
theorem pm_31 (a b c d e f g : va_W) : List.Perm (a ++ b ++ c ++ d ++ e ++ f ++ g) ((d ++ b) ++ (a ++ c ++ e ++ f ++ g)) := by
  have h := pm (fun i => match i with | 0 => a | 1 => b | 2 => c | 3 => d | 4 => e | 5 => f | _ => g) [0, 1, 2, 3, 4, 5, 6] [3, 1, 0, 2, 4, 5, 6] (by decide)
  simpa using h
theorem pm_23 (a b c d e f g : va_W) : List.Perm (a ++ b ++ c ++ d ++ e ++ f ++ g) ((c ++ d) ++ (a ++ b ++ e ++ f ++ g)) := by
  have h := pm (fun i => match i with | 0 => a | 1 => b | 2 => c | 3 => d | 4 => e | 5 => f | _ => g) [0, 1, 2, 3, 4, 5, 6] [2, 3, 0, 1, 4, 5, 6] (by decide)
  simpa using h
theorem pm_51 (a b c d e f g : va_W) : List.Perm (a ++ b ++ c ++ d ++ e ++ f ++ g) ((f ++ b) ++ (a ++ c ++ d ++ e ++ g)) := by
  have h := pm (fun i => match i with | 0 => a | 1 => b | 2 => c | 3 => d | 4 => e | 5 => f | _ => g) [0, 1, 2, 3, 4, 5, 6] [5, 1, 0, 2, 3, 4, 6] (by decide)
  simpa using h
theorem pm_1 (a b c d e f g : va_W) : List.Perm (a ++ b ++ c ++ d ++ e ++ f ++ g) ((b) ++ (a ++ c ++ d ++ e ++ f ++ g)) := by
  have h := pm (fun i => match i with | 0 => a | 1 => b | 2 => c | 3 => d | 4 => e | 5 => f | _ => g) [0, 1, 2, 3, 4, 5, 6] [1, 0, 2, 3, 4, 5, 6] (by decide)
  simpa using h
theorem pm_2 (a b c d e f g : va_W) : List.Perm (a ++ b ++ c ++ d ++ e ++ f ++ g) ((c) ++ (a ++ b ++ d ++ e ++ f ++ g)) := by
  have h := pm (fun i => match i with | 0 => a | 1 => b | 2 => c | 3 => d | 4 => e | 5 => f | _ => g) [0, 1, 2, 3, 4, 5, 6] [2, 0, 1, 3, 4, 5, 6] (by decide)
  simpa using h
theorem pm_3 (a b c d e f g : va_W) : List.Perm (a ++ b ++ c ++ d ++ e ++ f ++ g) ((d) ++ (a ++ b ++ c ++ e ++ f ++ g)) := by
  have h := pm (fun i => match i with | 0 => a | 1 => b | 2 => c | 3 => d | 4 => e | 5 => f | _ => g) [0, 1, 2, 3, 4, 5, 6] [3, 0, 1, 2, 4, 5, 6] (by decide)
  simpa using h
theorem pm_4 (a b c d e f g : va_W) : List.Perm (a ++ b ++ c ++ d ++ e ++ f ++ g) ((e) ++ (a ++ b ++ c ++ d ++ f ++ g)) := by
  have h := pm (fun i => match i with | 0 => a | 1 => b | 2 => c | 3 => d | 4 => e | 5 => f | _ => g) [0, 1, 2, 3, 4, 5, 6] [4, 0, 1, 2, 3, 5, 6] (by decide)
  simpa using h
theorem pm_5 (a b c d e f g : va_W) : List.Perm (a ++ b ++ c ++ d ++ e ++ f ++ g) ((f) ++ (a ++ b ++ c ++ d ++ e ++ g)) := by
  have h := pm (fun i => match i with | 0 => a | 1 => b | 2 => c | 3 => d | 4 => e | 5 => f | _ => g) [0, 1, 2, 3, 4, 5, 6] [5, 0, 1, 2, 3, 4, 6] (by decide)
  simpa using h
theorem pm_6 (a b c d e f g : va_W) : List.Perm (a ++ b ++ c ++ d ++ e ++ f ++ g) ((g) ++ (a ++ b ++ c ++ d ++ e ++ f)) := by
  have h := pm (fun i => match i with | 0 => a | 1 => b | 2 => c | 3 => d | 4 => e | 5 => f | _ => g) [0, 1, 2, 3, 4, 5, 6] [6, 0, 1, 2, 3, 4, 5] (by decide)
  simpa using h
end
section
/-- the flag of a state is a flag -/
def sB (u : SV) : Prop := u.1 2 = 0 ∨ u.1 2 = 1
/-- what the winder's cells keep to, for its walks -/
def xWF (xv : XV) : Prop := sB xv.2.1 ∧ sB xv.2.2.1 ∧ sB xv.2.2.2.1 ∧ (∀ j : Nat, j < 4 → sB (xv.2.2.2.2.2.1.2 j)) ∧ ∃ j : Nat, j < 4 ∧ xv.2.2.2.2.2.1.1 0 = nI j
theorem xWF_tr {xv : XV} (h : xWF xv) {u : SV} (hu : sB u) : xWF (xv.1, xv.2.1, u, xv.2.2.2) := ⟨h.1, hu, h.2.2⟩
theorem sB_changeNumber {u : SV} {a b : Int32} (h : sB u) : sB (F_X2_changeNumber u a b).2 := by
  unfold F_X2_changeNumber
  repeat' split
  all_goals exact h
theorem sB_tieKnot {u : SV} (h : sB u) : sB (F_X2_tieKnot u).2 := by
  unfold F_X2_tieKnot
  repeat' split
  all_goals first
    | exact h
    | exact Or.inl rfl
theorem sB_changeCone {u : SV} {a : Int32} (h : sB u) : sB (F_X2_changeCone u a).2 := by
  unfold F_X2_changeCone
  repeat' split
  all_goals first
    | exact h
    | exact Or.inl rfl
    | exact Or.inr rfl
theorem sB_takePackageOff {u : SV} (h : sB u) : sB (F_X2_takePackageOff u).2 := by
  unfold F_X2_takePackageOff
  repeat' split
  all_goals first
    | exact h
    | exact Or.inl rfl
theorem sB_warm {u : SV} (h : sB u) : sB (F_X2_warmDiscs u) := h
theorem sB_turnOnce {u : SV} (h : sB u) : sB (F_X2_turnOnce u) := by
  unfold F_X2_turnOnce
  dsimp only
  repeat' split
  all_goals first
    | exact h
    | exact Or.inr rfl
theorem sB_turnOftenK {p1 : Int32} : ∀ (n : Nat) (u : SV) (j : Nat) (e : Int32), sB u → sB (K_X2_turnOften_31 n u p1 j e).2 := by
  intro n
  induction n with
  | zero => intro u j e h; exact h
  | succ n ih =>
    intro u j e h
    unfold K_X2_turnOften_31
    dsimp only
    repeat' split
    all_goals first
      | exact h
      | exact ih _ _ _ (sB_turnOnce h)
theorem sB_turnOften {u : SV} {a : Int32} (h : sB u) : sB (F_X2_turnOften u a).2 := by
  unfold F_X2_turnOften
  repeat' split
  all_goals first
    | exact h
    | exact sB_turnOftenK _ _ _ _ h
theorem sB_obey {u : SV} {a b : Int32} (h : sB u) : sB (F_X2_obey u a b).2 := by
  unfold F_X2_obey
  dsimp only
  repeat' split
  all_goals first
    | exact sB_turnOften h
    | exact sB_changeCone h
    | exact sB_tieKnot h
    | exact sB_changeNumber h
end
section
/-! X4_finishAct -/
def rmX4_finishAct : Room := { frames := 4, cells := 0, slots := 0, locals := 104 }
theorem k_X4_finishAct_0 : Cond.fieldLink RX4 32 RX4 (TX4 4).2.1 (TX4 4).2.2.1 ∈ wsX4_finishAct := List.mem_of_getElem? (i := 1) rfl
theorem h_X4_finishAct_X4 : ∀ w ∈ u_ws RX4 TX4 8, w ∈ wsX4_finishAct := fun w h => List.mem_cons_of_mem _ (List.mem_append_left _ (List.mem_append_left _ (List.mem_append_left _ (List.mem_append_right _ h))))
theorem k_X4_finishAct_1 : Cond.fieldLink RX4 12 RX4 (TX4 0).2.1 (TX4 0).2.2.1 ∈ wsX4_finishAct := List.mem_of_getElem? (i := 2) rfl
theorem k_X4_finishAct_4 : Cond.initialized RX1 ∈ wsX4_finishAct := List.mem_of_getElem? (i := 5) rfl
theorem k_X4_finishAct_3 : Cond.instanceMethod yX1_remember ∈ wsX4_finishAct := List.mem_of_getElem? (i := 4) rfl
theorem k_X4_finishAct_5 : Cond.selects RX1 yX1_remember yX1_remember ∈ wsX4_finishAct := List.mem_of_getElem? (i := 6) rfl
theorem k_X4_finishAct_2 : Cond.fieldLink RX4 16 RX4 (TX4 1).2.1 (TX4 1).2.2.1 ∈ wsX4_finishAct := List.mem_of_getElem? (i := 3) rfl
theorem k_X4_finishAct_19 : Cond.initialized RX2 ∈ wsX4_finishAct := List.mem_of_getElem? (i := 20) rfl
theorem k_X4_finishAct_18 : Cond.instanceMethod yX2_copyFrom ∈ wsX4_finishAct := List.mem_of_getElem? (i := 19) rfl
theorem k_X4_finishAct_20 : Cond.selects RX2 yX2_copyFrom yX2_copyFrom ∈ wsX4_finishAct := List.mem_of_getElem? (i := 21) rfl
def F_X4_finishAct (xv : XV) (p1 : Int32) : Int32 × XV :=
  (if p1 < 0 then (p1, xv) else (let z_12 := F_X1_remember xv.2.2.2.2.2.1 xv.2.1
  (p1, (xv.1, xv.2.2.1, xv.2.2.1, xv.2.2.2.1, xv.2.2.2.2.1, z_12, xv.2.2.2.2.2.2))))
set_option maxHeartbeats 4000000 in
set_option maxRecDepth 100000 in
theorem c_X4_finishAct (l : Launch) (T : TT) (b0 : Nat) (ad : Nat → Nat) (xv : XV) (p1 : Int32) (hx : xWF xv) : ConI l T b0 yX4_finishAct wsX4_finishAct rmX4_finishAct [.ref (ad 0), .int p1] (wXX T ad xv) ((F_X4_finishAct xv p1).1) (wXX T ad ((F_X4_finishAct xv p1).2)) := by
  refine conI_of (cc := cX4_finishAct) (maxL := 2) (ret := (some .int)) (lv0 := [(0, .ref (ad 0)), (1, .int p1)]) (by decide +kernel) rfl (Nat.le_of_ble_eq_true rfl) rfl (fun X hX => ?_)
  refine g_iload_n hX dX4_finishAct_0 rfl 1 rfl ?_
  refine g_if_lt hX 26 dX4_finishAct_1 (by decide) (fun c_1 => ?_) (fun c_1 => ?_)
  · skip
    refine g_iload_n hX dX4_finishAct_26 rfl 1 rfl ?_
    have e9 : F_X4_finishAct xv p1 = (p1, xv) := by simp only [F_X4_finishAct, eq_true c_1, if_true, if_false]
    rw [e9]
    exact g_iret hX dX4_finishAct_27 rfl rfl
  · skip
    refine g_aload_n hX dX4_finishAct_4 rfl 0 rfl ?_
    refine g_get hX 4 h_X4_finishAct_X4 0 rfl rfl 4 (by decide) k_X4_finishAct_0 rfl (v := .ref (ad 18)) rfl dX4_finishAct_5 ?_
    refine g_aload_n hX dX4_finishAct_8 rfl 0 rfl ?_
    refine g_get hX 4 h_X4_finishAct_X4 0 rfl rfl 0 (by decide) k_X4_finishAct_1 rfl (v := .ref (ad 1)) rfl dX4_finishAct_9 ?_
    obtain ⟨z_12, hz_12⟩ : ∃ z : HV, z = F_X1_remember xv.2.2.2.2.2.1 xv.2.1 := ⟨_, rfl⟩
    refine g_perm (pm_51 _ _ _ _ _ _ _) ?_
    refine g_pVN_V hX (n := 1) (As := [.ref (ad 1)]) (wc := wHi T ad xv.2.2.2.2.2.1 ++ wSt T (ad 1) (ad 2) (ad 3) (ad 4) (ad 5) xv.2.1) (w1 := wHi T ad z_12 ++ wSt T (ad 1) (ad 2) (ad 3) (ad 4) (ad 5) xv.2.1) (st := []) 0 rfl rfl (by rw [hz_12]; exact (c_X1_remember (xL X) T (xB X) ad (ad 1) (ad 2) (ad 3) (ad 4) (ad 5) xv.2.2.2.2.2.1 xv.2.1 hx.1 hx.2.2.2.2)) ggX4_finishAct_X1_remember 24 rfl k_X4_finishAct_4 k_X4_finishAct_3 k_X4_finishAct_5 rfl rfl rfl ⟨Nat.le_of_ble_eq_true rfl, Nat.le_of_ble_eq_true rfl⟩ ⟨Nat.zero_le _, Nat.zero_le _⟩ ⟨by decide +kernel, by decide +kernel, by decide +kernel⟩ rfl rfl rfl rfl (Nat.le_of_ble_eq_true rfl) dX4_finishAct_12 rfl ?_
    refine g_perm (pm_51 _ _ _ _ _ _ _).symm ?_
    refine g_cast (ws' := wXX T ad (xv.1, xv.2.1, xv.2.2.1, xv.2.2.2.1, xv.2.2.2.2.1, z_12, xv.2.2.2.2.2.2)) rfl ?_
    refine g_aload_n hX dX4_finishAct_15 rfl 0 rfl ?_
    refine g_get hX 4 h_X4_finishAct_X4 0 rfl rfl 0 (by decide) k_X4_finishAct_1 rfl (v := .ref (ad 1)) rfl dX4_finishAct_16 ?_
    refine g_aload_n hX dX4_finishAct_19 rfl 0 rfl ?_
    refine g_get hX 4 h_X4_finishAct_X4 0 rfl rfl 1 (by decide) k_X4_finishAct_2 rfl (v := .ref (ad 6)) rfl dX4_finishAct_20 ?_
    refine g_perm (pm_12 _ _ _ _ _ _ _) ?_
    refine g_pVN_V hX (n := 1) (As := [.ref (ad 6)]) (wc := wSt T (ad 1) (ad 2) (ad 3) (ad 4) (ad 5) xv.2.1 ++ wSt T (ad 6) (ad 7) (ad 8) (ad 9) (ad 10) xv.2.2.1) (w1 := wSt T (ad 1) (ad 2) (ad 3) (ad 4) (ad 5) xv.2.2.1 ++ wSt T (ad 6) (ad 7) (ad 8) (ad 9) (ad 10) xv.2.2.1) (st := []) 0 rfl rfl (c_X2_copyFrom (xL X) T (xB X) (ad 1) (ad 2) (ad 3) (ad 4) (ad 5) (ad 6) (ad 7) (ad 8) (ad 9) (ad 10) xv.2.1 xv.2.2.1 hx.2.1) ggX4_finishAct_X2_copyFrom 20 rfl k_X4_finishAct_19 k_X4_finishAct_18 k_X4_finishAct_20 rfl rfl rfl ⟨Nat.le_of_ble_eq_true rfl, Nat.le_of_ble_eq_true rfl⟩ ⟨Nat.zero_le _, Nat.zero_le _⟩ ⟨by decide +kernel, by decide +kernel, by decide +kernel⟩ rfl rfl rfl rfl (Nat.le_of_ble_eq_true rfl) dX4_finishAct_23 rfl ?_
    refine g_perm (pm_12 _ _ _ _ _ _ _).symm ?_
    refine g_cast (ws' := wXX T ad (xv.1, xv.2.2.1, xv.2.2.1, xv.2.2.2.1, xv.2.2.2.2.1, z_12, xv.2.2.2.2.2.2)) rfl ?_
    refine g_iload_n hX dX4_finishAct_26 rfl 1 rfl ?_
    have e9 : F_X4_finishAct xv p1 = (p1, (xv.1, xv.2.2.1, xv.2.2.1, xv.2.2.2.1, xv.2.2.2.2.1, z_12, xv.2.2.2.2.2.2)) := by simp only [F_X4_finishAct, ← hz_12, eq_false c_1, if_true, if_false]
    rw [e9]
    exact g_iret hX dX4_finishAct_27 rfl rfl
/-! X4_set -/
def rmX4_set : Room := { frames := 5, cells := 0, slots := 0, locals := 125 }
theorem k_X4_set_0 : Cond.fieldLink RX4 16 RX4 (TX4 1).2.1 (TX4 1).2.2.1 ∈ wsX4_set := List.mem_of_getElem? (i := 1) rfl
theorem h_X4_set_X4 : ∀ w ∈ u_ws RX4 TX4 8, w ∈ wsX4_set := fun w h => List.mem_cons_of_mem _ (List.mem_append_left _ (List.mem_append_left _ (List.mem_append_left _ (List.mem_append_right _ h))))
theorem k_X4_set_1 : Cond.fieldLink RX4 12 RX4 (TX4 0).2.1 (TX4 0).2.2.1 ∈ wsX4_set := List.mem_of_getElem? (i := 2) rfl
theorem k_X4_set_3 : Cond.initialized RX2 ∈ wsX4_set := List.mem_of_getElem? (i := 4) rfl
theorem k_X4_set_2 : Cond.instanceMethod yX2_copyFrom ∈ wsX4_set := List.mem_of_getElem? (i := 3) rfl
theorem k_X4_set_4 : Cond.selects RX2 yX2_copyFrom yX2_copyFrom ∈ wsX4_set := List.mem_of_getElem? (i := 5) rfl
theorem k_X4_set_30 : Cond.instanceMethod yX2_changeNumber ∈ wsX4_set := List.mem_of_getElem? (i := 31) rfl
theorem k_X4_set_31 : Cond.selects RX2 yX2_changeNumber yX2_changeNumber ∈ wsX4_set := List.mem_of_getElem? (i := 32) rfl
def F_X4_set (xv : XV) (p1 : Int32) (p2 : Int32) : Int32 × XV :=
  (let z_18 := F_X2_changeNumber xv.2.1 p1 p2
  (let z_21 := F_X4_finishAct (xv.1, xv.2.1, z_18.2, xv.2.2.2.1, xv.2.2.2.2.1, xv.2.2.2.2.2.1, xv.2.2.2.2.2.2) z_18.1
  (z_21.1, z_21.2)))
set_option maxHeartbeats 4000000 in
set_option maxRecDepth 100000 in
theorem c_X4_set (l : Launch) (T : TT) (b0 : Nat) (ad : Nat → Nat) (xv : XV) (p1 : Int32) (p2 : Int32) (hx : xWF xv) : ConI l T b0 yX4_set wsX4_set rmX4_set [.ref (ad 0), .int p1, .int p2] (wXX T ad xv) ((F_X4_set xv p1 p2).1) (wXX T ad ((F_X4_set xv p1 p2).2)) := by
  refine conI_of (cc := cX4_set) (maxL := 3) (ret := (some .int)) (lv0 := [(0, .ref (ad 0)), (1, .int p1), (2, .int p2)]) (by decide +kernel) rfl (Nat.le_of_ble_eq_true rfl) rfl (fun X hX => ?_)
  refine g_aload_n hX dX4_set_0 rfl 0 rfl ?_
  refine g_get hX 4 h_X4_set_X4 0 rfl rfl 1 (by decide) k_X4_set_0 rfl (v := .ref (ad 6)) rfl dX4_set_1 ?_
  refine g_aload_n hX dX4_set_4 rfl 0 rfl ?_
  refine g_get hX 4 h_X4_set_X4 0 rfl rfl 0 (by decide) k_X4_set_1 rfl (v := .ref (ad 1)) rfl dX4_set_5 ?_
  refine g_perm (pm_21 _ _ _ _ _ _ _) ?_
  refine g_pVN_V hX (n := 1) (As := [.ref (ad 1)]) (wc := wSt T (ad 6) (ad 7) (ad 8) (ad 9) (ad 10) xv.2.2.1 ++ wSt T (ad 1) (ad 2) (ad 3) (ad 4) (ad 5) xv.2.1) (w1 := wSt T (ad 6) (ad 7) (ad 8) (ad 9) (ad 10) xv.2.1 ++ wSt T (ad 1) (ad 2) (ad 3) (ad 4) (ad 5) xv.2.1) (st := []) 0 rfl rfl (c_X2_copyFrom (xL X) T (xB X) (ad 6) (ad 7) (ad 8) (ad 9) (ad 10) (ad 1) (ad 2) (ad 3) (ad 4) (ad 5) xv.2.2.1 xv.2.1 hx.1) ggX4_set_X2_copyFrom 20 rfl k_X4_set_3 k_X4_set_2 k_X4_set_4 rfl rfl rfl ⟨Nat.le_of_ble_eq_true rfl, Nat.le_of_ble_eq_true rfl⟩ ⟨Nat.zero_le _, Nat.zero_le _⟩ ⟨by decide +kernel, by decide +kernel, by decide +kernel⟩ rfl rfl rfl rfl (Nat.le_of_ble_eq_true rfl) dX4_set_8 rfl ?_
  refine g_perm (pm_21 _ _ _ _ _ _ _).symm ?_
  refine g_cast (ws' := wXX T ad (xv.1, xv.2.1, xv.2.1, xv.2.2.2.1, xv.2.2.2.2.1, xv.2.2.2.2.2.1, xv.2.2.2.2.2.2)) rfl ?_
  refine g_aload_n hX dX4_set_11 rfl 0 rfl ?_
  refine g_aload_n hX dX4_set_12 rfl 0 rfl ?_
  refine g_get hX 4 h_X4_set_X4 0 rfl rfl 1 (by decide) k_X4_set_0 rfl (v := .ref (ad 6)) rfl dX4_set_13 ?_
  refine g_iload_n hX dX4_set_16 rfl 1 rfl ?_
  refine g_iload_n hX dX4_set_17 rfl 2 rfl ?_
  obtain ⟨z_18, hz_18⟩ : ∃ z : Int32 × SV, z = F_X2_changeNumber xv.2.1 p1 p2 := ⟨_, rfl⟩
  refine g_perm (pm_2 _ _ _ _ _ _ _) ?_
  refine g_pVN_I hX (n := 2) (As := [.int p1, .int p2]) (wc := wSt T (ad 6) (ad 7) (ad 8) (ad 9) (ad 10) xv.2.1) (w1 := wSt T (ad 6) (ad 7) (ad 8) (ad 9) (ad 10) z_18.2) (rv := z_18.1) (st := [.ref (ad 0)]) 0 rfl rfl (by rw [hz_18]; exact (c_X2_changeNumber (xL X) T (xB X) (ad 6) (ad 7) (ad 8) (ad 9) (ad 10) xv.2.1 p1 p2)) ggX4_set_X2_changeNumber 22 rfl k_X4_set_3 k_X4_set_30 k_X4_set_31 rfl rfl rfl ⟨Nat.le_of_ble_eq_true rfl, Nat.le_of_ble_eq_true rfl⟩ ⟨Nat.zero_le _, Nat.zero_le _⟩ ⟨by decide +kernel, by decide +kernel, by decide +kernel⟩ rfl rfl rfl rfl (Nat.le_of_ble_eq_true rfl) dX4_set_18 rfl ?_
  refine g_perm (pm_2 _ _ _ _ _ _ _).symm ?_
  refine g_cast (ws' := wXX T ad (xv.1, xv.2.1, z_18.2, xv.2.2.2.1, xv.2.2.2.2.1, xv.2.2.2.2.2.1, xv.2.2.2.2.2.2)) rfl ?_
  obtain ⟨z_21, hz_21⟩ : ∃ z : Int32 × XV, z = F_X4_finishAct (xv.1, xv.2.1, z_18.2, xv.2.2.2.1, xv.2.2.2.2.1, xv.2.2.2.2.2.1, xv.2.2.2.2.2.2) z_18.1 := ⟨_, rfl⟩
  refine g_pV_I hX (rest := []) (n := 1) (As := [.int z_18.1]) (wc := wXX T ad (xv.1, xv.2.1, z_18.2, xv.2.2.2.1, xv.2.2.2.2.1, xv.2.2.2.2.2.1, xv.2.2.2.2.2.2)) (w1 := wXX T ad z_21.2) (rv := z_21.1) (st := []) 0 rfl rfl (by rw [hz_21]; exact (c_X4_finishAct (xL X) T (xB X) ad (xv.1, xv.2.1, z_18.2, xv.2.2.2.1, xv.2.2.2.2.1, xv.2.2.2.2.2.1, xv.2.2.2.2.2.2) z_18.1 (xWF_tr (xv := xv) hx (by rw [hz_18]; exact sB_changeNumber hx.1)))) gX4_set_X4_finishAct rfl rfl rfl ⟨Nat.le_of_ble_eq_true rfl, Nat.le_of_ble_eq_true rfl⟩ ⟨Nat.zero_le _, Nat.zero_le _⟩ ⟨by decide +kernel, by decide +kernel, by decide +kernel⟩ rfl (List.append_nil _).symm rfl rfl (Nat.le_of_ble_eq_true rfl) dX4_set_21 (List.append_nil _) ?_
  have e9 : F_X4_set xv p1 p2 = (z_21.1, z_21.2) := by simp only [F_X4_set, ← hz_18, ← hz_21, if_true, if_false]
  rw [e9]
  exact g_iret hX dX4_set_24 rfl rfl
end
section
/-! X4_wind -/
def rmX4_wind : Room := { frames := 5, cells := 0, slots := 0, locals := 125 }
theorem k_X4_wind_0 : Cond.fieldLink RX4 16 RX4 (TX4 1).2.1 (TX4 1).2.2.1 ∈ wsX4_wind := List.mem_of_getElem? (i := 1) rfl
theorem h_X4_wind_X4 : ∀ w ∈ u_ws RX4 TX4 8, w ∈ wsX4_wind := fun w h => List.mem_cons_of_mem _ (List.mem_append_left _ (List.mem_append_left _ (List.mem_append_left _ (List.mem_append_right _ h))))
theorem k_X4_wind_1 : Cond.fieldLink RX4 12 RX4 (TX4 0).2.1 (TX4 0).2.2.1 ∈ wsX4_wind := List.mem_of_getElem? (i := 2) rfl
theorem k_X4_wind_3 : Cond.initialized RX2 ∈ wsX4_wind := List.mem_of_getElem? (i := 4) rfl
theorem k_X4_wind_2 : Cond.instanceMethod yX2_copyFrom ∈ wsX4_wind := List.mem_of_getElem? (i := 3) rfl
theorem k_X4_wind_4 : Cond.selects RX2 yX2_copyFrom yX2_copyFrom ∈ wsX4_wind := List.mem_of_getElem? (i := 5) rfl
theorem k_X4_wind_30 : Cond.instanceMethod yX2_turnOften ∈ wsX4_wind := List.mem_of_getElem? (i := 31) rfl
theorem k_X4_wind_31 : Cond.selects RX2 yX2_turnOften yX2_turnOften ∈ wsX4_wind := List.mem_of_getElem? (i := 32) rfl
def F_X4_wind (xv : XV) (p1 : Int32) : Int32 × XV :=
  (let z_17 := F_X2_turnOften xv.2.1 p1
  (let z_20 := F_X4_finishAct (xv.1, xv.2.1, z_17.2, xv.2.2.2.1, xv.2.2.2.2.1, xv.2.2.2.2.2.1, xv.2.2.2.2.2.2) z_17.1
  (z_20.1, z_20.2)))
set_option maxHeartbeats 4000000 in
set_option maxRecDepth 100000 in
theorem c_X4_wind (l : Launch) (T : TT) (b0 : Nat) (ad : Nat → Nat) (xv : XV) (p1 : Int32) (hx : xWF xv) : ConI l T b0 yX4_wind wsX4_wind rmX4_wind [.ref (ad 0), .int p1] (wXX T ad xv) ((F_X4_wind xv p1).1) (wXX T ad ((F_X4_wind xv p1).2)) := by
  refine conI_of (cc := cX4_wind) (maxL := 2) (ret := (some .int)) (lv0 := [(0, .ref (ad 0)), (1, .int p1)]) (by decide +kernel) rfl (Nat.le_of_ble_eq_true rfl) rfl (fun X hX => ?_)
  refine g_aload_n hX dX4_wind_0 rfl 0 rfl ?_
  refine g_get hX 4 h_X4_wind_X4 0 rfl rfl 1 (by decide) k_X4_wind_0 rfl (v := .ref (ad 6)) rfl dX4_wind_1 ?_
  refine g_aload_n hX dX4_wind_4 rfl 0 rfl ?_
  refine g_get hX 4 h_X4_wind_X4 0 rfl rfl 0 (by decide) k_X4_wind_1 rfl (v := .ref (ad 1)) rfl dX4_wind_5 ?_
  refine g_perm (pm_21 _ _ _ _ _ _ _) ?_
  refine g_pVN_V hX (n := 1) (As := [.ref (ad 1)]) (wc := wSt T (ad 6) (ad 7) (ad 8) (ad 9) (ad 10) xv.2.2.1 ++ wSt T (ad 1) (ad 2) (ad 3) (ad 4) (ad 5) xv.2.1) (w1 := wSt T (ad 6) (ad 7) (ad 8) (ad 9) (ad 10) xv.2.1 ++ wSt T (ad 1) (ad 2) (ad 3) (ad 4) (ad 5) xv.2.1) (st := []) 0 rfl rfl (c_X2_copyFrom (xL X) T (xB X) (ad 6) (ad 7) (ad 8) (ad 9) (ad 10) (ad 1) (ad 2) (ad 3) (ad 4) (ad 5) xv.2.2.1 xv.2.1 hx.1) ggX4_wind_X2_copyFrom 20 rfl k_X4_wind_3 k_X4_wind_2 k_X4_wind_4 rfl rfl rfl ⟨Nat.le_of_ble_eq_true rfl, Nat.le_of_ble_eq_true rfl⟩ ⟨Nat.zero_le _, Nat.zero_le _⟩ ⟨by decide +kernel, by decide +kernel, by decide +kernel⟩ rfl rfl rfl rfl (Nat.le_of_ble_eq_true rfl) dX4_wind_8 rfl ?_
  refine g_perm (pm_21 _ _ _ _ _ _ _).symm ?_
  refine g_cast (ws' := wXX T ad (xv.1, xv.2.1, xv.2.1, xv.2.2.2.1, xv.2.2.2.2.1, xv.2.2.2.2.2.1, xv.2.2.2.2.2.2)) rfl ?_
  refine g_aload_n hX dX4_wind_11 rfl 0 rfl ?_
  refine g_aload_n hX dX4_wind_12 rfl 0 rfl ?_
  refine g_get hX 4 h_X4_wind_X4 0 rfl rfl 1 (by decide) k_X4_wind_0 rfl (v := .ref (ad 6)) rfl dX4_wind_13 ?_
  refine g_iload_n hX dX4_wind_16 rfl 1 rfl ?_
  obtain ⟨z_17, hz_17⟩ : ∃ z : Int32 × SV, z = F_X2_turnOften xv.2.1 p1 := ⟨_, rfl⟩
  refine g_perm (pm_2 _ _ _ _ _ _ _) ?_
  refine g_pVN_I hX (n := 1) (As := [.int p1]) (wc := wSt T (ad 6) (ad 7) (ad 8) (ad 9) (ad 10) xv.2.1) (w1 := wSt T (ad 6) (ad 7) (ad 8) (ad 9) (ad 10) z_17.2) (rv := z_17.1) (st := [.ref (ad 0)]) 0 rfl rfl (by rw [hz_17]; exact (c_X2_turnOften (xL X) T (xB X) (ad 6) (ad 7) (ad 8) (ad 9) (ad 10) xv.2.1 p1)) ggX4_wind_X2_turnOften 26 rfl k_X4_wind_3 k_X4_wind_30 k_X4_wind_31 rfl rfl rfl ⟨Nat.le_of_ble_eq_true rfl, Nat.le_of_ble_eq_true rfl⟩ ⟨Nat.zero_le _, Nat.zero_le _⟩ ⟨by decide +kernel, by decide +kernel, by decide +kernel⟩ rfl rfl rfl rfl (Nat.le_of_ble_eq_true rfl) dX4_wind_17 rfl ?_
  refine g_perm (pm_2 _ _ _ _ _ _ _).symm ?_
  refine g_cast (ws' := wXX T ad (xv.1, xv.2.1, z_17.2, xv.2.2.2.1, xv.2.2.2.2.1, xv.2.2.2.2.2.1, xv.2.2.2.2.2.2)) rfl ?_
  obtain ⟨z_20, hz_20⟩ : ∃ z : Int32 × XV, z = F_X4_finishAct (xv.1, xv.2.1, z_17.2, xv.2.2.2.1, xv.2.2.2.2.1, xv.2.2.2.2.2.1, xv.2.2.2.2.2.2) z_17.1 := ⟨_, rfl⟩
  refine g_pV_I hX (rest := []) (n := 1) (As := [.int z_17.1]) (wc := wXX T ad (xv.1, xv.2.1, z_17.2, xv.2.2.2.1, xv.2.2.2.2.1, xv.2.2.2.2.2.1, xv.2.2.2.2.2.2)) (w1 := wXX T ad z_20.2) (rv := z_20.1) (st := []) 0 rfl rfl (by rw [hz_20]; exact (c_X4_finishAct (xL X) T (xB X) ad (xv.1, xv.2.1, z_17.2, xv.2.2.2.1, xv.2.2.2.2.1, xv.2.2.2.2.2.1, xv.2.2.2.2.2.2) z_17.1 (xWF_tr (xv := xv) hx (by rw [hz_17]; exact sB_turnOften hx.1)))) gX4_wind_X4_finishAct rfl rfl rfl ⟨Nat.le_of_ble_eq_true rfl, Nat.le_of_ble_eq_true rfl⟩ ⟨Nat.zero_le _, Nat.zero_le _⟩ ⟨by decide +kernel, by decide +kernel, by decide +kernel⟩ rfl (List.append_nil _).symm rfl rfl (Nat.le_of_ble_eq_true rfl) dX4_wind_20 (List.append_nil _) ?_
  have e9 : F_X4_wind xv p1 = (z_20.1, z_20.2) := by simp only [F_X4_wind, ← hz_17, ← hz_20, if_true, if_false]
  rw [e9]
  exact g_iret hX dX4_wind_23 rfl rfl
/-! X4_knot -/
def rmX4_knot : Room := { frames := 5, cells := 0, slots := 0, locals := 125 }
theorem k_X4_knot_0 : Cond.fieldLink RX4 16 RX4 (TX4 1).2.1 (TX4 1).2.2.1 ∈ wsX4_knot := List.mem_of_getElem? (i := 1) rfl
theorem h_X4_knot_X4 : ∀ w ∈ u_ws RX4 TX4 8, w ∈ wsX4_knot := fun w h => List.mem_cons_of_mem _ (List.mem_append_left _ (List.mem_append_left _ (List.mem_append_left _ (List.mem_append_right _ h))))
theorem k_X4_knot_1 : Cond.fieldLink RX4 12 RX4 (TX4 0).2.1 (TX4 0).2.2.1 ∈ wsX4_knot := List.mem_of_getElem? (i := 2) rfl
theorem k_X4_knot_3 : Cond.initialized RX2 ∈ wsX4_knot := List.mem_of_getElem? (i := 4) rfl
theorem k_X4_knot_2 : Cond.instanceMethod yX2_copyFrom ∈ wsX4_knot := List.mem_of_getElem? (i := 3) rfl
theorem k_X4_knot_4 : Cond.selects RX2 yX2_copyFrom yX2_copyFrom ∈ wsX4_knot := List.mem_of_getElem? (i := 5) rfl
theorem k_X4_knot_30 : Cond.instanceMethod yX2_tieKnot ∈ wsX4_knot := List.mem_of_getElem? (i := 31) rfl
theorem k_X4_knot_31 : Cond.selects RX2 yX2_tieKnot yX2_tieKnot ∈ wsX4_knot := List.mem_of_getElem? (i := 32) rfl
def F_X4_knot (xv : XV) : Int32 × XV :=
  (let z_16 := F_X2_tieKnot xv.2.1
  (let z_19 := F_X4_finishAct (xv.1, xv.2.1, z_16.2, xv.2.2.2.1, xv.2.2.2.2.1, xv.2.2.2.2.2.1, xv.2.2.2.2.2.2) z_16.1
  (z_19.1, z_19.2)))
set_option maxHeartbeats 4000000 in
set_option maxRecDepth 100000 in
theorem c_X4_knot (l : Launch) (T : TT) (b0 : Nat) (ad : Nat → Nat) (xv : XV) (hx : xWF xv) : ConI l T b0 yX4_knot wsX4_knot rmX4_knot [.ref (ad 0)] (wXX T ad xv) ((F_X4_knot xv).1) (wXX T ad ((F_X4_knot xv).2)) := by
  refine conI_of (cc := cX4_knot) (maxL := 1) (ret := (some .int)) (lv0 := [(0, .ref (ad 0))]) (by decide +kernel) rfl (Nat.le_of_ble_eq_true rfl) rfl (fun X hX => ?_)
  refine g_aload_n hX dX4_knot_0 rfl 0 rfl ?_
  refine g_get hX 4 h_X4_knot_X4 0 rfl rfl 1 (by decide) k_X4_knot_0 rfl (v := .ref (ad 6)) rfl dX4_knot_1 ?_
  refine g_aload_n hX dX4_knot_4 rfl 0 rfl ?_
  refine g_get hX 4 h_X4_knot_X4 0 rfl rfl 0 (by decide) k_X4_knot_1 rfl (v := .ref (ad 1)) rfl dX4_knot_5 ?_
  refine g_perm (pm_21 _ _ _ _ _ _ _) ?_
  refine g_pVN_V hX (n := 1) (As := [.ref (ad 1)]) (wc := wSt T (ad 6) (ad 7) (ad 8) (ad 9) (ad 10) xv.2.2.1 ++ wSt T (ad 1) (ad 2) (ad 3) (ad 4) (ad 5) xv.2.1) (w1 := wSt T (ad 6) (ad 7) (ad 8) (ad 9) (ad 10) xv.2.1 ++ wSt T (ad 1) (ad 2) (ad 3) (ad 4) (ad 5) xv.2.1) (st := []) 0 rfl rfl (c_X2_copyFrom (xL X) T (xB X) (ad 6) (ad 7) (ad 8) (ad 9) (ad 10) (ad 1) (ad 2) (ad 3) (ad 4) (ad 5) xv.2.2.1 xv.2.1 hx.1) ggX4_knot_X2_copyFrom 20 rfl k_X4_knot_3 k_X4_knot_2 k_X4_knot_4 rfl rfl rfl ⟨Nat.le_of_ble_eq_true rfl, Nat.le_of_ble_eq_true rfl⟩ ⟨Nat.zero_le _, Nat.zero_le _⟩ ⟨by decide +kernel, by decide +kernel, by decide +kernel⟩ rfl rfl rfl rfl (Nat.le_of_ble_eq_true rfl) dX4_knot_8 rfl ?_
  refine g_perm (pm_21 _ _ _ _ _ _ _).symm ?_
  refine g_cast (ws' := wXX T ad (xv.1, xv.2.1, xv.2.1, xv.2.2.2.1, xv.2.2.2.2.1, xv.2.2.2.2.2.1, xv.2.2.2.2.2.2)) rfl ?_
  refine g_aload_n hX dX4_knot_11 rfl 0 rfl ?_
  refine g_aload_n hX dX4_knot_12 rfl 0 rfl ?_
  refine g_get hX 4 h_X4_knot_X4 0 rfl rfl 1 (by decide) k_X4_knot_0 rfl (v := .ref (ad 6)) rfl dX4_knot_13 ?_
  obtain ⟨z_16, hz_16⟩ : ∃ z : Int32 × SV, z = F_X2_tieKnot xv.2.1 := ⟨_, rfl⟩
  refine g_perm (pm_2 _ _ _ _ _ _ _) ?_
  refine g_pVN_I hX (n := 0) (As := []) (wc := wSt T (ad 6) (ad 7) (ad 8) (ad 9) (ad 10) xv.2.1) (w1 := wSt T (ad 6) (ad 7) (ad 8) (ad 9) (ad 10) z_16.2) (rv := z_16.1) (st := [.ref (ad 0)]) 0 rfl rfl (by rw [hz_16]; exact (c_X2_tieKnot (xL X) T (xB X) (ad 6) (ad 7) (ad 8) (ad 9) (ad 10) xv.2.1)) ggX4_knot_X2_tieKnot 33 rfl k_X4_knot_3 k_X4_knot_30 k_X4_knot_31 rfl rfl rfl ⟨Nat.le_of_ble_eq_true rfl, Nat.le_of_ble_eq_true rfl⟩ ⟨Nat.zero_le _, Nat.zero_le _⟩ ⟨by decide +kernel, by decide +kernel, by decide +kernel⟩ rfl rfl rfl rfl (Nat.le_of_ble_eq_true rfl) dX4_knot_16 rfl ?_
  refine g_perm (pm_2 _ _ _ _ _ _ _).symm ?_
  refine g_cast (ws' := wXX T ad (xv.1, xv.2.1, z_16.2, xv.2.2.2.1, xv.2.2.2.2.1, xv.2.2.2.2.2.1, xv.2.2.2.2.2.2)) rfl ?_
  obtain ⟨z_19, hz_19⟩ : ∃ z : Int32 × XV, z = F_X4_finishAct (xv.1, xv.2.1, z_16.2, xv.2.2.2.1, xv.2.2.2.2.1, xv.2.2.2.2.2.1, xv.2.2.2.2.2.2) z_16.1 := ⟨_, rfl⟩
  refine g_pV_I hX (rest := []) (n := 1) (As := [.int z_16.1]) (wc := wXX T ad (xv.1, xv.2.1, z_16.2, xv.2.2.2.1, xv.2.2.2.2.1, xv.2.2.2.2.2.1, xv.2.2.2.2.2.2)) (w1 := wXX T ad z_19.2) (rv := z_19.1) (st := []) 0 rfl rfl (by rw [hz_19]; exact (c_X4_finishAct (xL X) T (xB X) ad (xv.1, xv.2.1, z_16.2, xv.2.2.2.1, xv.2.2.2.2.1, xv.2.2.2.2.2.1, xv.2.2.2.2.2.2) z_16.1 (xWF_tr (xv := xv) hx (by rw [hz_16]; exact sB_tieKnot hx.1)))) gX4_knot_X4_finishAct rfl rfl rfl ⟨Nat.le_of_ble_eq_true rfl, Nat.le_of_ble_eq_true rfl⟩ ⟨Nat.zero_le _, Nat.zero_le _⟩ ⟨by decide +kernel, by decide +kernel, by decide +kernel⟩ rfl (List.append_nil _).symm rfl rfl (Nat.le_of_ble_eq_true rfl) dX4_knot_19 (List.append_nil _) ?_
  have e9 : F_X4_knot xv = (z_19.1, z_19.2) := by simp only [F_X4_knot, ← hz_16, ← hz_19, if_true, if_false]
  rw [e9]
  exact g_iret hX dX4_knot_22 rfl rfl
/-! X4_cone -/
def rmX4_cone : Room := { frames := 5, cells := 0, slots := 0, locals := 125 }
theorem k_X4_cone_0 : Cond.fieldLink RX4 16 RX4 (TX4 1).2.1 (TX4 1).2.2.1 ∈ wsX4_cone := List.mem_of_getElem? (i := 1) rfl
theorem h_X4_cone_X4 : ∀ w ∈ u_ws RX4 TX4 8, w ∈ wsX4_cone := fun w h => List.mem_cons_of_mem _ (List.mem_append_left _ (List.mem_append_left _ (List.mem_append_left _ (List.mem_append_right _ h))))
theorem k_X4_cone_1 : Cond.fieldLink RX4 12 RX4 (TX4 0).2.1 (TX4 0).2.2.1 ∈ wsX4_cone := List.mem_of_getElem? (i := 2) rfl
theorem k_X4_cone_3 : Cond.initialized RX2 ∈ wsX4_cone := List.mem_of_getElem? (i := 4) rfl
theorem k_X4_cone_2 : Cond.instanceMethod yX2_copyFrom ∈ wsX4_cone := List.mem_of_getElem? (i := 3) rfl
theorem k_X4_cone_4 : Cond.selects RX2 yX2_copyFrom yX2_copyFrom ∈ wsX4_cone := List.mem_of_getElem? (i := 5) rfl
theorem k_X4_cone_30 : Cond.instanceMethod yX2_changeCone ∈ wsX4_cone := List.mem_of_getElem? (i := 31) rfl
theorem k_X4_cone_31 : Cond.selects RX2 yX2_changeCone yX2_changeCone ∈ wsX4_cone := List.mem_of_getElem? (i := 32) rfl
def F_X4_cone (xv : XV) (p1 : Int32) : Int32 × XV :=
  (let z_17 := F_X2_changeCone xv.2.1 p1
  (let z_20 := F_X4_finishAct (xv.1, xv.2.1, z_17.2, xv.2.2.2.1, xv.2.2.2.2.1, xv.2.2.2.2.2.1, xv.2.2.2.2.2.2) z_17.1
  (z_20.1, z_20.2)))
set_option maxHeartbeats 4000000 in
set_option maxRecDepth 100000 in
theorem c_X4_cone (l : Launch) (T : TT) (b0 : Nat) (ad : Nat → Nat) (xv : XV) (p1 : Int32) (hx : xWF xv) : ConI l T b0 yX4_cone wsX4_cone rmX4_cone [.ref (ad 0), .int p1] (wXX T ad xv) ((F_X4_cone xv p1).1) (wXX T ad ((F_X4_cone xv p1).2)) := by
  refine conI_of (cc := cX4_cone) (maxL := 2) (ret := (some .int)) (lv0 := [(0, .ref (ad 0)), (1, .int p1)]) (by decide +kernel) rfl (Nat.le_of_ble_eq_true rfl) rfl (fun X hX => ?_)
  refine g_aload_n hX dX4_cone_0 rfl 0 rfl ?_
  refine g_get hX 4 h_X4_cone_X4 0 rfl rfl 1 (by decide) k_X4_cone_0 rfl (v := .ref (ad 6)) rfl dX4_cone_1 ?_
  refine g_aload_n hX dX4_cone_4 rfl 0 rfl ?_
  refine g_get hX 4 h_X4_cone_X4 0 rfl rfl 0 (by decide) k_X4_cone_1 rfl (v := .ref (ad 1)) rfl dX4_cone_5 ?_
  refine g_perm (pm_21 _ _ _ _ _ _ _) ?_
  refine g_pVN_V hX (n := 1) (As := [.ref (ad 1)]) (wc := wSt T (ad 6) (ad 7) (ad 8) (ad 9) (ad 10) xv.2.2.1 ++ wSt T (ad 1) (ad 2) (ad 3) (ad 4) (ad 5) xv.2.1) (w1 := wSt T (ad 6) (ad 7) (ad 8) (ad 9) (ad 10) xv.2.1 ++ wSt T (ad 1) (ad 2) (ad 3) (ad 4) (ad 5) xv.2.1) (st := []) 0 rfl rfl (c_X2_copyFrom (xL X) T (xB X) (ad 6) (ad 7) (ad 8) (ad 9) (ad 10) (ad 1) (ad 2) (ad 3) (ad 4) (ad 5) xv.2.2.1 xv.2.1 hx.1) ggX4_cone_X2_copyFrom 20 rfl k_X4_cone_3 k_X4_cone_2 k_X4_cone_4 rfl rfl rfl ⟨Nat.le_of_ble_eq_true rfl, Nat.le_of_ble_eq_true rfl⟩ ⟨Nat.zero_le _, Nat.zero_le _⟩ ⟨by decide +kernel, by decide +kernel, by decide +kernel⟩ rfl rfl rfl rfl (Nat.le_of_ble_eq_true rfl) dX4_cone_8 rfl ?_
  refine g_perm (pm_21 _ _ _ _ _ _ _).symm ?_
  refine g_cast (ws' := wXX T ad (xv.1, xv.2.1, xv.2.1, xv.2.2.2.1, xv.2.2.2.2.1, xv.2.2.2.2.2.1, xv.2.2.2.2.2.2)) rfl ?_
  refine g_aload_n hX dX4_cone_11 rfl 0 rfl ?_
  refine g_aload_n hX dX4_cone_12 rfl 0 rfl ?_
  refine g_get hX 4 h_X4_cone_X4 0 rfl rfl 1 (by decide) k_X4_cone_0 rfl (v := .ref (ad 6)) rfl dX4_cone_13 ?_
  refine g_iload_n hX dX4_cone_16 rfl 1 rfl ?_
  obtain ⟨z_17, hz_17⟩ : ∃ z : Int32 × SV, z = F_X2_changeCone xv.2.1 p1 := ⟨_, rfl⟩
  refine g_perm (pm_2 _ _ _ _ _ _ _) ?_
  refine g_pVN_I hX (n := 1) (As := [.int p1]) (wc := wSt T (ad 6) (ad 7) (ad 8) (ad 9) (ad 10) xv.2.1) (w1 := wSt T (ad 6) (ad 7) (ad 8) (ad 9) (ad 10) z_17.2) (rv := z_17.1) (st := [.ref (ad 0)]) 0 rfl rfl (by rw [hz_17]; exact (c_X2_changeCone (xL X) T (xB X) (ad 6) (ad 7) (ad 8) (ad 9) (ad 10) xv.2.1 p1)) ggX4_cone_X2_changeCone 34 rfl k_X4_cone_3 k_X4_cone_30 k_X4_cone_31 rfl rfl rfl ⟨Nat.le_of_ble_eq_true rfl, Nat.le_of_ble_eq_true rfl⟩ ⟨Nat.zero_le _, Nat.zero_le _⟩ ⟨by decide +kernel, by decide +kernel, by decide +kernel⟩ rfl rfl rfl rfl (Nat.le_of_ble_eq_true rfl) dX4_cone_17 rfl ?_
  refine g_perm (pm_2 _ _ _ _ _ _ _).symm ?_
  refine g_cast (ws' := wXX T ad (xv.1, xv.2.1, z_17.2, xv.2.2.2.1, xv.2.2.2.2.1, xv.2.2.2.2.2.1, xv.2.2.2.2.2.2)) rfl ?_
  obtain ⟨z_20, hz_20⟩ : ∃ z : Int32 × XV, z = F_X4_finishAct (xv.1, xv.2.1, z_17.2, xv.2.2.2.1, xv.2.2.2.2.1, xv.2.2.2.2.2.1, xv.2.2.2.2.2.2) z_17.1 := ⟨_, rfl⟩
  refine g_pV_I hX (rest := []) (n := 1) (As := [.int z_17.1]) (wc := wXX T ad (xv.1, xv.2.1, z_17.2, xv.2.2.2.1, xv.2.2.2.2.1, xv.2.2.2.2.2.1, xv.2.2.2.2.2.2)) (w1 := wXX T ad z_20.2) (rv := z_20.1) (st := []) 0 rfl rfl (by rw [hz_20]; exact (c_X4_finishAct (xL X) T (xB X) ad (xv.1, xv.2.1, z_17.2, xv.2.2.2.1, xv.2.2.2.2.1, xv.2.2.2.2.2.1, xv.2.2.2.2.2.2) z_17.1 (xWF_tr (xv := xv) hx (by rw [hz_17]; exact sB_changeCone hx.1)))) gX4_cone_X4_finishAct rfl rfl rfl ⟨Nat.le_of_ble_eq_true rfl, Nat.le_of_ble_eq_true rfl⟩ ⟨Nat.zero_le _, Nat.zero_le _⟩ ⟨by decide +kernel, by decide +kernel, by decide +kernel⟩ rfl (List.append_nil _).symm rfl rfl (Nat.le_of_ble_eq_true rfl) dX4_cone_20 (List.append_nil _) ?_
  have e9 : F_X4_cone xv p1 = (z_20.1, z_20.2) := by simp only [F_X4_cone, ← hz_17, ← hz_20, if_true, if_false]
  rw [e9]
  exact g_iret hX dX4_cone_23 rfl rfl
/-! X4_doff -/
def rmX4_doff : Room := { frames := 5, cells := 0, slots := 0, locals := 125 }
theorem k_X4_doff_0 : Cond.fieldLink RX4 16 RX4 (TX4 1).2.1 (TX4 1).2.2.1 ∈ wsX4_doff := List.mem_of_getElem? (i := 1) rfl
theorem h_X4_doff_X4 : ∀ w ∈ u_ws RX4 TX4 8, w ∈ wsX4_doff := fun w h => List.mem_cons_of_mem _ (List.mem_append_left _ (List.mem_append_left _ (List.mem_append_left _ (List.mem_append_right _ h))))
theorem k_X4_doff_1 : Cond.fieldLink RX4 12 RX4 (TX4 0).2.1 (TX4 0).2.2.1 ∈ wsX4_doff := List.mem_of_getElem? (i := 2) rfl
theorem k_X4_doff_3 : Cond.initialized RX2 ∈ wsX4_doff := List.mem_of_getElem? (i := 4) rfl
theorem k_X4_doff_2 : Cond.instanceMethod yX2_copyFrom ∈ wsX4_doff := List.mem_of_getElem? (i := 3) rfl
theorem k_X4_doff_4 : Cond.selects RX2 yX2_copyFrom yX2_copyFrom ∈ wsX4_doff := List.mem_of_getElem? (i := 5) rfl
theorem k_X4_doff_30 : Cond.instanceMethod yX2_takePackageOff ∈ wsX4_doff := List.mem_of_getElem? (i := 31) rfl
theorem k_X4_doff_31 : Cond.selects RX2 yX2_takePackageOff yX2_takePackageOff ∈ wsX4_doff := List.mem_of_getElem? (i := 32) rfl
def F_X4_doff (xv : XV) : Int32 × XV :=
  (let z_16 := F_X2_takePackageOff xv.2.1
  (let z_19 := F_X4_finishAct (xv.1, xv.2.1, z_16.2, xv.2.2.2.1, xv.2.2.2.2.1, xv.2.2.2.2.2.1, xv.2.2.2.2.2.2) z_16.1
  (z_19.1, z_19.2)))
set_option maxHeartbeats 4000000 in
set_option maxRecDepth 100000 in
theorem c_X4_doff (l : Launch) (T : TT) (b0 : Nat) (ad : Nat → Nat) (xv : XV) (hx : xWF xv) : ConI l T b0 yX4_doff wsX4_doff rmX4_doff [.ref (ad 0)] (wXX T ad xv) ((F_X4_doff xv).1) (wXX T ad ((F_X4_doff xv).2)) := by
  refine conI_of (cc := cX4_doff) (maxL := 1) (ret := (some .int)) (lv0 := [(0, .ref (ad 0))]) (by decide +kernel) rfl (Nat.le_of_ble_eq_true rfl) rfl (fun X hX => ?_)
  refine g_aload_n hX dX4_doff_0 rfl 0 rfl ?_
  refine g_get hX 4 h_X4_doff_X4 0 rfl rfl 1 (by decide) k_X4_doff_0 rfl (v := .ref (ad 6)) rfl dX4_doff_1 ?_
  refine g_aload_n hX dX4_doff_4 rfl 0 rfl ?_
  refine g_get hX 4 h_X4_doff_X4 0 rfl rfl 0 (by decide) k_X4_doff_1 rfl (v := .ref (ad 1)) rfl dX4_doff_5 ?_
  refine g_perm (pm_21 _ _ _ _ _ _ _) ?_
  refine g_pVN_V hX (n := 1) (As := [.ref (ad 1)]) (wc := wSt T (ad 6) (ad 7) (ad 8) (ad 9) (ad 10) xv.2.2.1 ++ wSt T (ad 1) (ad 2) (ad 3) (ad 4) (ad 5) xv.2.1) (w1 := wSt T (ad 6) (ad 7) (ad 8) (ad 9) (ad 10) xv.2.1 ++ wSt T (ad 1) (ad 2) (ad 3) (ad 4) (ad 5) xv.2.1) (st := []) 0 rfl rfl (c_X2_copyFrom (xL X) T (xB X) (ad 6) (ad 7) (ad 8) (ad 9) (ad 10) (ad 1) (ad 2) (ad 3) (ad 4) (ad 5) xv.2.2.1 xv.2.1 hx.1) ggX4_doff_X2_copyFrom 20 rfl k_X4_doff_3 k_X4_doff_2 k_X4_doff_4 rfl rfl rfl ⟨Nat.le_of_ble_eq_true rfl, Nat.le_of_ble_eq_true rfl⟩ ⟨Nat.zero_le _, Nat.zero_le _⟩ ⟨by decide +kernel, by decide +kernel, by decide +kernel⟩ rfl rfl rfl rfl (Nat.le_of_ble_eq_true rfl) dX4_doff_8 rfl ?_
  refine g_perm (pm_21 _ _ _ _ _ _ _).symm ?_
  refine g_cast (ws' := wXX T ad (xv.1, xv.2.1, xv.2.1, xv.2.2.2.1, xv.2.2.2.2.1, xv.2.2.2.2.2.1, xv.2.2.2.2.2.2)) rfl ?_
  refine g_aload_n hX dX4_doff_11 rfl 0 rfl ?_
  refine g_aload_n hX dX4_doff_12 rfl 0 rfl ?_
  refine g_get hX 4 h_X4_doff_X4 0 rfl rfl 1 (by decide) k_X4_doff_0 rfl (v := .ref (ad 6)) rfl dX4_doff_13 ?_
  obtain ⟨z_16, hz_16⟩ : ∃ z : Int32 × SV, z = F_X2_takePackageOff xv.2.1 := ⟨_, rfl⟩
  refine g_perm (pm_2 _ _ _ _ _ _ _) ?_
  refine g_pVN_I hX (n := 0) (As := []) (wc := wSt T (ad 6) (ad 7) (ad 8) (ad 9) (ad 10) xv.2.1) (w1 := wSt T (ad 6) (ad 7) (ad 8) (ad 9) (ad 10) z_16.2) (rv := z_16.1) (st := [.ref (ad 0)]) 0 rfl rfl (by rw [hz_16]; exact (c_X2_takePackageOff (xL X) T (xB X) (ad 6) (ad 7) (ad 8) (ad 9) (ad 10) xv.2.1)) ggX4_doff_X2_takePackageOff 35 rfl k_X4_doff_3 k_X4_doff_30 k_X4_doff_31 rfl rfl rfl ⟨Nat.le_of_ble_eq_true rfl, Nat.le_of_ble_eq_true rfl⟩ ⟨Nat.zero_le _, Nat.zero_le _⟩ ⟨by decide +kernel, by decide +kernel, by decide +kernel⟩ rfl rfl rfl rfl (Nat.le_of_ble_eq_true rfl) dX4_doff_16 rfl ?_
  refine g_perm (pm_2 _ _ _ _ _ _ _).symm ?_
  refine g_cast (ws' := wXX T ad (xv.1, xv.2.1, z_16.2, xv.2.2.2.1, xv.2.2.2.2.1, xv.2.2.2.2.2.1, xv.2.2.2.2.2.2)) rfl ?_
  obtain ⟨z_19, hz_19⟩ : ∃ z : Int32 × XV, z = F_X4_finishAct (xv.1, xv.2.1, z_16.2, xv.2.2.2.1, xv.2.2.2.2.1, xv.2.2.2.2.2.1, xv.2.2.2.2.2.2) z_16.1 := ⟨_, rfl⟩
  refine g_pV_I hX (rest := []) (n := 1) (As := [.int z_16.1]) (wc := wXX T ad (xv.1, xv.2.1, z_16.2, xv.2.2.2.1, xv.2.2.2.2.1, xv.2.2.2.2.2.1, xv.2.2.2.2.2.2)) (w1 := wXX T ad z_19.2) (rv := z_19.1) (st := []) 0 rfl rfl (by rw [hz_19]; exact (c_X4_finishAct (xL X) T (xB X) ad (xv.1, xv.2.1, z_16.2, xv.2.2.2.1, xv.2.2.2.2.1, xv.2.2.2.2.2.1, xv.2.2.2.2.2.2) z_16.1 (xWF_tr (xv := xv) hx (by rw [hz_16]; exact sB_takePackageOff hx.1)))) gX4_doff_X4_finishAct rfl rfl rfl ⟨Nat.le_of_ble_eq_true rfl, Nat.le_of_ble_eq_true rfl⟩ ⟨Nat.zero_le _, Nat.zero_le _⟩ ⟨by decide +kernel, by decide +kernel, by decide +kernel⟩ rfl (List.append_nil _).symm rfl rfl (Nat.le_of_ble_eq_true rfl) dX4_doff_19 (List.append_nil _) ?_
  have e9 : F_X4_doff xv = (z_19.1, z_19.2) := by simp only [F_X4_doff, ← hz_16, ← hz_19, if_true, if_false]
  rw [e9]
  exact g_iret hX dX4_doff_22 rfl rfl
/-! X4_place -/
def rmX4_place : Room := { frames := 3, cells := 0, slots := 0, locals := 66 }
theorem k_X4_place_0 : Cond.fieldLink RX4 12 RX4 (TX4 0).2.1 (TX4 0).2.2.1 ∈ wsX4_place := List.mem_of_getElem? (i := 1) rfl
theorem h_X4_place_X4 : ∀ w ∈ u_ws RX4 TX4 8, w ∈ wsX4_place := fun w h => List.mem_cons_of_mem _ (List.mem_append_left _ (List.mem_append_left _ (List.mem_append_right _ h)))
theorem h_X4_place_X2 : ∀ w ∈ u_ws RX2 TX2 11, w ∈ wsX4_place := fun w h => List.mem_cons_of_mem _ (List.mem_append_left _ (List.mem_append_right _ h))
theorem k_X4_place_2 : Cond.initialized RX3 ∈ wsX4_place := List.mem_of_getElem? (i := 3) rfl
theorem k_X4_place_1 : Cond.instanceMethod yX3_heightAt ∈ wsX4_place := List.mem_of_getElem? (i := 2) rfl
theorem k_X4_place_3 : Cond.selects RX3 yX3_heightAt yX3_heightAt ∈ wsX4_place := List.mem_of_getElem? (i := 4) rfl
theorem k_X4_place_7 : Cond.initialized RX2 ∈ wsX4_place := List.mem_of_getElem? (i := 8) rfl
theorem k_X4_place_6 : Cond.instanceMethod yX2_knotsAt ∈ wsX4_place := List.mem_of_getElem? (i := 7) rfl
theorem k_X4_place_8 : Cond.selects RX2 yX2_knotsAt yX2_knotsAt ∈ wsX4_place := List.mem_of_getElem? (i := 9) rfl
theorem k_X4_place_11 : Cond.instanceMethod yX3_isRibbon ∈ wsX4_place := List.mem_of_getElem? (i := 12) rfl
theorem k_X4_place_12 : Cond.selects RX3 yX3_isRibbon yX3_isRibbon ∈ wsX4_place := List.mem_of_getElem? (i := 13) rfl
theorem k_X4_place_23 : Cond.instanceMethod yX2_isBad ∈ wsX4_place := List.mem_of_getElem? (i := 24) rfl
theorem k_X4_place_24 : Cond.selects RX2 yX2_isBad yX2_isBad ∈ wsX4_place := List.mem_of_getElem? (i := 25) rfl
def F_X4_place (xv : XV) (p1 : Int32) (p2 : Int32) : Int32 :=
  (if p1 < 0 then (-1) else (if p1 < 12 then (if p2 = 0 then (F_X3_heightAt xv.2.1.2.1 p1) else (if p2 = 1 then (F_X2_knotsAt xv.2.1 p1) else (if p2 = 2 then (F_X4_oneIf (F_X3_isRibbon xv.2.1.2.1 p1)) else (if p2 = 3 then (F_X4_oneIf (F_X2_isBad xv.2.1 p1)) else (-2))))) else (-1)))
set_option maxHeartbeats 4000000 in
set_option maxRecDepth 100000 in
theorem c_X4_place (l : Launch) (T : TT) (b0 : Nat) (ad : Nat → Nat) (xv : XV) (p1 : Int32) (p2 : Int32)  : ConI l T b0 yX4_place wsX4_place rmX4_place [.ref (ad 0), .int p1, .int p2] (wXX T ad xv) (F_X4_place xv p1 p2) (wXX T ad xv) := by
  refine conI_of (cc := cX4_place) (maxL := 3) (ret := (some .int)) (lv0 := [(0, .ref (ad 0)), (1, .int p1), (2, .int p2)]) (by decide +kernel) rfl (Nat.le_of_ble_eq_true rfl) rfl (fun X hX => ?_)
  refine g_iload_n hX dX4_place_0 rfl 1 rfl ?_
  refine g_if_lt hX 10 dX4_place_1 (by decide) (fun c_1 => ?_) (fun c_1 => ?_)
  · skip
    refine g_iconst hX (v := (-1)) dX4_place_10 (by decide) ?_
    have e9 : F_X4_place xv p1 p2 = (-1) := by simp only [F_X4_place, eq_true c_1, if_true, if_false]
    rw [e9]
    exact g_iret hX dX4_place_11 rfl rfl
  · skip
    refine g_iload_n hX dX4_place_4 rfl 1 rfl ?_
    refine g_bipush hX (v := 12) dX4_place_5 (by decide) ?_
    refine g_icmp_lt hX 12 dX4_place_7 (by decide) (fun c_7 => ?_) (fun c_7 => ?_)
    · skip
      refine g_iload_n hX dX4_place_12 rfl 2 rfl ?_
      by_cases c_13_0 : p2 = 0
      · skip
        refine g_tabIn hX (off := 31) 44 dX4_place_13 (by rw [c_13_0]; decide) (by rw [c_13_0]; decide) (by rw [c_13_0]; decide) (by decide) ?_
        refine g_aload_n hX dX4_place_44 rfl 0 rfl ?_
        refine g_get hX 4 h_X4_place_X4 0 rfl rfl 0 (by decide) k_X4_place_0 rfl (v := .ref (ad 1)) rfl dX4_place_45 ?_
        refine g_getN hX 2 h_X4_place_X2 1 rfl rfl 0 (by decide) 3 rfl rfl (v := .ref (ad 2)) rfl dX4_place_48 ?_
        refine g_iload_n hX dX4_place_51 rfl 1 rfl ?_
        refine g_cVN_I hX (n := 1) (As := [.int p1]) (wc := wWr T (ad 2) (ad 3) xv.2.1.2.1) (w1 := wWr T (ad 2) (ad 3) xv.2.1.2.1) (rv := (F_X3_heightAt xv.2.1.2.1 p1)) (st := []) 2 rfl rfl (c_X3_heightAt (xL X) T (xB X) (ad 2) (ad 3) xv.2.1.2.1 p1) ggX4_place_X3_heightAt 46 rfl k_X4_place_2 k_X4_place_1 k_X4_place_3 rfl rfl rfl ⟨Nat.le_of_ble_eq_true rfl, Nat.le_of_ble_eq_true rfl⟩ ⟨Nat.zero_le _, Nat.zero_le _⟩ ⟨by decide +kernel, by decide +kernel, by decide +kernel⟩ rfl [2, 3] rfl rfl (by decide) rfl (Nat.le_of_ble_eq_true rfl) dX4_place_52 (ws' := wXX T ad xv) rfl ?_
        have e9 : F_X4_place xv p1 p2 = (F_X3_heightAt xv.2.1.2.1 p1) := by simp only [F_X4_place, eq_false c_1, eq_true c_7, eq_true c_13_0, if_true, if_false]
        rw [e9]
        exact g_iret hX dX4_place_55 rfl rfl
      · skip
        by_cases c_13_1 : p2 = 1
        · skip
          refine g_tabIn hX (off := 43) 56 dX4_place_13 (by rw [c_13_1]; decide) (by rw [c_13_1]; decide) (by rw [c_13_1]; decide) (by decide) ?_
          refine g_aload_n hX dX4_place_56 rfl 0 rfl ?_
          refine g_get hX 4 h_X4_place_X4 0 rfl rfl 0 (by decide) k_X4_place_0 rfl (v := .ref (ad 1)) rfl dX4_place_57 ?_
          refine g_iload_n hX dX4_place_60 rfl 1 rfl ?_
          refine g_perm (pm_1 _ _ _ _ _ _ _) ?_
          refine g_pVN_I hX (n := 1) (As := [.int p1]) (wc := wSt T (ad 1) (ad 2) (ad 3) (ad 4) (ad 5) xv.2.1) (w1 := wSt T (ad 1) (ad 2) (ad 3) (ad 4) (ad 5) xv.2.1) (rv := (F_X2_knotsAt xv.2.1 p1)) (st := []) 0 rfl rfl (c_X2_knotsAt (xL X) T (xB X) (ad 1) (ad 2) (ad 3) (ad 4) (ad 5) xv.2.1 p1) ggX4_place_X2_knotsAt 47 rfl k_X4_place_7 k_X4_place_6 k_X4_place_8 rfl rfl rfl ⟨Nat.le_of_ble_eq_true rfl, Nat.le_of_ble_eq_true rfl⟩ ⟨Nat.zero_le _, Nat.zero_le _⟩ ⟨by decide +kernel, by decide +kernel, by decide +kernel⟩ rfl rfl rfl rfl (Nat.le_of_ble_eq_true rfl) dX4_place_61 rfl ?_
          refine g_perm (pm_1 _ _ _ _ _ _ _).symm ?_
          refine g_cast (ws' := wXX T ad xv) rfl ?_
          have e9 : F_X4_place xv p1 p2 = (F_X2_knotsAt xv.2.1 p1) := by simp only [F_X4_place, eq_false c_1, eq_true c_7, eq_false c_13_0, eq_true c_13_1, if_true, if_false]
          rw [e9]
          exact g_iret hX dX4_place_64 rfl rfl
        · skip
          by_cases c_13_2 : p2 = 2
          · skip
            refine g_tabIn hX (off := 52) 65 dX4_place_13 (by rw [c_13_2]; decide) (by rw [c_13_2]; decide) (by rw [c_13_2]; decide) (by decide) ?_
            refine g_aload_n hX dX4_place_65 rfl 0 rfl ?_
            refine g_get hX 4 h_X4_place_X4 0 rfl rfl 0 (by decide) k_X4_place_0 rfl (v := .ref (ad 1)) rfl dX4_place_66 ?_
            refine g_getN hX 2 h_X4_place_X2 1 rfl rfl 0 (by decide) 3 rfl rfl (v := .ref (ad 2)) rfl dX4_place_69 ?_
            refine g_iload_n hX dX4_place_72 rfl 1 rfl ?_
            refine g_cVN_I hX (n := 1) (As := [.int p1]) (wc := wWr T (ad 2) (ad 3) xv.2.1.2.1) (w1 := wWr T (ad 2) (ad 3) xv.2.1.2.1) (rv := (F_X3_isRibbon xv.2.1.2.1 p1)) (st := []) 2 rfl rfl (c_X3_isRibbon (xL X) T (xB X) (ad 2) (ad 3) xv.2.1.2.1 p1) ggX4_place_X3_isRibbon 48 rfl k_X4_place_2 k_X4_place_11 k_X4_place_12 rfl rfl rfl ⟨Nat.le_of_ble_eq_true rfl, Nat.le_of_ble_eq_true rfl⟩ ⟨Nat.zero_le _, Nat.zero_le _⟩ ⟨by decide +kernel, by decide +kernel, by decide +kernel⟩ rfl [2, 3] rfl rfl (by decide) rfl (Nat.le_of_ble_eq_true rfl) dX4_place_73 (ws' := wXX T ad xv) rfl ?_
            refine g_cS_I hX (n := 1) (As := [.int (F_X3_isRibbon xv.2.1.2.1 p1)]) (wc := []) (w1 := []) (rv := (F_X4_oneIf (F_X3_isRibbon xv.2.1.2.1 p1))) (st := []) (c_X4_oneIf (xL X) T (xB X) (F_X3_isRibbon xv.2.1.2.1 p1)) gX4_place_X4_oneIf rfl rfl rfl ⟨Nat.le_of_ble_eq_true rfl, Nat.le_of_ble_eq_true rfl⟩ ⟨Nat.zero_le _, Nat.zero_le _⟩ ⟨by decide +kernel, by decide +kernel, by decide +kernel⟩ rfl [] rfl rfl (by decide) rfl (Nat.le_of_ble_eq_true rfl) dX4_place_76 (ws' := wXX T ad xv) rfl ?_
            have e9 : F_X4_place xv p1 p2 = (F_X4_oneIf (F_X3_isRibbon xv.2.1.2.1 p1)) := by simp only [F_X4_place, eq_false c_1, eq_true c_7, eq_false c_13_0, eq_false c_13_1, eq_true c_13_2, if_true, if_false]
            rw [e9]
            exact g_iret hX dX4_place_79 rfl rfl
          · skip
            by_cases c_13_3 : p2 = 3
            · skip
              refine g_tabIn hX (off := 67) 80 dX4_place_13 (by rw [c_13_3]; decide) (by rw [c_13_3]; decide) (by rw [c_13_3]; decide) (by decide) ?_
              refine g_aload_n hX dX4_place_80 rfl 0 rfl ?_
              refine g_get hX 4 h_X4_place_X4 0 rfl rfl 0 (by decide) k_X4_place_0 rfl (v := .ref (ad 1)) rfl dX4_place_81 ?_
              refine g_iload_n hX dX4_place_84 rfl 1 rfl ?_
              refine g_perm (pm_1 _ _ _ _ _ _ _) ?_
              refine g_pVN_I hX (n := 1) (As := [.int p1]) (wc := wSt T (ad 1) (ad 2) (ad 3) (ad 4) (ad 5) xv.2.1) (w1 := wSt T (ad 1) (ad 2) (ad 3) (ad 4) (ad 5) xv.2.1) (rv := (F_X2_isBad xv.2.1 p1)) (st := []) 0 rfl rfl (c_X2_isBad (xL X) T (xB X) (ad 1) (ad 2) (ad 3) (ad 4) (ad 5) xv.2.1 p1) ggX4_place_X2_isBad 49 rfl k_X4_place_7 k_X4_place_23 k_X4_place_24 rfl rfl rfl ⟨Nat.le_of_ble_eq_true rfl, Nat.le_of_ble_eq_true rfl⟩ ⟨Nat.zero_le _, Nat.zero_le _⟩ ⟨by decide +kernel, by decide +kernel, by decide +kernel⟩ rfl rfl rfl rfl (Nat.le_of_ble_eq_true rfl) dX4_place_85 rfl ?_
              refine g_perm (pm_1 _ _ _ _ _ _ _).symm ?_
              refine g_cast (ws' := wXX T ad xv) rfl ?_
              refine g_cS_I hX (n := 1) (As := [.int (F_X2_isBad xv.2.1 p1)]) (wc := []) (w1 := []) (rv := (F_X4_oneIf (F_X2_isBad xv.2.1 p1))) (st := []) (c_X4_oneIf (xL X) T (xB X) (F_X2_isBad xv.2.1 p1)) gX4_place_X4_oneIf rfl rfl rfl ⟨Nat.le_of_ble_eq_true rfl, Nat.le_of_ble_eq_true rfl⟩ ⟨Nat.zero_le _, Nat.zero_le _⟩ ⟨by decide +kernel, by decide +kernel, by decide +kernel⟩ rfl [] rfl rfl (by decide) rfl (Nat.le_of_ble_eq_true rfl) dX4_place_88 (ws' := wXX T ad xv) rfl ?_
              have e9 : F_X4_place xv p1 p2 = (F_X4_oneIf (F_X2_isBad xv.2.1 p1)) := by simp only [F_X4_place, eq_false c_1, eq_true c_7, eq_false c_13_0, eq_false c_13_1, eq_false c_13_2, eq_true c_13_3, if_true, if_false]
              rw [e9]
              exact g_iret hX dX4_place_91 rfl rfl
            · skip
              have tc_13_0 : ¬ Int32.toInt p2 = 0 := lv_neT c_13_0 (by decide)
              have tc_13_1 : ¬ Int32.toInt p2 = 1 := lv_neT c_13_1 (by decide)
              have tc_13_2 : ¬ Int32.toInt p2 = 2 := lv_neT c_13_2 (by decide)
              have tc_13_3 : ¬ Int32.toInt p2 = 3 := lv_neT c_13_3 (by decide)
              refine g_tabOut hX 92 dX4_place_13 (by omega) (by decide) ?_
              refine g_bipush hX (v := (-2)) dX4_place_92 (by decide) ?_
              have e9 : F_X4_place xv p1 p2 = (-2) := by simp only [F_X4_place, eq_false c_1, eq_true c_7, eq_false c_13_0, eq_false c_13_1, eq_false c_13_2, eq_false c_13_3, if_true, if_false]
              rw [e9]
              exact g_iret hX dX4_place_94 rfl rfl
    · skip
      refine g_iconst hX (v := (-1)) dX4_place_10 (by decide) ?_
      have e9 : F_X4_place xv p1 p2 = (-1) := by simp only [F_X4_place, eq_false c_1, eq_false c_7, if_true, if_false]
      rw [e9]
      exact g_iret hX dX4_place_11 rfl rfl
/-! X4_wrong -/
def rmX4_wrong : Room := { frames := 4, cells := 0, slots := 0, locals := 88 }
theorem k_X4_wrong_0 : Cond.fieldLink RX4 12 RX4 (TX4 0).2.1 (TX4 0).2.2.1 ∈ wsX4_wrong := List.mem_of_getElem? (i := 1) rfl
theorem h_X4_wrong_X4 : ∀ w ∈ u_ws RX4 TX4 8, w ∈ wsX4_wrong := fun w h => List.mem_cons_of_mem _ (List.mem_append_left _ (List.mem_append_left _ (List.mem_append_right _ h)))
theorem h_X4_wrong_X2 : ∀ w ∈ u_ws RX2 TX2 11, w ∈ wsX4_wrong := fun w h => List.mem_cons_of_mem _ (List.mem_append_left _ (List.mem_append_right _ h))
theorem k_X4_wrong_2 : Cond.initialized RX2 ∈ wsX4_wrong := List.mem_of_getElem? (i := 3) rfl
theorem k_X4_wrong_1 : Cond.instanceMethod yX2_isConeEmpty ∈ wsX4_wrong := List.mem_of_getElem? (i := 2) rfl
theorem k_X4_wrong_3 : Cond.selects RX2 yX2_isConeEmpty yX2_isConeEmpty ∈ wsX4_wrong := List.mem_of_getElem? (i := 4) rfl
theorem k_X4_wrong_6 : Cond.instanceMethod yX2_hasBadPlace ∈ wsX4_wrong := List.mem_of_getElem? (i := 7) rfl
theorem k_X4_wrong_7 : Cond.selects RX2 yX2_hasBadPlace yX2_hasBadPlace ∈ wsX4_wrong := List.mem_of_getElem? (i := 8) rfl
theorem k_X4_wrong_19 : Cond.initialized RX3 ∈ wsX4_wrong := List.mem_of_getElem? (i := 20) rfl
theorem k_X4_wrong_18 : Cond.instanceMethod yX3_ribbons ∈ wsX4_wrong := List.mem_of_getElem? (i := 19) rfl
theorem k_X4_wrong_20 : Cond.selects RX3 yX3_ribbons yX3_ribbons ∈ wsX4_wrong := List.mem_of_getElem? (i := 21) rfl
theorem k_X4_wrong_38 : Cond.instanceMethod yX3_evenness ∈ wsX4_wrong := List.mem_of_getElem? (i := 39) rfl
theorem k_X4_wrong_39 : Cond.selects RX3 yX3_evenness yX3_evenness ∈ wsX4_wrong := List.mem_of_getElem? (i := 40) rfl
def F_X4_wrong (xv : XV) : Int32 :=
  (if (xv.2.1.1 2) = 0 then (if (F_X2_isConeEmpty xv.2.1) = 0 then (if (F_X2_hasBadPlace xv.2.1) = 0 then (if (F_X3_ribbons xv.2.1.2.1) ≤ 0 then (if (F_X3_evenness xv.2.1.2.1) < 10 then 0 else 5) else 4) else 3) else 2) else 1)
set_option maxHeartbeats 4000000 in
set_option maxRecDepth 100000 in
theorem c_X4_wrong (l : Launch) (T : TT) (b0 : Nat) (ad : Nat → Nat) (xv : XV)  : ConI l T b0 yX4_wrong wsX4_wrong rmX4_wrong [.ref (ad 0)] (wXX T ad xv) (F_X4_wrong xv) (wXX T ad xv) := by
  refine conI_of (cc := cX4_wrong) (maxL := 1) (ret := (some .int)) (lv0 := [(0, .ref (ad 0))]) (by decide +kernel) rfl (Nat.le_of_ble_eq_true rfl) rfl (fun X hX => ?_)
  refine g_aload_n hX dX4_wrong_0 rfl 0 rfl ?_
  refine g_get hX 4 h_X4_wrong_X4 0 rfl rfl 0 (by decide) k_X4_wrong_0 rfl (v := .ref (ad 1)) rfl dX4_wrong_1 ?_
  refine g_getN hX 2 h_X4_wrong_X2 1 rfl rfl 5 (by decide) 6 rfl rfl (v := .int (xv.2.1.1 2)) rfl dX4_wrong_4 ?_
  refine g_if_eq hX 12 dX4_wrong_7 (by decide) (fun c_7 => ?_) (fun c_7 => ?_)
  · skip
    refine g_aload_n hX dX4_wrong_12 rfl 0 rfl ?_
    refine g_get hX 4 h_X4_wrong_X4 0 rfl rfl 0 (by decide) k_X4_wrong_0 rfl (v := .ref (ad 1)) rfl dX4_wrong_13 ?_
    refine g_perm (pm_1 _ _ _ _ _ _ _) ?_
    refine g_pVN_I hX (n := 0) (As := []) (wc := wSt T (ad 1) (ad 2) (ad 3) (ad 4) (ad 5) xv.2.1) (w1 := wSt T (ad 1) (ad 2) (ad 3) (ad 4) (ad 5) xv.2.1) (rv := (F_X2_isConeEmpty xv.2.1)) (st := []) 0 rfl rfl (c_X2_isConeEmpty (xL X) T (xB X) (ad 1) (ad 2) (ad 3) (ad 4) (ad 5) xv.2.1) ggX4_wrong_X2_isConeEmpty 50 rfl k_X4_wrong_2 k_X4_wrong_1 k_X4_wrong_3 rfl rfl rfl ⟨Nat.le_of_ble_eq_true rfl, Nat.le_of_ble_eq_true rfl⟩ ⟨Nat.zero_le _, Nat.zero_le _⟩ ⟨by decide +kernel, by decide +kernel, by decide +kernel⟩ rfl rfl rfl rfl (Nat.le_of_ble_eq_true rfl) dX4_wrong_16 rfl ?_
    refine g_perm (pm_1 _ _ _ _ _ _ _).symm ?_
    refine g_cast (ws' := wXX T ad xv) rfl ?_
    refine g_if_eq hX 24 dX4_wrong_19 (by decide) (fun c_19 => ?_) (fun c_19 => ?_)
    · skip
      refine g_aload_n hX dX4_wrong_24 rfl 0 rfl ?_
      refine g_get hX 4 h_X4_wrong_X4 0 rfl rfl 0 (by decide) k_X4_wrong_0 rfl (v := .ref (ad 1)) rfl dX4_wrong_25 ?_
      refine g_perm (pm_1 _ _ _ _ _ _ _) ?_
      refine g_pVN_I hX (n := 0) (As := []) (wc := wSt T (ad 1) (ad 2) (ad 3) (ad 4) (ad 5) xv.2.1) (w1 := wSt T (ad 1) (ad 2) (ad 3) (ad 4) (ad 5) xv.2.1) (rv := (F_X2_hasBadPlace xv.2.1)) (st := []) 0 rfl rfl (c_X2_hasBadPlace (xL X) T (xB X) (ad 1) (ad 2) (ad 3) (ad 4) (ad 5) xv.2.1) ggX4_wrong_X2_hasBadPlace 51 rfl k_X4_wrong_2 k_X4_wrong_6 k_X4_wrong_7 rfl rfl rfl ⟨Nat.le_of_ble_eq_true rfl, Nat.le_of_ble_eq_true rfl⟩ ⟨Nat.zero_le _, Nat.zero_le _⟩ ⟨by decide +kernel, by decide +kernel, by decide +kernel⟩ rfl rfl rfl rfl (Nat.le_of_ble_eq_true rfl) dX4_wrong_28 rfl ?_
      refine g_perm (pm_1 _ _ _ _ _ _ _).symm ?_
      refine g_cast (ws' := wXX T ad xv) rfl ?_
      refine g_if_eq hX 36 dX4_wrong_31 (by decide) (fun c_31 => ?_) (fun c_31 => ?_)
      · skip
        refine g_aload_n hX dX4_wrong_36 rfl 0 rfl ?_
        refine g_get hX 4 h_X4_wrong_X4 0 rfl rfl 0 (by decide) k_X4_wrong_0 rfl (v := .ref (ad 1)) rfl dX4_wrong_37 ?_
        refine g_getN hX 2 h_X4_wrong_X2 1 rfl rfl 0 (by decide) 3 rfl rfl (v := .ref (ad 2)) rfl dX4_wrong_40 ?_
        refine g_cVN_I hX (n := 0) (As := []) (wc := wWr T (ad 2) (ad 3) xv.2.1.2.1) (w1 := wWr T (ad 2) (ad 3) xv.2.1.2.1) (rv := (F_X3_ribbons xv.2.1.2.1)) (st := []) 2 rfl rfl (c_X3_ribbons (xL X) T (xB X) (ad 2) (ad 3) xv.2.1.2.1) ggX4_wrong_X3_ribbons 52 rfl k_X4_wrong_19 k_X4_wrong_18 k_X4_wrong_20 rfl rfl rfl ⟨Nat.le_of_ble_eq_true rfl, Nat.le_of_ble_eq_true rfl⟩ ⟨Nat.zero_le _, Nat.zero_le _⟩ ⟨by decide +kernel, by decide +kernel, by decide +kernel⟩ rfl [2, 3] rfl rfl (by decide) rfl (Nat.le_of_ble_eq_true rfl) dX4_wrong_43 (ws' := wXX T ad xv) rfl ?_
        refine g_if_le hX 51 dX4_wrong_46 (by decide) (fun c_46 => ?_) (fun c_46 => ?_)
        · skip
          refine g_aload_n hX dX4_wrong_51 rfl 0 rfl ?_
          refine g_get hX 4 h_X4_wrong_X4 0 rfl rfl 0 (by decide) k_X4_wrong_0 rfl (v := .ref (ad 1)) rfl dX4_wrong_52 ?_
          refine g_getN hX 2 h_X4_wrong_X2 1 rfl rfl 0 (by decide) 3 rfl rfl (v := .ref (ad 2)) rfl dX4_wrong_55 ?_
          refine g_cVN_I hX (n := 0) (As := []) (wc := wWr T (ad 2) (ad 3) xv.2.1.2.1) (w1 := wWr T (ad 2) (ad 3) xv.2.1.2.1) (rv := (F_X3_evenness xv.2.1.2.1)) (st := []) 2 rfl rfl (c_X3_evenness (xL X) T (xB X) (ad 2) (ad 3) xv.2.1.2.1) ggX4_wrong_X3_evenness 53 rfl k_X4_wrong_19 k_X4_wrong_38 k_X4_wrong_39 rfl rfl rfl ⟨Nat.le_of_ble_eq_true rfl, Nat.le_of_ble_eq_true rfl⟩ ⟨Nat.zero_le _, Nat.zero_le _⟩ ⟨by decide +kernel, by decide +kernel, by decide +kernel⟩ rfl [2, 3] rfl rfl (by decide) rfl (Nat.le_of_ble_eq_true rfl) dX4_wrong_58 (ws' := wXX T ad xv) rfl ?_
          refine g_bipush hX (v := 10) dX4_wrong_61 (by decide) ?_
          refine g_icmp_lt hX 70 dX4_wrong_63 (by decide) (fun c_63 => ?_) (fun c_63 => ?_)
          · skip
            refine g_iconst hX (v := 0) dX4_wrong_70 (by decide) ?_
            have e9 : F_X4_wrong xv = 0 := by simp only [F_X4_wrong, eq_true c_7, eq_true c_19, eq_true c_31, eq_true c_46, eq_true c_63, if_true, if_false]
            rw [e9]
            exact g_iret hX dX4_wrong_71 rfl rfl
          · skip
            refine g_iconst hX (v := 5) dX4_wrong_66 (by decide) ?_
            refine g_goto hX 71 dX4_wrong_67 (by decide) ?_
            have e9 : F_X4_wrong xv = 5 := by simp only [F_X4_wrong, eq_true c_7, eq_true c_19, eq_true c_31, eq_true c_46, eq_false c_63, if_true, if_false]
            rw [e9]
            exact g_iret hX dX4_wrong_71 rfl rfl
        · skip
          refine g_iconst hX (v := 4) dX4_wrong_49 (by decide) ?_
          have e9 : F_X4_wrong xv = 4 := by simp only [F_X4_wrong, eq_true c_7, eq_true c_19, eq_true c_31, eq_false c_46, if_true, if_false]
          rw [e9]
          exact g_iret hX dX4_wrong_50 rfl rfl
      · skip
        refine g_iconst hX (v := 3) dX4_wrong_34 (by decide) ?_
        have e9 : F_X4_wrong xv = 3 := by simp only [F_X4_wrong, eq_true c_7, eq_true c_19, eq_false c_31, if_true, if_false]
        rw [e9]
        exact g_iret hX dX4_wrong_35 rfl rfl
    · skip
      refine g_iconst hX (v := 2) dX4_wrong_22 (by decide) ?_
      have e9 : F_X4_wrong xv = 2 := by simp only [F_X4_wrong, eq_true c_7, eq_false c_19, if_true, if_false]
      rw [e9]
      exact g_iret hX dX4_wrong_23 rfl rfl
  · skip
    refine g_iconst hX (v := 1) dX4_wrong_10 (by decide) ?_
    have e9 : F_X4_wrong xv = 1 := by simp only [F_X4_wrong, eq_false c_7, if_true, if_false]
    rw [e9]
    exact g_iret hX dX4_wrong_11 rfl rfl
/-! X4_count -/
def rmX4_count : Room := { frames := 4, cells := 0, slots := 0, locals := 88 }
theorem k_X4_count_0 : Cond.fieldLink RX4 12 RX4 (TX4 0).2.1 (TX4 0).2.2.1 ∈ wsX4_count := List.mem_of_getElem? (i := 1) rfl
theorem h_X4_count_X4 : ∀ w ∈ u_ws RX4 TX4 8, w ∈ wsX4_count := fun w h => List.mem_cons_of_mem _ (List.mem_append_left _ (List.mem_append_left _ (List.mem_append_left _ (List.mem_append_left _ (List.mem_append_right _ h)))))
theorem h_X4_count_X2 : ∀ w ∈ u_ws RX2 TX2 11, w ∈ wsX4_count := fun w h => List.mem_cons_of_mem _ (List.mem_append_left _ (List.mem_append_left _ (List.mem_append_left _ (List.mem_append_right _ h))))
theorem h_X4_count_X3 : ∀ w ∈ u_ws RX3 TX3 4, w ∈ wsX4_count := fun w h => List.mem_cons_of_mem _ (List.mem_append_left _ (List.mem_append_left _ (List.mem_append_right _ h)))
theorem k_X4_count_4 : Cond.initialized RX3 ∈ wsX4_count := List.mem_of_getElem? (i := 5) rfl
theorem k_X4_count_3 : Cond.instanceMethod yX3_guidePlace ∈ wsX4_count := List.mem_of_getElem? (i := 4) rfl
theorem k_X4_count_5 : Cond.selects RX3 yX3_guidePlace yX3_guidePlace ∈ wsX4_count := List.mem_of_getElem? (i := 6) rfl
theorem k_X4_count_8 : Cond.instanceMethod yX3_guideGoesBack ∈ wsX4_count := List.mem_of_getElem? (i := 9) rfl
theorem k_X4_count_9 : Cond.selects RX3 yX3_guideGoesBack yX3_guideGoesBack ∈ wsX4_count := List.mem_of_getElem? (i := 10) rfl
theorem k_X4_count_16 : Cond.initialized RX2 ∈ wsX4_count := List.mem_of_getElem? (i := 17) rfl
theorem k_X4_count_15 : Cond.instanceMethod yX2_isConeEmpty ∈ wsX4_count := List.mem_of_getElem? (i := 16) rfl
theorem k_X4_count_17 : Cond.selects RX2 yX2_isConeEmpty yX2_isConeEmpty ∈ wsX4_count := List.mem_of_getElem? (i := 18) rfl
theorem k_X4_count_20 : Cond.instanceMethod yX3_isFull ∈ wsX4_count := List.mem_of_getElem? (i := 21) rfl
theorem k_X4_count_21 : Cond.selects RX3 yX3_isFull yX3_isFull ∈ wsX4_count := List.mem_of_getElem? (i := 22) rfl
theorem k_X4_count_24 : Cond.instanceMethod yX3_evenness ∈ wsX4_count := List.mem_of_getElem? (i := 25) rfl
theorem k_X4_count_25 : Cond.selects RX3 yX3_evenness yX3_evenness ∈ wsX4_count := List.mem_of_getElem? (i := 26) rfl
theorem k_X4_count_32 : Cond.instanceMethod yX3_ribbons ∈ wsX4_count := List.mem_of_getElem? (i := 33) rfl
theorem k_X4_count_33 : Cond.selects RX3 yX3_ribbons yX3_ribbons ∈ wsX4_count := List.mem_of_getElem? (i := 34) rfl
theorem k_X4_count_47 : Cond.instanceMethod yX2_allKnots ∈ wsX4_count := List.mem_of_getElem? (i := 48) rfl
theorem k_X4_count_48 : Cond.selects RX2 yX2_allKnots yX2_allKnots ∈ wsX4_count := List.mem_of_getElem? (i := 49) rfl
theorem k_X4_count_1 : Cond.fieldLink RX4 32 RX4 (TX4 4).2.1 (TX4 4).2.2.1 ∈ wsX4_count := List.mem_of_getElem? (i := 2) rfl
theorem h_X4_count_X1 : ∀ w ∈ u_ws RX1 TX1 3, w ∈ wsX4_count := fun w h => List.mem_cons_of_mem _ (List.mem_append_left _ (List.mem_append_right _ h))
theorem k_X4_count_2 : Cond.fieldLink RX4 39 RX4 (TX4 5).2.1 (TX4 5).2.2.1 ∈ wsX4_count := List.mem_of_getElem? (i := 3) rfl
theorem h_X4_count_X0 : ∀ w ∈ u_ws RX0 TX0 7, w ∈ wsX4_count := fun w h => List.mem_cons_of_mem _ (List.mem_append_right _ h)
theorem k_X4_count_51 : Cond.instanceMethod yX2_number ∈ wsX4_count := List.mem_of_getElem? (i := 52) rfl
theorem k_X4_count_52 : Cond.selects RX2 yX2_number yX2_number ∈ wsX4_count := List.mem_of_getElem? (i := 53) rfl
def F_X4_count (xv : XV) (p1 : Int32) : Int32 :=
  (if p1 = 0 then (xv.2.1.2.1.1 0) else (if p1 = 1 then (xv.2.1.1 0) else (if p1 = 2 then (F_X3_guidePlace xv.2.1.2.1) else (if p1 = 3 then (F_X4_oneIf (F_X3_guideGoesBack xv.2.1.2.1)) else (if p1 = 4 then (xv.2.1.1 1) else (if p1 = 5 then (xv.2.1.1 4) else (if p1 = 6 then (F_X4_oneIf (xv.2.1.1 2)) else (if p1 = 7 then (F_X4_oneIf (F_X2_isConeEmpty xv.2.1)) else (if p1 = 8 then (F_X4_oneIf (F_X3_isFull xv.2.1.2.1)) else (if p1 = 9 then (F_X3_evenness xv.2.1.2.1) else (if p1 = 10 then (F_X3_ribbons xv.2.1.2.1) else (if p1 = 11 then (F_X2_allKnots xv.2.1) else (if p1 = 12 then (xv.2.1.1 5) else (if p1 = 13 then (xv.2.1.1 6) else (if p1 = 14 then (xv.2.1.1 7) else (if p1 = 15 then (xv.2.2.2.2.2.1.1 1) else (if p1 = 16 then (xv.2.2.2.2.2.2.1 0) else (if p1 = 20 then (F_X2_number xv.2.1 (p1 - 20)) else (if p1 = 21 then (F_X2_number xv.2.1 (p1 - 20)) else (if p1 = 22 then (F_X2_number xv.2.1 (p1 - 20)) else (if p1 = 23 then (F_X2_number xv.2.1 (p1 - 20)) else (if p1 = 24 then (F_X2_number xv.2.1 (p1 - 20)) else (-2)))))))))))))))))))))))
set_option maxHeartbeats 4000000 in
set_option maxRecDepth 100000 in
theorem c_X4_count (l : Launch) (T : TT) (b0 : Nat) (ad : Nat → Nat) (xv : XV) (p1 : Int32)  : ConI l T b0 yX4_count wsX4_count rmX4_count [.ref (ad 0), .int p1] (wXX T ad xv) (F_X4_count xv p1) (wXX T ad xv) := by
  refine conI_of (cc := cX4_count) (maxL := 2) (ret := (some .int)) (lv0 := [(0, .ref (ad 0)), (1, .int p1)]) (by decide +kernel) rfl (Nat.le_of_ble_eq_true rfl) rfl (fun X hX => ?_)
  refine g_iload_n hX dX4_count_0 rfl 1 rfl ?_
  by_cases c_1_0 : p1 = 0
  · skip
    refine g_tabIn hX (off := 115) 116 dX4_count_1 (by rw [c_1_0]; decide) (by rw [c_1_0]; decide) (by rw [c_1_0]; decide) (by decide) ?_
    refine g_aload_n hX dX4_count_116 rfl 0 rfl ?_
    refine g_get hX 4 h_X4_count_X4 0 rfl rfl 0 (by decide) k_X4_count_0 rfl (v := .ref (ad 1)) rfl dX4_count_117 ?_
    refine g_getN hX 2 h_X4_count_X2 1 rfl rfl 0 (by decide) 3 rfl rfl (v := .ref (ad 2)) rfl dX4_count_120 ?_
    refine g_getN hX 3 h_X4_count_X3 2 rfl rfl 1 (by decide) 1 rfl rfl (v := .int (xv.2.1.2.1.1 0)) rfl dX4_count_123 ?_
    have e9 : F_X4_count xv p1 = (xv.2.1.2.1.1 0) := by simp only [F_X4_count, eq_true c_1_0, if_true, if_false]
    rw [e9]
    exact g_iret hX dX4_count_126 rfl rfl
  · skip
    by_cases c_1_1 : p1 = 1
    · skip
      refine g_tabIn hX (off := 126) 127 dX4_count_1 (by rw [c_1_1]; decide) (by rw [c_1_1]; decide) (by rw [c_1_1]; decide) (by decide) ?_
      refine g_aload_n hX dX4_count_127 rfl 0 rfl ?_
      refine g_get hX 4 h_X4_count_X4 0 rfl rfl 0 (by decide) k_X4_count_0 rfl (v := .ref (ad 1)) rfl dX4_count_128 ?_
      refine g_getN hX 2 h_X4_count_X2 1 rfl rfl 3 (by decide) 4 rfl rfl (v := .int (xv.2.1.1 0)) rfl dX4_count_131 ?_
      have e9 : F_X4_count xv p1 = (xv.2.1.1 0) := by simp only [F_X4_count, eq_false c_1_0, eq_true c_1_1, if_true, if_false]
      rw [e9]
      exact g_iret hX dX4_count_134 rfl rfl
    · skip
      by_cases c_1_2 : p1 = 2
      · skip
        refine g_tabIn hX (off := 134) 135 dX4_count_1 (by rw [c_1_2]; decide) (by rw [c_1_2]; decide) (by rw [c_1_2]; decide) (by decide) ?_
        refine g_aload_n hX dX4_count_135 rfl 0 rfl ?_
        refine g_get hX 4 h_X4_count_X4 0 rfl rfl 0 (by decide) k_X4_count_0 rfl (v := .ref (ad 1)) rfl dX4_count_136 ?_
        refine g_getN hX 2 h_X4_count_X2 1 rfl rfl 0 (by decide) 3 rfl rfl (v := .ref (ad 2)) rfl dX4_count_139 ?_
        refine g_cVN_I hX (n := 0) (As := []) (wc := wWr T (ad 2) (ad 3) xv.2.1.2.1) (w1 := wWr T (ad 2) (ad 3) xv.2.1.2.1) (rv := (F_X3_guidePlace xv.2.1.2.1)) (st := []) 2 rfl rfl (c_X3_guidePlace (xL X) T (xB X) (ad 2) (ad 3) xv.2.1.2.1) ggX4_count_X3_guidePlace 62 rfl k_X4_count_4 k_X4_count_3 k_X4_count_5 rfl rfl rfl ⟨Nat.le_of_ble_eq_true rfl, Nat.le_of_ble_eq_true rfl⟩ ⟨Nat.zero_le _, Nat.zero_le _⟩ ⟨by decide +kernel, by decide +kernel, by decide +kernel⟩ rfl [2, 3] rfl rfl (by decide) rfl (Nat.le_of_ble_eq_true rfl) dX4_count_142 (ws' := wXX T ad xv) rfl ?_
        have e9 : F_X4_count xv p1 = (F_X3_guidePlace xv.2.1.2.1) := by simp only [F_X4_count, eq_false c_1_0, eq_false c_1_1, eq_true c_1_2, if_true, if_false]
        rw [e9]
        exact g_iret hX dX4_count_145 rfl rfl
      · skip
        by_cases c_1_3 : p1 = 3
        · skip
          refine g_tabIn hX (off := 145) 146 dX4_count_1 (by rw [c_1_3]; decide) (by rw [c_1_3]; decide) (by rw [c_1_3]; decide) (by decide) ?_
          refine g_aload_n hX dX4_count_146 rfl 0 rfl ?_
          refine g_get hX 4 h_X4_count_X4 0 rfl rfl 0 (by decide) k_X4_count_0 rfl (v := .ref (ad 1)) rfl dX4_count_147 ?_
          refine g_getN hX 2 h_X4_count_X2 1 rfl rfl 0 (by decide) 3 rfl rfl (v := .ref (ad 2)) rfl dX4_count_150 ?_
          refine g_cVN_I hX (n := 0) (As := []) (wc := wWr T (ad 2) (ad 3) xv.2.1.2.1) (w1 := wWr T (ad 2) (ad 3) xv.2.1.2.1) (rv := (F_X3_guideGoesBack xv.2.1.2.1)) (st := []) 2 rfl rfl (c_X3_guideGoesBack (xL X) T (xB X) (ad 2) (ad 3) xv.2.1.2.1) ggX4_count_X3_guideGoesBack 63 rfl k_X4_count_4 k_X4_count_8 k_X4_count_9 rfl rfl rfl ⟨Nat.le_of_ble_eq_true rfl, Nat.le_of_ble_eq_true rfl⟩ ⟨Nat.zero_le _, Nat.zero_le _⟩ ⟨by decide +kernel, by decide +kernel, by decide +kernel⟩ rfl [2, 3] rfl rfl (by decide) rfl (Nat.le_of_ble_eq_true rfl) dX4_count_153 (ws' := wXX T ad xv) rfl ?_
          refine g_cS_I hX (n := 1) (As := [.int (F_X3_guideGoesBack xv.2.1.2.1)]) (wc := []) (w1 := []) (rv := (F_X4_oneIf (F_X3_guideGoesBack xv.2.1.2.1))) (st := []) (c_X4_oneIf (xL X) T (xB X) (F_X3_guideGoesBack xv.2.1.2.1)) gX4_count_X4_oneIf rfl rfl rfl ⟨Nat.le_of_ble_eq_true rfl, Nat.le_of_ble_eq_true rfl⟩ ⟨Nat.zero_le _, Nat.zero_le _⟩ ⟨by decide +kernel, by decide +kernel, by decide +kernel⟩ rfl [] rfl rfl (by decide) rfl (Nat.le_of_ble_eq_true rfl) dX4_count_156 (ws' := wXX T ad xv) rfl ?_
          have e9 : F_X4_count xv p1 = (F_X4_oneIf (F_X3_guideGoesBack xv.2.1.2.1)) := by simp only [F_X4_count, eq_false c_1_0, eq_false c_1_1, eq_false c_1_2, eq_true c_1_3, if_true, if_false]
          rw [e9]
          exact g_iret hX dX4_count_159 rfl rfl
        · skip
          by_cases c_1_4 : p1 = 4
          · skip
            refine g_tabIn hX (off := 159) 160 dX4_count_1 (by rw [c_1_4]; decide) (by rw [c_1_4]; decide) (by rw [c_1_4]; decide) (by decide) ?_
            refine g_aload_n hX dX4_count_160 rfl 0 rfl ?_
            refine g_get hX 4 h_X4_count_X4 0 rfl rfl 0 (by decide) k_X4_count_0 rfl (v := .ref (ad 1)) rfl dX4_count_161 ?_
            refine g_getN hX 2 h_X4_count_X2 1 rfl rfl 4 (by decide) 5 rfl rfl (v := .int (xv.2.1.1 1)) rfl dX4_count_164 ?_
            have e9 : F_X4_count xv p1 = (xv.2.1.1 1) := by simp only [F_X4_count, eq_false c_1_0, eq_false c_1_1, eq_false c_1_2, eq_false c_1_3, eq_true c_1_4, if_true, if_false]
            rw [e9]
            exact g_iret hX dX4_count_167 rfl rfl
          · skip
            by_cases c_1_5 : p1 = 5
            · skip
              refine g_tabIn hX (off := 167) 168 dX4_count_1 (by rw [c_1_5]; decide) (by rw [c_1_5]; decide) (by rw [c_1_5]; decide) (by decide) ?_
              refine g_aload_n hX dX4_count_168 rfl 0 rfl ?_
              refine g_get hX 4 h_X4_count_X4 0 rfl rfl 0 (by decide) k_X4_count_0 rfl (v := .ref (ad 1)) rfl dX4_count_169 ?_
              refine g_getN hX 2 h_X4_count_X2 1 rfl rfl 7 (by decide) 7 rfl rfl (v := .int (xv.2.1.1 4)) rfl dX4_count_172 ?_
              have e9 : F_X4_count xv p1 = (xv.2.1.1 4) := by simp only [F_X4_count, eq_false c_1_0, eq_false c_1_1, eq_false c_1_2, eq_false c_1_3, eq_false c_1_4, eq_true c_1_5, if_true, if_false]
              rw [e9]
              exact g_iret hX dX4_count_175 rfl rfl
            · skip
              by_cases c_1_6 : p1 = 6
              · skip
                refine g_tabIn hX (off := 175) 176 dX4_count_1 (by rw [c_1_6]; decide) (by rw [c_1_6]; decide) (by rw [c_1_6]; decide) (by decide) ?_
                refine g_aload_n hX dX4_count_176 rfl 0 rfl ?_
                refine g_get hX 4 h_X4_count_X4 0 rfl rfl 0 (by decide) k_X4_count_0 rfl (v := .ref (ad 1)) rfl dX4_count_177 ?_
                refine g_getN hX 2 h_X4_count_X2 1 rfl rfl 5 (by decide) 6 rfl rfl (v := .int (xv.2.1.1 2)) rfl dX4_count_180 ?_
                refine g_cS_I hX (n := 1) (As := [.int (xv.2.1.1 2)]) (wc := []) (w1 := []) (rv := (F_X4_oneIf (xv.2.1.1 2))) (st := []) (c_X4_oneIf (xL X) T (xB X) (xv.2.1.1 2)) gX4_count_X4_oneIf rfl rfl rfl ⟨Nat.le_of_ble_eq_true rfl, Nat.le_of_ble_eq_true rfl⟩ ⟨Nat.zero_le _, Nat.zero_le _⟩ ⟨by decide +kernel, by decide +kernel, by decide +kernel⟩ rfl [] rfl rfl (by decide) rfl (Nat.le_of_ble_eq_true rfl) dX4_count_183 (ws' := wXX T ad xv) rfl ?_
                have e9 : F_X4_count xv p1 = (F_X4_oneIf (xv.2.1.1 2)) := by simp only [F_X4_count, eq_false c_1_0, eq_false c_1_1, eq_false c_1_2, eq_false c_1_3, eq_false c_1_4, eq_false c_1_5, eq_true c_1_6, if_true, if_false]
                rw [e9]
                exact g_iret hX dX4_count_186 rfl rfl
              · skip
                by_cases c_1_7 : p1 = 7
                · skip
                  refine g_tabIn hX (off := 186) 187 dX4_count_1 (by rw [c_1_7]; decide) (by rw [c_1_7]; decide) (by rw [c_1_7]; decide) (by decide) ?_
                  refine g_aload_n hX dX4_count_187 rfl 0 rfl ?_
                  refine g_get hX 4 h_X4_count_X4 0 rfl rfl 0 (by decide) k_X4_count_0 rfl (v := .ref (ad 1)) rfl dX4_count_188 ?_
                  refine g_perm (pm_1 _ _ _ _ _ _ _) ?_
                  refine g_pVN_I hX (n := 0) (As := []) (wc := wSt T (ad 1) (ad 2) (ad 3) (ad 4) (ad 5) xv.2.1) (w1 := wSt T (ad 1) (ad 2) (ad 3) (ad 4) (ad 5) xv.2.1) (rv := (F_X2_isConeEmpty xv.2.1)) (st := []) 0 rfl rfl (c_X2_isConeEmpty (xL X) T (xB X) (ad 1) (ad 2) (ad 3) (ad 4) (ad 5) xv.2.1) ggX4_count_X2_isConeEmpty 50 rfl k_X4_count_16 k_X4_count_15 k_X4_count_17 rfl rfl rfl ⟨Nat.le_of_ble_eq_true rfl, Nat.le_of_ble_eq_true rfl⟩ ⟨Nat.zero_le _, Nat.zero_le _⟩ ⟨by decide +kernel, by decide +kernel, by decide +kernel⟩ rfl rfl rfl rfl (Nat.le_of_ble_eq_true rfl) dX4_count_191 rfl ?_
                  refine g_perm (pm_1 _ _ _ _ _ _ _).symm ?_
                  refine g_cast (ws' := wXX T ad xv) rfl ?_
                  refine g_cS_I hX (n := 1) (As := [.int (F_X2_isConeEmpty xv.2.1)]) (wc := []) (w1 := []) (rv := (F_X4_oneIf (F_X2_isConeEmpty xv.2.1))) (st := []) (c_X4_oneIf (xL X) T (xB X) (F_X2_isConeEmpty xv.2.1)) gX4_count_X4_oneIf rfl rfl rfl ⟨Nat.le_of_ble_eq_true rfl, Nat.le_of_ble_eq_true rfl⟩ ⟨Nat.zero_le _, Nat.zero_le _⟩ ⟨by decide +kernel, by decide +kernel, by decide +kernel⟩ rfl [] rfl rfl (by decide) rfl (Nat.le_of_ble_eq_true rfl) dX4_count_194 (ws' := wXX T ad xv) rfl ?_
                  have e9 : F_X4_count xv p1 = (F_X4_oneIf (F_X2_isConeEmpty xv.2.1)) := by simp only [F_X4_count, eq_false c_1_0, eq_false c_1_1, eq_false c_1_2, eq_false c_1_3, eq_false c_1_4, eq_false c_1_5, eq_false c_1_6, eq_true c_1_7, if_true, if_false]
                  rw [e9]
                  exact g_iret hX dX4_count_197 rfl rfl
                · skip
                  by_cases c_1_8 : p1 = 8
                  · skip
                    refine g_tabIn hX (off := 197) 198 dX4_count_1 (by rw [c_1_8]; decide) (by rw [c_1_8]; decide) (by rw [c_1_8]; decide) (by decide) ?_
                    refine g_aload_n hX dX4_count_198 rfl 0 rfl ?_
                    refine g_get hX 4 h_X4_count_X4 0 rfl rfl 0 (by decide) k_X4_count_0 rfl (v := .ref (ad 1)) rfl dX4_count_199 ?_
                    refine g_getN hX 2 h_X4_count_X2 1 rfl rfl 0 (by decide) 3 rfl rfl (v := .ref (ad 2)) rfl dX4_count_202 ?_
                    refine g_cVN_I hX (n := 0) (As := []) (wc := wWr T (ad 2) (ad 3) xv.2.1.2.1) (w1 := wWr T (ad 2) (ad 3) xv.2.1.2.1) (rv := (F_X3_isFull xv.2.1.2.1)) (st := []) 2 rfl rfl (c_X3_isFull (xL X) T (xB X) (ad 2) (ad 3) xv.2.1.2.1) ggX4_count_X3_isFull 57 rfl k_X4_count_4 k_X4_count_20 k_X4_count_21 rfl rfl rfl ⟨Nat.le_of_ble_eq_true rfl, Nat.le_of_ble_eq_true rfl⟩ ⟨Nat.zero_le _, Nat.zero_le _⟩ ⟨by decide +kernel, by decide +kernel, by decide +kernel⟩ rfl [2, 3] rfl rfl (by decide) rfl (Nat.le_of_ble_eq_true rfl) dX4_count_205 (ws' := wXX T ad xv) rfl ?_
                    refine g_cS_I hX (n := 1) (As := [.int (F_X3_isFull xv.2.1.2.1)]) (wc := []) (w1 := []) (rv := (F_X4_oneIf (F_X3_isFull xv.2.1.2.1))) (st := []) (c_X4_oneIf (xL X) T (xB X) (F_X3_isFull xv.2.1.2.1)) gX4_count_X4_oneIf rfl rfl rfl ⟨Nat.le_of_ble_eq_true rfl, Nat.le_of_ble_eq_true rfl⟩ ⟨Nat.zero_le _, Nat.zero_le _⟩ ⟨by decide +kernel, by decide +kernel, by decide +kernel⟩ rfl [] rfl rfl (by decide) rfl (Nat.le_of_ble_eq_true rfl) dX4_count_208 (ws' := wXX T ad xv) rfl ?_
                    have e9 : F_X4_count xv p1 = (F_X4_oneIf (F_X3_isFull xv.2.1.2.1)) := by simp only [F_X4_count, eq_false c_1_0, eq_false c_1_1, eq_false c_1_2, eq_false c_1_3, eq_false c_1_4, eq_false c_1_5, eq_false c_1_6, eq_false c_1_7, eq_true c_1_8, if_true, if_false]
                    rw [e9]
                    exact g_iret hX dX4_count_211 rfl rfl
                  · skip
                    by_cases c_1_9 : p1 = 9
                    · skip
                      refine g_tabIn hX (off := 211) 212 dX4_count_1 (by rw [c_1_9]; decide) (by rw [c_1_9]; decide) (by rw [c_1_9]; decide) (by decide) ?_
                      refine g_aload_n hX dX4_count_212 rfl 0 rfl ?_
                      refine g_get hX 4 h_X4_count_X4 0 rfl rfl 0 (by decide) k_X4_count_0 rfl (v := .ref (ad 1)) rfl dX4_count_213 ?_
                      refine g_getN hX 2 h_X4_count_X2 1 rfl rfl 0 (by decide) 3 rfl rfl (v := .ref (ad 2)) rfl dX4_count_216 ?_
                      refine g_cVN_I hX (n := 0) (As := []) (wc := wWr T (ad 2) (ad 3) xv.2.1.2.1) (w1 := wWr T (ad 2) (ad 3) xv.2.1.2.1) (rv := (F_X3_evenness xv.2.1.2.1)) (st := []) 2 rfl rfl (c_X3_evenness (xL X) T (xB X) (ad 2) (ad 3) xv.2.1.2.1) ggX4_count_X3_evenness 53 rfl k_X4_count_4 k_X4_count_24 k_X4_count_25 rfl rfl rfl ⟨Nat.le_of_ble_eq_true rfl, Nat.le_of_ble_eq_true rfl⟩ ⟨Nat.zero_le _, Nat.zero_le _⟩ ⟨by decide +kernel, by decide +kernel, by decide +kernel⟩ rfl [2, 3] rfl rfl (by decide) rfl (Nat.le_of_ble_eq_true rfl) dX4_count_219 (ws' := wXX T ad xv) rfl ?_
                      have e9 : F_X4_count xv p1 = (F_X3_evenness xv.2.1.2.1) := by simp only [F_X4_count, eq_false c_1_0, eq_false c_1_1, eq_false c_1_2, eq_false c_1_3, eq_false c_1_4, eq_false c_1_5, eq_false c_1_6, eq_false c_1_7, eq_false c_1_8, eq_true c_1_9, if_true, if_false]
                      rw [e9]
                      exact g_iret hX dX4_count_222 rfl rfl
                    · skip
                      by_cases c_1_10 : p1 = 10
                      · skip
                        refine g_tabIn hX (off := 222) 223 dX4_count_1 (by rw [c_1_10]; decide) (by rw [c_1_10]; decide) (by rw [c_1_10]; decide) (by decide) ?_
                        refine g_aload_n hX dX4_count_223 rfl 0 rfl ?_
                        refine g_get hX 4 h_X4_count_X4 0 rfl rfl 0 (by decide) k_X4_count_0 rfl (v := .ref (ad 1)) rfl dX4_count_224 ?_
                        refine g_getN hX 2 h_X4_count_X2 1 rfl rfl 0 (by decide) 3 rfl rfl (v := .ref (ad 2)) rfl dX4_count_227 ?_
                        refine g_cVN_I hX (n := 0) (As := []) (wc := wWr T (ad 2) (ad 3) xv.2.1.2.1) (w1 := wWr T (ad 2) (ad 3) xv.2.1.2.1) (rv := (F_X3_ribbons xv.2.1.2.1)) (st := []) 2 rfl rfl (c_X3_ribbons (xL X) T (xB X) (ad 2) (ad 3) xv.2.1.2.1) ggX4_count_X3_ribbons 52 rfl k_X4_count_4 k_X4_count_32 k_X4_count_33 rfl rfl rfl ⟨Nat.le_of_ble_eq_true rfl, Nat.le_of_ble_eq_true rfl⟩ ⟨Nat.zero_le _, Nat.zero_le _⟩ ⟨by decide +kernel, by decide +kernel, by decide +kernel⟩ rfl [2, 3] rfl rfl (by decide) rfl (Nat.le_of_ble_eq_true rfl) dX4_count_230 (ws' := wXX T ad xv) rfl ?_
                        have e9 : F_X4_count xv p1 = (F_X3_ribbons xv.2.1.2.1) := by simp only [F_X4_count, eq_false c_1_0, eq_false c_1_1, eq_false c_1_2, eq_false c_1_3, eq_false c_1_4, eq_false c_1_5, eq_false c_1_6, eq_false c_1_7, eq_false c_1_8, eq_false c_1_9, eq_true c_1_10, if_true, if_false]
                        rw [e9]
                        exact g_iret hX dX4_count_233 rfl rfl
                      · skip
                        by_cases c_1_11 : p1 = 11
                        · skip
                          refine g_tabIn hX (off := 233) 234 dX4_count_1 (by rw [c_1_11]; decide) (by rw [c_1_11]; decide) (by rw [c_1_11]; decide) (by decide) ?_
                          refine g_aload_n hX dX4_count_234 rfl 0 rfl ?_
                          refine g_get hX 4 h_X4_count_X4 0 rfl rfl 0 (by decide) k_X4_count_0 rfl (v := .ref (ad 1)) rfl dX4_count_235 ?_
                          refine g_perm (pm_1 _ _ _ _ _ _ _) ?_
                          refine g_pVN_I hX (n := 0) (As := []) (wc := wSt T (ad 1) (ad 2) (ad 3) (ad 4) (ad 5) xv.2.1) (w1 := wSt T (ad 1) (ad 2) (ad 3) (ad 4) (ad 5) xv.2.1) (rv := (F_X2_allKnots xv.2.1)) (st := []) 0 rfl rfl (c_X2_allKnots (xL X) T (xB X) (ad 1) (ad 2) (ad 3) (ad 4) (ad 5) xv.2.1) ggX4_count_X2_allKnots 64 rfl k_X4_count_16 k_X4_count_47 k_X4_count_48 rfl rfl rfl ⟨Nat.le_of_ble_eq_true rfl, Nat.le_of_ble_eq_true rfl⟩ ⟨Nat.zero_le _, Nat.zero_le _⟩ ⟨by decide +kernel, by decide +kernel, by decide +kernel⟩ rfl rfl rfl rfl (Nat.le_of_ble_eq_true rfl) dX4_count_238 rfl ?_
                          refine g_perm (pm_1 _ _ _ _ _ _ _).symm ?_
                          refine g_cast (ws' := wXX T ad xv) rfl ?_
                          have e9 : F_X4_count xv p1 = (F_X2_allKnots xv.2.1) := by simp only [F_X4_count, eq_false c_1_0, eq_false c_1_1, eq_false c_1_2, eq_false c_1_3, eq_false c_1_4, eq_false c_1_5, eq_false c_1_6, eq_false c_1_7, eq_false c_1_8, eq_false c_1_9, eq_false c_1_10, eq_true c_1_11, if_true, if_false]
                          rw [e9]
                          exact g_iret hX dX4_count_241 rfl rfl
                        · skip
                          by_cases c_1_12 : p1 = 12
                          · skip
                            refine g_tabIn hX (off := 241) 242 dX4_count_1 (by rw [c_1_12]; decide) (by rw [c_1_12]; decide) (by rw [c_1_12]; decide) (by decide) ?_
                            refine g_aload_n hX dX4_count_242 rfl 0 rfl ?_
                            refine g_get hX 4 h_X4_count_X4 0 rfl rfl 0 (by decide) k_X4_count_0 rfl (v := .ref (ad 1)) rfl dX4_count_243 ?_
                            refine g_getN hX 2 h_X4_count_X2 1 rfl rfl 8 (by decide) 8 rfl rfl (v := .int (xv.2.1.1 5)) rfl dX4_count_246 ?_
                            have e9 : F_X4_count xv p1 = (xv.2.1.1 5) := by simp only [F_X4_count, eq_false c_1_0, eq_false c_1_1, eq_false c_1_2, eq_false c_1_3, eq_false c_1_4, eq_false c_1_5, eq_false c_1_6, eq_false c_1_7, eq_false c_1_8, eq_false c_1_9, eq_false c_1_10, eq_false c_1_11, eq_true c_1_12, if_true, if_false]
                            rw [e9]
                            exact g_iret hX dX4_count_249 rfl rfl
                          · skip
                            by_cases c_1_13 : p1 = 13
                            · skip
                              refine g_tabIn hX (off := 249) 250 dX4_count_1 (by rw [c_1_13]; decide) (by rw [c_1_13]; decide) (by rw [c_1_13]; decide) (by decide) ?_
                              refine g_aload_n hX dX4_count_250 rfl 0 rfl ?_
                              refine g_get hX 4 h_X4_count_X4 0 rfl rfl 0 (by decide) k_X4_count_0 rfl (v := .ref (ad 1)) rfl dX4_count_251 ?_
                              refine g_getN hX 2 h_X4_count_X2 1 rfl rfl 9 (by decide) 9 rfl rfl (v := .int (xv.2.1.1 6)) rfl dX4_count_254 ?_
                              have e9 : F_X4_count xv p1 = (xv.2.1.1 6) := by simp only [F_X4_count, eq_false c_1_0, eq_false c_1_1, eq_false c_1_2, eq_false c_1_3, eq_false c_1_4, eq_false c_1_5, eq_false c_1_6, eq_false c_1_7, eq_false c_1_8, eq_false c_1_9, eq_false c_1_10, eq_false c_1_11, eq_false c_1_12, eq_true c_1_13, if_true, if_false]
                              rw [e9]
                              exact g_iret hX dX4_count_257 rfl rfl
                            · skip
                              by_cases c_1_14 : p1 = 14
                              · skip
                                refine g_tabIn hX (off := 257) 258 dX4_count_1 (by rw [c_1_14]; decide) (by rw [c_1_14]; decide) (by rw [c_1_14]; decide) (by decide) ?_
                                refine g_aload_n hX dX4_count_258 rfl 0 rfl ?_
                                refine g_get hX 4 h_X4_count_X4 0 rfl rfl 0 (by decide) k_X4_count_0 rfl (v := .ref (ad 1)) rfl dX4_count_259 ?_
                                refine g_getN hX 2 h_X4_count_X2 1 rfl rfl 10 (by decide) 10 rfl rfl (v := .int (xv.2.1.1 7)) rfl dX4_count_262 ?_
                                have e9 : F_X4_count xv p1 = (xv.2.1.1 7) := by simp only [F_X4_count, eq_false c_1_0, eq_false c_1_1, eq_false c_1_2, eq_false c_1_3, eq_false c_1_4, eq_false c_1_5, eq_false c_1_6, eq_false c_1_7, eq_false c_1_8, eq_false c_1_9, eq_false c_1_10, eq_false c_1_11, eq_false c_1_12, eq_false c_1_13, eq_true c_1_14, if_true, if_false]
                                rw [e9]
                                exact g_iret hX dX4_count_265 rfl rfl
                              · skip
                                by_cases c_1_15 : p1 = 15
                                · skip
                                  refine g_tabIn hX (off := 265) 266 dX4_count_1 (by rw [c_1_15]; decide) (by rw [c_1_15]; decide) (by rw [c_1_15]; decide) (by decide) ?_
                                  refine g_aload_n hX dX4_count_266 rfl 0 rfl ?_
                                  refine g_get hX 4 h_X4_count_X4 0 rfl rfl 4 (by decide) k_X4_count_1 rfl (v := .ref (ad 18)) rfl dX4_count_267 ?_
                                  refine g_getN hX 1 h_X4_count_X1 18 rfl rfl 2 (by decide) 11 rfl rfl (v := .int (xv.2.2.2.2.2.1.1 1)) rfl dX4_count_270 ?_
                                  have e9 : F_X4_count xv p1 = (xv.2.2.2.2.2.1.1 1) := by simp only [F_X4_count, eq_false c_1_0, eq_false c_1_1, eq_false c_1_2, eq_false c_1_3, eq_false c_1_4, eq_false c_1_5, eq_false c_1_6, eq_false c_1_7, eq_false c_1_8, eq_false c_1_9, eq_false c_1_10, eq_false c_1_11, eq_false c_1_12, eq_false c_1_13, eq_false c_1_14, eq_true c_1_15, if_true, if_false]
                                  rw [e9]
                                  exact g_iret hX dX4_count_273 rfl rfl
                                · skip
                                  by_cases c_1_16 : p1 = 16
                                  · skip
                                    refine g_tabIn hX (off := 273) 274 dX4_count_1 (by rw [c_1_16]; decide) (by rw [c_1_16]; decide) (by rw [c_1_16]; decide) (by decide) ?_
                                    refine g_aload_n hX dX4_count_274 rfl 0 rfl ?_
                                    refine g_get hX 4 h_X4_count_X4 0 rfl rfl 5 (by decide) k_X4_count_2 rfl (v := .ref (ad 40)) rfl dX4_count_275 ?_
                                    refine g_getN hX 0 h_X4_count_X0 40 rfl rfl 3 (by decide) 12 rfl rfl (v := .int (xv.2.2.2.2.2.2.1 0)) rfl dX4_count_278 ?_
                                    have e9 : F_X4_count xv p1 = (xv.2.2.2.2.2.2.1 0) := by simp only [F_X4_count, eq_false c_1_0, eq_false c_1_1, eq_false c_1_2, eq_false c_1_3, eq_false c_1_4, eq_false c_1_5, eq_false c_1_6, eq_false c_1_7, eq_false c_1_8, eq_false c_1_9, eq_false c_1_10, eq_false c_1_11, eq_false c_1_12, eq_false c_1_13, eq_false c_1_14, eq_false c_1_15, eq_true c_1_16, if_true, if_false]
                                    rw [e9]
                                    exact g_iret hX dX4_count_281 rfl rfl
                                  · skip
                                    by_cases c_1_20 : p1 = 20
                                    · skip
                                      refine g_tabIn hX (off := 281) 282 dX4_count_1 (by rw [c_1_20]; decide) (by rw [c_1_20]; decide) (by rw [c_1_20]; decide) (by decide) ?_
                                      refine g_aload_n hX dX4_count_282 rfl 0 rfl ?_
                                      refine g_get hX 4 h_X4_count_X4 0 rfl rfl 0 (by decide) k_X4_count_0 rfl (v := .ref (ad 1)) rfl dX4_count_283 ?_
                                      refine g_iload_n hX dX4_count_286 rfl 1 rfl ?_
                                      refine g_bipush hX (v := 20) dX4_count_287 (by decide) ?_
                                      refine g_isub hX dX4_count_289 ?_
                                      refine g_perm (pm_1 _ _ _ _ _ _ _) ?_
                                      refine g_pVN_I hX (n := 1) (As := [.int (p1 - 20)]) (wc := wSt T (ad 1) (ad 2) (ad 3) (ad 4) (ad 5) xv.2.1) (w1 := wSt T (ad 1) (ad 2) (ad 3) (ad 4) (ad 5) xv.2.1) (rv := (F_X2_number xv.2.1 (p1 - 20))) (st := []) 0 rfl rfl (c_X2_number (xL X) T (xB X) (ad 1) (ad 2) (ad 3) (ad 4) (ad 5) xv.2.1 (p1 - 20)) ggX4_count_X2_number 59 rfl k_X4_count_16 k_X4_count_51 k_X4_count_52 rfl rfl rfl ⟨Nat.le_of_ble_eq_true rfl, Nat.le_of_ble_eq_true rfl⟩ ⟨Nat.zero_le _, Nat.zero_le _⟩ ⟨by decide +kernel, by decide +kernel, by decide +kernel⟩ rfl rfl rfl rfl (Nat.le_of_ble_eq_true rfl) dX4_count_290 rfl ?_
                                      refine g_perm (pm_1 _ _ _ _ _ _ _).symm ?_
                                      refine g_cast (ws' := wXX T ad xv) rfl ?_
                                      have e9 : F_X4_count xv p1 = (F_X2_number xv.2.1 (p1 - 20)) := by simp only [F_X4_count, eq_false c_1_0, eq_false c_1_1, eq_false c_1_2, eq_false c_1_3, eq_false c_1_4, eq_false c_1_5, eq_false c_1_6, eq_false c_1_7, eq_false c_1_8, eq_false c_1_9, eq_false c_1_10, eq_false c_1_11, eq_false c_1_12, eq_false c_1_13, eq_false c_1_14, eq_false c_1_15, eq_false c_1_16, eq_true c_1_20, if_true, if_false]
                                      rw [e9]
                                      exact g_iret hX dX4_count_293 rfl rfl
                                    · skip
                                      by_cases c_1_21 : p1 = 21
                                      · skip
                                        refine g_tabIn hX (off := 281) 282 dX4_count_1 (by rw [c_1_21]; decide) (by rw [c_1_21]; decide) (by rw [c_1_21]; decide) (by decide) ?_
                                        refine g_aload_n hX dX4_count_282 rfl 0 rfl ?_
                                        refine g_get hX 4 h_X4_count_X4 0 rfl rfl 0 (by decide) k_X4_count_0 rfl (v := .ref (ad 1)) rfl dX4_count_283 ?_
                                        refine g_iload_n hX dX4_count_286 rfl 1 rfl ?_
                                        refine g_bipush hX (v := 20) dX4_count_287 (by decide) ?_
                                        refine g_isub hX dX4_count_289 ?_
                                        refine g_perm (pm_1 _ _ _ _ _ _ _) ?_
                                        refine g_pVN_I hX (n := 1) (As := [.int (p1 - 20)]) (wc := wSt T (ad 1) (ad 2) (ad 3) (ad 4) (ad 5) xv.2.1) (w1 := wSt T (ad 1) (ad 2) (ad 3) (ad 4) (ad 5) xv.2.1) (rv := (F_X2_number xv.2.1 (p1 - 20))) (st := []) 0 rfl rfl (c_X2_number (xL X) T (xB X) (ad 1) (ad 2) (ad 3) (ad 4) (ad 5) xv.2.1 (p1 - 20)) ggX4_count_X2_number 59 rfl k_X4_count_16 k_X4_count_51 k_X4_count_52 rfl rfl rfl ⟨Nat.le_of_ble_eq_true rfl, Nat.le_of_ble_eq_true rfl⟩ ⟨Nat.zero_le _, Nat.zero_le _⟩ ⟨by decide +kernel, by decide +kernel, by decide +kernel⟩ rfl rfl rfl rfl (Nat.le_of_ble_eq_true rfl) dX4_count_290 rfl ?_
                                        refine g_perm (pm_1 _ _ _ _ _ _ _).symm ?_
                                        refine g_cast (ws' := wXX T ad xv) rfl ?_
                                        have e9 : F_X4_count xv p1 = (F_X2_number xv.2.1 (p1 - 20)) := by simp only [F_X4_count, eq_false c_1_0, eq_false c_1_1, eq_false c_1_2, eq_false c_1_3, eq_false c_1_4, eq_false c_1_5, eq_false c_1_6, eq_false c_1_7, eq_false c_1_8, eq_false c_1_9, eq_false c_1_10, eq_false c_1_11, eq_false c_1_12, eq_false c_1_13, eq_false c_1_14, eq_false c_1_15, eq_false c_1_16, eq_false c_1_20, eq_true c_1_21, if_true, if_false]
                                        rw [e9]
                                        exact g_iret hX dX4_count_293 rfl rfl
                                      · skip
                                        by_cases c_1_22 : p1 = 22
                                        · skip
                                          refine g_tabIn hX (off := 281) 282 dX4_count_1 (by rw [c_1_22]; decide) (by rw [c_1_22]; decide) (by rw [c_1_22]; decide) (by decide) ?_
                                          refine g_aload_n hX dX4_count_282 rfl 0 rfl ?_
                                          refine g_get hX 4 h_X4_count_X4 0 rfl rfl 0 (by decide) k_X4_count_0 rfl (v := .ref (ad 1)) rfl dX4_count_283 ?_
                                          refine g_iload_n hX dX4_count_286 rfl 1 rfl ?_
                                          refine g_bipush hX (v := 20) dX4_count_287 (by decide) ?_
                                          refine g_isub hX dX4_count_289 ?_
                                          refine g_perm (pm_1 _ _ _ _ _ _ _) ?_
                                          refine g_pVN_I hX (n := 1) (As := [.int (p1 - 20)]) (wc := wSt T (ad 1) (ad 2) (ad 3) (ad 4) (ad 5) xv.2.1) (w1 := wSt T (ad 1) (ad 2) (ad 3) (ad 4) (ad 5) xv.2.1) (rv := (F_X2_number xv.2.1 (p1 - 20))) (st := []) 0 rfl rfl (c_X2_number (xL X) T (xB X) (ad 1) (ad 2) (ad 3) (ad 4) (ad 5) xv.2.1 (p1 - 20)) ggX4_count_X2_number 59 rfl k_X4_count_16 k_X4_count_51 k_X4_count_52 rfl rfl rfl ⟨Nat.le_of_ble_eq_true rfl, Nat.le_of_ble_eq_true rfl⟩ ⟨Nat.zero_le _, Nat.zero_le _⟩ ⟨by decide +kernel, by decide +kernel, by decide +kernel⟩ rfl rfl rfl rfl (Nat.le_of_ble_eq_true rfl) dX4_count_290 rfl ?_
                                          refine g_perm (pm_1 _ _ _ _ _ _ _).symm ?_
                                          refine g_cast (ws' := wXX T ad xv) rfl ?_
                                          have e9 : F_X4_count xv p1 = (F_X2_number xv.2.1 (p1 - 20)) := by simp only [F_X4_count, eq_false c_1_0, eq_false c_1_1, eq_false c_1_2, eq_false c_1_3, eq_false c_1_4, eq_false c_1_5, eq_false c_1_6, eq_false c_1_7, eq_false c_1_8, eq_false c_1_9, eq_false c_1_10, eq_false c_1_11, eq_false c_1_12, eq_false c_1_13, eq_false c_1_14, eq_false c_1_15, eq_false c_1_16, eq_false c_1_20, eq_false c_1_21, eq_true c_1_22, if_true, if_false]
                                          rw [e9]
                                          exact g_iret hX dX4_count_293 rfl rfl
                                        · skip
                                          by_cases c_1_23 : p1 = 23
                                          · skip
                                            refine g_tabIn hX (off := 281) 282 dX4_count_1 (by rw [c_1_23]; decide) (by rw [c_1_23]; decide) (by rw [c_1_23]; decide) (by decide) ?_
                                            refine g_aload_n hX dX4_count_282 rfl 0 rfl ?_
                                            refine g_get hX 4 h_X4_count_X4 0 rfl rfl 0 (by decide) k_X4_count_0 rfl (v := .ref (ad 1)) rfl dX4_count_283 ?_
                                            refine g_iload_n hX dX4_count_286 rfl 1 rfl ?_
                                            refine g_bipush hX (v := 20) dX4_count_287 (by decide) ?_
                                            refine g_isub hX dX4_count_289 ?_
                                            refine g_perm (pm_1 _ _ _ _ _ _ _) ?_
                                            refine g_pVN_I hX (n := 1) (As := [.int (p1 - 20)]) (wc := wSt T (ad 1) (ad 2) (ad 3) (ad 4) (ad 5) xv.2.1) (w1 := wSt T (ad 1) (ad 2) (ad 3) (ad 4) (ad 5) xv.2.1) (rv := (F_X2_number xv.2.1 (p1 - 20))) (st := []) 0 rfl rfl (c_X2_number (xL X) T (xB X) (ad 1) (ad 2) (ad 3) (ad 4) (ad 5) xv.2.1 (p1 - 20)) ggX4_count_X2_number 59 rfl k_X4_count_16 k_X4_count_51 k_X4_count_52 rfl rfl rfl ⟨Nat.le_of_ble_eq_true rfl, Nat.le_of_ble_eq_true rfl⟩ ⟨Nat.zero_le _, Nat.zero_le _⟩ ⟨by decide +kernel, by decide +kernel, by decide +kernel⟩ rfl rfl rfl rfl (Nat.le_of_ble_eq_true rfl) dX4_count_290 rfl ?_
                                            refine g_perm (pm_1 _ _ _ _ _ _ _).symm ?_
                                            refine g_cast (ws' := wXX T ad xv) rfl ?_
                                            have e9 : F_X4_count xv p1 = (F_X2_number xv.2.1 (p1 - 20)) := by simp only [F_X4_count, eq_false c_1_0, eq_false c_1_1, eq_false c_1_2, eq_false c_1_3, eq_false c_1_4, eq_false c_1_5, eq_false c_1_6, eq_false c_1_7, eq_false c_1_8, eq_false c_1_9, eq_false c_1_10, eq_false c_1_11, eq_false c_1_12, eq_false c_1_13, eq_false c_1_14, eq_false c_1_15, eq_false c_1_16, eq_false c_1_20, eq_false c_1_21, eq_false c_1_22, eq_true c_1_23, if_true, if_false]
                                            rw [e9]
                                            exact g_iret hX dX4_count_293 rfl rfl
                                          · skip
                                            by_cases c_1_24 : p1 = 24
                                            · skip
                                              refine g_tabIn hX (off := 281) 282 dX4_count_1 (by rw [c_1_24]; decide) (by rw [c_1_24]; decide) (by rw [c_1_24]; decide) (by decide) ?_
                                              refine g_aload_n hX dX4_count_282 rfl 0 rfl ?_
                                              refine g_get hX 4 h_X4_count_X4 0 rfl rfl 0 (by decide) k_X4_count_0 rfl (v := .ref (ad 1)) rfl dX4_count_283 ?_
                                              refine g_iload_n hX dX4_count_286 rfl 1 rfl ?_
                                              refine g_bipush hX (v := 20) dX4_count_287 (by decide) ?_
                                              refine g_isub hX dX4_count_289 ?_
                                              refine g_perm (pm_1 _ _ _ _ _ _ _) ?_
                                              refine g_pVN_I hX (n := 1) (As := [.int (p1 - 20)]) (wc := wSt T (ad 1) (ad 2) (ad 3) (ad 4) (ad 5) xv.2.1) (w1 := wSt T (ad 1) (ad 2) (ad 3) (ad 4) (ad 5) xv.2.1) (rv := (F_X2_number xv.2.1 (p1 - 20))) (st := []) 0 rfl rfl (c_X2_number (xL X) T (xB X) (ad 1) (ad 2) (ad 3) (ad 4) (ad 5) xv.2.1 (p1 - 20)) ggX4_count_X2_number 59 rfl k_X4_count_16 k_X4_count_51 k_X4_count_52 rfl rfl rfl ⟨Nat.le_of_ble_eq_true rfl, Nat.le_of_ble_eq_true rfl⟩ ⟨Nat.zero_le _, Nat.zero_le _⟩ ⟨by decide +kernel, by decide +kernel, by decide +kernel⟩ rfl rfl rfl rfl (Nat.le_of_ble_eq_true rfl) dX4_count_290 rfl ?_
                                              refine g_perm (pm_1 _ _ _ _ _ _ _).symm ?_
                                              refine g_cast (ws' := wXX T ad xv) rfl ?_
                                              have e9 : F_X4_count xv p1 = (F_X2_number xv.2.1 (p1 - 20)) := by simp only [F_X4_count, eq_false c_1_0, eq_false c_1_1, eq_false c_1_2, eq_false c_1_3, eq_false c_1_4, eq_false c_1_5, eq_false c_1_6, eq_false c_1_7, eq_false c_1_8, eq_false c_1_9, eq_false c_1_10, eq_false c_1_11, eq_false c_1_12, eq_false c_1_13, eq_false c_1_14, eq_false c_1_15, eq_false c_1_16, eq_false c_1_20, eq_false c_1_21, eq_false c_1_22, eq_false c_1_23, eq_true c_1_24, if_true, if_false]
                                              rw [e9]
                                              exact g_iret hX dX4_count_293 rfl rfl
                                            · skip
                                              have tc_1_0 : ¬ Int32.toInt p1 = 0 := lv_neT c_1_0 (by decide)
                                              have tc_1_1 : ¬ Int32.toInt p1 = 1 := lv_neT c_1_1 (by decide)
                                              have tc_1_2 : ¬ Int32.toInt p1 = 2 := lv_neT c_1_2 (by decide)
                                              have tc_1_3 : ¬ Int32.toInt p1 = 3 := lv_neT c_1_3 (by decide)
                                              have tc_1_4 : ¬ Int32.toInt p1 = 4 := lv_neT c_1_4 (by decide)
                                              have tc_1_5 : ¬ Int32.toInt p1 = 5 := lv_neT c_1_5 (by decide)
                                              have tc_1_6 : ¬ Int32.toInt p1 = 6 := lv_neT c_1_6 (by decide)
                                              have tc_1_7 : ¬ Int32.toInt p1 = 7 := lv_neT c_1_7 (by decide)
                                              have tc_1_8 : ¬ Int32.toInt p1 = 8 := lv_neT c_1_8 (by decide)
                                              have tc_1_9 : ¬ Int32.toInt p1 = 9 := lv_neT c_1_9 (by decide)
                                              have tc_1_10 : ¬ Int32.toInt p1 = 10 := lv_neT c_1_10 (by decide)
                                              have tc_1_11 : ¬ Int32.toInt p1 = 11 := lv_neT c_1_11 (by decide)
                                              have tc_1_12 : ¬ Int32.toInt p1 = 12 := lv_neT c_1_12 (by decide)
                                              have tc_1_13 : ¬ Int32.toInt p1 = 13 := lv_neT c_1_13 (by decide)
                                              have tc_1_14 : ¬ Int32.toInt p1 = 14 := lv_neT c_1_14 (by decide)
                                              have tc_1_15 : ¬ Int32.toInt p1 = 15 := lv_neT c_1_15 (by decide)
                                              have tc_1_16 : ¬ Int32.toInt p1 = 16 := lv_neT c_1_16 (by decide)
                                              have tc_1_20 : ¬ Int32.toInt p1 = 20 := lv_neT c_1_20 (by decide)
                                              have tc_1_21 : ¬ Int32.toInt p1 = 21 := lv_neT c_1_21 (by decide)
                                              have tc_1_22 : ¬ Int32.toInt p1 = 22 := lv_neT c_1_22 (by decide)
                                              have tc_1_23 : ¬ Int32.toInt p1 = 23 := lv_neT c_1_23 (by decide)
                                              have tc_1_24 : ¬ Int32.toInt p1 = 24 := lv_neT c_1_24 (by decide)
                                              have hg_1 : Int32.toInt p1 < 0 ∨ 24 < Int32.toInt p1 ∨ Int32.toInt p1 = 17 ∨ Int32.toInt p1 = 18 ∨ Int32.toInt p1 = 19 := by omega
                                              refine g_tabDef hX 294 dX4_count_1 (by rcases hg_1 with hg | hg | hg | hg | hg; exact Or.inl hg; exact Or.inr (Or.inl hg); all_goals (exact Or.inr (Or.inr (by rw [hg]; decide)))) (by decide) ?_
                                              refine g_bipush hX (v := (-2)) dX4_count_294 (by decide) ?_
                                              have e9 : F_X4_count xv p1 = (-2) := by simp only [F_X4_count, eq_false c_1_0, eq_false c_1_1, eq_false c_1_2, eq_false c_1_3, eq_false c_1_4, eq_false c_1_5, eq_false c_1_6, eq_false c_1_7, eq_false c_1_8, eq_false c_1_9, eq_false c_1_10, eq_false c_1_11, eq_false c_1_12, eq_false c_1_13, eq_false c_1_14, eq_false c_1_15, eq_false c_1_16, eq_false c_1_20, eq_false c_1_21, eq_false c_1_22, eq_false c_1_23, eq_false c_1_24, if_true, if_false]
                                              rw [e9]
                                              exact g_iret hX dX4_count_296 rfl rfl
end
section
/-! X4_breaksIn -/
def rmX4_breaksIn : Room := { frames := 3, cells := 0, slots := 0, locals := 82 }
theorem k_X4_breaksIn_0 : Cond.fieldLink RX4 12 RX4 (TX4 0).2.1 (TX4 0).2.2.1 ∈ wsX4_breaksIn := List.mem_of_getElem? (i := 1) rfl
theorem h_X4_breaksIn_X4 : ∀ w ∈ u_ws RX4 TX4 8, w ∈ wsX4_breaksIn := fun w h => List.mem_cons_of_mem _ (List.mem_append_left _ (List.mem_append_left _ (List.mem_append_right _ h)))
theorem h_X4_breaksIn_X2 : ∀ w ∈ u_ws RX2 TX2 11, w ∈ wsX4_breaksIn := fun w h => List.mem_cons_of_mem _ (List.mem_append_left _ (List.mem_append_right _ h))
theorem k_X4_breaksIn_3 : Cond.initialized RX2 ∈ wsX4_breaksIn := List.mem_of_getElem? (i := 4) rfl
theorem k_X4_breaksIn_2 : Cond.instanceMethod yX2_isConeEmpty ∈ wsX4_breaksIn := List.mem_of_getElem? (i := 3) rfl
theorem k_X4_breaksIn_4 : Cond.selects RX2 yX2_isConeEmpty yX2_isConeEmpty ∈ wsX4_breaksIn := List.mem_of_getElem? (i := 5) rfl
theorem k_X4_breaksIn_1 : Cond.fieldLink RX4 16 RX4 (TX4 1).2.1 (TX4 1).2.2.1 ∈ wsX4_breaksIn := List.mem_of_getElem? (i := 2) rfl
theorem k_X4_breaksIn_7 : Cond.instanceMethod yX2_copyFrom ∈ wsX4_breaksIn := List.mem_of_getElem? (i := 8) rfl
theorem k_X4_breaksIn_8 : Cond.selects RX2 yX2_copyFrom yX2_copyFrom ∈ wsX4_breaksIn := List.mem_of_getElem? (i := 9) rfl
theorem k_X4_breaksIn_33 : Cond.instanceMethod yX2_isIdle ∈ wsX4_breaksIn := List.mem_of_getElem? (i := 34) rfl
theorem k_X4_breaksIn_34 : Cond.selects RX2 yX2_isIdle yX2_isIdle ∈ wsX4_breaksIn := List.mem_of_getElem? (i := 35) rfl
theorem k_X4_breaksIn_40 : Cond.instanceMethod yX2_turnOnce ∈ wsX4_breaksIn := List.mem_of_getElem? (i := 41) rfl
theorem k_X4_breaksIn_41 : Cond.selects RX2 yX2_turnOnce yX2_turnOnce ∈ wsX4_breaksIn := List.mem_of_getElem? (i := 42) rfl
def K_X4_breaksIn_36 : Nat → XV → Nat → Int32 × XV
  | 0, xv, j => (0, xv)
  | n + 1, xv, j => (if 1000 < (nI j) then ((-5), xv) else (if (F_X2_isIdle xv.2.2.1) = 0 then (let z_57 := F_X2_turnOnce xv.2.2.1
  (if (z_57.1 2) = 0 then K_X4_breaksIn_36 n (xv.1, xv.2.1, z_57, xv.2.2.2.1, xv.2.2.2.2.1, xv.2.2.2.2.2.1, xv.2.2.2.2.2.2) (j + 1) else ((nI j), (xv.1, xv.2.1, z_57, xv.2.2.2.1, xv.2.2.2.2.1, xv.2.2.2.2.2.1, xv.2.2.2.2.2.2)))) else ((-5), xv)))
def F_X4_breaksIn (xv : XV) : Int32 × XV :=
  (if (xv.2.1.1 2) = 0 then (if (F_X2_isConeEmpty xv.2.1) = 0 then K_X4_breaksIn_36 1001 (xv.1, xv.2.1, xv.2.1, xv.2.2.2.1, xv.2.2.2.2.1, xv.2.2.2.2.2.1, xv.2.2.2.2.2.2) 1 else ((-4), xv)) else ((-4), xv))
set_option maxHeartbeats 4000000 in
set_option maxRecDepth 100000 in
theorem k_X4_breaksIn_36 {T : TT} {X : CX} (hX : Fit T X (yX4_breaksIn).cls 2 wsX4_breaksIn cX4_breaksIn (some .int) rmX4_breaksIn) (ad : Nat → Nat) : ∀ (n : Nat) (xv : XV) (j : Nat) (hn : j + n = 1002) (hj : j ≤ 1001), G T X (QI T X 0 0 ((K_X4_breaksIn_36 n xv j).1) (wXX T ad ((K_X4_breaksIn_36 n xv j).2))) 0 0 (wXX T ad xv) [(1, .int (nI j)), (0, .ref (ad 0))] 36 [] := by
  intro n
  induction n with
  | zero =>
    intro xv j hn hj
    exact absurd hn (by omega)
  | succ n ih =>
    intro xv j hn hj
    refine g_iload_n hX dX4_breaksIn_36 rfl 0 rfl ?_
    refine g_sipush hX (v := 1000) dX4_breaksIn_37 (by decide) ?_
    refine g_icmp_gt hX 78 dX4_breaksIn_40 (by decide) (fun c_40 => ?_) (fun c_40 => ?_)
    · skip
      refine g_bipush hX (v := (-5)) dX4_breaksIn_78 (by decide) ?_
      have e9 : K_X4_breaksIn_36 (n + 1) xv j = ((-5), xv) := by simp only [K_X4_breaksIn_36, eq_true c_40, if_true, if_false]
      rw [e9]
      exact g_iret hX dX4_breaksIn_80 rfl rfl
    · skip
      have hlt_40 : j ≤ 1000 := nle_of c_40 (by decide) (by omega)
      refine g_aload_n hX dX4_breaksIn_43 rfl 1 rfl ?_
      refine g_get hX 4 h_X4_breaksIn_X4 0 rfl rfl 1 (by decide) k_X4_breaksIn_1 rfl (v := .ref (ad 6)) rfl dX4_breaksIn_44 ?_
      refine g_perm (pm_2 _ _ _ _ _ _ _) ?_
      refine g_pVN_I hX (n := 0) (As := []) (wc := wSt T (ad 6) (ad 7) (ad 8) (ad 9) (ad 10) xv.2.2.1) (w1 := wSt T (ad 6) (ad 7) (ad 8) (ad 9) (ad 10) xv.2.2.1) (rv := (F_X2_isIdle xv.2.2.1)) (st := []) 0 rfl rfl (c_X2_isIdle (xL X) T (xB X) (ad 6) (ad 7) (ad 8) (ad 9) (ad 10) xv.2.2.1) ggX4_breaksIn_X2_isIdle 54 rfl k_X4_breaksIn_3 k_X4_breaksIn_33 k_X4_breaksIn_34 rfl rfl rfl ⟨Nat.le_of_ble_eq_true rfl, Nat.le_of_ble_eq_true rfl⟩ ⟨Nat.zero_le _, Nat.zero_le _⟩ ⟨by decide +kernel, by decide +kernel, by decide +kernel⟩ rfl rfl rfl rfl (Nat.le_of_ble_eq_true rfl) dX4_breaksIn_47 rfl ?_
      refine g_perm (pm_2 _ _ _ _ _ _ _).symm ?_
      refine g_cast (ws' := wXX T ad xv) rfl ?_
      refine g_if_ne hX 78 dX4_breaksIn_50 (by decide) (fun c_50 => ?_) (fun c_50 => ?_)
      · skip
        refine g_bipush hX (v := (-5)) dX4_breaksIn_78 (by decide) ?_
        have e9 : K_X4_breaksIn_36 (n + 1) xv j = ((-5), xv) := by simp only [K_X4_breaksIn_36, eq_false c_40, eq_false c_50, if_true, if_false]
        rw [e9]
        exact g_iret hX dX4_breaksIn_80 rfl rfl
      · skip
        refine g_aload_n hX dX4_breaksIn_53 rfl 1 rfl ?_
        refine g_get hX 4 h_X4_breaksIn_X4 0 rfl rfl 1 (by decide) k_X4_breaksIn_1 rfl (v := .ref (ad 6)) rfl dX4_breaksIn_54 ?_
        obtain ⟨z_57, hz_57⟩ : ∃ z : SV, z = F_X2_turnOnce xv.2.2.1 := ⟨_, rfl⟩
        refine g_perm (pm_2 _ _ _ _ _ _ _) ?_
        refine g_pVN_V hX (n := 0) (As := []) (wc := wSt T (ad 6) (ad 7) (ad 8) (ad 9) (ad 10) xv.2.2.1) (w1 := wSt T (ad 6) (ad 7) (ad 8) (ad 9) (ad 10) z_57) (st := []) 0 rfl rfl (by rw [hz_57]; exact (c_X2_turnOnce (xL X) T (xB X) (ad 6) (ad 7) (ad 8) (ad 9) (ad 10) xv.2.2.1)) ggX4_breaksIn_X2_turnOnce 55 rfl k_X4_breaksIn_3 k_X4_breaksIn_40 k_X4_breaksIn_41 rfl rfl rfl ⟨Nat.le_of_ble_eq_true rfl, Nat.le_of_ble_eq_true rfl⟩ ⟨Nat.zero_le _, Nat.zero_le _⟩ ⟨by decide +kernel, by decide +kernel, by decide +kernel⟩ rfl rfl rfl rfl (Nat.le_of_ble_eq_true rfl) dX4_breaksIn_57 rfl ?_
        refine g_perm (pm_2 _ _ _ _ _ _ _).symm ?_
        refine g_cast (ws' := wXX T ad (xv.1, xv.2.1, z_57, xv.2.2.2.1, xv.2.2.2.2.1, xv.2.2.2.2.2.1, xv.2.2.2.2.2.2)) rfl ?_
        refine g_aload_n hX dX4_breaksIn_60 rfl 1 rfl ?_
        refine g_get hX 4 h_X4_breaksIn_X4 0 rfl rfl 1 (by decide) k_X4_breaksIn_1 rfl (v := .ref (ad 6)) rfl dX4_breaksIn_61 ?_
        refine g_getN hX 2 h_X4_breaksIn_X2 6 rfl rfl 5 (by decide) 6 rfl rfl (v := .int (z_57.1 2)) rfl dX4_breaksIn_64 ?_
        refine g_if_eq hX 72 dX4_breaksIn_67 (by decide) (fun c_67 => ?_) (fun c_67 => ?_)
        · skip
          refine g_iinc hX (lv' := [(1, .int (nI (j + 1))), (0, .ref (ad 0))]) (v := (nI (j + 1))) 0 dX4_breaksIn_72 rfl (nI_1 _) (by decide) rfl ?_
          refine g_goto hX 36 dX4_breaksIn_75 (by decide) ?_
          have e9 : K_X4_breaksIn_36 (n + 1) xv j = K_X4_breaksIn_36 n (xv.1, xv.2.1, z_57, xv.2.2.2.1, xv.2.2.2.2.1, xv.2.2.2.2.2.1, xv.2.2.2.2.2.2) (j + 1) := by simp only [K_X4_breaksIn_36, ← hz_57, eq_false c_40, eq_true c_50, eq_true c_67, if_true, if_false]
          rw [e9]
          refine g_lv (lv' := [(1, .int (nI (j + 1))), (0, .ref (ad 0))]) [0, 1] rfl ?_
          exact ih (xv.1, xv.2.1, z_57, xv.2.2.2.1, xv.2.2.2.2.1, xv.2.2.2.2.2.1, xv.2.2.2.2.2.2) (j + 1) (by omega) (by omega)
        · skip
          refine g_iload_n hX dX4_breaksIn_70 rfl 0 rfl ?_
          have e9 : K_X4_breaksIn_36 (n + 1) xv j = ((nI j), (xv.1, xv.2.1, z_57, xv.2.2.2.1, xv.2.2.2.2.1, xv.2.2.2.2.2.1, xv.2.2.2.2.2.2)) := by simp only [K_X4_breaksIn_36, ← hz_57, eq_false c_40, eq_true c_50, eq_false c_67, if_true, if_false]
          rw [e9]
          exact g_iret hX dX4_breaksIn_71 rfl rfl
set_option maxHeartbeats 4000000 in
set_option maxRecDepth 100000 in
theorem c_X4_breaksIn (l : Launch) (T : TT) (b0 : Nat) (ad : Nat → Nat) (xv : XV) (hx : xWF xv) : ConI l T b0 yX4_breaksIn wsX4_breaksIn rmX4_breaksIn [.ref (ad 0)] (wXX T ad xv) ((F_X4_breaksIn xv).1) (wXX T ad ((F_X4_breaksIn xv).2)) := by
  refine conI_of (cc := cX4_breaksIn) (maxL := 2) (ret := (some .int)) (lv0 := [(0, .ref (ad 0))]) (by decide +kernel) rfl (Nat.le_of_ble_eq_true rfl) rfl (fun X hX => ?_)
  refine g_aload_n hX dX4_breaksIn_0 rfl 0 rfl ?_
  refine g_get hX 4 h_X4_breaksIn_X4 0 rfl rfl 0 (by decide) k_X4_breaksIn_0 rfl (v := .ref (ad 1)) rfl dX4_breaksIn_1 ?_
  refine g_getN hX 2 h_X4_breaksIn_X2 1 rfl rfl 5 (by decide) 6 rfl rfl (v := .int (xv.2.1.1 2)) rfl dX4_breaksIn_4 ?_
  refine g_if_ne hX 20 dX4_breaksIn_7 (by decide) (fun c_7 => ?_) (fun c_7 => ?_)
  · skip
    refine g_bipush hX (v := (-4)) dX4_breaksIn_20 (by decide) ?_
    have e9 : F_X4_breaksIn xv = ((-4), xv) := by simp only [F_X4_breaksIn, eq_false c_7, if_true, if_false]
    rw [e9]
    exact g_iret hX dX4_breaksIn_22 rfl rfl
  · skip
    refine g_aload_n hX dX4_breaksIn_10 rfl 0 rfl ?_
    refine g_get hX 4 h_X4_breaksIn_X4 0 rfl rfl 0 (by decide) k_X4_breaksIn_0 rfl (v := .ref (ad 1)) rfl dX4_breaksIn_11 ?_
    refine g_perm (pm_1 _ _ _ _ _ _ _) ?_
    refine g_pVN_I hX (n := 0) (As := []) (wc := wSt T (ad 1) (ad 2) (ad 3) (ad 4) (ad 5) xv.2.1) (w1 := wSt T (ad 1) (ad 2) (ad 3) (ad 4) (ad 5) xv.2.1) (rv := (F_X2_isConeEmpty xv.2.1)) (st := []) 0 rfl rfl (c_X2_isConeEmpty (xL X) T (xB X) (ad 1) (ad 2) (ad 3) (ad 4) (ad 5) xv.2.1) ggX4_breaksIn_X2_isConeEmpty 50 rfl k_X4_breaksIn_3 k_X4_breaksIn_2 k_X4_breaksIn_4 rfl rfl rfl ⟨Nat.le_of_ble_eq_true rfl, Nat.le_of_ble_eq_true rfl⟩ ⟨Nat.zero_le _, Nat.zero_le _⟩ ⟨by decide +kernel, by decide +kernel, by decide +kernel⟩ rfl rfl rfl rfl (Nat.le_of_ble_eq_true rfl) dX4_breaksIn_14 rfl ?_
    refine g_perm (pm_1 _ _ _ _ _ _ _).symm ?_
    refine g_cast (ws' := wXX T ad xv) rfl ?_
    refine g_if_eq hX 23 dX4_breaksIn_17 (by decide) (fun c_17 => ?_) (fun c_17 => ?_)
    · skip
      refine g_aload_n hX dX4_breaksIn_23 rfl 0 rfl ?_
      refine g_get hX 4 h_X4_breaksIn_X4 0 rfl rfl 1 (by decide) k_X4_breaksIn_1 rfl (v := .ref (ad 6)) rfl dX4_breaksIn_24 ?_
      refine g_aload_n hX dX4_breaksIn_27 rfl 0 rfl ?_
      refine g_get hX 4 h_X4_breaksIn_X4 0 rfl rfl 0 (by decide) k_X4_breaksIn_0 rfl (v := .ref (ad 1)) rfl dX4_breaksIn_28 ?_
      refine g_perm (pm_21 _ _ _ _ _ _ _) ?_
      refine g_pVN_V hX (n := 1) (As := [.ref (ad 1)]) (wc := wSt T (ad 6) (ad 7) (ad 8) (ad 9) (ad 10) xv.2.2.1 ++ wSt T (ad 1) (ad 2) (ad 3) (ad 4) (ad 5) xv.2.1) (w1 := wSt T (ad 6) (ad 7) (ad 8) (ad 9) (ad 10) xv.2.1 ++ wSt T (ad 1) (ad 2) (ad 3) (ad 4) (ad 5) xv.2.1) (st := []) 0 rfl rfl (c_X2_copyFrom (xL X) T (xB X) (ad 6) (ad 7) (ad 8) (ad 9) (ad 10) (ad 1) (ad 2) (ad 3) (ad 4) (ad 5) xv.2.2.1 xv.2.1 hx.1) ggX4_breaksIn_X2_copyFrom 20 rfl k_X4_breaksIn_3 k_X4_breaksIn_7 k_X4_breaksIn_8 rfl rfl rfl ⟨Nat.le_of_ble_eq_true rfl, Nat.le_of_ble_eq_true rfl⟩ ⟨Nat.zero_le _, Nat.zero_le _⟩ ⟨by decide +kernel, by decide +kernel, by decide +kernel⟩ rfl rfl rfl rfl (Nat.le_of_ble_eq_true rfl) dX4_breaksIn_31 rfl ?_
      refine g_perm (pm_21 _ _ _ _ _ _ _).symm ?_
      refine g_cast (ws' := wXX T ad (xv.1, xv.2.1, xv.2.1, xv.2.2.2.1, xv.2.2.2.2.1, xv.2.2.2.2.2.1, xv.2.2.2.2.2.2)) rfl ?_
      refine g_iconst hX (v := 1) dX4_breaksIn_34 (by decide) ?_
      refine g_istore_n hX (lv' := [(1, .int 1), (0, .ref (ad 0))]) dX4_breaksIn_35 rfl (by decide) rfl ?_
      have e9 : F_X4_breaksIn xv = K_X4_breaksIn_36 1001 (xv.1, xv.2.1, xv.2.1, xv.2.2.2.1, xv.2.2.2.2.1, xv.2.2.2.2.2.1, xv.2.2.2.2.2.2) 1 := by simp only [F_X4_breaksIn, eq_true c_7, eq_true c_17, if_true, if_false]
      rw [e9]
      refine g_lv (lv' := [(1, .int (nI 1)), (0, .ref (ad 0))]) [0, 1] rfl ?_
      exact k_X4_breaksIn_36 hX ad 1001 (xv.1, xv.2.1, xv.2.1, xv.2.2.2.1, xv.2.2.2.2.1, xv.2.2.2.2.2.1, xv.2.2.2.2.2.2) 1 (by omega) (by omega)
    · skip
      refine g_bipush hX (v := (-4)) dX4_breaksIn_20 (by decide) ?_
      have e9 : F_X4_breaksIn xv = ((-4), xv) := by simp only [F_X4_breaksIn, eq_true c_7, eq_false c_17, if_true, if_false]
      rw [e9]
      exact g_iret hX dX4_breaksIn_22 rfl rfl
/-! X4_imagine -/
def rmX4_imagine : Room := { frames := 2, cells := 0, slots := 0, locals := 45 }
theorem k_X4_imagine_0 : Cond.fieldLink RX4 25 RX4 (TX4 3).2.1 (TX4 3).2.2.1 ∈ wsX4_imagine := List.mem_of_getElem? (i := 1) rfl
theorem h_X4_imagine_X4 : ∀ w ∈ u_ws RX4 TX4 8, w ∈ wsX4_imagine := fun w h => List.mem_cons_of_mem _ (List.mem_append_left _ (List.mem_append_left _ (List.mem_append_right _ h)))
theorem k_X4_imagine_3 : Cond.initialized RX3 ∈ wsX4_imagine := List.mem_of_getElem? (i := 4) rfl
theorem k_X4_imagine_2 : Cond.instanceMethod yX3_clear ∈ wsX4_imagine := List.mem_of_getElem? (i := 3) rfl
theorem k_X4_imagine_4 : Cond.selects RX3 yX3_clear yX3_clear ∈ wsX4_imagine := List.mem_of_getElem? (i := 5) rfl
theorem k_X4_imagine_14 : Cond.instanceMethod yX3_isFull ∈ wsX4_imagine := List.mem_of_getElem? (i := 15) rfl
theorem k_X4_imagine_15 : Cond.selects RX3 yX3_isFull yX3_isFull ∈ wsX4_imagine := List.mem_of_getElem? (i := 16) rfl
theorem k_X4_imagine_17 : Cond.instanceMethod yX3_layWrap ∈ wsX4_imagine := List.mem_of_getElem? (i := 18) rfl
theorem k_X4_imagine_18 : Cond.selects RX3 yX3_layWrap yX3_layWrap ∈ wsX4_imagine := List.mem_of_getElem? (i := 19) rfl
theorem k_X4_imagine_1 : Cond.fieldLink RX4 12 RX4 (TX4 0).2.1 (TX4 0).2.2.1 ∈ wsX4_imagine := List.mem_of_getElem? (i := 2) rfl
theorem k_X4_imagine_29 : Cond.initialized RX2 ∈ wsX4_imagine := List.mem_of_getElem? (i := 30) rfl
theorem k_X4_imagine_28 : Cond.instanceMethod yX2_number ∈ wsX4_imagine := List.mem_of_getElem? (i := 29) rfl
theorem k_X4_imagine_30 : Cond.selects RX2 yX2_number yX2_number ∈ wsX4_imagine := List.mem_of_getElem? (i := 31) rfl
theorem k_X4_imagine_33 : Cond.instanceMethod yX3_moveGuide ∈ wsX4_imagine := List.mem_of_getElem? (i := 34) rfl
theorem k_X4_imagine_34 : Cond.selects RX3 yX3_moveGuide yX3_moveGuide ∈ wsX4_imagine := List.mem_of_getElem? (i := 35) rfl
def K_X4_imagine_9 : Nat → XV → Int32 → Int32 → Nat → XV
  | 0, xv, p1, p2, j => xv
  | n + 1, xv, p1, p2, j => (if p2 < (nI j) then xv else (if (F_X3_isFull xv.2.2.2.2.1) = 0 then (let z_28 := F_X3_layWrap xv.2.2.2.2.1
  (let z_45 := F_X3_moveGuide z_28 p1 (F_X2_number xv.2.1 2) (nI j)
  K_X4_imagine_9 n (xv.1, xv.2.1, xv.2.2.1, xv.2.2.2.1, z_45, xv.2.2.2.2.2.1, xv.2.2.2.2.2.2) p1 p2 (j + 1))) else xv))
def F_X4_imagine (xv : XV) (p1 : Int32) (p2 : Int32) : XV :=
  (let z_4 := F_X3_clear xv.2.2.2.2.1
  K_X4_imagine_9 501 (xv.1, xv.2.1, xv.2.2.1, xv.2.2.2.1, z_4, xv.2.2.2.2.2.1, xv.2.2.2.2.2.2) p1 p2 1)
set_option maxHeartbeats 4000000 in
set_option maxRecDepth 100000 in
theorem k_X4_imagine_9 {T : TT} {X : CX} (hX : Fit T X (yX4_imagine).cls 4 wsX4_imagine cX4_imagine none rmX4_imagine) (ad : Nat → Nat) : ∀ (n : Nat) (xv : XV) (p1 : Int32) (p2 : Int32) (j : Nat) (hn : j + n = 502) (hj : j ≤ 501) (hp : p2.toInt ≤ 500), G T X (QV T X 0 0 (wXX T ad (K_X4_imagine_9 n xv p1 p2 j))) 0 0 (wXX T ad xv) [(3, .int (nI j)), (0, .ref (ad 0)), (1, .int p1), (2, .int p2)] 9 [] := by
  intro n
  induction n with
  | zero =>
    intro xv p1 p2 j hn hj hp
    exact absurd hn (by omega)
  | succ n ih =>
    intro xv p1 p2 j hn hj hp
    refine g_iload_n hX dX4_imagine_9 rfl 0 rfl ?_
    refine g_iload_n hX dX4_imagine_10 rfl 3 rfl ?_
    refine g_icmp_gt hX 54 dX4_imagine_11 (by decide) (fun c_11 => ?_) (fun c_11 => ?_)
    · skip
      have e9 : K_X4_imagine_9 (n + 1) xv p1 p2 j = xv := by simp only [K_X4_imagine_9, eq_true c_11, if_true, if_false]
      rw [e9]
      exact g_vret hX dX4_imagine_54 rfl
    · skip
      have hlt : j ≤ 500 := nle_p c_11 hp (by omega)
      refine g_aload_n hX dX4_imagine_14 rfl 1 rfl ?_
      refine g_get hX 4 h_X4_imagine_X4 0 rfl rfl 3 (by decide) k_X4_imagine_0 rfl (v := .ref (ad 16)) rfl dX4_imagine_15 ?_
      refine g_perm (pm_4 _ _ _ _ _ _ _) ?_
      refine g_pVN_I hX (n := 0) (As := []) (wc := wWr T (ad 16) (ad 17) xv.2.2.2.2.1) (w1 := wWr T (ad 16) (ad 17) xv.2.2.2.2.1) (rv := (F_X3_isFull xv.2.2.2.2.1)) (st := []) 0 rfl rfl (c_X3_isFull (xL X) T (xB X) (ad 16) (ad 17) xv.2.2.2.2.1) ggX4_imagine_X3_isFull 57 rfl k_X4_imagine_3 k_X4_imagine_14 k_X4_imagine_15 rfl rfl rfl ⟨Nat.le_of_ble_eq_true rfl, Nat.le_of_ble_eq_true rfl⟩ ⟨Nat.zero_le _, Nat.zero_le _⟩ ⟨by decide +kernel, by decide +kernel, by decide +kernel⟩ rfl rfl rfl rfl (Nat.le_of_ble_eq_true rfl) dX4_imagine_18 rfl ?_
      refine g_perm (pm_4 _ _ _ _ _ _ _).symm ?_
      refine g_cast (ws' := wXX T ad xv) rfl ?_
      refine g_if_ne hX 54 dX4_imagine_21 (by decide) (fun c_21 => ?_) (fun c_21 => ?_)
      · skip
        have e9 : K_X4_imagine_9 (n + 1) xv p1 p2 j = xv := by simp only [K_X4_imagine_9, eq_false c_11, eq_false c_21, if_true, if_false]
        rw [e9]
        exact g_vret hX dX4_imagine_54 rfl
      · skip
        refine g_aload_n hX dX4_imagine_24 rfl 1 rfl ?_
        refine g_get hX 4 h_X4_imagine_X4 0 rfl rfl 3 (by decide) k_X4_imagine_0 rfl (v := .ref (ad 16)) rfl dX4_imagine_25 ?_
        obtain ⟨z_28, hz_28⟩ : ∃ z : WV, z = F_X3_layWrap xv.2.2.2.2.1 := ⟨_, rfl⟩
        refine g_perm (pm_4 _ _ _ _ _ _ _) ?_
        refine g_pVN_V hX (n := 0) (As := []) (wc := wWr T (ad 16) (ad 17) xv.2.2.2.2.1) (w1 := wWr T (ad 16) (ad 17) z_28) (st := []) 0 rfl rfl (by rw [hz_28]; exact (c_X3_layWrap (xL X) T (xB X) (ad 16) (ad 17) xv.2.2.2.2.1)) ggX4_imagine_X3_layWrap 58 rfl k_X4_imagine_3 k_X4_imagine_17 k_X4_imagine_18 rfl rfl rfl ⟨Nat.le_of_ble_eq_true rfl, Nat.le_of_ble_eq_true rfl⟩ ⟨Nat.zero_le _, Nat.zero_le _⟩ ⟨by decide +kernel, by decide +kernel, by decide +kernel⟩ rfl rfl rfl rfl (Nat.le_of_ble_eq_true rfl) dX4_imagine_28 rfl ?_
        refine g_perm (pm_4 _ _ _ _ _ _ _).symm ?_
        refine g_cast (ws' := wXX T ad (xv.1, xv.2.1, xv.2.2.1, xv.2.2.2.1, z_28, xv.2.2.2.2.2.1, xv.2.2.2.2.2.2)) rfl ?_
        refine g_aload_n hX dX4_imagine_31 rfl 1 rfl ?_
        refine g_get hX 4 h_X4_imagine_X4 0 rfl rfl 3 (by decide) k_X4_imagine_0 rfl (v := .ref (ad 16)) rfl dX4_imagine_32 ?_
        refine g_iload_n hX dX4_imagine_35 rfl 2 rfl ?_
        refine g_aload_n hX dX4_imagine_36 rfl 1 rfl ?_
        refine g_get hX 4 h_X4_imagine_X4 0 rfl rfl 0 (by decide) k_X4_imagine_1 rfl (v := .ref (ad 1)) rfl dX4_imagine_37 ?_
        refine g_iconst hX (v := 2) dX4_imagine_40 (by decide) ?_
        refine g_perm (pm_1 _ _ _ _ _ _ _) ?_
        refine g_pVN_I hX (n := 1) (As := [.int 2]) (wc := wSt T (ad 1) (ad 2) (ad 3) (ad 4) (ad 5) xv.2.1) (w1 := wSt T (ad 1) (ad 2) (ad 3) (ad 4) (ad 5) xv.2.1) (rv := (F_X2_number xv.2.1 2)) (st := [.int p1, .ref (ad 16)]) 0 rfl rfl (c_X2_number (xL X) T (xB X) (ad 1) (ad 2) (ad 3) (ad 4) (ad 5) xv.2.1 2) ggX4_imagine_X2_number 59 rfl k_X4_imagine_29 k_X4_imagine_28 k_X4_imagine_30 rfl rfl rfl ⟨Nat.le_of_ble_eq_true rfl, Nat.le_of_ble_eq_true rfl⟩ ⟨Nat.zero_le _, Nat.zero_le _⟩ ⟨by decide +kernel, by decide +kernel, by decide +kernel⟩ rfl rfl rfl rfl (Nat.le_of_ble_eq_true rfl) dX4_imagine_41 rfl ?_
        refine g_perm (pm_1 _ _ _ _ _ _ _).symm ?_
        refine g_cast (ws' := wXX T ad (xv.1, xv.2.1, xv.2.2.1, xv.2.2.2.1, z_28, xv.2.2.2.2.2.1, xv.2.2.2.2.2.2)) rfl ?_
        refine g_iload_n hX dX4_imagine_44 rfl 0 rfl ?_
        obtain ⟨z_45, hz_45⟩ : ∃ z : WV, z = F_X3_moveGuide z_28 p1 (F_X2_number xv.2.1 2) (nI j) := ⟨_, rfl⟩
        refine g_perm (pm_4 _ _ _ _ _ _ _) ?_
        refine g_pVN_V hX (n := 3) (As := [.int p1, .int (F_X2_number xv.2.1 2), .int (nI j)]) (wc := wWr T (ad 16) (ad 17) z_28) (w1 := wWr T (ad 16) (ad 17) z_45) (st := []) 0 rfl rfl (by rw [hz_45]; exact (c_X3_moveGuide (xL X) T (xB X) (ad 16) (ad 17) z_28 p1 (F_X2_number xv.2.1 2) (nI j))) ggX4_imagine_X3_moveGuide 60 rfl k_X4_imagine_3 k_X4_imagine_33 k_X4_imagine_34 rfl rfl rfl ⟨Nat.le_of_ble_eq_true rfl, Nat.le_of_ble_eq_true rfl⟩ ⟨Nat.zero_le _, Nat.zero_le _⟩ ⟨by decide +kernel, by decide +kernel, by decide +kernel⟩ rfl rfl rfl rfl (Nat.le_of_ble_eq_true rfl) dX4_imagine_45 rfl ?_
        refine g_perm (pm_4 _ _ _ _ _ _ _).symm ?_
        refine g_cast (ws' := wXX T ad (xv.1, xv.2.1, xv.2.2.1, xv.2.2.2.1, z_45, xv.2.2.2.2.2.1, xv.2.2.2.2.2.2)) rfl ?_
        refine g_iinc hX (lv' := [(3, .int (nI (j + 1))), (0, .ref (ad 0)), (1, .int p1), (2, .int p2)]) (v := (nI (j + 1))) 0 dX4_imagine_48 rfl (nI_1 _) (by decide) rfl ?_
        refine g_goto hX 9 dX4_imagine_51 (by decide) ?_
        have e9 : K_X4_imagine_9 (n + 1) xv p1 p2 j = K_X4_imagine_9 n (xv.1, xv.2.1, xv.2.2.1, xv.2.2.2.1, z_45, xv.2.2.2.2.2.1, xv.2.2.2.2.2.2) p1 p2 (j + 1) := by simp only [K_X4_imagine_9, ← hz_28, ← hz_45, eq_false c_11, eq_true c_21, if_true, if_false]
        rw [e9]
        refine g_lv (lv' := [(3, .int (nI (j + 1))), (0, .ref (ad 0)), (1, .int p1), (2, .int p2)]) [0, 1, 2, 3] rfl ?_
        exact ih (xv.1, xv.2.1, xv.2.2.1, xv.2.2.2.1, z_45, xv.2.2.2.2.2.1, xv.2.2.2.2.2.2) p1 p2 (j + 1) (by omega) (by omega) hp
set_option maxHeartbeats 4000000 in
set_option maxRecDepth 100000 in
theorem c_X4_imagine (l : Launch) (T : TT) (b0 : Nat) (ad : Nat → Nat) (xv : XV) (p1 : Int32) (p2 : Int32) (hp : p2.toInt ≤ 500) : ConV l T b0 yX4_imagine wsX4_imagine rmX4_imagine [.ref (ad 0), .int p1, .int p2] (wXX T ad xv) (wXX T ad (F_X4_imagine xv p1 p2)) := by
  refine conV_of (cc := cX4_imagine) (maxL := 4) (ret := none) (lv0 := [(0, .ref (ad 0)), (1, .int p1), (2, .int p2)]) (by decide +kernel) rfl (Nat.le_of_ble_eq_true rfl) rfl (fun X hX => ?_)
  refine g_aload_n hX dX4_imagine_0 rfl 0 rfl ?_
  refine g_get hX 4 h_X4_imagine_X4 0 rfl rfl 3 (by decide) k_X4_imagine_0 rfl (v := .ref (ad 16)) rfl dX4_imagine_1 ?_
  obtain ⟨z_4, hz_4⟩ : ∃ z : WV, z = F_X3_clear xv.2.2.2.2.1 := ⟨_, rfl⟩
  refine g_perm (pm_4 _ _ _ _ _ _ _) ?_
  refine g_pVN_V hX (n := 0) (As := []) (wc := wWr T (ad 16) (ad 17) xv.2.2.2.2.1) (w1 := wWr T (ad 16) (ad 17) z_4) (st := []) 0 rfl rfl (by rw [hz_4]; exact (c_X3_clear (xL X) T (xB X) (ad 16) (ad 17) xv.2.2.2.2.1)) ggX4_imagine_X3_clear 56 rfl k_X4_imagine_3 k_X4_imagine_2 k_X4_imagine_4 rfl rfl rfl ⟨Nat.le_of_ble_eq_true rfl, Nat.le_of_ble_eq_true rfl⟩ ⟨Nat.zero_le _, Nat.zero_le _⟩ ⟨by decide +kernel, by decide +kernel, by decide +kernel⟩ rfl rfl rfl rfl (Nat.le_of_ble_eq_true rfl) dX4_imagine_4 rfl ?_
  refine g_perm (pm_4 _ _ _ _ _ _ _).symm ?_
  refine g_cast (ws' := wXX T ad (xv.1, xv.2.1, xv.2.2.1, xv.2.2.2.1, z_4, xv.2.2.2.2.2.1, xv.2.2.2.2.2.2)) rfl ?_
  refine g_iconst hX (v := 1) dX4_imagine_7 (by decide) ?_
  refine g_istore_n hX (lv' := [(3, .int 1), (0, .ref (ad 0)), (1, .int p1), (2, .int p2)]) dX4_imagine_8 rfl (by decide) rfl ?_
  have e9 : F_X4_imagine xv p1 p2 = K_X4_imagine_9 501 (xv.1, xv.2.1, xv.2.2.1, xv.2.2.2.1, z_4, xv.2.2.2.2.2.1, xv.2.2.2.2.2.2) p1 p2 1 := by simp only [F_X4_imagine, ← hz_4, if_true, if_false]
  rw [e9]
  refine g_lv (lv' := [(3, .int (nI 1)), (0, .ref (ad 0)), (1, .int p1), (2, .int p2)]) [0, 1, 2, 3] rfl ?_
  exact k_X4_imagine_9 hX ad 501 (xv.1, xv.2.1, xv.2.2.1, xv.2.2.2.1, z_4, xv.2.2.2.2.2.1, xv.2.2.2.2.2.2) p1 p2 1 (by omega) (by omega) hp
/-! X4_ifTraverse -/
def rmX4_ifTraverse : Room := { frames := 4, cells := 0, slots := 0, locals := 88 }
theorem k_X4_ifTraverse_0 : Cond.fieldLink RX4 25 RX4 (TX4 3).2.1 (TX4 3).2.2.1 ∈ wsX4_ifTraverse := List.mem_of_getElem? (i := 1) rfl
theorem h_X4_ifTraverse_X4 : ∀ w ∈ u_ws RX4 TX4 8, w ∈ wsX4_ifTraverse := fun w h => List.mem_cons_of_mem _ (List.mem_append_left _ (List.mem_append_left _ (List.mem_append_right _ h)))
theorem k_X4_ifTraverse_19 : Cond.initialized RX3 ∈ wsX4_ifTraverse := List.mem_of_getElem? (i := 20) rfl
theorem k_X4_ifTraverse_54 : Cond.instanceMethod yX3_evenness ∈ wsX4_ifTraverse := List.mem_of_getElem? (i := 55) rfl
theorem k_X4_ifTraverse_55 : Cond.selects RX3 yX3_evenness yX3_evenness ∈ wsX4_ifTraverse := List.mem_of_getElem? (i := 56) rfl
theorem k_X4_ifTraverse_60 : Cond.instanceMethod yX3_ribbons ∈ wsX4_ifTraverse := List.mem_of_getElem? (i := 61) rfl
theorem k_X4_ifTraverse_61 : Cond.selects RX3 yX3_ribbons yX3_ribbons ∈ wsX4_ifTraverse := List.mem_of_getElem? (i := 62) rfl
theorem k_X4_ifTraverse_75 : Cond.instanceMethod yX3_barePlaces ∈ wsX4_ifTraverse := List.mem_of_getElem? (i := 76) rfl
theorem k_X4_ifTraverse_76 : Cond.selects RX3 yX3_barePlaces yX3_barePlaces ∈ wsX4_ifTraverse := List.mem_of_getElem? (i := 77) rfl
def F_X4_ifTraverse (xv : XV) (p1 : Int32) (p2 : Int32) (p3 : Int32) : Int32 × XV :=
  (if (F_X4_inRange 0 p1) = 0 then ((-2), xv) else (if (F_X4_inRange 5 p2) = 0 then ((-2), xv) else (let z_22 := F_X4_imagine xv p1 p2
  (if p3 = 0 then ((F_X3_evenness z_22.2.2.2.2.1), z_22) else (if p3 = 1 then ((F_X3_ribbons z_22.2.2.2.2.1), z_22) else (if p3 = 2 then ((F_X3_barePlaces z_22.2.2.2.2.1), z_22) else ((-2), z_22)))))))
set_option maxHeartbeats 4000000 in
set_option maxRecDepth 100000 in
theorem c_X4_ifTraverse (l : Launch) (T : TT) (b0 : Nat) (ad : Nat → Nat) (xv : XV) (p1 : Int32) (p2 : Int32) (p3 : Int32)  : ConI l T b0 yX4_ifTraverse wsX4_ifTraverse rmX4_ifTraverse [.ref (ad 0), .int p1, .int p2, .int p3] (wXX T ad xv) ((F_X4_ifTraverse xv p1 p2 p3).1) (wXX T ad ((F_X4_ifTraverse xv p1 p2 p3).2)) := by
  refine conI_of (cc := cX4_ifTraverse) (maxL := 4) (ret := (some .int)) (lv0 := [(0, .ref (ad 0)), (1, .int p1), (2, .int p2), (3, .int p3)]) (by decide +kernel) rfl (Nat.le_of_ble_eq_true rfl) rfl (fun X hX => ?_)
  refine g_iconst hX (v := 0) dX4_ifTraverse_0 (by decide) ?_
  refine g_iload_n hX dX4_ifTraverse_1 rfl 1 rfl ?_
  refine g_cS_I hX (n := 2) (As := [.int 0, .int p1]) (wc := []) (w1 := []) (rv := (F_X4_inRange 0 p1)) (st := []) (c_X4_inRange (xL X) T (xB X) 0 p1) gX4_ifTraverse_X4_inRange rfl rfl rfl ⟨Nat.le_of_ble_eq_true rfl, Nat.le_of_ble_eq_true rfl⟩ ⟨Nat.zero_le _, Nat.zero_le _⟩ ⟨by decide +kernel, by decide +kernel, by decide +kernel⟩ rfl [] rfl rfl (by decide) rfl (Nat.le_of_ble_eq_true rfl) dX4_ifTraverse_2 (ws' := wXX T ad xv) rfl ?_
  refine g_if_eq hX 16 dX4_ifTraverse_5 (by decide) (fun c_5 => ?_) (fun c_5 => ?_)
  · skip
    refine g_bipush hX (v := (-2)) dX4_ifTraverse_16 (by decide) ?_
    have e9 : F_X4_ifTraverse xv p1 p2 p3 = ((-2), xv) := by simp only [F_X4_ifTraverse, eq_true c_5, if_true, if_false]
    rw [e9]
    exact g_iret hX dX4_ifTraverse_18 rfl rfl
  · skip
    refine g_iconst hX (v := 5) dX4_ifTraverse_8 (by decide) ?_
    refine g_iload_n hX dX4_ifTraverse_9 rfl 2 rfl ?_
    refine g_cS_I hX (n := 2) (As := [.int 5, .int p2]) (wc := []) (w1 := []) (rv := (F_X4_inRange 5 p2)) (st := []) (c_X4_inRange (xL X) T (xB X) 5 p2) gX4_ifTraverse_X4_inRange rfl rfl rfl ⟨Nat.le_of_ble_eq_true rfl, Nat.le_of_ble_eq_true rfl⟩ ⟨Nat.zero_le _, Nat.zero_le _⟩ ⟨by decide +kernel, by decide +kernel, by decide +kernel⟩ rfl [] rfl rfl (by decide) rfl (Nat.le_of_ble_eq_true rfl) dX4_ifTraverse_10 (ws' := wXX T ad xv) rfl ?_
    refine g_if_ne hX 19 dX4_ifTraverse_13 (by decide) (fun c_13 => ?_) (fun c_13 => ?_)
    · skip
      refine g_aload_n hX dX4_ifTraverse_19 rfl 0 rfl ?_
      refine g_iload_n hX dX4_ifTraverse_20 rfl 1 rfl ?_
      refine g_iload_n hX dX4_ifTraverse_21 rfl 2 rfl ?_
      obtain ⟨z_22, hz_22⟩ : ∃ z : XV, z = F_X4_imagine xv p1 p2 := ⟨_, rfl⟩
      refine g_pV_V hX (rest := []) (n := 2) (As := [.int p1, .int p2]) (wc := wXX T ad xv) (w1 := wXX T ad z_22) (st := []) 0 rfl rfl (by rw [hz_22]; exact (c_X4_imagine (xL X) T (xB X) ad xv p1 p2 (inr5 c_13))) gX4_ifTraverse_X4_imagine rfl rfl rfl ⟨Nat.le_of_ble_eq_true rfl, Nat.le_of_ble_eq_true rfl⟩ ⟨Nat.zero_le _, Nat.zero_le _⟩ ⟨by decide +kernel, by decide +kernel, by decide +kernel⟩ rfl (List.append_nil _).symm rfl rfl (Nat.le_of_ble_eq_true rfl) dX4_ifTraverse_22 (List.append_nil _) ?_
      refine g_iload_n hX dX4_ifTraverse_25 rfl 3 rfl ?_
      by_cases c_26_0 : p3 = 0
      · skip
        refine g_tabIn hX (off := 26) 52 dX4_ifTraverse_26 (by rw [c_26_0]; decide) (by rw [c_26_0]; decide) (by rw [c_26_0]; decide) (by decide) ?_
        refine g_aload_n hX dX4_ifTraverse_52 rfl 0 rfl ?_
        refine g_get hX 4 h_X4_ifTraverse_X4 0 rfl rfl 3 (by decide) k_X4_ifTraverse_0 rfl (v := .ref (ad 16)) rfl dX4_ifTraverse_53 ?_
        refine g_perm (pm_4 _ _ _ _ _ _ _) ?_
        refine g_pVN_I hX (n := 0) (As := []) (wc := wWr T (ad 16) (ad 17) z_22.2.2.2.2.1) (w1 := wWr T (ad 16) (ad 17) z_22.2.2.2.2.1) (rv := (F_X3_evenness z_22.2.2.2.2.1)) (st := []) 0 rfl rfl (c_X3_evenness (xL X) T (xB X) (ad 16) (ad 17) z_22.2.2.2.2.1) ggX4_ifTraverse_X3_evenness 53 rfl k_X4_ifTraverse_19 k_X4_ifTraverse_54 k_X4_ifTraverse_55 rfl rfl rfl ⟨Nat.le_of_ble_eq_true rfl, Nat.le_of_ble_eq_true rfl⟩ ⟨Nat.zero_le _, Nat.zero_le _⟩ ⟨by decide +kernel, by decide +kernel, by decide +kernel⟩ rfl rfl rfl rfl (Nat.le_of_ble_eq_true rfl) dX4_ifTraverse_56 rfl ?_
        refine g_perm (pm_4 _ _ _ _ _ _ _).symm ?_
        refine g_cast (ws' := wXX T ad z_22) rfl ?_
        have e9 : F_X4_ifTraverse xv p1 p2 p3 = ((F_X3_evenness z_22.2.2.2.2.1), z_22) := by simp only [F_X4_ifTraverse, ← hz_22, eq_false c_5, eq_false c_13, eq_true c_26_0, if_true, if_false]
        rw [e9]
        exact g_iret hX dX4_ifTraverse_59 rfl rfl
      · skip
        by_cases c_26_1 : p3 = 1
        · skip
          refine g_tabIn hX (off := 34) 60 dX4_ifTraverse_26 (by rw [c_26_1]; decide) (by rw [c_26_1]; decide) (by rw [c_26_1]; decide) (by decide) ?_
          refine g_aload_n hX dX4_ifTraverse_60 rfl 0 rfl ?_
          refine g_get hX 4 h_X4_ifTraverse_X4 0 rfl rfl 3 (by decide) k_X4_ifTraverse_0 rfl (v := .ref (ad 16)) rfl dX4_ifTraverse_61 ?_
          refine g_perm (pm_4 _ _ _ _ _ _ _) ?_
          refine g_pVN_I hX (n := 0) (As := []) (wc := wWr T (ad 16) (ad 17) z_22.2.2.2.2.1) (w1 := wWr T (ad 16) (ad 17) z_22.2.2.2.2.1) (rv := (F_X3_ribbons z_22.2.2.2.2.1)) (st := []) 0 rfl rfl (c_X3_ribbons (xL X) T (xB X) (ad 16) (ad 17) z_22.2.2.2.2.1) ggX4_ifTraverse_X3_ribbons 52 rfl k_X4_ifTraverse_19 k_X4_ifTraverse_60 k_X4_ifTraverse_61 rfl rfl rfl ⟨Nat.le_of_ble_eq_true rfl, Nat.le_of_ble_eq_true rfl⟩ ⟨Nat.zero_le _, Nat.zero_le _⟩ ⟨by decide +kernel, by decide +kernel, by decide +kernel⟩ rfl rfl rfl rfl (Nat.le_of_ble_eq_true rfl) dX4_ifTraverse_64 rfl ?_
          refine g_perm (pm_4 _ _ _ _ _ _ _).symm ?_
          refine g_cast (ws' := wXX T ad z_22) rfl ?_
          have e9 : F_X4_ifTraverse xv p1 p2 p3 = ((F_X3_ribbons z_22.2.2.2.2.1), z_22) := by simp only [F_X4_ifTraverse, ← hz_22, eq_false c_5, eq_false c_13, eq_false c_26_0, eq_true c_26_1, if_true, if_false]
          rw [e9]
          exact g_iret hX dX4_ifTraverse_67 rfl rfl
        · skip
          by_cases c_26_2 : p3 = 2
          · skip
            refine g_tabIn hX (off := 42) 68 dX4_ifTraverse_26 (by rw [c_26_2]; decide) (by rw [c_26_2]; decide) (by rw [c_26_2]; decide) (by decide) ?_
            refine g_aload_n hX dX4_ifTraverse_68 rfl 0 rfl ?_
            refine g_get hX 4 h_X4_ifTraverse_X4 0 rfl rfl 3 (by decide) k_X4_ifTraverse_0 rfl (v := .ref (ad 16)) rfl dX4_ifTraverse_69 ?_
            refine g_perm (pm_4 _ _ _ _ _ _ _) ?_
            refine g_pVN_I hX (n := 0) (As := []) (wc := wWr T (ad 16) (ad 17) z_22.2.2.2.2.1) (w1 := wWr T (ad 16) (ad 17) z_22.2.2.2.2.1) (rv := (F_X3_barePlaces z_22.2.2.2.2.1)) (st := []) 0 rfl rfl (c_X3_barePlaces (xL X) T (xB X) (ad 16) (ad 17) z_22.2.2.2.2.1) ggX4_ifTraverse_X3_barePlaces 61 rfl k_X4_ifTraverse_19 k_X4_ifTraverse_75 k_X4_ifTraverse_76 rfl rfl rfl ⟨Nat.le_of_ble_eq_true rfl, Nat.le_of_ble_eq_true rfl⟩ ⟨Nat.zero_le _, Nat.zero_le _⟩ ⟨by decide +kernel, by decide +kernel, by decide +kernel⟩ rfl rfl rfl rfl (Nat.le_of_ble_eq_true rfl) dX4_ifTraverse_72 rfl ?_
            refine g_perm (pm_4 _ _ _ _ _ _ _).symm ?_
            refine g_cast (ws' := wXX T ad z_22) rfl ?_
            have e9 : F_X4_ifTraverse xv p1 p2 p3 = ((F_X3_barePlaces z_22.2.2.2.2.1), z_22) := by simp only [F_X4_ifTraverse, ← hz_22, eq_false c_5, eq_false c_13, eq_false c_26_0, eq_false c_26_1, eq_true c_26_2, if_true, if_false]
            rw [e9]
            exact g_iret hX dX4_ifTraverse_75 rfl rfl
          · skip
            have tc_26_0 : ¬ Int32.toInt p3 = 0 := lv_neT c_26_0 (by decide)
            have tc_26_1 : ¬ Int32.toInt p3 = 1 := lv_neT c_26_1 (by decide)
            have tc_26_2 : ¬ Int32.toInt p3 = 2 := lv_neT c_26_2 (by decide)
            refine g_tabOut hX 76 dX4_ifTraverse_26 (by omega) (by decide) ?_
            refine g_bipush hX (v := (-2)) dX4_ifTraverse_76 (by decide) ?_
            have e9 : F_X4_ifTraverse xv p1 p2 p3 = ((-2), z_22) := by simp only [F_X4_ifTraverse, ← hz_22, eq_false c_5, eq_false c_13, eq_false c_26_0, eq_false c_26_1, eq_false c_26_2, if_true, if_false]
            rw [e9]
            exact g_iret hX dX4_ifTraverse_78 rfl rfl
    · skip
      refine g_bipush hX (v := (-2)) dX4_ifTraverse_16 (by decide) ?_
      have e9 : F_X4_ifTraverse xv p1 p2 p3 = ((-2), xv) := by simp only [F_X4_ifTraverse, eq_false c_5, eq_true c_13, if_true, if_false]
      rw [e9]
      exact g_iret hX dX4_ifTraverse_18 rfl rfl
/-! X4_bestTraverse -/
def rmX4_bestTraverse : Room := { frames := 3, cells := 0, slots := 0, locals := 68 }
theorem k_X4_bestTraverse_0 : Cond.fieldLink RX4 25 RX4 (TX4 3).2.1 (TX4 3).2.2.1 ∈ wsX4_bestTraverse := List.mem_of_getElem? (i := 1) rfl
theorem h_X4_bestTraverse_X4 : ∀ w ∈ u_ws RX4 TX4 8, w ∈ wsX4_bestTraverse := fun w h => List.mem_cons_of_mem _ (List.mem_append_left _ (List.mem_append_left _ (List.mem_append_right _ h)))
theorem k_X4_bestTraverse_19 : Cond.initialized RX3 ∈ wsX4_bestTraverse := List.mem_of_getElem? (i := 20) rfl
theorem k_X4_bestTraverse_54 : Cond.instanceMethod yX3_evenness ∈ wsX4_bestTraverse := List.mem_of_getElem? (i := 55) rfl
theorem k_X4_bestTraverse_55 : Cond.selects RX3 yX3_evenness yX3_evenness ∈ wsX4_bestTraverse := List.mem_of_getElem? (i := 56) rfl
def K_X4_bestTraverse_21 : Nat → XV → Int32 → Nat → Int32 → Int32 → Int32 × XV
  | 0, xv, p1, j, e, f => (0, xv)
  | n + 1, xv, p1, j, e, f => (if 11 < (nI j) then (e, xv) else (let z_34 := F_X4_imagine xv (nI j) p1
  (if e = 0 then K_X4_bestTraverse_21 n z_34 p1 (j + 1) (nI j) (F_X3_evenness z_34.2.2.2.2.1) else (if f ≤ (F_X3_evenness z_34.2.2.2.2.1) then K_X4_bestTraverse_21 n z_34 p1 (j + 1) e f else K_X4_bestTraverse_21 n z_34 p1 (j + 1) (nI j) (F_X3_evenness z_34.2.2.2.2.1)))))
def F_X4_bestTraverse (xv : XV) (p1 : Int32) : Int32 × XV :=
  (if (F_X4_inRange 5 p1) = 0 then ((-2), xv) else K_X4_bestTraverse_21 12 xv p1 1 0 0)
set_option maxHeartbeats 4000000 in
set_option maxRecDepth 100000 in
theorem k_X4_bestTraverse_21 {T : TT} {X : CX} (hX : Fit T X (yX4_bestTraverse).cls 6 wsX4_bestTraverse cX4_bestTraverse (some .int) rmX4_bestTraverse) (ad : Nat → Nat) : ∀ (n : Nat) (xv : XV) (p1 : Int32) (j : Nat) (e : Int32) (f : Int32) (hn : j + n = 13) (hj : j ≤ 12) (hp : p1.toInt ≤ 500), G T X (QI T X 0 0 ((K_X4_bestTraverse_21 n xv p1 j e f).1) (wXX T ad ((K_X4_bestTraverse_21 n xv p1 j e f).2))) 0 0 (wXX T ad xv) [(4, .int (nI j)), (2, .int e), (3, .int f), (0, .ref (ad 0)), (1, .int p1)] 21 [] := by
  intro n
  induction n with
  | zero =>
    intro xv p1 j e f hn hj hp
    exact absurd hn (by omega)
  | succ n ih =>
    intro xv p1 j e f hn hj hp
    refine g_iload hX dX4_bestTraverse_21 0 rfl ?_
    refine g_iconst hX (v := 0) dX4_bestTraverse_23 (by decide) ?_
    refine g_cS_I hX (n := 1) (As := [.int 0]) (wc := []) (w1 := []) (rv := (F_X4_highest 0)) (st := [.int (nI j)]) (c_X4_highest (xL X) T (xB X) 0) gX4_bestTraverse_X4_highest rfl rfl rfl ⟨Nat.le_of_ble_eq_true rfl, Nat.le_of_ble_eq_true rfl⟩ ⟨Nat.zero_le _, Nat.zero_le _⟩ ⟨by decide +kernel, by decide +kernel, by decide +kernel⟩ rfl [] rfl rfl (by decide) rfl (Nat.le_of_ble_eq_true rfl) dX4_bestTraverse_24 (ws' := wXX T ad xv) rfl ?_
    rw [show F_X4_highest 0 = 11 from by decide]
    refine g_icmp_gt hX 68 dX4_bestTraverse_27 (by decide) (fun c_27 => ?_) (fun c_27 => ?_)
    · skip
      refine g_iload_n hX dX4_bestTraverse_68 rfl 1 rfl ?_
      have e9 : K_X4_bestTraverse_21 (n + 1) xv p1 j e f = (e, xv) := by simp only [K_X4_bestTraverse_21, eq_true c_27, if_true, if_false]
      rw [e9]
      exact g_iret hX dX4_bestTraverse_69 rfl rfl
    · skip
      have hlt_27 : j ≤ 11 := nle_of c_27 (by decide) (by omega)
      refine g_aload_n hX dX4_bestTraverse_30 rfl 3 rfl ?_
      refine g_iload hX dX4_bestTraverse_31 0 rfl ?_
      refine g_iload_n hX dX4_bestTraverse_33 rfl 4 rfl ?_
      obtain ⟨z_34, hz_34⟩ : ∃ z : XV, z = F_X4_imagine xv (nI j) p1 := ⟨_, rfl⟩
      refine g_pV_V hX (rest := []) (n := 2) (As := [.int (nI j), .int p1]) (wc := wXX T ad xv) (w1 := wXX T ad z_34) (st := []) 0 rfl rfl (by rw [hz_34]; exact (c_X4_imagine (xL X) T (xB X) ad xv (nI j) p1 hp)) gX4_bestTraverse_X4_imagine rfl rfl rfl ⟨Nat.le_of_ble_eq_true rfl, Nat.le_of_ble_eq_true rfl⟩ ⟨Nat.zero_le _, Nat.zero_le _⟩ ⟨by decide +kernel, by decide +kernel, by decide +kernel⟩ rfl (List.append_nil _).symm rfl rfl (Nat.le_of_ble_eq_true rfl) dX4_bestTraverse_34 (List.append_nil _) ?_
      refine g_aload_n hX dX4_bestTraverse_37 rfl 3 rfl ?_
      refine g_get hX 4 h_X4_bestTraverse_X4 0 rfl rfl 3 (by decide) k_X4_bestTraverse_0 rfl (v := .ref (ad 16)) rfl dX4_bestTraverse_38 ?_
      refine g_perm (pm_4 _ _ _ _ _ _ _) ?_
      refine g_pVN_I hX (n := 0) (As := []) (wc := wWr T (ad 16) (ad 17) z_34.2.2.2.2.1) (w1 := wWr T (ad 16) (ad 17) z_34.2.2.2.2.1) (rv := (F_X3_evenness z_34.2.2.2.2.1)) (st := []) 0 rfl rfl (c_X3_evenness (xL X) T (xB X) (ad 16) (ad 17) z_34.2.2.2.2.1) ggX4_bestTraverse_X3_evenness 53 rfl k_X4_bestTraverse_19 k_X4_bestTraverse_54 k_X4_bestTraverse_55 rfl rfl rfl ⟨Nat.le_of_ble_eq_true rfl, Nat.le_of_ble_eq_true rfl⟩ ⟨Nat.zero_le _, Nat.zero_le _⟩ ⟨by decide +kernel, by decide +kernel, by decide +kernel⟩ rfl rfl rfl rfl (Nat.le_of_ble_eq_true rfl) dX4_bestTraverse_41 rfl ?_
      refine g_perm (pm_4 _ _ _ _ _ _ _).symm ?_
      refine g_cast (ws' := wXX T ad z_34) rfl ?_
      refine g_istore hX (lv' := [(5, .int (F_X3_evenness z_34.2.2.2.2.1)), (4, .int (nI j)), (2, .int e), (3, .int f), (0, .ref (ad 0)), (1, .int p1)]) dX4_bestTraverse_44 (by decide) rfl ?_
      refine g_iload_n hX dX4_bestTraverse_46 rfl 2 rfl ?_
      refine g_if_eq hX 56 dX4_bestTraverse_47 (by decide) (fun c_47 => ?_) (fun c_47 => ?_)
      · skip
        refine g_iload hX dX4_bestTraverse_56 1 rfl ?_
        refine g_istore_n hX (lv' := [(2, .int (nI j)), (5, .int (F_X3_evenness z_34.2.2.2.2.1)), (4, .int (nI j)), (3, .int f), (0, .ref (ad 0)), (1, .int p1)]) dX4_bestTraverse_58 rfl (by decide) rfl ?_
        refine g_iload hX dX4_bestTraverse_59 1 rfl ?_
        refine g_istore_n hX (lv' := [(3, .int (F_X3_evenness z_34.2.2.2.2.1)), (2, .int (nI j)), (5, .int (F_X3_evenness z_34.2.2.2.2.1)), (4, .int (nI j)), (0, .ref (ad 0)), (1, .int p1)]) dX4_bestTraverse_61 rfl (by decide) rfl ?_
        refine g_iinc hX (lv' := [(4, .int (nI (j + 1))), (3, .int (F_X3_evenness z_34.2.2.2.2.1)), (2, .int (nI j)), (5, .int (F_X3_evenness z_34.2.2.2.2.1)), (0, .ref (ad 0)), (1, .int p1)]) (v := (nI (j + 1))) 3 dX4_bestTraverse_62 rfl (nI_1 _) (by decide) rfl ?_
        refine g_goto hX 21 dX4_bestTraverse_65 (by decide) ?_
        have e9 : K_X4_bestTraverse_21 (n + 1) xv p1 j e f = K_X4_bestTraverse_21 n z_34 p1 (j + 1) (nI j) (F_X3_evenness z_34.2.2.2.2.1) := by simp only [K_X4_bestTraverse_21, ← hz_34, eq_false c_27, eq_true c_47, if_true, if_false]
        rw [e9]
        refine g_lv (lv' := [(4, .int (nI (j + 1))), (2, .int (nI j)), (3, .int (F_X3_evenness z_34.2.2.2.2.1)), (0, .ref (ad 0)), (1, .int p1)]) [0, 2, 1, 4, 5] rfl ?_
        exact ih z_34 p1 (j + 1) (nI j) (F_X3_evenness z_34.2.2.2.2.1) (by omega) (by omega) hp
      · skip
        refine g_iload hX dX4_bestTraverse_50 0 rfl ?_
        refine g_iload_n hX dX4_bestTraverse_52 rfl 3 rfl ?_
        refine g_icmp_ge hX 62 dX4_bestTraverse_53 (by decide) (fun c_53 => ?_) (fun c_53 => ?_)
        · skip
          refine g_iinc hX (lv' := [(4, .int (nI (j + 1))), (5, .int (F_X3_evenness z_34.2.2.2.2.1)), (2, .int e), (3, .int f), (0, .ref (ad 0)), (1, .int p1)]) (v := (nI (j + 1))) 1 dX4_bestTraverse_62 rfl (nI_1 _) (by decide) rfl ?_
          refine g_goto hX 21 dX4_bestTraverse_65 (by decide) ?_
          have e9 : K_X4_bestTraverse_21 (n + 1) xv p1 j e f = K_X4_bestTraverse_21 n z_34 p1 (j + 1) e f := by simp only [K_X4_bestTraverse_21, ← hz_34, eq_false c_27, eq_false c_47, eq_true c_53, if_true, if_false]
          rw [e9]
          refine g_lv (lv' := [(4, .int (nI (j + 1))), (2, .int e), (3, .int f), (0, .ref (ad 0)), (1, .int p1)]) [0, 2, 3, 4, 5] rfl ?_
          exact ih z_34 p1 (j + 1) e f (by omega) (by omega) hp
        · skip
          refine g_iload hX dX4_bestTraverse_56 1 rfl ?_
          refine g_istore_n hX (lv' := [(2, .int (nI j)), (5, .int (F_X3_evenness z_34.2.2.2.2.1)), (4, .int (nI j)), (3, .int f), (0, .ref (ad 0)), (1, .int p1)]) dX4_bestTraverse_58 rfl (by decide) rfl ?_
          refine g_iload hX dX4_bestTraverse_59 1 rfl ?_
          refine g_istore_n hX (lv' := [(3, .int (F_X3_evenness z_34.2.2.2.2.1)), (2, .int (nI j)), (5, .int (F_X3_evenness z_34.2.2.2.2.1)), (4, .int (nI j)), (0, .ref (ad 0)), (1, .int p1)]) dX4_bestTraverse_61 rfl (by decide) rfl ?_
          refine g_iinc hX (lv' := [(4, .int (nI (j + 1))), (3, .int (F_X3_evenness z_34.2.2.2.2.1)), (2, .int (nI j)), (5, .int (F_X3_evenness z_34.2.2.2.2.1)), (0, .ref (ad 0)), (1, .int p1)]) (v := (nI (j + 1))) 3 dX4_bestTraverse_62 rfl (nI_1 _) (by decide) rfl ?_
          refine g_goto hX 21 dX4_bestTraverse_65 (by decide) ?_
          have e9 : K_X4_bestTraverse_21 (n + 1) xv p1 j e f = K_X4_bestTraverse_21 n z_34 p1 (j + 1) (nI j) (F_X3_evenness z_34.2.2.2.2.1) := by simp only [K_X4_bestTraverse_21, ← hz_34, eq_false c_27, eq_false c_47, eq_false c_53, if_true, if_false]
          rw [e9]
          refine g_lv (lv' := [(4, .int (nI (j + 1))), (2, .int (nI j)), (3, .int (F_X3_evenness z_34.2.2.2.2.1)), (0, .ref (ad 0)), (1, .int p1)]) [0, 2, 1, 4, 5] rfl ?_
          exact ih z_34 p1 (j + 1) (nI j) (F_X3_evenness z_34.2.2.2.2.1) (by omega) (by omega) hp
set_option maxHeartbeats 4000000 in
set_option maxRecDepth 100000 in
theorem c_X4_bestTraverse (l : Launch) (T : TT) (b0 : Nat) (ad : Nat → Nat) (xv : XV) (p1 : Int32)  : ConI l T b0 yX4_bestTraverse wsX4_bestTraverse rmX4_bestTraverse [.ref (ad 0), .int p1] (wXX T ad xv) ((F_X4_bestTraverse xv p1).1) (wXX T ad ((F_X4_bestTraverse xv p1).2)) := by
  refine conI_of (cc := cX4_bestTraverse) (maxL := 6) (ret := (some .int)) (lv0 := [(0, .ref (ad 0)), (1, .int p1)]) (by decide +kernel) rfl (Nat.le_of_ble_eq_true rfl) rfl (fun X hX => ?_)
  refine g_iconst hX (v := 5) dX4_bestTraverse_0 (by decide) ?_
  refine g_iload_n hX dX4_bestTraverse_1 rfl 1 rfl ?_
  refine g_cS_I hX (n := 2) (As := [.int 5, .int p1]) (wc := []) (w1 := []) (rv := (F_X4_inRange 5 p1)) (st := []) (c_X4_inRange (xL X) T (xB X) 5 p1) gX4_bestTraverse_X4_inRange rfl rfl rfl ⟨Nat.le_of_ble_eq_true rfl, Nat.le_of_ble_eq_true rfl⟩ ⟨Nat.zero_le _, Nat.zero_le _⟩ ⟨by decide +kernel, by decide +kernel, by decide +kernel⟩ rfl [] rfl rfl (by decide) rfl (Nat.le_of_ble_eq_true rfl) dX4_bestTraverse_2 (ws' := wXX T ad xv) rfl ?_
  refine g_if_ne hX 11 dX4_bestTraverse_5 (by decide) (fun c_5 => ?_) (fun c_5 => ?_)
  · skip
    refine g_iconst hX (v := 0) dX4_bestTraverse_11 (by decide) ?_
    refine g_istore_n hX (lv' := [(2, .int 0), (0, .ref (ad 0)), (1, .int p1)]) dX4_bestTraverse_12 rfl (by decide) rfl ?_
    refine g_iconst hX (v := 0) dX4_bestTraverse_13 (by decide) ?_
    refine g_istore_n hX (lv' := [(3, .int 0), (2, .int 0), (0, .ref (ad 0)), (1, .int p1)]) dX4_bestTraverse_14 rfl (by decide) rfl ?_
    refine g_iconst hX (v := 0) dX4_bestTraverse_15 (by decide) ?_
    refine g_cS_I hX (n := 1) (As := [.int 0]) (wc := []) (w1 := []) (rv := (F_X4_lowest 0)) (st := []) (c_X4_lowest (xL X) T (xB X) 0) gX4_bestTraverse_X4_lowest rfl rfl rfl ⟨Nat.le_of_ble_eq_true rfl, Nat.le_of_ble_eq_true rfl⟩ ⟨Nat.zero_le _, Nat.zero_le _⟩ ⟨by decide +kernel, by decide +kernel, by decide +kernel⟩ rfl [] rfl rfl (by decide) rfl (Nat.le_of_ble_eq_true rfl) dX4_bestTraverse_16 (ws' := wXX T ad xv) rfl ?_
    rw [show F_X4_lowest 0 = 1 from by decide]
    refine g_istore hX (lv' := [(4, .int 1), (3, .int 0), (2, .int 0), (0, .ref (ad 0)), (1, .int p1)]) dX4_bestTraverse_19 (by decide) rfl ?_
    have e9 : F_X4_bestTraverse xv p1 = K_X4_bestTraverse_21 12 xv p1 1 0 0 := by simp only [F_X4_bestTraverse, eq_false c_5, if_true, if_false]
    rw [e9]
    refine g_lv (lv' := [(4, .int (nI 1)), (2, .int 0), (3, .int 0), (0, .ref (ad 0)), (1, .int p1)]) [0, 2, 1, 3, 4] rfl ?_
    exact k_X4_bestTraverse_21 hX ad 12 xv p1 1 0 0 (by omega) (by omega) (inr5 c_5)
  · skip
    refine g_bipush hX (v := (-2)) dX4_bestTraverse_8 (by decide) ?_
    have e9 : F_X4_bestTraverse xv p1 = ((-2), xv) := by simp only [F_X4_bestTraverse, eq_true c_5, if_true, if_false]
    rw [e9]
    exact g_iret hX dX4_bestTraverse_10 rfl rfl
/-! X4_period -/
def rmX4_period : Room := { frames := 2, cells := 0, slots := 0, locals := 41 }
def K_X4_period_13 : Nat → XV → Int32 → Nat → Int32
  | 0, xv, p1, j => 0
  | n + 1, xv, p1, j => (if 22 ≤ (nI j) then (nI j) else (if (((nI j) * p1) - ((nI j) * p1) / 22 * 22) = 0 then (nI j) else K_X4_period_13 n xv p1 (j + 1)))
def F_X4_period (xv : XV) (p1 : Int32) : Int32 :=
  (if (F_X4_inRange 0 p1) = 0 then (-2) else K_X4_period_13 22 xv p1 1)
set_option maxHeartbeats 4000000 in
set_option maxRecDepth 100000 in
theorem k_X4_period_13 {T : TT} {X : CX} (hX : Fit T X (yX4_period).cls 3 wsX4_period cX4_period (some .int) rmX4_period) (ad : Nat → Nat) : ∀ (n : Nat) (xv : XV) (p1 : Int32) (j : Nat) (hn : j + n = 23) (hj : j ≤ 22), G T X (QI T X 0 0 (K_X4_period_13 n xv p1 j) (wXX T ad xv)) 0 0 (wXX T ad xv) [(2, .int (nI j)), (0, .ref (ad 0)), (1, .int p1)] 13 [] := by
  intro n
  induction n with
  | zero =>
    intro xv p1 j hn hj
    exact absurd hn (by omega)
  | succ n ih =>
    intro xv p1 j hn hj
    refine g_iload_n hX dX4_period_13 rfl 0 rfl ?_
    refine g_bipush hX (v := 22) dX4_period_14 (by decide) ?_
    refine g_icmp_ge hX 34 dX4_period_16 (by decide) (fun c_16 => ?_) (fun c_16 => ?_)
    · skip
      refine g_iload_n hX dX4_period_34 rfl 0 rfl ?_
      have e9 : K_X4_period_13 (n + 1) xv p1 j = (nI j) := by simp only [K_X4_period_13, eq_true c_16, if_true, if_false]
      rw [e9]
      exact g_iret hX dX4_period_35 rfl rfl
    · skip
      have hlt_16 : j < 22 := nlt_of c_16 (by decide) (by omega)
      refine g_iload_n hX dX4_period_19 rfl 0 rfl ?_
      refine g_iload_n hX dX4_period_20 rfl 2 rfl ?_
      refine g_imul hX dX4_period_21 ?_
      refine g_bipush hX (v := 22) dX4_period_22 (by decide) ?_
      refine g_irem hX dX4_period_24 (by decide) ?_
      refine g_if_eq hX 34 dX4_period_25 (by decide) (fun c_25 => ?_) (fun c_25 => ?_)
      · skip
        refine g_iload_n hX dX4_period_34 rfl 0 rfl ?_
        have e9 : K_X4_period_13 (n + 1) xv p1 j = (nI j) := by simp only [K_X4_period_13, eq_false c_16, eq_true c_25, if_true, if_false]
        rw [e9]
        exact g_iret hX dX4_period_35 rfl rfl
      · skip
        refine g_iinc hX (lv' := [(2, .int (nI (j + 1))), (0, .ref (ad 0)), (1, .int p1)]) (v := (nI (j + 1))) 0 dX4_period_28 rfl (nI_1 _) (by decide) rfl ?_
        refine g_goto hX 13 dX4_period_31 (by decide) ?_
        have e9 : K_X4_period_13 (n + 1) xv p1 j = K_X4_period_13 n xv p1 (j + 1) := by simp only [K_X4_period_13, eq_false c_16, eq_false c_25, if_true, if_false]
        rw [e9]
        refine g_lv (lv' := [(2, .int (nI (j + 1))), (0, .ref (ad 0)), (1, .int p1)]) [0, 1, 2] rfl ?_
        exact ih xv p1 (j + 1) (by omega) (by omega)
set_option maxHeartbeats 4000000 in
set_option maxRecDepth 100000 in
theorem c_X4_period (l : Launch) (T : TT) (b0 : Nat) (ad : Nat → Nat) (xv : XV) (p1 : Int32)  : ConI l T b0 yX4_period wsX4_period rmX4_period [.ref (ad 0), .int p1] (wXX T ad xv) (F_X4_period xv p1) (wXX T ad xv) := by
  refine conI_of (cc := cX4_period) (maxL := 3) (ret := (some .int)) (lv0 := [(0, .ref (ad 0)), (1, .int p1)]) (by decide +kernel) rfl (Nat.le_of_ble_eq_true rfl) rfl (fun X hX => ?_)
  refine g_iconst hX (v := 0) dX4_period_0 (by decide) ?_
  refine g_iload_n hX dX4_period_1 rfl 1 rfl ?_
  refine g_cS_I hX (n := 2) (As := [.int 0, .int p1]) (wc := []) (w1 := []) (rv := (F_X4_inRange 0 p1)) (st := []) (c_X4_inRange (xL X) T (xB X) 0 p1) gX4_period_X4_inRange rfl rfl rfl ⟨Nat.le_of_ble_eq_true rfl, Nat.le_of_ble_eq_true rfl⟩ ⟨Nat.zero_le _, Nat.zero_le _⟩ ⟨by decide +kernel, by decide +kernel, by decide +kernel⟩ rfl [] rfl rfl (by decide) rfl (Nat.le_of_ble_eq_true rfl) dX4_period_2 (ws' := wXX T ad xv) rfl ?_
  refine g_if_ne hX 11 dX4_period_5 (by decide) (fun c_5 => ?_) (fun c_5 => ?_)
  · skip
    refine g_iconst hX (v := 1) dX4_period_11 (by decide) ?_
    refine g_istore_n hX (lv' := [(2, .int 1), (0, .ref (ad 0)), (1, .int p1)]) dX4_period_12 rfl (by decide) rfl ?_
    have e9 : F_X4_period xv p1 = K_X4_period_13 22 xv p1 1 := by simp only [F_X4_period, eq_false c_5, if_true, if_false]
    rw [e9]
    refine g_lv (lv' := [(2, .int (nI 1)), (0, .ref (ad 0)), (1, .int p1)]) [0, 1, 2] rfl ?_
    exact k_X4_period_13 hX ad 22 xv p1 1 (by omega) (by omega)
  · skip
    refine g_bipush hX (v := (-2)) dX4_period_8 (by decide) ?_
    have e9 : F_X4_period xv p1 = (-2) := by simp only [F_X4_period, eq_true c_5, if_true, if_false]
    rw [e9]
    exact g_iret hX dX4_period_10 rfl rfl
end
section
/-! Making cells: rows for constructors -/
section GN
variable {T : TT} {X : CX} {own : String} {nL : Nat} {Ts : List Cond} {cc : ByteArray} {ret : Option FieldType} {R : Room} {Q : State → Prop} {cells slots : Nat} {ws : va_W} {lv : List (Nat × Value)} {pc : Nat} {st : List Value}
theorem g_widen {k n : Nat} (h1 : cells ≤ k) (h2 : slots ≤ n) (kk : G T X Q k n ws lv pc st) : G T X Q cells slots ws lv pc st :=
  fun H locs ls hP hD hS hl => W.widen h1 h2 (kk H locs ls hP hD hS hl)
theorem g_new (hX : Fit T X own nL Ts cc ret R) {C : String} {U : u_T} {N index : Nat} (ci : Nat) (hin : ∀ w ∈ u_ws C U N, w ∈ Ts) (ty0 : Nat → FieldType) (hty : ∀ k, k < N → parseFieldDescriptor (U k).2.2.1 = some (ty0 k)) (hcl : Cond.classLink own index C ∈ Ts) (hinst : Cond.instantiable C N ∈ Ts) (hini : Cond.initialized C ∈ Ts) (hc : vwCl[ci]? = some (C, U, N)) {fs : List Value} (hfs : ∀ j, j < N → defaultValue (ty0 j) = vp_V fs j) (hcells : cells + 1 ≤ R.cells) (hslots : slots + N ≤ R.slots) (hdg : decode cc pc = .ok (.new index, 3))
    (k : ∀ q : Nat, G T X Q (cells + 1) (slots + N) (ws ++ [(q, .inr (ci, fs))]) lv (pc + 3) (.ref q :: st)) : G T X Q cells slots ws lv pc st := by
  intro H locs ls hP hD hS hl
  have e : xR X = R := hX.2.2.2.2.2.2.2.2.2.2.2
  exact va_new (D := T.1) hX.1 hX.2.1 hX.2.2.2.2.1 hin ty0 hty hX.2.2.2.1 (hX.2.2.2.2.1 _ hcl) (hX.2.2.2.2.1 _ hinst) (hX.2.2.2.2.1 _ hini) hX.2.2.2.2.2.1 hP hD hS hX.2.2.2.2.2.2.1 hc hfs (by rw [e]; exact hcells) (by rw [e]; exact hslots) hdg (fun q H1 hP1 hD1 hS1 => k q H1 locs ls hP1 hD1 hS1 hl)
theorem g_newI (hX : Fit T X own nL Ts cc ret R) {n : Int32} (N : Nat) (hn : ¬ n < 0) (hN : n.toNatClampNeg = N) (hb : N * 4 ≤ 536870912) (harr : Cond.arrayClass .int ∈ Ts) (hcells : cells + 1 ≤ R.cells) (hslots : slots + N ≤ R.slots) (hdg : decode cc pc = .ok (.newarray .int, 2))
    (k : ∀ q : Nat, G T X Q (cells + 1) (slots + N) (ws ++ [(q, .inl (T.2.1, N, .inl (fun _ => 0)))]) lv (pc + 2) (.ref q :: st)) : G T X Q cells slots ws lv pc (.int n :: st) := by
  intro H locs ls hP hD hS hl
  have e : xR X = R := hX.2.2.2.2.2.2.2.2.2.2.2
  refine va_newa (D := T.1) (atype := .int) (ty := .int) (a0 := (N, .inl (fun _ => 0))) hX.1 hX.2.1 (hX.2.2.2.2.1 _ harr) rfl hX.2.2.2.2.2.1 hP hD hS hX.2.2.2.2.2.2.1 (fun _ => rfl) hn hN hb (by rw [e]; exact hcells) (by rw [e]; exact hslots) hdg (fun q cA H1 hK1 hP1 hD1 hS1 => ?_)
  have h1 := va_nm_int (hK1.2 3 (cA, .int) rfl).2
  have h2 := va_nm_int (hX.2.2.2.2.2.1.2 0 (T.2.1, .int) rfl).2
  have h3 : cA = T.2.1 := Option.some.inj (h1.symm.trans h2)
  subst h3
  exact k q H1 locs ls hP1 hD1 hS1 hl
theorem g_newC (hX : Fit T X own nL Ts cc ret R) {n : Int32} (N : Nat) (hn : ¬ n < 0) (hN : n.toNatClampNeg = N) (hb : N * 2 ≤ 536870912) (harr : Cond.arrayClass .char ∈ Ts) (hcells : cells + 1 ≤ R.cells) (hslots : slots + N ≤ R.slots) (hdg : decode cc pc = .ok (.newarray .char, 2))
    (k : ∀ q : Nat, G T X Q (cells + 1) (slots + N) (ws ++ [(q, .inl (T.2.2.1, N, .inl (fun _ => 0)))]) lv (pc + 2) (.ref q :: st)) : G T X Q cells slots ws lv pc (.int n :: st) := by
  intro H locs ls hP hD hS hl
  have e : xR X = R := hX.2.2.2.2.2.2.2.2.2.2.2
  refine va_newa (D := T.1) (atype := .char) (ty := .char) (a0 := (N, .inl (fun _ => 0))) hX.1 hX.2.1 (hX.2.2.2.2.1 _ harr) rfl hX.2.2.2.2.2.1 hP hD hS hX.2.2.2.2.2.2.1 (fun _ => rfl) hn hN hb (by rw [e]; exact hcells) (by rw [e]; exact hslots) hdg (fun q cA H1 hK1 hP1 hD1 hS1 => ?_)
  have h1 := va_nm_char (hK1.2 3 (cA, .char) rfl).2
  have h2 := va_nm_char (hX.2.2.2.2.2.1.2 1 (T.2.2.1, .char) rfl).2
  have h3 : cA = T.2.2.1 := Option.some.inj (h1.symm.trans h2)
  subst h3
  exact k q H1 locs ls hP1 hD1 hS1 hl
theorem g_newS (hX : Fit T X own nL Ts cc ret R) {index : Nat} {n : Int32} (N : Nat) (hn : ¬ n < 0) (hN : n.toNatClampNeg = N) (hb : N * 4 ≤ 536870912) (hcl : Cond.classLink own index RX2 ∈ Ts) (hcells : cells + 1 ≤ R.cells) (hslots : slots + N ≤ R.slots) (hdg : decode cc pc = .ok (.anewarray index, 3))
    (k : ∀ q : Nat, G T X Q (cells + 1) (slots + N) (ws ++ [(q, .inl (T.2.2.2, N, .inr (.inr (.inr (.inr (fun _ => none))))))]) lv (pc + 3) (.ref q :: st)) : G T X Q cells slots ws lv pc (.int n :: st) := by
  intro H locs ls hP hD hS hl
  have e : xR X = R := hX.2.2.2.2.2.2.2.2.2.2.2
  obtain ⟨t, _, _, _, _, hao⟩ := hX.2.2.2.2.2.2.2.2.1.2.2.2
  refine va_newq (D := T.1) (C := RX2) hX.1 hX.2.1 hX.2.2.2.1 (hX.2.2.2.2.1 _ hcl) hao hX.2.2.2.2.2.1 hP hD hS hX.2.2.2.2.2.2.1 hn hN hb (by rw [e]; exact hcells) (by rw [e]; exact hslots) hdg (fun q cA H1 hK1 hP1 hD1 hS1 => ?_)
  obtain ⟨_, _, _, _, _, h1⟩ := (hK1.2 3 (cA, .object RX2) rfl).2
  obtain ⟨_, _, _, _, _, h2⟩ := (hX.2.2.2.2.2.1.2 2 (T.2.2.2, .object RX2) rfl).2
  have h3 : cA = T.2.2.2 := Option.some.inj (h1.symm.trans h2)
  subst h3
  exact k q H1 locs ls hP1 hD1 hS1 hl
/-- a reference laid into an array of states -/
theorem g_aast (hX : Fit T X own nL Ts cc ret R) (q0 qk : Nat) {a n v : Nat} {vs : List Value} {f : Nat → Option Nat} (ha : ws[q0]? = some (a, .inl (T.2.2.2, n, .inr (.inr (.inr (.inr f)))))) (hv : ws[qk]? = some (v, .inr (2, vs))) {i : Int32} (hin : vp_in i n) (hdg : decode cc pc = .ok (.aastore, 1)) {ws' : va_W} (hw : ws.set q0 (a, .inl (T.2.2.2, n, .inr (.inr (.inr (.inr (va_up f i.toNatClampNeg (some v))))))) = ws') (k : G T X Q cells slots ws' lv (pc + 1) st) : G T X Q cells slots ws lv pc (.ref v :: .int i :: .ref a :: st) := by
  subst hw
  exact fun H locs ls hP hD hS hl => va_astq (D := T.1) (r := (RX2, TX2, 11)) hX.1 hX.2.1 hX.2.2.2.2.2.1 hP hD hS q0 2 qk 2 ha rfl hv rfl hin hdg (fun H1 locs1 hP1 hD1 hS1 => k H1 locs1 ls hP1 hD1 hS1 hl)
theorem vp_cell_congrq {cA : ClassId} {n : Nat} {f g : Nat → Option Nat} (h : ∀ j, j < n → f j = g j) : vp_cell cA (n, .inr (.inr (.inr (.inr f)))) = vp_cell cA (n, .inr (.inr (.inr (.inr g)))) := by
  rw [vp_cell_q, vp_cell_q]
  unfold arrV
  congr 1
  congr 1
  funext j
  show va_rf (f j.val) = va_rf (g j.val)
  rw [h j.val j.isLt]
theorem g_sameq (q0 : Nat) {a n : Nat} {cA : ClassId} {f : Nat → Option Nat} (g : Nat → Option Nat) (ha : ws[q0]? = some (a, .inl (cA, n, .inr (.inr (.inr (.inr f)))))) (h : ∀ j, j < n → f j = g j) {ws' : va_W} (hw : ws.set q0 (a, .inl (cA, n, .inr (.inr (.inr (.inr g))))) = ws') (k : G T X Q cells slots ws' lv pc st) : G T X Q cells slots ws lv pc st := by
  subst hw
  intro H locs ls hP hD hS hl
  refine k H locs ls ?_ (hD.set ha) hS hl
  exact hP.set hD ha (show H[a]? = some (vp_cell cA (n, .inr (.inr (.inr (.inr g))))) from by rw [← vp_cell_congrq h]; exact hP q0 _ ha) (fun q _ => rfl)
/-- the clone of FIRST_NUMBERS -/
theorem va_cloneC {p : Program} {l : Launch} {e : Env} {R : Room} {s : State} {m : MethodId} {args : Array Value} {below : List Frame} {meth : Method} {c : Code} {H : Heap} {locs : List Loc} {cells slots : Nat} {Q : State → Prop} {cc : ByteArray} {pc : Nat} {ls : Array Slot} {rest : List Value} {D : va_G} {cl : List vw_C} {A : Nat → Prop} {ws : va_W} {H0 : Heap} (hexec : p.tables.exec = Jvm.exec) (hb : c.code = cc) (hml : c.maxLocals = ls.size) {own ad : String} {index : Nat} (hown : s.vm.findClass own = some m.cls)
    (hlink : (Cond.methodLink own index ⟨ad, "clone", "()Ljava/lang/Object;"⟩).before args s = true) (hsame : (Cond.sameMethod ad "java/lang/Object" "clone" "()Ljava/lang/Object;").before args s = true)
    (hnat : (Cond.native ⟨"java/lang/Object", "clone", "()Ljava/lang/Object;"⟩).before args s = true) (hinst : (Cond.instanceMethod ⟨"java/lang/Object", "clone", "()Ljava/lang/Object;"⟩).before args s = true)
    (hsel : (Cond.selects ad ⟨ad, "clone", "()Ljava/lang/Object;"⟩ ⟨"java/lang/Object", "clone", "()Ljava/lang/Object;"⟩).before args s = true) (hcl : va_Nw (.castable ad "java/lang/Cloneable") s)
    (hP : va_P D cl ws H) (hD : va_D A ws) (hS : va_S A H0 H locs) (hA : ∀ q, H0.size ≤ q → A q) {a n : Nat} {cell : Cell} {cA : ClassId} {f : Nat → Int32} (hcell : H[a]? = some cell) (hcA : cell.cls = cA) (hsl : cell.slots = (arrV cA n (fun j => .int (f j))).slots) (hst : ∀ k, cell.vm ≠ .statics k) (hun : cell.vm ≠ .unknown) (harr : ArrOfT s cA .int) (hnm : s.vm.findClass ad = some cA)
    (hframes : 1 ≤ R.frames) (hlocals : (rest.map fun v => v.category).sum + 14 ≤ R.locals) (hcells : cells + 1 ≤ R.cells) (hslots : slots + n ≤ R.slots) (hdg : decode cc pc = .ok (.invokevirtual index, 3))
    (kk : ∀ (q : Nat) (H1 : Heap), va_P D cl (ws ++ [(q, .inl (cA, n, .inl f))]) H1 → va_D A (ws ++ [(q, .inl (cA, n, .inl f))]) → va_S A H0 H1 locs → W p l e R s m args below meth c H1 locs (cells + 1) (slots + n) Q (F0 m (pc + 3) ls (.ref q :: rest))) : W p l e R s m args below meth c H locs cells slots Q (F0 m pc ls (.ref a :: rest)) := by
  have hsz : cell.slots.size = n := by rw [hsl, arrV_size]
  have hcellE : ({ cls := cell.cls, slots := cell.slots } : Cell) = vp_cell cA (n, .inl f) := by
    rw [hcA, hsl]
    rfl
  have hfit : ∀ (i : Nat) (v : Value), cell.slots[i]? = some v → fits .int v = true := fun i v hv => by
    rw [hsl] at hv
    exact va_fit (fun _ _ => rfl) i v hv
  obtain ⟨c0, t0', f1, f2, f3⟩ := Cond.castable_spec (va_Nw.use (A := args) rfl hcl)
  cases hnm.symm.trans f1
  intro T hT X
  have hcellT : T.heap[a]? = some cell := by rw [hT]; exact hcell
  obtain ⟨-, kA, hkA, comp, hkind⟩ := State.isArrayOf_alike X.warmed.alike (harr 0 (fun _ => .null))
  obtain ⟨-, kS, hkS, compS, hkindS⟩ := harr 0 (fun _ => .null)
  obtain ⟨vm', X', st⟩ := X.cloneArray hexec hown hlink hsame hnat hinst hsel (a := a) (cell := cell) hcellT hst hun (by rw [hcA]; exact hnm) f2 (by rw [hcA]; exact f3)
    (fun i v hv => by
      rw [hcA]
      have hk' : T.vm.classes[cA]? = some kA := hkA
      simpa [State.fitsSlot, State.slotType?, hk', hkind] using hfit i v hv)
    (g := F0 m pc ls (.ref a :: rest)) rfl (by rw [hml]) rfl (by rw [hb]; exact hdg) hframes (by show 2 * 0 + _ + 14 ≤ _; omega) hcells (by rw [hsz]; exact hslots) (hloader := by rw [hcA]; exact Vm.clonesLoader_of_array hkS hkindS)
  rw [hcellE, hsz] at X'
  generalize hH1 : H.push (vp_cell cA (n, .inl f)) = H1
  have e1 : H1[H.size]? = some (vp_cell cA (n, .inl f)) := by rw [← hH1, Array.getElem?_push_size]
  have z1 : H1.size = H.size + 1 := by rw [← hH1, Array.size_push]
  have o1 : ∀ q : Nat, q < H.size → H1[q]? = H[q]? := fun q hq => by rw [← hH1, Array.getElem?_push, if_neg (Nat.ne_of_lt hq)]
  have hk : ∀ (k : Nat) (y : Nat × va_E), ws[k]? = some y → H1[y.1]? = H[y.1]? := fun k y hy => o1 y.1 ((hP k y hy).lt)
  obtain ⟨t, b1, b2⟩ := kk H.size H1 ((hP.kept hk).app (fun k y hy => by
      have hz : k < 1 := (List.getElem?_eq_some_iff.mp hy).1
      rw [show k = 0 by omega] at hy
      cases hy
      exact e1)) (hD.push hP rfl (hA _ hS.1)) ⟨Nat.le_trans hS.1 (by omega), fun y h1 h2 => (o1 y (Nat.lt_of_lt_of_le h1 hS.1)).trans (hS.2.1 y h1 h2), hS.2.2⟩
    ((T.setVm vm').pushCell (vp_cell cA (n, .inl f))) (by rw [← hH1, ← hT]; rfl) X'
  refine ⟨t, st t ?_, b2⟩
  rw [hcellE, hT]
  exact b1
theorem g_clone (hX : Fit T X own nL Ts cc ret R) {t index : Nat} (hF : fHas T X t) (hlink : Cond.methodLink own index ⟨"[I", "clone", "()Ljava/lang/Object;"⟩ ∈ Ts) (hsame : Cond.sameMethod "[I" "java/lang/Object" "clone" "()Ljava/lang/Object;" ∈ Ts) (hnat : Cond.native ⟨"java/lang/Object", "clone", "()Ljava/lang/Object;"⟩ ∈ Ts) (hinst : Cond.instanceMethod ⟨"java/lang/Object", "clone", "()Ljava/lang/Object;"⟩ ∈ Ts) (hsel : Cond.selects "[I" ⟨"[I", "clone", "()Ljava/lang/Object;"⟩ ⟨"java/lang/Object", "clone", "()Ljava/lang/Object;"⟩ ∈ Ts) (hfr : 1 ≤ R.frames) (hlo : (st.map fun v => v.category).sum + 14 ≤ R.locals) (hcells : cells + 1 ≤ R.cells) (hslots : slots + 5 ≤ R.slots) (hdg : decode cc pc = .ok (.invokevirtual index, 3))
    (k : ∀ q : Nat, G T X Q (cells + 1) (slots + 5) (ws ++ [(q, .inl (T.2.1, 5, .inl fFirst))]) lv (pc + 3) (.ref q :: st)) : G T X Q cells slots ws lv pc (.ref t :: st) := by
  intro H locs ls hP hD hS hl
  have e : xR X = R := hX.2.2.2.2.2.2.2.2.2.2.2
  obtain ⟨_, _, _, _, hcast, _⟩ := hX.2.2.2.2.2.2.2.2.1.2.2.2
  have hn : ¬ xA X t := fun z => by
    have h1 := hX.2.2.2.2.2.2.2.2.2.1 t z
    have h2 := hF.2
    omega
  obtain ⟨cell, c1, c2, c3, c4, c5⟩ := hF.1
  have hc : H[t]? = some cell := by rw [hS.2.1 t (Array.getElem?_eq_some_iff.mp c1).1 hn]; exact c1
  have hr := hX.2.2.2.2.2.1.2 0 (T.2.1, .int) rfl
  exact va_cloneC (D := T.1) (cl := vwCl) hX.1 hX.2.1 (by rw [hl.1]) hX.2.2.2.1 (hX.2.2.2.2.1 _ hlink) (hX.2.2.2.2.1 _ hsame) (hX.2.2.2.2.1 _ hnat) (hX.2.2.2.2.1 _ hinst) (hX.2.2.2.2.1 _ hsel) hcast hP hD hS hX.2.2.2.2.2.2.1 hc c2 c3 c4 c5 hr.1 (va_nm_int hr.2) (by rw [e]; exact hfr) (by rw [e]; exact hlo) (by rw [e]; exact hcells) (by rw [e]; exact hslots) hdg (fun q H1 hP1 hD1 hS1 => k q H1 locs ls hP1 hD1 hS1 hl)
theorem g_castA (hX : Fit T X own nL Ts cc ret R) {index a : Nat} (hlink : Cond.classLink own index "[I" ∈ Ts) (q0 : Nat) {n : Nat} {f : Nat → Int32} (ha : ws[q0]? = some (a, .inl (T.2.1, n, .inl f))) (hdg : decode cc pc = .ok (.checkcast index, 3)) (k : G T X Q cells slots ws lv (pc + 3) (.ref a :: st)) : G T X Q cells slots ws lv pc (.ref a :: st) :=
  fun H locs ls hP hD hS hl => va_castA (D := T.1) hX.1 hX.2.1 hX.2.2.2.1 (hX.2.2.2.2.1 _ hlink) hP q0 ha (va_nm_int (hX.2.2.2.2.2.1.2 0 (T.2.1, .int) rfl).2) hdg (k H locs ls hP hD hS hl)
end GN
end
section
/-- a constructor's end -/
def QN (T : TT) (X : CX) (mc ms : Nat) (S : Type) (post : S → va_W → Prop) : State → Prop := MQ (xBl X) (va_Qv (fun (u : S × va_W) => post u.1 u.2) (fun u t => va_P T.1 vwCl u.2 t.heap ∧ va_D (xA X) u.2) (xA X)) (xAr X) (xS X) mc ms (xA X)
theorem conC_of {l : Launch} {T : TT} {b0 : Nat} {y : MethodName} {wds wds' : List Cond} {rm : Room} {av : List Value} {w0 : va_W} {S : Type} {post : S → va_W → Prop} {nc ns : Nat} {cc : ByteArray} {maxL : Nat} {ret : Option FieldType} {lv0 : List (Nat × Value)} (hy : plainName y.cls = true) (hyn : y.name = "<init>") (hw : wds = .code y cc maxL ret :: wds') (hav : (lg_sl av).length ≤ maxL) (hlv : lv_args 0 av = lv0)
    (body : ∀ X : CX, Fit T X y.cls maxL wds cc ret rm → (xMe X).name = "<init>" → G T X (QN T X nc ns S post) 0 0 w0 lv0 0 []) : ConC l T b0 y wds rm av w0 S post nc ns := fun sz hsz =>
  fit_body hy hw hav hlv hsz (fun X hX hl hB hn hA hs => by
    have k := body X hX (hn.trans hyn)
    unfold QN at k
    rw [hA] at k ⊢
    exact k)
theorem zva_join {A0 : Nat → Prop} {D : va_G} {cl : List vw_C} {wc wr w1 : va_W} {H H1 : Heap} (hP : va_P D cl (wr ++ wc) H) (hD : va_D A0 (wr ++ wc)) (hk : ∀ q : Nat, q < H.size → ¬ va_A wc H.size q → H1[q]? = H[q]?) (hF : ∀ q, va_A wc H.size q → A0 q) (hP1 : va_P D cl w1 H1) (hD1 : va_D (va_A wc H.size) w1) : va_P D cl (wr ++ w1) H1 ∧ va_D A0 (wr ++ w1) := by
  have hPm := zva_P_mem.mp hP
  have hDm := zva_D_nodup.mp hD
  have hD1m := zva_D_nodup.mp hD1
  have hnd := hDm.1
  rw [List.map_append, List.nodup_append] at hnd
  have apart : ∀ q ∈ wr, ¬ va_A wc H.size q.1 := by
    intro q hq h
    rcases h with ⟨k, e, h⟩ | h
    · exact hnd.2.2 q.1 (List.mem_map.mpr ⟨q, hq, rfl⟩) q.1 (List.mem_map.mpr ⟨(q.1, e), List.mem_of_getElem? h, rfl⟩) rfl
    · have := (hPm q (List.mem_append_left _ hq)).lt
      omega
  refine ⟨zva_P_mem.mpr (fun q hq => ?_), ?_⟩
  · rcases List.mem_append.mp hq with h | h
    · have h1 := hPm q (List.mem_append_left _ h)
      exact h1.kept (hk q.1 h1.lt (apart q h))
    · exact zva_P_mem.mp hP1 q h
  · rw [zva_D_nodup, List.map_append, List.nodup_append]
    refine ⟨⟨hnd.1, hD1m.1, fun x hx y hy => ?_⟩, fun q hq => ?_⟩
    · obtain ⟨q, hq, rfl⟩ := List.mem_map.mp hx
      obtain ⟨r, hr, rfl⟩ := List.mem_map.mp hy
      intro z
      exact apart q hq (z ▸ hD1m.2 r hr)
    · rcases List.mem_append.mp hq with h | h
      · exact hDm.2 q (List.mem_append_left _ h)
      · exact hF q.1 (hD1m.2 q h)
theorem zva_free {A0 : Nat → Prop} {wc wr : va_W} {H0 H : Heap} {locs : List Loc} (hD : va_D A0 (wr ++ wc)) (hS : va_S A0 H0 H locs) (hA : ∀ q, H0.size ≤ q → A0 q) : ∀ q, va_A wc H.size q → A0 q := by
  intro q h
  rcases h with ⟨k, e, h⟩ | h
  · exact (zva_D_nodup.mp hD).2 (q, e) (List.mem_append_right _ (List.mem_of_getElem? h))
  · exact hA q (Nat.le_trans hS.1 h)
theorem zva_D_right {A : Nat → Prop} {a b : va_W} (hD : va_D A (a ++ b)) : va_D A b := by
  rw [zva_D_nodup] at hD ⊢
  rw [List.map_append, List.nodup_append] at hD
  exact ⟨hD.1.2.1, fun q hq => hD.2 q (List.mem_append_right _ hq)⟩
section GCN
variable {T : TT} {X : CX} {own : String} {nL : Nat} {Ts : List Cond} {cc : ByteArray} {ret : Option FieldType} {R : Room} {Q : State → Prop} {cells slots : Nat} {ws : va_W} {lv : List (Nat × Value)} {pc : Nat} {st : List Value}
theorem g_vretC {S : Type} {post : S → va_W → Prop} (hX : Fit T X own nL Ts cc none R) (hdg : decode cc pc = .ok (.return_, 1)) (u : S) (hp : post u ws) : G T X (QN T X cells slots S post) cells slots ws lv pc [] := by
  intro H locs ls hP hD hS hl
  exact W.vret hX.1 hX.2.1 hX.2.2.2.2.2.2.2.2.2.2.1 (fun t ht hW => ⟨⟨(u, ws), rfl, hp, by rw [ht]; exact hP, hD⟩, hS.F ht⟩) hS.2.2 hdg (hlocks := hX.2.2.2.2.2.2.2.1)
theorem g_cIN (hX : Fit T X own nL Ts cc ret R) {y : MethodName} {bytes : ByteArray} {maxL n index : Nat} {wds wds' : List Cond} {rm : Room} {As : List Value} {wc wr : va_W} {stk : List Value} {S : Type} {post : S → va_W → Prop} {nc ns b : Nat} (hM : ConC (xL X) T (xB X) y wds rm (.ref b :: As) wc S post nc ns) (hG : GoodIn Ts wds) (nk : Nat) {host : String} (hlink : nws[nk]? = some (Cond.methodLinkNest own index y host)) (hini : Cond.initialized y.cls ∈ Ts) (hinst : Cond.instanceMethod y ∈ Ts) (hyn : y.name = "<init>") (hw : wds = Cond.code y bytes maxL none :: wds') (hrc : rm.cells = nc) (hrs : rm.slots = ns) (hR : rm.frames + 1 ≤ R.frames ∧ 8 + (maxL + 11) + rm.locals ≤ R.locals) (hcs : cells + nc ≤ R.cells ∧ slots + ns ≤ R.slots) (hd : y.cls ≠ "java/lang/invoke/MethodHandle" ∧ y.cls ≠ "java/lang/invoke/VarHandle" ∧ (parseMethodDescriptor y.desc).map (fun d => d.parameters.length) = some n) (hlen : As.length = n) (hstk : stk = As.reverse ++ .ref b :: st) (hcat : (st.map fun v => v.category).sum ≤ 8) (hdg : decode cc pc = .ok (.invokespecial index, 3)) (k : ∀ (u : S) (w1 : va_W), post u w1 → G T X Q (cells + nc) (slots + ns) (wr ++ w1) lv (pc + 3) st) : G T X Q cells slots (wr ++ wc) lv pc stk := by
  intro H locs ls hP hD hS hl
  have hPc : va_P T.1 vwCl wc H := zva_P_mem.mpr (fun q hq => zva_P_mem.mp hP q (List.mem_append_right _ hq))
  have hDc := zva_D_right hD
  have hFc := zva_free hD hS hX.2.2.2.2.2.2.1
  have hR' : rm.frames + 1 ≤ (xR X).frames ∧ 8 + (maxL + 11) + rm.locals ≤ (xR X).locals := by rw [hX.2.2.2.2.2.2.2.2.2.2.2]; exact hR
  have hcs' : cells + nc ≤ (xR X).cells ∧ slots + ns ≤ (xR X).slots := by rw [hX.2.2.2.2.2.2.2.2.2.2.2]; exact hcs
  refine va_callv (va_runIN (As := As) (rest := st) ⟨hX.1, hX.2.1, rfl, hX.2.2.2.1, hX.2.2.2.2.1⟩ (hM H.size (fit_low hX hS)) ⟨va_cnB n hX.2.2.2.2.1 hG hw hrc hrs (hX.2.2.2.2.2.2.2.2.1.1 _ (List.mem_of_getElem? hlink)) (hX.2.2.2.2.1 _ hini) hd hR', hyn, hX.2.2.2.2.1 _ hinst⟩ ⟨PreC_blind, fun U hU hW => ⟨rfl, by rw [hU], by rw [hU]; exact hPc, va_K.moved hW.alike hX.2.2.2.2.2.1, hDc.weaken (fun _ q _ h => hX.2.2.2.2.2.2.2.2.2.1 _ h), hX.2.2.2.2.2.2.2.2.1.moved hS hX.2.2.2.2.2.2.2.2.2.1 hW hU⟩⟩ rfl hlen hl.1 hstk (lv_room hcat) hdg hcs') hS (fun q _ h => hFc q h) hFc (fun u t H1 locs1 ht hvm hw2 hB hz1 hk1 hS1 => ?_)
  obtain ⟨hP1, hD1⟩ := hB
  rw [ht] at hP1
  obtain ⟨hP2, hD2⟩ := zva_join hP hD hk1 hFc hP1 hD1
  exact k u.1 u.2 hw2 H1 locs1 ls hP2 hD2 hS1 hl
theorem g_cI (hX : Fit T X own nL Ts cc ret R) {y : MethodName} {bytes : ByteArray} {maxL n index : Nat} {wds wds' : List Cond} {rm : Room} {As : List Value} {wc wr : va_W} {stk : List Value} {S : Type} {post : S → va_W → Prop} {nc ns b : Nat} (hM : ConC (xL X) T (xB X) y wds rm (.ref b :: As) wc S post nc ns) (hG : GoodIn Ts wds) (hlink : Cond.methodLink own index y ∈ Ts) (hini : Cond.initialized y.cls ∈ Ts) (hinst : Cond.instanceMethod y ∈ Ts) (hyn : y.name = "<init>") (hw : wds = Cond.code y bytes maxL none :: wds') (hrc : rm.cells = nc) (hrs : rm.slots = ns) (hR : rm.frames + 1 ≤ R.frames ∧ 8 + (maxL + 11) + rm.locals ≤ R.locals) (hcs : cells + nc ≤ R.cells ∧ slots + ns ≤ R.slots) (hd : y.cls ≠ "java/lang/invoke/MethodHandle" ∧ y.cls ≠ "java/lang/invoke/VarHandle" ∧ (parseMethodDescriptor y.desc).map (fun d => d.parameters.length) = some n) (hlen : As.length = n) (hstk : stk = As.reverse ++ .ref b :: st) (hcat : (st.map fun v => v.category).sum ≤ 8) (hdg : decode cc pc = .ok (.invokespecial index, 3)) (k : ∀ (u : S) (w1 : va_W), post u w1 → G T X Q (cells + nc) (slots + ns) (wr ++ w1) lv (pc + 3) st) : G T X Q cells slots (wr ++ wc) lv pc stk := by
  intro H locs ls hP hD hS hl
  have hPc : va_P T.1 vwCl wc H := zva_P_mem.mpr (fun q hq => zva_P_mem.mp hP q (List.mem_append_right _ hq))
  have hDc := zva_D_right hD
  have hFc := zva_free hD hS hX.2.2.2.2.2.2.1
  have hR' : rm.frames + 1 ≤ (xR X).frames ∧ 8 + (maxL + 11) + rm.locals ≤ (xR X).locals := by rw [hX.2.2.2.2.2.2.2.2.2.2.2]; exact hR
  have hcs' : cells + nc ≤ (xR X).cells ∧ slots + ns ≤ (xR X).slots := by rw [hX.2.2.2.2.2.2.2.2.2.2.2]; exact hcs
  refine va_callv (va_runI (As := As) (rest := st) ⟨hX.1, hX.2.1, rfl, hX.2.2.2.1, hX.2.2.2.2.1⟩ (hM H.size (fit_low hX hS)) (cwI n hX.2.2.2.2.1 hG hw hrc hrs (hX.2.2.2.2.1 _ hini) (hX.2.2.2.2.1 _ hlink) (hX.2.2.2.2.1 _ hinst) hyn hd hR') ⟨PreC_blind, fun U hU hW => ⟨rfl, by rw [hU], by rw [hU]; exact hPc, va_K.moved hW.alike hX.2.2.2.2.2.1, hDc.weaken (fun _ q _ h => hX.2.2.2.2.2.2.2.2.2.1 _ h), hX.2.2.2.2.2.2.2.2.1.moved hS hX.2.2.2.2.2.2.2.2.2.1 hW hU⟩⟩ rfl hlen hl.1 hstk (lv_room hcat) hdg hcs') hS (fun q _ h => hFc q h) hFc (fun u t H1 locs1 ht hvm hw2 hB hz1 hk1 hS1 => ?_)
  obtain ⟨hP1, hD1⟩ := hB
  rw [ht] at hP1
  obtain ⟨hP2, hD2⟩ := zva_join hP hD hk1 hFc hP1 hD1
  exact k u.1 u.2 hw2 H1 locs1 ls hP2 hD2 hS1 hl
end GCN
def z0 : Nat → Int32 := fun _ => 0
def u0 : SV := (fun j => match j with | 0 => 5000 | 3 => -1 | _ => 0, (fun _ => 0, fun _ => 0), fun _ => 0, fFirst)
def t0 : TV := (fun j => match j with | 0 => 0 | 1 => 0 | _ => -1, fun _ => 0, fun _ => 0, fun _ => 0)
def h0V : HV := (fun _ => 0, fun _ => u0)
def xv0 : XV := (fun j => match j with | 0 => 0 | _ => -5, u0, u0, u0, (fun _ => 0, fun _ => 0), h0V, t0)
def a0V : Nat → Int32 := fun j => match j with | 24 => 5 | 25 => 3 | 27 => 10 | 28 => 60 | 30 => 5000 | 34 => -5 | _ => 0
def mv0 : MV := (fun j => match j with | 5 => -5 | _ => 0, a0V, fun _ => 0, fun _ => 0, fun _ => 0, fun _ => 0, fun _ => 0)
def rmX3_init : Room := { frames := 1, cells := 1, slots := 12, locals := 14 }
theorem k_X3_init_0 : Cond.methodLink RX3 3 objectInit ∈ wsX3_init := List.mem_of_getElem? (i := 1) rfl
theorem k_X3_init_1 : Cond.instanceMethod objectInit ∈ wsX3_init := List.mem_of_getElem? (i := 2) rfl
theorem k_X3_init_2 : Cond.code objectInit ⟨#[0xb1]⟩ 1 none ∈ wsX3_init := List.mem_of_getElem? (i := 3) rfl
theorem k_X3_init_3 : Cond.arrayClass .int ∈ wsX3_init := List.mem_of_getElem? (i := 4) rfl
theorem k_X3_init_4 : Cond.fieldLink RX3 9 RX3 (TX3 0).2.1 (TX3 0).2.2.1 ∈ wsX3_init := List.mem_of_getElem? (i := 5) rfl
theorem h_X3_init_X3 : ∀ w ∈ u_ws RX3 TX3 4, w ∈ wsX3_init := fun w h => List.mem_cons_of_mem _ (List.mem_append_right _ h)
theorem k_X3_init_5 : Cond.fieldLink RX3 15 RX3 (TX3 1).2.1 (TX3 1).2.2.1 ∈ wsX3_init := List.mem_of_getElem? (i := 6) rfl
theorem k_X3_init_6 : Cond.fieldLink RX3 19 RX3 (TX3 2).2.1 (TX3 2).2.2.1 ∈ wsX3_init := List.mem_of_getElem? (i := 7) rfl
theorem k_X3_init_7 : Cond.fieldLink RX3 22 RX3 (TX3 3).2.1 (TX3 3).2.2.1 ∈ wsX3_init := List.mem_of_getElem? (i := 8) rfl
set_option maxHeartbeats 4000000 in
set_option maxRecDepth 100000 in
theorem c_X3_init (l : Launch) (T : TT) (b0 : Nat) (s0 : Nat) : ConC l T b0 yX3_init wsX3_init rmX3_init [.ref s0] [(s0, .inr (3, [.null, .int 0, .int 0, .int 0]))] Nat (fun (h : Nat) (w : va_W) => w = wWr T s0 h (fun _ => 0, fun _ => 0)) 1 12 := by
  refine conC_of (cc := cX3_init) (maxL := 1) (ret := none) (lv0 := [(0, .ref s0)]) (by decide +kernel) rfl rfl (Nat.le_of_ble_eq_true rfl) rfl (fun X hX hin => ?_)
  refine g_aload_n hX dX3_init_0 rfl 0 rfl ?_
  refine g_objInit hX k_X3_init_0 k_X3_init_1 k_X3_init_2 (Nat.le_of_ble_eq_true rfl) (Nat.le_of_ble_eq_true rfl) dX3_init_1 ?_
  refine g_aload_n hX dX3_init_4 rfl 0 rfl ?_
  refine g_bipush hX (v := 12) dX3_init_5 (by decide) ?_
  refine g_newI hX 12 (by decide) (by decide) (by decide) k_X3_init_3 (Nat.le_of_ble_eq_true rfl) (Nat.le_of_ble_eq_true rfl) dX3_init_7 (fun q7 => ?_)
  refine g_putF hX 3 h_X3_init_X3 0 rfl rfl 0 (by decide) tyX3 tyX3_ok nmX3 k_X3_init_4 rfl rfl hin rfl rfl rfl rfl (Nat.le_of_ble_eq_true rfl) dX3_init_9 (ws' := [(s0, .inr (3, [.ref q7, .int 0, .int 0, .int 0]))] ++ [(q7, .inl (T.2.1, 12, .inl (fun _ => 0)))]) rfl ?_
  refine g_aload_n hX dX3_init_12 rfl 0 rfl ?_
  refine g_iconst hX (v := 0) dX3_init_13 (by decide) ?_
  refine g_put hX 3 h_X3_init_X3 0 rfl rfl 1 (by decide) tyX3 tyX3_ok nmX3 k_X3_init_5 rfl rfl  rfl rfl rfl (Nat.le_of_ble_eq_true rfl) dX3_init_14 (ws' := [(s0, .inr (3, [.ref q7, .int 0, .int 0, .int 0]))] ++ [(q7, .inl (T.2.1, 12, .inl (fun _ => 0)))]) rfl ?_
  refine g_aload_n hX dX3_init_17 rfl 0 rfl ?_
  refine g_iconst hX (v := 0) dX3_init_18 (by decide) ?_
  refine g_put hX 3 h_X3_init_X3 0 rfl rfl 2 (by decide) tyX3 tyX3_ok nmX3 k_X3_init_6 rfl rfl  rfl rfl rfl (Nat.le_of_ble_eq_true rfl) dX3_init_19 (ws' := [(s0, .inr (3, [.ref q7, .int 0, .int 0, .int 0]))] ++ [(q7, .inl (T.2.1, 12, .inl (fun _ => 0)))]) rfl ?_
  refine g_aload_n hX dX3_init_22 rfl 0 rfl ?_
  refine g_iconst hX (v := 0) dX3_init_23 (by decide) ?_
  refine g_put hX 3 h_X3_init_X3 0 rfl rfl 3 (by decide) tyX3 tyX3_ok nmX3 k_X3_init_7 rfl rfl  rfl rfl rfl (Nat.le_of_ble_eq_true rfl) dX3_init_24 (ws' := [(s0, .inr (3, [.ref q7, .int 0, .int 0, .int 0]))] ++ [(q7, .inl (T.2.1, 12, .inl (fun _ => 0)))]) rfl ?_
  exact g_vretC hX dX3_init_27 q7 rfl
def rmX2_init : Room := { frames := 2, cells := 4, slots := 33, locals := 34 }
theorem k_X2_init_0 : Cond.methodLink RX2 3 objectInit ∈ wsX2_init := List.mem_of_getElem? (i := 1) rfl
theorem k_X2_init_1 : Cond.instanceMethod objectInit ∈ wsX2_init := List.mem_of_getElem? (i := 2) rfl
theorem k_X2_init_2 : Cond.code objectInit ⟨#[0xb1]⟩ 1 none ∈ wsX2_init := List.mem_of_getElem? (i := 3) rfl
theorem h_X2_init_X3 : ∀ w ∈ u_ws RX3 TX3 4, w ∈ wsX2_init := fun w h => List.mem_cons_of_mem _ (List.mem_append_left _ (List.mem_append_right _ h))
theorem k_X2_init_3 : Cond.classLink RX2 9 RX3 ∈ wsX2_init := List.mem_of_getElem? (i := 4) rfl
theorem k_X2_init_4 : Cond.instantiable RX3 4 ∈ wsX2_init := List.mem_of_getElem? (i := 5) rfl
theorem k_X2_init_5 : Cond.initialized RX3 ∈ wsX2_init := List.mem_of_getElem? (i := 6) rfl
theorem k_X2_init_24 : Cond.instanceMethod yX3_init ∈ wsX2_init := List.mem_of_getElem? (i := 25) rfl
theorem k_X2_init_6 : Cond.fieldLink RX2 12 RX2 (TX2 0).2.1 (TX2 0).2.2.1 ∈ wsX2_init := List.mem_of_getElem? (i := 7) rfl
theorem h_X2_init_X2 : ∀ w ∈ u_ws RX2 TX2 11, w ∈ wsX2_init := fun w h => List.mem_cons_of_mem _ (List.mem_append_right _ h)
theorem k_X2_init_7 : Cond.arrayClass .int ∈ wsX2_init := List.mem_of_getElem? (i := 8) rfl
theorem k_X2_init_8 : Cond.fieldLink RX2 18 RX2 (TX2 1).2.1 (TX2 1).2.2.1 ∈ wsX2_init := List.mem_of_getElem? (i := 9) rfl
theorem k_X2_init_9 : Cond.methodLink RX2 25 ⟨"[I", "clone", "()Ljava/lang/Object;"⟩ ∈ wsX2_init := List.mem_of_getElem? (i := 10) rfl
theorem k_X2_init_10 : Cond.sameMethod "[I" "java/lang/Object" "clone" "()Ljava/lang/Object;" ∈ wsX2_init := List.mem_of_getElem? (i := 11) rfl
theorem k_X2_init_11 : Cond.native ⟨"java/lang/Object", "clone", "()Ljava/lang/Object;"⟩ ∈ wsX2_init := List.mem_of_getElem? (i := 12) rfl
theorem k_X2_init_12 : Cond.instanceMethod ⟨"java/lang/Object", "clone", "()Ljava/lang/Object;"⟩ ∈ wsX2_init := List.mem_of_getElem? (i := 13) rfl
theorem k_X2_init_13 : Cond.selects "[I" ⟨"[I", "clone", "()Ljava/lang/Object;"⟩ ⟨"java/lang/Object", "clone", "()Ljava/lang/Object;"⟩ ∈ wsX2_init := List.mem_of_getElem? (i := 14) rfl
theorem k_X2_init_14 : Cond.classLink RX2 26 "[I" ∈ wsX2_init := List.mem_of_getElem? (i := 15) rfl
theorem k_X2_init_15 : Cond.fieldLink RX2 30 RX2 (TX2 2).2.1 (TX2 2).2.2.1 ∈ wsX2_init := List.mem_of_getElem? (i := 16) rfl
theorem k_X2_init_16 : Cond.fieldLink RX2 33 RX2 (TX2 3).2.1 (TX2 3).2.2.1 ∈ wsX2_init := List.mem_of_getElem? (i := 17) rfl
theorem k_X2_init_17 : Cond.fieldLink RX2 37 RX2 (TX2 4).2.1 (TX2 4).2.2.1 ∈ wsX2_init := List.mem_of_getElem? (i := 18) rfl
theorem k_X2_init_18 : Cond.fieldLink RX2 40 RX2 (TX2 5).2.1 (TX2 5).2.2.1 ∈ wsX2_init := List.mem_of_getElem? (i := 19) rfl
theorem k_X2_init_19 : Cond.fieldLink RX2 44 RX2 (TX2 6).2.1 (TX2 6).2.2.1 ∈ wsX2_init := List.mem_of_getElem? (i := 20) rfl
theorem k_X2_init_20 : Cond.fieldLink RX2 47 RX2 (TX2 7).2.1 (TX2 7).2.2.1 ∈ wsX2_init := List.mem_of_getElem? (i := 21) rfl
theorem k_X2_init_21 : Cond.fieldLink RX2 50 RX2 (TX2 8).2.1 (TX2 8).2.2.1 ∈ wsX2_init := List.mem_of_getElem? (i := 22) rfl
theorem k_X2_init_22 : Cond.fieldLink RX2 53 RX2 (TX2 9).2.1 (TX2 9).2.2.1 ∈ wsX2_init := List.mem_of_getElem? (i := 23) rfl
theorem k_X2_init_23 : Cond.fieldLink RX2 56 RX2 (TX2 10).2.1 (TX2 10).2.2.1 ∈ wsX2_init := List.mem_of_getElem? (i := 24) rfl
set_option maxHeartbeats 4000000 in
set_option maxRecDepth 100000 in
theorem c_X2_init (l : Launch) (T : TT) (b0 : Nat) (s0 : Nat) : ConC l T b0 yX2_init wsX2_init rmX2_init [.ref s0] [(s0, .inr (2, [.null, .null, .null, .int 0, .int 0, .int 0, .int 0, .int 0, .int 0, .int 0, .int 0]))] (Nat × Nat × Nat × Nat) (fun (h : Nat × Nat × Nat × Nat) (w : va_W) => w = wSt T s0 h.1 h.2.1 h.2.2.1 h.2.2.2 u0) 4 33 := by
  refine conC_of (cc := cX2_init) (maxL := 1) (ret := none) (lv0 := [(0, .ref s0)]) (by decide +kernel) rfl rfl (Nat.le_of_ble_eq_true rfl) rfl (fun X hX hin => ?_)
  refine g_aload_n hX dX2_init_0 rfl 0 rfl ?_
  refine g_objInit hX k_X2_init_0 k_X2_init_1 k_X2_init_2 (Nat.le_of_ble_eq_true rfl) (Nat.le_of_ble_eq_true rfl) dX2_init_1 ?_
  refine g_aload_n hX dX2_init_4 rfl 0 rfl ?_
  refine g_new hX 3 (fs := [.null, .int 0, .int 0, .int 0]) h_X2_init_X3 tyX3 tyX3_ok k_X2_init_3 k_X2_init_4 k_X2_init_5 rfl (fun j hj => by rcases (show j = 0 ∨ j = 1 ∨ j = 2 ∨ j = 3 by omega) with rfl | rfl | rfl | rfl <;> rfl) (Nat.le_of_ble_eq_true rfl) (Nat.le_of_ble_eq_true rfl) dX2_init_5 (fun q5_0 => ?_)
  refine g_dup hX dX2_init_8 rfl ?_
  refine g_cIN hX (n := 0) (As := []) (st := [.ref q5_0, .ref s0]) (wr := [(s0, .inr (2, [.null, .null, .null, .int 0, .int 0, .int 0, .int 0, .int 0, .int 0, .int 0, .int 0]))]) (c_X3_init (xL X) T (xB X) q5_0) ggX2_init_X3_init 15 rfl k_X2_init_5 k_X2_init_24 rfl rfl rfl rfl ⟨Nat.le_of_ble_eq_true rfl, Nat.le_of_ble_eq_true rfl⟩ ⟨Nat.le_of_ble_eq_true rfl, Nat.le_of_ble_eq_true rfl⟩ ⟨by decide +kernel, by decide +kernel, by decide +kernel⟩ rfl rfl (Nat.le_of_ble_eq_true rfl) dX2_init_9 (fun u9_1 w1 hp1 => ?_)
  subst hp1
  refine g_putF hX 2 h_X2_init_X2 0 rfl rfl 0 (by decide) tyX2 tyX2_ok nmX2 k_X2_init_6 rfl rfl hin rfl rfl rfl rfl (Nat.le_of_ble_eq_true rfl) dX2_init_12 (ws' := [(s0, .inr (2, [.ref q5_0, .null, .null, .int 0, .int 0, .int 0, .int 0, .int 0, .int 0, .int 0, .int 0]))] ++ wWr T q5_0 u9_1 (fun _ => 0, fun _ => 0)) rfl ?_
  refine g_aload_n hX dX2_init_15 rfl 0 rfl ?_
  refine g_bipush hX (v := 12) dX2_init_16 (by decide) ?_
  refine g_newI hX 12 (by decide) (by decide) (by decide) k_X2_init_7 (Nat.le_of_ble_eq_true rfl) (Nat.le_of_ble_eq_true rfl) dX2_init_18 (fun q18 => ?_)
  refine g_putF hX 2 h_X2_init_X2 0 rfl rfl 1 (by decide) tyX2 tyX2_ok nmX2 k_X2_init_8 rfl rfl hin rfl rfl rfl rfl (Nat.le_of_ble_eq_true rfl) dX2_init_20 (ws' := [(s0, .inr (2, [.ref q5_0, .ref q18, .null, .int 0, .int 0, .int 0, .int 0, .int 0, .int 0, .int 0, .int 0]))] ++ wWr T q5_0 u9_1 (fun _ => 0, fun _ => 0) ++ [(q18, .inl (T.2.1, 12, .inl (fun _ => 0)))]) rfl ?_
  refine g_aload_n hX dX2_init_23 rfl 0 rfl ?_
  refine g_first hX 2 rfl dX2_init_24 (fun t_24 hF_24 => ?_)
  refine g_clone hX hF_24 k_X2_init_9 k_X2_init_10 k_X2_init_11 k_X2_init_12 k_X2_init_13 (Nat.le_of_ble_eq_true rfl) (Nat.le_of_ble_eq_true rfl) (Nat.le_of_ble_eq_true rfl) (Nat.le_of_ble_eq_true rfl) dX2_init_27 (fun q27 => ?_)
  refine g_castA hX k_X2_init_14 4 rfl dX2_init_30 ?_
  refine g_putF hX 2 h_X2_init_X2 0 rfl rfl 2 (by decide) tyX2 tyX2_ok nmX2 k_X2_init_15 rfl rfl hin rfl rfl rfl rfl (Nat.le_of_ble_eq_true rfl) dX2_init_33 (ws' := [(s0, .inr (2, [.ref q5_0, .ref q18, .ref q27, .int 0, .int 0, .int 0, .int 0, .int 0, .int 0, .int 0, .int 0]))] ++ wWr T q5_0 u9_1 (fun _ => 0, fun _ => 0) ++ [(q18, .inl (T.2.1, 12, .inl (fun _ => 0)))] ++ [(q27, .inl (T.2.1, 5, .inl fFirst))]) rfl ?_
  refine g_aload_n hX dX2_init_36 rfl 0 rfl ?_
  refine g_sipush hX (v := 5000) dX2_init_37 (by decide) ?_
  refine g_put hX 2 h_X2_init_X2 0 rfl rfl 3 (by decide) tyX2 tyX2_ok nmX2 k_X2_init_16 rfl rfl  rfl rfl rfl (Nat.le_of_ble_eq_true rfl) dX2_init_40 (ws' := [(s0, .inr (2, [.ref q5_0, .ref q18, .ref q27, .int 5000, .int 0, .int 0, .int 0, .int 0, .int 0, .int 0, .int 0]))] ++ wWr T q5_0 u9_1 (fun _ => 0, fun _ => 0) ++ [(q18, .inl (T.2.1, 12, .inl (fun _ => 0)))] ++ [(q27, .inl (T.2.1, 5, .inl fFirst))]) rfl ?_
  refine g_aload_n hX dX2_init_43 rfl 0 rfl ?_
  refine g_iconst hX (v := 0) dX2_init_44 (by decide) ?_
  refine g_put hX 2 h_X2_init_X2 0 rfl rfl 4 (by decide) tyX2 tyX2_ok nmX2 k_X2_init_17 rfl rfl  rfl rfl rfl (Nat.le_of_ble_eq_true rfl) dX2_init_45 (ws' := [(s0, .inr (2, [.ref q5_0, .ref q18, .ref q27, .int 5000, .int 0, .int 0, .int 0, .int 0, .int 0, .int 0, .int 0]))] ++ wWr T q5_0 u9_1 (fun _ => 0, fun _ => 0) ++ [(q18, .inl (T.2.1, 12, .inl (fun _ => 0)))] ++ [(q27, .inl (T.2.1, 5, .inl fFirst))]) rfl ?_
  refine g_aload_n hX dX2_init_48 rfl 0 rfl ?_
  refine g_iconst hX (v := 0) dX2_init_49 (by decide) ?_
  refine g_put hX 2 h_X2_init_X2 0 rfl rfl 5 (by decide) tyX2 tyX2_ok nmX2 k_X2_init_18 rfl rfl  rfl rfl rfl (Nat.le_of_ble_eq_true rfl) dX2_init_50 (ws' := [(s0, .inr (2, [.ref q5_0, .ref q18, .ref q27, .int 5000, .int 0, .int 0, .int 0, .int 0, .int 0, .int 0, .int 0]))] ++ wWr T q5_0 u9_1 (fun _ => 0, fun _ => 0) ++ [(q18, .inl (T.2.1, 12, .inl (fun _ => 0)))] ++ [(q27, .inl (T.2.1, 5, .inl fFirst))]) rfl ?_
  refine g_aload_n hX dX2_init_53 rfl 0 rfl ?_
  refine g_iconst hX (v := (-1)) dX2_init_54 (by decide) ?_
  refine g_put hX 2 h_X2_init_X2 0 rfl rfl 6 (by decide) tyX2 tyX2_ok nmX2 k_X2_init_19 rfl rfl  rfl rfl rfl (Nat.le_of_ble_eq_true rfl) dX2_init_55 (ws' := [(s0, .inr (2, [.ref q5_0, .ref q18, .ref q27, .int 5000, .int 0, .int 0, .int (-1), .int 0, .int 0, .int 0, .int 0]))] ++ wWr T q5_0 u9_1 (fun _ => 0, fun _ => 0) ++ [(q18, .inl (T.2.1, 12, .inl (fun _ => 0)))] ++ [(q27, .inl (T.2.1, 5, .inl fFirst))]) rfl ?_
  refine g_aload_n hX dX2_init_58 rfl 0 rfl ?_
  refine g_iconst hX (v := 0) dX2_init_59 (by decide) ?_
  refine g_put hX 2 h_X2_init_X2 0 rfl rfl 7 (by decide) tyX2 tyX2_ok nmX2 k_X2_init_20 rfl rfl  rfl rfl rfl (Nat.le_of_ble_eq_true rfl) dX2_init_60 (ws' := [(s0, .inr (2, [.ref q5_0, .ref q18, .ref q27, .int 5000, .int 0, .int 0, .int (-1), .int 0, .int 0, .int 0, .int 0]))] ++ wWr T q5_0 u9_1 (fun _ => 0, fun _ => 0) ++ [(q18, .inl (T.2.1, 12, .inl (fun _ => 0)))] ++ [(q27, .inl (T.2.1, 5, .inl fFirst))]) rfl ?_
  refine g_aload_n hX dX2_init_63 rfl 0 rfl ?_
  refine g_iconst hX (v := 0) dX2_init_64 (by decide) ?_
  refine g_put hX 2 h_X2_init_X2 0 rfl rfl 8 (by decide) tyX2 tyX2_ok nmX2 k_X2_init_21 rfl rfl  rfl rfl rfl (Nat.le_of_ble_eq_true rfl) dX2_init_65 (ws' := [(s0, .inr (2, [.ref q5_0, .ref q18, .ref q27, .int 5000, .int 0, .int 0, .int (-1), .int 0, .int 0, .int 0, .int 0]))] ++ wWr T q5_0 u9_1 (fun _ => 0, fun _ => 0) ++ [(q18, .inl (T.2.1, 12, .inl (fun _ => 0)))] ++ [(q27, .inl (T.2.1, 5, .inl fFirst))]) rfl ?_
  refine g_aload_n hX dX2_init_68 rfl 0 rfl ?_
  refine g_iconst hX (v := 0) dX2_init_69 (by decide) ?_
  refine g_put hX 2 h_X2_init_X2 0 rfl rfl 9 (by decide) tyX2 tyX2_ok nmX2 k_X2_init_22 rfl rfl  rfl rfl rfl (Nat.le_of_ble_eq_true rfl) dX2_init_70 (ws' := [(s0, .inr (2, [.ref q5_0, .ref q18, .ref q27, .int 5000, .int 0, .int 0, .int (-1), .int 0, .int 0, .int 0, .int 0]))] ++ wWr T q5_0 u9_1 (fun _ => 0, fun _ => 0) ++ [(q18, .inl (T.2.1, 12, .inl (fun _ => 0)))] ++ [(q27, .inl (T.2.1, 5, .inl fFirst))]) rfl ?_
  refine g_aload_n hX dX2_init_73 rfl 0 rfl ?_
  refine g_iconst hX (v := 0) dX2_init_74 (by decide) ?_
  refine g_put hX 2 h_X2_init_X2 0 rfl rfl 10 (by decide) tyX2 tyX2_ok nmX2 k_X2_init_23 rfl rfl  rfl rfl rfl (Nat.le_of_ble_eq_true rfl) dX2_init_75 (ws' := [(s0, .inr (2, [.ref q5_0, .ref q18, .ref q27, .int 5000, .int 0, .int 0, .int (-1), .int 0, .int 0, .int 0, .int 0]))] ++ wWr T q5_0 u9_1 (fun _ => 0, fun _ => 0) ++ [(q18, .inl (T.2.1, 12, .inl (fun _ => 0)))] ++ [(q27, .inl (T.2.1, 5, .inl fFirst))]) rfl ?_
  exact g_vretC hX dX2_init_78 (q5_0, u9_1, q18, q27) rfl
def rmX0_init : Room := { frames := 1, cells := 3, slots := 180, locals := 14 }
theorem k_X0_init_0 : Cond.methodLink RX0 3 objectInit ∈ wsX0_init := List.mem_of_getElem? (i := 1) rfl
theorem k_X0_init_1 : Cond.instanceMethod objectInit ∈ wsX0_init := List.mem_of_getElem? (i := 2) rfl
theorem k_X0_init_2 : Cond.code objectInit ⟨#[0xb1]⟩ 1 none ∈ wsX0_init := List.mem_of_getElem? (i := 3) rfl
theorem k_X0_init_3 : Cond.arrayClass .char ∈ wsX0_init := List.mem_of_getElem? (i := 4) rfl
theorem k_X0_init_4 : Cond.fieldLink RX0 9 RX0 (TX0 0).2.1 (TX0 0).2.2.1 ∈ wsX0_init := List.mem_of_getElem? (i := 5) rfl
theorem h_X0_init_X0 : ∀ w ∈ u_ws RX0 TX0 7, w ∈ wsX0_init := fun w h => List.mem_cons_of_mem _ (List.mem_append_right _ h)
theorem k_X0_init_5 : Cond.arrayClass .int ∈ wsX0_init := List.mem_of_getElem? (i := 6) rfl
theorem k_X0_init_6 : Cond.fieldLink RX0 15 RX0 (TX0 1).2.1 (TX0 1).2.2.1 ∈ wsX0_init := List.mem_of_getElem? (i := 7) rfl
theorem k_X0_init_7 : Cond.fieldLink RX0 19 RX0 (TX0 2).2.1 (TX0 2).2.2.1 ∈ wsX0_init := List.mem_of_getElem? (i := 8) rfl
theorem k_X0_init_8 : Cond.fieldLink RX0 22 RX0 (TX0 3).2.1 (TX0 3).2.2.1 ∈ wsX0_init := List.mem_of_getElem? (i := 9) rfl
theorem k_X0_init_9 : Cond.fieldLink RX0 26 RX0 (TX0 4).2.1 (TX0 4).2.2.1 ∈ wsX0_init := List.mem_of_getElem? (i := 10) rfl
theorem k_X0_init_10 : Cond.fieldLink RX0 29 RX0 (TX0 5).2.1 (TX0 5).2.2.1 ∈ wsX0_init := List.mem_of_getElem? (i := 11) rfl
theorem k_X0_init_11 : Cond.fieldLink RX0 32 RX0 (TX0 6).2.1 (TX0 6).2.2.1 ∈ wsX0_init := List.mem_of_getElem? (i := 12) rfl
set_option maxHeartbeats 4000000 in
set_option maxRecDepth 100000 in
theorem c_X0_init (l : Launch) (T : TT) (b0 : Nat) (s0 : Nat) : ConC l T b0 yX0_init wsX0_init rmX0_init [.ref s0] [(s0, .inr (0, [.null, .null, .null, .int 0, .int 0, .int 0, .int 0]))] (Nat × Nat × Nat) (fun (h : Nat × Nat × Nat) (w : va_W) => w = wTx T s0 h.1 h.2.1 h.2.2 t0) 3 180 := by
  refine conC_of (cc := cX0_init) (maxL := 1) (ret := none) (lv0 := [(0, .ref s0)]) (by decide +kernel) rfl rfl (Nat.le_of_ble_eq_true rfl) rfl (fun X hX hin => ?_)
  refine g_aload_n hX dX0_init_0 rfl 0 rfl ?_
  refine g_objInit hX k_X0_init_0 k_X0_init_1 k_X0_init_2 (Nat.le_of_ble_eq_true rfl) (Nat.le_of_ble_eq_true rfl) dX0_init_1 ?_
  refine g_aload_n hX dX0_init_4 rfl 0 rfl ?_
  refine g_bipush hX (v := 60) dX0_init_5 (by decide) ?_
  refine g_newC hX 60 (by decide) (by decide) (by decide) k_X0_init_3 (Nat.le_of_ble_eq_true rfl) (Nat.le_of_ble_eq_true rfl) dX0_init_7 (fun q7 => ?_)
  refine g_putF hX 0 h_X0_init_X0 0 rfl rfl 0 (by decide) tyX0 tyX0_ok nmX0 k_X0_init_4 rfl rfl hin rfl rfl rfl rfl (Nat.le_of_ble_eq_true rfl) dX0_init_9 (ws' := [(s0, .inr (0, [.ref q7, .null, .null, .int 0, .int 0, .int 0, .int 0]))] ++ [(q7, .inl (T.2.2.1, 60, .inl (fun _ => 0)))]) rfl ?_
  refine g_aload_n hX dX0_init_12 rfl 0 rfl ?_
  refine g_bipush hX (v := 60) dX0_init_13 (by decide) ?_
  refine g_newI hX 60 (by decide) (by decide) (by decide) k_X0_init_5 (Nat.le_of_ble_eq_true rfl) (Nat.le_of_ble_eq_true rfl) dX0_init_15 (fun q15 => ?_)
  refine g_putF hX 0 h_X0_init_X0 0 rfl rfl 1 (by decide) tyX0 tyX0_ok nmX0 k_X0_init_6 rfl rfl hin rfl rfl rfl rfl (Nat.le_of_ble_eq_true rfl) dX0_init_17 (ws' := [(s0, .inr (0, [.ref q7, .ref q15, .null, .int 0, .int 0, .int 0, .int 0]))] ++ [(q7, .inl (T.2.2.1, 60, .inl (fun _ => 0)))] ++ [(q15, .inl (T.2.1, 60, .inl (fun _ => 0)))]) rfl ?_
  refine g_aload_n hX dX0_init_20 rfl 0 rfl ?_
  refine g_bipush hX (v := 60) dX0_init_21 (by decide) ?_
  refine g_newI hX 60 (by decide) (by decide) (by decide) k_X0_init_5 (Nat.le_of_ble_eq_true rfl) (Nat.le_of_ble_eq_true rfl) dX0_init_23 (fun q23 => ?_)
  refine g_putF hX 0 h_X0_init_X0 0 rfl rfl 2 (by decide) tyX0 tyX0_ok nmX0 k_X0_init_7 rfl rfl hin rfl rfl rfl rfl (Nat.le_of_ble_eq_true rfl) dX0_init_25 (ws' := [(s0, .inr (0, [.ref q7, .ref q15, .ref q23, .int 0, .int 0, .int 0, .int 0]))] ++ [(q7, .inl (T.2.2.1, 60, .inl (fun _ => 0)))] ++ [(q15, .inl (T.2.1, 60, .inl (fun _ => 0)))] ++ [(q23, .inl (T.2.1, 60, .inl (fun _ => 0)))]) rfl ?_
  refine g_aload_n hX dX0_init_28 rfl 0 rfl ?_
  refine g_iconst hX (v := 0) dX0_init_29 (by decide) ?_
  refine g_put hX 0 h_X0_init_X0 0 rfl rfl 3 (by decide) tyX0 tyX0_ok nmX0 k_X0_init_8 rfl rfl  rfl rfl rfl (Nat.le_of_ble_eq_true rfl) dX0_init_30 (ws' := [(s0, .inr (0, [.ref q7, .ref q15, .ref q23, .int 0, .int 0, .int 0, .int 0]))] ++ [(q7, .inl (T.2.2.1, 60, .inl (fun _ => 0)))] ++ [(q15, .inl (T.2.1, 60, .inl (fun _ => 0)))] ++ [(q23, .inl (T.2.1, 60, .inl (fun _ => 0)))]) rfl ?_
  refine g_aload_n hX dX0_init_33 rfl 0 rfl ?_
  refine g_iconst hX (v := 0) dX0_init_34 (by decide) ?_
  refine g_put hX 0 h_X0_init_X0 0 rfl rfl 4 (by decide) tyX0 tyX0_ok nmX0 k_X0_init_9 rfl rfl  rfl rfl rfl (Nat.le_of_ble_eq_true rfl) dX0_init_35 (ws' := [(s0, .inr (0, [.ref q7, .ref q15, .ref q23, .int 0, .int 0, .int 0, .int 0]))] ++ [(q7, .inl (T.2.2.1, 60, .inl (fun _ => 0)))] ++ [(q15, .inl (T.2.1, 60, .inl (fun _ => 0)))] ++ [(q23, .inl (T.2.1, 60, .inl (fun _ => 0)))]) rfl ?_
  refine g_aload_n hX dX0_init_38 rfl 0 rfl ?_
  refine g_iconst hX (v := (-1)) dX0_init_39 (by decide) ?_
  refine g_put hX 0 h_X0_init_X0 0 rfl rfl 5 (by decide) tyX0 tyX0_ok nmX0 k_X0_init_10 rfl rfl  rfl rfl rfl (Nat.le_of_ble_eq_true rfl) dX0_init_40 (ws' := [(s0, .inr (0, [.ref q7, .ref q15, .ref q23, .int 0, .int 0, .int (-1), .int 0]))] ++ [(q7, .inl (T.2.2.1, 60, .inl (fun _ => 0)))] ++ [(q15, .inl (T.2.1, 60, .inl (fun _ => 0)))] ++ [(q23, .inl (T.2.1, 60, .inl (fun _ => 0)))]) rfl ?_
  refine g_aload_n hX dX0_init_43 rfl 0 rfl ?_
  refine g_iconst hX (v := (-1)) dX0_init_44 (by decide) ?_
  refine g_put hX 0 h_X0_init_X0 0 rfl rfl 6 (by decide) tyX0 tyX0_ok nmX0 k_X0_init_11 rfl rfl  rfl rfl rfl (Nat.le_of_ble_eq_true rfl) dX0_init_45 (ws' := [(s0, .inr (0, [.ref q7, .ref q15, .ref q23, .int 0, .int 0, .int (-1), .int (-1)]))] ++ [(q7, .inl (T.2.2.1, 60, .inl (fun _ => 0)))] ++ [(q15, .inl (T.2.1, 60, .inl (fun _ => 0)))] ++ [(q23, .inl (T.2.1, 60, .inl (fun _ => 0)))]) rfl ?_
  exact g_vretC hX dX0_init_48 (q7, q15, q23) rfl
end
section
def rmX5_init : Room := { frames := 1, cells := 6, slots := 356, locals := 14 }
theorem k_X5_init_0 : Cond.methodLink RX5 1 objectInit ∈ wsX5_init := List.mem_of_getElem? (i := 1) rfl
theorem k_X5_init_1 : Cond.instanceMethod objectInit ∈ wsX5_init := List.mem_of_getElem? (i := 2) rfl
theorem k_X5_init_2 : Cond.code objectInit ⟨#[0xb1]⟩ 1 none ∈ wsX5_init := List.mem_of_getElem? (i := 3) rfl
theorem k_X5_init_3 : Cond.arrayClass .int ∈ wsX5_init := List.mem_of_getElem? (i := 4) rfl
theorem k_X5_init_4 : Cond.fieldLink RX5 7 RX5 (TX5 0).2.1 (TX5 0).2.2.1 ∈ wsX5_init := List.mem_of_getElem? (i := 5) rfl
theorem h_X5_init_X5 : ∀ w ∈ u_ws RX5 TX5 12, w ∈ wsX5_init := fun w h => List.mem_cons_of_mem _ (List.mem_append_right _ h)
theorem k_X5_init_5 : Cond.fieldLink RX5 13 RX5 (TX5 1).2.1 (TX5 1).2.2.1 ∈ wsX5_init := List.mem_of_getElem? (i := 6) rfl
theorem k_X5_init_6 : Cond.fieldLink RX5 16 RX5 (TX5 2).2.1 (TX5 2).2.2.1 ∈ wsX5_init := List.mem_of_getElem? (i := 7) rfl
theorem k_X5_init_7 : Cond.fieldLink RX5 19 RX5 (TX5 3).2.1 (TX5 3).2.2.1 ∈ wsX5_init := List.mem_of_getElem? (i := 8) rfl
theorem k_X5_init_8 : Cond.fieldLink RX5 22 RX5 (TX5 5).2.1 (TX5 5).2.2.1 ∈ wsX5_init := List.mem_of_getElem? (i := 9) rfl
theorem k_X5_init_9 : Cond.fieldLink RX5 25 RX5 (TX5 7).2.1 (TX5 7).2.2.1 ∈ wsX5_init := List.mem_of_getElem? (i := 10) rfl
theorem k_X5_init_10 : Cond.fieldLink RX5 28 RX5 (TX5 11).2.1 (TX5 11).2.2.1 ∈ wsX5_init := List.mem_of_getElem? (i := 11) rfl
set_option maxHeartbeats 4000000 in
set_option maxRecDepth 100000 in
theorem c_X5_init (l : Launch) (T : TT) (b0 : Nat) (s0 : Nat) : ConC l T b0 yX5_init wsX5_init rmX5_init [.ref s0] [(s0, .inr (5, [.null, .null, .null, .null, .int 0, .null, .int 0, .null, .int 0, .int 0, .int 0, .int 0]))] (Nat × Nat × Nat × Nat × Nat × Nat) (fun (h : Nat × Nat × Nat × Nat × Nat × Nat) (w : va_W) => w = wMo T s0 h.1 h.2.1 h.2.2.1 h.2.2.2.1 h.2.2.2.2.1 h.2.2.2.2.2 mv0) 6 356 := by
  refine conC_of (cc := cX5_init) (maxL := 1) (ret := none) (lv0 := [(0, .ref s0)]) (by decide +kernel) rfl rfl (Nat.le_of_ble_eq_true rfl) rfl (fun X hX hin => ?_)
  refine g_aload_n hX dX5_init_0 rfl 0 rfl ?_
  refine g_objInit hX k_X5_init_0 k_X5_init_1 k_X5_init_2 (Nat.le_of_ble_eq_true rfl) (Nat.le_of_ble_eq_true rfl) dX5_init_1 ?_
  refine g_aload_n hX dX5_init_4 rfl 0 rfl ?_
  refine g_bipush hX (v := 37) dX5_init_5 (by decide) ?_
  refine g_newI hX 37 (by decide) (by decide) (by decide) k_X5_init_3 (Nat.le_of_ble_eq_true rfl) (Nat.le_of_ble_eq_true rfl) dX5_init_7 (fun q7 => ?_)
  refine g_putF hX 5 h_X5_init_X5 0 rfl rfl 0 (by decide) tyX5 tyX5_ok nmX5 k_X5_init_4 rfl rfl hin rfl rfl rfl rfl (Nat.le_of_ble_eq_true rfl) dX5_init_9 (ws' := [(s0, .inr (5, [.ref q7, .null, .null, .null, .int 0, .null, .int 0, .null, .int 0, .int 0, .int 0, .int 0]))] ++ [(q7, .inl (T.2.1, 37, .inl (fun _ => 0)))]) rfl ?_
  refine g_aload_n hX dX5_init_12 rfl 0 rfl ?_
  refine g_bipush hX (v := 37) dX5_init_13 (by decide) ?_
  refine g_newI hX 37 (by decide) (by decide) (by decide) k_X5_init_3 (Nat.le_of_ble_eq_true rfl) (Nat.le_of_ble_eq_true rfl) dX5_init_15 (fun q15 => ?_)
  refine g_putF hX 5 h_X5_init_X5 0 rfl rfl 1 (by decide) tyX5 tyX5_ok nmX5 k_X5_init_5 rfl rfl hin rfl rfl rfl rfl (Nat.le_of_ble_eq_true rfl) dX5_init_17 (ws' := [(s0, .inr (5, [.ref q7, .ref q15, .null, .null, .int 0, .null, .int 0, .null, .int 0, .int 0, .int 0, .int 0]))] ++ [(q7, .inl (T.2.1, 37, .inl (fun _ => 0)))] ++ [(q15, .inl (T.2.1, 37, .inl (fun _ => 0)))]) rfl ?_
  refine g_aload_n hX dX5_init_20 rfl 0 rfl ?_
  refine g_bipush hX (v := 37) dX5_init_21 (by decide) ?_
  refine g_newI hX 37 (by decide) (by decide) (by decide) k_X5_init_3 (Nat.le_of_ble_eq_true rfl) (Nat.le_of_ble_eq_true rfl) dX5_init_23 (fun q23 => ?_)
  refine g_putF hX 5 h_X5_init_X5 0 rfl rfl 2 (by decide) tyX5 tyX5_ok nmX5 k_X5_init_6 rfl rfl hin rfl rfl rfl rfl (Nat.le_of_ble_eq_true rfl) dX5_init_25 (ws' := [(s0, .inr (5, [.ref q7, .ref q15, .ref q23, .null, .int 0, .null, .int 0, .null, .int 0, .int 0, .int 0, .int 0]))] ++ [(q7, .inl (T.2.1, 37, .inl (fun _ => 0)))] ++ [(q15, .inl (T.2.1, 37, .inl (fun _ => 0)))] ++ [(q23, .inl (T.2.1, 37, .inl (fun _ => 0)))]) rfl ?_
  refine g_aload_n hX dX5_init_28 rfl 0 rfl ?_
  refine g_sipush hX (v := 148) dX5_init_29 (by decide) ?_
  refine g_newI hX 148 (by decide) (by decide) (by decide) k_X5_init_3 (Nat.le_of_ble_eq_true rfl) (Nat.le_of_ble_eq_true rfl) dX5_init_32 (fun q32 => ?_)
  refine g_putF hX 5 h_X5_init_X5 0 rfl rfl 3 (by decide) tyX5 tyX5_ok nmX5 k_X5_init_7 rfl rfl hin rfl rfl rfl rfl (Nat.le_of_ble_eq_true rfl) dX5_init_34 (ws' := [(s0, .inr (5, [.ref q7, .ref q15, .ref q23, .ref q32, .int 0, .null, .int 0, .null, .int 0, .int 0, .int 0, .int 0]))] ++ [(q7, .inl (T.2.1, 37, .inl (fun _ => 0)))] ++ [(q15, .inl (T.2.1, 37, .inl (fun _ => 0)))] ++ [(q23, .inl (T.2.1, 37, .inl (fun _ => 0)))] ++ [(q32, .inl (T.2.1, 148, .inl (fun _ => 0)))]) rfl ?_
  refine g_aload_n hX dX5_init_37 rfl 0 rfl ?_
  refine g_bipush hX (v := 37) dX5_init_38 (by decide) ?_
  refine g_newI hX 37 (by decide) (by decide) (by decide) k_X5_init_3 (Nat.le_of_ble_eq_true rfl) (Nat.le_of_ble_eq_true rfl) dX5_init_40 (fun q40 => ?_)
  refine g_putF hX 5 h_X5_init_X5 0 rfl rfl 5 (by decide) tyX5 tyX5_ok nmX5 k_X5_init_8 rfl rfl hin rfl rfl rfl rfl (Nat.le_of_ble_eq_true rfl) dX5_init_42 (ws' := [(s0, .inr (5, [.ref q7, .ref q15, .ref q23, .ref q32, .int 0, .ref q40, .int 0, .null, .int 0, .int 0, .int 0, .int 0]))] ++ [(q7, .inl (T.2.1, 37, .inl (fun _ => 0)))] ++ [(q15, .inl (T.2.1, 37, .inl (fun _ => 0)))] ++ [(q23, .inl (T.2.1, 37, .inl (fun _ => 0)))] ++ [(q32, .inl (T.2.1, 148, .inl (fun _ => 0)))] ++ [(q40, .inl (T.2.1, 37, .inl (fun _ => 0)))]) rfl ?_
  refine g_aload_n hX dX5_init_45 rfl 0 rfl ?_
  refine g_bipush hX (v := 60) dX5_init_46 (by decide) ?_
  refine g_newI hX 60 (by decide) (by decide) (by decide) k_X5_init_3 (Nat.le_of_ble_eq_true rfl) (Nat.le_of_ble_eq_true rfl) dX5_init_48 (fun q48 => ?_)
  refine g_putF hX 5 h_X5_init_X5 0 rfl rfl 7 (by decide) tyX5 tyX5_ok nmX5 k_X5_init_9 rfl rfl hin rfl rfl rfl rfl (Nat.le_of_ble_eq_true rfl) dX5_init_50 (ws' := [(s0, .inr (5, [.ref q7, .ref q15, .ref q23, .ref q32, .int 0, .ref q40, .int 0, .ref q48, .int 0, .int 0, .int 0, .int 0]))] ++ [(q7, .inl (T.2.1, 37, .inl (fun _ => 0)))] ++ [(q15, .inl (T.2.1, 37, .inl (fun _ => 0)))] ++ [(q23, .inl (T.2.1, 37, .inl (fun _ => 0)))] ++ [(q32, .inl (T.2.1, 148, .inl (fun _ => 0)))] ++ [(q40, .inl (T.2.1, 37, .inl (fun _ => 0)))] ++ [(q48, .inl (T.2.1, 60, .inl (fun _ => 0)))]) rfl ?_
  refine g_aload_n hX dX5_init_53 rfl 0 rfl ?_
  refine g_bipush hX (v := (-5)) dX5_init_54 (by decide) ?_
  refine g_put hX 5 h_X5_init_X5 0 rfl rfl 11 (by decide) tyX5 tyX5_ok nmX5 k_X5_init_10 rfl rfl  rfl rfl rfl (Nat.le_of_ble_eq_true rfl) dX5_init_56 (ws' := [(s0, .inr (5, [.ref q7, .ref q15, .ref q23, .ref q32, .int 0, .ref q40, .int 0, .ref q48, .int 0, .int 0, .int 0, .int (-5)]))] ++ [(q7, .inl (T.2.1, 37, .inl (fun _ => 0)))] ++ [(q15, .inl (T.2.1, 37, .inl (fun _ => 0)))] ++ [(q23, .inl (T.2.1, 37, .inl (fun _ => 0)))] ++ [(q32, .inl (T.2.1, 148, .inl (fun _ => 0)))] ++ [(q40, .inl (T.2.1, 37, .inl (fun _ => 0)))] ++ [(q48, .inl (T.2.1, 60, .inl (fun _ => 0)))]) rfl ?_
  refine g_aload_n hX dX5_init_59 rfl 0 rfl ?_
  refine g_get hX 5 h_X5_init_X5 0 rfl rfl 0 (by decide) k_X5_init_4 rfl (v := .ref q7) rfl dX5_init_60 ?_
  refine g_bipush hX (v := 24) dX5_init_63 (by decide) ?_
  refine g_iconst hX (v := 5) dX5_init_65 (by decide) ?_
  refine g_iast hX 1 rfl (vin_c (by decide)) dX5_init_66 (ws' := [(s0, .inr (5, [.ref q7, .ref q15, .ref q23, .ref q32, .int 0, .ref q40, .int 0, .ref q48, .int 0, .int 0, .int 0, .int (-5)]))] ++ [(q7, .inl (T.2.1, 37, .inl (upd (fun _ => 0) 24 5)))] ++ [(q15, .inl (T.2.1, 37, .inl (fun _ => 0)))] ++ [(q23, .inl (T.2.1, 37, .inl (fun _ => 0)))] ++ [(q32, .inl (T.2.1, 148, .inl (fun _ => 0)))] ++ [(q40, .inl (T.2.1, 37, .inl (fun _ => 0)))] ++ [(q48, .inl (T.2.1, 60, .inl (fun _ => 0)))]) (by rw [show Int32.toNatClampNeg 24 = 24 from by decide] <;> rfl) ?_
  refine g_aload_n hX dX5_init_67 rfl 0 rfl ?_
  refine g_get hX 5 h_X5_init_X5 0 rfl rfl 0 (by decide) k_X5_init_4 rfl (v := .ref q7) rfl dX5_init_68 ?_
  refine g_bipush hX (v := 25) dX5_init_71 (by decide) ?_
  refine g_iconst hX (v := 3) dX5_init_73 (by decide) ?_
  refine g_iast hX 1 rfl (vin_c (by decide)) dX5_init_74 (ws' := [(s0, .inr (5, [.ref q7, .ref q15, .ref q23, .ref q32, .int 0, .ref q40, .int 0, .ref q48, .int 0, .int 0, .int 0, .int (-5)]))] ++ [(q7, .inl (T.2.1, 37, .inl (upd (upd (fun _ => 0) 24 5) 25 3)))] ++ [(q15, .inl (T.2.1, 37, .inl (fun _ => 0)))] ++ [(q23, .inl (T.2.1, 37, .inl (fun _ => 0)))] ++ [(q32, .inl (T.2.1, 148, .inl (fun _ => 0)))] ++ [(q40, .inl (T.2.1, 37, .inl (fun _ => 0)))] ++ [(q48, .inl (T.2.1, 60, .inl (fun _ => 0)))]) (by rw [show Int32.toNatClampNeg 25 = 25 from by decide] <;> rfl) ?_
  refine g_aload_n hX dX5_init_75 rfl 0 rfl ?_
  refine g_get hX 5 h_X5_init_X5 0 rfl rfl 0 (by decide) k_X5_init_4 rfl (v := .ref q7) rfl dX5_init_76 ?_
  refine g_bipush hX (v := 27) dX5_init_79 (by decide) ?_
  refine g_bipush hX (v := 10) dX5_init_81 (by decide) ?_
  refine g_iast hX 1 rfl (vin_c (by decide)) dX5_init_83 (ws' := [(s0, .inr (5, [.ref q7, .ref q15, .ref q23, .ref q32, .int 0, .ref q40, .int 0, .ref q48, .int 0, .int 0, .int 0, .int (-5)]))] ++ [(q7, .inl (T.2.1, 37, .inl (upd (upd (upd (fun _ => 0) 24 5) 25 3) 27 10)))] ++ [(q15, .inl (T.2.1, 37, .inl (fun _ => 0)))] ++ [(q23, .inl (T.2.1, 37, .inl (fun _ => 0)))] ++ [(q32, .inl (T.2.1, 148, .inl (fun _ => 0)))] ++ [(q40, .inl (T.2.1, 37, .inl (fun _ => 0)))] ++ [(q48, .inl (T.2.1, 60, .inl (fun _ => 0)))]) (by rw [show Int32.toNatClampNeg 27 = 27 from by decide] <;> rfl) ?_
  refine g_aload_n hX dX5_init_84 rfl 0 rfl ?_
  refine g_get hX 5 h_X5_init_X5 0 rfl rfl 0 (by decide) k_X5_init_4 rfl (v := .ref q7) rfl dX5_init_85 ?_
  refine g_bipush hX (v := 28) dX5_init_88 (by decide) ?_
  refine g_bipush hX (v := 60) dX5_init_90 (by decide) ?_
  refine g_iast hX 1 rfl (vin_c (by decide)) dX5_init_92 (ws' := [(s0, .inr (5, [.ref q7, .ref q15, .ref q23, .ref q32, .int 0, .ref q40, .int 0, .ref q48, .int 0, .int 0, .int 0, .int (-5)]))] ++ [(q7, .inl (T.2.1, 37, .inl (upd (upd (upd (upd (fun _ => 0) 24 5) 25 3) 27 10) 28 60)))] ++ [(q15, .inl (T.2.1, 37, .inl (fun _ => 0)))] ++ [(q23, .inl (T.2.1, 37, .inl (fun _ => 0)))] ++ [(q32, .inl (T.2.1, 148, .inl (fun _ => 0)))] ++ [(q40, .inl (T.2.1, 37, .inl (fun _ => 0)))] ++ [(q48, .inl (T.2.1, 60, .inl (fun _ => 0)))]) (by rw [show Int32.toNatClampNeg 28 = 28 from by decide] <;> rfl) ?_
  refine g_aload_n hX dX5_init_93 rfl 0 rfl ?_
  refine g_get hX 5 h_X5_init_X5 0 rfl rfl 0 (by decide) k_X5_init_4 rfl (v := .ref q7) rfl dX5_init_94 ?_
  refine g_bipush hX (v := 30) dX5_init_97 (by decide) ?_
  refine g_sipush hX (v := 5000) dX5_init_99 (by decide) ?_
  refine g_iast hX 1 rfl (vin_c (by decide)) dX5_init_102 (ws' := [(s0, .inr (5, [.ref q7, .ref q15, .ref q23, .ref q32, .int 0, .ref q40, .int 0, .ref q48, .int 0, .int 0, .int 0, .int (-5)]))] ++ [(q7, .inl (T.2.1, 37, .inl (upd (upd (upd (upd (upd (fun _ => 0) 24 5) 25 3) 27 10) 28 60) 30 5000)))] ++ [(q15, .inl (T.2.1, 37, .inl (fun _ => 0)))] ++ [(q23, .inl (T.2.1, 37, .inl (fun _ => 0)))] ++ [(q32, .inl (T.2.1, 148, .inl (fun _ => 0)))] ++ [(q40, .inl (T.2.1, 37, .inl (fun _ => 0)))] ++ [(q48, .inl (T.2.1, 60, .inl (fun _ => 0)))]) (by rw [show Int32.toNatClampNeg 30 = 30 from by decide] <;> rfl) ?_
  refine g_aload_n hX dX5_init_103 rfl 0 rfl ?_
  refine g_get hX 5 h_X5_init_X5 0 rfl rfl 0 (by decide) k_X5_init_4 rfl (v := .ref q7) rfl dX5_init_104 ?_
  refine g_bipush hX (v := 34) dX5_init_107 (by decide) ?_
  refine g_bipush hX (v := (-5)) dX5_init_109 (by decide) ?_
  refine g_iast hX 1 rfl (vin_c (by decide)) dX5_init_111 (ws' := [(s0, .inr (5, [.ref q7, .ref q15, .ref q23, .ref q32, .int 0, .ref q40, .int 0, .ref q48, .int 0, .int 0, .int 0, .int (-5)]))] ++ [(q7, .inl (T.2.1, 37, .inl (upd (upd (upd (upd (upd (upd (fun _ => 0) 24 5) 25 3) 27 10) 28 60) 30 5000) 34 (-5))))] ++ [(q15, .inl (T.2.1, 37, .inl (fun _ => 0)))] ++ [(q23, .inl (T.2.1, 37, .inl (fun _ => 0)))] ++ [(q32, .inl (T.2.1, 148, .inl (fun _ => 0)))] ++ [(q40, .inl (T.2.1, 37, .inl (fun _ => 0)))] ++ [(q48, .inl (T.2.1, 60, .inl (fun _ => 0)))]) (by rw [show Int32.toNatClampNeg 34 = 34 from by decide] <;> rfl) ?_
  refine g_same 1 a0V rfl (fun j hj => (show ∀ j : Fin 37, (upd (upd (upd (upd (upd (upd (fun _ => 0) 24 5) 25 3) 27 10) 28 60) 30 5000) 34 (-5)) j.val = a0V j.val from by decide +kernel) ⟨j, hj⟩) (ws' := wMo T s0 q7 q15 q23 q32 q40 q48 mv0) rfl ?_
  exact g_vretC hX dX5_init_112 (q7, q15, q23, q32, q40, q48) rfl
end
section
def rmX1_init : Room := { frames := 3, cells := 21, slots := 180, locals := 54 }
theorem k_X1_init_0 : Cond.methodLink RX1 3 objectInit ∈ wsX1_init := List.mem_of_getElem? (i := 1) rfl
theorem k_X1_init_1 : Cond.instanceMethod objectInit ∈ wsX1_init := List.mem_of_getElem? (i := 2) rfl
theorem k_X1_init_2 : Cond.code objectInit ⟨#[0xb1]⟩ 1 none ∈ wsX1_init := List.mem_of_getElem? (i := 3) rfl
theorem k_X1_init_3 : Cond.classLink RX1 9 RX2 ∈ wsX1_init := List.mem_of_getElem? (i := 4) rfl
theorem k_X1_init_4 : Cond.fieldLink RX1 11 RX1 (TX1 0).2.1 (TX1 0).2.2.1 ∈ wsX1_init := List.mem_of_getElem? (i := 5) rfl
theorem h_X1_init_X1 : ∀ w ∈ u_ws RX1 TX1 3, w ∈ wsX1_init := fun w h => List.mem_cons_of_mem _ (List.mem_append_left _ (List.mem_append_left _ (List.mem_append_right _ h)))
theorem k_X1_init_5 : Cond.fieldLink RX1 17 RX1 (TX1 1).2.1 (TX1 1).2.2.1 ∈ wsX1_init := List.mem_of_getElem? (i := 6) rfl
theorem k_X1_init_6 : Cond.fieldLink RX1 21 RX1 (TX1 2).2.1 (TX1 2).2.2.1 ∈ wsX1_init := List.mem_of_getElem? (i := 7) rfl
theorem h_X1_init_X2 : ∀ w ∈ u_ws RX2 TX2 11, w ∈ wsX1_init := fun w h => List.mem_cons_of_mem _ (List.mem_append_left _ (List.mem_append_right _ h))
theorem k_X1_init_7 : Cond.instantiable RX2 11 ∈ wsX1_init := List.mem_of_getElem? (i := 8) rfl
theorem k_X1_init_8 : Cond.initialized RX2 ∈ wsX1_init := List.mem_of_getElem? (i := 9) rfl
theorem k_X1_init_9 : Cond.instanceMethod yX2_init ∈ wsX1_init := List.mem_of_getElem? (i := 10) rfl
set_option maxHeartbeats 4000000 in
set_option maxRecDepth 100000 in
theorem c_X1_init (l : Launch) (T : TT) (b0 : Nat) (s0 : Nat) : ConC l T b0 yX1_init wsX1_init rmX1_init [.ref s0] [(s0, .inr (1, [.null, .int 0, .int 0]))] (Nat → Nat) (fun (ad : Nat → Nat) (w : va_W) => s0 = ad 18 ∧ w = wHi T ad h0V) 21 180 := by
  refine conC_of (cc := cX1_init) (maxL := 2) (ret := none) (lv0 := [(0, .ref s0)]) (by decide +kernel) rfl rfl (Nat.le_of_ble_eq_true rfl) rfl (fun X hX hin => ?_)
  refine g_aload_n hX dX1_init_0 rfl 0 rfl ?_
  refine g_objInit hX k_X1_init_0 k_X1_init_1 k_X1_init_2 (Nat.le_of_ble_eq_true rfl) (Nat.le_of_ble_eq_true rfl) dX1_init_1 ?_
  refine g_aload_n hX dX1_init_4 rfl 0 rfl ?_
  refine g_iconst hX (v := 4) dX1_init_5 (by decide) ?_
  refine g_newS hX 4 (by decide) (by decide) (by decide) k_X1_init_3 (Nat.le_of_ble_eq_true rfl) (Nat.le_of_ble_eq_true rfl) dX1_init_6 (fun q6 => ?_)
  refine g_putF hX 1 h_X1_init_X1 0 rfl rfl 0 (by decide) tyX1 tyX1_ok nmX1 k_X1_init_4 rfl rfl hin rfl rfl rfl rfl (Nat.le_of_ble_eq_true rfl) dX1_init_9 (ws' := [(s0, .inr (1, [.ref q6, .int 0, .int 0]))] ++ [(q6, .inl (T.2.2.2, 4, .inr (.inr (.inr (.inr (fun _ => none))))))]) rfl ?_
  refine g_aload_n hX dX1_init_12 rfl 0 rfl ?_
  refine g_iconst hX (v := 0) dX1_init_13 (by decide) ?_
  refine g_put hX 1 h_X1_init_X1 0 rfl rfl 1 (by decide) tyX1 tyX1_ok nmX1 k_X1_init_5 rfl rfl  rfl rfl rfl (Nat.le_of_ble_eq_true rfl) dX1_init_14 (ws' := [(s0, .inr (1, [.ref q6, .int 0, .int 0]))] ++ [(q6, .inl (T.2.2.2, 4, .inr (.inr (.inr (.inr (fun _ => none))))))]) rfl ?_
  refine g_aload_n hX dX1_init_17 rfl 0 rfl ?_
  refine g_iconst hX (v := 0) dX1_init_18 (by decide) ?_
  refine g_put hX 1 h_X1_init_X1 0 rfl rfl 2 (by decide) tyX1 tyX1_ok nmX1 k_X1_init_6 rfl rfl  rfl rfl rfl (Nat.le_of_ble_eq_true rfl) dX1_init_19 (ws' := [(s0, .inr (1, [.ref q6, .int 0, .int 0]))] ++ [(q6, .inl (T.2.2.2, 4, .inr (.inr (.inr (.inr (fun _ => none))))))]) rfl ?_
  refine g_iconst hX (v := 0) dX1_init_22 (by decide) ?_
  refine g_istore_n hX (lv' := [(1, .int 0), (0, .ref s0)]) dX1_init_23 rfl (by decide) rfl ?_
  refine g_iload_n hX dX1_init_24 rfl 0 rfl ?_
  refine g_aload_n hX dX1_init_25 rfl 1 rfl ?_
  refine g_get hX 1 h_X1_init_X1 0 rfl rfl 0 (by decide) k_X1_init_4 rfl (v := .ref q6) rfl dX1_init_26 ?_
  refine g_alen hX 1 2 rfl rfl (v := 4) rfl dX1_init_29 ?_
  refine g_icmp_ge hX 52 dX1_init_30 (by decide) (fun c0 => absurd c0 (by decide)) (fun _ => ?_)
  refine g_aload_n hX dX1_init_33 rfl 1 rfl ?_
  refine g_get hX 1 h_X1_init_X1 0 rfl rfl 0 (by decide) k_X1_init_4 rfl (v := .ref q6) rfl dX1_init_34 ?_
  refine g_iload_n hX dX1_init_37 rfl 0 rfl ?_
  refine g_new hX 2 (fs := [.null, .null, .null, .int 0, .int 0, .int 0, .int 0, .int 0, .int 0, .int 0, .int 0]) h_X1_init_X2 tyX2 tyX2_ok k_X1_init_3 k_X1_init_7 k_X1_init_8 rfl (fun j hj => by rcases (show j = 0 ∨ j = 1 ∨ j = 2 ∨ j = 3 ∨ j = 4 ∨ j = 5 ∨ j = 6 ∨ j = 7 ∨ j = 8 ∨ j = 9 ∨ j = 10 by omega) with rfl | rfl | rfl | rfl | rfl | rfl | rfl | rfl | rfl | rfl | rfl <;> rfl) (Nat.le_of_ble_eq_true rfl) (Nat.le_of_ble_eq_true rfl) dX1_init_38 (fun q38_0 => ?_)
  refine g_dup hX dX1_init_41 rfl ?_
  refine g_cIN hX (cells := 2) (slots := 15) (n := 0) (As := []) (st := [.ref q38_0, .int 0, .ref q6]) (wr := [(s0, .inr (1, [.ref q6, .int 0, .int 0]))] ++ [(q6, .inl (T.2.2.2, 4, .inr (.inr (.inr (.inr (fun _ => none))))))]) (c_X2_init (xL X) T (xB X) q38_0) ggX1_init_X2_init 18 rfl k_X1_init_8 k_X1_init_9 rfl rfl rfl rfl ⟨Nat.le_of_ble_eq_true rfl, Nat.le_of_ble_eq_true rfl⟩ ⟨Nat.le_of_ble_eq_true rfl, Nat.le_of_ble_eq_true rfl⟩ ⟨by decide +kernel, by decide +kernel, by decide +kernel⟩ rfl rfl (Nat.le_of_ble_eq_true rfl) dX1_init_42 (fun u42_1 w1 hp1 => ?_)
  subst hp1
  refine g_aast hX 1 2 rfl rfl (vin_c (by decide)) dX1_init_45 (ws' := [(s0, .inr (1, [.ref q6, .int 0, .int 0]))] ++ [(q6, .inl (T.2.2.2, 4, .inr (.inr (.inr (.inr (va_up (fun _ => none) 0 (some q38_0)))))))] ++ wSt T q38_0 u42_1.1 u42_1.2.1 u42_1.2.2.1 u42_1.2.2.2 u0) (by rw [show Int32.toNatClampNeg 0 = 0 from by decide] <;> rfl) ?_
  refine g_iinc hX (lv' := [(1, .int 1), (0, .ref s0)]) (v := 1) 0 dX1_init_46 rfl (by decide) (by decide) rfl ?_
  refine g_goto hX 24 dX1_init_49 (by decide) ?_
  refine g_iload_n hX dX1_init_24 rfl 0 rfl ?_
  refine g_aload_n hX dX1_init_25 rfl 1 rfl ?_
  refine g_get hX 1 h_X1_init_X1 0 rfl rfl 0 (by decide) k_X1_init_4 rfl (v := .ref q6) rfl dX1_init_26 ?_
  refine g_alen hX 1 2 rfl rfl (v := 4) rfl dX1_init_29 ?_
  refine g_icmp_ge hX 52 dX1_init_30 (by decide) (fun c0 => absurd c0 (by decide)) (fun _ => ?_)
  refine g_aload_n hX dX1_init_33 rfl 1 rfl ?_
  refine g_get hX 1 h_X1_init_X1 0 rfl rfl 0 (by decide) k_X1_init_4 rfl (v := .ref q6) rfl dX1_init_34 ?_
  refine g_iload_n hX dX1_init_37 rfl 0 rfl ?_
  refine g_new hX 2 (fs := [.null, .null, .null, .int 0, .int 0, .int 0, .int 0, .int 0, .int 0, .int 0, .int 0]) h_X1_init_X2 tyX2 tyX2_ok k_X1_init_3 k_X1_init_7 k_X1_init_8 rfl (fun j hj => by rcases (show j = 0 ∨ j = 1 ∨ j = 2 ∨ j = 3 ∨ j = 4 ∨ j = 5 ∨ j = 6 ∨ j = 7 ∨ j = 8 ∨ j = 9 ∨ j = 10 by omega) with rfl | rfl | rfl | rfl | rfl | rfl | rfl | rfl | rfl | rfl | rfl <;> rfl) (Nat.le_of_ble_eq_true rfl) (Nat.le_of_ble_eq_true rfl) dX1_init_38 (fun q38_2 => ?_)
  refine g_dup hX dX1_init_41 rfl ?_
  refine g_cIN hX (cells := 7) (slots := 59) (n := 0) (As := []) (st := [.ref q38_2, .int 1, .ref q6]) (wr := [(s0, .inr (1, [.ref q6, .int 0, .int 0]))] ++ [(q6, .inl (T.2.2.2, 4, .inr (.inr (.inr (.inr (va_up (fun _ => none) 0 (some q38_0)))))))] ++ wSt T q38_0 u42_1.1 u42_1.2.1 u42_1.2.2.1 u42_1.2.2.2 u0) (c_X2_init (xL X) T (xB X) q38_2) ggX1_init_X2_init 18 rfl k_X1_init_8 k_X1_init_9 rfl rfl rfl rfl ⟨Nat.le_of_ble_eq_true rfl, Nat.le_of_ble_eq_true rfl⟩ ⟨Nat.le_of_ble_eq_true rfl, Nat.le_of_ble_eq_true rfl⟩ ⟨by decide +kernel, by decide +kernel, by decide +kernel⟩ rfl rfl (Nat.le_of_ble_eq_true rfl) dX1_init_42 (fun u42_3 w1 hp1 => ?_)
  subst hp1
  refine g_aast hX 1 7 rfl rfl (vin_c (by decide)) dX1_init_45 (ws' := [(s0, .inr (1, [.ref q6, .int 0, .int 0]))] ++ [(q6, .inl (T.2.2.2, 4, .inr (.inr (.inr (.inr (va_up (va_up (fun _ => none) 0 (some q38_0)) 1 (some q38_2)))))))] ++ wSt T q38_0 u42_1.1 u42_1.2.1 u42_1.2.2.1 u42_1.2.2.2 u0 ++ wSt T q38_2 u42_3.1 u42_3.2.1 u42_3.2.2.1 u42_3.2.2.2 u0) (by rw [show Int32.toNatClampNeg 1 = 1 from by decide] <;> rfl) ?_
  refine g_iinc hX (lv' := [(1, .int 2), (0, .ref s0)]) (v := 2) 0 dX1_init_46 rfl (by decide) (by decide) rfl ?_
  refine g_goto hX 24 dX1_init_49 (by decide) ?_
  refine g_iload_n hX dX1_init_24 rfl 0 rfl ?_
  refine g_aload_n hX dX1_init_25 rfl 1 rfl ?_
  refine g_get hX 1 h_X1_init_X1 0 rfl rfl 0 (by decide) k_X1_init_4 rfl (v := .ref q6) rfl dX1_init_26 ?_
  refine g_alen hX 1 2 rfl rfl (v := 4) rfl dX1_init_29 ?_
  refine g_icmp_ge hX 52 dX1_init_30 (by decide) (fun c0 => absurd c0 (by decide)) (fun _ => ?_)
  refine g_aload_n hX dX1_init_33 rfl 1 rfl ?_
  refine g_get hX 1 h_X1_init_X1 0 rfl rfl 0 (by decide) k_X1_init_4 rfl (v := .ref q6) rfl dX1_init_34 ?_
  refine g_iload_n hX dX1_init_37 rfl 0 rfl ?_
  refine g_new hX 2 (fs := [.null, .null, .null, .int 0, .int 0, .int 0, .int 0, .int 0, .int 0, .int 0, .int 0]) h_X1_init_X2 tyX2 tyX2_ok k_X1_init_3 k_X1_init_7 k_X1_init_8 rfl (fun j hj => by rcases (show j = 0 ∨ j = 1 ∨ j = 2 ∨ j = 3 ∨ j = 4 ∨ j = 5 ∨ j = 6 ∨ j = 7 ∨ j = 8 ∨ j = 9 ∨ j = 10 by omega) with rfl | rfl | rfl | rfl | rfl | rfl | rfl | rfl | rfl | rfl | rfl <;> rfl) (Nat.le_of_ble_eq_true rfl) (Nat.le_of_ble_eq_true rfl) dX1_init_38 (fun q38_4 => ?_)
  refine g_dup hX dX1_init_41 rfl ?_
  refine g_cIN hX (cells := 12) (slots := 103) (n := 0) (As := []) (st := [.ref q38_4, .int 2, .ref q6]) (wr := [(s0, .inr (1, [.ref q6, .int 0, .int 0]))] ++ [(q6, .inl (T.2.2.2, 4, .inr (.inr (.inr (.inr (va_up (va_up (fun _ => none) 0 (some q38_0)) 1 (some q38_2)))))))] ++ wSt T q38_0 u42_1.1 u42_1.2.1 u42_1.2.2.1 u42_1.2.2.2 u0 ++ wSt T q38_2 u42_3.1 u42_3.2.1 u42_3.2.2.1 u42_3.2.2.2 u0) (c_X2_init (xL X) T (xB X) q38_4) ggX1_init_X2_init 18 rfl k_X1_init_8 k_X1_init_9 rfl rfl rfl rfl ⟨Nat.le_of_ble_eq_true rfl, Nat.le_of_ble_eq_true rfl⟩ ⟨Nat.le_of_ble_eq_true rfl, Nat.le_of_ble_eq_true rfl⟩ ⟨by decide +kernel, by decide +kernel, by decide +kernel⟩ rfl rfl (Nat.le_of_ble_eq_true rfl) dX1_init_42 (fun u42_5 w1 hp1 => ?_)
  subst hp1
  refine g_aast hX 1 12 rfl rfl (vin_c (by decide)) dX1_init_45 (ws' := [(s0, .inr (1, [.ref q6, .int 0, .int 0]))] ++ [(q6, .inl (T.2.2.2, 4, .inr (.inr (.inr (.inr (va_up (va_up (va_up (fun _ => none) 0 (some q38_0)) 1 (some q38_2)) 2 (some q38_4)))))))] ++ wSt T q38_0 u42_1.1 u42_1.2.1 u42_1.2.2.1 u42_1.2.2.2 u0 ++ wSt T q38_2 u42_3.1 u42_3.2.1 u42_3.2.2.1 u42_3.2.2.2 u0 ++ wSt T q38_4 u42_5.1 u42_5.2.1 u42_5.2.2.1 u42_5.2.2.2 u0) (by rw [show Int32.toNatClampNeg 2 = 2 from by decide] <;> rfl) ?_
  refine g_iinc hX (lv' := [(1, .int 3), (0, .ref s0)]) (v := 3) 0 dX1_init_46 rfl (by decide) (by decide) rfl ?_
  refine g_goto hX 24 dX1_init_49 (by decide) ?_
  refine g_iload_n hX dX1_init_24 rfl 0 rfl ?_
  refine g_aload_n hX dX1_init_25 rfl 1 rfl ?_
  refine g_get hX 1 h_X1_init_X1 0 rfl rfl 0 (by decide) k_X1_init_4 rfl (v := .ref q6) rfl dX1_init_26 ?_
  refine g_alen hX 1 2 rfl rfl (v := 4) rfl dX1_init_29 ?_
  refine g_icmp_ge hX 52 dX1_init_30 (by decide) (fun c0 => absurd c0 (by decide)) (fun _ => ?_)
  refine g_aload_n hX dX1_init_33 rfl 1 rfl ?_
  refine g_get hX 1 h_X1_init_X1 0 rfl rfl 0 (by decide) k_X1_init_4 rfl (v := .ref q6) rfl dX1_init_34 ?_
  refine g_iload_n hX dX1_init_37 rfl 0 rfl ?_
  refine g_new hX 2 (fs := [.null, .null, .null, .int 0, .int 0, .int 0, .int 0, .int 0, .int 0, .int 0, .int 0]) h_X1_init_X2 tyX2 tyX2_ok k_X1_init_3 k_X1_init_7 k_X1_init_8 rfl (fun j hj => by rcases (show j = 0 ∨ j = 1 ∨ j = 2 ∨ j = 3 ∨ j = 4 ∨ j = 5 ∨ j = 6 ∨ j = 7 ∨ j = 8 ∨ j = 9 ∨ j = 10 by omega) with rfl | rfl | rfl | rfl | rfl | rfl | rfl | rfl | rfl | rfl | rfl <;> rfl) (Nat.le_of_ble_eq_true rfl) (Nat.le_of_ble_eq_true rfl) dX1_init_38 (fun q38_6 => ?_)
  refine g_dup hX dX1_init_41 rfl ?_
  refine g_cIN hX (cells := 17) (slots := 147) (n := 0) (As := []) (st := [.ref q38_6, .int 3, .ref q6]) (wr := [(s0, .inr (1, [.ref q6, .int 0, .int 0]))] ++ [(q6, .inl (T.2.2.2, 4, .inr (.inr (.inr (.inr (va_up (va_up (va_up (fun _ => none) 0 (some q38_0)) 1 (some q38_2)) 2 (some q38_4)))))))] ++ wSt T q38_0 u42_1.1 u42_1.2.1 u42_1.2.2.1 u42_1.2.2.2 u0 ++ wSt T q38_2 u42_3.1 u42_3.2.1 u42_3.2.2.1 u42_3.2.2.2 u0 ++ wSt T q38_4 u42_5.1 u42_5.2.1 u42_5.2.2.1 u42_5.2.2.2 u0) (c_X2_init (xL X) T (xB X) q38_6) ggX1_init_X2_init 18 rfl k_X1_init_8 k_X1_init_9 rfl rfl rfl rfl ⟨Nat.le_of_ble_eq_true rfl, Nat.le_of_ble_eq_true rfl⟩ ⟨Nat.le_of_ble_eq_true rfl, Nat.le_of_ble_eq_true rfl⟩ ⟨by decide +kernel, by decide +kernel, by decide +kernel⟩ rfl rfl (Nat.le_of_ble_eq_true rfl) dX1_init_42 (fun u42_7 w1 hp1 => ?_)
  subst hp1
  refine g_aast hX 1 17 rfl rfl (vin_c (by decide)) dX1_init_45 (ws' := [(s0, .inr (1, [.ref q6, .int 0, .int 0]))] ++ [(q6, .inl (T.2.2.2, 4, .inr (.inr (.inr (.inr (va_up (va_up (va_up (va_up (fun _ => none) 0 (some q38_0)) 1 (some q38_2)) 2 (some q38_4)) 3 (some q38_6)))))))] ++ wSt T q38_0 u42_1.1 u42_1.2.1 u42_1.2.2.1 u42_1.2.2.2 u0 ++ wSt T q38_2 u42_3.1 u42_3.2.1 u42_3.2.2.1 u42_3.2.2.2 u0 ++ wSt T q38_4 u42_5.1 u42_5.2.1 u42_5.2.2.1 u42_5.2.2.2 u0 ++ wSt T q38_6 u42_7.1 u42_7.2.1 u42_7.2.2.1 u42_7.2.2.2 u0) (by rw [show Int32.toNatClampNeg 3 = 3 from by decide] <;> rfl) ?_
  refine g_iinc hX (lv' := [(1, .int 4), (0, .ref s0)]) (v := 4) 0 dX1_init_46 rfl (by decide) (by decide) rfl ?_
  refine g_goto hX 24 dX1_init_49 (by decide) ?_
  refine g_iload_n hX dX1_init_24 rfl 0 rfl ?_
  refine g_aload_n hX dX1_init_25 rfl 1 rfl ?_
  refine g_get hX 1 h_X1_init_X1 0 rfl rfl 0 (by decide) k_X1_init_4 rfl (v := .ref q6) rfl dX1_init_26 ?_
  refine g_alen hX 1 2 rfl rfl (v := 4) rfl dX1_init_29 ?_
  refine g_icmp_ge hX 52 dX1_init_30 (by decide) (fun _ => ?_) (fun c0 => absurd c0 (by decide))
  refine g_sameq 1 (fSt (fun j => [s0, q6, q38_0, u42_1.1, u42_1.2.1, u42_1.2.2.1, u42_1.2.2.2, q38_2, u42_3.1, u42_3.2.1, u42_3.2.2.1, u42_3.2.2.2, q38_4, u42_5.1, u42_5.2.1, u42_5.2.2.1, u42_5.2.2.2, q38_6, u42_7.1, u42_7.2.1, u42_7.2.2.1, u42_7.2.2.2].getD (j - 18) 0)) rfl (fun j hj => by rcases (show j = 0 ∨ j = 1 ∨ j = 2 ∨ j = 3 by omega) with rfl | rfl | rfl | rfl <;> rfl) (ws' := wHi T (fun j => [s0, q6, q38_0, u42_1.1, u42_1.2.1, u42_1.2.2.1, u42_1.2.2.2, q38_2, u42_3.1, u42_3.2.1, u42_3.2.2.1, u42_3.2.2.2, q38_4, u42_5.1, u42_5.2.1, u42_5.2.2.1, u42_5.2.2.2, q38_6, u42_7.1, u42_7.2.1, u42_7.2.2.1, u42_7.2.2.2].getD (j - 18) 0) h0V) rfl ?_
  exact g_vretC hX dX1_init_52 (fun j => [s0, q6, q38_0, u42_1.1, u42_1.2.1, u42_1.2.2.1, u42_1.2.2.2, q38_2, u42_3.1, u42_3.2.1, u42_3.2.2.1, u42_3.2.2.2, q38_4, u42_5.1, u42_5.2.1, u42_5.2.2.1, u42_5.2.2.2, q38_6, u42_7.1, u42_7.2.1, u42_7.2.2.1, u42_7.2.2.2].getD (j - 18) 0) ⟨rfl, rfl⟩
end
section
def rmX4_init : Room := { frames := 4, cells := 43, slots := 518, locals := 75 }
theorem k_X4_init_0 : Cond.methodLink RX4 3 objectInit ∈ wsX4_init := List.mem_of_getElem? (i := 1) rfl
theorem k_X4_init_1 : Cond.instanceMethod objectInit ∈ wsX4_init := List.mem_of_getElem? (i := 2) rfl
theorem k_X4_init_2 : Cond.code objectInit ⟨#[0xb1]⟩ 1 none ∈ wsX4_init := List.mem_of_getElem? (i := 3) rfl
theorem h_X4_init_X2 : ∀ w ∈ u_ws RX2 TX2 11, w ∈ wsX4_init := fun w h => List.mem_cons_of_mem _ (List.mem_append_left _ (List.mem_append_left _ (List.mem_append_left _ (List.mem_append_left _ (List.mem_append_right _ h)))))
theorem k_X4_init_3 : Cond.classLink RX4 9 RX2 ∈ wsX4_init := List.mem_of_getElem? (i := 4) rfl
theorem k_X4_init_4 : Cond.instantiable RX2 11 ∈ wsX4_init := List.mem_of_getElem? (i := 5) rfl
theorem k_X4_init_5 : Cond.initialized RX2 ∈ wsX4_init := List.mem_of_getElem? (i := 6) rfl
theorem k_X4_init_23 : Cond.instanceMethod yX2_init ∈ wsX4_init := List.mem_of_getElem? (i := 24) rfl
theorem k_X4_init_6 : Cond.fieldLink RX4 12 RX4 (TX4 0).2.1 (TX4 0).2.2.1 ∈ wsX4_init := List.mem_of_getElem? (i := 7) rfl
theorem h_X4_init_X4 : ∀ w ∈ u_ws RX4 TX4 8, w ∈ wsX4_init := fun w h => List.mem_cons_of_mem _ (List.mem_append_left _ (List.mem_append_left _ (List.mem_append_left _ (List.mem_append_right _ h))))
theorem k_X4_init_7 : Cond.fieldLink RX4 16 RX4 (TX4 1).2.1 (TX4 1).2.2.1 ∈ wsX4_init := List.mem_of_getElem? (i := 8) rfl
theorem k_X4_init_8 : Cond.fieldLink RX4 19 RX4 (TX4 2).2.1 (TX4 2).2.2.1 ∈ wsX4_init := List.mem_of_getElem? (i := 9) rfl
theorem h_X4_init_X3 : ∀ w ∈ u_ws RX3 TX3 4, w ∈ wsX4_init := fun w h => List.mem_cons_of_mem _ (List.mem_append_left _ (List.mem_append_left _ (List.mem_append_right _ h)))
theorem k_X4_init_9 : Cond.classLink RX4 22 RX3 ∈ wsX4_init := List.mem_of_getElem? (i := 10) rfl
theorem k_X4_init_10 : Cond.instantiable RX3 4 ∈ wsX4_init := List.mem_of_getElem? (i := 11) rfl
theorem k_X4_init_11 : Cond.initialized RX3 ∈ wsX4_init := List.mem_of_getElem? (i := 12) rfl
theorem k_X4_init_45 : Cond.instanceMethod yX3_init ∈ wsX4_init := List.mem_of_getElem? (i := 46) rfl
theorem k_X4_init_12 : Cond.fieldLink RX4 25 RX4 (TX4 3).2.1 (TX4 3).2.2.1 ∈ wsX4_init := List.mem_of_getElem? (i := 13) rfl
theorem h_X4_init_X1 : ∀ w ∈ u_ws RX1 TX1 3, w ∈ wsX4_init := fun w h => List.mem_cons_of_mem _ (List.mem_append_left _ (List.mem_append_right _ h))
theorem k_X4_init_13 : Cond.classLink RX4 29 RX1 ∈ wsX4_init := List.mem_of_getElem? (i := 14) rfl
theorem k_X4_init_14 : Cond.instantiable RX1 3 ∈ wsX4_init := List.mem_of_getElem? (i := 15) rfl
theorem k_X4_init_15 : Cond.initialized RX1 ∈ wsX4_init := List.mem_of_getElem? (i := 16) rfl
theorem k_X4_init_52 : Cond.instanceMethod yX1_init ∈ wsX4_init := List.mem_of_getElem? (i := 53) rfl
theorem k_X4_init_16 : Cond.fieldLink RX4 32 RX4 (TX4 4).2.1 (TX4 4).2.2.1 ∈ wsX4_init := List.mem_of_getElem? (i := 17) rfl
theorem h_X4_init_X0 : ∀ w ∈ u_ws RX0 TX0 7, w ∈ wsX4_init := fun w h => List.mem_cons_of_mem _ (List.mem_append_right _ h)
theorem k_X4_init_17 : Cond.classLink RX4 36 RX0 ∈ wsX4_init := List.mem_of_getElem? (i := 18) rfl
theorem k_X4_init_18 : Cond.instantiable RX0 7 ∈ wsX4_init := List.mem_of_getElem? (i := 19) rfl
theorem k_X4_init_19 : Cond.initialized RX0 ∈ wsX4_init := List.mem_of_getElem? (i := 20) rfl
theorem k_X4_init_59 : Cond.instanceMethod yX0_init ∈ wsX4_init := List.mem_of_getElem? (i := 60) rfl
theorem k_X4_init_20 : Cond.fieldLink RX4 39 RX4 (TX4 5).2.1 (TX4 5).2.2.1 ∈ wsX4_init := List.mem_of_getElem? (i := 21) rfl
theorem k_X4_init_21 : Cond.fieldLink RX4 43 RX4 (TX4 6).2.1 (TX4 6).2.2.1 ∈ wsX4_init := List.mem_of_getElem? (i := 22) rfl
theorem k_X4_init_22 : Cond.fieldLink RX4 47 RX4 (TX4 7).2.1 (TX4 7).2.2.1 ∈ wsX4_init := List.mem_of_getElem? (i := 23) rfl
set_option maxHeartbeats 4000000 in
set_option maxRecDepth 100000 in
theorem c_X4_init (l : Launch) (T : TT) (b0 : Nat) (s0 : Nat) : ConC l T b0 yX4_init wsX4_init rmX4_init [.ref s0] [(s0, .inr (4, [.null, .null, .null, .null, .null, .null, .int 0, .int 0]))] (Nat → Nat) (fun (ad : Nat → Nat) (w : va_W) => s0 = ad 0 ∧ w = wXX T ad xv0) 43 518 := by
  refine conC_of (cc := cX4_init) (maxL := 1) (ret := none) (lv0 := [(0, .ref s0)]) (by decide +kernel) rfl rfl (Nat.le_of_ble_eq_true rfl) rfl (fun X hX hin => ?_)
  refine g_aload_n hX dX4_init_0 rfl 0 rfl ?_
  refine g_objInit hX k_X4_init_0 k_X4_init_1 k_X4_init_2 (Nat.le_of_ble_eq_true rfl) (Nat.le_of_ble_eq_true rfl) dX4_init_1 ?_
  refine g_aload_n hX dX4_init_4 rfl 0 rfl ?_
  refine g_new hX 2 (fs := [.null, .null, .null, .int 0, .int 0, .int 0, .int 0, .int 0, .int 0, .int 0, .int 0]) h_X4_init_X2 tyX2 tyX2_ok k_X4_init_3 k_X4_init_4 k_X4_init_5 rfl (fun j hj => by rcases (show j = 0 ∨ j = 1 ∨ j = 2 ∨ j = 3 ∨ j = 4 ∨ j = 5 ∨ j = 6 ∨ j = 7 ∨ j = 8 ∨ j = 9 ∨ j = 10 by omega) with rfl | rfl | rfl | rfl | rfl | rfl | rfl | rfl | rfl | rfl | rfl <;> rfl) (Nat.le_of_ble_eq_true rfl) (Nat.le_of_ble_eq_true rfl) dX4_init_5 (fun q5_0 => ?_)
  refine g_dup hX dX4_init_8 rfl ?_
  refine g_cIN hX (cells := 1) (slots := 11) (n := 0) (As := []) (st := [.ref q5_0, .ref s0]) (wr := [(s0, .inr (4, [.null, .null, .null, .null, .null, .null, .int 0, .int 0]))]) (c_X2_init (xL X) T (xB X) q5_0) ggX4_init_X2_init 14 rfl k_X4_init_5 k_X4_init_23 rfl rfl rfl rfl ⟨Nat.le_of_ble_eq_true rfl, Nat.le_of_ble_eq_true rfl⟩ ⟨Nat.le_of_ble_eq_true rfl, Nat.le_of_ble_eq_true rfl⟩ ⟨by decide +kernel, by decide +kernel, by decide +kernel⟩ rfl rfl (Nat.le_of_ble_eq_true rfl) dX4_init_9 (fun u9_1 w1 hp1 => ?_)
  subst hp1
  refine g_putF hX 4 h_X4_init_X4 0 rfl rfl 0 (by decide) tyX4 tyX4_ok nmX4 k_X4_init_6 rfl rfl hin rfl rfl rfl rfl (Nat.le_of_ble_eq_true rfl) dX4_init_12 (ws' := [(s0, .inr (4, [.ref q5_0, .null, .null, .null, .null, .null, .int 0, .int 0]))] ++ wSt T q5_0 u9_1.1 u9_1.2.1 u9_1.2.2.1 u9_1.2.2.2 u0) rfl ?_
  refine g_aload_n hX dX4_init_15 rfl 0 rfl ?_
  refine g_new hX 2 (fs := [.null, .null, .null, .int 0, .int 0, .int 0, .int 0, .int 0, .int 0, .int 0, .int 0]) h_X4_init_X2 tyX2 tyX2_ok k_X4_init_3 k_X4_init_4 k_X4_init_5 rfl (fun j hj => by rcases (show j = 0 ∨ j = 1 ∨ j = 2 ∨ j = 3 ∨ j = 4 ∨ j = 5 ∨ j = 6 ∨ j = 7 ∨ j = 8 ∨ j = 9 ∨ j = 10 by omega) with rfl | rfl | rfl | rfl | rfl | rfl | rfl | rfl | rfl | rfl | rfl <;> rfl) (Nat.le_of_ble_eq_true rfl) (Nat.le_of_ble_eq_true rfl) dX4_init_16 (fun q16_2 => ?_)
  refine g_dup hX dX4_init_19 rfl ?_
  refine g_cIN hX (cells := 6) (slots := 55) (n := 0) (As := []) (st := [.ref q16_2, .ref s0]) (wr := [(s0, .inr (4, [.ref q5_0, .null, .null, .null, .null, .null, .int 0, .int 0]))] ++ wSt T q5_0 u9_1.1 u9_1.2.1 u9_1.2.2.1 u9_1.2.2.2 u0) (c_X2_init (xL X) T (xB X) q16_2) ggX4_init_X2_init 14 rfl k_X4_init_5 k_X4_init_23 rfl rfl rfl rfl ⟨Nat.le_of_ble_eq_true rfl, Nat.le_of_ble_eq_true rfl⟩ ⟨Nat.le_of_ble_eq_true rfl, Nat.le_of_ble_eq_true rfl⟩ ⟨by decide +kernel, by decide +kernel, by decide +kernel⟩ rfl rfl (Nat.le_of_ble_eq_true rfl) dX4_init_20 (fun u20_3 w1 hp1 => ?_)
  subst hp1
  refine g_putF hX 4 h_X4_init_X4 0 rfl rfl 1 (by decide) tyX4 tyX4_ok nmX4 k_X4_init_7 rfl rfl hin rfl rfl rfl rfl (Nat.le_of_ble_eq_true rfl) dX4_init_23 (ws' := [(s0, .inr (4, [.ref q5_0, .ref q16_2, .null, .null, .null, .null, .int 0, .int 0]))] ++ wSt T q5_0 u9_1.1 u9_1.2.1 u9_1.2.2.1 u9_1.2.2.2 u0 ++ wSt T q16_2 u20_3.1 u20_3.2.1 u20_3.2.2.1 u20_3.2.2.2 u0) rfl ?_
  refine g_aload_n hX dX4_init_26 rfl 0 rfl ?_
  refine g_new hX 2 (fs := [.null, .null, .null, .int 0, .int 0, .int 0, .int 0, .int 0, .int 0, .int 0, .int 0]) h_X4_init_X2 tyX2 tyX2_ok k_X4_init_3 k_X4_init_4 k_X4_init_5 rfl (fun j hj => by rcases (show j = 0 ∨ j = 1 ∨ j = 2 ∨ j = 3 ∨ j = 4 ∨ j = 5 ∨ j = 6 ∨ j = 7 ∨ j = 8 ∨ j = 9 ∨ j = 10 by omega) with rfl | rfl | rfl | rfl | rfl | rfl | rfl | rfl | rfl | rfl | rfl <;> rfl) (Nat.le_of_ble_eq_true rfl) (Nat.le_of_ble_eq_true rfl) dX4_init_27 (fun q27_4 => ?_)
  refine g_dup hX dX4_init_30 rfl ?_
  refine g_cIN hX (cells := 11) (slots := 99) (n := 0) (As := []) (st := [.ref q27_4, .ref s0]) (wr := [(s0, .inr (4, [.ref q5_0, .ref q16_2, .null, .null, .null, .null, .int 0, .int 0]))] ++ wSt T q5_0 u9_1.1 u9_1.2.1 u9_1.2.2.1 u9_1.2.2.2 u0 ++ wSt T q16_2 u20_3.1 u20_3.2.1 u20_3.2.2.1 u20_3.2.2.2 u0) (c_X2_init (xL X) T (xB X) q27_4) ggX4_init_X2_init 14 rfl k_X4_init_5 k_X4_init_23 rfl rfl rfl rfl ⟨Nat.le_of_ble_eq_true rfl, Nat.le_of_ble_eq_true rfl⟩ ⟨Nat.le_of_ble_eq_true rfl, Nat.le_of_ble_eq_true rfl⟩ ⟨by decide +kernel, by decide +kernel, by decide +kernel⟩ rfl rfl (Nat.le_of_ble_eq_true rfl) dX4_init_31 (fun u31_5 w1 hp1 => ?_)
  subst hp1
  refine g_putF hX 4 h_X4_init_X4 0 rfl rfl 2 (by decide) tyX4 tyX4_ok nmX4 k_X4_init_8 rfl rfl hin rfl rfl rfl rfl (Nat.le_of_ble_eq_true rfl) dX4_init_34 (ws' := [(s0, .inr (4, [.ref q5_0, .ref q16_2, .ref q27_4, .null, .null, .null, .int 0, .int 0]))] ++ wSt T q5_0 u9_1.1 u9_1.2.1 u9_1.2.2.1 u9_1.2.2.2 u0 ++ wSt T q16_2 u20_3.1 u20_3.2.1 u20_3.2.2.1 u20_3.2.2.2 u0 ++ wSt T q27_4 u31_5.1 u31_5.2.1 u31_5.2.2.1 u31_5.2.2.2 u0) rfl ?_
  refine g_aload_n hX dX4_init_37 rfl 0 rfl ?_
  refine g_new hX 3 (fs := [.null, .int 0, .int 0, .int 0]) h_X4_init_X3 tyX3 tyX3_ok k_X4_init_9 k_X4_init_10 k_X4_init_11 rfl (fun j hj => by rcases (show j = 0 ∨ j = 1 ∨ j = 2 ∨ j = 3 by omega) with rfl | rfl | rfl | rfl <;> rfl) (Nat.le_of_ble_eq_true rfl) (Nat.le_of_ble_eq_true rfl) dX4_init_38 (fun q38_6 => ?_)
  refine g_dup hX dX4_init_41 rfl ?_
  refine g_cIN hX (cells := 16) (slots := 136) (n := 0) (As := []) (st := [.ref q38_6, .ref s0]) (wr := [(s0, .inr (4, [.ref q5_0, .ref q16_2, .ref q27_4, .null, .null, .null, .int 0, .int 0]))] ++ wSt T q5_0 u9_1.1 u9_1.2.1 u9_1.2.2.1 u9_1.2.2.2 u0 ++ wSt T q16_2 u20_3.1 u20_3.2.1 u20_3.2.2.1 u20_3.2.2.2 u0 ++ wSt T q27_4 u31_5.1 u31_5.2.1 u31_5.2.2.1 u31_5.2.2.2 u0) (c_X3_init (xL X) T (xB X) q38_6) ggX4_init_X3_init 16 rfl k_X4_init_11 k_X4_init_45 rfl rfl rfl rfl ⟨Nat.le_of_ble_eq_true rfl, Nat.le_of_ble_eq_true rfl⟩ ⟨Nat.le_of_ble_eq_true rfl, Nat.le_of_ble_eq_true rfl⟩ ⟨by decide +kernel, by decide +kernel, by decide +kernel⟩ rfl rfl (Nat.le_of_ble_eq_true rfl) dX4_init_42 (fun u42_7 w1 hp1 => ?_)
  subst hp1
  refine g_putF hX 4 h_X4_init_X4 0 rfl rfl 3 (by decide) tyX4 tyX4_ok nmX4 k_X4_init_12 rfl rfl hin rfl rfl rfl rfl (Nat.le_of_ble_eq_true rfl) dX4_init_45 (ws' := [(s0, .inr (4, [.ref q5_0, .ref q16_2, .ref q27_4, .ref q38_6, .null, .null, .int 0, .int 0]))] ++ wSt T q5_0 u9_1.1 u9_1.2.1 u9_1.2.2.1 u9_1.2.2.2 u0 ++ wSt T q16_2 u20_3.1 u20_3.2.1 u20_3.2.2.1 u20_3.2.2.2 u0 ++ wSt T q27_4 u31_5.1 u31_5.2.1 u31_5.2.2.1 u31_5.2.2.2 u0 ++ wWr T q38_6 u42_7 (fun _ => 0, fun _ => 0)) rfl ?_
  refine g_aload_n hX dX4_init_48 rfl 0 rfl ?_
  refine g_new hX 1 (fs := [.null, .int 0, .int 0]) h_X4_init_X1 tyX1 tyX1_ok k_X4_init_13 k_X4_init_14 k_X4_init_15 rfl (fun j hj => by rcases (show j = 0 ∨ j = 1 ∨ j = 2 by omega) with rfl | rfl | rfl <;> rfl) (Nat.le_of_ble_eq_true rfl) (Nat.le_of_ble_eq_true rfl) dX4_init_49 (fun q49_8 => ?_)
  refine g_dup hX dX4_init_52 rfl ?_
  refine g_cIN hX (cells := 18) (slots := 151) (n := 0) (As := []) (st := [.ref q49_8, .ref s0]) (wr := [(s0, .inr (4, [.ref q5_0, .ref q16_2, .ref q27_4, .ref q38_6, .null, .null, .int 0, .int 0]))] ++ wSt T q5_0 u9_1.1 u9_1.2.1 u9_1.2.2.1 u9_1.2.2.2 u0 ++ wSt T q16_2 u20_3.1 u20_3.2.1 u20_3.2.2.1 u20_3.2.2.2 u0 ++ wSt T q27_4 u31_5.1 u31_5.2.1 u31_5.2.2.1 u31_5.2.2.2 u0 ++ wWr T q38_6 u42_7 (fun _ => 0, fun _ => 0)) (c_X1_init (xL X) T (xB X) q49_8) ggX4_init_X1_init 17 rfl k_X4_init_15 k_X4_init_52 rfl rfl rfl rfl ⟨Nat.le_of_ble_eq_true rfl, Nat.le_of_ble_eq_true rfl⟩ ⟨Nat.le_of_ble_eq_true rfl, Nat.le_of_ble_eq_true rfl⟩ ⟨by decide +kernel, by decide +kernel, by decide +kernel⟩ rfl rfl (Nat.le_of_ble_eq_true rfl) dX4_init_53 (fun u53_9 w1 hp1 => ?_)
  obtain ⟨hr, rfl⟩ := hp1
  subst hr
  refine g_putF hX 4 h_X4_init_X4 0 rfl rfl 4 (by decide) tyX4 tyX4_ok nmX4 k_X4_init_16 rfl rfl hin rfl rfl rfl rfl (Nat.le_of_ble_eq_true rfl) dX4_init_56 (ws' := [(s0, .inr (4, [.ref q5_0, .ref q16_2, .ref q27_4, .ref q38_6, .ref (u53_9 18), .null, .int 0, .int 0]))] ++ wSt T q5_0 u9_1.1 u9_1.2.1 u9_1.2.2.1 u9_1.2.2.2 u0 ++ wSt T q16_2 u20_3.1 u20_3.2.1 u20_3.2.2.1 u20_3.2.2.2 u0 ++ wSt T q27_4 u31_5.1 u31_5.2.1 u31_5.2.2.1 u31_5.2.2.2 u0 ++ wWr T q38_6 u42_7 (fun _ => 0, fun _ => 0) ++ wHi T u53_9 h0V) rfl ?_
  refine g_aload_n hX dX4_init_59 rfl 0 rfl ?_
  refine g_new hX 0 (fs := [.null, .null, .null, .int 0, .int 0, .int 0, .int 0]) h_X4_init_X0 tyX0 tyX0_ok k_X4_init_17 k_X4_init_18 k_X4_init_19 rfl (fun j hj => by rcases (show j = 0 ∨ j = 1 ∨ j = 2 ∨ j = 3 ∨ j = 4 ∨ j = 5 ∨ j = 6 by omega) with rfl | rfl | rfl | rfl | rfl | rfl | rfl <;> rfl) (Nat.le_of_ble_eq_true rfl) (Nat.le_of_ble_eq_true rfl) dX4_init_60 (fun q60_10 => ?_)
  refine g_dup hX dX4_init_63 rfl ?_
  refine g_cIN hX (cells := 40) (slots := 338) (n := 0) (As := []) (st := [.ref q60_10, .ref s0]) (wr := [(s0, .inr (4, [.ref q5_0, .ref q16_2, .ref q27_4, .ref q38_6, .ref (u53_9 18), .null, .int 0, .int 0]))] ++ wSt T q5_0 u9_1.1 u9_1.2.1 u9_1.2.2.1 u9_1.2.2.2 u0 ++ wSt T q16_2 u20_3.1 u20_3.2.1 u20_3.2.2.1 u20_3.2.2.2 u0 ++ wSt T q27_4 u31_5.1 u31_5.2.1 u31_5.2.2.1 u31_5.2.2.2 u0 ++ wWr T q38_6 u42_7 (fun _ => 0, fun _ => 0) ++ wHi T u53_9 h0V) (c_X0_init (xL X) T (xB X) q60_10) ggX4_init_X0_init 19 rfl k_X4_init_19 k_X4_init_59 rfl rfl rfl rfl ⟨Nat.le_of_ble_eq_true rfl, Nat.le_of_ble_eq_true rfl⟩ ⟨Nat.le_of_ble_eq_true rfl, Nat.le_of_ble_eq_true rfl⟩ ⟨by decide +kernel, by decide +kernel, by decide +kernel⟩ rfl rfl (Nat.le_of_ble_eq_true rfl) dX4_init_64 (fun u64_11 w1 hp1 => ?_)
  subst hp1
  refine g_putF hX 4 h_X4_init_X4 0 rfl rfl 5 (by decide) tyX4 tyX4_ok nmX4 k_X4_init_20 rfl rfl hin rfl rfl rfl rfl (Nat.le_of_ble_eq_true rfl) dX4_init_67 (ws' := [(s0, .inr (4, [.ref q5_0, .ref q16_2, .ref q27_4, .ref q38_6, .ref (u53_9 18), .ref q60_10, .int 0, .int 0]))] ++ wSt T q5_0 u9_1.1 u9_1.2.1 u9_1.2.2.1 u9_1.2.2.2 u0 ++ wSt T q16_2 u20_3.1 u20_3.2.1 u20_3.2.2.1 u20_3.2.2.2 u0 ++ wSt T q27_4 u31_5.1 u31_5.2.1 u31_5.2.2.1 u31_5.2.2.2 u0 ++ wWr T q38_6 u42_7 (fun _ => 0, fun _ => 0) ++ wHi T u53_9 h0V ++ wTx T q60_10 u64_11.1 u64_11.2.1 u64_11.2.2 t0) rfl ?_
  refine g_aload_n hX dX4_init_70 rfl 0 rfl ?_
  refine g_iconst hX (v := 0) dX4_init_71 (by decide) ?_
  refine g_put hX 4 h_X4_init_X4 0 rfl rfl 6 (by decide) tyX4 tyX4_ok nmX4 k_X4_init_21 rfl rfl  rfl rfl rfl (Nat.le_of_ble_eq_true rfl) dX4_init_72 (ws' := [(s0, .inr (4, [.ref q5_0, .ref q16_2, .ref q27_4, .ref q38_6, .ref (u53_9 18), .ref q60_10, .int 0, .int 0]))] ++ wSt T q5_0 u9_1.1 u9_1.2.1 u9_1.2.2.1 u9_1.2.2.2 u0 ++ wSt T q16_2 u20_3.1 u20_3.2.1 u20_3.2.2.1 u20_3.2.2.2 u0 ++ wSt T q27_4 u31_5.1 u31_5.2.1 u31_5.2.2.1 u31_5.2.2.2 u0 ++ wWr T q38_6 u42_7 (fun _ => 0, fun _ => 0) ++ wHi T u53_9 h0V ++ wTx T q60_10 u64_11.1 u64_11.2.1 u64_11.2.2 t0) rfl ?_
  refine g_aload_n hX dX4_init_75 rfl 0 rfl ?_
  refine g_bipush hX (v := (-5)) dX4_init_76 (by decide) ?_
  refine g_put hX 4 h_X4_init_X4 0 rfl rfl 7 (by decide) tyX4 tyX4_ok nmX4 k_X4_init_22 rfl rfl  rfl rfl rfl (Nat.le_of_ble_eq_true rfl) dX4_init_78 (ws' := [(s0, .inr (4, [.ref q5_0, .ref q16_2, .ref q27_4, .ref q38_6, .ref (u53_9 18), .ref q60_10, .int 0, .int (-5)]))] ++ wSt T q5_0 u9_1.1 u9_1.2.1 u9_1.2.2.1 u9_1.2.2.2 u0 ++ wSt T q16_2 u20_3.1 u20_3.2.1 u20_3.2.2.1 u20_3.2.2.2 u0 ++ wSt T q27_4 u31_5.1 u31_5.2.1 u31_5.2.2.1 u31_5.2.2.2 u0 ++ wWr T q38_6 u42_7 (fun _ => 0, fun _ => 0) ++ wHi T u53_9 h0V ++ wTx T q60_10 u64_11.1 u64_11.2.1 u64_11.2.2 t0) rfl ?_
  refine g_sameq 19 (fSt (fun j => [s0, q5_0, u9_1.1, u9_1.2.1, u9_1.2.2.1, u9_1.2.2.2, q16_2, u20_3.1, u20_3.2.1, u20_3.2.2.1, u20_3.2.2.2, q27_4, u31_5.1, u31_5.2.1, u31_5.2.2.1, u31_5.2.2.2, q38_6, u42_7, (u53_9 18), (u53_9 19), (u53_9 20), (u53_9 21), (u53_9 22), (u53_9 23), (u53_9 24), (u53_9 25), (u53_9 26), (u53_9 27), (u53_9 28), (u53_9 29), (u53_9 30), (u53_9 31), (u53_9 32), (u53_9 33), (u53_9 34), (u53_9 35), (u53_9 36), (u53_9 37), (u53_9 38), (u53_9 39), q60_10, u64_11.1, u64_11.2.1, u64_11.2.2].getD j 0)) rfl (fun j hj => by rcases (show j = 0 ∨ j = 1 ∨ j = 2 ∨ j = 3 by omega) with rfl | rfl | rfl | rfl <;> rfl) (ws' := wXX T (fun j => [s0, q5_0, u9_1.1, u9_1.2.1, u9_1.2.2.1, u9_1.2.2.2, q16_2, u20_3.1, u20_3.2.1, u20_3.2.2.1, u20_3.2.2.2, q27_4, u31_5.1, u31_5.2.1, u31_5.2.2.1, u31_5.2.2.2, q38_6, u42_7, (u53_9 18), (u53_9 19), (u53_9 20), (u53_9 21), (u53_9 22), (u53_9 23), (u53_9 24), (u53_9 25), (u53_9 26), (u53_9 27), (u53_9 28), (u53_9 29), (u53_9 30), (u53_9 31), (u53_9 32), (u53_9 33), (u53_9 34), (u53_9 35), (u53_9 36), (u53_9 37), (u53_9 38), (u53_9 39), q60_10, u64_11.1, u64_11.2.1, u64_11.2.2].getD j 0) xv0) rfl ?_
  exact g_vretC hX dX4_init_81 (fun j => [s0, q5_0, u9_1.1, u9_1.2.1, u9_1.2.2.1, u9_1.2.2.2, q16_2, u20_3.1, u20_3.2.1, u20_3.2.2.1, u20_3.2.2.2, q27_4, u31_5.1, u31_5.2.1, u31_5.2.2.1, u31_5.2.2.2, q38_6, u42_7, (u53_9 18), (u53_9 19), (u53_9 20), (u53_9 21), (u53_9 22), (u53_9 23), (u53_9 24), (u53_9 25), (u53_9 26), (u53_9 27), (u53_9 28), (u53_9 29), (u53_9 30), (u53_9 31), (u53_9 32), (u53_9 33), (u53_9 34), (u53_9 35), (u53_9 36), (u53_9 37), (u53_9 38), (u53_9 39), q60_10, u64_11.1, u64_11.2.1, u64_11.2.2].getD j 0) ⟨rfl, rfl⟩
end
