/-! My own layer over the kit: a method's walk as a symbolic state (world, locals, pc, stack). -/
abbrev TT : Type := va_G × ClassId × ClassId × ClassId
abbrev tys (T : TT) : List (ClassId × FieldType) := [(T.2.1, .int), (T.2.2.1, .char), (T.2.2.2, .object RX2)]
abbrev CX : Type := (Program × Launch × Env × Room × State) × (MethodId × Array Value × List Frame × Method × Code) × ((Nat → Prop) × Nat)
abbrev xP (X : CX) : Program := X.1.1
abbrev xL (X : CX) : Launch := X.1.2.1
abbrev xE (X : CX) : Env := X.1.2.2.1
abbrev xR (X : CX) : Room := X.1.2.2.2.1
abbrev xS (X : CX) : State := X.1.2.2.2.2
abbrev xM (X : CX) : MethodId := X.2.1.1
abbrev xAr (X : CX) : Array Value := X.2.1.2.1
abbrev xBl (X : CX) : List Frame := X.2.1.2.2.1
abbrev xMe (X : CX) : Method := X.2.1.2.2.2.1
abbrev xC (X : CX) : Code := X.2.1.2.2.2.2
abbrev xA (X : CX) : Nat → Prop := X.2.2.1
abbrev xB (X : CX) : Nat := X.2.2.2
/-- links between nest mates -/
def nws : List Cond := [.fieldLinkNest RX2 92 "ThreadWinder$Wraps" "laid" "I" "ThreadWinder", .fieldLinkNest RX4 105 "ThreadWinder$Wraps" "laid" "I" "ThreadWinder", .fieldLinkNest RX2 22 "ThreadWinder" "FIRST_NUMBERS" "[I" "ThreadWinder", .fieldLinkNest RX4 102 "ThreadWinder$State" "wraps" "LThreadWinder$Wraps;" "ThreadWinder", .fieldLinkNest RX4 164 "ThreadWinder$State" "coneLeft" "I" "ThreadWinder", .fieldLinkNest RX4 173 "ThreadWinder$State" "warmth" "I" "ThreadWinder", .fieldLinkNest RX4 125 "ThreadWinder$State" "broken" "Z" "ThreadWinder", .fieldLinkNest RX4 176 "ThreadWinder$State" "lastTension" "I" "ThreadWinder", .fieldLinkNest RX4 185 "ThreadWinder$State" "turnsDone" "I" "ThreadWinder", .fieldLinkNest RX4 188 "ThreadWinder$State" "breaks" "I" "ThreadWinder", .fieldLinkNest RX4 191 "ThreadWinder$State" "packagesOff" "I" "ThreadWinder", .fieldLinkNest RX4 194 "ThreadWinder$History" "kept" "I" "ThreadWinder", .fieldLinkNest RX4 197 "ThreadWinder$CommandText" "length" "I" "ThreadWinder", .fieldLinkNest RX2 92 "ThreadWinder$Wraps" "laid" "I" "ThreadWinder", .methodLinkNest RX4 11 yX2_init "ThreadWinder", .methodLinkNest RX2 11 yX3_init "ThreadWinder", .methodLinkNest RX4 24 yX3_init "ThreadWinder", .methodLinkNest RX4 31 yX1_init "ThreadWinder", .methodLinkNest RX1 24 yX2_init "ThreadWinder", .methodLinkNest RX4 38 yX0_init "ThreadWinder", .methodLinkNest RX4 51 yX2_copyFrom "ThreadWinder", .methodLinkNest RX2 59 yX3_copyFrom "ThreadWinder", .methodLinkNest RX4 55 yX2_changeNumber "ThreadWinder", .methodLinkNest RX2 84 yX4_inRange "ThreadWinder", .methodLinkNest RX4 203 yX1_remember "ThreadWinder", .methodLinkNest RX1 29 yX2_copyFrom "ThreadWinder", .methodLinkNest RX4 63 yX2_turnOften "ThreadWinder", .methodLinkNest RX2 143 yX3_isFull "ThreadWinder", .methodLinkNest RX2 98 yX3_guidePlace "ThreadWinder", .methodLinkNest RX2 101 yX3_heightAt "ThreadWinder", .methodLinkNest RX2 104 yX3_layWrap "ThreadWinder", .methodLinkNest RX2 116 yX3_moveGuide "ThreadWinder", .methodLinkNest RX3 37 yX4_oneIf "ThreadWinder", .methodLinkNest RX4 66 yX2_tieKnot "ThreadWinder", .methodLinkNest RX4 70 yX2_changeCone "ThreadWinder", .methodLinkNest RX4 73 yX2_takePackageOff "ThreadWinder", .methodLinkNest RX2 131 yX3_clear "ThreadWinder", .fieldLinkNest RX2 92 "ThreadWinder$Wraps" "laid" "I" "ThreadWinder", .fieldLinkNest RX2 92 "ThreadWinder$Wraps" "laid" "I" "ThreadWinder", .fieldLinkNest RX2 92 "ThreadWinder$Wraps" "laid" "I" "ThreadWinder", .fieldLinkNest RX2 92 "ThreadWinder$Wraps" "laid" "I" "ThreadWinder", .fieldLinkNest RX2 92 "ThreadWinder$Wraps" "laid" "I" "ThreadWinder", .fieldLinkNest RX2 92 "ThreadWinder$Wraps" "laid" "I" "ThreadWinder", .fieldLinkNest RX2 92 "ThreadWinder$Wraps" "laid" "I" "ThreadWinder", .fieldLinkNest RX2 92 "ThreadWinder$Wraps" "laid" "I" "ThreadWinder", .fieldLinkNest RX2 92 "ThreadWinder$Wraps" "laid" "I" "ThreadWinder", .methodLinkNest RX4 108 yX3_heightAt "ThreadWinder", .methodLinkNest RX4 111 yX2_knotsAt "ThreadWinder", .methodLinkNest RX4 114 yX3_isRibbon "ThreadWinder", .methodLinkNest RX4 122 yX2_isBad "ThreadWinder", .methodLinkNest RX4 128 yX2_isConeEmpty "ThreadWinder", .methodLinkNest RX4 132 yX2_hasBadPlace "ThreadWinder", .methodLinkNest RX4 135 yX3_ribbons "ThreadWinder", .methodLinkNest RX4 138 yX3_evenness "ThreadWinder", .methodLinkNest RX4 141 yX2_isIdle "ThreadWinder", .methodLinkNest RX4 144 yX2_turnOnce "ThreadWinder", .methodLinkNest RX4 206 yX3_clear "ThreadWinder", .methodLinkNest RX4 179 yX3_isFull "ThreadWinder", .methodLinkNest RX4 209 yX3_layWrap "ThreadWinder", .methodLinkNest RX4 200 yX2_number "ThreadWinder", .methodLinkNest RX4 212 yX3_moveGuide "ThreadWinder", .methodLinkNest RX4 155 yX3_barePlaces "ThreadWinder", .methodLinkNest RX4 167 yX3_guidePlace "ThreadWinder", .methodLinkNest RX4 170 yX3_guideGoesBack "ThreadWinder", .methodLinkNest RX4 182 yX2_allKnots "ThreadWinder"]
def nK (w : Cond) : Bool := match w with
  | .fieldLinkNest .. => true
  | .methodLinkNest .. => true
  | _ => false
theorem nws_all : nws.all nK = true := by decide +kernel
theorem nK_warm {w : Cond} {s U : State} (hW : s.WarmedH U.vm) (hk : nK w = true) (h : va_Nw w s) : va_Nw w U := by
  cases w <;> first
    | exact va_Nw.warmF hW h
    | exact va_Nw.warmM hW h
    | (exact absurd hk (by decide))
    | (simp [nK] at hk)
def fLowI : Nat → Int32 := fun j => match j with | 0 => 1 | 1 => 0 | 2 => 0 | 3 => 5 | 4 => 10 | 5 => 1 | _ => 1
def fLow : Nat → Value := fun j => .int (fLowI j)
def fHighI : Nat → Int32 := fun j => match j with | 0 => 11 | 1 => 9 | 2 => 5 | 3 => 50 | 4 => 99 | 5 => 500 | _ => 9999
def fHigh : Nat → Value := fun j => .int (fHighI j)
def fFirst : Nat → Int32 := fun j => match j with | 0 => 5 | 1 => 3 | 2 => 0 | 3 => 10 | 4 => 60 | _ => 0
def sTab (n : String) (N : Nat) (f : Nat → Value) (b0 : Nat) (U : State) : Prop := ∃ t : Nat, va_Z RX4 n "[I" (.ref t) (fun q => b0 ≤ q) U U.heap ∧ va_T .int t N f (fun q => b0 ≤ q) U U.heap
theorem sTab_moved {n : String} {N : Nat} {f : Nat → Value} {b0 : Nat} {A : Nat → Prop} {s U : State} {H : Heap} {locs : List Loc} (h : sTab n N f b0 s) (hS : va_S A s.heap H locs) (hA : ∀ q, A q → b0 ≤ q) (hW : s.WarmedH U.vm) (hU : U.heap = H) : sTab n N f b0 U := by
  obtain ⟨t, h1, h2⟩ := h
  have hq : ∀ a : Nat, a < s.heap.size → ¬ (fun q => b0 ≤ q) a → H[a]? = s.heap[a]? := fun a ha hna => hS.2.1 a ha (fun z => hna (hA a z))
  exact ⟨t, by rw [hU]; exact (h1.moved hW.alike).kept hq, by rw [hU]; exact (h2.moved hW.alike).kept hq⟩
/-- the row of the first numbers: its class and what it holds; its lock and its hash are nobody's business -/
def fCell (T : TT) (t : Nat) (H : Heap) : Prop := ∃ cell : Cell, H[t]? = some cell ∧ cell.cls = T.2.1 ∧ cell.slots = (arrV T.2.1 5 (fun j => .int (fFirst j))).slots ∧ (∀ k, cell.vm ≠ .statics k) ∧ cell.vm ≠ .unknown
def sFirst (T : TT) (b0 : Nat) (U : State) : Prop := ∃ t : Nat, va_Z RX4 "FIRST_NUMBERS" "[I" (.ref t) (fun q => b0 ≤ q) U U.heap ∧ fCell T t U.heap ∧ t < b0 ∧ va_Nw (.castable "[I" "java/lang/Cloneable") U ∧ va_AO RX2 U
def EnvOk (T : TT) (b0 : Nat) (U : State) : Prop := (∀ w ∈ nws, va_Nw w U) ∧ sTab "LOWEST" 7 fLow b0 U ∧ sTab "HIGHEST" 7 fHigh b0 U ∧ sFirst T b0 U
theorem EnvOk.moved {T : TT} {b0 : Nat} {A : Nat → Prop} {s U : State} {H : Heap} {locs : List Loc} (h : EnvOk T b0 s) (hS : va_S A s.heap H locs) (hA : ∀ q, A q → b0 ≤ q) (hW : s.WarmedH U.vm) (hU : U.heap = H) : EnvOk T b0 U := by
  obtain ⟨h1, h2, h3, t, h4, h5, h6⟩ := h
  have hq : ∀ a : Nat, a < s.heap.size → ¬ (fun q => b0 ≤ q) a → H[a]? = s.heap[a]? := fun a ha hna => hS.2.1 a ha (fun z => hna (hA a z))
  refine ⟨fun w hw => nK_warm hW (List.all_eq_true.mp nws_all w hw) (h1 w hw), sTab_moved h2 hS hA hW hU, sTab_moved h3 hS hA hW hU, t, by rw [hU]; exact (h4.moved hW.alike).kept hq, ?_, h6.1, va_Nw.warmC hW h6.2.1, h6.2.2.moved hW.alike⟩
  obtain ⟨cell, c1, c2⟩ := h5
  exact ⟨cell, by rw [hU, hq t (Array.getElem?_eq_some_iff.mp c1).1 (by show ¬ b0 ≤ t; have := h6.1; omega)]; exact c1, c2⟩
/-- what a method's body stands on -/
def Fit (T : TT) (X : CX) (own : String) (nL : Nat) (Ts : List Cond) (cc : ByteArray) (ret : Option FieldType) (R : Room) : Prop :=
  (xP X).tables.exec = Jvm.exec ∧ (xC X).code = cc ∧ (xC X).maxLocals = nL ∧ (xS X).vm.findClass own = some (xM X).cls ∧ (∀ w ∈ Ts, w.before (xAr X) (xS X) = true) ∧ va_K T.1 vwCl (tys T) (xS X) ∧ (∀ q, (xS X).heap.size ≤ q → xA X q) ∧ (xMe X).locks = false ∧ EnvOk T (xB X) (xS X) ∧ (∀ q, xA X q → xB X ≤ q) ∧ (xMe X).sig.returnType = ret ∧ xR X = R
/-- the symbolic state: from it the machine comes to Q -/
def G (T : TT) (X : CX) (Q : State → Prop) (cells slots : Nat) (ws : va_W) (lv : List (Nat × Value)) (pc : Nat) (st : List Value) : Prop :=
  ∀ (H : Heap) (locs : List Loc) (ls : Array Slot), va_P T.1 vwCl ws H → va_D (xA X) ws → va_S (xA X) (xS X).heap H locs → lv_has ls (xC X).maxLocals lv → W (xP X) (xL X) (xE X) (xR X) (xS X) (xM X) (xAr X) (xBl X) (xMe X) (xC X) H locs cells slots Q (F0 (xM X) pc ls st)
/-- ends: an int (or nothing) and a world -/
def QI (T : TT) (X : CX) (mc ms : Nat) (rv : Int32) (w1 : va_W) : State → Prop := MQ (xBl X) (va_Qi (fun (r : Int32) (w : va_W) => r = rv ∧ w = w1) (fun w t => va_P T.1 vwCl w t.heap ∧ va_D (xA X) w) (xA X)) (xAr X) (xS X) mc ms (xA X)
def QV (T : TT) (X : CX) (mc ms : Nat) (w1 : va_W) : State → Prop := MQ (xBl X) (va_Qv (fun (w : va_W) => w = w1) (fun w t => va_P T.1 vwCl w t.heap ∧ va_D (xA X) w) (xA X)) (xAr X) (xS X) mc ms (xA X)
def PreC (T : TT) (b0 : Nat) (av : List Value) (w0 : va_W) (sz : Nat) : Array Value → State → Prop := va_Pc av (fun U => U.heap.size = sz ∧ va_P T.1 vwCl w0 U.heap ∧ va_K T.1 vwCl (tys T) U ∧ va_D (fun q => b0 ≤ q) w0 ∧ EnvOk T b0 U)
/-- a method's contract: from the world w0 to the answer rv and the world w1 -/
def ConI (l : Launch) (T : TT) (b0 : Nat) (y : MethodName) (wds : List Cond) (rm : Room) (av : List Value) (w0 : va_W) (rv : Int32) (w1 : va_W) : Prop := ∀ sz : Nat, b0 ≤ sz → Met l y wds rm (PreC T b0 av w0 sz) (va_Qi (fun (r : Int32) (w : va_W) => r = rv ∧ w = w1) (fun w t => va_P T.1 vwCl w t.heap ∧ va_D (va_A w0 sz) w) (va_A w0 sz)) 0 0 (va_A w0 sz)
def ConV (l : Launch) (T : TT) (b0 : Nat) (y : MethodName) (wds : List Cond) (rm : Room) (av : List Value) (w0 : va_W) (w1 : va_W) : Prop := ∀ sz : Nat, b0 ≤ sz → Met l y wds rm (PreC T b0 av w0 sz) (va_Qv (fun (w : va_W) => w = w1) (fun w t => va_P T.1 vwCl w t.heap ∧ va_D (va_A w0 sz) w) (va_A w0 sz)) 0 0 (va_A w0 sz)
/-- a constructor's contract: nc cells of ns slots come; where they lie is not said but by the world -/
def ConC (l : Launch) (T : TT) (b0 : Nat) (y : MethodName) (wds : List Cond) (rm : Room) (av : List Value) (w0 : va_W) (S : Type) (post : S → va_W → Prop) (nc ns : Nat) : Prop := ∀ sz : Nat, b0 ≤ sz → Met l y wds rm (PreC T b0 av w0 sz) (va_Qv (fun (u : S × va_W) => post u.1 u.2) (fun u t => va_P T.1 vwCl u.2 t.heap ∧ va_D (va_A w0 sz) u.2) (va_A w0 sz)) nc ns (va_A w0 sz)
theorem va_D_congr {A : Nat → Prop} {ws ws' : va_W} (h : ws'.map (fun q => q.1) = ws.map (fun q => q.1)) (hD : va_D A ws) : va_D A ws' := by
  have key : ∀ (k : Nat) (q : Nat × va_E), ws'[k]? = some q → ∃ q0, ws[k]? = some q0 ∧ q0.1 = q.1 := by
    intro k q hq
    have h1 : (ws'.map (fun q => q.1))[k]? = some q.1 := by rw [List.getElem?_map, hq]; rfl
    rw [h, List.getElem?_map] at h1
    cases hk : ws[k]? with
    | none => rw [hk] at h1; cases h1
    | some q0 => rw [hk] at h1; exact ⟨q0, rfl, Option.some.inj h1⟩
  refine ⟨fun i j x y hi hj hxy => ?_, fun k q hk => ?_⟩
  · obtain ⟨x0, h1, h2⟩ := key i x hi
    obtain ⟨y0, h3, h4⟩ := key j y hj
    exact hD.1 i j x0 y0 h1 h3 (h2.trans (hxy.trans h4.symm))
  · obtain ⟨q0, h1, h2⟩ := key k q hk
    rw [← h2]
    exact hD.2 k q0 h1
/-- the cells at the places is, replaced by w1 -/
def wput : va_W → List Nat → va_W → va_W
  | ws, i :: is, c :: cs => wput (ws.set i c) is cs
  | ws, _, _ => ws
theorem wput_P {D : va_G} {cl : List vw_C} {H1 : Heap} : ∀ (is : List Nat) (w1 ws : va_W), is.length = w1.length → (∀ (k : Nat) (q : Nat × va_E), ws[k]? = some q → k ∉ is → va_at D cl q H1) → va_P D cl w1 H1 → va_P D cl (wput ws is w1) H1
  | [], [], ws, _, h, _ => fun k q hk => h k q hk (by simp)
  | [], _ :: _, _, hl, _, _ => by simp at hl
  | _ :: _, [], _, hl, _, _ => by simp at hl
  | i :: is, c :: cs, ws, hl, h, hP => by
    refine wput_P is cs (ws.set i c) (by simpa using hl) (fun k q hk hn => ?_) (fun k q hk => hP (k + 1) q (by simpa using hk))
    by_cases hki : k = i
    · subst hki
      by_cases hlt : k < ws.length
      · rw [List.getElem?_set_self hlt] at hk
        cases hk
        exact hP 0 _ rfl
      · rw [List.getElem?_eq_none (by simpa using Nat.not_lt.mp hlt)] at hk
        cases hk
    · rw [List.getElem?_set_ne (Ne.symm hki)] at hk
      exact h k q hk (by simp [hki, hn])
theorem wput_D : ∀ (is : List Nat) (wc w1 ws : va_W), is.map (fun i => ws[i]?) = wc.map some → w1.map (fun q => q.1) = wc.map (fun q => q.1) → va_nd is = true → (wput ws is w1).map (fun q => q.1) = ws.map (fun q => q.1)
  | [], _, [], _, _, _, _ => rfl
  | [], wc, _ :: _, ws, h1, h2, _ => by
    cases wc with
    | nil => simp at h2
    | cons => simp at h1
  | _ :: _, _, [], _, _, _, _ => rfl
  | i :: is, [], c :: cs, ws, h1, h2, _ => by simp at h1
  | i :: is, d :: ds, c :: cs, ws, h1, h2, hn => by
    simp only [List.map_cons, List.cons.injEq] at h1 h2
    simp only [va_nd, Bool.and_eq_true, decide_eq_true_eq] at hn
    have e : (ws.set i c).map (fun q => q.1) = ws.map (fun q => q.1) := by
      apply List.ext_getElem?
      intro j
      by_cases hj : j = i
      · subst hj
        have hl := (List.getElem?_eq_some_iff.mp h1.1).1
        rw [List.getElem?_map, List.getElem?_map, List.getElem?_set_self hl, h1.1]
        simp [h2.1]
      · rw [List.getElem?_map, List.getElem?_map, List.getElem?_set_ne (Ne.symm hj)]
    rw [← e]
    refine wput_D is ds cs (ws.set i c) ?_ h2.2 hn.2
    rw [← h1.2]
    apply List.map_congr_left
    intro j hj
    have hne : i ≠ j := fun z => hn.1 (by rw [z]; exact hj)
    exact List.getElem?_set_ne hne
/-- behind a call, place by place -/
theorem va_back {A0 : Nat → Prop} {D : va_G} {cl : List vw_C} {ws wc w1 : va_W} {H H1 : Heap} (hP : va_P D cl ws H) (hD : va_D A0 ws) (is : List Nat) (hC : is.map (fun i => ws[i]?) = wc.map some) (hA : w1.map (fun q => q.1) = wc.map (fun q => q.1)) (hn : va_nd is = true)
    (hk : ∀ q : Nat, q < H.size → ¬ va_A wc H.size q → H1[q]? = H[q]?) (hP1 : va_P D cl w1 H1) : va_P D cl (wput ws is w1) H1 ∧ va_D A0 (wput ws is w1) := by
  have hlen : is.length = w1.length := by
    have e1 := congrArg List.length hC
    have e2 := congrArg List.length hA
    simp at e1 e2
    omega
  refine ⟨wput_P is w1 ws hlen (fun k q hq hni => ?_) hP1, va_D_congr (wput_D is wc w1 ws hC hA hn) hD⟩
  have hlt := (hP k q hq).lt
  refine (hP k q hq).kept (hk q.1 hlt (fun h => ?_))
  rcases h with ⟨j, e, h⟩ | h
  · have h1 : (is.map (fun i => ws[i]?))[j]? = some (some (q.1, e)) := by rw [hC, List.getElem?_map, h]; rfl
    rw [List.getElem?_map] at h1
    cases hi : is[j]? with
    | none => rw [hi] at h1; cases h1
    | some i =>
      rw [hi] at h1
      have h2 : ws[i]? = some (q.1, e) := Option.some.inj h1
      have := hD.1 k i q (q.1, e) hq h2 rfl
      subst this
      exact hni (List.mem_of_getElem? hi)
  · omega
theorem va_sub {D : va_G} {cl : List vw_C} {ws wc : va_W} {H : Heap} (hP : va_P D cl ws H) (is : List Nat) (hC : is.map (fun i => ws[i]?) = wc.map some) : va_P D cl wc H := by
  intro k q hk
  have h1 : (is.map (fun i => ws[i]?))[k]? = some (some q) := by rw [hC, List.getElem?_map, hk]; rfl
  rw [List.getElem?_map] at h1
  cases hi : is[k]? with
  | none => rw [hi] at h1; cases h1
  | some i => rw [hi] at h1; exact hP i q (Option.some.inj h1)
