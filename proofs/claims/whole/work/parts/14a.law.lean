/-! The law, branch by branch -/
def Scr (X : CX) (b L : Nat) (xs : Nat → Int32) : Prop := va_X b L xs (xS X) (xS X).heap ∧ b < (xS X).heap.size ∧ ¬ xA X b
section GL
variable {T : TT} {X : CX} {own : String} {nL : Nat} {Ts : List Cond} {cc : ByteArray} {ret : Option FieldType} {R : Room} {Q : State → Prop} {cells slots : Nat} {ws w1 : va_W} {lv : List (Nat × Value)} {pc : Nat} {st : List Value} {rv : Int32}
theorem g_sld (hX : Fit T X own nL Ts cc ret R) {b L : Nat} {xs : Nat → Int32} (hs : Scr X b L xs) {i : Int32} (hin : vp_in i L) (hdg : decode cc pc = .ok (.iaload, 1)) (k : G T X Q cells slots ws lv (pc + 1) (.int (xs i.toNatClampNeg) :: st)) : G T X Q cells slots ws lv pc (.int i :: .ref b :: st) :=
  fun H locs ls hP hD hS hl => va_sld hX.1 hX.2.1 hs.1 hs.2.1 hs.2.2 hS hin hdg (k H locs ls hP hD hS hl)
theorem g_slen (hX : Fit T X own nL Ts cc ret R) {b L : Nat} {xs : Nat → Int32} (hs : Scr X b L xs) (hdg : decode cc pc = .ok (.arraylength, 1)) (k : G T X Q cells slots ws lv (pc + 1) (.int (nI L) :: st)) : G T X Q cells slots ws lv pc (.ref b :: st) :=
  fun H locs ls hP hD hS hl => va_slen hX.1 hX.2.1 hs.1 hs.2.1 hs.2.2 hS hdg (k H locs ls hP hD hS hl)
/-- a call on the last cells -/
theorem g_sV_I (hX : Fit T X own nL Ts cc ret R) {y : MethodName} {bytes : ByteArray} {maxL n index : Nat} {ret' : Option FieldType} {wds wds' : List Cond} {rm : Room} {As : List Value} {wc rest : va_W} {stk : List Value} {b ci : Nat} {fs : List Value} {U : u_T} {N : Nat} (hrec : (wc ++ rest)[0]? = some (b, .inr (ci, fs))) (hc : vwCl[ci]? = some (y.cls, U, N)) (hM : ConI (xL X) T (xB X) y wds rm (.ref b :: As) wc rv w1) (hG : GoodIn Ts (wsV own index y.cls y wds)) (hw : wds = Cond.code y bytes maxL ret' :: wds') (hrc : rm.cells = 0) (hrs : rm.slots = 0) (hR : rm.frames + 1 ≤ R.frames ∧ 8 + (maxL + 11) + rm.locals ≤ R.locals) (hcs : cells ≤ R.cells ∧ slots ≤ R.slots) (hd : y.cls ≠ "java/lang/invoke/MethodHandle" ∧ y.cls ≠ "java/lang/invoke/VarHandle" ∧ (parseMethodDescriptor y.desc).map (fun d => d.parameters.length) = some n) (hlen : As.length = n) (hA : w1.map (fun q => q.1) = wc.map (fun q => q.1)) (hstk : stk = As.reverse ++ .ref b :: st) (hcat : (st.map fun v => v.category).sum ≤ 8) (hdg : decode cc pc = .ok (.invokevirtual index, 3)) (k : G T X Q cells slots (rest ++ w1) lv (pc + 3) (.int rv :: st)) : G T X Q cells slots (rest ++ wc) lv pc stk := by
  refine g_perm List.perm_append_comm ?_
  exact g_pV_I hX 0 hrec hc hM hG hw hrc hrs hR hcs hd hlen rfl hA hstk hcat hdg rfl (g_perm List.perm_append_comm k)
end GL
theorem wXX_map (T : TT) (ad : Nat → Nat) (X Y : XV) : (wXX T ad X).map (fun q => q.1) = (wXX T ad Y).map (fun q => q.1) := rfl
theorem wMo_map (T : TT) (x al ke tr hi sn te : Nat) (u v : MV) : (wMo T x al ke tr hi sn te u).map (fun q => q.1) = (wMo T x al ke tr hi sn te v).map (fun q => q.1) := rfl
theorem RX_w {xv : XV} {mv : MV} {B O : Nat} (H : RX xv mv B O) : mWF mv.2.1 := H.2.1.1
theorem RX_h {xv : XV} {mv : MV} {B O : Nat} (H : RX xv mv B O) : ∃ m : Nat, m ≤ 4 ∧ mv.1 0 = nI m := by
  obtain ⟨_, _, _, _, ⟨m, e, nx, _, _, _, h, _⟩, _⟩ := H
  exact ⟨m, h, e⟩
theorem RX_t {xv : XV} {mv : MV} {B O : Nat} (H : RX xv mv B O) : ∃ m : Nat, m ≤ 60 ∧ mv.1 2 = nI m := by
  obtain ⟨_, _, _, _, _, n, h, _, e, _⟩ := H
  exact ⟨n, h, e⟩
theorem i2c_ok (z : Int32) : ∃ x : Nat, x < 65536 ∧ (z.toUInt32 % 65536).toInt32 = nI x := ⟨z.toBitVec.toNat % 65536, Nat.mod_lt _ (by omega), pk_char z⟩

set_option maxHeartbeats 4000000 in
set_option maxRecDepth 100000 in
theorem law_0 {T : TT} {X : CX} (hX : Fit T X RL 4 wsL_law cL_law (some .boolean) room_1) {Q : State → Prop} {b L x al ke tr hi sn te : Nat} {ad : Nat → Nat} {xs : Nat → Int32} (hs : Scr X b L xs) (hL : L ≤ 2048) {i : Nat} (hi4 : i + 4 ≤ L) {xv : XV} {mv : MV} {B O : Nat} (hB : B + 60 < 2 ^ 20) (hO : O < 1000) (H : RX xv mv B O) (next : ∀ (xv : XV) (mv : MV), RX xv mv (B + 60) (O + 1) → G T X Q 51 894 (wXX T ad xv ++ wMo T x al ke tr hi sn te mv) [(3, .int (nI i)), (2, .ref x), (1, .ref (ad 0)), (0, .ref b)] 503 []) : G T X Q 51 894 (wXX T ad xv ++ wMo T x al ke tr hi sn te mv) [(3, .int (nI i)), (2, .ref x), (1, .ref (ad 0)), (0, .ref b)] 124 [] := by
  refine g_aload_n hX dL_law_124 rfl 2 rfl ?_
  refine g_aload_n hX dL_law_125 rfl 3 rfl ?_
  refine g_iload_n hX dL_law_126 rfl 0 rfl ?_
  refine g_iconst hX (v := 1) dL_law_127 (by decide) ?_
  refine g_iadd hX dL_law_128 ?_
  refine g_sld hX hs (vinr i 1 L (by omega) (by omega)) dL_law_129 ?_
  refine g_aload_n hX dL_law_130 rfl 3 rfl ?_
  refine g_iload_n hX dL_law_131 rfl 0 rfl ?_
  refine g_iconst hX (v := 2) dL_law_132 (by decide) ?_
  refine g_iadd hX dL_law_133 ?_
  refine g_sld hX hs (vinr i 2 L (by omega) (by omega)) dL_law_134 ?_
  refine g_pV_I hX (As := [.int (xs (nI i + 1).toNatClampNeg), .int (xs (nI i + 2).toNatClampNeg)]) (n := 2) 0 rfl rfl (c_X4_set (xL X) T (xB X) ad xv (xs (nI i + 1).toNatClampNeg) (xs (nI i + 2).toNatClampNeg) H.1) gL_law_X4_set rfl rfl rfl ⟨Nat.le_of_ble_eq_true rfl, Nat.le_of_ble_eq_true rfl⟩ ⟨Nat.le_of_ble_eq_true rfl, Nat.le_of_ble_eq_true rfl⟩ ⟨by decide +kernel, by decide +kernel, by decide +kernel⟩ rfl rfl (wXX_map T ad _ _) rfl (Nat.le_of_ble_eq_true rfl) dL_law_135 rfl ?_
  refine g_aload_n hX dL_law_138 rfl 1 rfl ?_
  refine g_aload_n hX dL_law_139 rfl 3 rfl ?_
  refine g_iload_n hX dL_law_140 rfl 0 rfl ?_
  refine g_iconst hX (v := 1) dL_law_141 (by decide) ?_
  refine g_iadd hX dL_law_142 ?_
  refine g_sld hX hs (vinr i 1 L (by omega) (by omega)) dL_law_143 ?_
  refine g_aload_n hX dL_law_144 rfl 3 rfl ?_
  refine g_iload_n hX dL_law_145 rfl 0 rfl ?_
  refine g_iconst hX (v := 2) dL_law_146 (by decide) ?_
  refine g_iadd hX dL_law_147 ?_
  refine g_sld hX hs (vinr i 2 L (by omega) (by omega)) dL_law_148 ?_
  refine g_sV_I hX (As := [.int (xs (nI i + 1).toNatClampNeg), .int (xs (nI i + 2).toNatClampNeg)]) (n := 2) rfl rfl (c_X5_set (xL X) T (xB X) x al ke tr hi sn te mv (xs (nI i + 1).toNatClampNeg) (xs (nI i + 2).toNatClampNeg) (RX_h H)) gL_law_X5_set rfl rfl rfl ⟨Nat.le_of_ble_eq_true rfl, Nat.le_of_ble_eq_true rfl⟩ ⟨Nat.le_of_ble_eq_true rfl, Nat.le_of_ble_eq_true rfl⟩ ⟨by decide +kernel, by decide +kernel, by decide +kernel⟩ rfl (wMo_map T x al ke tr hi sn te _ _) rfl (Nat.le_of_ble_eq_true rfl) dL_law_149 ?_
  exact g_icmp_eq hX 503 dL_law_152 (by decide) (fun _ => next _ _ (RX_mono (by omega) (by omega) (s_set ((xs (nI i + 1).toNatClampNeg)) ((xs (nI i + 2).toNatClampNeg)) H).2)) (fun z => absurd (s_set ((xs (nI i + 1).toNatClampNeg)) ((xs (nI i + 2).toNatClampNeg)) H).1 z)
set_option maxHeartbeats 4000000 in
set_option maxRecDepth 100000 in
theorem law_1 {T : TT} {X : CX} (hX : Fit T X RL 4 wsL_law cL_law (some .boolean) room_1) {Q : State → Prop} {b L x al ke tr hi sn te : Nat} {ad : Nat → Nat} {xs : Nat → Int32} (hs : Scr X b L xs) (hL : L ≤ 2048) {i : Nat} (hi4 : i + 4 ≤ L) {xv : XV} {mv : MV} {B O : Nat} (hB : B + 60 < 2 ^ 20) (hO : O < 1000) (H : RX xv mv B O) (next : ∀ (xv : XV) (mv : MV), RX xv mv (B + 60) (O + 1) → G T X Q 51 894 (wXX T ad xv ++ wMo T x al ke tr hi sn te mv) [(3, .int (nI i)), (2, .ref x), (1, .ref (ad 0)), (0, .ref b)] 503 []) : G T X Q 51 894 (wXX T ad xv ++ wMo T x al ke tr hi sn te mv) [(3, .int (nI i)), (2, .ref x), (1, .ref (ad 0)), (0, .ref b)] 157 [] := by
  refine g_aload_n hX dL_law_157 rfl 2 rfl ?_
  refine g_aload_n hX dL_law_158 rfl 3 rfl ?_
  refine g_iload_n hX dL_law_159 rfl 0 rfl ?_
  refine g_iconst hX (v := 1) dL_law_160 (by decide) ?_
  refine g_iadd hX dL_law_161 ?_
  refine g_sld hX hs (vinr i 1 L (by omega) (by omega)) dL_law_162 ?_
  refine g_pV_I hX (As := [.int (xs (nI i + 1).toNatClampNeg)]) (n := 1) 0 rfl rfl (c_X4_wind (xL X) T (xB X) ad xv (xs (nI i + 1).toNatClampNeg) H.1) gL_law_X4_wind rfl rfl rfl ⟨Nat.le_of_ble_eq_true rfl, Nat.le_of_ble_eq_true rfl⟩ ⟨Nat.le_of_ble_eq_true rfl, Nat.le_of_ble_eq_true rfl⟩ ⟨by decide +kernel, by decide +kernel, by decide +kernel⟩ rfl rfl (wXX_map T ad _ _) rfl (Nat.le_of_ble_eq_true rfl) dL_law_163 rfl ?_
  refine g_aload_n hX dL_law_166 rfl 1 rfl ?_
  refine g_aload_n hX dL_law_167 rfl 3 rfl ?_
  refine g_iload_n hX dL_law_168 rfl 0 rfl ?_
  refine g_iconst hX (v := 1) dL_law_169 (by decide) ?_
  refine g_iadd hX dL_law_170 ?_
  refine g_sld hX hs (vinr i 1 L (by omega) (by omega)) dL_law_171 ?_
  refine g_sV_I hX (As := [.int (xs (nI i + 1).toNatClampNeg)]) (n := 1) rfl rfl (c_X5_wind (xL X) T (xB X) x al ke tr hi sn te mv (xs (nI i + 1).toNatClampNeg) (RX_h H) (RX_w H)) gL_law_X5_wind rfl rfl rfl ⟨Nat.le_of_ble_eq_true rfl, Nat.le_of_ble_eq_true rfl⟩ ⟨Nat.le_of_ble_eq_true rfl, Nat.le_of_ble_eq_true rfl⟩ ⟨by decide +kernel, by decide +kernel, by decide +kernel⟩ rfl (wMo_map T x al ke tr hi sn te _ _) rfl (Nat.le_of_ble_eq_true rfl) dL_law_172 ?_
  exact g_icmp_eq hX 503 dL_law_175 (by decide) (fun _ => next _ _ (RX_mono (by omega) (by omega) (s_wind ((xs (nI i + 1).toNatClampNeg)) H).2)) (fun z => absurd (s_wind ((xs (nI i + 1).toNatClampNeg)) H).1 z)
set_option maxHeartbeats 4000000 in
set_option maxRecDepth 100000 in
theorem law_2 {T : TT} {X : CX} (hX : Fit T X RL 4 wsL_law cL_law (some .boolean) room_1) {Q : State → Prop} {b L x al ke tr hi sn te : Nat} {ad : Nat → Nat} {xs : Nat → Int32} (hs : Scr X b L xs) (hL : L ≤ 2048) {i : Nat} (hi4 : i + 4 ≤ L) {xv : XV} {mv : MV} {B O : Nat} (hB : B + 60 < 2 ^ 20) (hO : O < 1000) (H : RX xv mv B O) (next : ∀ (xv : XV) (mv : MV), RX xv mv (B + 60) (O + 1) → G T X Q 51 894 (wXX T ad xv ++ wMo T x al ke tr hi sn te mv) [(3, .int (nI i)), (2, .ref x), (1, .ref (ad 0)), (0, .ref b)] 503 []) : G T X Q 51 894 (wXX T ad xv ++ wMo T x al ke tr hi sn te mv) [(3, .int (nI i)), (2, .ref x), (1, .ref (ad 0)), (0, .ref b)] 180 [] := by
  refine g_aload_n hX dL_law_180 rfl 2 rfl ?_
  refine g_pV_I hX (As := []) (n := 0) 0 rfl rfl (c_X4_knot (xL X) T (xB X) ad xv  H.1) gL_law_X4_knot rfl rfl rfl ⟨Nat.le_of_ble_eq_true rfl, Nat.le_of_ble_eq_true rfl⟩ ⟨Nat.le_of_ble_eq_true rfl, Nat.le_of_ble_eq_true rfl⟩ ⟨by decide +kernel, by decide +kernel, by decide +kernel⟩ rfl rfl (wXX_map T ad _ _) rfl (Nat.le_of_ble_eq_true rfl) dL_law_181 rfl ?_
  refine g_aload_n hX dL_law_184 rfl 1 rfl ?_
  refine g_sV_I hX (As := []) (n := 0) rfl rfl (c_X5_knot (xL X) T (xB X) x al ke tr hi sn te mv  (RX_h H) (RX_w H)) gL_law_X5_knot rfl rfl rfl ⟨Nat.le_of_ble_eq_true rfl, Nat.le_of_ble_eq_true rfl⟩ ⟨Nat.le_of_ble_eq_true rfl, Nat.le_of_ble_eq_true rfl⟩ ⟨by decide +kernel, by decide +kernel, by decide +kernel⟩ rfl (wMo_map T x al ke tr hi sn te _ _) rfl (Nat.le_of_ble_eq_true rfl) dL_law_185 ?_
  exact g_icmp_eq hX 503 dL_law_188 (by decide) (fun _ => next _ _ (RX_mono (by omega) (by omega) (s_knot (by omega) H).2)) (fun z => absurd (s_knot (by omega) H).1 z)
set_option maxHeartbeats 4000000 in
set_option maxRecDepth 100000 in
theorem law_3 {T : TT} {X : CX} (hX : Fit T X RL 4 wsL_law cL_law (some .boolean) room_1) {Q : State → Prop} {b L x al ke tr hi sn te : Nat} {ad : Nat → Nat} {xs : Nat → Int32} (hs : Scr X b L xs) (hL : L ≤ 2048) {i : Nat} (hi4 : i + 4 ≤ L) {xv : XV} {mv : MV} {B O : Nat} (hB : B + 60 < 2 ^ 20) (hO : O < 1000) (H : RX xv mv B O) (next : ∀ (xv : XV) (mv : MV), RX xv mv (B + 60) (O + 1) → G T X Q 51 894 (wXX T ad xv ++ wMo T x al ke tr hi sn te mv) [(3, .int (nI i)), (2, .ref x), (1, .ref (ad 0)), (0, .ref b)] 503 []) : G T X Q 51 894 (wXX T ad xv ++ wMo T x al ke tr hi sn te mv) [(3, .int (nI i)), (2, .ref x), (1, .ref (ad 0)), (0, .ref b)] 193 [] := by
  refine g_aload_n hX dL_law_193 rfl 2 rfl ?_
  refine g_aload_n hX dL_law_194 rfl 3 rfl ?_
  refine g_iload_n hX dL_law_195 rfl 0 rfl ?_
  refine g_iconst hX (v := 1) dL_law_196 (by decide) ?_
  refine g_iadd hX dL_law_197 ?_
  refine g_sld hX hs (vinr i 1 L (by omega) (by omega)) dL_law_198 ?_
  refine g_pV_I hX (As := [.int (xs (nI i + 1).toNatClampNeg)]) (n := 1) 0 rfl rfl (c_X4_cone (xL X) T (xB X) ad xv (xs (nI i + 1).toNatClampNeg) H.1) gL_law_X4_cone rfl rfl rfl ⟨Nat.le_of_ble_eq_true rfl, Nat.le_of_ble_eq_true rfl⟩ ⟨Nat.le_of_ble_eq_true rfl, Nat.le_of_ble_eq_true rfl⟩ ⟨by decide +kernel, by decide +kernel, by decide +kernel⟩ rfl rfl (wXX_map T ad _ _) rfl (Nat.le_of_ble_eq_true rfl) dL_law_199 rfl ?_
  refine g_aload_n hX dL_law_202 rfl 1 rfl ?_
  refine g_aload_n hX dL_law_203 rfl 3 rfl ?_
  refine g_iload_n hX dL_law_204 rfl 0 rfl ?_
  refine g_iconst hX (v := 1) dL_law_205 (by decide) ?_
  refine g_iadd hX dL_law_206 ?_
  refine g_sld hX hs (vinr i 1 L (by omega) (by omega)) dL_law_207 ?_
  refine g_sV_I hX (As := [.int (xs (nI i + 1).toNatClampNeg)]) (n := 1) rfl rfl (c_X5_cone (xL X) T (xB X) x al ke tr hi sn te mv (xs (nI i + 1).toNatClampNeg) (RX_h H)) gL_law_X5_cone rfl rfl rfl ⟨Nat.le_of_ble_eq_true rfl, Nat.le_of_ble_eq_true rfl⟩ ⟨Nat.le_of_ble_eq_true rfl, Nat.le_of_ble_eq_true rfl⟩ ⟨by decide +kernel, by decide +kernel, by decide +kernel⟩ rfl (wMo_map T x al ke tr hi sn te _ _) rfl (Nat.le_of_ble_eq_true rfl) dL_law_208 ?_
  exact g_icmp_eq hX 503 dL_law_211 (by decide) (fun _ => next _ _ (RX_mono (by omega) (by omega) (s_cone ((xs (nI i + 1).toNatClampNeg)) H).2)) (fun z => absurd (s_cone ((xs (nI i + 1).toNatClampNeg)) H).1 z)
set_option maxHeartbeats 4000000 in
set_option maxRecDepth 100000 in
theorem law_4 {T : TT} {X : CX} (hX : Fit T X RL 4 wsL_law cL_law (some .boolean) room_1) {Q : State → Prop} {b L x al ke tr hi sn te : Nat} {ad : Nat → Nat} {xs : Nat → Int32} (hs : Scr X b L xs) (hL : L ≤ 2048) {i : Nat} (hi4 : i + 4 ≤ L) {xv : XV} {mv : MV} {B O : Nat} (hB : B + 60 < 2 ^ 20) (hO : O < 1000) (H : RX xv mv B O) (next : ∀ (xv : XV) (mv : MV), RX xv mv (B + 60) (O + 1) → G T X Q 51 894 (wXX T ad xv ++ wMo T x al ke tr hi sn te mv) [(3, .int (nI i)), (2, .ref x), (1, .ref (ad 0)), (0, .ref b)] 503 []) : G T X Q 51 894 (wXX T ad xv ++ wMo T x al ke tr hi sn te mv) [(3, .int (nI i)), (2, .ref x), (1, .ref (ad 0)), (0, .ref b)] 216 [] := by
  refine g_aload_n hX dL_law_216 rfl 2 rfl ?_
  refine g_pV_I hX (As := []) (n := 0) 0 rfl rfl (c_X4_doff (xL X) T (xB X) ad xv  H.1) gL_law_X4_doff rfl rfl rfl ⟨Nat.le_of_ble_eq_true rfl, Nat.le_of_ble_eq_true rfl⟩ ⟨Nat.le_of_ble_eq_true rfl, Nat.le_of_ble_eq_true rfl⟩ ⟨by decide +kernel, by decide +kernel, by decide +kernel⟩ rfl rfl (wXX_map T ad _ _) rfl (Nat.le_of_ble_eq_true rfl) dL_law_217 rfl ?_
  refine g_aload_n hX dL_law_220 rfl 1 rfl ?_
  refine g_sV_I hX (As := []) (n := 0) rfl rfl (c_X5_doff (xL X) T (xB X) x al ke tr hi sn te mv  (RX_h H)) gL_law_X5_doff rfl rfl rfl ⟨Nat.le_of_ble_eq_true rfl, Nat.le_of_ble_eq_true rfl⟩ ⟨Nat.le_of_ble_eq_true rfl, Nat.le_of_ble_eq_true rfl⟩ ⟨by decide +kernel, by decide +kernel, by decide +kernel⟩ rfl (wMo_map T x al ke tr hi sn te _ _) rfl (Nat.le_of_ble_eq_true rfl) dL_law_221 ?_
  exact g_icmp_eq hX 503 dL_law_224 (by decide) (fun _ => next _ _ (RX_mono (by omega) (by omega) (s_doff H).2)) (fun z => absurd (s_doff H).1 z)
set_option maxHeartbeats 4000000 in
set_option maxRecDepth 100000 in
theorem law_5 {T : TT} {X : CX} (hX : Fit T X RL 4 wsL_law cL_law (some .boolean) room_1) {Q : State → Prop} {b L x al ke tr hi sn te : Nat} {ad : Nat → Nat} {xs : Nat → Int32} (hs : Scr X b L xs) (hL : L ≤ 2048) {i : Nat} (hi4 : i + 4 ≤ L) {xv : XV} {mv : MV} {B O : Nat} (hB : B + 60 < 2 ^ 20) (hO : O < 1000) (H : RX xv mv B O) (next : ∀ (xv : XV) (mv : MV), RX xv mv (B + 60) (O + 1) → G T X Q 51 894 (wXX T ad xv ++ wMo T x al ke tr hi sn te mv) [(3, .int (nI i)), (2, .ref x), (1, .ref (ad 0)), (0, .ref b)] 503 []) : G T X Q 51 894 (wXX T ad xv ++ wMo T x al ke tr hi sn te mv) [(3, .int (nI i)), (2, .ref x), (1, .ref (ad 0)), (0, .ref b)] 229 [] := by
  refine g_aload_n hX dL_law_229 rfl 2 rfl ?_
  refine g_aload_n hX dL_law_230 rfl 3 rfl ?_
  refine g_iload_n hX dL_law_231 rfl 0 rfl ?_
  refine g_iconst hX (v := 1) dL_law_232 (by decide) ?_
  refine g_iadd hX dL_law_233 ?_
  refine g_sld hX hs (vinr i 1 L (by omega) (by omega)) dL_law_234 ?_
  refine g_i2c hX dL_law_235 rfl ?_
  refine g_pV_I hX (As := [.int ((xs (nI i + 1).toNatClampNeg).toUInt32 % 65536).toInt32]) (n := 1) 0 rfl rfl (c_X4_type (xL X) T (xB X) ad xv (((xs (nI i + 1).toNatClampNeg).toUInt32 % 65536).toInt32) ) gL_law_X4_type rfl rfl rfl ⟨Nat.le_of_ble_eq_true rfl, Nat.le_of_ble_eq_true rfl⟩ ⟨Nat.le_of_ble_eq_true rfl, Nat.le_of_ble_eq_true rfl⟩ ⟨by decide +kernel, by decide +kernel, by decide +kernel⟩ rfl rfl (wXX_map T ad _ _) rfl (Nat.le_of_ble_eq_true rfl) dL_law_236 rfl ?_
  refine g_aload_n hX dL_law_239 rfl 1 rfl ?_
  refine g_aload_n hX dL_law_240 rfl 3 rfl ?_
  refine g_iload_n hX dL_law_241 rfl 0 rfl ?_
  refine g_iconst hX (v := 1) dL_law_242 (by decide) ?_
  refine g_iadd hX dL_law_243 ?_
  refine g_sld hX hs (vinr i 1 L (by omega) (by omega)) dL_law_244 ?_
  refine g_i2c hX dL_law_245 rfl ?_
  refine g_sV_I hX (As := [.int ((xs (nI i + 1).toNatClampNeg).toUInt32 % 65536).toInt32]) (n := 1) rfl rfl (c_X5_type (xL X) T (xB X) x al ke tr hi sn te mv (((xs (nI i + 1).toNatClampNeg).toUInt32 % 65536).toInt32) (RX_t H)) gL_law_X5_type rfl rfl rfl ⟨Nat.le_of_ble_eq_true rfl, Nat.le_of_ble_eq_true rfl⟩ ⟨Nat.le_of_ble_eq_true rfl, Nat.le_of_ble_eq_true rfl⟩ ⟨by decide +kernel, by decide +kernel, by decide +kernel⟩ rfl (wMo_map T x al ke tr hi sn te _ _) rfl (Nat.le_of_ble_eq_true rfl) dL_law_246 ?_
  exact g_icmp_eq hX 503 dL_law_249 (by decide) (fun _ => next _ _ (RX_mono (by omega) (by omega) (s_type (i2c_ok _) H).2)) (fun z => absurd (s_type (i2c_ok _) H).1 z)
set_option maxHeartbeats 4000000 in
set_option maxRecDepth 100000 in
theorem law_6 {T : TT} {X : CX} (hX : Fit T X RL 4 wsL_law cL_law (some .boolean) room_1) {Q : State → Prop} {b L x al ke tr hi sn te : Nat} {ad : Nat → Nat} {xs : Nat → Int32} (hs : Scr X b L xs) (hL : L ≤ 2048) {i : Nat} (hi4 : i + 4 ≤ L) {xv : XV} {mv : MV} {B O : Nat} (hB : B + 60 < 2 ^ 20) (hO : O < 1000) (H : RX xv mv B O) (next : ∀ (xv : XV) (mv : MV), RX xv mv (B + 60) (O + 1) → G T X Q 51 894 (wXX T ad xv ++ wMo T x al ke tr hi sn te mv) [(3, .int (nI i)), (2, .ref x), (1, .ref (ad 0)), (0, .ref b)] 503 []) : G T X Q 51 894 (wXX T ad xv ++ wMo T x al ke tr hi sn te mv) [(3, .int (nI i)), (2, .ref x), (1, .ref (ad 0)), (0, .ref b)] 254 [] := by
  refine g_aload_n hX dL_law_254 rfl 2 rfl ?_
  refine g_pV_I hX (As := []) (n := 0) 0 rfl rfl (c_X4_clearText (xL X) T (xB X) ad xv  ) gL_law_X4_clearText rfl rfl rfl ⟨Nat.le_of_ble_eq_true rfl, Nat.le_of_ble_eq_true rfl⟩ ⟨Nat.le_of_ble_eq_true rfl, Nat.le_of_ble_eq_true rfl⟩ ⟨by decide +kernel, by decide +kernel, by decide +kernel⟩ rfl rfl (wXX_map T ad _ _) rfl (Nat.le_of_ble_eq_true rfl) dL_law_255 rfl ?_
  refine g_aload_n hX dL_law_258 rfl 1 rfl ?_
  refine g_sV_I hX (As := []) (n := 0) rfl rfl (c_X5_clearText (xL X) T (xB X) x al ke tr hi sn te mv  ) gL_law_X5_clearText rfl rfl rfl ⟨Nat.le_of_ble_eq_true rfl, Nat.le_of_ble_eq_true rfl⟩ ⟨Nat.le_of_ble_eq_true rfl, Nat.le_of_ble_eq_true rfl⟩ ⟨by decide +kernel, by decide +kernel, by decide +kernel⟩ rfl (wMo_map T x al ke tr hi sn te _ _) rfl (Nat.le_of_ble_eq_true rfl) dL_law_259 ?_
  exact g_icmp_eq hX 503 dL_law_262 (by decide) (fun _ => next _ _ (RX_mono (by omega) (by omega) (s_clear H).2)) (fun z => absurd (s_clear H).1 z)
set_option maxHeartbeats 4000000 in
set_option maxRecDepth 100000 in
theorem law_7 {T : TT} {X : CX} (hX : Fit T X RL 4 wsL_law cL_law (some .boolean) room_1) {Q : State → Prop} {b L x al ke tr hi sn te : Nat} {ad : Nat → Nat} {xs : Nat → Int32} (hs : Scr X b L xs) (hL : L ≤ 2048) {i : Nat} (hi4 : i + 4 ≤ L) {xv : XV} {mv : MV} {B O : Nat} (hB : B + 60 < 2 ^ 20) (hO : O < 1000) (H : RX xv mv B O) (next : ∀ (xv : XV) (mv : MV), RX xv mv (B + 60) (O + 1) → G T X Q 51 894 (wXX T ad xv ++ wMo T x al ke tr hi sn te mv) [(3, .int (nI i)), (2, .ref x), (1, .ref (ad 0)), (0, .ref b)] 503 []) : G T X Q 51 894 (wXX T ad xv ++ wMo T x al ke tr hi sn te mv) [(3, .int (nI i)), (2, .ref x), (1, .ref (ad 0)), (0, .ref b)] 267 [] := by
  refine g_aload_n hX dL_law_267 rfl 2 rfl ?_
  refine g_pV_I hX (As := []) (n := 0) 0 rfl rfl (c_X4_perform (xL X) T (xB X) ad xv  H.1) gL_law_X4_perform rfl rfl rfl ⟨Nat.le_of_ble_eq_true rfl, Nat.le_of_ble_eq_true rfl⟩ ⟨Nat.le_of_ble_eq_true rfl, Nat.le_of_ble_eq_true rfl⟩ ⟨by decide +kernel, by decide +kernel, by decide +kernel⟩ rfl rfl (wXX_map T ad _ _) rfl (Nat.le_of_ble_eq_true rfl) dL_law_268 rfl ?_
  refine g_aload_n hX dL_law_271 rfl 1 rfl ?_
  refine g_sV_I hX (As := []) (n := 0) rfl rfl (c_X5_perform (xL X) T (xB X) x al ke tr hi sn te mv  (RX_w H) (RX_t H) (RX_h H)) gL_law_X5_perform rfl rfl rfl ⟨Nat.le_of_ble_eq_true rfl, Nat.le_of_ble_eq_true rfl⟩ ⟨Nat.le_of_ble_eq_true rfl, Nat.le_of_ble_eq_true rfl⟩ ⟨by decide +kernel, by decide +kernel, by decide +kernel⟩ rfl (wMo_map T x al ke tr hi sn te _ _) rfl (Nat.le_of_ble_eq_true rfl) dL_law_272 ?_
  exact g_icmp_eq hX 503 dL_law_275 (by decide) (fun _ => next _ _ (RX_mono (by omega) (by omega) (s_perform hB H).2)) (fun z => absurd (s_perform hB H).1 z)
set_option maxHeartbeats 4000000 in
set_option maxRecDepth 100000 in
theorem law_8 {T : TT} {X : CX} (hX : Fit T X RL 4 wsL_law cL_law (some .boolean) room_1) {Q : State → Prop} {b L x al ke tr hi sn te : Nat} {ad : Nat → Nat} {xs : Nat → Int32} (hs : Scr X b L xs) (hL : L ≤ 2048) {i : Nat} (hi4 : i + 4 ≤ L) {xv : XV} {mv : MV} {B O : Nat} (hB : B + 60 < 2 ^ 20) (hO : O < 1000) (H : RX xv mv B O) (next : ∀ (xv : XV) (mv : MV), RX xv mv (B + 60) (O + 1) → G T X Q 51 894 (wXX T ad xv ++ wMo T x al ke tr hi sn te mv) [(3, .int (nI i)), (2, .ref x), (1, .ref (ad 0)), (0, .ref b)] 503 []) : G T X Q 51 894 (wXX T ad xv ++ wMo T x al ke tr hi sn te mv) [(3, .int (nI i)), (2, .ref x), (1, .ref (ad 0)), (0, .ref b)] 280 [] := by
  refine g_aload_n hX dL_law_280 rfl 2 rfl ?_
  refine g_pV_I hX (As := []) (n := 0) 0 rfl rfl (c_X4_stopped (xL X) T (xB X) ad xv  ) gL_law_X4_stopped rfl rfl rfl ⟨Nat.le_of_ble_eq_true rfl, Nat.le_of_ble_eq_true rfl⟩ ⟨Nat.le_of_ble_eq_true rfl, Nat.le_of_ble_eq_true rfl⟩ ⟨by decide +kernel, by decide +kernel, by decide +kernel⟩ rfl rfl (wXX_map T ad _ _) rfl (Nat.le_of_ble_eq_true rfl) dL_law_281 rfl ?_
  refine g_aload_n hX dL_law_284 rfl 1 rfl ?_
  refine g_sV_I hX (As := []) (n := 0) rfl rfl (c_X5_stopped (xL X) T (xB X) x al ke tr hi sn te mv  ) gL_law_X5_stopped rfl rfl rfl ⟨Nat.le_of_ble_eq_true rfl, Nat.le_of_ble_eq_true rfl⟩ ⟨Nat.le_of_ble_eq_true rfl, Nat.le_of_ble_eq_true rfl⟩ ⟨by decide +kernel, by decide +kernel, by decide +kernel⟩ rfl (wMo_map T x al ke tr hi sn te _ _) rfl (Nat.le_of_ble_eq_true rfl) dL_law_285 ?_
  exact g_icmp_eq hX 503 dL_law_288 (by decide) (fun _ => next _ _ (RX_mono (by omega) (by omega) H)) (fun z => absurd (s_stopped H) z)
set_option maxHeartbeats 4000000 in
set_option maxRecDepth 100000 in
theorem law_9 {T : TT} {X : CX} (hX : Fit T X RL 4 wsL_law cL_law (some .boolean) room_1) {Q : State → Prop} {b L x al ke tr hi sn te : Nat} {ad : Nat → Nat} {xs : Nat → Int32} (hs : Scr X b L xs) (hL : L ≤ 2048) {i : Nat} (hi4 : i + 4 ≤ L) {xv : XV} {mv : MV} {B O : Nat} (hB : B + 60 < 2 ^ 20) (hO : O < 1000) (H : RX xv mv B O) (next : ∀ (xv : XV) (mv : MV), RX xv mv (B + 60) (O + 1) → G T X Q 51 894 (wXX T ad xv ++ wMo T x al ke tr hi sn te mv) [(3, .int (nI i)), (2, .ref x), (1, .ref (ad 0)), (0, .ref b)] 503 []) : G T X Q 51 894 (wXX T ad xv ++ wMo T x al ke tr hi sn te mv) [(3, .int (nI i)), (2, .ref x), (1, .ref (ad 0)), (0, .ref b)] 293 [] := by
  refine g_aload_n hX dL_law_293 rfl 2 rfl ?_
  refine g_pV_I hX (As := []) (n := 0) 0 rfl rfl (c_X4_undo (xL X) T (xB X) ad xv  H.1) gL_law_X4_undo rfl rfl rfl ⟨Nat.le_of_ble_eq_true rfl, Nat.le_of_ble_eq_true rfl⟩ ⟨Nat.le_of_ble_eq_true rfl, Nat.le_of_ble_eq_true rfl⟩ ⟨by decide +kernel, by decide +kernel, by decide +kernel⟩ rfl rfl (wXX_map T ad _ _) rfl (Nat.le_of_ble_eq_true rfl) dL_law_294 rfl ?_
  refine g_aload_n hX dL_law_297 rfl 1 rfl ?_
  refine g_sV_I hX (As := []) (n := 0) rfl rfl (c_X5_undo (xL X) T (xB X) x al ke tr hi sn te mv  (RX_h H)) gL_law_X5_undo rfl rfl rfl ⟨Nat.le_of_ble_eq_true rfl, Nat.le_of_ble_eq_true rfl⟩ ⟨Nat.le_of_ble_eq_true rfl, Nat.le_of_ble_eq_true rfl⟩ ⟨by decide +kernel, by decide +kernel, by decide +kernel⟩ rfl (wMo_map T x al ke tr hi sn te _ _) rfl (Nat.le_of_ble_eq_true rfl) dL_law_298 ?_
  exact g_icmp_eq hX 503 dL_law_301 (by decide) (fun _ => next _ _ (RX_mono (by omega) (by omega) (s_undo H).2)) (fun z => absurd (s_undo H).1 z)
set_option maxHeartbeats 4000000 in
set_option maxRecDepth 100000 in
theorem law_10 {T : TT} {X : CX} (hX : Fit T X RL 4 wsL_law cL_law (some .boolean) room_1) {Q : State → Prop} {b L x al ke tr hi sn te : Nat} {ad : Nat → Nat} {xs : Nat → Int32} (hs : Scr X b L xs) (hL : L ≤ 2048) {i : Nat} (hi4 : i + 4 ≤ L) {xv : XV} {mv : MV} {B O : Nat} (hB : B + 60 < 2 ^ 20) (hO : O < 1000) (H : RX xv mv B O) (next : ∀ (xv : XV) (mv : MV), RX xv mv (B + 60) (O + 1) → G T X Q 51 894 (wXX T ad xv ++ wMo T x al ke tr hi sn te mv) [(3, .int (nI i)), (2, .ref x), (1, .ref (ad 0)), (0, .ref b)] 503 []) : G T X Q 51 894 (wXX T ad xv ++ wMo T x al ke tr hi sn te mv) [(3, .int (nI i)), (2, .ref x), (1, .ref (ad 0)), (0, .ref b)] 306 [] := by
  refine g_aload_n hX dL_law_306 rfl 2 rfl ?_
  refine g_pV_I hX (As := []) (n := 0) 0 rfl rfl (c_X4_keep (xL X) T (xB X) ad xv  H.1) gL_law_X4_keep rfl rfl rfl ⟨Nat.le_of_ble_eq_true rfl, Nat.le_of_ble_eq_true rfl⟩ ⟨Nat.le_of_ble_eq_true rfl, Nat.le_of_ble_eq_true rfl⟩ ⟨by decide +kernel, by decide +kernel, by decide +kernel⟩ rfl rfl (wXX_map T ad _ _) rfl (Nat.le_of_ble_eq_true rfl) dL_law_307 rfl ?_
  refine g_aload_n hX dL_law_310 rfl 1 rfl ?_
  refine g_sV_I hX (As := []) (n := 0) rfl rfl (c_X5_keep (xL X) T (xB X) x al ke tr hi sn te mv  ) gL_law_X5_keep rfl rfl rfl ⟨Nat.le_of_ble_eq_true rfl, Nat.le_of_ble_eq_true rfl⟩ ⟨Nat.le_of_ble_eq_true rfl, Nat.le_of_ble_eq_true rfl⟩ ⟨by decide +kernel, by decide +kernel, by decide +kernel⟩ rfl (wMo_map T x al ke tr hi sn te _ _) rfl (Nat.le_of_ble_eq_true rfl) dL_law_311 ?_
  exact g_icmp_eq hX 503 dL_law_314 (by decide) (fun _ => next _ _ (RX_mono (by omega) (by omega) (s_keep H).2)) (fun z => absurd (s_keep H).1 z)
set_option maxHeartbeats 4000000 in
set_option maxRecDepth 100000 in
theorem law_11 {T : TT} {X : CX} (hX : Fit T X RL 4 wsL_law cL_law (some .boolean) room_1) {Q : State → Prop} {b L x al ke tr hi sn te : Nat} {ad : Nat → Nat} {xs : Nat → Int32} (hs : Scr X b L xs) (hL : L ≤ 2048) {i : Nat} (hi4 : i + 4 ≤ L) {xv : XV} {mv : MV} {B O : Nat} (hB : B + 60 < 2 ^ 20) (hO : O < 1000) (H : RX xv mv B O) (next : ∀ (xv : XV) (mv : MV), RX xv mv (B + 60) (O + 1) → G T X Q 51 894 (wXX T ad xv ++ wMo T x al ke tr hi sn te mv) [(3, .int (nI i)), (2, .ref x), (1, .ref (ad 0)), (0, .ref b)] 503 []) : G T X Q 51 894 (wXX T ad xv ++ wMo T x al ke tr hi sn te mv) [(3, .int (nI i)), (2, .ref x), (1, .ref (ad 0)), (0, .ref b)] 319 [] := by
  refine g_aload_n hX dL_law_319 rfl 2 rfl ?_
  refine g_pV_I hX (As := []) (n := 0) 0 rfl rfl (c_X4_restore (xL X) T (xB X) ad xv  H.1) gL_law_X4_restore rfl rfl rfl ⟨Nat.le_of_ble_eq_true rfl, Nat.le_of_ble_eq_true rfl⟩ ⟨Nat.le_of_ble_eq_true rfl, Nat.le_of_ble_eq_true rfl⟩ ⟨by decide +kernel, by decide +kernel, by decide +kernel⟩ rfl rfl (wXX_map T ad _ _) rfl (Nat.le_of_ble_eq_true rfl) dL_law_320 rfl ?_
  refine g_aload_n hX dL_law_323 rfl 1 rfl ?_
  refine g_sV_I hX (As := []) (n := 0) rfl rfl (c_X5_restore (xL X) T (xB X) x al ke tr hi sn te mv  (RX_h H)) gL_law_X5_restore rfl rfl rfl ⟨Nat.le_of_ble_eq_true rfl, Nat.le_of_ble_eq_true rfl⟩ ⟨Nat.le_of_ble_eq_true rfl, Nat.le_of_ble_eq_true rfl⟩ ⟨by decide +kernel, by decide +kernel, by decide +kernel⟩ rfl (wMo_map T x al ke tr hi sn te _ _) rfl (Nat.le_of_ble_eq_true rfl) dL_law_324 ?_
  exact g_icmp_eq hX 503 dL_law_327 (by decide) (fun _ => next _ _ (RX_mono (by omega) (by omega) (s_restore H).2)) (fun z => absurd (s_restore H).1 z)
set_option maxHeartbeats 4000000 in
set_option maxRecDepth 100000 in
theorem law_12 {T : TT} {X : CX} (hX : Fit T X RL 4 wsL_law cL_law (some .boolean) room_1) {Q : State → Prop} {b L x al ke tr hi sn te : Nat} {ad : Nat → Nat} {xs : Nat → Int32} (hs : Scr X b L xs) (hL : L ≤ 2048) {i : Nat} (hi4 : i + 4 ≤ L) {xv : XV} {mv : MV} {B O : Nat} (hB : B + 60 < 2 ^ 20) (hO : O < 1000) (H : RX xv mv B O) (next : ∀ (xv : XV) (mv : MV), RX xv mv (B + 60) (O + 1) → G T X Q 51 894 (wXX T ad xv ++ wMo T x al ke tr hi sn te mv) [(3, .int (nI i)), (2, .ref x), (1, .ref (ad 0)), (0, .ref b)] 503 []) : G T X Q 51 894 (wXX T ad xv ++ wMo T x al ke tr hi sn te mv) [(3, .int (nI i)), (2, .ref x), (1, .ref (ad 0)), (0, .ref b)] 332 [] := by
  refine g_aload_n hX dL_law_332 rfl 2 rfl ?_
  refine g_aload_n hX dL_law_333 rfl 3 rfl ?_
  refine g_iload_n hX dL_law_334 rfl 0 rfl ?_
  refine g_iconst hX (v := 1) dL_law_335 (by decide) ?_
  refine g_iadd hX dL_law_336 ?_
  refine g_sld hX hs (vinr i 1 L (by omega) (by omega)) dL_law_337 ?_
  refine g_aload_n hX dL_law_338 rfl 3 rfl ?_
  refine g_iload_n hX dL_law_339 rfl 0 rfl ?_
  refine g_iconst hX (v := 2) dL_law_340 (by decide) ?_
  refine g_iadd hX dL_law_341 ?_
  refine g_sld hX hs (vinr i 2 L (by omega) (by omega)) dL_law_342 ?_
  refine g_pV_I hX (As := [.int (xs (nI i + 1).toNatClampNeg), .int (xs (nI i + 2).toNatClampNeg)]) (n := 2) 0 rfl rfl (c_X4_place (xL X) T (xB X) ad xv (xs (nI i + 1).toNatClampNeg) (xs (nI i + 2).toNatClampNeg) ) gL_law_X4_place rfl rfl rfl ⟨Nat.le_of_ble_eq_true rfl, Nat.le_of_ble_eq_true rfl⟩ ⟨Nat.le_of_ble_eq_true rfl, Nat.le_of_ble_eq_true rfl⟩ ⟨by decide +kernel, by decide +kernel, by decide +kernel⟩ rfl rfl (wXX_map T ad _ _) rfl (Nat.le_of_ble_eq_true rfl) dL_law_343 rfl ?_
  refine g_aload_n hX dL_law_346 rfl 1 rfl ?_
  refine g_aload_n hX dL_law_347 rfl 3 rfl ?_
  refine g_iload_n hX dL_law_348 rfl 0 rfl ?_
  refine g_iconst hX (v := 1) dL_law_349 (by decide) ?_
  refine g_iadd hX dL_law_350 ?_
  refine g_sld hX hs (vinr i 1 L (by omega) (by omega)) dL_law_351 ?_
  refine g_aload_n hX dL_law_352 rfl 3 rfl ?_
  refine g_iload_n hX dL_law_353 rfl 0 rfl ?_
  refine g_iconst hX (v := 2) dL_law_354 (by decide) ?_
  refine g_iadd hX dL_law_355 ?_
  refine g_sld hX hs (vinr i 2 L (by omega) (by omega)) dL_law_356 ?_
  refine g_sV_I hX (As := [.int (xs (nI i + 1).toNatClampNeg), .int (xs (nI i + 2).toNatClampNeg)]) (n := 2) rfl rfl (c_X5_place_ (xL X) T (xB X) x al ke tr hi sn te mv (xs (nI i + 1).toNatClampNeg) (xs (nI i + 2).toNatClampNeg) ) gL_law_X5_place_ rfl rfl rfl ⟨Nat.le_of_ble_eq_true rfl, Nat.le_of_ble_eq_true rfl⟩ ⟨Nat.le_of_ble_eq_true rfl, Nat.le_of_ble_eq_true rfl⟩ ⟨by decide +kernel, by decide +kernel, by decide +kernel⟩ rfl (wMo_map T x al ke tr hi sn te _ _) rfl (Nat.le_of_ble_eq_true rfl) dL_law_357 ?_
  exact g_icmp_eq hX 503 dL_law_360 (by decide) (fun _ => next _ _ (RX_mono (by omega) (by omega) H)) (fun z => absurd (s_place ((xs (nI i + 1).toNatClampNeg)) ((xs (nI i + 2).toNatClampNeg)) H) z)
set_option maxHeartbeats 4000000 in
set_option maxRecDepth 100000 in
theorem law_13 {T : TT} {X : CX} (hX : Fit T X RL 4 wsL_law cL_law (some .boolean) room_1) {Q : State → Prop} {b L x al ke tr hi sn te : Nat} {ad : Nat → Nat} {xs : Nat → Int32} (hs : Scr X b L xs) (hL : L ≤ 2048) {i : Nat} (hi4 : i + 4 ≤ L) {xv : XV} {mv : MV} {B O : Nat} (hB : B + 60 < 2 ^ 20) (hO : O < 1000) (H : RX xv mv B O) (next : ∀ (xv : XV) (mv : MV), RX xv mv (B + 60) (O + 1) → G T X Q 51 894 (wXX T ad xv ++ wMo T x al ke tr hi sn te mv) [(3, .int (nI i)), (2, .ref x), (1, .ref (ad 0)), (0, .ref b)] 503 []) : G T X Q 51 894 (wXX T ad xv ++ wMo T x al ke tr hi sn te mv) [(3, .int (nI i)), (2, .ref x), (1, .ref (ad 0)), (0, .ref b)] 365 [] := by
  refine g_aload_n hX dL_law_365 rfl 2 rfl ?_
  refine g_pV_I hX (As := []) (n := 0) 0 rfl rfl (c_X4_wrong (xL X) T (xB X) ad xv  ) gL_law_X4_wrong rfl rfl rfl ⟨Nat.le_of_ble_eq_true rfl, Nat.le_of_ble_eq_true rfl⟩ ⟨Nat.le_of_ble_eq_true rfl, Nat.le_of_ble_eq_true rfl⟩ ⟨by decide +kernel, by decide +kernel, by decide +kernel⟩ rfl rfl (wXX_map T ad _ _) rfl (Nat.le_of_ble_eq_true rfl) dL_law_366 rfl ?_
  refine g_aload_n hX dL_law_369 rfl 1 rfl ?_
  refine g_sV_I hX (As := []) (n := 0) rfl rfl (c_X5_wrong (xL X) T (xB X) x al ke tr hi sn te mv  ) gL_law_X5_wrong rfl rfl rfl ⟨Nat.le_of_ble_eq_true rfl, Nat.le_of_ble_eq_true rfl⟩ ⟨Nat.le_of_ble_eq_true rfl, Nat.le_of_ble_eq_true rfl⟩ ⟨by decide +kernel, by decide +kernel, by decide +kernel⟩ rfl (wMo_map T x al ke tr hi sn te _ _) rfl (Nat.le_of_ble_eq_true rfl) dL_law_370 ?_
  exact g_icmp_eq hX 503 dL_law_373 (by decide) (fun _ => next _ _ (RX_mono (by omega) (by omega) H)) (fun z => absurd (s_wrong H) z)
set_option maxHeartbeats 4000000 in
set_option maxRecDepth 100000 in
theorem law_14 {T : TT} {X : CX} (hX : Fit T X RL 4 wsL_law cL_law (some .boolean) room_1) {Q : State → Prop} {b L x al ke tr hi sn te : Nat} {ad : Nat → Nat} {xs : Nat → Int32} (hs : Scr X b L xs) (hL : L ≤ 2048) {i : Nat} (hi4 : i + 4 ≤ L) {xv : XV} {mv : MV} {B O : Nat} (hB : B + 60 < 2 ^ 20) (hO : O < 1000) (H : RX xv mv B O) (next : ∀ (xv : XV) (mv : MV), RX xv mv (B + 60) (O + 1) → G T X Q 51 894 (wXX T ad xv ++ wMo T x al ke tr hi sn te mv) [(3, .int (nI i)), (2, .ref x), (1, .ref (ad 0)), (0, .ref b)] 503 []) : G T X Q 51 894 (wXX T ad xv ++ wMo T x al ke tr hi sn te mv) [(3, .int (nI i)), (2, .ref x), (1, .ref (ad 0)), (0, .ref b)] 378 [] := by
  refine g_aload_n hX dL_law_378 rfl 2 rfl ?_
  refine g_pV_I hX (As := []) (n := 0) 0 rfl rfl (c_X4_breaksIn (xL X) T (xB X) ad xv  H.1) gL_law_X4_breaksIn rfl rfl rfl ⟨Nat.le_of_ble_eq_true rfl, Nat.le_of_ble_eq_true rfl⟩ ⟨Nat.le_of_ble_eq_true rfl, Nat.le_of_ble_eq_true rfl⟩ ⟨by decide +kernel, by decide +kernel, by decide +kernel⟩ rfl rfl (wXX_map T ad _ _) rfl (Nat.le_of_ble_eq_true rfl) dL_law_379 rfl ?_
  refine g_aload_n hX dL_law_382 rfl 1 rfl ?_
  refine g_sV_I hX (As := []) (n := 0) rfl rfl (c_X5_breaksIn (xL X) T (xB X) x al ke tr hi sn te mv  (RX_w H)) gL_law_X5_breaksIn rfl rfl rfl ⟨Nat.le_of_ble_eq_true rfl, Nat.le_of_ble_eq_true rfl⟩ ⟨Nat.le_of_ble_eq_true rfl, Nat.le_of_ble_eq_true rfl⟩ ⟨by decide +kernel, by decide +kernel, by decide +kernel⟩ rfl (wMo_map T x al ke tr hi sn te _ _) rfl (Nat.le_of_ble_eq_true rfl) dL_law_383 ?_
  exact g_icmp_eq hX 503 dL_law_386 (by decide) (fun _ => next _ _ (RX_mono (by omega) (by omega) (s_breaksIn H).2)) (fun z => absurd (s_breaksIn H).1 z)
set_option maxHeartbeats 4000000 in
set_option maxRecDepth 100000 in
theorem law_15 {T : TT} {X : CX} (hX : Fit T X RL 4 wsL_law cL_law (some .boolean) room_1) {Q : State → Prop} {b L x al ke tr hi sn te : Nat} {ad : Nat → Nat} {xs : Nat → Int32} (hs : Scr X b L xs) (hL : L ≤ 2048) {i : Nat} (hi4 : i + 4 ≤ L) {xv : XV} {mv : MV} {B O : Nat} (hB : B + 60 < 2 ^ 20) (hO : O < 1000) (H : RX xv mv B O) (next : ∀ (xv : XV) (mv : MV), RX xv mv (B + 60) (O + 1) → G T X Q 51 894 (wXX T ad xv ++ wMo T x al ke tr hi sn te mv) [(3, .int (nI i)), (2, .ref x), (1, .ref (ad 0)), (0, .ref b)] 503 []) : G T X Q 51 894 (wXX T ad xv ++ wMo T x al ke tr hi sn te mv) [(3, .int (nI i)), (2, .ref x), (1, .ref (ad 0)), (0, .ref b)] 391 [] := by
  refine g_aload_n hX dL_law_391 rfl 2 rfl ?_
  refine g_aload_n hX dL_law_392 rfl 3 rfl ?_
  refine g_iload_n hX dL_law_393 rfl 0 rfl ?_
  refine g_iconst hX (v := 1) dL_law_394 (by decide) ?_
  refine g_iadd hX dL_law_395 ?_
  refine g_sld hX hs (vinr i 1 L (by omega) (by omega)) dL_law_396 ?_
  refine g_aload_n hX dL_law_397 rfl 3 rfl ?_
  refine g_iload_n hX dL_law_398 rfl 0 rfl ?_
  refine g_iconst hX (v := 2) dL_law_399 (by decide) ?_
  refine g_iadd hX dL_law_400 ?_
  refine g_sld hX hs (vinr i 2 L (by omega) (by omega)) dL_law_401 ?_
  refine g_aload_n hX dL_law_402 rfl 3 rfl ?_
  refine g_iload_n hX dL_law_403 rfl 0 rfl ?_
  refine g_iconst hX (v := 3) dL_law_404 (by decide) ?_
  refine g_iadd hX dL_law_405 ?_
  refine g_sld hX hs (vinr i 3 L (by omega) (by omega)) dL_law_406 ?_
  refine g_pV_I hX (As := [.int (xs (nI i + 1).toNatClampNeg), .int (xs (nI i + 2).toNatClampNeg), .int (xs (nI i + 3).toNatClampNeg)]) (n := 3) 0 rfl rfl (c_X4_ifTraverse (xL X) T (xB X) ad xv (xs (nI i + 1).toNatClampNeg) (xs (nI i + 2).toNatClampNeg) (xs (nI i + 3).toNatClampNeg) ) gL_law_X4_ifTraverse rfl rfl rfl ⟨Nat.le_of_ble_eq_true rfl, Nat.le_of_ble_eq_true rfl⟩ ⟨Nat.le_of_ble_eq_true rfl, Nat.le_of_ble_eq_true rfl⟩ ⟨by decide +kernel, by decide +kernel, by decide +kernel⟩ rfl rfl (wXX_map T ad _ _) rfl (Nat.le_of_ble_eq_true rfl) dL_law_407 rfl ?_
  refine g_aload_n hX dL_law_410 rfl 1 rfl ?_
  refine g_aload_n hX dL_law_411 rfl 3 rfl ?_
  refine g_iload_n hX dL_law_412 rfl 0 rfl ?_
  refine g_iconst hX (v := 1) dL_law_413 (by decide) ?_
  refine g_iadd hX dL_law_414 ?_
  refine g_sld hX hs (vinr i 1 L (by omega) (by omega)) dL_law_415 ?_
  refine g_aload_n hX dL_law_416 rfl 3 rfl ?_
  refine g_iload_n hX dL_law_417 rfl 0 rfl ?_
  refine g_iconst hX (v := 2) dL_law_418 (by decide) ?_
  refine g_iadd hX dL_law_419 ?_
  refine g_sld hX hs (vinr i 2 L (by omega) (by omega)) dL_law_420 ?_
  refine g_aload_n hX dL_law_421 rfl 3 rfl ?_
  refine g_iload_n hX dL_law_422 rfl 0 rfl ?_
  refine g_iconst hX (v := 3) dL_law_423 (by decide) ?_
  refine g_iadd hX dL_law_424 ?_
  refine g_sld hX hs (vinr i 3 L (by omega) (by omega)) dL_law_425 ?_
  refine g_sV_I hX (As := [.int (xs (nI i + 1).toNatClampNeg), .int (xs (nI i + 2).toNatClampNeg), .int (xs (nI i + 3).toNatClampNeg)]) (n := 3) rfl rfl (c_X5_ifTraverse (xL X) T (xB X) x al ke tr hi sn te mv (xs (nI i + 1).toNatClampNeg) (xs (nI i + 2).toNatClampNeg) (xs (nI i + 3).toNatClampNeg) (RX_w H)) gL_law_X5_ifTraverse rfl rfl rfl ⟨Nat.le_of_ble_eq_true rfl, Nat.le_of_ble_eq_true rfl⟩ ⟨Nat.le_of_ble_eq_true rfl, Nat.le_of_ble_eq_true rfl⟩ ⟨by decide +kernel, by decide +kernel, by decide +kernel⟩ rfl (wMo_map T x al ke tr hi sn te _ _) rfl (Nat.le_of_ble_eq_true rfl) dL_law_426 ?_
  exact g_icmp_eq hX 503 dL_law_429 (by decide) (fun _ => next _ _ (RX_mono (by omega) (by omega) (s_if ((xs (nI i + 1).toNatClampNeg)) ((xs (nI i + 2).toNatClampNeg)) ((xs (nI i + 3).toNatClampNeg)) H).2)) (fun z => absurd (s_if ((xs (nI i + 1).toNatClampNeg)) ((xs (nI i + 2).toNatClampNeg)) ((xs (nI i + 3).toNatClampNeg)) H).1 z)
set_option maxHeartbeats 4000000 in
set_option maxRecDepth 100000 in
theorem law_16 {T : TT} {X : CX} (hX : Fit T X RL 4 wsL_law cL_law (some .boolean) room_1) {Q : State → Prop} {b L x al ke tr hi sn te : Nat} {ad : Nat → Nat} {xs : Nat → Int32} (hs : Scr X b L xs) (hL : L ≤ 2048) {i : Nat} (hi4 : i + 4 ≤ L) {xv : XV} {mv : MV} {B O : Nat} (hB : B + 60 < 2 ^ 20) (hO : O < 1000) (H : RX xv mv B O) (next : ∀ (xv : XV) (mv : MV), RX xv mv (B + 60) (O + 1) → G T X Q 51 894 (wXX T ad xv ++ wMo T x al ke tr hi sn te mv) [(3, .int (nI i)), (2, .ref x), (1, .ref (ad 0)), (0, .ref b)] 503 []) : G T X Q 51 894 (wXX T ad xv ++ wMo T x al ke tr hi sn te mv) [(3, .int (nI i)), (2, .ref x), (1, .ref (ad 0)), (0, .ref b)] 434 [] := by
  refine g_aload_n hX dL_law_434 rfl 2 rfl ?_
  refine g_aload_n hX dL_law_435 rfl 3 rfl ?_
  refine g_iload_n hX dL_law_436 rfl 0 rfl ?_
  refine g_iconst hX (v := 1) dL_law_437 (by decide) ?_
  refine g_iadd hX dL_law_438 ?_
  refine g_sld hX hs (vinr i 1 L (by omega) (by omega)) dL_law_439 ?_
  refine g_pV_I hX (As := [.int (xs (nI i + 1).toNatClampNeg)]) (n := 1) 0 rfl rfl (c_X4_bestTraverse (xL X) T (xB X) ad xv (xs (nI i + 1).toNatClampNeg) ) gL_law_X4_bestTraverse rfl rfl rfl ⟨Nat.le_of_ble_eq_true rfl, Nat.le_of_ble_eq_true rfl⟩ ⟨Nat.le_of_ble_eq_true rfl, Nat.le_of_ble_eq_true rfl⟩ ⟨by decide +kernel, by decide +kernel, by decide +kernel⟩ rfl rfl (wXX_map T ad _ _) rfl (Nat.le_of_ble_eq_true rfl) dL_law_440 rfl ?_
  refine g_aload_n hX dL_law_443 rfl 1 rfl ?_
  refine g_aload_n hX dL_law_444 rfl 3 rfl ?_
  refine g_iload_n hX dL_law_445 rfl 0 rfl ?_
  refine g_iconst hX (v := 1) dL_law_446 (by decide) ?_
  refine g_iadd hX dL_law_447 ?_
  refine g_sld hX hs (vinr i 1 L (by omega) (by omega)) dL_law_448 ?_
  refine g_sV_I hX (As := [.int (xs (nI i + 1).toNatClampNeg)]) (n := 1) rfl rfl (c_X5_bestTraverse (xL X) T (xB X) x al ke tr hi sn te mv (xs (nI i + 1).toNatClampNeg) (RX_w H)) gL_law_X5_bestTraverse rfl rfl rfl ⟨Nat.le_of_ble_eq_true rfl, Nat.le_of_ble_eq_true rfl⟩ ⟨Nat.le_of_ble_eq_true rfl, Nat.le_of_ble_eq_true rfl⟩ ⟨by decide +kernel, by decide +kernel, by decide +kernel⟩ rfl (wMo_map T x al ke tr hi sn te _ _) rfl (Nat.le_of_ble_eq_true rfl) dL_law_449 ?_
  exact g_icmp_eq hX 503 dL_law_452 (by decide) (fun _ => next _ _ (RX_mono (by omega) (by omega) (s_best ((xs (nI i + 1).toNatClampNeg)) H).2)) (fun z => absurd (s_best ((xs (nI i + 1).toNatClampNeg)) H).1 z)
set_option maxHeartbeats 4000000 in
set_option maxRecDepth 100000 in
theorem law_17 {T : TT} {X : CX} (hX : Fit T X RL 4 wsL_law cL_law (some .boolean) room_1) {Q : State → Prop} {b L x al ke tr hi sn te : Nat} {ad : Nat → Nat} {xs : Nat → Int32} (hs : Scr X b L xs) (hL : L ≤ 2048) {i : Nat} (hi4 : i + 4 ≤ L) {xv : XV} {mv : MV} {B O : Nat} (hB : B + 60 < 2 ^ 20) (hO : O < 1000) (H : RX xv mv B O) (next : ∀ (xv : XV) (mv : MV), RX xv mv (B + 60) (O + 1) → G T X Q 51 894 (wXX T ad xv ++ wMo T x al ke tr hi sn te mv) [(3, .int (nI i)), (2, .ref x), (1, .ref (ad 0)), (0, .ref b)] 503 []) : G T X Q 51 894 (wXX T ad xv ++ wMo T x al ke tr hi sn te mv) [(3, .int (nI i)), (2, .ref x), (1, .ref (ad 0)), (0, .ref b)] 457 [] := by
  refine g_aload_n hX dL_law_457 rfl 2 rfl ?_
  refine g_aload_n hX dL_law_458 rfl 3 rfl ?_
  refine g_iload_n hX dL_law_459 rfl 0 rfl ?_
  refine g_iconst hX (v := 1) dL_law_460 (by decide) ?_
  refine g_iadd hX dL_law_461 ?_
  refine g_sld hX hs (vinr i 1 L (by omega) (by omega)) dL_law_462 ?_
  refine g_pV_I hX (As := [.int (xs (nI i + 1).toNatClampNeg)]) (n := 1) 0 rfl rfl (c_X4_period (xL X) T (xB X) ad xv (xs (nI i + 1).toNatClampNeg) ) gL_law_X4_period rfl rfl rfl ⟨Nat.le_of_ble_eq_true rfl, Nat.le_of_ble_eq_true rfl⟩ ⟨Nat.le_of_ble_eq_true rfl, Nat.le_of_ble_eq_true rfl⟩ ⟨by decide +kernel, by decide +kernel, by decide +kernel⟩ rfl rfl (wXX_map T ad _ _) rfl (Nat.le_of_ble_eq_true rfl) dL_law_463 rfl ?_
  refine g_aload_n hX dL_law_466 rfl 1 rfl ?_
  refine g_aload_n hX dL_law_467 rfl 3 rfl ?_
  refine g_iload_n hX dL_law_468 rfl 0 rfl ?_
  refine g_iconst hX (v := 1) dL_law_469 (by decide) ?_
  refine g_iadd hX dL_law_470 ?_
  refine g_sld hX hs (vinr i 1 L (by omega) (by omega)) dL_law_471 ?_
  refine g_sV_I hX (As := [.int (xs (nI i + 1).toNatClampNeg)]) (n := 1) rfl rfl (c_X5_period (xL X) T (xB X) x al ke tr hi sn te mv (xs (nI i + 1).toNatClampNeg) ) gL_law_X5_period rfl rfl rfl ⟨Nat.le_of_ble_eq_true rfl, Nat.le_of_ble_eq_true rfl⟩ ⟨Nat.le_of_ble_eq_true rfl, Nat.le_of_ble_eq_true rfl⟩ ⟨by decide +kernel, by decide +kernel, by decide +kernel⟩ rfl (wMo_map T x al ke tr hi sn te _ _) rfl (Nat.le_of_ble_eq_true rfl) dL_law_472 ?_
  exact g_icmp_eq hX 503 dL_law_475 (by decide) (fun _ => next _ _ (RX_mono (by omega) (by omega) H)) (fun z => absurd (s_period ((xs (nI i + 1).toNatClampNeg))) z)
set_option maxHeartbeats 4000000 in
set_option maxRecDepth 100000 in
theorem law_18 {T : TT} {X : CX} (hX : Fit T X RL 4 wsL_law cL_law (some .boolean) room_1) {Q : State → Prop} {b L x al ke tr hi sn te : Nat} {ad : Nat → Nat} {xs : Nat → Int32} (hs : Scr X b L xs) (hL : L ≤ 2048) {i : Nat} (hi4 : i + 4 ≤ L) {xv : XV} {mv : MV} {B O : Nat} (hB : B + 60 < 2 ^ 20) (hO : O < 1000) (H : RX xv mv B O) (next : ∀ (xv : XV) (mv : MV), RX xv mv (B + 60) (O + 1) → G T X Q 51 894 (wXX T ad xv ++ wMo T x al ke tr hi sn te mv) [(3, .int (nI i)), (2, .ref x), (1, .ref (ad 0)), (0, .ref b)] 503 []) : G T X Q 51 894 (wXX T ad xv ++ wMo T x al ke tr hi sn te mv) [(3, .int (nI i)), (2, .ref x), (1, .ref (ad 0)), (0, .ref b)] 480 [] := by
  refine g_aload_n hX dL_law_480 rfl 2 rfl ?_
  refine g_aload_n hX dL_law_481 rfl 3 rfl ?_
  refine g_iload_n hX dL_law_482 rfl 0 rfl ?_
  refine g_iconst hX (v := 1) dL_law_483 (by decide) ?_
  refine g_iadd hX dL_law_484 ?_
  refine g_sld hX hs (vinr i 1 L (by omega) (by omega)) dL_law_485 ?_
  refine g_pV_I hX (As := [.int (xs (nI i + 1).toNatClampNeg)]) (n := 1) 0 rfl rfl (c_X4_count (xL X) T (xB X) ad xv (xs (nI i + 1).toNatClampNeg) ) gL_law_X4_count rfl rfl rfl ⟨Nat.le_of_ble_eq_true rfl, Nat.le_of_ble_eq_true rfl⟩ ⟨Nat.le_of_ble_eq_true rfl, Nat.le_of_ble_eq_true rfl⟩ ⟨by decide +kernel, by decide +kernel, by decide +kernel⟩ rfl rfl (wXX_map T ad _ _) rfl (Nat.le_of_ble_eq_true rfl) dL_law_486 rfl ?_
  refine g_aload_n hX dL_law_489 rfl 1 rfl ?_
  refine g_aload_n hX dL_law_490 rfl 3 rfl ?_
  refine g_iload_n hX dL_law_491 rfl 0 rfl ?_
  refine g_iconst hX (v := 1) dL_law_492 (by decide) ?_
  refine g_iadd hX dL_law_493 ?_
  refine g_sld hX hs (vinr i 1 L (by omega) (by omega)) dL_law_494 ?_
  refine g_sV_I hX (As := [.int (xs (nI i + 1).toNatClampNeg)]) (n := 1) rfl rfl (c_X5_count (xL X) T (xB X) x al ke tr hi sn te mv (xs (nI i + 1).toNatClampNeg) ) gL_law_X5_count rfl rfl rfl ⟨Nat.le_of_ble_eq_true rfl, Nat.le_of_ble_eq_true rfl⟩ ⟨Nat.le_of_ble_eq_true rfl, Nat.le_of_ble_eq_true rfl⟩ ⟨by decide +kernel, by decide +kernel, by decide +kernel⟩ rfl (wMo_map T x al ke tr hi sn te _ _) rfl (Nat.le_of_ble_eq_true rfl) dL_law_495 ?_
  exact g_icmp_eq hX 503 dL_law_498 (by decide) (fun _ => next _ _ (RX_mono (by omega) (by omega) H)) (fun z => absurd (s_count (by omega) hO ((xs (nI i + 1).toNatClampNeg)) H) z)
