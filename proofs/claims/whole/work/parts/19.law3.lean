set_option maxRecDepth 100000 in
set_option maxHeartbeats 8000000 in
theorem law_loop {p : Program} {l : Launch} {e : Env} {s : State} {m : MethodId} {below : List Frame} {meth : Method} {c : Code} {D : va_G} {adC' adM' : Nat → Nat} {cAC cAM : Nat → ClassId} {A : Nat → Prop} {b L : Nat} {xs : Nat → Int32} {RR : St → St → Prop} {F : Nat} (fx : CallFix p m c b_Law_law 4 s #[Value.ref b] ((Jvm.Cond.initialized "CaseNetLaw") :: wAll) R_law) (hr : meth.sig.returnType = ret) (hlocks : meth.locks = false) (hkC : ly_K D clA layC cAC s) (hkM : ly_K D clA layM cAM s) (hA : ∀ q, s.heap.size ≤ q → A q) (hA' : ∀ q, A q → s.heap.size ≤ q) (hz : ZsC A s s.heap) (hX : va_X b L xs s s.heap) (hbl : b < s.heap.size) (hL : L ≤ 3072) (HS : RS_all RR F) :
    ∀ (n k : Nat), L - 6 * k < n → 6 * k ≤ L → ∀ (uC uM : St) (H : Heap) (locs : List Loc) (ls : Array Slot), RR uC uM → va_P D clA (ly_W layC adC' cAC uC ++ ly_W layM adM' cAM uM) H → va_D A (ly_W layC adC' cAC uC ++ ly_W layM adM' cAM uM) → va_S A s.heap H locs → lv_has ls 4 [(0, .ref b), (1, .ref (adC' 0)), (2, .ref (adM' 0)), (3, .int (nI (6 * k)))] → W p l e room_1 s m #[Value.ref b] below meth c H locs 74 18658 (lw_Z below #[Value.ref b] s) (F0 m 18 ls []) := by
  have hx := fx.1
  have hb := fx.2.1
  have hbA : ¬ A b := fun h => absurd (hA' b h) (by omega)
  intro n
  induction n with
  | zero => intro k h; omega
  | succ n ih =>
    intro k hn hk uC uM H locs ls hR hP hD hS hl
    refine lv_iload_n hx hb d_Law_law_18 rfl (lv_at hl 3 rfl) ?_
    refine lv_aload_n hx hb d_Law_law_19 rfl (lv_at hl 0 rfl) ?_
    refine va_slen hx hb hX hbl hbA hS d_Law_law_20 ?_
    refine lv_bipush (v := 6) hx hb d_Law_law_21 (by decide) ?_
    refine lv_isub hx hb d_Law_law_23 ?_
    refine lv_icmp_gt (tgt := 670) hx hb d_Law_law_24 (by decide) (fun hc => ?_) (fun hc => ?_)
    · refine lv_iconst (v := 1) hx hb d_Law_law_670 (by decide) ?_
      refine va_forget (fun q hq => hA' _ (hS.2.2 q hq)) ?_
      refine W.widen (k := 600000) (n := 7302250) (Nat.le_of_ble_eq_true rfl) (Nat.le_of_ble_eq_true rfl) ?_
      exact lw_ret hx hb hr hlocks d_Law_law_671
    have h6 : 6 * k + 6 ≤ L := lw_ltN hL hk hc
    refine lv_aload_n hx hb d_Law_law_27 rfl (lv_at hl 0 rfl) ?_
    refine lv_iload_n hx hb d_Law_law_28 rfl (lv_at hl 3 rfl) ?_
    refine va_sld hx hb hX hbl hbA hS (vp_in_nI (by omega) (by omega)) d_Law_law_29 ?_
    refine lv_bipush (v := 31) hx hb d_Law_law_30 (by decide) ?_
    refine lv_iand hx hb d_Law_law_32 ?_
    refine lv_topi (fun sw esw => ?_)
    have next : ∀ (uC uM : St) (H : Heap) (locs : List Loc), RR uC uM → va_P D clA (ly_W layC adC' cAC uC ++ ly_W layM adM' cAM uM) H → va_D A (ly_W layC adC' cAC uC ++ ly_W layM adM' cAM uM) → va_S A s.heap H locs → W p l e room_1 s m #[Value.ref b] below meth c H locs 74 18658 (lw_Z below #[Value.ref b] s) (F0 m 664 ls []) := by
      intro uC uM H locs hR hP hD hS
      refine lv_iinc (lv' := [(3, .int (nI (6 * (k + 1)))), (0, .ref b), (1, .ref (adC' 0)), (2, .ref (adM' 0))]) (k := 3) (v := nI (6 * (k + 1))) hx hb d_Law_law_664 hl rfl (by rw [show Int32.ofInt 6 = nI 6 from by decide, nI_add, Nat.mul_succ]) (by decide) rfl (fun ls hl => ?_)
      refine lv_goto (tgt := 18) hx hb d_Law_law_667 (by decide) ?_
      exact ih (k + 1) (by omega) (by omega) uC uM H locs ls hR hP hD hS (lv_sub hl [1, 2, 3, 0] rfl)
    by_cases hc0 : sw = (0 : Int32)
    · refine lv_tableIn (off := 87) (tgt := 120) hx hb d_Law_law_33 (by rw [hc0]; decide) (by rw [hc0]; decide) (by rw [hc0]; decide) (by decide) ?_
      refine lv_aload_n hx hb d_Law_law_120 rfl (lv_at hl 1 rfl) ?_
      refine lv_aload_n hx hb d_Law_law_121 rfl (lv_at hl 0 rfl) ?_
      refine lv_iload_n hx hb d_Law_law_122 rfl (lv_at hl 3 rfl) ?_
      refine lv_iconst (v := 1) hx hb d_Law_law_123 (by decide) ?_
      refine lv_iadd hx hb d_Law_law_124 ?_
      refine va_sld hx hb hX hbl hbA hS (lw_ix hL 1 (by omega)) d_Law_law_125 ?_
      refine lv_aload_n hx hb d_Law_law_126 rfl (lv_at hl 0 rfl) ?_
      refine lv_iload_n hx hb d_Law_law_127 rfl (lv_at hl 3 rfl) ?_
      refine lv_iconst (v := 2) hx hb d_Law_law_128 (by decide) ?_
      refine lv_iadd hx hb d_Law_law_129 ?_
      refine va_sld hx hb hX hbl hbA hS (lw_ix hL 2 (by omega)) d_Law_law_130 ?_
      refine lv_aload_n hx hb d_Law_law_131 rfl (lv_at hl 0 rfl) ?_
      refine lv_iload_n hx hb d_Law_law_132 rfl (lv_at hl 3 rfl) ?_
      refine lv_iconst (v := 3) hx hb d_Law_law_133 (by decide) ?_
      refine lv_iadd hx hb d_Law_law_134 ?_
      refine va_sld hx hb hX hbl hbA hS (lw_ix hL 3 (by omega)) d_Law_law_135 ?_
      refine lv_aload_n hx hb d_Law_law_136 rfl (lv_at hl 0 rfl) ?_
      refine lv_iload_n hx hb d_Law_law_137 rfl (lv_at hl 3 rfl) ?_
      refine lv_iconst (v := 4) hx hb d_Law_law_138 (by decide) ?_
      refine lv_iadd hx hb d_Law_law_139 ?_
      refine va_sld hx hb hX hbl hbA hS (lw_ix hL 4 (by omega)) d_Law_law_140 ?_
      refine lv_aload_n hx hb d_Law_law_141 rfl (lv_at hl 0 rfl) ?_
      refine lv_iload_n hx hb d_Law_law_142 rfl (lv_at hl 3 rfl) ?_
      refine lv_iconst (v := 5) hx hb d_Law_law_143 (by decide) ?_
      refine lv_iadd hx hb d_Law_law_144 ?_
      refine va_sld hx hb hX hbl hbA hS (lw_ix hL 5 (by omega)) d_Law_law_145 ?_
      obtain ⟨r, uC', uM', h1, h2, hR'⟩ := HS.1 uC uM hR (xs (nI (6 * k) + (1 : Int32)).toNatClampNeg) (xs (nI (6 * k) + (2 : Int32)).toNatClampNeg) (xs (nI (6 * k) + (3 : Int32)).toNatClampNeg) (xs (nI (6 * k) + (4 : Int32)).toNatClampNeg) (xs (nI (6 * k) + (5 : Int32)).toNatClampNeg)
      refine lw_cl (As := [.int (xs (nI (6 * k) + (1 : Int32)).toNatClampNeg), .int (xs (nI (6 * k) + (2 : Int32)).toNatClampNeg), .int (xs (nI (6 * k) + (3 : Int32)).toNatClampNeg), .int (xs (nI (6 * k) + (4 : Int32)).toNatClampNeg), .int (xs (nI (6 * k) + (5 : Int32)).toNatClampNeg)]) (rest := []) ZsC_ok fx hkC hz hA hP hD hS (c_CN_task l F (xs (nI (6 * k) + (1 : Int32)).toNatClampNeg) (xs (nI (6 * k) + (2 : Int32)).toNatClampNeg) (xs (nI (6 * k) + (3 : Int32)).toNatClampNeg) (xs (nI (6 * k) + (4 : Int32)).toNatClampNeg) (xs (nI (6 * k) + (5 : Int32)).toNatClampNeg) uC _ h1) (cw_V fx.2.2.2.2 a_183 a_184 a_185 a_1 ac_CN_task rfl rfl rfl hd_CN_task ⟨Nat.le_of_ble_eq_true rfl, Nat.le_of_ble_eq_true rfl⟩) 0 rfl rfl rfl rfl hl.1 rfl (Nat.le_of_ble_eq_true rfl) d_Law_law_146 (Nat.le_of_ble_eq_true rfl) (Nat.le_of_ble_eq_true rfl) (fun r' u' H locs hp hP hD hS => ?_)
      cases hp
      refine lv_aload_n hx hb d_Law_law_149 rfl (lv_at hl 2 rfl) ?_
      refine lv_aload_n hx hb d_Law_law_150 rfl (lv_at hl 0 rfl) ?_
      refine lv_iload_n hx hb d_Law_law_151 rfl (lv_at hl 3 rfl) ?_
      refine lv_iconst (v := 1) hx hb d_Law_law_152 (by decide) ?_
      refine lv_iadd hx hb d_Law_law_153 ?_
      refine va_sld hx hb hX hbl hbA hS (lw_ix hL 1 (by omega)) d_Law_law_154 ?_
      refine lv_aload_n hx hb d_Law_law_155 rfl (lv_at hl 0 rfl) ?_
      refine lv_iload_n hx hb d_Law_law_156 rfl (lv_at hl 3 rfl) ?_
      refine lv_iconst (v := 2) hx hb d_Law_law_157 (by decide) ?_
      refine lv_iadd hx hb d_Law_law_158 ?_
      refine va_sld hx hb hX hbl hbA hS (lw_ix hL 2 (by omega)) d_Law_law_159 ?_
      refine lv_aload_n hx hb d_Law_law_160 rfl (lv_at hl 0 rfl) ?_
      refine lv_iload_n hx hb d_Law_law_161 rfl (lv_at hl 3 rfl) ?_
      refine lv_iconst (v := 3) hx hb d_Law_law_162 (by decide) ?_
      refine lv_iadd hx hb d_Law_law_163 ?_
      refine va_sld hx hb hX hbl hbA hS (lw_ix hL 3 (by omega)) d_Law_law_164 ?_
      refine lv_aload_n hx hb d_Law_law_165 rfl (lv_at hl 0 rfl) ?_
      refine lv_iload_n hx hb d_Law_law_166 rfl (lv_at hl 3 rfl) ?_
      refine lv_iconst (v := 4) hx hb d_Law_law_167 (by decide) ?_
      refine lv_iadd hx hb d_Law_law_168 ?_
      refine va_sld hx hb hX hbl hbA hS (lw_ix hL 4 (by omega)) d_Law_law_169 ?_
      refine lv_aload_n hx hb d_Law_law_170 rfl (lv_at hl 0 rfl) ?_
      refine lv_iload_n hx hb d_Law_law_171 rfl (lv_at hl 3 rfl) ?_
      refine lv_iconst (v := 5) hx hb d_Law_law_172 (by decide) ?_
      refine lv_iadd hx hb d_Law_law_173 ?_
      refine va_sld hx hb hX hbl hbA hS (lw_ix hL 5 (by omega)) d_Law_law_174 ?_
      refine lw_cr (As := [.int (xs (nI (6 * k) + (1 : Int32)).toNatClampNeg), .int (xs (nI (6 * k) + (2 : Int32)).toNatClampNeg), .int (xs (nI (6 * k) + (3 : Int32)).toNatClampNeg), .int (xs (nI (6 * k) + (4 : Int32)).toNatClampNeg), .int (xs (nI (6 * k) + (5 : Int32)).toNatClampNeg)]) (rest := [.int r]) ZsM_ok fx hkM trivial hA hP hD hS (c_Md_task l F (xs (nI (6 * k) + (1 : Int32)).toNatClampNeg) (xs (nI (6 * k) + (2 : Int32)).toNatClampNeg) (xs (nI (6 * k) + (3 : Int32)).toNatClampNeg) (xs (nI (6 * k) + (4 : Int32)).toNatClampNeg) (xs (nI (6 * k) + (5 : Int32)).toNatClampNeg) uM _ h2) (cw_V fx.2.2.2.2 a_553 a_554 a_555 a_6 ac_Md_task rfl rfl rfl hd_Md_task ⟨Nat.le_of_ble_eq_true rfl, Nat.le_of_ble_eq_true rfl⟩) 0 rfl rfl rfl rfl hl.1 rfl (Nat.le_of_ble_eq_true rfl) d_Law_law_175 (Nat.le_of_ble_eq_true rfl) (Nat.le_of_ble_eq_true rfl) (fun r' u' H locs hp hP hD hS => ?_)
      cases hp
      refine lv_icmp_eq (tgt := 664) hx hb d_Law_law_178 (by decide) (fun _ => ?_) (fun hne => absurd rfl hne)
      exact next _ _ _ _ hR' hP hD hS
    by_cases hc1 : sw = (1 : Int32)
    · refine lv_tableIn (off := 150) (tgt := 183) hx hb d_Law_law_33 (by rw [hc1]; decide) (by rw [hc1]; decide) (by rw [hc1]; decide) (by decide) ?_
      refine lv_aload_n hx hb d_Law_law_183 rfl (lv_at hl 1 rfl) ?_
      refine lv_aload_n hx hb d_Law_law_184 rfl (lv_at hl 0 rfl) ?_
      refine lv_iload_n hx hb d_Law_law_185 rfl (lv_at hl 3 rfl) ?_
      refine lv_iconst (v := 1) hx hb d_Law_law_186 (by decide) ?_
      refine lv_iadd hx hb d_Law_law_187 ?_
      refine va_sld hx hb hX hbl hbA hS (lw_ix hL 1 (by omega)) d_Law_law_188 ?_
      refine lv_aload_n hx hb d_Law_law_189 rfl (lv_at hl 0 rfl) ?_
      refine lv_iload_n hx hb d_Law_law_190 rfl (lv_at hl 3 rfl) ?_
      refine lv_iconst (v := 2) hx hb d_Law_law_191 (by decide) ?_
      refine lv_iadd hx hb d_Law_law_192 ?_
      refine va_sld hx hb hX hbl hbA hS (lw_ix hL 2 (by omega)) d_Law_law_193 ?_
      obtain ⟨r, uC', uM', h1, h2, hR'⟩ := HS.2.1 uC uM hR (xs (nI (6 * k) + (1 : Int32)).toNatClampNeg) (xs (nI (6 * k) + (2 : Int32)).toNatClampNeg)
      refine lw_cl (As := [.int (xs (nI (6 * k) + (1 : Int32)).toNatClampNeg), .int (xs (nI (6 * k) + (2 : Int32)).toNatClampNeg)]) (rest := []) ZsC_ok fx hkC hz hA hP hD hS (c_CN_region l (xs (nI (6 * k) + (1 : Int32)).toNatClampNeg) (xs (nI (6 * k) + (2 : Int32)).toNatClampNeg) uC _ h1) (cw_V fx.2.2.2.2 a_225 a_226 a_227 a_1 ac_CN_region rfl rfl rfl hd_CN_region ⟨Nat.le_of_ble_eq_true rfl, Nat.le_of_ble_eq_true rfl⟩) 0 rfl rfl rfl rfl hl.1 rfl (Nat.le_of_ble_eq_true rfl) d_Law_law_194 (Nat.le_of_ble_eq_true rfl) (Nat.le_of_ble_eq_true rfl) (fun r' u' H locs hp hP hD hS => ?_)
      cases hp
      refine lv_aload_n hx hb d_Law_law_197 rfl (lv_at hl 2 rfl) ?_
      refine lv_aload_n hx hb d_Law_law_198 rfl (lv_at hl 0 rfl) ?_
      refine lv_iload_n hx hb d_Law_law_199 rfl (lv_at hl 3 rfl) ?_
      refine lv_iconst (v := 1) hx hb d_Law_law_200 (by decide) ?_
      refine lv_iadd hx hb d_Law_law_201 ?_
      refine va_sld hx hb hX hbl hbA hS (lw_ix hL 1 (by omega)) d_Law_law_202 ?_
      refine lv_aload_n hx hb d_Law_law_203 rfl (lv_at hl 0 rfl) ?_
      refine lv_iload_n hx hb d_Law_law_204 rfl (lv_at hl 3 rfl) ?_
      refine lv_iconst (v := 2) hx hb d_Law_law_205 (by decide) ?_
      refine lv_iadd hx hb d_Law_law_206 ?_
      refine va_sld hx hb hX hbl hbA hS (lw_ix hL 2 (by omega)) d_Law_law_207 ?_
      refine lw_cr (As := [.int (xs (nI (6 * k) + (1 : Int32)).toNatClampNeg), .int (xs (nI (6 * k) + (2 : Int32)).toNatClampNeg)]) (rest := [.int r]) ZsM_ok fx hkM trivial hA hP hD hS (c_Md_region l (xs (nI (6 * k) + (1 : Int32)).toNatClampNeg) (xs (nI (6 * k) + (2 : Int32)).toNatClampNeg) uM _ h2) (cw_V fx.2.2.2.2 a_565 a_566 a_567 a_6 ac_Md_region rfl rfl rfl hd_Md_region ⟨Nat.le_of_ble_eq_true rfl, Nat.le_of_ble_eq_true rfl⟩) 0 rfl rfl rfl rfl hl.1 rfl (Nat.le_of_ble_eq_true rfl) d_Law_law_208 (Nat.le_of_ble_eq_true rfl) (Nat.le_of_ble_eq_true rfl) (fun r' u' H locs hp hP hD hS => ?_)
      cases hp
      refine lv_icmp_eq (tgt := 664) hx hb d_Law_law_211 (by decide) (fun _ => ?_) (fun hne => absurd rfl hne)
      exact next _ _ _ _ hR' hP hD hS
    by_cases hc2 : sw = (2 : Int32)
    · refine lv_tableIn (off := 183) (tgt := 216) hx hb d_Law_law_33 (by rw [hc2]; decide) (by rw [hc2]; decide) (by rw [hc2]; decide) (by decide) ?_
      refine lv_aload_n hx hb d_Law_law_216 rfl (lv_at hl 1 rfl) ?_
      refine lv_aload_n hx hb d_Law_law_217 rfl (lv_at hl 0 rfl) ?_
      refine lv_iload_n hx hb d_Law_law_218 rfl (lv_at hl 3 rfl) ?_
      refine lv_iconst (v := 1) hx hb d_Law_law_219 (by decide) ?_
      refine lv_iadd hx hb d_Law_law_220 ?_
      refine va_sld hx hb hX hbl hbA hS (lw_ix hL 1 (by omega)) d_Law_law_221 ?_
      refine lv_aload_n hx hb d_Law_law_222 rfl (lv_at hl 0 rfl) ?_
      refine lv_iload_n hx hb d_Law_law_223 rfl (lv_at hl 3 rfl) ?_
      refine lv_iconst (v := 2) hx hb d_Law_law_224 (by decide) ?_
      refine lv_iadd hx hb d_Law_law_225 ?_
      refine va_sld hx hb hX hbl hbA hS (lw_ix hL 2 (by omega)) d_Law_law_226 ?_
      refine lv_aload_n hx hb d_Law_law_227 rfl (lv_at hl 0 rfl) ?_
      refine lv_iload_n hx hb d_Law_law_228 rfl (lv_at hl 3 rfl) ?_
      refine lv_iconst (v := 3) hx hb d_Law_law_229 (by decide) ?_
      refine lv_iadd hx hb d_Law_law_230 ?_
      refine va_sld hx hb hX hbl hbA hS (lw_ix hL 3 (by omega)) d_Law_law_231 ?_
      refine lv_aload_n hx hb d_Law_law_232 rfl (lv_at hl 0 rfl) ?_
      refine lv_iload_n hx hb d_Law_law_233 rfl (lv_at hl 3 rfl) ?_
      refine lv_iconst (v := 4) hx hb d_Law_law_234 (by decide) ?_
      refine lv_iadd hx hb d_Law_law_235 ?_
      refine va_sld hx hb hX hbl hbA hS (lw_ix hL 4 (by omega)) d_Law_law_236 ?_
      refine lv_aload_n hx hb d_Law_law_237 rfl (lv_at hl 0 rfl) ?_
      refine lv_iload_n hx hb d_Law_law_238 rfl (lv_at hl 3 rfl) ?_
      refine lv_iconst (v := 5) hx hb d_Law_law_239 (by decide) ?_
      refine lv_iadd hx hb d_Law_law_240 ?_
      refine va_sld hx hb hX hbl hbA hS (lw_ix hL 5 (by omega)) d_Law_law_241 ?_
      obtain ⟨r, uC', uM', h1, h2, hR'⟩ := HS.2.2.1 uC uM hR (xs (nI (6 * k) + (1 : Int32)).toNatClampNeg) (xs (nI (6 * k) + (2 : Int32)).toNatClampNeg) (xs (nI (6 * k) + (3 : Int32)).toNatClampNeg) (xs (nI (6 * k) + (4 : Int32)).toNatClampNeg) (xs (nI (6 * k) + (5 : Int32)).toNatClampNeg)
      refine lw_cl (As := [.int (xs (nI (6 * k) + (1 : Int32)).toNatClampNeg), .int (xs (nI (6 * k) + (2 : Int32)).toNatClampNeg), .int (xs (nI (6 * k) + (3 : Int32)).toNatClampNeg), .int (xs (nI (6 * k) + (4 : Int32)).toNatClampNeg), .int (xs (nI (6 * k) + (5 : Int32)).toNatClampNeg)]) (rest := []) ZsC_ok fx hkC hz hA hP hD hS (c_CN_guard l (xs (nI (6 * k) + (1 : Int32)).toNatClampNeg) (xs (nI (6 * k) + (2 : Int32)).toNatClampNeg) (xs (nI (6 * k) + (3 : Int32)).toNatClampNeg) (xs (nI (6 * k) + (4 : Int32)).toNatClampNeg) (xs (nI (6 * k) + (5 : Int32)).toNatClampNeg) uC _ h1) (cw_V fx.2.2.2.2 a_237 a_238 a_239 a_1 ac_CN_guard rfl rfl rfl hd_CN_guard ⟨Nat.le_of_ble_eq_true rfl, Nat.le_of_ble_eq_true rfl⟩) 0 rfl rfl rfl rfl hl.1 rfl (Nat.le_of_ble_eq_true rfl) d_Law_law_242 (Nat.le_of_ble_eq_true rfl) (Nat.le_of_ble_eq_true rfl) (fun r' u' H locs hp hP hD hS => ?_)
      cases hp
      refine lv_aload_n hx hb d_Law_law_245 rfl (lv_at hl 2 rfl) ?_
      refine lv_aload_n hx hb d_Law_law_246 rfl (lv_at hl 0 rfl) ?_
      refine lv_iload_n hx hb d_Law_law_247 rfl (lv_at hl 3 rfl) ?_
      refine lv_iconst (v := 1) hx hb d_Law_law_248 (by decide) ?_
      refine lv_iadd hx hb d_Law_law_249 ?_
      refine va_sld hx hb hX hbl hbA hS (lw_ix hL 1 (by omega)) d_Law_law_250 ?_
      refine lv_aload_n hx hb d_Law_law_251 rfl (lv_at hl 0 rfl) ?_
      refine lv_iload_n hx hb d_Law_law_252 rfl (lv_at hl 3 rfl) ?_
      refine lv_iconst (v := 2) hx hb d_Law_law_253 (by decide) ?_
      refine lv_iadd hx hb d_Law_law_254 ?_
      refine va_sld hx hb hX hbl hbA hS (lw_ix hL 2 (by omega)) d_Law_law_255 ?_
      refine lv_aload_n hx hb d_Law_law_256 rfl (lv_at hl 0 rfl) ?_
      refine lv_iload_n hx hb d_Law_law_257 rfl (lv_at hl 3 rfl) ?_
      refine lv_iconst (v := 3) hx hb d_Law_law_258 (by decide) ?_
      refine lv_iadd hx hb d_Law_law_259 ?_
      refine va_sld hx hb hX hbl hbA hS (lw_ix hL 3 (by omega)) d_Law_law_260 ?_
      refine lv_aload_n hx hb d_Law_law_261 rfl (lv_at hl 0 rfl) ?_
      refine lv_iload_n hx hb d_Law_law_262 rfl (lv_at hl 3 rfl) ?_
      refine lv_iconst (v := 4) hx hb d_Law_law_263 (by decide) ?_
      refine lv_iadd hx hb d_Law_law_264 ?_
      refine va_sld hx hb hX hbl hbA hS (lw_ix hL 4 (by omega)) d_Law_law_265 ?_
      refine lv_aload_n hx hb d_Law_law_266 rfl (lv_at hl 0 rfl) ?_
      refine lv_iload_n hx hb d_Law_law_267 rfl (lv_at hl 3 rfl) ?_
      refine lv_iconst (v := 5) hx hb d_Law_law_268 (by decide) ?_
      refine lv_iadd hx hb d_Law_law_269 ?_
      refine va_sld hx hb hX hbl hbA hS (lw_ix hL 5 (by omega)) d_Law_law_270 ?_
      refine lw_cr (As := [.int (xs (nI (6 * k) + (1 : Int32)).toNatClampNeg), .int (xs (nI (6 * k) + (2 : Int32)).toNatClampNeg), .int (xs (nI (6 * k) + (3 : Int32)).toNatClampNeg), .int (xs (nI (6 * k) + (4 : Int32)).toNatClampNeg), .int (xs (nI (6 * k) + (5 : Int32)).toNatClampNeg)]) (rest := [.int r]) ZsM_ok fx hkM trivial hA hP hD hS (c_Md_guard l (xs (nI (6 * k) + (1 : Int32)).toNatClampNeg) (xs (nI (6 * k) + (2 : Int32)).toNatClampNeg) (xs (nI (6 * k) + (3 : Int32)).toNatClampNeg) (xs (nI (6 * k) + (4 : Int32)).toNatClampNeg) (xs (nI (6 * k) + (5 : Int32)).toNatClampNeg) uM _ h2) (cw_V fx.2.2.2.2 a_576 a_577 a_578 a_6 ac_Md_guard rfl rfl rfl hd_Md_guard ⟨Nat.le_of_ble_eq_true rfl, Nat.le_of_ble_eq_true rfl⟩) 0 rfl rfl rfl rfl hl.1 rfl (Nat.le_of_ble_eq_true rfl) d_Law_law_271 (Nat.le_of_ble_eq_true rfl) (Nat.le_of_ble_eq_true rfl) (fun r' u' H locs hp hP hD hS => ?_)
      cases hp
      refine lv_icmp_eq (tgt := 664) hx hb d_Law_law_274 (by decide) (fun _ => ?_) (fun hne => absurd rfl hne)
      exact next _ _ _ _ hR' hP hD hS
    by_cases hc3 : sw = (3 : Int32)
    · refine lv_tableIn (off := 246) (tgt := 279) hx hb d_Law_law_33 (by rw [hc3]; decide) (by rw [hc3]; decide) (by rw [hc3]; decide) (by decide) ?_
      refine lv_aload_n hx hb d_Law_law_279 rfl (lv_at hl 1 rfl) ?_
      refine lv_aload_n hx hb d_Law_law_280 rfl (lv_at hl 0 rfl) ?_
      refine lv_iload_n hx hb d_Law_law_281 rfl (lv_at hl 3 rfl) ?_
      refine lv_iconst (v := 1) hx hb d_Law_law_282 (by decide) ?_
      refine lv_iadd hx hb d_Law_law_283 ?_
      refine va_sld hx hb hX hbl hbA hS (lw_ix hL 1 (by omega)) d_Law_law_284 ?_
      refine lv_aload_n hx hb d_Law_law_285 rfl (lv_at hl 0 rfl) ?_
      refine lv_iload_n hx hb d_Law_law_286 rfl (lv_at hl 3 rfl) ?_
      refine lv_iconst (v := 2) hx hb d_Law_law_287 (by decide) ?_
      refine lv_iadd hx hb d_Law_law_288 ?_
      refine va_sld hx hb hX hbl hbA hS (lw_ix hL 2 (by omega)) d_Law_law_289 ?_
      refine lv_aload_n hx hb d_Law_law_290 rfl (lv_at hl 0 rfl) ?_
      refine lv_iload_n hx hb d_Law_law_291 rfl (lv_at hl 3 rfl) ?_
      refine lv_iconst (v := 3) hx hb d_Law_law_292 (by decide) ?_
      refine lv_iadd hx hb d_Law_law_293 ?_
      refine va_sld hx hb hX hbl hbA hS (lw_ix hL 3 (by omega)) d_Law_law_294 ?_
      refine lv_aload_n hx hb d_Law_law_295 rfl (lv_at hl 0 rfl) ?_
      refine lv_iload_n hx hb d_Law_law_296 rfl (lv_at hl 3 rfl) ?_
      refine lv_iconst (v := 4) hx hb d_Law_law_297 (by decide) ?_
      refine lv_iadd hx hb d_Law_law_298 ?_
      refine va_sld hx hb hX hbl hbA hS (lw_ix hL 4 (by omega)) d_Law_law_299 ?_
      refine lv_aload_n hx hb d_Law_law_300 rfl (lv_at hl 0 rfl) ?_
      refine lv_iload_n hx hb d_Law_law_301 rfl (lv_at hl 3 rfl) ?_
      refine lv_iconst (v := 5) hx hb d_Law_law_302 (by decide) ?_
      refine lv_iadd hx hb d_Law_law_303 ?_
      refine va_sld hx hb hX hbl hbA hS (lw_ix hL 5 (by omega)) d_Law_law_304 ?_
      obtain ⟨r, uC', uM', h1, h2, hR'⟩ := HS.2.2.2.1 uC uM hR (xs (nI (6 * k) + (1 : Int32)).toNatClampNeg) (xs (nI (6 * k) + (2 : Int32)).toNatClampNeg) (xs (nI (6 * k) + (3 : Int32)).toNatClampNeg) (xs (nI (6 * k) + (4 : Int32)).toNatClampNeg) (xs (nI (6 * k) + (5 : Int32)).toNatClampNeg)
      refine lw_cl (As := [.int (xs (nI (6 * k) + (1 : Int32)).toNatClampNeg), .int (xs (nI (6 * k) + (2 : Int32)).toNatClampNeg), .int (xs (nI (6 * k) + (3 : Int32)).toNatClampNeg), .int (xs (nI (6 * k) + (4 : Int32)).toNatClampNeg), .int (xs (nI (6 * k) + (5 : Int32)).toNatClampNeg)]) (rest := []) ZsC_ok fx hkC hz hA hP hD hS (c_CN_items l (xs (nI (6 * k) + (1 : Int32)).toNatClampNeg) (xs (nI (6 * k) + (2 : Int32)).toNatClampNeg) (xs (nI (6 * k) + (3 : Int32)).toNatClampNeg) (xs (nI (6 * k) + (4 : Int32)).toNatClampNeg) (xs (nI (6 * k) + (5 : Int32)).toNatClampNeg) uC _ h1) (cw_V fx.2.2.2.2 a_245 a_246 a_247 a_1 ac_CN_items rfl rfl rfl hd_CN_items ⟨Nat.le_of_ble_eq_true rfl, Nat.le_of_ble_eq_true rfl⟩) 0 rfl rfl rfl rfl hl.1 rfl (Nat.le_of_ble_eq_true rfl) d_Law_law_305 (Nat.le_of_ble_eq_true rfl) (Nat.le_of_ble_eq_true rfl) (fun r' u' H locs hp hP hD hS => ?_)
      cases hp
      refine lv_aload_n hx hb d_Law_law_308 rfl (lv_at hl 2 rfl) ?_
      refine lv_aload_n hx hb d_Law_law_309 rfl (lv_at hl 0 rfl) ?_
      refine lv_iload_n hx hb d_Law_law_310 rfl (lv_at hl 3 rfl) ?_
      refine lv_iconst (v := 1) hx hb d_Law_law_311 (by decide) ?_
      refine lv_iadd hx hb d_Law_law_312 ?_
      refine va_sld hx hb hX hbl hbA hS (lw_ix hL 1 (by omega)) d_Law_law_313 ?_
      refine lv_aload_n hx hb d_Law_law_314 rfl (lv_at hl 0 rfl) ?_
      refine lv_iload_n hx hb d_Law_law_315 rfl (lv_at hl 3 rfl) ?_
      refine lv_iconst (v := 2) hx hb d_Law_law_316 (by decide) ?_
      refine lv_iadd hx hb d_Law_law_317 ?_
      refine va_sld hx hb hX hbl hbA hS (lw_ix hL 2 (by omega)) d_Law_law_318 ?_
      refine lv_aload_n hx hb d_Law_law_319 rfl (lv_at hl 0 rfl) ?_
      refine lv_iload_n hx hb d_Law_law_320 rfl (lv_at hl 3 rfl) ?_
      refine lv_iconst (v := 3) hx hb d_Law_law_321 (by decide) ?_
      refine lv_iadd hx hb d_Law_law_322 ?_
      refine va_sld hx hb hX hbl hbA hS (lw_ix hL 3 (by omega)) d_Law_law_323 ?_
      refine lv_aload_n hx hb d_Law_law_324 rfl (lv_at hl 0 rfl) ?_
      refine lv_iload_n hx hb d_Law_law_325 rfl (lv_at hl 3 rfl) ?_
      refine lv_iconst (v := 4) hx hb d_Law_law_326 (by decide) ?_
      refine lv_iadd hx hb d_Law_law_327 ?_
      refine va_sld hx hb hX hbl hbA hS (lw_ix hL 4 (by omega)) d_Law_law_328 ?_
      refine lv_aload_n hx hb d_Law_law_329 rfl (lv_at hl 0 rfl) ?_
      refine lv_iload_n hx hb d_Law_law_330 rfl (lv_at hl 3 rfl) ?_
      refine lv_iconst (v := 5) hx hb d_Law_law_331 (by decide) ?_
      refine lv_iadd hx hb d_Law_law_332 ?_
      refine va_sld hx hb hX hbl hbA hS (lw_ix hL 5 (by omega)) d_Law_law_333 ?_
      refine lw_cr (As := [.int (xs (nI (6 * k) + (1 : Int32)).toNatClampNeg), .int (xs (nI (6 * k) + (2 : Int32)).toNatClampNeg), .int (xs (nI (6 * k) + (3 : Int32)).toNatClampNeg), .int (xs (nI (6 * k) + (4 : Int32)).toNatClampNeg), .int (xs (nI (6 * k) + (5 : Int32)).toNatClampNeg)]) (rest := [.int r]) ZsM_ok fx hkM trivial hA hP hD hS (c_Md_items l (xs (nI (6 * k) + (1 : Int32)).toNatClampNeg) (xs (nI (6 * k) + (2 : Int32)).toNatClampNeg) (xs (nI (6 * k) + (3 : Int32)).toNatClampNeg) (xs (nI (6 * k) + (4 : Int32)).toNatClampNeg) (xs (nI (6 * k) + (5 : Int32)).toNatClampNeg) uM _ h2) (cw_V fx.2.2.2.2 a_580 a_581 a_582 a_6 ac_Md_items rfl rfl rfl hd_Md_items ⟨Nat.le_of_ble_eq_true rfl, Nat.le_of_ble_eq_true rfl⟩) 0 rfl rfl rfl rfl hl.1 rfl (Nat.le_of_ble_eq_true rfl) d_Law_law_334 (Nat.le_of_ble_eq_true rfl) (Nat.le_of_ble_eq_true rfl) (fun r' u' H locs hp hP hD hS => ?_)
      cases hp
      refine lv_icmp_eq (tgt := 664) hx hb d_Law_law_337 (by decide) (fun _ => ?_) (fun hne => absurd rfl hne)
      exact next _ _ _ _ hR' hP hD hS
    by_cases hc4 : sw = (4 : Int32)
    · refine lv_tableIn (off := 309) (tgt := 342) hx hb d_Law_law_33 (by rw [hc4]; decide) (by rw [hc4]; decide) (by rw [hc4]; decide) (by decide) ?_
      refine lv_aload_n hx hb d_Law_law_342 rfl (lv_at hl 1 rfl) ?_
      obtain ⟨r, uC', uM', h1, h2, hR'⟩ := HS.2.2.2.2.1 uC uM hR 
      refine lw_cl (As := []) (rest := []) ZsC_ok fx hkC hz hA hP hD hS (c_CN_launch l F uC _ h1) (cw_V fx.2.2.2.2 a_250 a_251 a_252 a_1 ac_CN_launch rfl rfl rfl hd_CN_launch ⟨Nat.le_of_ble_eq_true rfl, Nat.le_of_ble_eq_true rfl⟩) 0 rfl rfl rfl rfl hl.1 rfl (Nat.le_of_ble_eq_true rfl) d_Law_law_343 (Nat.le_of_ble_eq_true rfl) (Nat.le_of_ble_eq_true rfl) (fun r' u' H locs hp hP hD hS => ?_)
      cases hp
      refine lv_aload_n hx hb d_Law_law_346 rfl (lv_at hl 2 rfl) ?_
      refine lw_cr (As := []) (rest := [.int r]) ZsM_ok fx hkM trivial hA hP hD hS (c_Md_launch l F uM _ h2) (cw_V fx.2.2.2.2 a_604 a_605 a_606 a_6 ac_Md_launch rfl rfl rfl hd_Md_launch ⟨Nat.le_of_ble_eq_true rfl, Nat.le_of_ble_eq_true rfl⟩) 0 rfl rfl rfl rfl hl.1 rfl (Nat.le_of_ble_eq_true rfl) d_Law_law_347 (Nat.le_of_ble_eq_true rfl) (Nat.le_of_ble_eq_true rfl) (fun r' u' H locs hp hP hD hS => ?_)
      cases hp
      refine lv_icmp_eq (tgt := 664) hx hb d_Law_law_350 (by decide) (fun _ => ?_) (fun hne => absurd rfl hne)
      exact next _ _ _ _ hR' hP hD hS
    by_cases hc5 : sw = (5 : Int32)
    · refine lv_tableIn (off := 322) (tgt := 355) hx hb d_Law_law_33 (by rw [hc5]; decide) (by rw [hc5]; decide) (by rw [hc5]; decide) (by decide) ?_
      refine lv_aload_n hx hb d_Law_law_355 rfl (lv_at hl 1 rfl) ?_
      obtain ⟨r, uC', uM', h1, h2, hR'⟩ := HS.2.2.2.2.2.1 uC uM hR 
      refine lw_cl (As := []) (rest := []) ZsC_ok fx hkC hz hA hP hD hS (c_CN_cancel l F uC _ h1) (cw_V fx.2.2.2.2 a_258 a_259 a_260 a_1 ac_CN_cancel rfl rfl rfl hd_CN_cancel ⟨Nat.le_of_ble_eq_true rfl, Nat.le_of_ble_eq_true rfl⟩) 0 rfl rfl rfl rfl hl.1 rfl (Nat.le_of_ble_eq_true rfl) d_Law_law_356 (Nat.le_of_ble_eq_true rfl) (Nat.le_of_ble_eq_true rfl) (fun r' u' H locs hp hP hD hS => ?_)
      cases hp
      refine lv_aload_n hx hb d_Law_law_359 rfl (lv_at hl 2 rfl) ?_
      refine lw_cr (As := []) (rest := [.int r]) ZsM_ok fx hkM trivial hA hP hD hS (c_Md_cancel l F uM _ h2) (cw_V fx.2.2.2.2 a_612 a_613 a_614 a_6 ac_Md_cancel rfl rfl rfl hd_Md_cancel ⟨Nat.le_of_ble_eq_true rfl, Nat.le_of_ble_eq_true rfl⟩) 0 rfl rfl rfl rfl hl.1 rfl (Nat.le_of_ble_eq_true rfl) d_Law_law_360 (Nat.le_of_ble_eq_true rfl) (Nat.le_of_ble_eq_true rfl) (fun r' u' H locs hp hP hD hS => ?_)
      cases hp
      refine lv_icmp_eq (tgt := 664) hx hb d_Law_law_363 (by decide) (fun _ => ?_) (fun hne => absurd rfl hne)
      exact next _ _ _ _ hR' hP hD hS
    by_cases hc6 : sw = (6 : Int32)
    · refine lv_tableIn (off := 335) (tgt := 368) hx hb d_Law_law_33 (by rw [hc6]; decide) (by rw [hc6]; decide) (by rw [hc6]; decide) (by decide) ?_
      refine lv_aload_n hx hb d_Law_law_368 rfl (lv_at hl 1 rfl) ?_
      obtain ⟨r, uC', uM', h1, h2, hR'⟩ := HS.2.2.2.2.2.2.1 uC uM hR 
      refine lw_cl (As := []) (rest := []) ZsC_ok fx hkC hz hA hP hD hS (c_CN_enabled l F uC _ h1) (cw_V fx.2.2.2.2 a_278 a_279 a_280 a_1 ac_CN_enabled rfl rfl rfl hd_CN_enabled ⟨Nat.le_of_ble_eq_true rfl, Nat.le_of_ble_eq_true rfl⟩) 0 rfl rfl rfl rfl hl.1 rfl (Nat.le_of_ble_eq_true rfl) d_Law_law_369 (Nat.le_of_ble_eq_true rfl) (Nat.le_of_ble_eq_true rfl) (fun r' u' H locs hp hP hD hS => ?_)
      cases hp
      refine lv_aload_n hx hb d_Law_law_372 rfl (lv_at hl 2 rfl) ?_
      refine lw_cr (As := []) (rest := [.int r]) ZsM_ok fx hkM trivial hA hP hD hS (c_Md_enabled l F uM _ h2) (cw_V fx.2.2.2.2 a_624 a_625 a_626 a_6 ac_Md_enabled rfl rfl rfl hd_Md_enabled ⟨Nat.le_of_ble_eq_true rfl, Nat.le_of_ble_eq_true rfl⟩) 0 rfl rfl rfl rfl hl.1 rfl (Nat.le_of_ble_eq_true rfl) d_Law_law_373 (Nat.le_of_ble_eq_true rfl) (Nat.le_of_ble_eq_true rfl) (fun r' u' H locs hp hP hD hS => ?_)
      cases hp
      refine lv_icmp_eq (tgt := 664) hx hb d_Law_law_376 (by decide) (fun _ => ?_) (fun hne => absurd rfl hne)
      exact next _ _ _ _ hR' hP hD hS
    by_cases hc7 : sw = (7 : Int32)
    · refine lv_tableIn (off := 348) (tgt := 381) hx hb d_Law_law_33 (by rw [hc7]; decide) (by rw [hc7]; decide) (by rw [hc7]; decide) (by decide) ?_
      refine lv_aload_n hx hb d_Law_law_381 rfl (lv_at hl 1 rfl) ?_
      refine lv_aload_n hx hb d_Law_law_382 rfl (lv_at hl 0 rfl) ?_
      refine lv_iload_n hx hb d_Law_law_383 rfl (lv_at hl 3 rfl) ?_
      refine lv_iconst (v := 1) hx hb d_Law_law_384 (by decide) ?_
      refine lv_iadd hx hb d_Law_law_385 ?_
      refine va_sld hx hb hX hbl hbA hS (lw_ix hL 1 (by omega)) d_Law_law_386 ?_
      obtain ⟨r, uC', uM', h1, h2, hR'⟩ := HS.2.2.2.2.2.2.2.1 uC uM hR (xs (nI (6 * k) + (1 : Int32)).toNatClampNeg)
      refine lw_cl (As := [.int (xs (nI (6 * k) + (1 : Int32)).toNatClampNeg)]) (rest := []) ZsC_ok fx hkC hz hA hP hD hS (c_CN_fire l F (xs (nI (6 * k) + (1 : Int32)).toNatClampNeg) uC _ h1) (cw_V fx.2.2.2.2 a_338 a_339 a_340 a_1 ac_CN_fire rfl rfl rfl hd_CN_fire ⟨Nat.le_of_ble_eq_true rfl, Nat.le_of_ble_eq_true rfl⟩) 0 rfl rfl rfl rfl hl.1 rfl (Nat.le_of_ble_eq_true rfl) d_Law_law_387 (Nat.le_of_ble_eq_true rfl) (Nat.le_of_ble_eq_true rfl) (fun r' u' H locs hp hP hD hS => ?_)
      cases hp
      refine lv_aload_n hx hb d_Law_law_390 rfl (lv_at hl 2 rfl) ?_
      refine lv_aload_n hx hb d_Law_law_391 rfl (lv_at hl 0 rfl) ?_
      refine lv_iload_n hx hb d_Law_law_392 rfl (lv_at hl 3 rfl) ?_
      refine lv_iconst (v := 1) hx hb d_Law_law_393 (by decide) ?_
      refine lv_iadd hx hb d_Law_law_394 ?_
      refine va_sld hx hb hX hbl hbA hS (lw_ix hL 1 (by omega)) d_Law_law_395 ?_
      refine lw_cr (As := [.int (xs (nI (6 * k) + (1 : Int32)).toNatClampNeg)]) (rest := [.int r]) ZsM_ok fx hkM trivial hA hP hD hS (c_Md_fire l F (xs (nI (6 * k) + (1 : Int32)).toNatClampNeg) uM _ h2) (cw_V fx.2.2.2.2 a_636 a_637 a_638 a_6 ac_Md_fire rfl rfl rfl hd_Md_fire ⟨Nat.le_of_ble_eq_true rfl, Nat.le_of_ble_eq_true rfl⟩) 0 rfl rfl rfl rfl hl.1 rfl (Nat.le_of_ble_eq_true rfl) d_Law_law_396 (Nat.le_of_ble_eq_true rfl) (Nat.le_of_ble_eq_true rfl) (fun r' u' H locs hp hP hD hS => ?_)
      cases hp
      refine lv_icmp_eq (tgt := 664) hx hb d_Law_law_399 (by decide) (fun _ => ?_) (fun hne => absurd rfl hne)
      exact next _ _ _ _ hR' hP hD hS
    by_cases hc8 : sw = (8 : Int32)
    · refine lv_tableIn (off := 371) (tgt := 404) hx hb d_Law_law_33 (by rw [hc8]; decide) (by rw [hc8]; decide) (by rw [hc8]; decide) (by decide) ?_
      refine lv_aload_n hx hb d_Law_law_404 rfl (lv_at hl 1 rfl) ?_
      refine lv_aload_n hx hb d_Law_law_405 rfl (lv_at hl 0 rfl) ?_
      refine lv_iload_n hx hb d_Law_law_406 rfl (lv_at hl 3 rfl) ?_
      refine lv_iconst (v := 1) hx hb d_Law_law_407 (by decide) ?_
      refine lv_iadd hx hb d_Law_law_408 ?_
      refine va_sld hx hb hX hbl hbA hS (lw_ix hL 1 (by omega)) d_Law_law_409 ?_
      obtain ⟨r, uC', uM', h1, h2, hR'⟩ := HS.2.2.2.2.2.2.2.2.1 uC uM hR (xs (nI (6 * k) + (1 : Int32)).toNatClampNeg)
      refine lw_cl (As := [.int (xs (nI (6 * k) + (1 : Int32)).toNatClampNeg)]) (rest := []) ZsC_ok fx hkC hz hA hP hD hS (c_CN_start l (xs (nI (6 * k) + (1 : Int32)).toNatClampNeg) uC _ h1) (cw_V fx.2.2.2.2 a_354 a_355 a_356 a_1 ac_CN_start rfl rfl rfl hd_CN_start ⟨Nat.le_of_ble_eq_true rfl, Nat.le_of_ble_eq_true rfl⟩) 0 rfl rfl rfl rfl hl.1 rfl (Nat.le_of_ble_eq_true rfl) d_Law_law_410 (Nat.le_of_ble_eq_true rfl) (Nat.le_of_ble_eq_true rfl) (fun r' u' H locs hp hP hD hS => ?_)
      cases hp
      refine lv_aload_n hx hb d_Law_law_413 rfl (lv_at hl 2 rfl) ?_
      refine lv_aload_n hx hb d_Law_law_414 rfl (lv_at hl 0 rfl) ?_
      refine lv_iload_n hx hb d_Law_law_415 rfl (lv_at hl 3 rfl) ?_
      refine lv_iconst (v := 1) hx hb d_Law_law_416 (by decide) ?_
      refine lv_iadd hx hb d_Law_law_417 ?_
      refine va_sld hx hb hX hbl hbA hS (lw_ix hL 1 (by omega)) d_Law_law_418 ?_
      refine lw_cr (As := [.int (xs (nI (6 * k) + (1 : Int32)).toNatClampNeg)]) (rest := [.int r]) ZsM_ok fx hkM trivial hA hP hD hS (c_Md_start l (xs (nI (6 * k) + (1 : Int32)).toNatClampNeg) uM _ h2) (cw_V fx.2.2.2.2 a_640 a_641 a_642 a_6 ac_Md_start rfl rfl rfl hd_Md_start ⟨Nat.le_of_ble_eq_true rfl, Nat.le_of_ble_eq_true rfl⟩) 0 rfl rfl rfl rfl hl.1 rfl (Nat.le_of_ble_eq_true rfl) d_Law_law_419 (Nat.le_of_ble_eq_true rfl) (Nat.le_of_ble_eq_true rfl) (fun r' u' H locs hp hP hD hS => ?_)
      cases hp
      refine lv_icmp_eq (tgt := 664) hx hb d_Law_law_422 (by decide) (fun _ => ?_) (fun hne => absurd rfl hne)
      exact next _ _ _ _ hR' hP hD hS
    by_cases hc9 : sw = (9 : Int32)
    · refine lv_tableIn (off := 394) (tgt := 427) hx hb d_Law_law_33 (by rw [hc9]; decide) (by rw [hc9]; decide) (by rw [hc9]; decide) (by decide) ?_
      refine lv_aload_n hx hb d_Law_law_427 rfl (lv_at hl 1 rfl) ?_
      refine lv_aload_n hx hb d_Law_law_428 rfl (lv_at hl 0 rfl) ?_
      refine lv_iload_n hx hb d_Law_law_429 rfl (lv_at hl 3 rfl) ?_
      refine lv_iconst (v := 1) hx hb d_Law_law_430 (by decide) ?_
      refine lv_iadd hx hb d_Law_law_431 ?_
      refine va_sld hx hb hX hbl hbA hS (lw_ix hL 1 (by omega)) d_Law_law_432 ?_
      refine lv_aload_n hx hb d_Law_law_433 rfl (lv_at hl 0 rfl) ?_
      refine lv_iload_n hx hb d_Law_law_434 rfl (lv_at hl 3 rfl) ?_
      refine lv_iconst (v := 2) hx hb d_Law_law_435 (by decide) ?_
      refine lv_iadd hx hb d_Law_law_436 ?_
      refine va_sld hx hb hX hbl hbA hS (lw_ix hL 2 (by omega)) d_Law_law_437 ?_
      obtain ⟨r, uC', uM', h1, h2, hR'⟩ := HS.2.2.2.2.2.2.2.2.2.1 uC uM hR (xs (nI (6 * k) + (1 : Int32)).toNatClampNeg) (xs (nI (6 * k) + (2 : Int32)).toNatClampNeg)
      refine lw_cl (As := [.int (xs (nI (6 * k) + (1 : Int32)).toNatClampNeg), .int (xs (nI (6 * k) + (2 : Int32)).toNatClampNeg)]) (rest := []) ZsC_ok fx hkC hz hA hP hD hS (c_CN_finish l F (xs (nI (6 * k) + (1 : Int32)).toNatClampNeg) (xs (nI (6 * k) + (2 : Int32)).toNatClampNeg) uC _ h1) (cw_V fx.2.2.2.2 a_362 a_363 a_364 a_1 ac_CN_finish rfl rfl rfl hd_CN_finish ⟨Nat.le_of_ble_eq_true rfl, Nat.le_of_ble_eq_true rfl⟩) 0 rfl rfl rfl rfl hl.1 rfl (Nat.le_of_ble_eq_true rfl) d_Law_law_438 (Nat.le_of_ble_eq_true rfl) (Nat.le_of_ble_eq_true rfl) (fun r' u' H locs hp hP hD hS => ?_)
      cases hp
      refine lv_aload_n hx hb d_Law_law_441 rfl (lv_at hl 2 rfl) ?_
      refine lv_aload_n hx hb d_Law_law_442 rfl (lv_at hl 0 rfl) ?_
      refine lv_iload_n hx hb d_Law_law_443 rfl (lv_at hl 3 rfl) ?_
      refine lv_iconst (v := 1) hx hb d_Law_law_444 (by decide) ?_
      refine lv_iadd hx hb d_Law_law_445 ?_
      refine va_sld hx hb hX hbl hbA hS (lw_ix hL 1 (by omega)) d_Law_law_446 ?_
      refine lv_aload_n hx hb d_Law_law_447 rfl (lv_at hl 0 rfl) ?_
      refine lv_iload_n hx hb d_Law_law_448 rfl (lv_at hl 3 rfl) ?_
      refine lv_iconst (v := 2) hx hb d_Law_law_449 (by decide) ?_
      refine lv_iadd hx hb d_Law_law_450 ?_
      refine va_sld hx hb hX hbl hbA hS (lw_ix hL 2 (by omega)) d_Law_law_451 ?_
      refine lw_cr (As := [.int (xs (nI (6 * k) + (1 : Int32)).toNatClampNeg), .int (xs (nI (6 * k) + (2 : Int32)).toNatClampNeg)]) (rest := [.int r]) ZsM_ok fx hkM trivial hA hP hD hS (c_Md_finish l F (xs (nI (6 * k) + (1 : Int32)).toNatClampNeg) (xs (nI (6 * k) + (2 : Int32)).toNatClampNeg) uM _ h2) (cw_V fx.2.2.2.2 a_648 a_649 a_650 a_6 ac_Md_finish rfl rfl rfl hd_Md_finish ⟨Nat.le_of_ble_eq_true rfl, Nat.le_of_ble_eq_true rfl⟩) 0 rfl rfl rfl rfl hl.1 rfl (Nat.le_of_ble_eq_true rfl) d_Law_law_452 (Nat.le_of_ble_eq_true rfl) (Nat.le_of_ble_eq_true rfl) (fun r' u' H locs hp hP hD hS => ?_)
      cases hp
      refine lv_icmp_eq (tgt := 664) hx hb d_Law_law_455 (by decide) (fun _ => ?_) (fun hne => absurd rfl hne)
      exact next _ _ _ _ hR' hP hD hS
    by_cases hc10 : sw = (10 : Int32)
    · refine lv_tableIn (off := 427) (tgt := 460) hx hb d_Law_law_33 (by rw [hc10]; decide) (by rw [hc10]; decide) (by rw [hc10]; decide) (by decide) ?_
      refine lv_aload_n hx hb d_Law_law_460 rfl (lv_at hl 1 rfl) ?_
      refine lv_aload_n hx hb d_Law_law_461 rfl (lv_at hl 0 rfl) ?_
      refine lv_iload_n hx hb d_Law_law_462 rfl (lv_at hl 3 rfl) ?_
      refine lv_iconst (v := 1) hx hb d_Law_law_463 (by decide) ?_
      refine lv_iadd hx hb d_Law_law_464 ?_
      refine va_sld hx hb hX hbl hbA hS (lw_ix hL 1 (by omega)) d_Law_law_465 ?_
      obtain ⟨r, uC', uM', h1, h2, hR'⟩ := HS.2.2.2.2.2.2.2.2.2.2.1 uC uM hR (xs (nI (6 * k) + (1 : Int32)).toNatClampNeg)
      refine lw_cl (As := [.int (xs (nI (6 * k) + (1 : Int32)).toNatClampNeg)]) (rest := []) ZsC_ok fx hkC hz hA hP hD hS (c_CN_fail l F (xs (nI (6 * k) + (1 : Int32)).toNatClampNeg) uC _ h1) (cw_V fx.2.2.2.2 a_390 a_391 a_392 a_1 ac_CN_fail rfl rfl rfl hd_CN_fail ⟨Nat.le_of_ble_eq_true rfl, Nat.le_of_ble_eq_true rfl⟩) 0 rfl rfl rfl rfl hl.1 rfl (Nat.le_of_ble_eq_true rfl) d_Law_law_466 (Nat.le_of_ble_eq_true rfl) (Nat.le_of_ble_eq_true rfl) (fun r' u' H locs hp hP hD hS => ?_)
      cases hp
      refine lv_aload_n hx hb d_Law_law_469 rfl (lv_at hl 2 rfl) ?_
      refine lv_aload_n hx hb d_Law_law_470 rfl (lv_at hl 0 rfl) ?_
      refine lv_iload_n hx hb d_Law_law_471 rfl (lv_at hl 3 rfl) ?_
      refine lv_iconst (v := 1) hx hb d_Law_law_472 (by decide) ?_
      refine lv_iadd hx hb d_Law_law_473 ?_
      refine va_sld hx hb hX hbl hbA hS (lw_ix hL 1 (by omega)) d_Law_law_474 ?_
      refine lw_cr (As := [.int (xs (nI (6 * k) + (1 : Int32)).toNatClampNeg)]) (rest := [.int r]) ZsM_ok fx hkM trivial hA hP hD hS (c_Md_fail l F (xs (nI (6 * k) + (1 : Int32)).toNatClampNeg) uM _ h2) (cw_V fx.2.2.2.2 a_660 a_661 a_662 a_6 ac_Md_fail rfl rfl rfl hd_Md_fail ⟨Nat.le_of_ble_eq_true rfl, Nat.le_of_ble_eq_true rfl⟩) 0 rfl rfl rfl rfl hl.1 rfl (Nat.le_of_ble_eq_true rfl) d_Law_law_475 (Nat.le_of_ble_eq_true rfl) (Nat.le_of_ble_eq_true rfl) (fun r' u' H locs hp hP hD hS => ?_)
      cases hp
      refine lv_icmp_eq (tgt := 664) hx hb d_Law_law_478 (by decide) (fun _ => ?_) (fun hne => absurd rfl hne)
      exact next _ _ _ _ hR' hP hD hS
    by_cases hc11 : sw = (11 : Int32)
    · refine lv_tableIn (off := 450) (tgt := 483) hx hb d_Law_law_33 (by rw [hc11]; decide) (by rw [hc11]; decide) (by rw [hc11]; decide) (by decide) ?_
      refine lv_aload_n hx hb d_Law_law_483 rfl (lv_at hl 1 rfl) ?_
      refine lv_aload_n hx hb d_Law_law_484 rfl (lv_at hl 0 rfl) ?_
      refine lv_iload_n hx hb d_Law_law_485 rfl (lv_at hl 3 rfl) ?_
      refine lv_iconst (v := 1) hx hb d_Law_law_486 (by decide) ?_
      refine lv_iadd hx hb d_Law_law_487 ?_
      refine va_sld hx hb hX hbl hbA hS (lw_ix hL 1 (by omega)) d_Law_law_488 ?_
      obtain ⟨r, uC', uM', h1, h2, hR'⟩ := HS.2.2.2.2.2.2.2.2.2.2.2.1 uC uM hR (xs (nI (6 * k) + (1 : Int32)).toNatClampNeg)
      refine lw_cl (As := [.int (xs (nI (6 * k) + (1 : Int32)).toNatClampNeg)]) (rest := []) ZsC_ok fx hkC hz hA hP hD hS (c_CN_tick l F (xs (nI (6 * k) + (1 : Int32)).toNatClampNeg) uC _ h1) (cw_V fx.2.2.2.2 a_399 a_400 a_401 a_1 ac_CN_tick rfl rfl rfl hd_CN_tick ⟨Nat.le_of_ble_eq_true rfl, Nat.le_of_ble_eq_true rfl⟩) 0 rfl rfl rfl rfl hl.1 rfl (Nat.le_of_ble_eq_true rfl) d_Law_law_489 (Nat.le_of_ble_eq_true rfl) (Nat.le_of_ble_eq_true rfl) (fun r' u' H locs hp hP hD hS => ?_)
      cases hp
      refine lv_aload_n hx hb d_Law_law_492 rfl (lv_at hl 2 rfl) ?_
      refine lv_aload_n hx hb d_Law_law_493 rfl (lv_at hl 0 rfl) ?_
      refine lv_iload_n hx hb d_Law_law_494 rfl (lv_at hl 3 rfl) ?_
      refine lv_iconst (v := 1) hx hb d_Law_law_495 (by decide) ?_
      refine lv_iadd hx hb d_Law_law_496 ?_
      refine va_sld hx hb hX hbl hbA hS (lw_ix hL 1 (by omega)) d_Law_law_497 ?_
      refine lw_cr (As := [.int (xs (nI (6 * k) + (1 : Int32)).toNatClampNeg)]) (rest := [.int r]) ZsM_ok fx hkM trivial hA hP hD hS (c_Md_tick l F (xs (nI (6 * k) + (1 : Int32)).toNatClampNeg) uM _ h2) (cw_V fx.2.2.2.2 a_668 a_669 a_670 a_6 ac_Md_tick rfl rfl rfl hd_Md_tick ⟨Nat.le_of_ble_eq_true rfl, Nat.le_of_ble_eq_true rfl⟩) 0 rfl rfl rfl rfl hl.1 rfl (Nat.le_of_ble_eq_true rfl) d_Law_law_498 (Nat.le_of_ble_eq_true rfl) (Nat.le_of_ble_eq_true rfl) (fun r' u' H locs hp hP hD hS => ?_)
      cases hp
      refine lv_icmp_eq (tgt := 664) hx hb d_Law_law_501 (by decide) (fun _ => ?_) (fun hne => absurd rfl hne)
      exact next _ _ _ _ hR' hP hD hS
    by_cases hc12 : sw = (12 : Int32)
    · refine lv_tableIn (off := 473) (tgt := 506) hx hb d_Law_law_33 (by rw [hc12]; decide) (by rw [hc12]; decide) (by rw [hc12]; decide) (by decide) ?_
      refine lv_aload_n hx hb d_Law_law_506 rfl (lv_at hl 1 rfl) ?_
      refine lv_aload_n hx hb d_Law_law_507 rfl (lv_at hl 0 rfl) ?_
      refine lv_iload_n hx hb d_Law_law_508 rfl (lv_at hl 3 rfl) ?_
      refine lv_iconst (v := 1) hx hb d_Law_law_509 (by decide) ?_
      refine lv_iadd hx hb d_Law_law_510 ?_
      refine va_sld hx hb hX hbl hbA hS (lw_ix hL 1 (by omega)) d_Law_law_511 ?_
      refine lv_aload_n hx hb d_Law_law_512 rfl (lv_at hl 0 rfl) ?_
      refine lv_iload_n hx hb d_Law_law_513 rfl (lv_at hl 3 rfl) ?_
      refine lv_iconst (v := 2) hx hb d_Law_law_514 (by decide) ?_
      refine lv_iadd hx hb d_Law_law_515 ?_
      refine va_sld hx hb hX hbl hbA hS (lw_ix hL 2 (by omega)) d_Law_law_516 ?_
      obtain ⟨r, uC', uM', h1, h2, hR'⟩ := HS.2.2.2.2.2.2.2.2.2.2.2.2.1 uC uM hR (xs (nI (6 * k) + (1 : Int32)).toNatClampNeg) (xs (nI (6 * k) + (2 : Int32)).toNatClampNeg)
      refine lw_cl (As := [.int (xs (nI (6 * k) + (1 : Int32)).toNatClampNeg), .int (xs (nI (6 * k) + (2 : Int32)).toNatClampNeg)]) (rest := []) ZsC_ok fx hkC hz hA hP hD hS (c_CN_set l (xs (nI (6 * k) + (1 : Int32)).toNatClampNeg) (xs (nI (6 * k) + (2 : Int32)).toNatClampNeg) uC _ h1) (cw_V fx.2.2.2.2 a_407 a_408 a_409 a_1 ac_CN_set rfl rfl rfl hd_CN_set ⟨Nat.le_of_ble_eq_true rfl, Nat.le_of_ble_eq_true rfl⟩) 0 rfl rfl rfl rfl hl.1 rfl (Nat.le_of_ble_eq_true rfl) d_Law_law_517 (Nat.le_of_ble_eq_true rfl) (Nat.le_of_ble_eq_true rfl) (fun r' u' H locs hp hP hD hS => ?_)
      cases hp
      refine lv_aload_n hx hb d_Law_law_520 rfl (lv_at hl 2 rfl) ?_
      refine lv_aload_n hx hb d_Law_law_521 rfl (lv_at hl 0 rfl) ?_
      refine lv_iload_n hx hb d_Law_law_522 rfl (lv_at hl 3 rfl) ?_
      refine lv_iconst (v := 1) hx hb d_Law_law_523 (by decide) ?_
      refine lv_iadd hx hb d_Law_law_524 ?_
      refine va_sld hx hb hX hbl hbA hS (lw_ix hL 1 (by omega)) d_Law_law_525 ?_
      refine lv_aload_n hx hb d_Law_law_526 rfl (lv_at hl 0 rfl) ?_
      refine lv_iload_n hx hb d_Law_law_527 rfl (lv_at hl 3 rfl) ?_
      refine lv_iconst (v := 2) hx hb d_Law_law_528 (by decide) ?_
      refine lv_iadd hx hb d_Law_law_529 ?_
      refine va_sld hx hb hX hbl hbA hS (lw_ix hL 2 (by omega)) d_Law_law_530 ?_
      refine lw_cr (As := [.int (xs (nI (6 * k) + (1 : Int32)).toNatClampNeg), .int (xs (nI (6 * k) + (2 : Int32)).toNatClampNeg)]) (rest := [.int r]) ZsM_ok fx hkM trivial hA hP hD hS (c_Md_set l (xs (nI (6 * k) + (1 : Int32)).toNatClampNeg) (xs (nI (6 * k) + (2 : Int32)).toNatClampNeg) uM _ h2) (cw_V fx.2.2.2.2 a_672 a_673 a_674 a_6 ac_Md_set rfl rfl rfl hd_Md_set ⟨Nat.le_of_ble_eq_true rfl, Nat.le_of_ble_eq_true rfl⟩) 0 rfl rfl rfl rfl hl.1 rfl (Nat.le_of_ble_eq_true rfl) d_Law_law_531 (Nat.le_of_ble_eq_true rfl) (Nat.le_of_ble_eq_true rfl) (fun r' u' H locs hp hP hD hS => ?_)
      cases hp
      refine lv_icmp_eq (tgt := 664) hx hb d_Law_law_534 (by decide) (fun _ => ?_) (fun hne => absurd rfl hne)
      exact next _ _ _ _ hR' hP hD hS
    by_cases hc13 : sw = (13 : Int32)
    · refine lv_tableIn (off := 506) (tgt := 539) hx hb d_Law_law_33 (by rw [hc13]; decide) (by rw [hc13]; decide) (by rw [hc13]; decide) (by decide) ?_
      refine lv_aload_n hx hb d_Law_law_539 rfl (lv_at hl 1 rfl) ?_
      refine lv_aload_n hx hb d_Law_law_540 rfl (lv_at hl 0 rfl) ?_
      refine lv_iload_n hx hb d_Law_law_541 rfl (lv_at hl 3 rfl) ?_
      refine lv_iconst (v := 1) hx hb d_Law_law_542 (by decide) ?_
      refine lv_iadd hx hb d_Law_law_543 ?_
      refine va_sld hx hb hX hbl hbA hS (lw_ix hL 1 (by omega)) d_Law_law_544 ?_
      obtain ⟨r, uC', uM', h1, h2, hR'⟩ := HS.2.2.2.2.2.2.2.2.2.2.2.2.2.1 uC uM hR (xs (nI (6 * k) + (1 : Int32)).toNatClampNeg)
      refine lw_cl (As := [.int (xs (nI (6 * k) + (1 : Int32)).toNatClampNeg)]) (rest := []) ZsC_ok fx hkC hz hA hP hD hS (c_CN_variable l (xs (nI (6 * k) + (1 : Int32)).toNatClampNeg) uC _ h1) (cw_V fx.2.2.2.2 a_411 a_412 a_413 a_1 ac_CN_variable rfl rfl rfl hd_CN_variable ⟨Nat.le_of_ble_eq_true rfl, Nat.le_of_ble_eq_true rfl⟩) 0 rfl rfl rfl rfl hl.1 rfl (Nat.le_of_ble_eq_true rfl) d_Law_law_545 (Nat.le_of_ble_eq_true rfl) (Nat.le_of_ble_eq_true rfl) (fun r' u' H locs hp hP hD hS => ?_)
      cases hp
      refine lv_aload_n hx hb d_Law_law_548 rfl (lv_at hl 2 rfl) ?_
      refine lv_aload_n hx hb d_Law_law_549 rfl (lv_at hl 0 rfl) ?_
      refine lv_iload_n hx hb d_Law_law_550 rfl (lv_at hl 3 rfl) ?_
      refine lv_iconst (v := 1) hx hb d_Law_law_551 (by decide) ?_
      refine lv_iadd hx hb d_Law_law_552 ?_
      refine va_sld hx hb hX hbl hbA hS (lw_ix hL 1 (by omega)) d_Law_law_553 ?_
      refine lw_cr (As := [.int (xs (nI (6 * k) + (1 : Int32)).toNatClampNeg)]) (rest := [.int r]) ZsM_ok fx hkM trivial hA hP hD hS (c_Md_variable l (xs (nI (6 * k) + (1 : Int32)).toNatClampNeg) uM _ h2) (cw_V fx.2.2.2.2 a_676 a_677 a_678 a_6 ac_Md_variable rfl rfl rfl hd_Md_variable ⟨Nat.le_of_ble_eq_true rfl, Nat.le_of_ble_eq_true rfl⟩) 0 rfl rfl rfl rfl hl.1 rfl (Nat.le_of_ble_eq_true rfl) d_Law_law_554 (Nat.le_of_ble_eq_true rfl) (Nat.le_of_ble_eq_true rfl) (fun r' u' H locs hp hP hD hS => ?_)
      cases hp
      refine lv_icmp_eq (tgt := 664) hx hb d_Law_law_557 (by decide) (fun _ => ?_) (fun hne => absurd rfl hne)
      exact next _ _ _ _ hR' hP hD hS
    by_cases hc14 : sw = (14 : Int32)
    · refine lv_tableIn (off := 529) (tgt := 562) hx hb d_Law_law_33 (by rw [hc14]; decide) (by rw [hc14]; decide) (by rw [hc14]; decide) (by decide) ?_
      refine lv_aload_n hx hb d_Law_law_562 rfl (lv_at hl 1 rfl) ?_
      obtain ⟨r, uC', uM', h1, h2, hR'⟩ := HS.2.2.2.2.2.2.2.2.2.2.2.2.2.2.1 uC uM hR 
      refine lw_cl (As := []) (rest := []) ZsC_ok fx hkC hz hA hP hD hS (c_CN_marking l uC _ h1) (cw_V fx.2.2.2.2 a_415 a_416 a_417 a_1 ac_CN_marking rfl rfl rfl hd_CN_marking ⟨Nat.le_of_ble_eq_true rfl, Nat.le_of_ble_eq_true rfl⟩) 0 rfl rfl rfl rfl hl.1 rfl (Nat.le_of_ble_eq_true rfl) d_Law_law_563 (Nat.le_of_ble_eq_true rfl) (Nat.le_of_ble_eq_true rfl) (fun r' u' H locs hp hP hD hS => ?_)
      cases hp
      refine lv_aload_n hx hb d_Law_law_566 rfl (lv_at hl 2 rfl) ?_
      refine lw_cr (As := []) (rest := [.int r]) ZsM_ok fx hkM trivial hA hP hD hS (c_Md_marking l uM _ h2) (cw_V fx.2.2.2.2 a_680 a_681 a_682 a_6 ac_Md_marking rfl rfl rfl hd_Md_marking ⟨Nat.le_of_ble_eq_true rfl, Nat.le_of_ble_eq_true rfl⟩) 0 rfl rfl rfl rfl hl.1 rfl (Nat.le_of_ble_eq_true rfl) d_Law_law_567 (Nat.le_of_ble_eq_true rfl) (Nat.le_of_ble_eq_true rfl) (fun r' u' H locs hp hP hD hS => ?_)
      cases hp
      refine lv_icmp_eq (tgt := 664) hx hb d_Law_law_570 (by decide) (fun _ => ?_) (fun hne => absurd rfl hne)
      exact next _ _ _ _ hR' hP hD hS
    by_cases hc15 : sw = (15 : Int32)
    · refine lv_tableIn (off := 542) (tgt := 575) hx hb d_Law_law_33 (by rw [hc15]; decide) (by rw [hc15]; decide) (by rw [hc15]; decide) (by decide) ?_
      refine lv_aload_n hx hb d_Law_law_575 rfl (lv_at hl 1 rfl) ?_
      refine lv_aload_n hx hb d_Law_law_576 rfl (lv_at hl 0 rfl) ?_
      refine lv_iload_n hx hb d_Law_law_577 rfl (lv_at hl 3 rfl) ?_
      refine lv_iconst (v := 1) hx hb d_Law_law_578 (by decide) ?_
      refine lv_iadd hx hb d_Law_law_579 ?_
      refine va_sld hx hb hX hbl hbA hS (lw_ix hL 1 (by omega)) d_Law_law_580 ?_
      refine lv_aload_n hx hb d_Law_law_581 rfl (lv_at hl 0 rfl) ?_
      refine lv_iload_n hx hb d_Law_law_582 rfl (lv_at hl 3 rfl) ?_
      refine lv_iconst (v := 2) hx hb d_Law_law_583 (by decide) ?_
      refine lv_iadd hx hb d_Law_law_584 ?_
      refine va_sld hx hb hX hbl hbA hS (lw_ix hL 2 (by omega)) d_Law_law_585 ?_
      obtain ⟨r, uC', uM', h1, h2, hR'⟩ := HS.2.2.2.2.2.2.2.2.2.2.2.2.2.2.2.1 uC uM hR (xs (nI (6 * k) + (1 : Int32)).toNatClampNeg) (xs (nI (6 * k) + (2 : Int32)).toNatClampNeg)
      refine lw_cl (As := [.int (xs (nI (6 * k) + (1 : Int32)).toNatClampNeg), .int (xs (nI (6 * k) + (2 : Int32)).toNatClampNeg)]) (rest := []) ZsC_ok fx hkC hz hA hP hD hS (c_CN_item l (xs (nI (6 * k) + (1 : Int32)).toNatClampNeg) (xs (nI (6 * k) + (2 : Int32)).toNatClampNeg) uC _ h1) (cw_V fx.2.2.2.2 a_419 a_420 a_421 a_1 ac_CN_item rfl rfl rfl hd_CN_item ⟨Nat.le_of_ble_eq_true rfl, Nat.le_of_ble_eq_true rfl⟩) 0 rfl rfl rfl rfl hl.1 rfl (Nat.le_of_ble_eq_true rfl) d_Law_law_586 (Nat.le_of_ble_eq_true rfl) (Nat.le_of_ble_eq_true rfl) (fun r' u' H locs hp hP hD hS => ?_)
      cases hp
      refine lv_aload_n hx hb d_Law_law_589 rfl (lv_at hl 2 rfl) ?_
      refine lv_aload_n hx hb d_Law_law_590 rfl (lv_at hl 0 rfl) ?_
      refine lv_iload_n hx hb d_Law_law_591 rfl (lv_at hl 3 rfl) ?_
      refine lv_iconst (v := 1) hx hb d_Law_law_592 (by decide) ?_
      refine lv_iadd hx hb d_Law_law_593 ?_
      refine va_sld hx hb hX hbl hbA hS (lw_ix hL 1 (by omega)) d_Law_law_594 ?_
      refine lv_aload_n hx hb d_Law_law_595 rfl (lv_at hl 0 rfl) ?_
      refine lv_iload_n hx hb d_Law_law_596 rfl (lv_at hl 3 rfl) ?_
      refine lv_iconst (v := 2) hx hb d_Law_law_597 (by decide) ?_
      refine lv_iadd hx hb d_Law_law_598 ?_
      refine va_sld hx hb hX hbl hbA hS (lw_ix hL 2 (by omega)) d_Law_law_599 ?_
      refine lw_cr (As := [.int (xs (nI (6 * k) + (1 : Int32)).toNatClampNeg), .int (xs (nI (6 * k) + (2 : Int32)).toNatClampNeg)]) (rest := [.int r]) ZsM_ok fx hkM trivial hA hP hD hS (c_Md_item l (xs (nI (6 * k) + (1 : Int32)).toNatClampNeg) (xs (nI (6 * k) + (2 : Int32)).toNatClampNeg) uM _ h2) (cw_V fx.2.2.2.2 a_684 a_685 a_686 a_6 ac_Md_item rfl rfl rfl hd_Md_item ⟨Nat.le_of_ble_eq_true rfl, Nat.le_of_ble_eq_true rfl⟩) 0 rfl rfl rfl rfl hl.1 rfl (Nat.le_of_ble_eq_true rfl) d_Law_law_600 (Nat.le_of_ble_eq_true rfl) (Nat.le_of_ble_eq_true rfl) (fun r' u' H locs hp hP hD hS => ?_)
      cases hp
      refine lv_icmp_eq (tgt := 664) hx hb d_Law_law_603 (by decide) (fun _ => ?_) (fun hne => absurd rfl hne)
      exact next _ _ _ _ hR' hP hD hS
    by_cases hc16 : sw = (16 : Int32)
    · refine lv_tableIn (off := 575) (tgt := 608) hx hb d_Law_law_33 (by rw [hc16]; decide) (by rw [hc16]; decide) (by rw [hc16]; decide) (by decide) ?_
      refine lv_aload_n hx hb d_Law_law_608 rfl (lv_at hl 1 rfl) ?_
      refine lv_aload_n hx hb d_Law_law_609 rfl (lv_at hl 0 rfl) ?_
      refine lv_iload_n hx hb d_Law_law_610 rfl (lv_at hl 3 rfl) ?_
      refine lv_iconst (v := 1) hx hb d_Law_law_611 (by decide) ?_
      refine lv_iadd hx hb d_Law_law_612 ?_
      refine va_sld hx hb hX hbl hbA hS (lw_ix hL 1 (by omega)) d_Law_law_613 ?_
      refine lv_aload_n hx hb d_Law_law_614 rfl (lv_at hl 0 rfl) ?_
      refine lv_iload_n hx hb d_Law_law_615 rfl (lv_at hl 3 rfl) ?_
      refine lv_iconst (v := 2) hx hb d_Law_law_616 (by decide) ?_
      refine lv_iadd hx hb d_Law_law_617 ?_
      refine va_sld hx hb hX hbl hbA hS (lw_ix hL 2 (by omega)) d_Law_law_618 ?_
      refine lv_aload_n hx hb d_Law_law_619 rfl (lv_at hl 0 rfl) ?_
      refine lv_iload_n hx hb d_Law_law_620 rfl (lv_at hl 3 rfl) ?_
      refine lv_iconst (v := 3) hx hb d_Law_law_621 (by decide) ?_
      refine lv_iadd hx hb d_Law_law_622 ?_
      refine va_sld hx hb hX hbl hbA hS (lw_ix hL 3 (by omega)) d_Law_law_623 ?_
      obtain ⟨r, uC', uM', h1, h2, hR'⟩ := HS.2.2.2.2.2.2.2.2.2.2.2.2.2.2.2.2.1 uC uM hR (xs (nI (6 * k) + (1 : Int32)).toNatClampNeg) (xs (nI (6 * k) + (2 : Int32)).toNatClampNeg) (xs (nI (6 * k) + (3 : Int32)).toNatClampNeg)
      refine lw_cl (As := [.int (xs (nI (6 * k) + (1 : Int32)).toNatClampNeg), .int (xs (nI (6 * k) + (2 : Int32)).toNatClampNeg), .int (xs (nI (6 * k) + (3 : Int32)).toNatClampNeg)]) (rest := []) ZsC_ok fx hkC hz hA hP hD hS (c_CN_covers l F (xs (nI (6 * k) + (1 : Int32)).toNatClampNeg) (xs (nI (6 * k) + (2 : Int32)).toNatClampNeg) (xs (nI (6 * k) + (3 : Int32)).toNatClampNeg) uC _ h1) (cw_V fx.2.2.2.2 a_423 a_424 a_425 a_1 ac_CN_covers rfl rfl rfl hd_CN_covers ⟨Nat.le_of_ble_eq_true rfl, Nat.le_of_ble_eq_true rfl⟩) 0 rfl rfl rfl rfl hl.1 rfl (Nat.le_of_ble_eq_true rfl) d_Law_law_624 (Nat.le_of_ble_eq_true rfl) (Nat.le_of_ble_eq_true rfl) (fun r' u' H locs hp hP hD hS => ?_)
      cases hp
      refine lv_aload_n hx hb d_Law_law_627 rfl (lv_at hl 2 rfl) ?_
      refine lv_aload_n hx hb d_Law_law_628 rfl (lv_at hl 0 rfl) ?_
      refine lv_iload_n hx hb d_Law_law_629 rfl (lv_at hl 3 rfl) ?_
      refine lv_iconst (v := 1) hx hb d_Law_law_630 (by decide) ?_
      refine lv_iadd hx hb d_Law_law_631 ?_
      refine va_sld hx hb hX hbl hbA hS (lw_ix hL 1 (by omega)) d_Law_law_632 ?_
      refine lv_aload_n hx hb d_Law_law_633 rfl (lv_at hl 0 rfl) ?_
      refine lv_iload_n hx hb d_Law_law_634 rfl (lv_at hl 3 rfl) ?_
      refine lv_iconst (v := 2) hx hb d_Law_law_635 (by decide) ?_
      refine lv_iadd hx hb d_Law_law_636 ?_
      refine va_sld hx hb hX hbl hbA hS (lw_ix hL 2 (by omega)) d_Law_law_637 ?_
      refine lv_aload_n hx hb d_Law_law_638 rfl (lv_at hl 0 rfl) ?_
      refine lv_iload_n hx hb d_Law_law_639 rfl (lv_at hl 3 rfl) ?_
      refine lv_iconst (v := 3) hx hb d_Law_law_640 (by decide) ?_
      refine lv_iadd hx hb d_Law_law_641 ?_
      refine va_sld hx hb hX hbl hbA hS (lw_ix hL 3 (by omega)) d_Law_law_642 ?_
      refine lw_cr (As := [.int (xs (nI (6 * k) + (1 : Int32)).toNatClampNeg), .int (xs (nI (6 * k) + (2 : Int32)).toNatClampNeg), .int (xs (nI (6 * k) + (3 : Int32)).toNatClampNeg)]) (rest := [.int r]) ZsM_ok fx hkM trivial hA hP hD hS (c_Md_covers l F (xs (nI (6 * k) + (1 : Int32)).toNatClampNeg) (xs (nI (6 * k) + (2 : Int32)).toNatClampNeg) (xs (nI (6 * k) + (3 : Int32)).toNatClampNeg) uM _ h2) (cw_V fx.2.2.2.2 a_584 a_585 a_586 a_6 ac_Md_covers rfl rfl rfl hd_Md_covers ⟨Nat.le_of_ble_eq_true rfl, Nat.le_of_ble_eq_true rfl⟩) 0 rfl rfl rfl rfl hl.1 rfl (Nat.le_of_ble_eq_true rfl) d_Law_law_643 (Nat.le_of_ble_eq_true rfl) (Nat.le_of_ble_eq_true rfl) (fun r' u' H locs hp hP hD hS => ?_)
      cases hp
      refine lv_icmp_eq (tgt := 664) hx hb d_Law_law_646 (by decide) (fun _ => ?_) (fun hne => absurd rfl hne)
      exact next _ _ _ _ hR' hP hD hS
    by_cases hc17 : sw = (17 : Int32)
    · refine lv_tableIn (off := 618) (tgt := 651) hx hb d_Law_law_33 (by rw [hc17]; decide) (by rw [hc17]; decide) (by rw [hc17]; decide) (by decide) ?_
      refine lv_aload_n hx hb d_Law_law_651 rfl (lv_at hl 1 rfl) ?_
      obtain ⟨r, uC', uM', h1, h2, hR'⟩ := HS.2.2.2.2.2.2.2.2.2.2.2.2.2.2.2.2.2 uC uM hR 
      refine lw_cl (As := []) (rest := []) ZsC_ok fx hkC hz hA hP hD hS (c_CN_verdict l F uC _ h1) (cw_V fx.2.2.2.2 a_427 a_428 a_429 a_1 ac_CN_verdict rfl rfl rfl hd_CN_verdict ⟨Nat.le_of_ble_eq_true rfl, Nat.le_of_ble_eq_true rfl⟩) 0 rfl rfl rfl rfl hl.1 rfl (Nat.le_of_ble_eq_true rfl) d_Law_law_652 (Nat.le_of_ble_eq_true rfl) (Nat.le_of_ble_eq_true rfl) (fun r' u' H locs hp hP hD hS => ?_)
      cases hp
      refine lv_aload_n hx hb d_Law_law_655 rfl (lv_at hl 2 rfl) ?_
      refine lw_cr (As := []) (rest := [.int r]) ZsM_ok fx hkM trivial hA hP hD hS (c_Md_verdict l F uM _ h2) (cw_V fx.2.2.2.2 a_688 a_689 a_690 a_6 ac_Md_verdict rfl rfl rfl hd_Md_verdict ⟨Nat.le_of_ble_eq_true rfl, Nat.le_of_ble_eq_true rfl⟩) 0 rfl rfl rfl rfl hl.1 rfl (Nat.le_of_ble_eq_true rfl) d_Law_law_656 (Nat.le_of_ble_eq_true rfl) (Nat.le_of_ble_eq_true rfl) (fun r' u' H locs hp hP hD hS => ?_)
      cases hp
      refine lv_icmp_eq (tgt := 664) hx hb d_Law_law_659 (by decide) (fun _ => ?_) (fun hne => absurd rfl hne)
      exact next _ _ _ _ hR' hP hD hS
    refine lv_tableOut (tgt := 664) hx hb d_Law_law_33 (ts_o18 (fun j hj => ?_)) (by decide) ?_
    · exact (match j, hj with
        | 0, _ => hc0
        | 1, _ => hc1
        | 2, _ => hc2
        | 3, _ => hc3
        | 4, _ => hc4
        | 5, _ => hc5
        | 6, _ => hc6
        | 7, _ => hc7
        | 8, _ => hc8
        | 9, _ => hc9
        | 10, _ => hc10
        | 11, _ => hc11
        | 12, _ => hc12
        | 13, _ => hc13
        | 14, _ => hc14
        | 15, _ => hc15
        | 16, _ => hc16
        | 17, _ => hc17
        | n + 18, hj => absurd hj (by omega)
        )
    exact next uC uM H locs hR hP hD hS
