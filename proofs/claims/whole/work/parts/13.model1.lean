set_option maxRecDepth 100000 in
set_option maxHeartbeats 4000000 in
theorem c_Md_isTask (l : Launch) (a1 : Int32) (u : St) (res : Int32 × St) (h : sp_Md_isTask a1 u = some res) : ly_Mi ZsM clA layM l y_Md_isTask w_Md_isTask { frames := 0, cells := 0, slots := 0, locals := 0 } (fun ad => [.int a1]) u (fun r1 u1 => (r1, u1) = res) := by
  refine ly_enti (cc := b_Md_isTask) (maxL := 1) (ret := (some .boolean)) (by decide) rfl (fun ad => Nat.le_of_ble_eq_true rfl) ?_
  intro p e s m below meth c D ad cA A ls fx hr hlocks hk hA hz hw hl
  have hl : lv_has ls 1 [(0, .int a1)] := hl
  have hx := fx.1
  have hb := fx.2.1
  unfold sp_Md_isTask at h
  refine lv_iload_n hx hb d_Md_isTask_0 rfl (lv_at hl 0 rfl) ?_
  refine lv_if_lt (tgt := 13) hx hb d_Md_isTask_1 (by decide) (fun hc => ?_) (fun hc => ?_)
  · have h := it_t hc h
    refine lv_iconst (v := 0) hx hb d_Md_isTask_13 (by decide) ?_
    exact ly_retz fx hr hlocks hk hw (Or.inl rfl) (Option.some.inj h) d_Md_isTask_14
  · have h := it_f hc h
    refine lv_iload_n hx hb d_Md_isTask_4 rfl (lv_at hl 0 rfl) ?_
    refine lv_iconst (v := 5) hx hb d_Md_isTask_5 (by decide) ?_
    refine lv_icmp_gt (tgt := 13) hx hb d_Md_isTask_6 (by decide) (fun hc => ?_) (fun hc => ?_)
    · have h := it_t hc h
      refine lv_iconst (v := 0) hx hb d_Md_isTask_13 (by decide) ?_
      exact ly_retz fx hr hlocks hk hw (Or.inl rfl) (Option.some.inj h) d_Md_isTask_14
    · have h := it_f hc h
      refine lv_iconst (v := 1) hx hb d_Md_isTask_9 (by decide) ?_
      refine lv_goto (tgt := 14) hx hb d_Md_isTask_10 (by decide) ?_
      exact ly_retz fx hr hlocks hk hw (Or.inr rfl) (Option.some.inj h) d_Md_isTask_14
set_option maxRecDepth 100000 in
set_option maxHeartbeats 4000000 in
theorem c_Md_isDefined (l : Launch) (a1 : Int32) (u : St) (res : Int32 × St) (h : sp_Md_isDefined a1 u = some res) : ly_Mi ZsM clA layM l y_Md_isDefined w_Md_isDefined { frames := 1, cells := 0, slots := 0, locals := 20 } (fun ad => [.ref (ad 0), .int a1]) u (fun r1 u1 => (r1, u1) = res) := by
  refine ly_enti (cc := b_Md_isDefined) (maxL := 2) (ret := (some .boolean)) (by decide) rfl (fun ad => Nat.le_of_ble_eq_true rfl) ?_
  intro p e s m below meth c D ad cA A ls fx hr hlocks hk hA hz hw hl
  have hl : lv_has ls 2 [(0, .ref (ad 0)), (1, .int a1)] := hl
  have hx := fx.1
  have hb := fx.2.1
  unfold sp_Md_isDefined at h
  refine lv_iload_n hx hb d_Md_isDefined_0 rfl (lv_at hl 1 rfl) ?_
  obtain ⟨r1, u2, hq3, h⟩ := ck_r h
  refine ly_callSi (As := [.int a1]) (rest := []) ZsM_ok fx hk hz hA hw (c_Md_isTask l a1 u _ hq3) (cw_S fx.2.2.2.2 a_557 a_558 a_6 ac_Md_isTask rfl rfl hd_Md_isTask ⟨Nat.le_of_ble_eq_true rfl, Nat.le_of_ble_eq_true rfl⟩) rfl rfl hl.1 rfl (Nat.le_of_ble_eq_true rfl) d_Md_isDefined_1 (Nat.zero_le _) (Nat.zero_le _) (fun r' u' H locs hp hw => ?_)
  cases hp
  refine lv_if_eq (tgt := 20) hx hb d_Md_isDefined_4 (by decide) (fun hc => ?_) (fun hc => ?_)
  · have h := it_t hc h
    refine lv_iconst (v := 0) hx hb d_Md_isDefined_20 (by decide) ?_
    exact ly_retz fx hr hlocks hk hw (Or.inl rfl) (Option.some.inj h) d_Md_isDefined_21
  · have h := it_f hc h
    refine lv_aload_n hx hb d_Md_isDefined_7 rfl (lv_at hl 0 rfl) ?_
    refine ly_getr fx hk hw (0) rfl rfl i_Model 0 (by decide) rfl rfl (List.mem_cons_of_mem _ a_467) d_Md_isDefined_8 ?_
    refine lv_iload_n hx hb d_Md_isDefined_11 rfl (lv_at hl 1 rfl) ?_
    obtain ⟨hi4, h⟩ := it_in h
    refine ly_zald fx hk hw (1) rfl hi4 d_Md_isDefined_12 ?_
    refine lv_if_eq (tgt := 20) hx hb d_Md_isDefined_13 (by decide) (fun hc => ?_) (fun hc => ?_)
    · have h := it_t hc h
      refine lv_iconst (v := 0) hx hb d_Md_isDefined_20 (by decide) ?_
      exact ly_retz fx hr hlocks hk hw (Or.inl rfl) (Option.some.inj h) d_Md_isDefined_21
    · have h := it_f hc h
      refine lv_iconst (v := 1) hx hb d_Md_isDefined_16 (by decide) ?_
      refine lv_goto (tgt := 21) hx hb d_Md_isDefined_17 (by decide) ?_
      exact ly_retz fx hr hlocks hk hw (Or.inr rfl) (Option.some.inj h) d_Md_isDefined_21
set_option maxRecDepth 100000 in
set_option maxHeartbeats 4000000 in
theorem c_Md_isPlaces (l : Launch) (a1 : Int32) (u : St) (res : Int32 × St) (h : sp_Md_isPlaces a1 u = some res) : ly_Mi ZsM clA layM l y_Md_isPlaces w_Md_isPlaces { frames := 0, cells := 0, slots := 0, locals := 0 } (fun ad => [.int a1]) u (fun r1 u1 => (r1, u1) = res) := by
  refine ly_enti (cc := b_Md_isPlaces) (maxL := 1) (ret := (some .boolean)) (by decide) rfl (fun ad => Nat.le_of_ble_eq_true rfl) ?_
  intro p e s m below meth c D ad cA A ls fx hr hlocks hk hA hz hw hl
  have hl : lv_has ls 1 [(0, .int a1)] := hl
  have hx := fx.1
  have hb := fx.2.1
  unfold sp_Md_isPlaces at h
  refine lv_iload_n hx hb d_Md_isPlaces_0 rfl (lv_at hl 0 rfl) ?_
  refine lv_if_lt (tgt := 15) hx hb d_Md_isPlaces_1 (by decide) (fun hc => ?_) (fun hc => ?_)
  · have h := it_t hc h
    refine lv_iconst (v := 0) hx hb d_Md_isPlaces_15 (by decide) ?_
    exact ly_retz fx hr hlocks hk hw (Or.inl rfl) (Option.some.inj h) d_Md_isPlaces_16
  · have h := it_f hc h
    refine lv_iload_n hx hb d_Md_isPlaces_4 rfl (lv_at hl 0 rfl) ?_
    refine lv_sipush (v := 16384) hx hb d_Md_isPlaces_5 (by decide) ?_
    refine lv_icmp_ge (tgt := 15) hx hb d_Md_isPlaces_8 (by decide) (fun hc => ?_) (fun hc => ?_)
    · have h := it_t hc h
      refine lv_iconst (v := 0) hx hb d_Md_isPlaces_15 (by decide) ?_
      exact ly_retz fx hr hlocks hk hw (Or.inl rfl) (Option.some.inj h) d_Md_isPlaces_16
    · have h := it_f hc h
      refine lv_iconst (v := 1) hx hb d_Md_isPlaces_11 (by decide) ?_
      refine lv_goto (tgt := 16) hx hb d_Md_isPlaces_12 (by decide) ?_
      exact ly_retz fx hr hlocks hk hw (Or.inr rfl) (Option.some.inj h) d_Md_isPlaces_16
set_option maxRecDepth 100000 in
set_option maxHeartbeats 4000000 in
theorem wl_Md_count_4 {p : Program} {l : Launch} {e : Env} {s : State} {m : MethodId} {args : Array Value} {below : List Frame} {meth : Method} {c : Code} {D : va_G} {ad : Nat → Nat} {cA : Nat → ClassId} {A : Nat → Prop} (fx : CallFix p m c b_Md_count 3 s args w_Md_count y_Md_count.cls) (hr : meth.sig.returnType = (some .int)) (hlocks : meth.locks = false) (hk : ly_K D clA layM cA s) (hA : ∀ q, s.heap.size ≤ q → A q) (hz : ZsM A s s.heap) (F : Nat) (v0 : Int32) {k4 : Int32 → Int32 → St → Option (Int32 × St)} {res : Int32 × St}
    (hX4 : ∀ (v1 : Int32) (v2 : Int32) (u : St) (H : Heap) (locs : List Loc) (ls : Array Slot), k4 v1 v2 u = some res → lv_has ls 3 [(0, .int v0), (1, .int v1), (2, .int v2)] → ly_G D clA layM ad cA A s.heap u H locs → W p l e { frames := 0, cells := 0, slots := 0, locals := 0 } s m args below meth c H locs 0 0 (MQ below (va_Qi (fun r1 u1 => (r1, u1) = res) (ly_B D clA layM ad cA A) A) args s 0 0 A) (F0 m 24 ls [])) :
    ∀ (n : Nat) (v1 : Int32) (v2 : Int32) (u : St) (H : Heap) (locs : List Loc) (ls : Array Slot), lp_Md_count_4 F v0 k4 n v1 v2 u = some res → lv_has ls 3 [(0, .int v0), (1, .int v1), (2, .int v2)] → ly_G D clA layM ad cA A s.heap u H locs → W p l e { frames := 0, cells := 0, slots := 0, locals := 0 } s m args below meth c H locs 0 0 (MQ below (va_Qi (fun r1 u1 => (r1, u1) = res) (ly_B D clA layM ad cA A) A) args s 0 0 A) (F0 m 4 ls []) := by
  have hx := fx.1
  have hb := fx.2.1
  intro n
  induction n with
  | zero => intro v1 v2 u H locs ls h; exact nomatch h
  | succ n ih =>
    intro v1 v2 u H locs ls h hl hw
    rw [lp_Md_count_4] at h
    refine lv_iload_n hx hb d_Md_count_4 rfl (lv_at hl 2 rfl) ?_
    refine lv_bipush (v := 14) hx hb d_Md_count_5 (by decide) ?_
    refine lv_icmp_ge (tgt := 24) hx hb d_Md_count_7 (by decide) (fun hc => ?_) (fun hc => ?_)
    · have h := it_t hc h
      exact hX4 v1 v2 u _ _ _ h (lv_sub hl [0, 1, 2] rfl) hw
    · have h := it_f hc h
      refine lv_iload_n hx hb d_Md_count_10 rfl (lv_at hl 1 rfl) ?_
      refine lv_iload_n hx hb d_Md_count_11 rfl (lv_at hl 0 rfl) ?_
      refine lv_iload_n hx hb d_Md_count_12 rfl (lv_at hl 2 rfl) ?_
      refine lv_ishr hx hb d_Md_count_13 ?_
      refine lv_iconst (v := 1) hx hb d_Md_count_14 (by decide) ?_
      refine lv_iand hx hb d_Md_count_15 ?_
      refine lv_iadd hx hb d_Md_count_16 ?_
      refine lv_topi (fun v1_1 ev => ?_)
      have h := nk_r ev h
      refine lv_istore_n (lv' := [(1, .int v1_1), (0, .int v0), (2, .int v2)]) hx hb d_Md_count_17 rfl hl (by decide) rfl (fun ls hl => ?_)
      refine lv_iinc (lv' := [(2, .int (v2 + (1 : Int32))), (1, .int v1_1), (0, .int v0)]) (k := 2) hx hb d_Md_count_18 hl rfl (oi_p1 _) (by decide) rfl (fun ls hl => ?_)
      refine lv_goto (tgt := 4) hx hb d_Md_count_21 (by decide) ?_
      exact ih v1_1 (v2 + (1 : Int32)) u _ _ _ h (lv_sub hl [2, 1, 0] rfl) hw
set_option maxRecDepth 100000 in
set_option maxHeartbeats 4000000 in
theorem c_Md_count (l : Launch) (F : Nat) (a1 : Int32) (u : St) (res : Int32 × St) (h : sp_Md_count F a1 u = some res) : ly_Mi ZsM clA layM l y_Md_count w_Md_count { frames := 0, cells := 0, slots := 0, locals := 0 } (fun ad => [.int a1]) u (fun r1 u1 => (r1, u1) = res) := by
  refine ly_enti (cc := b_Md_count) (maxL := 3) (ret := (some .int)) (by decide) rfl (fun ad => Nat.le_of_ble_eq_true rfl) ?_
  intro p e s m below meth c D ad cA A ls fx hr hlocks hk hA hz hw hl
  have hl : lv_has ls 3 [(0, .int a1)] := hl
  have hx := fx.1
  have hb := fx.2.1
  unfold sp_Md_count at h
  refine lv_iconst (v := 0) hx hb d_Md_count_0 (by decide) ?_
  refine lv_istore_n (lv' := [(1, .int (0 : Int32)), (0, .int a1)]) hx hb d_Md_count_1 rfl hl (by decide) rfl (fun ls hl => ?_)
  refine lv_iconst (v := 0) hx hb d_Md_count_2 (by decide) ?_
  refine lv_istore_n (lv' := [(2, .int (0 : Int32)), (1, .int (0 : Int32)), (0, .int a1)]) hx hb d_Md_count_3 rfl hl (by decide) rfl (fun ls hl => ?_)
  refine wl_Md_count_4 fx hr hlocks hk hA hz F a1 (fun v1_2 v2_3 u4 H locs ls h hl hw => ?_) _ (0 : Int32) (0 : Int32) u _ _ _ h (lv_sub hl [2, 1, 0] rfl) hw
  refine lv_iload_n hx hb d_Md_count_24 rfl (lv_at hl 1 rfl) ?_
  exact ly_reti fx hr hlocks hk hw (Option.some.inj h) d_Md_count_25
set_option maxRecDepth 100000 in
set_option maxHeartbeats 4000000 in
theorem c_Md_runs (l : Launch) (a1 : Int32) (u : St) (res : Int32 × St) (h : sp_Md_runs a1 u = some res) : ly_Mi ZsM clA layM l y_Md_runs w_Md_runs { frames := 0, cells := 0, slots := 0, locals := 0 } (fun ad => [.ref (ad 0), .int a1]) u (fun r1 u1 => (r1, u1) = res) := by
  refine ly_enti (cc := b_Md_runs) (maxL := 2) (ret := (some .boolean)) (by decide) rfl (fun ad => Nat.le_of_ble_eq_true rfl) ?_
  intro p e s m below meth c D ad cA A ls fx hr hlocks hk hA hz hw hl
  have hl : lv_has ls 2 [(0, .ref (ad 0)), (1, .int a1)] := hl
  have hx := fx.1
  have hb := fx.2.1
  unfold sp_Md_runs at h
  refine lv_aload_n hx hb d_Md_runs_0 rfl (lv_at hl 0 rfl) ?_
  refine ly_get fx hk hw (0) rfl rfl i_Model 16 (by decide) rfl rfl (List.mem_cons_of_mem _ a_483) d_Md_runs_1 ?_
  refine lv_bipush (v := 8) hx hb d_Md_runs_4 (by decide) ?_
  refine lv_iload_n hx hb d_Md_runs_6 rfl (lv_at hl 1 rfl) ?_
  refine lv_iadd hx hb d_Md_runs_7 ?_
  refine lv_ishr hx hb d_Md_runs_8 ?_
  refine lv_iconst (v := 1) hx hb d_Md_runs_9 (by decide) ?_
  refine lv_iand hx hb d_Md_runs_10 ?_
  refine lv_iconst (v := 1) hx hb d_Md_runs_11 (by decide) ?_
  refine lv_icmp_ne (tgt := 19) hx hb d_Md_runs_12 (by decide) (fun hc => ?_) (fun hc => ?_)
  · have h := it_f hc h
    refine lv_iconst (v := 0) hx hb d_Md_runs_19 (by decide) ?_
    exact ly_retz fx hr hlocks hk hw (Or.inl rfl) (Option.some.inj h) d_Md_runs_20
  · have h := it_t hc h
    refine lv_iconst (v := 1) hx hb d_Md_runs_15 (by decide) ?_
    refine lv_goto (tgt := 20) hx hb d_Md_runs_16 (by decide) ?_
    exact ly_retz fx hr hlocks hk hw (Or.inr rfl) (Option.some.inj h) d_Md_runs_20
set_option maxRecDepth 100000 in
set_option maxHeartbeats 4000000 in
theorem wl_Md_task_128 {p : Program} {l : Launch} {e : Env} {s : State} {m : MethodId} {args : Array Value} {below : List Frame} {meth : Method} {c : Code} {D : va_G} {ad : Nat → Nat} {cA : Nat → ClassId} {A : Nat → Prop} (fx : CallFix p m c b_Md_task 9 s args w_Md_task y_Md_task.cls) (hr : meth.sig.returnType = (some .boolean)) (hlocks : meth.locks = false) (hk : ly_K D clA layM cA s) (hA : ∀ q, s.heap.size ≤ q → A q) (hz : ZsM A s s.heap) (F : Nat) (v1 : Int32) (v2 : Int32) (v3 : Int32) (v4 : Int32) (v5 : Int32) (v6 : Int32) (v7 : Int32) {k128 : Int32 → St → Option (Int32 × St)} {res : Int32 × St}
    (hX128 : ∀ (v8 : Int32) (u : St) (H : Heap) (locs : List Loc) (ls : Array Slot), k128 v8 u = some res → lv_has ls 9 [(0, .ref (ad 0)), (1, .int v1), (2, .int v2), (3, .int v3), (4, .int v4), (5, .int v5), (6, .int v6), (7, .int v7), (8, .int v8)] → ly_G D clA layM ad cA A s.heap u H locs → W p l e { frames := 1, cells := 0, slots := 0, locals := 22 } s m args below meth c H locs 0 0 (MQ below (va_Qi (fun r1 u1 => (r1, u1) = res) (ly_B D clA layM ad cA A) A) args s 0 0 A) (F0 m 164 ls [])) :
    ∀ (n : Nat) (v8 : Int32) (u : St) (H : Heap) (locs : List Loc) (ls : Array Slot), lp_Md_task_128 F v1 v2 v3 v4 v5 v6 v7 k128 n v8 u = some res → lv_has ls 9 [(0, .ref (ad 0)), (1, .int v1), (2, .int v2), (3, .int v3), (4, .int v4), (5, .int v5), (6, .int v6), (7, .int v7), (8, .int v8)] → ly_G D clA layM ad cA A s.heap u H locs → W p l e { frames := 1, cells := 0, slots := 0, locals := 22 } s m args below meth c H locs 0 0 (MQ below (va_Qi (fun r1 u1 => (r1, u1) = res) (ly_B D clA layM ad cA A) A) args s 0 0 A) (F0 m 128 ls []) := by
  have hx := fx.1
  have hb := fx.2.1
  intro n
  induction n with
  | zero => intro v8 u H locs ls h; exact nomatch h
  | succ n ih =>
    intro v8 u H locs ls h hl hw
    rw [lp_Md_task_128] at h
    refine lv_iload hx hb d_Md_task_128 (lv_at hl 8 rfl) ?_
    refine lv_iconst (v := 3) hx hb d_Md_task_130 (by decide) ?_
    refine lv_icmp_ge (tgt := 164) hx hb d_Md_task_131 (by decide) (fun hc => ?_) (fun hc => ?_)
    · have h := it_t hc h
      exact hX128 v8 u _ _ _ h (lv_sub hl [0, 1, 2, 3, 4, 5, 6, 7, 8] rfl) hw
    · have h := it_f hc h
      refine lv_aload_n hx hb d_Md_task_134 rfl (lv_at hl 0 rfl) ?_
      refine ly_getr fx hk hw (0) rfl rfl i_Model 5 (by decide) rfl rfl (List.mem_cons_of_mem _ a_472) d_Md_task_135 ?_
      refine lv_iconst (v := 3) hx hb d_Md_task_138 (by decide) ?_
      refine lv_iload_n hx hb d_Md_task_139 rfl (lv_at hl 1 rfl) ?_
      refine lv_imul hx hb d_Md_task_140 ?_
      refine lv_iload hx hb d_Md_task_141 (lv_at hl 8 rfl) ?_
      refine lv_iadd hx hb d_Md_task_143 ?_
      refine lv_iconst (v := 0) hx hb d_Md_task_144 (by decide) ?_
      obtain ⟨hi20, h⟩ := it_in h
      refine ly_iast fx hk hw (6) rfl hi20 d_Md_task_145 (fun H locs hw => ?_)
      obtain ⟨u21, ev⟩ : ∃ z, z = ly_pi u (6) (((3 : Int32) * v1) + v8).toNatClampNeg (0 : Int32) := ⟨_, rfl⟩
      rw [← ev] at hw
      have h := nk_r ev h
      refine lv_aload_n hx hb d_Md_task_146 rfl (lv_at hl 0 rfl) ?_
      refine ly_getr fx hk hw (0) rfl rfl i_Model 6 (by decide) rfl rfl (List.mem_cons_of_mem _ a_473) d_Md_task_147 ?_
      refine lv_iconst (v := 3) hx hb d_Md_task_150 (by decide) ?_
      refine lv_iload_n hx hb d_Md_task_151 rfl (lv_at hl 1 rfl) ?_
      refine lv_imul hx hb d_Md_task_152 ?_
      refine lv_iload hx hb d_Md_task_153 (lv_at hl 8 rfl) ?_
      refine lv_iadd hx hb d_Md_task_155 ?_
      refine lv_iconst (v := 0) hx hb d_Md_task_156 (by decide) ?_
      obtain ⟨hi22, h⟩ := it_in h
      refine ly_iast fx hk hw (7) rfl hi22 d_Md_task_157 (fun H locs hw => ?_)
      obtain ⟨u23, ev⟩ : ∃ z, z = ly_pi u21 (7) (((3 : Int32) * v1) + v8).toNatClampNeg (0 : Int32) := ⟨_, rfl⟩
      rw [← ev] at hw
      have h := nk_r ev h
      refine lv_iinc (lv' := [(8, .int (v8 + (1 : Int32))), (0, .ref (ad 0)), (1, .int v1), (2, .int v2), (3, .int v3), (4, .int v4), (5, .int v5), (6, .int v6), (7, .int v7)]) (k := 8) hx hb d_Md_task_158 hl rfl (oi_p1 _) (by decide) rfl (fun ls hl => ?_)
      refine lv_goto (tgt := 128) hx hb d_Md_task_161 (by decide) ?_
      exact ih (v8 + (1 : Int32)) u23 _ _ _ h (lv_sub hl [1, 2, 3, 4, 5, 6, 7, 8, 0] rfl) hw
set_option maxRecDepth 100000 in
set_option maxHeartbeats 4000000 in
theorem wl_Md_task_167 {p : Program} {l : Launch} {e : Env} {s : State} {m : MethodId} {args : Array Value} {below : List Frame} {meth : Method} {c : Code} {D : va_G} {ad : Nat → Nat} {cA : Nat → ClassId} {A : Nat → Prop} (fx : CallFix p m c b_Md_task 9 s args w_Md_task y_Md_task.cls) (hr : meth.sig.returnType = (some .boolean)) (hlocks : meth.locks = false) (hk : ly_K D clA layM cA s) (hA : ∀ q, s.heap.size ≤ q → A q) (hz : ZsM A s s.heap) (F : Nat) (v1 : Int32) (v2 : Int32) (v3 : Int32) (v4 : Int32) (v5 : Int32) {k167 : Int32 → Int32 → Int32 → St → Option (Int32 × St)} {res : Int32 × St}
    (hX167 : ∀ (v6 : Int32) (v7 : Int32) (v8 : Int32) (u : St) (H : Heap) (locs : List Loc) (ls : Array Slot), k167 v6 v7 v8 u = some res → lv_has ls 9 [(0, .ref (ad 0)), (1, .int v1), (2, .int v2), (3, .int v3), (4, .int v4), (5, .int v5), (6, .int v6), (7, .int v7), (8, .int v8)] → ly_G D clA layM ad cA A s.heap u H locs → W p l e { frames := 1, cells := 0, slots := 0, locals := 22 } s m args below meth c H locs 0 0 (MQ below (va_Qi (fun r1 u1 => (r1, u1) = res) (ly_B D clA layM ad cA A) A) args s 0 0 A) (F0 m 279 ls [])) :
    ∀ (n : Nat) (v6 : Int32) (v7 : Int32) (v8 : Int32) (u : St) (H : Heap) (locs : List Loc) (ls : Array Slot), lp_Md_task_167 F v1 v2 v3 v4 v5 k167 n v6 v7 v8 u = some res → lv_has ls 9 [(0, .ref (ad 0)), (1, .int v1), (2, .int v2), (3, .int v3), (4, .int v4), (5, .int v5), (6, .int v6), (7, .int v7), (8, .int v8)] → ly_G D clA layM ad cA A s.heap u H locs → W p l e { frames := 1, cells := 0, slots := 0, locals := 22 } s m args below meth c H locs 0 0 (MQ below (va_Qi (fun r1 u1 => (r1, u1) = res) (ly_B D clA layM ad cA A) A) args s 0 0 A) (F0 m 167 ls []) := by
  have hx := fx.1
  have hb := fx.2.1
  intro n
  induction n with
  | zero => intro v6 v7 v8 u H locs ls h; exact nomatch h
  | succ n ih =>
    intro v6 v7 v8 u H locs ls h hl hw
    rw [lp_Md_task_167] at h
    refine lv_iload hx hb d_Md_task_167 (lv_at hl 8 rfl) ?_
    refine lv_bipush (v := 8) hx hb d_Md_task_169 (by decide) ?_
    refine lv_icmp_ge (tgt := 279) hx hb d_Md_task_171 (by decide) (fun hc => ?_) (fun hc => ?_)
    · have h := it_t hc h
      exact hX167 v6 v7 v8 u _ _ _ h (lv_sub hl [0, 1, 2, 3, 4, 5, 6, 7, 8] rfl) hw
    · have h := it_f hc h
      refine lv_iload hx hb d_Md_task_174 (lv_at hl 4 rfl) ?_
      refine lv_iload hx hb d_Md_task_176 (lv_at hl 8 rfl) ?_
      refine lv_ishr hx hb d_Md_task_178 ?_
      refine lv_iconst (v := 1) hx hb d_Md_task_179 (by decide) ?_
      refine lv_iand hx hb d_Md_task_180 ?_
      refine lv_iconst (v := 1) hx hb d_Md_task_181 (by decide) ?_
      refine lv_icmp_ne (tgt := 203) hx hb d_Md_task_182 (by decide) (fun hc => ?_) (fun hc => ?_)
      · have h := it_f hc h
        refine lv_iload hx hb d_Md_task_203 (lv_at hl 5 rfl) ?_
        refine lv_iload hx hb d_Md_task_205 (lv_at hl 8 rfl) ?_
        refine lv_ishr hx hb d_Md_task_207 ?_
        refine lv_iconst (v := 1) hx hb d_Md_task_208 (by decide) ?_
        refine lv_iand hx hb d_Md_task_209 ?_
        refine lv_iconst (v := 1) hx hb d_Md_task_210 (by decide) ?_
        refine lv_icmp_ne (tgt := 232) hx hb d_Md_task_211 (by decide) (fun hc => ?_) (fun hc => ?_)
        · have h := it_f hc h
          refine lv_aload_n hx hb d_Md_task_232 rfl (lv_at hl 0 rfl) ?_
          refine ly_getr fx hk hw (0) rfl rfl i_Model 8 (by decide) rfl rfl (List.mem_cons_of_mem _ a_475) d_Md_task_233 ?_
          refine lv_bipush (v := 8) hx hb d_Md_task_236 (by decide) ?_
          refine lv_iload_n hx hb d_Md_task_238 rfl (lv_at hl 1 rfl) ?_
          refine lv_imul hx hb d_Md_task_239 ?_
          refine lv_iload hx hb d_Md_task_240 (lv_at hl 8 rfl) ?_
          refine lv_iadd hx hb d_Md_task_242 ?_
          refine lv_iconst (v := 0) hx hb d_Md_task_243 (by decide) ?_
          obtain ⟨hi26, h⟩ := it_in h
          refine ly_iast fx hk hw (9) rfl hi26 d_Md_task_244 (fun H locs hw => ?_)
          obtain ⟨u27, ev⟩ : ∃ z, z = ly_pi u (9) (((8 : Int32) * v1) + v8).toNatClampNeg (0 : Int32) := ⟨_, rfl⟩
          rw [← ev] at hw
          have h := nk_r ev h
          refine lv_aload_n hx hb d_Md_task_245 rfl (lv_at hl 0 rfl) ?_
          refine ly_getr fx hk hw (0) rfl rfl i_Model 9 (by decide) rfl rfl (List.mem_cons_of_mem _ a_476) d_Md_task_246 ?_
          refine lv_bipush (v := 8) hx hb d_Md_task_249 (by decide) ?_
          refine lv_iload_n hx hb d_Md_task_251 rfl (lv_at hl 1 rfl) ?_
          refine lv_imul hx hb d_Md_task_252 ?_
          refine lv_iload hx hb d_Md_task_253 (lv_at hl 8 rfl) ?_
          refine lv_iadd hx hb d_Md_task_255 ?_
          refine lv_ldc (v := -2147483648) hx hb fx.2.2.2.1 (fx.2.2.2.2 _ (List.mem_cons_of_mem _ a_563)) d_Md_task_256 ?_
          obtain ⟨hi28, h⟩ := it_in h
          refine ly_iast fx hk hw (10) rfl hi28 d_Md_task_258 (fun H locs hw => ?_)
          obtain ⟨u29, ev⟩ : ∃ z, z = ly_pi u27 (10) (((8 : Int32) * v1) + v8).toNatClampNeg (-2147483648 : Int32) := ⟨_, rfl⟩
          rw [← ev] at hw
          have h := nk_r ev h
          refine lv_aload_n hx hb d_Md_task_259 rfl (lv_at hl 0 rfl) ?_
          refine ly_getr fx hk hw (0) rfl rfl i_Model 10 (by decide) rfl rfl (List.mem_cons_of_mem _ a_477) d_Md_task_260 ?_
          refine lv_bipush (v := 8) hx hb d_Md_task_263 (by decide) ?_
          refine lv_iload_n hx hb d_Md_task_265 rfl (lv_at hl 1 rfl) ?_
          refine lv_imul hx hb d_Md_task_266 ?_
          refine lv_iload hx hb d_Md_task_267 (lv_at hl 8 rfl) ?_
          refine lv_iadd hx hb d_Md_task_269 ?_
          refine lv_ldc (v := 2147483647) hx hb fx.2.2.2.1 (fx.2.2.2.2 _ (List.mem_cons_of_mem _ a_564)) d_Md_task_270 ?_
          obtain ⟨hi30, h⟩ := it_in h
          refine ly_iast fx hk hw (11) rfl hi30 d_Md_task_272 (fun H locs hw => ?_)
          obtain ⟨u31, ev⟩ : ∃ z, z = ly_pi u29 (11) (((8 : Int32) * v1) + v8).toNatClampNeg (2147483647 : Int32) := ⟨_, rfl⟩
          rw [← ev] at hw
          have h := nk_r ev h
          refine lv_iinc (lv' := [(8, .int (v8 + (1 : Int32))), (0, .ref (ad 0)), (1, .int v1), (2, .int v2), (3, .int v3), (4, .int v4), (5, .int v5), (6, .int v6), (7, .int v7)]) (k := 8) hx hb d_Md_task_273 hl rfl (oi_p1 _) (by decide) rfl (fun ls hl => ?_)
          refine lv_goto (tgt := 167) hx hb d_Md_task_276 (by decide) ?_
          exact ih v6 v7 (v8 + (1 : Int32)) u31 _ _ _ h (lv_sub hl [1, 2, 3, 4, 5, 6, 7, 8, 0] rfl) hw
        · have h := it_t hc h
          refine lv_aload_n hx hb d_Md_task_214 rfl (lv_at hl 0 rfl) ?_
          refine ly_getr fx hk hw (0) rfl rfl i_Model 6 (by decide) rfl rfl (List.mem_cons_of_mem _ a_473) d_Md_task_215 ?_
          refine lv_iconst (v := 3) hx hb d_Md_task_218 (by decide) ?_
          refine lv_iload_n hx hb d_Md_task_219 rfl (lv_at hl 1 rfl) ?_
          refine lv_imul hx hb d_Md_task_220 ?_
          refine lv_iload hx hb d_Md_task_221 (lv_at hl 7 rfl) ?_
          refine lv_iadd hx hb d_Md_task_223 ?_
          refine lv_iconst (v := 1) hx hb d_Md_task_224 (by decide) ?_
          refine lv_iload hx hb d_Md_task_225 (lv_at hl 8 rfl) ?_
          refine lv_ishl hx hb d_Md_task_227 ?_
          obtain ⟨hi32, h⟩ := it_in h
          refine ly_iast fx hk hw (7) rfl hi32 d_Md_task_228 (fun H locs hw => ?_)
          obtain ⟨u33, ev⟩ : ∃ z, z = ly_pi u (7) (((3 : Int32) * v1) + v7).toNatClampNeg ((1 : Int32) <<< (v8 &&& 31)) := ⟨_, rfl⟩
          rw [← ev] at hw
          have h := nk_r ev h
          refine lv_iinc (lv' := [(7, .int (v7 + (1 : Int32))), (0, .ref (ad 0)), (1, .int v1), (2, .int v2), (3, .int v3), (4, .int v4), (5, .int v5), (6, .int v6), (8, .int v8)]) (k := 7) hx hb d_Md_task_229 hl rfl (oi_p1 _) (by decide) rfl (fun ls hl => ?_)
          refine lv_aload_n hx hb d_Md_task_232 rfl (lv_at hl 1 rfl) ?_
          refine ly_getr fx hk hw (0) rfl rfl i_Model 8 (by decide) rfl rfl (List.mem_cons_of_mem _ a_475) d_Md_task_233 ?_
          refine lv_bipush (v := 8) hx hb d_Md_task_236 (by decide) ?_
          refine lv_iload_n hx hb d_Md_task_238 rfl (lv_at hl 2 rfl) ?_
          refine lv_imul hx hb d_Md_task_239 ?_
          refine lv_iload hx hb d_Md_task_240 (lv_at hl 8 rfl) ?_
          refine lv_iadd hx hb d_Md_task_242 ?_
          refine lv_iconst (v := 0) hx hb d_Md_task_243 (by decide) ?_
          obtain ⟨hi34, h⟩ := it_in h
          refine ly_iast fx hk hw (9) rfl hi34 d_Md_task_244 (fun H locs hw => ?_)
          obtain ⟨u35, ev⟩ : ∃ z, z = ly_pi u33 (9) (((8 : Int32) * v1) + v8).toNatClampNeg (0 : Int32) := ⟨_, rfl⟩
          rw [← ev] at hw
          have h := nk_r ev h
          refine lv_aload_n hx hb d_Md_task_245 rfl (lv_at hl 1 rfl) ?_
          refine ly_getr fx hk hw (0) rfl rfl i_Model 9 (by decide) rfl rfl (List.mem_cons_of_mem _ a_476) d_Md_task_246 ?_
          refine lv_bipush (v := 8) hx hb d_Md_task_249 (by decide) ?_
          refine lv_iload_n hx hb d_Md_task_251 rfl (lv_at hl 2 rfl) ?_
          refine lv_imul hx hb d_Md_task_252 ?_
          refine lv_iload hx hb d_Md_task_253 (lv_at hl 8 rfl) ?_
          refine lv_iadd hx hb d_Md_task_255 ?_
          refine lv_ldc (v := -2147483648) hx hb fx.2.2.2.1 (fx.2.2.2.2 _ (List.mem_cons_of_mem _ a_563)) d_Md_task_256 ?_
          obtain ⟨hi36, h⟩ := it_in h
          refine ly_iast fx hk hw (10) rfl hi36 d_Md_task_258 (fun H locs hw => ?_)
          obtain ⟨u37, ev⟩ : ∃ z, z = ly_pi u35 (10) (((8 : Int32) * v1) + v8).toNatClampNeg (-2147483648 : Int32) := ⟨_, rfl⟩
          rw [← ev] at hw
          have h := nk_r ev h
          refine lv_aload_n hx hb d_Md_task_259 rfl (lv_at hl 1 rfl) ?_
          refine ly_getr fx hk hw (0) rfl rfl i_Model 10 (by decide) rfl rfl (List.mem_cons_of_mem _ a_477) d_Md_task_260 ?_
          refine lv_bipush (v := 8) hx hb d_Md_task_263 (by decide) ?_
          refine lv_iload_n hx hb d_Md_task_265 rfl (lv_at hl 2 rfl) ?_
          refine lv_imul hx hb d_Md_task_266 ?_
          refine lv_iload hx hb d_Md_task_267 (lv_at hl 8 rfl) ?_
          refine lv_iadd hx hb d_Md_task_269 ?_
          refine lv_ldc (v := 2147483647) hx hb fx.2.2.2.1 (fx.2.2.2.2 _ (List.mem_cons_of_mem _ a_564)) d_Md_task_270 ?_
          obtain ⟨hi38, h⟩ := it_in h
          refine ly_iast fx hk hw (11) rfl hi38 d_Md_task_272 (fun H locs hw => ?_)
          obtain ⟨u39, ev⟩ : ∃ z, z = ly_pi u37 (11) (((8 : Int32) * v1) + v8).toNatClampNeg (2147483647 : Int32) := ⟨_, rfl⟩
          rw [← ev] at hw
          have h := nk_r ev h
          refine lv_iinc (lv' := [(8, .int (v8 + (1 : Int32))), (7, .int (v7 + (1 : Int32))), (0, .ref (ad 0)), (1, .int v1), (2, .int v2), (3, .int v3), (4, .int v4), (5, .int v5), (6, .int v6)]) (k := 8) hx hb d_Md_task_273 hl rfl (oi_p1 _) (by decide) rfl (fun ls hl => ?_)
          refine lv_goto (tgt := 167) hx hb d_Md_task_276 (by decide) ?_
          exact ih v6 (v7 + (1 : Int32)) (v8 + (1 : Int32)) u39 _ _ _ h (lv_sub hl [2, 3, 4, 5, 6, 7, 8, 1, 0] rfl) hw
      · have h := it_t hc h
        refine lv_aload_n hx hb d_Md_task_185 rfl (lv_at hl 0 rfl) ?_
        refine ly_getr fx hk hw (0) rfl rfl i_Model 5 (by decide) rfl rfl (List.mem_cons_of_mem _ a_472) d_Md_task_186 ?_
        refine lv_iconst (v := 3) hx hb d_Md_task_189 (by decide) ?_
        refine lv_iload_n hx hb d_Md_task_190 rfl (lv_at hl 1 rfl) ?_
        refine lv_imul hx hb d_Md_task_191 ?_
        refine lv_iload hx hb d_Md_task_192 (lv_at hl 6 rfl) ?_
        refine lv_iadd hx hb d_Md_task_194 ?_
        refine lv_iconst (v := 1) hx hb d_Md_task_195 (by decide) ?_
        refine lv_iload hx hb d_Md_task_196 (lv_at hl 8 rfl) ?_
        refine lv_ishl hx hb d_Md_task_198 ?_
        obtain ⟨hi40, h⟩ := it_in h
        refine ly_iast fx hk hw (6) rfl hi40 d_Md_task_199 (fun H locs hw => ?_)
        obtain ⟨u41, ev⟩ : ∃ z, z = ly_pi u (6) (((3 : Int32) * v1) + v6).toNatClampNeg ((1 : Int32) <<< (v8 &&& 31)) := ⟨_, rfl⟩
        rw [← ev] at hw
        have h := nk_r ev h
        refine lv_iinc (lv' := [(6, .int (v6 + (1 : Int32))), (0, .ref (ad 0)), (1, .int v1), (2, .int v2), (3, .int v3), (4, .int v4), (5, .int v5), (7, .int v7), (8, .int v8)]) (k := 6) hx hb d_Md_task_200 hl rfl (oi_p1 _) (by decide) rfl (fun ls hl => ?_)
        refine lv_iload hx hb d_Md_task_203 (lv_at hl 6 rfl) ?_
        refine lv_iload hx hb d_Md_task_205 (lv_at hl 8 rfl) ?_
        refine lv_ishr hx hb d_Md_task_207 ?_
        refine lv_iconst (v := 1) hx hb d_Md_task_208 (by decide) ?_
        refine lv_iand hx hb d_Md_task_209 ?_
        refine lv_iconst (v := 1) hx hb d_Md_task_210 (by decide) ?_
        refine lv_icmp_ne (tgt := 232) hx hb d_Md_task_211 (by decide) (fun hc => ?_) (fun hc => ?_)
        · have h := it_f hc h
          refine lv_aload_n hx hb d_Md_task_232 rfl (lv_at hl 1 rfl) ?_
          refine ly_getr fx hk hw (0) rfl rfl i_Model 8 (by decide) rfl rfl (List.mem_cons_of_mem _ a_475) d_Md_task_233 ?_
          refine lv_bipush (v := 8) hx hb d_Md_task_236 (by decide) ?_
          refine lv_iload_n hx hb d_Md_task_238 rfl (lv_at hl 2 rfl) ?_
          refine lv_imul hx hb d_Md_task_239 ?_
          refine lv_iload hx hb d_Md_task_240 (lv_at hl 8 rfl) ?_
          refine lv_iadd hx hb d_Md_task_242 ?_
          refine lv_iconst (v := 0) hx hb d_Md_task_243 (by decide) ?_
          obtain ⟨hi42, h⟩ := it_in h
          refine ly_iast fx hk hw (9) rfl hi42 d_Md_task_244 (fun H locs hw => ?_)
          obtain ⟨u43, ev⟩ : ∃ z, z = ly_pi u41 (9) (((8 : Int32) * v1) + v8).toNatClampNeg (0 : Int32) := ⟨_, rfl⟩
          rw [← ev] at hw
          have h := nk_r ev h
          refine lv_aload_n hx hb d_Md_task_245 rfl (lv_at hl 1 rfl) ?_
          refine ly_getr fx hk hw (0) rfl rfl i_Model 9 (by decide) rfl rfl (List.mem_cons_of_mem _ a_476) d_Md_task_246 ?_
          refine lv_bipush (v := 8) hx hb d_Md_task_249 (by decide) ?_
          refine lv_iload_n hx hb d_Md_task_251 rfl (lv_at hl 2 rfl) ?_
          refine lv_imul hx hb d_Md_task_252 ?_
          refine lv_iload hx hb d_Md_task_253 (lv_at hl 8 rfl) ?_
          refine lv_iadd hx hb d_Md_task_255 ?_
          refine lv_ldc (v := -2147483648) hx hb fx.2.2.2.1 (fx.2.2.2.2 _ (List.mem_cons_of_mem _ a_563)) d_Md_task_256 ?_
          obtain ⟨hi44, h⟩ := it_in h
          refine ly_iast fx hk hw (10) rfl hi44 d_Md_task_258 (fun H locs hw => ?_)
          obtain ⟨u45, ev⟩ : ∃ z, z = ly_pi u43 (10) (((8 : Int32) * v1) + v8).toNatClampNeg (-2147483648 : Int32) := ⟨_, rfl⟩
          rw [← ev] at hw
          have h := nk_r ev h
          refine lv_aload_n hx hb d_Md_task_259 rfl (lv_at hl 1 rfl) ?_
          refine ly_getr fx hk hw (0) rfl rfl i_Model 10 (by decide) rfl rfl (List.mem_cons_of_mem _ a_477) d_Md_task_260 ?_
          refine lv_bipush (v := 8) hx hb d_Md_task_263 (by decide) ?_
          refine lv_iload_n hx hb d_Md_task_265 rfl (lv_at hl 2 rfl) ?_
          refine lv_imul hx hb d_Md_task_266 ?_
          refine lv_iload hx hb d_Md_task_267 (lv_at hl 8 rfl) ?_
          refine lv_iadd hx hb d_Md_task_269 ?_
          refine lv_ldc (v := 2147483647) hx hb fx.2.2.2.1 (fx.2.2.2.2 _ (List.mem_cons_of_mem _ a_564)) d_Md_task_270 ?_
          obtain ⟨hi46, h⟩ := it_in h
          refine ly_iast fx hk hw (11) rfl hi46 d_Md_task_272 (fun H locs hw => ?_)
          obtain ⟨u47, ev⟩ : ∃ z, z = ly_pi u45 (11) (((8 : Int32) * v1) + v8).toNatClampNeg (2147483647 : Int32) := ⟨_, rfl⟩
          rw [← ev] at hw
          have h := nk_r ev h
          refine lv_iinc (lv' := [(8, .int (v8 + (1 : Int32))), (6, .int (v6 + (1 : Int32))), (0, .ref (ad 0)), (1, .int v1), (2, .int v2), (3, .int v3), (4, .int v4), (5, .int v5), (7, .int v7)]) (k := 8) hx hb d_Md_task_273 hl rfl (oi_p1 _) (by decide) rfl (fun ls hl => ?_)
          refine lv_goto (tgt := 167) hx hb d_Md_task_276 (by decide) ?_
          exact ih (v6 + (1 : Int32)) v7 (v8 + (1 : Int32)) u47 _ _ _ h (lv_sub hl [2, 3, 4, 5, 6, 7, 1, 8, 0] rfl) hw
        · have h := it_t hc h
          refine lv_aload_n hx hb d_Md_task_214 rfl (lv_at hl 1 rfl) ?_
          refine ly_getr fx hk hw (0) rfl rfl i_Model 6 (by decide) rfl rfl (List.mem_cons_of_mem _ a_473) d_Md_task_215 ?_
          refine lv_iconst (v := 3) hx hb d_Md_task_218 (by decide) ?_
          refine lv_iload_n hx hb d_Md_task_219 rfl (lv_at hl 2 rfl) ?_
          refine lv_imul hx hb d_Md_task_220 ?_
          refine lv_iload hx hb d_Md_task_221 (lv_at hl 7 rfl) ?_
          refine lv_iadd hx hb d_Md_task_223 ?_
          refine lv_iconst (v := 1) hx hb d_Md_task_224 (by decide) ?_
          refine lv_iload hx hb d_Md_task_225 (lv_at hl 8 rfl) ?_
          refine lv_ishl hx hb d_Md_task_227 ?_
          obtain ⟨hi48, h⟩ := it_in h
          refine ly_iast fx hk hw (7) rfl hi48 d_Md_task_228 (fun H locs hw => ?_)
          obtain ⟨u49, ev⟩ : ∃ z, z = ly_pi u41 (7) (((3 : Int32) * v1) + v7).toNatClampNeg ((1 : Int32) <<< (v8 &&& 31)) := ⟨_, rfl⟩
          rw [← ev] at hw
          have h := nk_r ev h
          refine lv_iinc (lv' := [(7, .int (v7 + (1 : Int32))), (6, .int (v6 + (1 : Int32))), (0, .ref (ad 0)), (1, .int v1), (2, .int v2), (3, .int v3), (4, .int v4), (5, .int v5), (8, .int v8)]) (k := 7) hx hb d_Md_task_229 hl rfl (oi_p1 _) (by decide) rfl (fun ls hl => ?_)
          refine lv_aload_n hx hb d_Md_task_232 rfl (lv_at hl 2 rfl) ?_
          refine ly_getr fx hk hw (0) rfl rfl i_Model 8 (by decide) rfl rfl (List.mem_cons_of_mem _ a_475) d_Md_task_233 ?_
          refine lv_bipush (v := 8) hx hb d_Md_task_236 (by decide) ?_
          refine lv_iload_n hx hb d_Md_task_238 rfl (lv_at hl 3 rfl) ?_
          refine lv_imul hx hb d_Md_task_239 ?_
          refine lv_iload hx hb d_Md_task_240 (lv_at hl 8 rfl) ?_
          refine lv_iadd hx hb d_Md_task_242 ?_
          refine lv_iconst (v := 0) hx hb d_Md_task_243 (by decide) ?_
          obtain ⟨hi50, h⟩ := it_in h
          refine ly_iast fx hk hw (9) rfl hi50 d_Md_task_244 (fun H locs hw => ?_)
          obtain ⟨u51, ev⟩ : ∃ z, z = ly_pi u49 (9) (((8 : Int32) * v1) + v8).toNatClampNeg (0 : Int32) := ⟨_, rfl⟩
          rw [← ev] at hw
          have h := nk_r ev h
          refine lv_aload_n hx hb d_Md_task_245 rfl (lv_at hl 2 rfl) ?_
          refine ly_getr fx hk hw (0) rfl rfl i_Model 9 (by decide) rfl rfl (List.mem_cons_of_mem _ a_476) d_Md_task_246 ?_
          refine lv_bipush (v := 8) hx hb d_Md_task_249 (by decide) ?_
          refine lv_iload_n hx hb d_Md_task_251 rfl (lv_at hl 3 rfl) ?_
          refine lv_imul hx hb d_Md_task_252 ?_
          refine lv_iload hx hb d_Md_task_253 (lv_at hl 8 rfl) ?_
          refine lv_iadd hx hb d_Md_task_255 ?_
          refine lv_ldc (v := -2147483648) hx hb fx.2.2.2.1 (fx.2.2.2.2 _ (List.mem_cons_of_mem _ a_563)) d_Md_task_256 ?_
          obtain ⟨hi52, h⟩ := it_in h
          refine ly_iast fx hk hw (10) rfl hi52 d_Md_task_258 (fun H locs hw => ?_)
          obtain ⟨u53, ev⟩ : ∃ z, z = ly_pi u51 (10) (((8 : Int32) * v1) + v8).toNatClampNeg (-2147483648 : Int32) := ⟨_, rfl⟩
          rw [← ev] at hw
          have h := nk_r ev h
          refine lv_aload_n hx hb d_Md_task_259 rfl (lv_at hl 2 rfl) ?_
          refine ly_getr fx hk hw (0) rfl rfl i_Model 10 (by decide) rfl rfl (List.mem_cons_of_mem _ a_477) d_Md_task_260 ?_
          refine lv_bipush (v := 8) hx hb d_Md_task_263 (by decide) ?_
          refine lv_iload_n hx hb d_Md_task_265 rfl (lv_at hl 3 rfl) ?_
          refine lv_imul hx hb d_Md_task_266 ?_
          refine lv_iload hx hb d_Md_task_267 (lv_at hl 8 rfl) ?_
          refine lv_iadd hx hb d_Md_task_269 ?_
          refine lv_ldc (v := 2147483647) hx hb fx.2.2.2.1 (fx.2.2.2.2 _ (List.mem_cons_of_mem _ a_564)) d_Md_task_270 ?_
          obtain ⟨hi54, h⟩ := it_in h
          refine ly_iast fx hk hw (11) rfl hi54 d_Md_task_272 (fun H locs hw => ?_)
          obtain ⟨u55, ev⟩ : ∃ z, z = ly_pi u53 (11) (((8 : Int32) * v1) + v8).toNatClampNeg (2147483647 : Int32) := ⟨_, rfl⟩
          rw [← ev] at hw
          have h := nk_r ev h
          refine lv_iinc (lv' := [(8, .int (v8 + (1 : Int32))), (7, .int (v7 + (1 : Int32))), (6, .int (v6 + (1 : Int32))), (0, .ref (ad 0)), (1, .int v1), (2, .int v2), (3, .int v3), (4, .int v4), (5, .int v5)]) (k := 8) hx hb d_Md_task_273 hl rfl (oi_p1 _) (by decide) rfl (fun ls hl => ?_)
          refine lv_goto (tgt := 167) hx hb d_Md_task_276 (by decide) ?_
          exact ih (v6 + (1 : Int32)) (v7 + (1 : Int32)) (v8 + (1 : Int32)) u55 _ _ _ h (lv_sub hl [3, 4, 5, 6, 7, 8, 2, 1, 0] rfl) hw
set_option maxRecDepth 100000 in
set_option maxHeartbeats 4000000 in
theorem c_Md_task (l : Launch) (F : Nat) (a1 : Int32) (a2 : Int32) (a3 : Int32) (a4 : Int32) (a5 : Int32) (u : St) (res : Int32 × St) (h : sp_Md_task F a1 a2 a3 a4 a5 u = some res) : ly_Mi ZsM clA layM l y_Md_task w_Md_task { frames := 1, cells := 0, slots := 0, locals := 22 } (fun ad => [.ref (ad 0), .int a1, .int a2, .int a3, .int a4, .int a5]) u (fun r1 u1 => (r1, u1) = res) := by
  refine ly_enti (cc := b_Md_task) (maxL := 9) (ret := (some .boolean)) (by decide) rfl (fun ad => Nat.le_of_ble_eq_true rfl) ?_
  intro p e s m below meth c D ad cA A ls fx hr hlocks hk hA hz hw hl
  have hl : lv_has ls 9 [(0, .ref (ad 0)), (1, .int a1), (2, .int a2), (3, .int a3), (4, .int a4), (5, .int a5)] := hl
  have hx := fx.1
  have hb := fx.2.1
  unfold sp_Md_task at h
  refine lv_aload_n hx hb d_Md_task_0 rfl (lv_at hl 0 rfl) ?_
  refine ly_get fx hk hw (0) rfl rfl i_Model 15 (by decide) rfl rfl (List.mem_cons_of_mem _ a_482) d_Md_task_1 ?_
  refine lv_if_ne (tgt := 32) hx hb d_Md_task_4 (by decide) (fun hc => ?_) (fun hc => ?_)
  · have h := it_f hc h
    refine lv_iconst (v := 0) hx hb d_Md_task_32 (by decide) ?_
    exact ly_retz fx hr hlocks hk hw (Or.inl rfl) (Option.some.inj h) d_Md_task_33
  · have h := it_t hc h
    refine lv_iload_n hx hb d_Md_task_7 rfl (lv_at hl 1 rfl) ?_
    obtain ⟨r1, u2, hq3, h⟩ := ck_r h
    refine ly_callSi (As := [.int a1]) (rest := []) ZsM_ok fx hk hz hA hw (c_Md_isTask l a1 u _ hq3) (cw_S fx.2.2.2.2 a_557 a_558 a_6 ac_Md_isTask rfl rfl hd_Md_isTask ⟨Nat.le_of_ble_eq_true rfl, Nat.le_of_ble_eq_true rfl⟩) rfl rfl hl.1 rfl (Nat.le_of_ble_eq_true rfl) d_Md_task_8 (Nat.zero_le _) (Nat.zero_le _) (fun r' u' H locs hp hw => ?_)
    cases hp
    refine lv_if_eq (tgt := 32) hx hb d_Md_task_11 (by decide) (fun hc => ?_) (fun hc => ?_)
    · have h := it_t hc h
      refine lv_iconst (v := 0) hx hb d_Md_task_32 (by decide) ?_
      exact ly_retz fx hr hlocks hk hw (Or.inl rfl) (Option.some.inj h) d_Md_task_33
    · have h := it_f hc h
      refine lv_iload_n hx hb d_Md_task_14 rfl (lv_at hl 2 rfl) ?_
      refine lv_if_lt (tgt := 32) hx hb d_Md_task_15 (by decide) (fun hc => ?_) (fun hc => ?_)
      · have h := it_t hc h
        refine lv_iconst (v := 0) hx hb d_Md_task_32 (by decide) ?_
        exact ly_retz fx hr hlocks hk hw (Or.inl rfl) (Option.some.inj h) d_Md_task_33
      · have h := it_f hc h
        refine lv_iload_n hx hb d_Md_task_18 rfl (lv_at hl 2 rfl) ?_
        refine lv_iconst (v := 2) hx hb d_Md_task_19 (by decide) ?_
        refine lv_icmp_gt (tgt := 32) hx hb d_Md_task_20 (by decide) (fun hc => ?_) (fun hc => ?_)
        · have h := it_t hc h
          refine lv_iconst (v := 0) hx hb d_Md_task_32 (by decide) ?_
          exact ly_retz fx hr hlocks hk hw (Or.inl rfl) (Option.some.inj h) d_Md_task_33
        · have h := it_f hc h
          refine lv_iload_n hx hb d_Md_task_23 rfl (lv_at hl 3 rfl) ?_
          refine lv_if_lt (tgt := 32) hx hb d_Md_task_24 (by decide) (fun hc => ?_) (fun hc => ?_)
          · have h := it_t hc h
            refine lv_iconst (v := 0) hx hb d_Md_task_32 (by decide) ?_
            exact ly_retz fx hr hlocks hk hw (Or.inl rfl) (Option.some.inj h) d_Md_task_33
          · have h := it_f hc h
            refine lv_iload_n hx hb d_Md_task_27 rfl (lv_at hl 3 rfl) ?_
            refine lv_iconst (v := 2) hx hb d_Md_task_28 (by decide) ?_
            refine lv_icmp_le (tgt := 34) hx hb d_Md_task_29 (by decide) (fun hc => ?_) (fun hc => ?_)
            · have h := it_t hc h
              refine lv_iload hx hb d_Md_task_34 (lv_at hl 4 rfl) ?_
              refine lv_iconst (v := 1) hx hb d_Md_task_36 (by decide) ?_
              refine lv_icmp_lt (tgt := 80) hx hb d_Md_task_37 (by decide) (fun hc => ?_) (fun hc => ?_)
              · have h := it_t hc h
                refine lv_iconst (v := 0) hx hb d_Md_task_80 (by decide) ?_
                exact ly_retz fx hr hlocks hk hw (Or.inl rfl) (Option.some.inj h) d_Md_task_81
              · have h := it_f hc h
                refine lv_iload hx hb d_Md_task_40 (lv_at hl 4 rfl) ?_
                refine lv_sipush (v := 255) hx hb d_Md_task_42 (by decide) ?_
                refine lv_icmp_gt (tgt := 80) hx hb d_Md_task_45 (by decide) (fun hc => ?_) (fun hc => ?_)
                · have h := it_t hc h
                  refine lv_iconst (v := 0) hx hb d_Md_task_80 (by decide) ?_
                  exact ly_retz fx hr hlocks hk hw (Or.inl rfl) (Option.some.inj h) d_Md_task_81
                · have h := it_f hc h
                  refine lv_iload hx hb d_Md_task_48 (lv_at hl 5 rfl) ?_
                  refine lv_iconst (v := 1) hx hb d_Md_task_50 (by decide) ?_
                  refine lv_icmp_lt (tgt := 80) hx hb d_Md_task_51 (by decide) (fun hc => ?_) (fun hc => ?_)
                  · have h := it_t hc h
                    refine lv_iconst (v := 0) hx hb d_Md_task_80 (by decide) ?_
                    exact ly_retz fx hr hlocks hk hw (Or.inl rfl) (Option.some.inj h) d_Md_task_81
                  · have h := it_f hc h
                    refine lv_iload hx hb d_Md_task_54 (lv_at hl 5 rfl) ?_
                    refine lv_sipush (v := 255) hx hb d_Md_task_56 (by decide) ?_
                    refine lv_icmp_gt (tgt := 80) hx hb d_Md_task_59 (by decide) (fun hc => ?_) (fun hc => ?_)
                    · have h := it_t hc h
                      refine lv_iconst (v := 0) hx hb d_Md_task_80 (by decide) ?_
                      exact ly_retz fx hr hlocks hk hw (Or.inl rfl) (Option.some.inj h) d_Md_task_81
                    · have h := it_f hc h
                      refine lv_iload hx hb d_Md_task_62 (lv_at hl 4 rfl) ?_
                      obtain ⟨r4, u5, hq6, h⟩ := ck_r h
                      refine ly_callSi (As := [.int a4]) (rest := []) ZsM_ok fx hk hz hA hw (c_Md_count l F a4 u2 _ hq6) (cw_S fx.2.2.2.2 a_560 a_561 a_6 ac_Md_count rfl rfl hd_Md_count ⟨Nat.le_of_ble_eq_true rfl, Nat.le_of_ble_eq_true rfl⟩) rfl rfl hl.1 rfl (Nat.le_of_ble_eq_true rfl) d_Md_task_64 (Nat.zero_le _) (Nat.zero_le _) (fun r' u' H locs hp hw => ?_)
                      cases hp
                      refine lv_iconst (v := 3) hx hb d_Md_task_67 (by decide) ?_
                      refine lv_icmp_gt (tgt := 80) hx hb d_Md_task_68 (by decide) (fun hc => ?_) (fun hc => ?_)
                      · have h := it_t hc h
                        refine lv_iconst (v := 0) hx hb d_Md_task_80 (by decide) ?_
                        exact ly_retz fx hr hlocks hk hw (Or.inl rfl) (Option.some.inj h) d_Md_task_81
                      · have h := it_f hc h
                        refine lv_iload hx hb d_Md_task_71 (lv_at hl 5 rfl) ?_
                        obtain ⟨r7, u8, hq9, h⟩ := ck_r h
                        refine ly_callSi (As := [.int a5]) (rest := []) ZsM_ok fx hk hz hA hw (c_Md_count l F a5 u5 _ hq9) (cw_S fx.2.2.2.2 a_560 a_561 a_6 ac_Md_count rfl rfl hd_Md_count ⟨Nat.le_of_ble_eq_true rfl, Nat.le_of_ble_eq_true rfl⟩) rfl rfl hl.1 rfl (Nat.le_of_ble_eq_true rfl) d_Md_task_73 (Nat.zero_le _) (Nat.zero_le _) (fun r' u' H locs hp hw => ?_)
                        cases hp
                        refine lv_iconst (v := 3) hx hb d_Md_task_76 (by decide) ?_
                        refine lv_icmp_le (tgt := 82) hx hb d_Md_task_77 (by decide) (fun hc => ?_) (fun hc => ?_)
                        · have h := it_t hc h
                          refine lv_aload_n hx hb d_Md_task_82 rfl (lv_at hl 0 rfl) ?_
                          refine ly_getr fx hk hw (0) rfl rfl i_Model 0 (by decide) rfl rfl (List.mem_cons_of_mem _ a_467) d_Md_task_83 ?_
                          refine lv_iload_n hx hb d_Md_task_86 rfl (lv_at hl 1 rfl) ?_
                          refine lv_iconst (v := 1) hx hb d_Md_task_87 (by decide) ?_
                          obtain ⟨hi10, h⟩ := it_in h
                          refine ly_zast fx hk hw (1) rfl hi10 (by decide) d_Md_task_88 (fun H locs hw => ?_)
                          obtain ⟨u11, ev⟩ : ∃ z, z = ly_pi u8 (1) a1.toNatClampNeg (1 : Int32) := ⟨_, rfl⟩
                          rw [← ev] at hw
                          have h := nk_r ev h
                          refine lv_aload_n hx hb d_Md_task_89 rfl (lv_at hl 0 rfl) ?_
                          refine ly_getr fx hk hw (0) rfl rfl i_Model 1 (by decide) rfl rfl (List.mem_cons_of_mem _ a_468) d_Md_task_90 ?_
                          refine lv_iload_n hx hb d_Md_task_93 rfl (lv_at hl 1 rfl) ?_
                          refine lv_iload_n hx hb d_Md_task_94 rfl (lv_at hl 2 rfl) ?_
                          obtain ⟨hi12, h⟩ := it_in h
                          refine ly_iast fx hk hw (2) rfl hi12 d_Md_task_95 (fun H locs hw => ?_)
                          obtain ⟨u13, ev⟩ : ∃ z, z = ly_pi u11 (2) a1.toNatClampNeg a2 := ⟨_, rfl⟩
                          rw [← ev] at hw
                          have h := nk_r ev h
                          refine lv_aload_n hx hb d_Md_task_96 rfl (lv_at hl 0 rfl) ?_
                          refine ly_getr fx hk hw (0) rfl rfl i_Model 2 (by decide) rfl rfl (List.mem_cons_of_mem _ a_469) d_Md_task_97 ?_
                          refine lv_iload_n hx hb d_Md_task_100 rfl (lv_at hl 1 rfl) ?_
                          refine lv_iload_n hx hb d_Md_task_101 rfl (lv_at hl 3 rfl) ?_
                          obtain ⟨hi14, h⟩ := it_in h
                          refine ly_iast fx hk hw (3) rfl hi14 d_Md_task_102 (fun H locs hw => ?_)
                          obtain ⟨u15, ev⟩ : ∃ z, z = ly_pi u13 (3) a1.toNatClampNeg a3 := ⟨_, rfl⟩
                          rw [← ev] at hw
                          have h := nk_r ev h
                          refine lv_aload_n hx hb d_Md_task_103 rfl (lv_at hl 0 rfl) ?_
                          refine ly_getr fx hk hw (0) rfl rfl i_Model 3 (by decide) rfl rfl (List.mem_cons_of_mem _ a_470) d_Md_task_104 ?_
                          refine lv_iload_n hx hb d_Md_task_107 rfl (lv_at hl 1 rfl) ?_
                          refine lv_iload hx hb d_Md_task_108 (lv_at hl 4 rfl) ?_
                          obtain ⟨hi16, h⟩ := it_in h
                          refine ly_iast fx hk hw (4) rfl hi16 d_Md_task_110 (fun H locs hw => ?_)
                          obtain ⟨u17, ev⟩ : ∃ z, z = ly_pi u15 (4) a1.toNatClampNeg a4 := ⟨_, rfl⟩
                          rw [← ev] at hw
                          have h := nk_r ev h
                          refine lv_aload_n hx hb d_Md_task_111 rfl (lv_at hl 0 rfl) ?_
                          refine ly_getr fx hk hw (0) rfl rfl i_Model 4 (by decide) rfl rfl (List.mem_cons_of_mem _ a_471) d_Md_task_112 ?_
                          refine lv_iload_n hx hb d_Md_task_115 rfl (lv_at hl 1 rfl) ?_
                          refine lv_iload hx hb d_Md_task_116 (lv_at hl 5 rfl) ?_
                          obtain ⟨hi18, h⟩ := it_in h
                          refine ly_iast fx hk hw (5) rfl hi18 d_Md_task_118 (fun H locs hw => ?_)
                          obtain ⟨u19, ev⟩ : ∃ z, z = ly_pi u17 (5) a1.toNatClampNeg a5 := ⟨_, rfl⟩
                          rw [← ev] at hw
                          have h := nk_r ev h
                          refine lv_iconst (v := 0) hx hb d_Md_task_119 (by decide) ?_
                          refine lv_istore (lv' := [(6, .int (0 : Int32)), (0, .ref (ad 0)), (1, .int a1), (2, .int a2), (3, .int a3), (4, .int a4), (5, .int a5)]) hx hb d_Md_task_120 hl (by decide) rfl (fun ls hl => ?_)
                          refine lv_iconst (v := 0) hx hb d_Md_task_122 (by decide) ?_
                          refine lv_istore (lv' := [(7, .int (0 : Int32)), (6, .int (0 : Int32)), (0, .ref (ad 0)), (1, .int a1), (2, .int a2), (3, .int a3), (4, .int a4), (5, .int a5)]) hx hb d_Md_task_123 hl (by decide) rfl (fun ls hl => ?_)
                          refine lv_iconst (v := 0) hx hb d_Md_task_125 (by decide) ?_
                          refine lv_istore (lv' := [(8, .int (0 : Int32)), (7, .int (0 : Int32)), (6, .int (0 : Int32)), (0, .ref (ad 0)), (1, .int a1), (2, .int a2), (3, .int a3), (4, .int a4), (5, .int a5)]) hx hb d_Md_task_126 hl (by decide) rfl (fun ls hl => ?_)
                          refine wl_Md_task_128 fx hr hlocks hk hA hz F a1 a2 a3 a4 a5 (0 : Int32) (0 : Int32) (fun v8_24 u25 H locs ls h hl hw => ?_) _ (0 : Int32) u19 _ _ _ h (lv_sub hl [3, 4, 5, 6, 7, 8, 2, 1, 0] rfl) hw
                          refine lv_iconst (v := 0) hx hb d_Md_task_164 (by decide) ?_
                          refine lv_istore (lv' := [(8, .int (0 : Int32)), (0, .ref (ad 0)), (1, .int a1), (2, .int a2), (3, .int a3), (4, .int a4), (5, .int a5), (6, .int (0 : Int32)), (7, .int (0 : Int32))]) hx hb d_Md_task_165 hl (by decide) rfl (fun ls hl => ?_)
                          refine wl_Md_task_167 fx hr hlocks hk hA hz F a1 a2 a3 a4 a5 (fun v6_56 v7_57 v8_58 u59 H locs ls h hl hw => ?_) _ (0 : Int32) (0 : Int32) (0 : Int32) u25 _ _ _ h (lv_sub hl [1, 2, 3, 4, 5, 6, 7, 8, 0] rfl) hw
                          refine lv_aload_n hx hb d_Md_task_279 rfl (lv_at hl 0 rfl) ?_
                          refine ly_getr fx hk hw (0) rfl rfl i_Model 7 (by decide) rfl rfl (List.mem_cons_of_mem _ a_474) d_Md_task_280 ?_
                          refine lv_iload_n hx hb d_Md_task_283 rfl (lv_at hl 1 rfl) ?_
                          refine lv_iconst (v := 0) hx hb d_Md_task_284 (by decide) ?_
                          obtain ⟨hi60, h⟩ := it_in h
                          refine ly_iast fx hk hw (8) rfl hi60 d_Md_task_285 (fun H locs hw => ?_)
                          obtain ⟨u61, ev⟩ : ∃ z, z = ly_pi u59 (8) a1.toNatClampNeg (0 : Int32) := ⟨_, rfl⟩
                          rw [← ev] at hw
                          have h := nk_r ev h
                          refine lv_aload_n hx hb d_Md_task_286 rfl (lv_at hl 0 rfl) ?_
                          refine ly_getr fx hk hw (0) rfl rfl i_Model 11 (by decide) rfl rfl (List.mem_cons_of_mem _ a_478) d_Md_task_287 ?_
                          refine lv_iload_n hx hb d_Md_task_290 rfl (lv_at hl 1 rfl) ?_
                          refine lv_iconst (v := 1) hx hb d_Md_task_291 (by decide) ?_
                          obtain ⟨hi62, h⟩ := it_in h
                          refine ly_iast fx hk hw (12) rfl hi62 d_Md_task_292 (fun H locs hw => ?_)
                          obtain ⟨u63, ev⟩ : ∃ z, z = ly_pi u61 (12) a1.toNatClampNeg (1 : Int32) := ⟨_, rfl⟩
                          rw [← ev] at hw
                          have h := nk_r ev h
                          refine lv_aload_n hx hb d_Md_task_293 rfl (lv_at hl 0 rfl) ?_
                          refine ly_getr fx hk hw (0) rfl rfl i_Model 12 (by decide) rfl rfl (List.mem_cons_of_mem _ a_479) d_Md_task_294 ?_
                          refine lv_iload_n hx hb d_Md_task_297 rfl (lv_at hl 1 rfl) ?_
                          refine lv_iconst (v := 1) hx hb d_Md_task_298 (by decide) ?_
                          obtain ⟨hi64, h⟩ := it_in h
                          refine ly_iast fx hk hw (13) rfl hi64 d_Md_task_299 (fun H locs hw => ?_)
                          obtain ⟨u65, ev⟩ : ∃ z, z = ly_pi u63 (13) a1.toNatClampNeg (1 : Int32) := ⟨_, rfl⟩
                          rw [← ev] at hw
                          have h := nk_r ev h
                          refine lv_aload_n hx hb d_Md_task_300 rfl (lv_at hl 0 rfl) ?_
                          refine ly_getr fx hk hw (0) rfl rfl i_Model 13 (by decide) rfl rfl (List.mem_cons_of_mem _ a_480) d_Md_task_301 ?_
                          refine lv_iload_n hx hb d_Md_task_304 rfl (lv_at hl 1 rfl) ?_
                          refine lv_iconst (v := 0) hx hb d_Md_task_305 (by decide) ?_
                          obtain ⟨hi66, h⟩ := it_in h
                          refine ly_iast fx hk hw (14) rfl hi66 d_Md_task_306 (fun H locs hw => ?_)
                          obtain ⟨u67, ev⟩ : ∃ z, z = ly_pi u65 (14) a1.toNatClampNeg (0 : Int32) := ⟨_, rfl⟩
                          rw [← ev] at hw
                          have h := nk_r ev h
                          refine lv_aload_n hx hb d_Md_task_307 rfl (lv_at hl 0 rfl) ?_
                          refine ly_getr fx hk hw (0) rfl rfl i_Model 14 (by decide) rfl rfl (List.mem_cons_of_mem _ a_481) d_Md_task_308 ?_
                          refine lv_iload_n hx hb d_Md_task_311 rfl (lv_at hl 1 rfl) ?_
                          refine lv_iconst (v := 0) hx hb d_Md_task_312 (by decide) ?_
                          obtain ⟨hi68, h⟩ := it_in h
                          refine ly_iast fx hk hw (15) rfl hi68 d_Md_task_313 (fun H locs hw => ?_)
                          obtain ⟨u69, ev⟩ : ∃ z, z = ly_pi u67 (15) a1.toNatClampNeg (0 : Int32) := ⟨_, rfl⟩
                          rw [← ev] at hw
                          have h := nk_r ev h
                          refine lv_iconst (v := 1) hx hb d_Md_task_314 (by decide) ?_
                          exact ly_retz fx hr hlocks hk hw (Or.inr rfl) (Option.some.inj h) d_Md_task_315
                        · have h := it_f hc h
                          refine lv_iconst (v := 0) hx hb d_Md_task_80 (by decide) ?_
                          exact ly_retz fx hr hlocks hk hw (Or.inl rfl) (Option.some.inj h) d_Md_task_81
            · have h := it_f hc h
              refine lv_iconst (v := 0) hx hb d_Md_task_32 (by decide) ?_
              exact ly_retz fx hr hlocks hk hw (Or.inl rfl) (Option.some.inj h) d_Md_task_33
set_option maxRecDepth 100000 in
set_option maxHeartbeats 4000000 in
theorem c_Md_region (l : Launch) (a1 : Int32) (a2 : Int32) (u : St) (res : Int32 × St) (h : sp_Md_region a1 a2 u = some res) : ly_Mi ZsM clA layM l y_Md_region w_Md_region { frames := 2, cells := 0, slots := 0, locals := 41 } (fun ad => [.ref (ad 0), .int a1, .int a2]) u (fun r1 u1 => (r1, u1) = res) := by
  refine ly_enti (cc := b_Md_region) (maxL := 3) (ret := (some .boolean)) (by decide) rfl (fun ad => Nat.le_of_ble_eq_true rfl) ?_
  intro p e s m below meth c D ad cA A ls fx hr hlocks hk hA hz hw hl
  have hl : lv_has ls 3 [(0, .ref (ad 0)), (1, .int a1), (2, .int a2)] := hl
  have hx := fx.1
  have hb := fx.2.1
  unfold sp_Md_region at h
  refine lv_aload_n hx hb d_Md_region_0 rfl (lv_at hl 0 rfl) ?_
  refine ly_get fx hk hw (0) rfl rfl i_Model 15 (by decide) rfl rfl (List.mem_cons_of_mem _ a_482) d_Md_region_1 ?_
  refine lv_if_ne (tgt := 22) hx hb d_Md_region_4 (by decide) (fun hc => ?_) (fun hc => ?_)
  · have h := it_f hc h
    refine lv_iconst (v := 0) hx hb d_Md_region_22 (by decide) ?_
    exact ly_retz fx hr hlocks hk hw (Or.inl rfl) (Option.some.inj h) d_Md_region_23
  · have h := it_t hc h
    refine lv_aload_n hx hb d_Md_region_7 rfl (lv_at hl 0 rfl) ?_
    refine lv_iload_n hx hb d_Md_region_8 rfl (lv_at hl 1 rfl) ?_
    obtain ⟨r1, u2, hq3, h⟩ := ck_r h
    refine ly_callVi (As := [.int a1]) (rest := []) ZsM_ok fx hk hz hA hw (c_Md_isDefined l a1 u _ hq3) (cw_V fx.2.2.2.2 a_569 a_571 as_19 a_6 ac_Md_isDefined rfl rfl rfl hd_Md_isDefined ⟨Nat.le_of_ble_eq_true rfl, Nat.le_of_ble_eq_true rfl⟩) (0) rfl rfl rfl rfl hl.1 rfl (Nat.le_of_ble_eq_true rfl) d_Md_region_9 (Nat.zero_le _) (Nat.zero_le _) (fun r' u' H locs hp hw => ?_)
    cases hp
    refine lv_if_eq (tgt := 22) hx hb d_Md_region_12 (by decide) (fun hc => ?_) (fun hc => ?_)
    · have h := it_t hc h
      refine lv_iconst (v := 0) hx hb d_Md_region_22 (by decide) ?_
      exact ly_retz fx hr hlocks hk hw (Or.inl rfl) (Option.some.inj h) d_Md_region_23
    · have h := it_f hc h
      refine lv_iload_n hx hb d_Md_region_15 rfl (lv_at hl 2 rfl) ?_
      obtain ⟨r4, u5, hq6, h⟩ := ck_r h
      refine ly_callSi (As := [.int a2]) (rest := []) ZsM_ok fx hk hz hA hw (c_Md_isPlaces l a2 u2 _ hq6) (cw_S fx.2.2.2.2 a_573 a_574 a_6 ac_Md_isPlaces rfl rfl hd_Md_isPlaces ⟨Nat.le_of_ble_eq_true rfl, Nat.le_of_ble_eq_true rfl⟩) rfl rfl hl.1 rfl (Nat.le_of_ble_eq_true rfl) d_Md_region_16 (Nat.zero_le _) (Nat.zero_le _) (fun r' u' H locs hp hw => ?_)
      cases hp
      refine lv_if_ne (tgt := 24) hx hb d_Md_region_19 (by decide) (fun hc => ?_) (fun hc => ?_)
      · have h := it_f hc h
        refine lv_aload_n hx hb d_Md_region_24 rfl (lv_at hl 0 rfl) ?_
        refine ly_getr fx hk hw (0) rfl rfl i_Model 7 (by decide) rfl rfl (List.mem_cons_of_mem _ a_474) d_Md_region_25 ?_
        refine lv_iload_n hx hb d_Md_region_28 rfl (lv_at hl 1 rfl) ?_
        refine lv_iload_n hx hb d_Md_region_29 rfl (lv_at hl 2 rfl) ?_
        obtain ⟨hi7, h⟩ := it_in h
        refine ly_iast fx hk hw (8) rfl hi7 d_Md_region_30 (fun H locs hw => ?_)
        obtain ⟨u8, ev⟩ : ∃ z, z = ly_pi u5 (8) a1.toNatClampNeg a2 := ⟨_, rfl⟩
        rw [← ev] at hw
        have h := nk_r ev h
        refine lv_iconst (v := 1) hx hb d_Md_region_31 (by decide) ?_
        exact ly_retz fx hr hlocks hk hw (Or.inr rfl) (Option.some.inj h) d_Md_region_32
      · have h := it_t hc h
        refine lv_iconst (v := 0) hx hb d_Md_region_22 (by decide) ?_
        exact ly_retz fx hr hlocks hk hw (Or.inl rfl) (Option.some.inj h) d_Md_region_23
set_option maxRecDepth 100000 in
set_option maxHeartbeats 4000000 in
theorem c_Md_guard (l : Launch) (a1 : Int32) (a2 : Int32) (a3 : Int32) (a4 : Int32) (a5 : Int32) (u : St) (res : Int32 × St) (h : sp_Md_guard a1 a2 a3 a4 a5 u = some res) : ly_Mi ZsM clA layM l y_Md_guard w_Md_guard { frames := 2, cells := 0, slots := 0, locals := 41 } (fun ad => [.ref (ad 0), .int a1, .int a2, .int a3, .int a4, .int a5]) u (fun r1 u1 => (r1, u1) = res) := by
  refine ly_enti (cc := b_Md_guard) (maxL := 6) (ret := (some .boolean)) (by decide) rfl (fun ad => Nat.le_of_ble_eq_true rfl) ?_
  intro p e s m below meth c D ad cA A ls fx hr hlocks hk hA hz hw hl
  have hl : lv_has ls 6 [(0, .ref (ad 0)), (1, .int a1), (2, .int a2), (3, .int a3), (4, .int a4), (5, .int a5)] := hl
  have hx := fx.1
  have hb := fx.2.1
  unfold sp_Md_guard at h
  refine lv_aload_n hx hb d_Md_guard_0 rfl (lv_at hl 0 rfl) ?_
  refine ly_get fx hk hw (0) rfl rfl i_Model 15 (by decide) rfl rfl (List.mem_cons_of_mem _ a_482) d_Md_guard_1 ?_
  refine lv_if_ne (tgt := 34) hx hb d_Md_guard_4 (by decide) (fun hc => ?_) (fun hc => ?_)
  · have h := it_f hc h
    refine lv_iconst (v := 0) hx hb d_Md_guard_34 (by decide) ?_
    exact ly_retz fx hr hlocks hk hw (Or.inl rfl) (Option.some.inj h) d_Md_guard_35
  · have h := it_t hc h
    refine lv_aload_n hx hb d_Md_guard_7 rfl (lv_at hl 0 rfl) ?_
    refine lv_iload_n hx hb d_Md_guard_8 rfl (lv_at hl 1 rfl) ?_
    obtain ⟨r1, u2, hq3, h⟩ := ck_r h
    refine ly_callVi (As := [.int a1]) (rest := []) ZsM_ok fx hk hz hA hw (c_Md_isDefined l a1 u _ hq3) (cw_V fx.2.2.2.2 a_569 a_571 as_19 a_6 ac_Md_isDefined rfl rfl rfl hd_Md_isDefined ⟨Nat.le_of_ble_eq_true rfl, Nat.le_of_ble_eq_true rfl⟩) (0) rfl rfl rfl rfl hl.1 rfl (Nat.le_of_ble_eq_true rfl) d_Md_guard_9 (Nat.zero_le _) (Nat.zero_le _) (fun r' u' H locs hp hw => ?_)
    cases hp
    refine lv_if_eq (tgt := 34) hx hb d_Md_guard_12 (by decide) (fun hc => ?_) (fun hc => ?_)
    · have h := it_t hc h
      refine lv_iconst (v := 0) hx hb d_Md_guard_34 (by decide) ?_
      exact ly_retz fx hr hlocks hk hw (Or.inl rfl) (Option.some.inj h) d_Md_guard_35
    · have h := it_f hc h
      refine lv_iload_n hx hb d_Md_guard_15 rfl (lv_at hl 2 rfl) ?_
      refine lv_if_lt (tgt := 34) hx hb d_Md_guard_16 (by decide) (fun hc => ?_) (fun hc => ?_)
      · have h := it_t hc h
        refine lv_iconst (v := 0) hx hb d_Md_guard_34 (by decide) ?_
        exact ly_retz fx hr hlocks hk hw (Or.inl rfl) (Option.some.inj h) d_Md_guard_35
      · have h := it_f hc h
        refine lv_iload_n hx hb d_Md_guard_19 rfl (lv_at hl 2 rfl) ?_
        refine lv_bipush (v := 7) hx hb d_Md_guard_20 (by decide) ?_
        refine lv_icmp_gt (tgt := 34) hx hb d_Md_guard_22 (by decide) (fun hc => ?_) (fun hc => ?_)
        · have h := it_t hc h
          refine lv_iconst (v := 0) hx hb d_Md_guard_34 (by decide) ?_
          exact ly_retz fx hr hlocks hk hw (Or.inl rfl) (Option.some.inj h) d_Md_guard_35
        · have h := it_f hc h
          refine lv_iload_n hx hb d_Md_guard_25 rfl (lv_at hl 3 rfl) ?_
          refine lv_if_lt (tgt := 34) hx hb d_Md_guard_26 (by decide) (fun hc => ?_) (fun hc => ?_)
          · have h := it_t hc h
            refine lv_iconst (v := 0) hx hb d_Md_guard_34 (by decide) ?_
            exact ly_retz fx hr hlocks hk hw (Or.inl rfl) (Option.some.inj h) d_Md_guard_35
          · have h := it_f hc h
            refine lv_iload_n hx hb d_Md_guard_29 rfl (lv_at hl 3 rfl) ?_
            refine lv_iconst (v := 3) hx hb d_Md_guard_30 (by decide) ?_
            refine lv_icmp_le (tgt := 36) hx hb d_Md_guard_31 (by decide) (fun hc => ?_) (fun hc => ?_)
            · have h := it_t hc h
              refine lv_aload_n hx hb d_Md_guard_36 rfl (lv_at hl 0 rfl) ?_
              refine ly_getr fx hk hw (0) rfl rfl i_Model 4 (by decide) rfl rfl (List.mem_cons_of_mem _ a_471) d_Md_guard_37 ?_
              refine lv_iload_n hx hb d_Md_guard_40 rfl (lv_at hl 1 rfl) ?_
              obtain ⟨hi4, h⟩ := it_in h
              refine ly_iald fx hk hw (5) rfl hi4 d_Md_guard_41 ?_
              refine lv_iload_n hx hb d_Md_guard_42 rfl (lv_at hl 2 rfl) ?_
              refine lv_ishr hx hb d_Md_guard_43 ?_
              refine lv_iconst (v := 1) hx hb d_Md_guard_44 (by decide) ?_
              refine lv_iand hx hb d_Md_guard_45 ?_
              refine lv_if_ne (tgt := 51) hx hb d_Md_guard_46 (by decide) (fun hc => ?_) (fun hc => ?_)
              · have h := it_f hc h
                refine lv_aload_n hx hb d_Md_guard_51 rfl (lv_at hl 0 rfl) ?_
                refine ly_getr fx hk hw (0) rfl rfl i_Model 8 (by decide) rfl rfl (List.mem_cons_of_mem _ a_475) d_Md_guard_52 ?_
                refine lv_bipush (v := 8) hx hb d_Md_guard_55 (by decide) ?_
                refine lv_iload_n hx hb d_Md_guard_57 rfl (lv_at hl 1 rfl) ?_
                refine lv_imul hx hb d_Md_guard_58 ?_
                refine lv_iload_n hx hb d_Md_guard_59 rfl (lv_at hl 2 rfl) ?_
                refine lv_iadd hx hb d_Md_guard_60 ?_
                refine lv_iload_n hx hb d_Md_guard_61 rfl (lv_at hl 3 rfl) ?_
                obtain ⟨hi5, h⟩ := it_in h
                refine ly_iast fx hk hw (9) rfl hi5 d_Md_guard_62 (fun H locs hw => ?_)
                obtain ⟨u6, ev⟩ : ∃ z, z = ly_pi u2 (9) (((8 : Int32) * a1) + a2).toNatClampNeg a3 := ⟨_, rfl⟩
                rw [← ev] at hw
                have h := nk_r ev h
                refine lv_aload_n hx hb d_Md_guard_63 rfl (lv_at hl 0 rfl) ?_
                refine ly_getr fx hk hw (0) rfl rfl i_Model 9 (by decide) rfl rfl (List.mem_cons_of_mem _ a_476) d_Md_guard_64 ?_
                refine lv_bipush (v := 8) hx hb d_Md_guard_67 (by decide) ?_
                refine lv_iload_n hx hb d_Md_guard_69 rfl (lv_at hl 1 rfl) ?_
                refine lv_imul hx hb d_Md_guard_70 ?_
                refine lv_iload_n hx hb d_Md_guard_71 rfl (lv_at hl 2 rfl) ?_
                refine lv_iadd hx hb d_Md_guard_72 ?_
                refine lv_iload hx hb d_Md_guard_73 (lv_at hl 4 rfl) ?_
                obtain ⟨hi7, h⟩ := it_in h
                refine ly_iast fx hk hw (10) rfl hi7 d_Md_guard_75 (fun H locs hw => ?_)
                obtain ⟨u8, ev⟩ : ∃ z, z = ly_pi u6 (10) (((8 : Int32) * a1) + a2).toNatClampNeg a4 := ⟨_, rfl⟩
                rw [← ev] at hw
                have h := nk_r ev h
                refine lv_aload_n hx hb d_Md_guard_76 rfl (lv_at hl 0 rfl) ?_
                refine ly_getr fx hk hw (0) rfl rfl i_Model 10 (by decide) rfl rfl (List.mem_cons_of_mem _ a_477) d_Md_guard_77 ?_
                refine lv_bipush (v := 8) hx hb d_Md_guard_80 (by decide) ?_
                refine lv_iload_n hx hb d_Md_guard_82 rfl (lv_at hl 1 rfl) ?_
                refine lv_imul hx hb d_Md_guard_83 ?_
                refine lv_iload_n hx hb d_Md_guard_84 rfl (lv_at hl 2 rfl) ?_
                refine lv_iadd hx hb d_Md_guard_85 ?_
                refine lv_iload hx hb d_Md_guard_86 (lv_at hl 5 rfl) ?_
                obtain ⟨hi9, h⟩ := it_in h
                refine ly_iast fx hk hw (11) rfl hi9 d_Md_guard_88 (fun H locs hw => ?_)
                obtain ⟨u10, ev⟩ : ∃ z, z = ly_pi u8 (11) (((8 : Int32) * a1) + a2).toNatClampNeg a5 := ⟨_, rfl⟩
                rw [← ev] at hw
                have h := nk_r ev h
                refine lv_iconst (v := 1) hx hb d_Md_guard_89 (by decide) ?_
                exact ly_retz fx hr hlocks hk hw (Or.inr rfl) (Option.some.inj h) d_Md_guard_90
              · have h := it_t hc h
                refine lv_iconst (v := 0) hx hb d_Md_guard_49 (by decide) ?_
                exact ly_retz fx hr hlocks hk hw (Or.inl rfl) (Option.some.inj h) d_Md_guard_50
            · have h := it_f hc h
              refine lv_iconst (v := 0) hx hb d_Md_guard_34 (by decide) ?_
              exact ly_retz fx hr hlocks hk hw (Or.inl rfl) (Option.some.inj h) d_Md_guard_35
set_option maxRecDepth 100000 in
set_option maxHeartbeats 4000000 in
theorem c_Md_items (l : Launch) (a1 : Int32) (a2 : Int32) (a3 : Int32) (a4 : Int32) (a5 : Int32) (u : St) (res : Int32 × St) (h : sp_Md_items a1 a2 a3 a4 a5 u = some res) : ly_Mi ZsM clA layM l y_Md_items w_Md_items { frames := 2, cells := 0, slots := 0, locals := 41 } (fun ad => [.ref (ad 0), .int a1, .int a2, .int a3, .int a4, .int a5]) u (fun r1 u1 => (r1, u1) = res) := by
  refine ly_enti (cc := b_Md_items) (maxL := 6) (ret := (some .boolean)) (by decide) rfl (fun ad => Nat.le_of_ble_eq_true rfl) ?_
  intro p e s m below meth c D ad cA A ls fx hr hlocks hk hA hz hw hl
  have hl : lv_has ls 6 [(0, .ref (ad 0)), (1, .int a1), (2, .int a2), (3, .int a3), (4, .int a4), (5, .int a5)] := hl
  have hx := fx.1
  have hb := fx.2.1
  unfold sp_Md_items at h
  refine lv_aload_n hx hb d_Md_items_0 rfl (lv_at hl 0 rfl) ?_
  refine ly_get fx hk hw (0) rfl rfl i_Model 15 (by decide) rfl rfl (List.mem_cons_of_mem _ a_482) d_Md_items_1 ?_
  refine lv_if_ne (tgt := 35) hx hb d_Md_items_4 (by decide) (fun hc => ?_) (fun hc => ?_)
  · have h := it_f hc h
    refine lv_iconst (v := 0) hx hb d_Md_items_35 (by decide) ?_
    exact ly_retz fx hr hlocks hk hw (Or.inl rfl) (Option.some.inj h) d_Md_items_36
  · have h := it_t hc h
    refine lv_aload_n hx hb d_Md_items_7 rfl (lv_at hl 0 rfl) ?_
    refine lv_iload_n hx hb d_Md_items_8 rfl (lv_at hl 1 rfl) ?_
    obtain ⟨r1, u2, hq3, h⟩ := ck_r h
    refine ly_callVi (As := [.int a1]) (rest := []) ZsM_ok fx hk hz hA hw (c_Md_isDefined l a1 u _ hq3) (cw_V fx.2.2.2.2 a_569 a_571 as_19 a_6 ac_Md_isDefined rfl rfl rfl hd_Md_isDefined ⟨Nat.le_of_ble_eq_true rfl, Nat.le_of_ble_eq_true rfl⟩) (0) rfl rfl rfl rfl hl.1 rfl (Nat.le_of_ble_eq_true rfl) d_Md_items_9 (Nat.zero_le _) (Nat.zero_le _) (fun r' u' H locs hp hw => ?_)
    cases hp
    refine lv_if_eq (tgt := 35) hx hb d_Md_items_12 (by decide) (fun hc => ?_) (fun hc => ?_)
    · have h := it_t hc h
      refine lv_iconst (v := 0) hx hb d_Md_items_35 (by decide) ?_
      exact ly_retz fx hr hlocks hk hw (Or.inl rfl) (Option.some.inj h) d_Md_items_36
    · have h := it_f hc h
      refine lv_iload_n hx hb d_Md_items_15 rfl (lv_at hl 2 rfl) ?_
      refine lv_iconst (v := 1) hx hb d_Md_items_16 (by decide) ?_
      refine lv_icmp_lt (tgt := 35) hx hb d_Md_items_17 (by decide) (fun hc => ?_) (fun hc => ?_)
      · have h := it_t hc h
        refine lv_iconst (v := 0) hx hb d_Md_items_35 (by decide) ?_
        exact ly_retz fx hr hlocks hk hw (Or.inl rfl) (Option.some.inj h) d_Md_items_36
      · have h := it_f hc h
        refine lv_iload_n hx hb d_Md_items_20 rfl (lv_at hl 2 rfl) ?_
        refine lv_iconst (v := 4) hx hb d_Md_items_21 (by decide) ?_
        refine lv_icmp_gt (tgt := 35) hx hb d_Md_items_22 (by decide) (fun hc => ?_) (fun hc => ?_)
        · have h := it_t hc h
          refine lv_iconst (v := 0) hx hb d_Md_items_35 (by decide) ?_
          exact ly_retz fx hr hlocks hk hw (Or.inl rfl) (Option.some.inj h) d_Md_items_36
        · have h := it_f hc h
          refine lv_iload_n hx hb d_Md_items_25 rfl (lv_at hl 3 rfl) ?_
          refine lv_iconst (v := 1) hx hb d_Md_items_26 (by decide) ?_
          refine lv_icmp_lt (tgt := 35) hx hb d_Md_items_27 (by decide) (fun hc => ?_) (fun hc => ?_)
          · have h := it_t hc h
            refine lv_iconst (v := 0) hx hb d_Md_items_35 (by decide) ?_
            exact ly_retz fx hr hlocks hk hw (Or.inl rfl) (Option.some.inj h) d_Md_items_36
          · have h := it_f hc h
            refine lv_iload_n hx hb d_Md_items_30 rfl (lv_at hl 3 rfl) ?_
            refine lv_iload_n hx hb d_Md_items_31 rfl (lv_at hl 2 rfl) ?_
            refine lv_icmp_le (tgt := 37) hx hb d_Md_items_32 (by decide) (fun hc => ?_) (fun hc => ?_)
            · have h := it_t hc h
              refine lv_iload hx hb d_Md_items_37 (lv_at hl 4 rfl) ?_
              refine lv_if_lt (tgt := 60) hx hb d_Md_items_39 (by decide) (fun hc => ?_) (fun hc => ?_)
              · have h := it_t hc h
                refine lv_iconst (v := 0) hx hb d_Md_items_60 (by decide) ?_
                exact ly_retz fx hr hlocks hk hw (Or.inl rfl) (Option.some.inj h) d_Md_items_61
              · have h := it_f hc h
                refine lv_iload hx hb d_Md_items_42 (lv_at hl 4 rfl) ?_
                refine lv_iconst (v := 3) hx hb d_Md_items_44 (by decide) ?_
                refine lv_icmp_gt (tgt := 60) hx hb d_Md_items_45 (by decide) (fun hc => ?_) (fun hc => ?_)
                · have h := it_t hc h
                  refine lv_iconst (v := 0) hx hb d_Md_items_60 (by decide) ?_
                  exact ly_retz fx hr hlocks hk hw (Or.inl rfl) (Option.some.inj h) d_Md_items_61
                · have h := it_f hc h
                  refine lv_iload hx hb d_Md_items_48 (lv_at hl 5 rfl) ?_
                  refine lv_if_lt (tgt := 60) hx hb d_Md_items_50 (by decide) (fun hc => ?_) (fun hc => ?_)
                  · have h := it_t hc h
                    refine lv_iconst (v := 0) hx hb d_Md_items_60 (by decide) ?_
                    exact ly_retz fx hr hlocks hk hw (Or.inl rfl) (Option.some.inj h) d_Md_items_61
                  · have h := it_f hc h
                    refine lv_iload hx hb d_Md_items_53 (lv_at hl 5 rfl) ?_
                    refine lv_bipush (v := 100) hx hb d_Md_items_55 (by decide) ?_
                    refine lv_icmp_le (tgt := 62) hx hb d_Md_items_57 (by decide) (fun hc => ?_) (fun hc => ?_)
                    · have h := it_t hc h
                      refine lv_aload_n hx hb d_Md_items_62 rfl (lv_at hl 0 rfl) ?_
                      refine ly_getr fx hk hw (0) rfl rfl i_Model 11 (by decide) rfl rfl (List.mem_cons_of_mem _ a_478) d_Md_items_63 ?_
                      refine lv_iload_n hx hb d_Md_items_66 rfl (lv_at hl 1 rfl) ?_
                      refine lv_iload_n hx hb d_Md_items_67 rfl (lv_at hl 2 rfl) ?_
                      obtain ⟨hi4, h⟩ := it_in h
                      refine ly_iast fx hk hw (12) rfl hi4 d_Md_items_68 (fun H locs hw => ?_)
                      obtain ⟨u5, ev⟩ : ∃ z, z = ly_pi u2 (12) a1.toNatClampNeg a2 := ⟨_, rfl⟩
                      rw [← ev] at hw
                      have h := nk_r ev h
                      refine lv_aload_n hx hb d_Md_items_69 rfl (lv_at hl 0 rfl) ?_
                      refine ly_getr fx hk hw (0) rfl rfl i_Model 12 (by decide) rfl rfl (List.mem_cons_of_mem _ a_479) d_Md_items_70 ?_
                      refine lv_iload_n hx hb d_Md_items_73 rfl (lv_at hl 1 rfl) ?_
                      refine lv_iload_n hx hb d_Md_items_74 rfl (lv_at hl 3 rfl) ?_
                      obtain ⟨hi6, h⟩ := it_in h
                      refine ly_iast fx hk hw (13) rfl hi6 d_Md_items_75 (fun H locs hw => ?_)
                      obtain ⟨u7, ev⟩ : ∃ z, z = ly_pi u5 (13) a1.toNatClampNeg a3 := ⟨_, rfl⟩
                      rw [← ev] at hw
                      have h := nk_r ev h
                      refine lv_aload_n hx hb d_Md_items_76 rfl (lv_at hl 0 rfl) ?_
                      refine ly_getr fx hk hw (0) rfl rfl i_Model 13 (by decide) rfl rfl (List.mem_cons_of_mem _ a_480) d_Md_items_77 ?_
                      refine lv_iload_n hx hb d_Md_items_80 rfl (lv_at hl 1 rfl) ?_
                      refine lv_iload hx hb d_Md_items_81 (lv_at hl 4 rfl) ?_
                      obtain ⟨hi8, h⟩ := it_in h
                      refine ly_iast fx hk hw (14) rfl hi8 d_Md_items_83 (fun H locs hw => ?_)
                      obtain ⟨u9, ev⟩ : ∃ z, z = ly_pi u7 (14) a1.toNatClampNeg a4 := ⟨_, rfl⟩
                      rw [← ev] at hw
                      have h := nk_r ev h
                      refine lv_aload_n hx hb d_Md_items_84 rfl (lv_at hl 0 rfl) ?_
                      refine ly_getr fx hk hw (0) rfl rfl i_Model 14 (by decide) rfl rfl (List.mem_cons_of_mem _ a_481) d_Md_items_85 ?_
                      refine lv_iload_n hx hb d_Md_items_88 rfl (lv_at hl 1 rfl) ?_
                      refine lv_iload hx hb d_Md_items_89 (lv_at hl 5 rfl) ?_
                      obtain ⟨hi10, h⟩ := it_in h
                      refine ly_iast fx hk hw (15) rfl hi10 d_Md_items_91 (fun H locs hw => ?_)
                      obtain ⟨u11, ev⟩ : ∃ z, z = ly_pi u9 (15) a1.toNatClampNeg a5 := ⟨_, rfl⟩
                      rw [← ev] at hw
                      have h := nk_r ev h
                      refine lv_iconst (v := 1) hx hb d_Md_items_92 (by decide) ?_
                      exact ly_retz fx hr hlocks hk hw (Or.inr rfl) (Option.some.inj h) d_Md_items_93
                    · have h := it_f hc h
                      refine lv_iconst (v := 0) hx hb d_Md_items_60 (by decide) ?_
                      exact ly_retz fx hr hlocks hk hw (Or.inl rfl) (Option.some.inj h) d_Md_items_61
            · have h := it_f hc h
              refine lv_iconst (v := 0) hx hb d_Md_items_35 (by decide) ?_
              exact ly_retz fx hr hlocks hk hw (Or.inl rfl) (Option.some.inj h) d_Md_items_36
set_option maxRecDepth 100000 in
set_option maxHeartbeats 4000000 in
theorem wl_Md_isAny_4 {p : Program} {l : Launch} {e : Env} {s : State} {m : MethodId} {args : Array Value} {below : List Frame} {meth : Method} {c : Code} {D : va_G} {ad : Nat → Nat} {cA : Nat → ClassId} {A : Nat → Prop} (fx : CallFix p m c b_Md_isAny 3 s args w_Md_isAny y_Md_isAny.cls) (hr : meth.sig.returnType = (some .boolean)) (hlocks : meth.locks = false) (hk : ly_K D clA layM cA s) (hA : ∀ q, s.heap.size ≤ q → A q) (hz : ZsM A s s.heap) (F : Nat) {k4 : Int32 → Int32 → St → Option (Int32 × St)} {res : Int32 × St}
    (hX4 : ∀ (v1 : Int32) (v2 : Int32) (u : St) (H : Heap) (locs : List Loc) (ls : Array Slot), k4 v1 v2 u = some res → lv_has ls 3 [(0, .ref (ad 0)), (1, .int v1), (2, .int v2)] → ly_G D clA layM ad cA A s.heap u H locs → W p l e { frames := 0, cells := 0, slots := 0, locals := 0 } s m args below meth c H locs 0 0 (MQ below (va_Qi (fun r1 u1 => (r1, u1) = res) (ly_B D clA layM ad cA A) A) args s 0 0 A) (F0 m 35 ls [])) :
    ∀ (n : Nat) (v1 : Int32) (v2 : Int32) (u : St) (H : Heap) (locs : List Loc) (ls : Array Slot), lp_Md_isAny_4 F k4 n v1 v2 u = some res → lv_has ls 3 [(0, .ref (ad 0)), (1, .int v1), (2, .int v2)] → ly_G D clA layM ad cA A s.heap u H locs → W p l e { frames := 0, cells := 0, slots := 0, locals := 0 } s m args below meth c H locs 0 0 (MQ below (va_Qi (fun r1 u1 => (r1, u1) = res) (ly_B D clA layM ad cA A) A) args s 0 0 A) (F0 m 4 ls []) := by
  have hx := fx.1
  have hb := fx.2.1
  intro n
  induction n with
  | zero => intro v1 v2 u H locs ls h; exact nomatch h
  | succ n ih =>
    intro v1 v2 u H locs ls h hl hw
    rw [lp_Md_isAny_4] at h
    refine lv_iload_n hx hb d_Md_isAny_4 rfl (lv_at hl 2 rfl) ?_
    refine lv_bipush (v := 6) hx hb d_Md_isAny_5 (by decide) ?_
    refine lv_icmp_ge (tgt := 35) hx hb d_Md_isAny_7 (by decide) (fun hc => ?_) (fun hc => ?_)
    · have h := it_t hc h
      exact hX4 v1 v2 u _ _ _ h (lv_sub hl [0, 1, 2] rfl) hw
    · have h := it_f hc h
      refine lv_iload_n hx hb d_Md_isAny_10 rfl (lv_at hl 1 rfl) ?_
      refine lv_if_ne (tgt := 23) hx hb d_Md_isAny_11 (by decide) (fun hc => ?_) (fun hc => ?_)
      · have h := it_f hc h
        refine lv_iconst (v := 1) hx hb d_Md_isAny_23 (by decide) ?_
        refine lv_goto (tgt := 28) hx hb d_Md_isAny_24 (by decide) ?_
        refine lv_istore_n (lv' := [(1, .int (1 : Int32)), (0, .ref (ad 0)), (2, .int v2)]) hx hb d_Md_isAny_28 rfl hl (by decide) rfl (fun ls hl => ?_)
        refine lv_iinc (lv' := [(2, .int (v2 + (1 : Int32))), (1, .int (1 : Int32)), (0, .ref (ad 0))]) (k := 2) hx hb d_Md_isAny_29 hl rfl (oi_p1 _) (by decide) rfl (fun ls hl => ?_)
        refine lv_goto (tgt := 4) hx hb d_Md_isAny_32 (by decide) ?_
        exact ih (1 : Int32) (v2 + (1 : Int32)) u _ _ _ h (lv_sub hl [2, 1, 0] rfl) hw
      · have h := it_t hc h
        refine lv_aload_n hx hb d_Md_isAny_14 rfl (lv_at hl 0 rfl) ?_
        refine ly_getr fx hk hw (0) rfl rfl i_Model 0 (by decide) rfl rfl (List.mem_cons_of_mem _ a_467) d_Md_isAny_15 ?_
        refine lv_iload_n hx hb d_Md_isAny_18 rfl (lv_at hl 2 rfl) ?_
        obtain ⟨hi1, h⟩ := it_in h
        refine ly_zald fx hk hw (1) rfl hi1 d_Md_isAny_19 ?_
        refine lv_if_eq (tgt := 27) hx hb d_Md_isAny_20 (by decide) (fun hc => ?_) (fun hc => ?_)
        · have h := it_t hc h
          refine lv_iconst (v := 0) hx hb d_Md_isAny_27 (by decide) ?_
          refine lv_istore_n (lv' := [(1, .int (0 : Int32)), (0, .ref (ad 0)), (2, .int v2)]) hx hb d_Md_isAny_28 rfl hl (by decide) rfl (fun ls hl => ?_)
          refine lv_iinc (lv' := [(2, .int (v2 + (1 : Int32))), (1, .int (0 : Int32)), (0, .ref (ad 0))]) (k := 2) hx hb d_Md_isAny_29 hl rfl (oi_p1 _) (by decide) rfl (fun ls hl => ?_)
          refine lv_goto (tgt := 4) hx hb d_Md_isAny_32 (by decide) ?_
          exact ih (0 : Int32) (v2 + (1 : Int32)) u _ _ _ h (lv_sub hl [2, 1, 0] rfl) hw
        · have h := it_f hc h
          refine lv_iconst (v := 1) hx hb d_Md_isAny_23 (by decide) ?_
          refine lv_goto (tgt := 28) hx hb d_Md_isAny_24 (by decide) ?_
          refine lv_istore_n (lv' := [(1, .int (1 : Int32)), (0, .ref (ad 0)), (2, .int v2)]) hx hb d_Md_isAny_28 rfl hl (by decide) rfl (fun ls hl => ?_)
          refine lv_iinc (lv' := [(2, .int (v2 + (1 : Int32))), (1, .int (1 : Int32)), (0, .ref (ad 0))]) (k := 2) hx hb d_Md_isAny_29 hl rfl (oi_p1 _) (by decide) rfl (fun ls hl => ?_)
          refine lv_goto (tgt := 4) hx hb d_Md_isAny_32 (by decide) ?_
          exact ih (1 : Int32) (v2 + (1 : Int32)) u _ _ _ h (lv_sub hl [2, 1, 0] rfl) hw
set_option maxRecDepth 100000 in
set_option maxHeartbeats 4000000 in
theorem c_Md_isAny (l : Launch) (F : Nat) (u : St) (res : Int32 × St) (h : sp_Md_isAny F u = some res) : ly_Mi ZsM clA layM l y_Md_isAny w_Md_isAny { frames := 0, cells := 0, slots := 0, locals := 0 } (fun ad => [.ref (ad 0)]) u (fun r1 u1 => (r1, u1) = res) := by
  refine ly_enti (cc := b_Md_isAny) (maxL := 3) (ret := (some .boolean)) (by decide) rfl (fun ad => Nat.le_of_ble_eq_true rfl) ?_
  intro p e s m below meth c D ad cA A ls fx hr hlocks hk hA hz hw hl
  have hl : lv_has ls 3 [(0, .ref (ad 0))] := hl
  have hx := fx.1
  have hb := fx.2.1
  unfold sp_Md_isAny at h
  refine lv_iconst (v := 0) hx hb d_Md_isAny_0 (by decide) ?_
  refine lv_istore_n (lv' := [(1, .int (0 : Int32)), (0, .ref (ad 0))]) hx hb d_Md_isAny_1 rfl hl (by decide) rfl (fun ls hl => ?_)
  refine lv_iconst (v := 0) hx hb d_Md_isAny_2 (by decide) ?_
  refine lv_istore_n (lv' := [(2, .int (0 : Int32)), (1, .int (0 : Int32)), (0, .ref (ad 0))]) hx hb d_Md_isAny_3 rfl hl (by decide) rfl (fun ls hl => ?_)
  refine wl_Md_isAny_4 fx hr hlocks hk hA hz F (fun v1_2 v2_3 u4 H locs ls h hl hw => ?_) _ (0 : Int32) (0 : Int32) u _ _ _ h (lv_sub hl [2, 1, 0] rfl) hw
  refine lv_iload_n hx hb d_Md_isAny_35 rfl (lv_at hl 1 rfl) ?_
  obtain ⟨hn, h⟩ := it_n h
  exact ly_retz fx hr hlocks hk hw hn (Option.some.inj h) d_Md_isAny_36
set_option maxRecDepth 100000 in
set_option maxHeartbeats 4000000 in
theorem wl_Md_outputs_5 {p : Program} {l : Launch} {e : Env} {s : State} {m : MethodId} {args : Array Value} {below : List Frame} {meth : Method} {c : Code} {D : va_G} {ad : Nat → Nat} {cA : Nat → ClassId} {A : Nat → Prop} (fx : CallFix p m c b_Md_outputs 5 s args w_Md_outputs y_Md_outputs.cls) (hr : meth.sig.returnType = (some .int)) (hlocks : meth.locks = false) (hk : ly_K D clA layM cA s) (hA : ∀ q, s.heap.size ≤ q → A q) (hz : ZsM A s s.heap) (F : Nat) (v1 : Int32) (v2 : Int32) {k5 : Int32 → Int32 → St → Option (Int32 × St)} {res : Int32 × St}
    (hX5 : ∀ (v3 : Int32) (v4 : Int32) (u : St) (H : Heap) (locs : List Loc) (ls : Array Slot), k5 v3 v4 u = some res → lv_has ls 5 [(0, .ref (ad 0)), (1, .int v1), (2, .int v2), (3, .int v3), (4, .int v4)] → ly_G D clA layM ad cA A s.heap u H locs → W p l e { frames := 0, cells := 0, slots := 0, locals := 0 } s m args below meth c H locs 0 0 (MQ below (va_Qi (fun r1 u1 => (r1, u1) = res) (ly_B D clA layM ad cA A) A) args s 0 0 A) (F0 m 45 ls [])) :
    ∀ (n : Nat) (v3 : Int32) (v4 : Int32) (u : St) (H : Heap) (locs : List Loc) (ls : Array Slot), lp_Md_outputs_5 F v1 v2 k5 n v3 v4 u = some res → lv_has ls 5 [(0, .ref (ad 0)), (1, .int v1), (2, .int v2), (3, .int v3), (4, .int v4)] → ly_G D clA layM ad cA A s.heap u H locs → W p l e { frames := 0, cells := 0, slots := 0, locals := 0 } s m args below meth c H locs 0 0 (MQ below (va_Qi (fun r1 u1 => (r1, u1) = res) (ly_B D clA layM ad cA A) A) args s 0 0 A) (F0 m 5 ls []) := by
  have hx := fx.1
  have hb := fx.2.1
  intro n
  induction n with
  | zero => intro v3 v4 u H locs ls h; exact nomatch h
  | succ n ih =>
    intro v3 v4 u H locs ls h hl hw
    rw [lp_Md_outputs_5] at h
    refine lv_iload hx hb d_Md_outputs_5 (lv_at hl 4 rfl) ?_
    refine lv_iconst (v := 3) hx hb d_Md_outputs_7 (by decide) ?_
    refine lv_icmp_ge (tgt := 45) hx hb d_Md_outputs_8 (by decide) (fun hc => ?_) (fun hc => ?_)
    · have h := it_t hc h
      exact hX5 v3 v4 u _ _ _ h (lv_sub hl [0, 1, 2, 3, 4] rfl) hw
    · have h := it_f hc h
      refine lv_iload_n hx hb d_Md_outputs_11 rfl (lv_at hl 3 rfl) ?_
      refine lv_iload_n hx hb d_Md_outputs_12 rfl (lv_at hl 2 rfl) ?_
      refine lv_iload hx hb d_Md_outputs_13 (lv_at hl 4 rfl) ?_
      refine lv_ishr hx hb d_Md_outputs_15 ?_
      refine lv_iconst (v := 1) hx hb d_Md_outputs_16 (by decide) ?_
      refine lv_iand hx hb d_Md_outputs_17 ?_
      refine lv_iconst (v := 1) hx hb d_Md_outputs_18 (by decide) ?_
      refine lv_icmp_ne (tgt := 36) hx hb d_Md_outputs_19 (by decide) (fun hc => ?_) (fun hc => ?_)
      · have h := it_f hc h
        refine lv_iconst (v := 0) hx hb d_Md_outputs_36 (by decide) ?_
        refine lv_ior hx hb d_Md_outputs_37 ?_
        refine lv_topi (fun v3_1 ev => ?_)
        have h := nk_r ev h
        refine lv_istore_n (lv' := [(3, .int v3_1), (0, .ref (ad 0)), (1, .int v1), (2, .int v2), (4, .int v4)]) hx hb d_Md_outputs_38 rfl hl (by decide) rfl (fun ls hl => ?_)
        refine lv_iinc (lv' := [(4, .int (v4 + (1 : Int32))), (3, .int v3_1), (0, .ref (ad 0)), (1, .int v1), (2, .int v2)]) (k := 4) hx hb d_Md_outputs_39 hl rfl (oi_p1 _) (by decide) rfl (fun ls hl => ?_)
        refine lv_goto (tgt := 5) hx hb d_Md_outputs_42 (by decide) ?_
        exact ih v3_1 (v4 + (1 : Int32)) u _ _ _ h (lv_sub hl [2, 3, 4, 1, 0] rfl) hw
      · have h := it_t hc h
        refine lv_aload_n hx hb d_Md_outputs_22 rfl (lv_at hl 0 rfl) ?_
        refine ly_getr fx hk hw (0) rfl rfl i_Model 6 (by decide) rfl rfl (List.mem_cons_of_mem _ a_473) d_Md_outputs_23 ?_
        refine lv_iconst (v := 3) hx hb d_Md_outputs_26 (by decide) ?_
        refine lv_iload_n hx hb d_Md_outputs_27 rfl (lv_at hl 1 rfl) ?_
        refine lv_imul hx hb d_Md_outputs_28 ?_
        refine lv_iload hx hb d_Md_outputs_29 (lv_at hl 4 rfl) ?_
        refine lv_iadd hx hb d_Md_outputs_31 ?_
        obtain ⟨hi2, h⟩ := it_in h
        refine ly_iald fx hk hw (7) rfl hi2 d_Md_outputs_32 ?_
        refine lv_goto (tgt := 37) hx hb d_Md_outputs_33 (by decide) ?_
        refine lv_ior hx hb d_Md_outputs_37 ?_
        refine lv_topi (fun v3_3 ev => ?_)
        have h := nk_r ev h
        refine lv_istore_n (lv' := [(3, .int v3_3), (0, .ref (ad 0)), (1, .int v1), (2, .int v2), (4, .int v4)]) hx hb d_Md_outputs_38 rfl hl (by decide) rfl (fun ls hl => ?_)
        refine lv_iinc (lv' := [(4, .int (v4 + (1 : Int32))), (3, .int v3_3), (0, .ref (ad 0)), (1, .int v1), (2, .int v2)]) (k := 4) hx hb d_Md_outputs_39 hl rfl (oi_p1 _) (by decide) rfl (fun ls hl => ?_)
        refine lv_goto (tgt := 5) hx hb d_Md_outputs_42 (by decide) ?_
        exact ih v3_3 (v4 + (1 : Int32)) u _ _ _ h (lv_sub hl [2, 3, 4, 1, 0] rfl) hw
set_option maxRecDepth 100000 in
set_option maxHeartbeats 4000000 in
theorem c_Md_outputs (l : Launch) (F : Nat) (a1 : Int32) (a2 : Int32) (u : St) (res : Int32 × St) (h : sp_Md_outputs F a1 a2 u = some res) : ly_Mi ZsM clA layM l y_Md_outputs w_Md_outputs { frames := 0, cells := 0, slots := 0, locals := 0 } (fun ad => [.ref (ad 0), .int a1, .int a2]) u (fun r1 u1 => (r1, u1) = res) := by
  refine ly_enti (cc := b_Md_outputs) (maxL := 5) (ret := (some .int)) (by decide) rfl (fun ad => Nat.le_of_ble_eq_true rfl) ?_
  intro p e s m below meth c D ad cA A ls fx hr hlocks hk hA hz hw hl
  have hl : lv_has ls 5 [(0, .ref (ad 0)), (1, .int a1), (2, .int a2)] := hl
  have hx := fx.1
  have hb := fx.2.1
  unfold sp_Md_outputs at h
  refine lv_iconst (v := 0) hx hb d_Md_outputs_0 (by decide) ?_
  refine lv_istore_n (lv' := [(3, .int (0 : Int32)), (0, .ref (ad 0)), (1, .int a1), (2, .int a2)]) hx hb d_Md_outputs_1 rfl hl (by decide) rfl (fun ls hl => ?_)
  refine lv_iconst (v := 0) hx hb d_Md_outputs_2 (by decide) ?_
  refine lv_istore (lv' := [(4, .int (0 : Int32)), (3, .int (0 : Int32)), (0, .ref (ad 0)), (1, .int a1), (2, .int a2)]) hx hb d_Md_outputs_3 hl (by decide) rfl (fun ls hl => ?_)
  refine wl_Md_outputs_5 fx hr hlocks hk hA hz F a1 a2 (fun v3_4 v4_5 u6 H locs ls h hl hw => ?_) _ (0 : Int32) (0 : Int32) u _ _ _ h (lv_sub hl [2, 3, 4, 1, 0] rfl) hw
  refine lv_iload_n hx hb d_Md_outputs_45 rfl (lv_at hl 3 rfl) ?_
  exact ly_reti fx hr hlocks hk hw (Option.some.inj h) d_Md_outputs_46
set_option maxRecDepth 100000 in
set_option maxHeartbeats 4000000 in
theorem c_Md_after (l : Launch) (F : Nat) (a1 : Int32) (a2 : Int32) (a3 : Int32) (u : St) (res : Int32 × St) (h : sp_Md_after F a1 a2 a3 u = some res) : ly_Mi ZsM clA layM l y_Md_after w_Md_after { frames := 1, cells := 0, slots := 0, locals := 24 } (fun ad => [.ref (ad 0), .int a1, .int a2, .int a3]) u (fun r1 u1 => (r1, u1) = res) := by
  refine ly_enti (cc := b_Md_after) (maxL := 8) (ret := (some .int)) (by decide) rfl (fun ad => Nat.le_of_ble_eq_true rfl) ?_
  intro p e s m below meth c D ad cA A ls fx hr hlocks hk hA hz hw hl
  have hl : lv_has ls 8 [(0, .ref (ad 0)), (1, .int a1), (2, .int a2), (3, .int a3)] := hl
  have hx := fx.1
  have hb := fx.2.1
  unfold sp_Md_after at h
  refine lv_iconst (v := 1) hx hb d_Md_after_0 (by decide) ?_
  refine lv_bipush (v := 8) hx hb d_Md_after_1 (by decide) ?_
  refine lv_iload_n hx hb d_Md_after_3 rfl (lv_at hl 2 rfl) ?_
  refine lv_iadd hx hb d_Md_after_4 ?_
  refine lv_ishl hx hb d_Md_after_5 ?_
  refine lv_topi (fun v4_1 ev => ?_)
  have h := nk_r ev h
  refine lv_istore (lv' := [(4, .int v4_1), (0, .ref (ad 0)), (1, .int a1), (2, .int a2), (3, .int a3)]) hx hb d_Md_after_6 hl (by decide) rfl (fun ls hl => ?_)
  refine lv_iload_n hx hb d_Md_after_8 rfl (lv_at hl 4 rfl) ?_
  refine lv_iconst (v := 3) hx hb d_Md_after_9 (by decide) ?_
  refine lv_icmp_ge (tgt := 79) hx hb d_Md_after_10 (by decide) (fun hc => ?_) (fun hc => ?_)
  · have h := it_t hc h
    refine lv_iload_n hx hb d_Md_after_79 rfl (lv_at hl 4 rfl) ?_
    refine lv_iconst (v := 2) hx hb d_Md_after_80 (by decide) ?_
    refine lv_isub hx hb d_Md_after_81 ?_
    refine lv_topi (fun v5_2 ev => ?_)
    have h := nk_r ev h
    refine lv_istore (lv' := [(5, .int v5_2), (4, .int v4_1), (0, .ref (ad 0)), (1, .int a1), (2, .int a2), (3, .int a3)]) hx hb d_Md_after_82 hl (by decide) rfl (fun ls hl => ?_)
    refine lv_aload_n hx hb d_Md_after_84 rfl (lv_at hl 2 rfl) ?_
    refine lv_iload_n hx hb d_Md_after_85 rfl (lv_at hl 4 rfl) ?_
    refine lv_iload hx hb d_Md_after_86 (lv_at hl 0 rfl) ?_
    obtain ⟨r3, u4, hq5, h⟩ := ck_r h
    refine ly_callVi (As := [.int a2, .int v5_2]) (rest := []) ZsM_ok fx hk hz hA hw (c_Md_outputs l F a2 v5_2 u _ hq5) (cw_V fx.2.2.2.2 a_600 a_602 as_23 a_6 ac_Md_outputs rfl rfl rfl hd_Md_outputs ⟨Nat.le_of_ble_eq_true rfl, Nat.le_of_ble_eq_true rfl⟩) (0) rfl rfl rfl rfl hl.1 rfl (Nat.le_of_ble_eq_true rfl) d_Md_after_88 (Nat.zero_le _) (Nat.zero_le _) (fun r' u' H locs hp hw => ?_)
    cases hp
    refine lv_istore (lv' := [(6, .int r3), (5, .int v5_2), (4, .int v4_1), (0, .ref (ad 0)), (1, .int a1), (2, .int a2), (3, .int a3)]) hx hb d_Md_after_91 hl (by decide) rfl (fun ls hl => ?_)
    refine lv_iload hx hb d_Md_after_93 (lv_at hl 0 rfl) ?_
    obtain ⟨r6, u7, hq8, h⟩ := ck_r h
    refine ly_callSi (As := [.int r3]) (rest := []) ZsM_ok fx hk hz hA hw (c_Md_count l F r3 u4 _ hq8) (cw_S fx.2.2.2.2 a_560 a_561 a_6 ac_Md_count rfl rfl hd_Md_count ⟨Nat.le_of_ble_eq_true rfl, Nat.le_of_ble_eq_true rfl⟩) rfl rfl hl.1 rfl (Nat.le_of_ble_eq_true rfl) d_Md_after_95 (Nat.zero_le _) (Nat.zero_le _) (fun r' u' H locs hp hw => ?_)
    cases hp
    refine lv_iload hx hb d_Md_after_98 (lv_at hl 1 rfl) ?_
    obtain ⟨r9, u10, hq11, h⟩ := ck_r h
    refine ly_callSi (As := [.int v5_2]) (rest := [.int r6]) ZsM_ok fx hk hz hA hw (c_Md_count l F v5_2 u7 _ hq11) (cw_S fx.2.2.2.2 a_560 a_561 a_6 ac_Md_count rfl rfl hd_Md_count ⟨Nat.le_of_ble_eq_true rfl, Nat.le_of_ble_eq_true rfl⟩) rfl rfl hl.1 rfl (Nat.le_of_ble_eq_true rfl) d_Md_after_100 (Nat.zero_le _) (Nat.zero_le _) (fun r' u' H locs hp hw => ?_)
    cases hp
    refine lv_icmp_ne (tgt := 152) hx hb d_Md_after_103 (by decide) (fun hc => ?_) (fun hc => ?_)
    · have h := it_f hc h
      refine lv_iconst (v := 0) hx hb d_Md_after_152 (by decide) ?_
      refine lv_istore (lv' := [(7, .int (0 : Int32)), (6, .int r3), (5, .int v5_2), (4, .int v4_1), (0, .ref (ad 0)), (1, .int a1), (2, .int a2), (3, .int a3)]) hx hb d_Md_after_153 hl (by decide) rfl (fun ls hl => ?_)
      refine lv_iload hx hb d_Md_after_155 (lv_at hl 0 rfl) ?_
      refine lv_if_eq (tgt := 167) hx hb d_Md_after_157 (by decide) (fun _ => ?_) (fun hc => absurd hc (by decide))
      refine lv_iconst (v := -1) hx hb d_Md_after_167 (by decide) ?_
      refine lv_goto (tgt := 189) hx hb d_Md_after_168 (by decide) ?_
      exact ly_reti fx hr hlocks hk hw (Option.some.inj h) d_Md_after_189
    · have h := it_t hc h
      refine lv_aload_n hx hb d_Md_after_106 rfl (lv_at hl 3 rfl) ?_
      refine ly_getr fx hk hw (0) rfl rfl i_Model 2 (by decide) rfl rfl (List.mem_cons_of_mem _ a_469) d_Md_after_107 ?_
      refine lv_iload_n hx hb d_Md_after_110 rfl (lv_at hl 5 rfl) ?_
      obtain ⟨hi12, h⟩ := it_in h
      refine ly_iald fx hk hw (3) rfl hi12 d_Md_after_111 ?_
      refine lv_if_ne (tgt := 129) hx hb d_Md_after_112 (by decide) (fun hc => ?_) (fun hc => ?_)
      · have h := it_f hc h
        refine lv_aload_n hx hb d_Md_after_129 rfl (lv_at hl 3 rfl) ?_
        refine ly_getr fx hk hw (0) rfl rfl i_Model 2 (by decide) rfl rfl (List.mem_cons_of_mem _ a_469) d_Md_after_130 ?_
        refine lv_iload_n hx hb d_Md_after_133 rfl (lv_at hl 5 rfl) ?_
        obtain ⟨hi13, h⟩ := it_in h
        refine ly_iald fx hk hw (3) rfl hi13 d_Md_after_134 ?_
        refine lv_iconst (v := 1) hx hb d_Md_after_135 (by decide) ?_
        refine lv_icmp_ne (tgt := 148) hx hb d_Md_after_136 (by decide) (fun hc => ?_) (fun hc => ?_)
        · have h := it_f hc h
          refine lv_iconst (v := 1) hx hb d_Md_after_148 (by decide) ?_
          refine lv_goto (tgt := 153) hx hb d_Md_after_149 (by decide) ?_
          refine lv_istore (lv' := [(7, .int (1 : Int32)), (6, .int r3), (5, .int v5_2), (4, .int v4_1), (0, .ref (ad 0)), (1, .int a1), (2, .int a2), (3, .int a3)]) hx hb d_Md_after_153 hl (by decide) rfl (fun ls hl => ?_)
          refine lv_iload hx hb d_Md_after_155 (lv_at hl 0 rfl) ?_
          refine lv_if_eq (tgt := 167) hx hb d_Md_after_157 (by decide) (fun hc => absurd hc (by decide)) (fun _ => ?_)
          refine lv_iload_n hx hb d_Md_after_160 rfl (lv_at hl 5 rfl) ?_
          refine lv_iload hx hb d_Md_after_161 (lv_at hl 3 rfl) ?_
          refine lv_iand hx hb d_Md_after_163 ?_
          refine lv_if_ne (tgt := 171) hx hb d_Md_after_164 (by decide) (fun hc => ?_) (fun hc => ?_)
          · have h := it_f hc h
            refine lv_iload_n hx hb d_Md_after_171 rfl (lv_at hl 5 rfl) ?_
            refine lv_iload hx hb d_Md_after_172 (lv_at hl 3 rfl) ?_
            refine lv_iconst (v := -1) hx hb d_Md_after_174 (by decide) ?_
            refine lv_ixor hx hb d_Md_after_175 ?_
            refine lv_iand hx hb d_Md_after_176 ?_
            refine lv_aload_n hx hb d_Md_after_177 rfl (lv_at hl 4 rfl) ?_
            refine ly_getr fx hk hw (0) rfl rfl i_Model 7 (by decide) rfl rfl (List.mem_cons_of_mem _ a_474) d_Md_after_178 ?_
            refine lv_iload_n hx hb d_Md_after_181 rfl (lv_at hl 6 rfl) ?_
            obtain ⟨hi14, h⟩ := it_in h
            refine ly_iald fx hk hw (8) rfl hi14 d_Md_after_182 ?_
            refine lv_iconst (v := -1) hx hb d_Md_after_183 (by decide) ?_
            refine lv_ixor hx hb d_Md_after_184 ?_
            refine lv_iand hx hb d_Md_after_185 ?_
            refine lv_iload hx hb d_Md_after_186 (lv_at hl 1 rfl) ?_
            refine lv_ior hx hb d_Md_after_188 ?_
            exact ly_reti fx hr hlocks hk hw (Option.some.inj h) d_Md_after_189
          · have h := it_t hc h
            refine lv_iconst (v := -1) hx hb d_Md_after_167 (by decide) ?_
            refine lv_goto (tgt := 189) hx hb d_Md_after_168 (by decide) ?_
            exact ly_reti fx hr hlocks hk hw (Option.some.inj h) d_Md_after_189
        · have h := it_t hc h
          refine lv_iload hx hb d_Md_after_139 (lv_at hl 1 rfl) ?_
          obtain ⟨r15, u16, hq17, h⟩ := ck_r h
          refine ly_callSi (As := [.int v5_2]) (rest := []) ZsM_ok fx hk hz hA hw (c_Md_count l F v5_2 u10 _ hq17) (cw_S fx.2.2.2.2 a_560 a_561 a_6 ac_Md_count rfl rfl hd_Md_count ⟨Nat.le_of_ble_eq_true rfl, Nat.le_of_ble_eq_true rfl⟩) rfl rfl hl.1 rfl (Nat.le_of_ble_eq_true rfl) d_Md_after_141 (Nat.zero_le _) (Nat.zero_le _) (fun r' u' H locs hp hw => ?_)
          cases hp
          refine lv_iconst (v := 1) hx hb d_Md_after_144 (by decide) ?_
          refine lv_icmp_ne (tgt := 152) hx hb d_Md_after_145 (by decide) (fun hc => ?_) (fun hc => ?_)
          · have h := it_f hc h
            refine lv_iconst (v := 0) hx hb d_Md_after_152 (by decide) ?_
            refine lv_istore (lv' := [(7, .int (0 : Int32)), (6, .int r3), (5, .int v5_2), (4, .int v4_1), (0, .ref (ad 0)), (1, .int a1), (2, .int a2), (3, .int a3)]) hx hb d_Md_after_153 hl (by decide) rfl (fun ls hl => ?_)
            refine lv_iload hx hb d_Md_after_155 (lv_at hl 0 rfl) ?_
            refine lv_if_eq (tgt := 167) hx hb d_Md_after_157 (by decide) (fun _ => ?_) (fun hc => absurd hc (by decide))
            refine lv_iconst (v := -1) hx hb d_Md_after_167 (by decide) ?_
            refine lv_goto (tgt := 189) hx hb d_Md_after_168 (by decide) ?_
            exact ly_reti fx hr hlocks hk hw (Option.some.inj h) d_Md_after_189
          · have h := it_t hc h
            refine lv_iconst (v := 1) hx hb d_Md_after_148 (by decide) ?_
            refine lv_goto (tgt := 153) hx hb d_Md_after_149 (by decide) ?_
            refine lv_istore (lv' := [(7, .int (1 : Int32)), (6, .int r3), (5, .int v5_2), (4, .int v4_1), (0, .ref (ad 0)), (1, .int a1), (2, .int a2), (3, .int a3)]) hx hb d_Md_after_153 hl (by decide) rfl (fun ls hl => ?_)
            refine lv_iload hx hb d_Md_after_155 (lv_at hl 0 rfl) ?_
            refine lv_if_eq (tgt := 167) hx hb d_Md_after_157 (by decide) (fun hc => absurd hc (by decide)) (fun _ => ?_)
            refine lv_iload_n hx hb d_Md_after_160 rfl (lv_at hl 5 rfl) ?_
            refine lv_iload hx hb d_Md_after_161 (lv_at hl 3 rfl) ?_
            refine lv_iand hx hb d_Md_after_163 ?_
            refine lv_if_ne (tgt := 171) hx hb d_Md_after_164 (by decide) (fun hc => ?_) (fun hc => ?_)
            · have h := it_f hc h
              refine lv_iload_n hx hb d_Md_after_171 rfl (lv_at hl 5 rfl) ?_
              refine lv_iload hx hb d_Md_after_172 (lv_at hl 3 rfl) ?_
              refine lv_iconst (v := -1) hx hb d_Md_after_174 (by decide) ?_
              refine lv_ixor hx hb d_Md_after_175 ?_
              refine lv_iand hx hb d_Md_after_176 ?_
              refine lv_aload_n hx hb d_Md_after_177 rfl (lv_at hl 4 rfl) ?_
              refine ly_getr fx hk hw (0) rfl rfl i_Model 7 (by decide) rfl rfl (List.mem_cons_of_mem _ a_474) d_Md_after_178 ?_
              refine lv_iload_n hx hb d_Md_after_181 rfl (lv_at hl 6 rfl) ?_
              obtain ⟨hi18, h⟩ := it_in h
              refine ly_iald fx hk hw (8) rfl hi18 d_Md_after_182 ?_
              refine lv_iconst (v := -1) hx hb d_Md_after_183 (by decide) ?_
              refine lv_ixor hx hb d_Md_after_184 ?_
              refine lv_iand hx hb d_Md_after_185 ?_
              refine lv_iload hx hb d_Md_after_186 (lv_at hl 1 rfl) ?_
              refine lv_ior hx hb d_Md_after_188 ?_
              exact ly_reti fx hr hlocks hk hw (Option.some.inj h) d_Md_after_189
            · have h := it_t hc h
              refine lv_iconst (v := -1) hx hb d_Md_after_167 (by decide) ?_
              refine lv_goto (tgt := 189) hx hb d_Md_after_168 (by decide) ?_
              exact ly_reti fx hr hlocks hk hw (Option.some.inj h) d_Md_after_189
      · have h := it_t hc h
        refine lv_iload hx hb d_Md_after_115 (lv_at hl 0 rfl) ?_
        refine lv_aload_n hx hb d_Md_after_117 rfl (lv_at hl 3 rfl) ?_
        refine ly_getr fx hk hw (0) rfl rfl i_Model 4 (by decide) rfl rfl (List.mem_cons_of_mem _ a_471) d_Md_after_118 ?_
        refine lv_iload_n hx hb d_Md_after_121 rfl (lv_at hl 5 rfl) ?_
        obtain ⟨hi19, h⟩ := it_in h
        refine ly_iald fx hk hw (5) rfl hi19 d_Md_after_122 ?_
        refine lv_icmp_ne (tgt := 152) hx hb d_Md_after_123 (by decide) (fun hc => ?_) (fun hc => ?_)
        · have h := it_f hc h
          refine lv_iconst (v := 0) hx hb d_Md_after_152 (by decide) ?_
          refine lv_istore (lv' := [(7, .int (0 : Int32)), (6, .int r3), (5, .int v5_2), (4, .int v4_1), (0, .ref (ad 0)), (1, .int a1), (2, .int a2), (3, .int a3)]) hx hb d_Md_after_153 hl (by decide) rfl (fun ls hl => ?_)
          refine lv_iload hx hb d_Md_after_155 (lv_at hl 0 rfl) ?_
          refine lv_if_eq (tgt := 167) hx hb d_Md_after_157 (by decide) (fun _ => ?_) (fun hc => absurd hc (by decide))
          refine lv_iconst (v := -1) hx hb d_Md_after_167 (by decide) ?_
          refine lv_goto (tgt := 189) hx hb d_Md_after_168 (by decide) ?_
          exact ly_reti fx hr hlocks hk hw (Option.some.inj h) d_Md_after_189
        · have h := it_t hc h
          refine lv_goto (tgt := 148) hx hb d_Md_after_126 (by decide) ?_
          refine lv_iconst (v := 1) hx hb d_Md_after_148 (by decide) ?_
          refine lv_goto (tgt := 153) hx hb d_Md_after_149 (by decide) ?_
          refine lv_istore (lv' := [(7, .int (1 : Int32)), (6, .int r3), (5, .int v5_2), (4, .int v4_1), (0, .ref (ad 0)), (1, .int a1), (2, .int a2), (3, .int a3)]) hx hb d_Md_after_153 hl (by decide) rfl (fun ls hl => ?_)
          refine lv_iload hx hb d_Md_after_155 (lv_at hl 0 rfl) ?_
          refine lv_if_eq (tgt := 167) hx hb d_Md_after_157 (by decide) (fun hc => absurd hc (by decide)) (fun _ => ?_)
          refine lv_iload_n hx hb d_Md_after_160 rfl (lv_at hl 5 rfl) ?_
          refine lv_iload hx hb d_Md_after_161 (lv_at hl 3 rfl) ?_
          refine lv_iand hx hb d_Md_after_163 ?_
          refine lv_if_ne (tgt := 171) hx hb d_Md_after_164 (by decide) (fun hc => ?_) (fun hc => ?_)
          · have h := it_f hc h
            refine lv_iload_n hx hb d_Md_after_171 rfl (lv_at hl 5 rfl) ?_
            refine lv_iload hx hb d_Md_after_172 (lv_at hl 3 rfl) ?_
            refine lv_iconst (v := -1) hx hb d_Md_after_174 (by decide) ?_
            refine lv_ixor hx hb d_Md_after_175 ?_
            refine lv_iand hx hb d_Md_after_176 ?_
            refine lv_aload_n hx hb d_Md_after_177 rfl (lv_at hl 4 rfl) ?_
            refine ly_getr fx hk hw (0) rfl rfl i_Model 7 (by decide) rfl rfl (List.mem_cons_of_mem _ a_474) d_Md_after_178 ?_
            refine lv_iload_n hx hb d_Md_after_181 rfl (lv_at hl 6 rfl) ?_
            obtain ⟨hi20, h⟩ := it_in h
            refine ly_iald fx hk hw (8) rfl hi20 d_Md_after_182 ?_
            refine lv_iconst (v := -1) hx hb d_Md_after_183 (by decide) ?_
            refine lv_ixor hx hb d_Md_after_184 ?_
            refine lv_iand hx hb d_Md_after_185 ?_
            refine lv_iload hx hb d_Md_after_186 (lv_at hl 1 rfl) ?_
            refine lv_ior hx hb d_Md_after_188 ?_
            exact ly_reti fx hr hlocks hk hw (Option.some.inj h) d_Md_after_189
          · have h := it_t hc h
            refine lv_iconst (v := -1) hx hb d_Md_after_167 (by decide) ?_
            refine lv_goto (tgt := 189) hx hb d_Md_after_168 (by decide) ?_
            exact ly_reti fx hr hlocks hk hw (Option.some.inj h) d_Md_after_189
  · have h := it_f hc h
    refine lv_aload_n hx hb d_Md_after_13 rfl (lv_at hl 1 rfl) ?_
    refine ly_getr fx hk hw (0) rfl rfl i_Model 1 (by decide) rfl rfl (List.mem_cons_of_mem _ a_468) d_Md_after_14 ?_
    refine lv_iload_n hx hb d_Md_after_17 rfl (lv_at hl 3 rfl) ?_
    obtain ⟨hi21, h⟩ := it_in h
    refine ly_iald fx hk hw (2) rfl hi21 d_Md_after_18 ?_
    refine lv_if_ne (tgt := 39) hx hb d_Md_after_19 (by decide) (fun hc => ?_) (fun hc => ?_)
    · have h := it_f hc h
      refine lv_aload_n hx hb d_Md_after_39 rfl (lv_at hl 1 rfl) ?_
      refine ly_getr fx hk hw (0) rfl rfl i_Model 5 (by decide) rfl rfl (List.mem_cons_of_mem _ a_472) d_Md_after_40 ?_
      refine lv_iconst (v := 3) hx hb d_Md_after_43 (by decide) ?_
      refine lv_iload_n hx hb d_Md_after_44 rfl (lv_at hl 3 rfl) ?_
      refine lv_imul hx hb d_Md_after_45 ?_
      refine lv_iload_n hx hb d_Md_after_46 rfl (lv_at hl 4 rfl) ?_
      refine lv_iadd hx hb d_Md_after_47 ?_
      obtain ⟨hi22, h⟩ := it_in h
      refine ly_iald fx hk hw (6) rfl hi22 d_Md_after_48 ?_
      refine lv_topi (fun v5_23 ev => ?_)
      have h := nk_r ev h
      refine lv_istore (lv' := [(5, .int v5_23), (4, .int v4_1), (0, .ref (ad 0)), (1, .int a1), (2, .int a2), (3, .int a3)]) hx hb d_Md_after_49 hl (by decide) rfl (fun ls hl => ?_)
      refine lv_iload hx hb d_Md_after_51 (lv_at hl 0 rfl) ?_
      refine lv_if_eq (tgt := 65) hx hb d_Md_after_53 (by decide) (fun hc => ?_) (fun hc => ?_)
      · have h := it_t hc h
        refine lv_iconst (v := -1) hx hb d_Md_after_65 (by decide) ?_
        refine lv_goto (tgt := 78) hx hb d_Md_after_66 (by decide) ?_
        exact ly_reti fx hr hlocks hk hw (Option.some.inj h) d_Md_after_78
      · have h := it_f hc h
        refine lv_iload_n hx hb d_Md_after_56 rfl (lv_at hl 3 rfl) ?_
        refine lv_iload hx hb d_Md_after_57 (lv_at hl 0 rfl) ?_
        refine lv_iand hx hb d_Md_after_59 ?_
        refine lv_iload hx hb d_Md_after_60 (lv_at hl 0 rfl) ?_
        refine lv_icmp_eq (tgt := 69) hx hb d_Md_after_62 (by decide) (fun hc => ?_) (fun hc => ?_)
        · have h := it_t hc h
          refine lv_iload_n hx hb d_Md_after_69 rfl (lv_at hl 3 rfl) ?_
          refine lv_iload hx hb d_Md_after_70 (lv_at hl 0 rfl) ?_
          refine lv_iconst (v := -1) hx hb d_Md_after_72 (by decide) ?_
          refine lv_ixor hx hb d_Md_after_73 ?_
          refine lv_iand hx hb d_Md_after_74 ?_
          refine lv_iload hx hb d_Md_after_75 (lv_at hl 1 rfl) ?_
          refine lv_ior hx hb d_Md_after_77 ?_
          exact ly_reti fx hr hlocks hk hw (Option.some.inj h) d_Md_after_78
        · have h := it_f hc h
          refine lv_iconst (v := -1) hx hb d_Md_after_65 (by decide) ?_
          refine lv_goto (tgt := 78) hx hb d_Md_after_66 (by decide) ?_
          exact ly_reti fx hr hlocks hk hw (Option.some.inj h) d_Md_after_78
    · have h := it_t hc h
      refine lv_iload_n hx hb d_Md_after_22 rfl (lv_at hl 4 rfl) ?_
      refine lv_if_ne (tgt := 35) hx hb d_Md_after_23 (by decide) (fun hc => ?_) (fun hc => ?_)
      · have h := it_f hc h
        refine lv_iconst (v := 0) hx hb d_Md_after_35 (by decide) ?_
        refine lv_goto (tgt := 49) hx hb d_Md_after_36 (by decide) ?_
        refine lv_istore (lv' := [(5, .int (0 : Int32)), (4, .int v4_1), (0, .ref (ad 0)), (1, .int a1), (2, .int a2), (3, .int a3)]) hx hb d_Md_after_49 hl (by decide) rfl (fun ls hl => ?_)
        refine lv_iload hx hb d_Md_after_51 (lv_at hl 0 rfl) ?_
        refine lv_if_eq (tgt := 65) hx hb d_Md_after_53 (by decide) (fun _ => ?_) (fun hc => absurd hc (by decide))
        refine lv_iconst (v := -1) hx hb d_Md_after_65 (by decide) ?_
        refine lv_goto (tgt := 78) hx hb d_Md_after_66 (by decide) ?_
        exact ly_reti fx hr hlocks hk hw (Option.some.inj h) d_Md_after_78
      · have h := it_t hc h
        refine lv_aload_n hx hb d_Md_after_26 rfl (lv_at hl 1 rfl) ?_
        refine ly_getr fx hk hw (0) rfl rfl i_Model 3 (by decide) rfl rfl (List.mem_cons_of_mem _ a_470) d_Md_after_27 ?_
        refine lv_iload_n hx hb d_Md_after_30 rfl (lv_at hl 3 rfl) ?_
        obtain ⟨hi24, h⟩ := it_in h
        refine ly_iald fx hk hw (4) rfl hi24 d_Md_after_31 ?_
        refine lv_goto (tgt := 49) hx hb d_Md_after_32 (by decide) ?_
        refine lv_topi (fun v5_25 ev => ?_)
        have h := nk_r ev h
        refine lv_istore (lv' := [(5, .int v5_25), (4, .int v4_1), (0, .ref (ad 0)), (1, .int a1), (2, .int a2), (3, .int a3)]) hx hb d_Md_after_49 hl (by decide) rfl (fun ls hl => ?_)
        refine lv_iload hx hb d_Md_after_51 (lv_at hl 0 rfl) ?_
        refine lv_if_eq (tgt := 65) hx hb d_Md_after_53 (by decide) (fun hc => ?_) (fun hc => ?_)
        · have h := it_t hc h
          refine lv_iconst (v := -1) hx hb d_Md_after_65 (by decide) ?_
          refine lv_goto (tgt := 78) hx hb d_Md_after_66 (by decide) ?_
          exact ly_reti fx hr hlocks hk hw (Option.some.inj h) d_Md_after_78
        · have h := it_f hc h
          refine lv_iload_n hx hb d_Md_after_56 rfl (lv_at hl 3 rfl) ?_
          refine lv_iload hx hb d_Md_after_57 (lv_at hl 0 rfl) ?_
          refine lv_iand hx hb d_Md_after_59 ?_
          refine lv_iload hx hb d_Md_after_60 (lv_at hl 0 rfl) ?_
          refine lv_icmp_eq (tgt := 69) hx hb d_Md_after_62 (by decide) (fun hc => ?_) (fun hc => ?_)
          · have h := it_t hc h
            refine lv_iload_n hx hb d_Md_after_69 rfl (lv_at hl 3 rfl) ?_
            refine lv_iload hx hb d_Md_after_70 (lv_at hl 0 rfl) ?_
            refine lv_iconst (v := -1) hx hb d_Md_after_72 (by decide) ?_
            refine lv_ixor hx hb d_Md_after_73 ?_
            refine lv_iand hx hb d_Md_after_74 ?_
            refine lv_iload hx hb d_Md_after_75 (lv_at hl 1 rfl) ?_
            refine lv_ior hx hb d_Md_after_77 ?_
            exact ly_reti fx hr hlocks hk hw (Option.some.inj h) d_Md_after_78
          · have h := it_f hc h
            refine lv_iconst (v := -1) hx hb d_Md_after_65 (by decide) ?_
            refine lv_goto (tgt := 78) hx hb d_Md_after_66 (by decide) ?_
            exact ly_reti fx hr hlocks hk hw (Option.some.inj h) d_Md_after_78
set_option maxRecDepth 100000 in
set_option maxHeartbeats 4000000 in
theorem c_Md_meet (l : Launch) (a1 : Int32) (u : St) (res : Int32 × St) (h : sp_Md_meet a1 u = some res) : ly_Mv ZsM clA layM l y_Md_meet w_Md_meet { frames := 0, cells := 0, slots := 0, locals := 0 } (fun ad => [.ref (ad 0), .int a1]) u (fun u1 => ((0 : Int32), u1) = res) := by
  refine ly_entv (cc := b_Md_meet) (maxL := 2) (ret := none) (by decide) rfl (fun ad => Nat.le_of_ble_eq_true rfl) ?_
  intro p e s m below meth c D ad cA A ls fx hr hlocks hk hA hz hw hl
  have hl : lv_has ls 2 [(0, .ref (ad 0)), (1, .int a1)] := hl
  have hx := fx.1
  have hb := fx.2.1
  unfold sp_Md_meet at h
  refine lv_aload_n hx hb d_Md_meet_0 rfl (lv_at hl 0 rfl) ?_
  refine ly_getr fx hk hw (0) rfl rfl i_Model 24 (by decide) rfl rfl (List.mem_cons_of_mem _ a_491) d_Md_meet_1 ?_
  refine lv_iload_n hx hb d_Md_meet_4 rfl (lv_at hl 1 rfl) ?_
  refine lv_bipush (v := 6) hx hb d_Md_meet_5 (by decide) ?_
  refine lv_ishr hx hb d_Md_meet_7 ?_
  obtain ⟨hi1, h⟩ := it_in h
  refine ly_lald fx hk hw (21) rfl hi1 d_Md_meet_8 ?_
  refine lv_iload_n hx hb d_Md_meet_9 rfl (lv_at hl 1 rfl) ?_
  refine lv_bipush (v := 63) hx hb d_Md_meet_10 (by decide) ?_
  refine lv_iand hx hb d_Md_meet_12 ?_
  refine lv_lshr hx hb d_Md_meet_13 rfl ?_
  refine lv_lconst (v := 1) hx hb d_Md_meet_14 (by decide) ?_
  refine lv_land hx hb d_Md_meet_15 ?_
  refine lv_lconst (v := 0) hx hb d_Md_meet_16 (by decide) ?_
  refine W.lcmp hx hb d_Md_meet_17 ?_
  refine lv_if_eq (tgt := 22) hx hb d_Md_meet_18 (by decide) (fun hc => ?_) (fun hc => ?_)
  · have h := it_t hc h
    refine lv_aload_n hx hb d_Md_meet_22 rfl (lv_at hl 0 rfl) ?_
    refine ly_getr fx hk hw (0) rfl rfl i_Model 24 (by decide) rfl rfl (List.mem_cons_of_mem _ a_491) d_Md_meet_23 ?_
    refine lv_iload_n hx hb d_Md_meet_26 rfl (lv_at hl 1 rfl) ?_
    refine lv_bipush (v := 6) hx hb d_Md_meet_27 (by decide) ?_
    refine lv_ishr hx hb d_Md_meet_29 ?_
    refine lv_dup2_11 hx hb d_Md_meet_30 rfl rfl ?_
    obtain ⟨hi2, h⟩ := it_in h
    refine ly_lald fx hk hw (21) rfl hi2 d_Md_meet_31 ?_
    refine lv_lconst (v := 1) hx hb d_Md_meet_32 (by decide) ?_
    refine lv_iload_n hx hb d_Md_meet_33 rfl (lv_at hl 1 rfl) ?_
    refine lv_bipush (v := 63) hx hb d_Md_meet_34 (by decide) ?_
    refine lv_iand hx hb d_Md_meet_36 ?_
    refine lv_lshl hx hb d_Md_meet_37 rfl ?_
    refine lv_lor hx hb d_Md_meet_38 ?_
    obtain ⟨hi3, h⟩ := it_in h
    refine ly_last fx hk hw (21) rfl hi3 d_Md_meet_39 (fun H locs hw => ?_)
    obtain ⟨u4, ev⟩ : ∃ z, z = ly_pl u (21) (a1 >>> ((6 : Int32) &&& 31)).toNatClampNeg ((u.2 (21) (a1 >>> ((6 : Int32) &&& 31)).toNatClampNeg) ||| (((1 : Int64) <<< ((a1 &&& (63 : Int32)).toInt64 &&& 63)))) := ⟨_, rfl⟩
    rw [← ev] at hw
    have h := nk_r ev h
    refine lv_aload_n hx hb d_Md_meet_40 rfl (lv_at hl 0 rfl) ?_
    refine ly_getr fx hk hw (0) rfl rfl i_Model 25 (by decide) rfl rfl (List.mem_cons_of_mem _ a_492) d_Md_meet_41 ?_
    refine lv_aload_n hx hb d_Md_meet_44 rfl (lv_at hl 0 rfl) ?_
    refine ly_get fx hk hw (0) rfl rfl i_Model 26 (by decide) rfl rfl (List.mem_cons_of_mem _ a_493) d_Md_meet_45 ?_
    refine lv_iload_n hx hb d_Md_meet_48 rfl (lv_at hl 1 rfl) ?_
    obtain ⟨hi5, h⟩ := it_in h
    refine ly_iast fx hk hw (22) rfl hi5 d_Md_meet_49 (fun H locs hw => ?_)
    obtain ⟨u6, ev⟩ : ∃ z, z = ly_pi u4 (22) (u4.1 (0) 26).toNatClampNeg a1 := ⟨_, rfl⟩
    rw [← ev] at hw
    have h := nk_r ev h
    refine lv_aload_n hx hb d_Md_meet_50 rfl (lv_at hl 0 rfl) ?_
    refine lv_dup hx hb d_Md_meet_51 rfl ?_
    refine ly_get fx hk hw (0) rfl rfl i_Model 26 (by decide) rfl rfl (List.mem_cons_of_mem _ a_493) d_Md_meet_52 ?_
    refine lv_iconst (v := 1) hx hb d_Md_meet_55 (by decide) ?_
    refine lv_iadd hx hb d_Md_meet_56 ?_
    refine ly_put (v := ((u6.1 (0) 26) + (1 : Int32))) fx hk hw (0) rfl rfl i_Model t_Model t_Model_ok n_Model 26 (by decide) rfl rfl rfl (List.mem_cons_of_mem _ a_493) rfl rfl d_Md_meet_57 (fun H locs hw => ?_)
    obtain ⟨u7, ev⟩ : ∃ z, z = ly_pi u6 (0) 26 ((u6.1 (0) 26) + (1 : Int32)) := ⟨_, rfl⟩
    rw [← ev] at hw
    have h := nk_r ev h
    exact ly_retv fx hr hlocks hk hw (Option.some.inj h) d_Md_meet_60
  · have h := it_f hc h
    exact ly_retv fx hr hlocks hk hw (Option.some.inj h) d_Md_meet_21
set_option maxRecDepth 100000 in
set_option maxHeartbeats 4000000 in
theorem wl_Md_search_3 {p : Program} {l : Launch} {e : Env} {s : State} {m : MethodId} {args : Array Value} {below : List Frame} {meth : Method} {c : Code} {D : va_G} {ad : Nat → Nat} {cA : Nat → ClassId} {A : Nat → Prop} (fx : CallFix p m c b_Md_search 9 s args w_Md_search y_Md_search.cls) (hr : meth.sig.returnType = (some .boolean)) (hlocks : meth.locks = false) (hk : ly_K D clA layM cA s) (hA : ∀ q, s.heap.size ≤ q → A q) (hz : ZsM A s s.heap) (F : Nat) (v1 : Int32) (v2 : Int32) (v3 : Int32) {k3 : Int32 → St → Option (Int32 × St)} {res : Int32 × St}
    (hX3 : ∀ (v4 : Int32) (u : St) (H : Heap) (locs : List Loc) (ls : Array Slot), k3 v4 u = some res → lv_has ls 9 [(0, .ref (ad 0)), (1, .int v1), (2, .int v2), (3, .int v3), (4, .int v4)] → ly_G D clA layM ad cA A s.heap u H locs → W p l e { frames := 2, cells := 0, slots := 0, locals := 51 } s m args below meth c H locs 0 0 (MQ below (va_Qi (fun r1 u1 => (r1, u1) = res) (ly_B D clA layM ad cA A) A) args s 0 0 A) (F0 m 25 ls [])) :
    ∀ (n : Nat) (v4 : Int32) (u : St) (H : Heap) (locs : List Loc) (ls : Array Slot), lp_Md_search_3 F v1 v2 v3 k3 n v4 u = some res → lv_has ls 9 [(0, .ref (ad 0)), (1, .int v1), (2, .int v2), (3, .int v3), (4, .int v4)] → ly_G D clA layM ad cA A s.heap u H locs → W p l e { frames := 2, cells := 0, slots := 0, locals := 51 } s m args below meth c H locs 0 0 (MQ below (va_Qi (fun r1 u1 => (r1, u1) = res) (ly_B D clA layM ad cA A) A) args s 0 0 A) (F0 m 3 ls []) := by
  have hx := fx.1
  have hb := fx.2.1
  intro n
  induction n with
  | zero => intro v4 u H locs ls h; exact nomatch h
  | succ n ih =>
    intro v4 u H locs ls h hl hw
    rw [lp_Md_search_3] at h
    refine lv_iload hx hb d_Md_search_3 (lv_at hl 4 rfl) ?_
    refine lv_sipush (v := 256) hx hb d_Md_search_5 (by decide) ?_
    refine lv_icmp_ge (tgt := 25) hx hb d_Md_search_8 (by decide) (fun hc => ?_) (fun hc => ?_)
    · have h := it_t hc h
      exact hX3 v4 u _ _ _ h (lv_sub hl [0, 1, 2, 3, 4] rfl) hw
    · have h := it_f hc h
      refine lv_aload_n hx hb d_Md_search_11 rfl (lv_at hl 0 rfl) ?_
      refine ly_getr fx hk hw (0) rfl rfl i_Model 24 (by decide) rfl rfl (List.mem_cons_of_mem _ a_491) d_Md_search_12 ?_
      refine lv_iload hx hb d_Md_search_15 (lv_at hl 4 rfl) ?_
      refine lv_lconst (v := 0) hx hb d_Md_search_17 (by decide) ?_
      obtain ⟨hi1, h⟩ := it_in h
      refine ly_last fx hk hw (21) rfl hi1 d_Md_search_18 (fun H locs hw => ?_)
      obtain ⟨u2, ev⟩ : ∃ z, z = ly_pl u (21) v4.toNatClampNeg (0 : Int64) := ⟨_, rfl⟩
      rw [← ev] at hw
      have h := nk_r ev h
      refine lv_iinc (lv' := [(4, .int (v4 + (1 : Int32))), (0, .ref (ad 0)), (1, .int v1), (2, .int v2), (3, .int v3)]) (k := 4) hx hb d_Md_search_19 hl rfl (oi_p1 _) (by decide) rfl (fun ls hl => ?_)
      refine lv_goto (tgt := 3) hx hb d_Md_search_22 (by decide) ?_
      exact ih (v4 + (1 : Int32)) u2 _ _ _ h (lv_sub hl [1, 2, 3, 4, 0] rfl) hw
set_option maxRecDepth 100000 in
set_option maxHeartbeats 4000000 in
theorem wl_Md_search_79 {p : Program} {l : Launch} {e : Env} {s : State} {m : MethodId} {args : Array Value} {below : List Frame} {meth : Method} {c : Code} {D : va_G} {ad : Nat → Nat} {cA : Nat → ClassId} {A : Nat → Prop} (fx : CallFix p m c b_Md_search 9 s args w_Md_search y_Md_search.cls) (hr : meth.sig.returnType = (some .boolean)) (hlocks : meth.locks = false) (hk : ly_K D clA layM cA s) (hA : ∀ q, s.heap.size ≤ q → A q) (hz : ZsM A s s.heap) (F : Nat) (v1 : Int32) (v2 : Int32) (v3 : Int32) (v4 : Int32) (v5 : Int32) (v6 : Int32) {k79 : Int32 → St → Option (Int32 × St)} {res : Int32 × St}
    (hX79 : ∀ (v7 : Int32) (u : St) (H : Heap) (locs : List Loc) (ls : Array Slot), k79 v7 u = some res → lv_has ls 9 [(0, .ref (ad 0)), (1, .int v1), (2, .int v2), (3, .int v3), (4, .int v4), (5, .int v5), (6, .int v6), (7, .int v7)] → ly_G D clA layM ad cA A s.heap u H locs → W p l e { frames := 2, cells := 0, slots := 0, locals := 51 } s m args below meth c H locs 0 0 (MQ below (va_Qi (fun r1 u1 => (r1, u1) = res) (ly_B D clA layM ad cA A) A) args s 0 0 A) (F0 m 131 ls [])) :
    ∀ (n : Nat) (v7 : Int32) (u : St) (H : Heap) (locs : List Loc) (ls : Array Slot), lp_Md_search_79 F v1 v2 v3 v4 v5 v6 k79 n v7 u = some res → lv_has ls 9 [(0, .ref (ad 0)), (1, .int v1), (2, .int v2), (3, .int v3), (4, .int v4), (5, .int v5), (6, .int v6), (7, .int v7)] → ly_G D clA layM ad cA A s.heap u H locs → W p l e { frames := 2, cells := 0, slots := 0, locals := 51 } s m args below meth c H locs 0 0 (MQ below (va_Qi (fun r1 u1 => (r1, u1) = res) (ly_B D clA layM ad cA A) A) args s 0 0 A) (F0 m 79 ls []) := by
  have hx := fx.1
  have hb := fx.2.1
  intro n
  induction n with
  | zero => intro v7 u H locs ls h; exact nomatch h
  | succ n ih =>
    intro v7 u H locs ls h hl hw
    rw [lp_Md_search_79] at h
    refine lv_iload hx hb d_Md_search_79 (lv_at hl 7 rfl) ?_
    refine lv_bipush (v := 10) hx hb d_Md_search_81 (by decide) ?_
    refine lv_icmp_ge (tgt := 131) hx hb d_Md_search_83 (by decide) (fun hc => ?_) (fun hc => ?_)
    · have h := it_t hc h
      exact hX79 v7 u _ _ _ h (lv_sub hl [0, 1, 2, 3, 4, 5, 6, 7] rfl) hw
    · have h := it_f hc h
      refine lv_aload_n hx hb d_Md_search_86 rfl (lv_at hl 0 rfl) ?_
      refine ly_getr fx hk hw (0) rfl rfl i_Model 0 (by decide) rfl rfl (List.mem_cons_of_mem _ a_467) d_Md_search_87 ?_
      refine lv_iload hx hb d_Md_search_90 (lv_at hl 6 rfl) ?_
      obtain ⟨hi11, h⟩ := it_in h
      refine ly_zald fx hk hw (1) rfl hi11 d_Md_search_92 ?_
      refine lv_if_eq (tgt := 131) hx hb d_Md_search_93 (by decide) (fun hc => ?_) (fun hc => ?_)
      · have h := it_t hc h
        exact hX79 v7 u _ _ _ h (lv_sub hl [0, 1, 2, 3, 4, 5, 6, 7] rfl) hw
      · have h := it_f hc h
        refine lv_iload hx hb d_Md_search_96 (lv_at hl 6 rfl) ?_
        refine lv_iload_n hx hb d_Md_search_98 rfl (lv_at hl 3 rfl) ?_
        refine lv_icmp_eq (tgt := 131) hx hb d_Md_search_99 (by decide) (fun hc => ?_) (fun hc => ?_)
        · have h := it_t hc h
          exact hX79 v7 u _ _ _ h (lv_sub hl [0, 1, 2, 3, 4, 5, 6, 7] rfl) hw
        · have h := it_f hc h
          refine lv_aload_n hx hb d_Md_search_102 rfl (lv_at hl 0 rfl) ?_
          refine lv_iload hx hb d_Md_search_103 (lv_at hl 5 rfl) ?_
          refine lv_iload hx hb d_Md_search_105 (lv_at hl 6 rfl) ?_
          refine lv_iload hx hb d_Md_search_107 (lv_at hl 7 rfl) ?_
          obtain ⟨r12, u13, hq14, h⟩ := ck_r h
          refine ly_callVi (As := [.int v5, .int v6, .int v7]) (rest := []) ZsM_ok fx hk hz hA hw (c_Md_after l F v5 v6 v7 u _ hq14) (cw_V fx.2.2.2.2 a_596 a_598 as_22 a_6 ac_Md_after rfl rfl rfl hd_Md_after ⟨Nat.le_of_ble_eq_true rfl, Nat.le_of_ble_eq_true rfl⟩) (0) rfl rfl rfl rfl hl.1 rfl (Nat.le_of_ble_eq_true rfl) d_Md_search_109 (Nat.zero_le _) (Nat.zero_le _) (fun r' u' H locs hp hw => ?_)
          cases hp
          refine lv_istore (lv' := [(8, .int r12), (0, .ref (ad 0)), (1, .int v1), (2, .int v2), (3, .int v3), (4, .int v4), (5, .int v5), (6, .int v6), (7, .int v7)]) hx hb d_Md_search_112 hl (by decide) rfl (fun ls hl => ?_)
          refine lv_iload hx hb d_Md_search_114 (lv_at hl 0 rfl) ?_
          refine lv_if_lt (tgt := 125) hx hb d_Md_search_116 (by decide) (fun hc => ?_) (fun hc => ?_)
          · have h := it_t hc h
            refine lv_iinc (lv' := [(7, .int (v7 + (1 : Int32))), (8, .int r12), (0, .ref (ad 0)), (1, .int v1), (2, .int v2), (3, .int v3), (4, .int v4), (5, .int v5), (6, .int v6)]) (k := 8) hx hb d_Md_search_125 hl rfl (oi_p1 _) (by decide) rfl (fun ls hl => ?_)
            refine lv_goto (tgt := 79) hx hb d_Md_search_128 (by decide) ?_
            exact ih (v7 + (1 : Int32)) u13 _ _ _ h (lv_sub hl [2, 3, 4, 5, 6, 7, 8, 0] rfl) hw
          · have h := it_f hc h
            refine lv_aload_n hx hb d_Md_search_119 rfl (lv_at hl 1 rfl) ?_
            refine lv_iload hx hb d_Md_search_120 (lv_at hl 0 rfl) ?_
            obtain ⟨r15, u16, hq17, h⟩ := ck_r h
            refine ly_callVv (As := [.int r12]) (rest := []) ZsM_ok fx hk hz hA hw (c_Md_meet l r12 u13 _ hq17) (cw_V fx.2.2.2.2 a_592 a_594 as_21 a_6 ac_Md_meet rfl rfl rfl hd_Md_meet ⟨Nat.le_of_ble_eq_true rfl, Nat.le_of_ble_eq_true rfl⟩) (0) rfl rfl rfl rfl hl.1 rfl (Nat.le_of_ble_eq_true rfl) d_Md_search_122 (Nat.zero_le _) (Nat.zero_le _) (fun u' H locs hp hw => ?_)
            cases hp
            refine lv_iinc (lv' := [(7, .int (v7 + (1 : Int32))), (8, .int r12), (0, .ref (ad 0)), (1, .int v1), (2, .int v2), (3, .int v3), (4, .int v4), (5, .int v5), (6, .int v6)]) (k := 8) hx hb d_Md_search_125 hl rfl (oi_p1 _) (by decide) rfl (fun ls hl => ?_)
            refine lv_goto (tgt := 79) hx hb d_Md_search_128 (by decide) ?_
            exact ih (v7 + (1 : Int32)) u16 _ _ _ h (lv_sub hl [2, 3, 4, 5, 6, 7, 8, 0] rfl) hw
set_option maxRecDepth 100000 in
set_option maxHeartbeats 4000000 in
theorem wl_Md_search_69 {p : Program} {l : Launch} {e : Env} {s : State} {m : MethodId} {args : Array Value} {below : List Frame} {meth : Method} {c : Code} {D : va_G} {ad : Nat → Nat} {cA : Nat → ClassId} {A : Nat → Prop} (fx : CallFix p m c b_Md_search 9 s args w_Md_search y_Md_search.cls) (hr : meth.sig.returnType = (some .boolean)) (hlocks : meth.locks = false) (hk : ly_K D clA layM cA s) (hA : ∀ q, s.heap.size ≤ q → A q) (hz : ZsM A s s.heap) (F : Nat) (v1 : Int32) (v2 : Int32) (v3 : Int32) (v4 : Int32) (v5 : Int32) {k69 : Int32 → St → Option (Int32 × St)} {res : Int32 × St}
    (hX69 : ∀ (v6 : Int32) (u : St) (H : Heap) (locs : List Loc) (ls : Array Slot), k69 v6 u = some res → lv_has ls 9 [(0, .ref (ad 0)), (1, .int v1), (2, .int v2), (3, .int v3), (4, .int v4), (5, .int v5), (6, .int v6)] → ly_G D clA layM ad cA A s.heap u H locs → W p l e { frames := 2, cells := 0, slots := 0, locals := 51 } s m args below meth c H locs 0 0 (MQ below (va_Qi (fun r1 u1 => (r1, u1) = res) (ly_B D clA layM ad cA A) A) args s 0 0 A) (F0 m 137 ls [])) :
    ∀ (n : Nat) (v6 : Int32) (u : St) (H : Heap) (locs : List Loc) (ls : Array Slot), lp_Md_search_69 F v1 v2 v3 v4 v5 k69 n v6 u = some res → lv_has ls 9 [(0, .ref (ad 0)), (1, .int v1), (2, .int v2), (3, .int v3), (4, .int v4), (5, .int v5), (6, .int v6)] → ly_G D clA layM ad cA A s.heap u H locs → W p l e { frames := 2, cells := 0, slots := 0, locals := 51 } s m args below meth c H locs 0 0 (MQ below (va_Qi (fun r1 u1 => (r1, u1) = res) (ly_B D clA layM ad cA A) A) args s 0 0 A) (F0 m 69 ls []) := by
  have hx := fx.1
  have hb := fx.2.1
  intro n
  induction n with
  | zero => intro v6 u H locs ls h; exact nomatch h
  | succ n ih =>
    intro v6 u H locs ls h hl hw
    rw [lp_Md_search_69] at h
    refine lv_iload hx hb d_Md_search_69 (lv_at hl 6 rfl) ?_
    refine lv_bipush (v := 6) hx hb d_Md_search_71 (by decide) ?_
    refine lv_icmp_ge (tgt := 137) hx hb d_Md_search_73 (by decide) (fun hc => ?_) (fun hc => ?_)
    · have h := it_t hc h
      exact hX69 v6 u _ _ _ h (lv_sub hl [0, 1, 2, 3, 4, 5, 6] rfl) hw
    · have h := it_f hc h
      refine lv_iconst (v := 0) hx hb d_Md_search_76 (by decide) ?_
      refine lv_istore (lv' := [(7, .int (0 : Int32)), (0, .ref (ad 0)), (1, .int v1), (2, .int v2), (3, .int v3), (4, .int v4), (5, .int v5), (6, .int v6)]) hx hb d_Md_search_77 hl (by decide) rfl (fun ls hl => ?_)
      refine wl_Md_search_79 fx hr hlocks hk hA hz F v1 v2 v3 v4 v5 v6 (fun v7_18 u19 H locs ls h hl hw => ?_) _ (0 : Int32) u _ _ _ h (lv_sub hl [1, 2, 3, 4, 5, 6, 7, 0] rfl) hw
      refine lv_iinc (lv' := [(6, .int (v6 + (1 : Int32))), (0, .ref (ad 0)), (1, .int v1), (2, .int v2), (3, .int v3), (4, .int v4), (5, .int v5), (7, .int v7_18)]) (k := 6) hx hb d_Md_search_131 hl rfl (oi_p1 _) (by decide) rfl (fun ls hl => ?_)
      refine lv_goto (tgt := 69) hx hb d_Md_search_134 (by decide) ?_
      exact ih (v6 + (1 : Int32)) u19 _ _ _ h (lv_sub hl [1, 2, 3, 4, 5, 6, 0] rfl) hw
set_option maxRecDepth 100000 in
set_option maxHeartbeats 4000000 in
theorem wl_Md_search_38 {p : Program} {l : Launch} {e : Env} {s : State} {m : MethodId} {args : Array Value} {below : List Frame} {meth : Method} {c : Code} {D : va_G} {ad : Nat → Nat} {cA : Nat → ClassId} {A : Nat → Prop} (fx : CallFix p m c b_Md_search 9 s args w_Md_search y_Md_search.cls) (hr : meth.sig.returnType = (some .boolean)) (hlocks : meth.locks = false) (hk : ly_K D clA layM cA s) (hA : ∀ q, s.heap.size ≤ q → A q) (hz : ZsM A s s.heap) (F : Nat) (v1 : Int32) (v2 : Int32) (v3 : Int32) {k38 : Int32 → St → Option (Int32 × St)} {res : Int32 × St}
    (hX38 : ∀ (v4 : Int32) (u : St) (H : Heap) (locs : List Loc) (ls : Array Slot), k38 v4 u = some res → lv_has ls 9 [(0, .ref (ad 0)), (1, .int v1), (2, .int v2), (3, .int v3), (4, .int v4)] → ly_G D clA layM ad cA A s.heap u H locs → W p l e { frames := 2, cells := 0, slots := 0, locals := 51 } s m args below meth c H locs 0 0 (MQ below (va_Qi (fun r1 u1 => (r1, u1) = res) (ly_B D clA layM ad cA A) A) args s 0 0 A) (F0 m 143 ls [])) :
    ∀ (n : Nat) (v4 : Int32) (u : St) (H : Heap) (locs : List Loc) (ls : Array Slot), lp_Md_search_38 F v1 v2 v3 k38 n v4 u = some res → lv_has ls 9 [(0, .ref (ad 0)), (1, .int v1), (2, .int v2), (3, .int v3), (4, .int v4)] → ly_G D clA layM ad cA A s.heap u H locs → W p l e { frames := 2, cells := 0, slots := 0, locals := 51 } s m args below meth c H locs 0 0 (MQ below (va_Qi (fun r1 u1 => (r1, u1) = res) (ly_B D clA layM ad cA A) A) args s 0 0 A) (F0 m 38 ls []) := by
  have hx := fx.1
  have hb := fx.2.1
  intro n
  induction n with
  | zero => intro v4 u H locs ls h; exact nomatch h
  | succ n ih =>
    intro v4 u H locs ls h hl hw
    rw [lp_Md_search_38] at h
    refine lv_iload hx hb d_Md_search_38 (lv_at hl 4 rfl) ?_
    refine lv_aload_n hx hb d_Md_search_40 rfl (lv_at hl 0 rfl) ?_
    refine ly_get fx hk hw (0) rfl rfl i_Model 26 (by decide) rfl rfl (List.mem_cons_of_mem _ a_493) d_Md_search_41 ?_
    refine lv_icmp_ge (tgt := 143) hx hb d_Md_search_44 (by decide) (fun hc => ?_) (fun hc => ?_)
    · have h := it_t hc h
      exact hX38 v4 u _ _ _ h (lv_sub hl [0, 1, 2, 3, 4] rfl) hw
    · have h := it_f hc h
      refine lv_aload_n hx hb d_Md_search_47 rfl (lv_at hl 0 rfl) ?_
      refine ly_getr fx hk hw (0) rfl rfl i_Model 25 (by decide) rfl rfl (List.mem_cons_of_mem _ a_492) d_Md_search_48 ?_
      refine lv_iload hx hb d_Md_search_51 (lv_at hl 4 rfl) ?_
      obtain ⟨hi9, h⟩ := it_in h
      refine ly_iald fx hk hw (22) rfl hi9 d_Md_search_53 ?_
      refine lv_topi (fun v5_10 ev => ?_)
      have h := nk_r ev h
      refine lv_istore (lv' := [(5, .int v5_10), (0, .ref (ad 0)), (1, .int v1), (2, .int v2), (3, .int v3), (4, .int v4)]) hx hb d_Md_search_54 hl (by decide) rfl (fun ls hl => ?_)
      refine lv_iload hx hb d_Md_search_56 (lv_at hl 0 rfl) ?_
      refine lv_iload_n hx hb d_Md_search_58 rfl (lv_at hl 3 rfl) ?_
      refine lv_iand hx hb d_Md_search_59 ?_
      refine lv_iload_n hx hb d_Md_search_60 rfl (lv_at hl 3 rfl) ?_
      refine lv_icmp_ne (tgt := 66) hx hb d_Md_search_61 (by decide) (fun hc => ?_) (fun hc => ?_)
      · have h := it_f hc h
        refine lv_iconst (v := 0) hx hb d_Md_search_66 (by decide) ?_
        refine lv_istore (lv' := [(6, .int (0 : Int32)), (5, .int v5_10), (0, .ref (ad 0)), (1, .int v1), (2, .int v2), (3, .int v3), (4, .int v4)]) hx hb d_Md_search_67 hl (by decide) rfl (fun ls hl => ?_)
        refine wl_Md_search_69 fx hr hlocks hk hA hz F v1 v2 v3 v4 v5_10 (fun v6_20 u21 H locs ls h hl hw => ?_) _ (0 : Int32) u _ _ _ h (lv_sub hl [2, 3, 4, 5, 6, 1, 0] rfl) hw
        refine lv_iinc (lv' := [(4, .int (v4 + (1 : Int32))), (0, .ref (ad 0)), (1, .int v1), (2, .int v2), (3, .int v3), (5, .int v5_10), (6, .int v6_20)]) (k := 4) hx hb d_Md_search_137 hl rfl (oi_p1 _) (by decide) rfl (fun ls hl => ?_)
        refine lv_goto (tgt := 38) hx hb d_Md_search_140 (by decide) ?_
        exact ih (v4 + (1 : Int32)) u21 _ _ _ h (lv_sub hl [1, 2, 3, 4, 0] rfl) hw
      · have h := it_t hc h
        refine lv_iconst (v := 1) hx hb d_Md_search_64 (by decide) ?_
        exact ly_retz fx hr hlocks hk hw (Or.inr rfl) (Option.some.inj h) d_Md_search_65
set_option maxRecDepth 100000 in
set_option maxHeartbeats 4000000 in
theorem c_Md_search (l : Launch) (F : Nat) (a1 : Int32) (a2 : Int32) (a3 : Int32) (u : St) (res : Int32 × St) (h : sp_Md_search F a1 a2 a3 u = some res) : ly_Mi ZsM clA layM l y_Md_search w_Md_search { frames := 2, cells := 0, slots := 0, locals := 51 } (fun ad => [.ref (ad 0), .int a1, .int a2, .int a3]) u (fun r1 u1 => (r1, u1) = res) := by
  refine ly_enti (cc := b_Md_search) (maxL := 9) (ret := (some .boolean)) (by decide) rfl (fun ad => Nat.le_of_ble_eq_true rfl) ?_
  intro p e s m below meth c D ad cA A ls fx hr hlocks hk hA hz hw hl
  have hl : lv_has ls 9 [(0, .ref (ad 0)), (1, .int a1), (2, .int a2), (3, .int a3)] := hl
  have hx := fx.1
  have hb := fx.2.1
  unfold sp_Md_search at h
  refine lv_iconst (v := 0) hx hb d_Md_search_0 (by decide) ?_
  refine lv_istore (lv' := [(4, .int (0 : Int32)), (0, .ref (ad 0)), (1, .int a1), (2, .int a2), (3, .int a3)]) hx hb d_Md_search_1 hl (by decide) rfl (fun ls hl => ?_)
  refine wl_Md_search_3 fx hr hlocks hk hA hz F a1 a2 a3 (fun v4_3 u4 H locs ls h hl hw => ?_) _ (0 : Int32) u _ _ _ h (lv_sub hl [1, 2, 3, 4, 0] rfl) hw
  refine lv_aload_n hx hb d_Md_search_25 rfl (lv_at hl 0 rfl) ?_
  refine lv_iconst (v := 0) hx hb d_Md_search_26 (by decide) ?_
  refine ly_put (v := (0 : Int32)) fx hk hw (0) rfl rfl i_Model t_Model t_Model_ok n_Model 26 (by decide) rfl rfl rfl (List.mem_cons_of_mem _ a_493) rfl rfl d_Md_search_27 (fun H locs hw => ?_)
  obtain ⟨u5, ev⟩ : ∃ z, z = ly_pi u4 (0) 26 (0 : Int32) := ⟨_, rfl⟩
  rw [← ev] at hw
  have h := nk_r ev h
  refine lv_aload_n hx hb d_Md_search_30 rfl (lv_at hl 0 rfl) ?_
  refine lv_iload_n hx hb d_Md_search_31 rfl (lv_at hl 1 rfl) ?_
  obtain ⟨r6, u7, hq8, h⟩ := ck_r h
  refine ly_callVv (As := [.int a1]) (rest := []) ZsM_ok fx hk hz hA hw (c_Md_meet l a1 u5 _ hq8) (cw_V fx.2.2.2.2 a_592 a_594 as_21 a_6 ac_Md_meet rfl rfl rfl hd_Md_meet ⟨Nat.le_of_ble_eq_true rfl, Nat.le_of_ble_eq_true rfl⟩) (0) rfl rfl rfl rfl hl.1 rfl (Nat.le_of_ble_eq_true rfl) d_Md_search_32 (Nat.zero_le _) (Nat.zero_le _) (fun u' H locs hp hw => ?_)
  cases hp
  refine lv_iconst (v := 0) hx hb d_Md_search_35 (by decide) ?_
  refine lv_istore (lv' := [(4, .int (0 : Int32)), (0, .ref (ad 0)), (1, .int a1), (2, .int a2), (3, .int a3)]) hx hb d_Md_search_36 hl (by decide) rfl (fun ls hl => ?_)
  refine wl_Md_search_38 fx hr hlocks hk hA hz F a1 a2 a3 (fun v4_22 u23 H locs ls h hl hw => ?_) _ (0 : Int32) u7 _ _ _ h (lv_sub hl [1, 2, 3, 4, 0] rfl) hw
  refine lv_iconst (v := 0) hx hb d_Md_search_143 (by decide) ?_
  exact ly_retz fx hr hlocks hk hw (Or.inl rfl) (Option.some.inj h) d_Md_search_144
set_option maxRecDepth 100000 in
set_option maxHeartbeats 4000000 in
theorem c_Md_covers (l : Launch) (F : Nat) (a1 : Int32) (a2 : Int32) (a3 : Int32) (u : St) (res : Int32 × St) (h : sp_Md_covers F a1 a2 a3 u = some res) : ly_Mi ZsM clA layM l y_Md_covers w_Md_covers { frames := 3, cells := 0, slots := 0, locals := 79 } (fun ad => [.ref (ad 0), .int a1, .int a2, .int a3]) u (fun r1 u1 => (r1, u1) = res) := by
  refine ly_enti (cc := b_Md_covers) (maxL := 4) (ret := (some .int)) (by decide) rfl (fun ad => Nat.le_of_ble_eq_true rfl) ?_
  intro p e s m below meth c D ad cA A ls fx hr hlocks hk hA hz hw hl
  have hl : lv_has ls 4 [(0, .ref (ad 0)), (1, .int a1), (2, .int a2), (3, .int a3)] := hl
  have hx := fx.1
  have hb := fx.2.1
  unfold sp_Md_covers at h
  refine lv_iload_n hx hb d_Md_covers_0 rfl (lv_at hl 1 rfl) ?_
  obtain ⟨r1, u2, hq3, h⟩ := ck_r h
  refine ly_callSi (As := [.int a1]) (rest := []) ZsM_ok fx hk hz hA hw (c_Md_isPlaces l a1 u _ hq3) (cw_S fx.2.2.2.2 a_573 a_574 a_6 ac_Md_isPlaces rfl rfl hd_Md_isPlaces ⟨Nat.le_of_ble_eq_true rfl, Nat.le_of_ble_eq_true rfl⟩) rfl rfl hl.1 rfl (Nat.le_of_ble_eq_true rfl) d_Md_covers_1 (Nat.zero_le _) (Nat.zero_le _) (fun r' u' H locs hp hw => ?_)
  cases hp
  refine lv_if_eq (tgt := 24) hx hb d_Md_covers_4 (by decide) (fun hc => ?_) (fun hc => ?_)
  · have h := it_t hc h
    refine lv_iconst (v := -1) hx hb d_Md_covers_24 (by decide) ?_
    exact ly_reti fx hr hlocks hk hw (Option.some.inj h) d_Md_covers_25
  · have h := it_f hc h
    refine lv_iload_n hx hb d_Md_covers_7 rfl (lv_at hl 2 rfl) ?_
    obtain ⟨r4, u5, hq6, h⟩ := ck_r h
    refine ly_callSi (As := [.int a2]) (rest := []) ZsM_ok fx hk hz hA hw (c_Md_isPlaces l a2 u2 _ hq6) (cw_S fx.2.2.2.2 a_573 a_574 a_6 ac_Md_isPlaces rfl rfl hd_Md_isPlaces ⟨Nat.le_of_ble_eq_true rfl, Nat.le_of_ble_eq_true rfl⟩) rfl rfl hl.1 rfl (Nat.le_of_ble_eq_true rfl) d_Md_covers_8 (Nat.zero_le _) (Nat.zero_le _) (fun r' u' H locs hp hw => ?_)
    cases hp
    refine lv_if_eq (tgt := 24) hx hb d_Md_covers_11 (by decide) (fun hc => ?_) (fun hc => ?_)
    · have h := it_t hc h
      refine lv_iconst (v := -1) hx hb d_Md_covers_24 (by decide) ?_
      exact ly_reti fx hr hlocks hk hw (Option.some.inj h) d_Md_covers_25
    · have h := it_f hc h
      refine lv_iload_n hx hb d_Md_covers_14 rfl (lv_at hl 3 rfl) ?_
      refine lv_iconst (v := -1) hx hb d_Md_covers_15 (by decide) ?_
      refine lv_icmp_lt (tgt := 24) hx hb d_Md_covers_16 (by decide) (fun hc => ?_) (fun hc => ?_)
      · have h := it_t hc h
        refine lv_iconst (v := -1) hx hb d_Md_covers_24 (by decide) ?_
        exact ly_reti fx hr hlocks hk hw (Option.some.inj h) d_Md_covers_25
      · have h := it_f hc h
        refine lv_iload_n hx hb d_Md_covers_19 rfl (lv_at hl 3 rfl) ?_
        refine lv_iconst (v := 5) hx hb d_Md_covers_20 (by decide) ?_
        refine lv_icmp_le (tgt := 26) hx hb d_Md_covers_21 (by decide) (fun hc => ?_) (fun hc => ?_)
        · have h := it_t hc h
          refine lv_aload_n hx hb d_Md_covers_26 rfl (lv_at hl 0 rfl) ?_
          refine lv_iload_n hx hb d_Md_covers_27 rfl (lv_at hl 1 rfl) ?_
          refine lv_iload_n hx hb d_Md_covers_28 rfl (lv_at hl 2 rfl) ?_
          refine lv_iload_n hx hb d_Md_covers_29 rfl (lv_at hl 3 rfl) ?_
          obtain ⟨r7, u8, hq9, h⟩ := ck_r h
          refine ly_callVi (As := [.int a1, .int a2, .int a3]) (rest := []) ZsM_ok fx hk hz hA hw (c_Md_search l F a1 a2 a3 u5 _ hq9) (cw_V fx.2.2.2.2 a_588 a_590 as_20 a_6 ac_Md_search rfl rfl rfl hd_Md_search ⟨Nat.le_of_ble_eq_true rfl, Nat.le_of_ble_eq_true rfl⟩) (0) rfl rfl rfl rfl hl.1 rfl (Nat.le_of_ble_eq_true rfl) d_Md_covers_30 (Nat.zero_le _) (Nat.zero_le _) (fun r' u' H locs hp hw => ?_)
          cases hp
          refine lv_if_eq (tgt := 40) hx hb d_Md_covers_33 (by decide) (fun hc => ?_) (fun hc => ?_)
          · have h := it_t hc h
            refine lv_iconst (v := 0) hx hb d_Md_covers_40 (by decide) ?_
            exact ly_reti fx hr hlocks hk hw (Option.some.inj h) d_Md_covers_41
          · have h := it_f hc h
            refine lv_iconst (v := 1) hx hb d_Md_covers_36 (by decide) ?_
            refine lv_goto (tgt := 41) hx hb d_Md_covers_37 (by decide) ?_
            exact ly_reti fx hr hlocks hk hw (Option.some.inj h) d_Md_covers_41
        · have h := it_f hc h
          refine lv_iconst (v := -1) hx hb d_Md_covers_24 (by decide) ?_
          exact ly_reti fx hr hlocks hk hw (Option.some.inj h) d_Md_covers_25
set_option maxRecDepth 100000 in
set_option maxHeartbeats 4000000 in
theorem c_Md_launch (l : Launch) (F : Nat) (u : St) (res : Int32 × St) (h : sp_Md_launch F u = some res) : ly_Mi ZsM clA layM l y_Md_launch w_Md_launch { frames := 1, cells := 0, slots := 0, locals := 22 } (fun ad => [.ref (ad 0)]) u (fun r1 u1 => (r1, u1) = res) := by
  refine ly_enti (cc := b_Md_launch) (maxL := 1) (ret := (some .boolean)) (by decide) rfl (fun ad => Nat.le_of_ble_eq_true rfl) ?_
  intro p e s m below meth c D ad cA A ls fx hr hlocks hk hA hz hw hl
  have hl : lv_has ls 1 [(0, .ref (ad 0))] := hl
  have hx := fx.1
  have hb := fx.2.1
  unfold sp_Md_launch at h
  refine lv_aload_n hx hb d_Md_launch_0 rfl (lv_at hl 0 rfl) ?_
  refine ly_get fx hk hw (0) rfl rfl i_Model 15 (by decide) rfl rfl (List.mem_cons_of_mem _ a_482) d_Md_launch_1 ?_
  refine lv_if_ne (tgt := 14) hx hb d_Md_launch_4 (by decide) (fun hc => ?_) (fun hc => ?_)
  · have h := it_f hc h
    refine lv_iconst (v := 0) hx hb d_Md_launch_14 (by decide) ?_
    exact ly_retz fx hr hlocks hk hw (Or.inl rfl) (Option.some.inj h) d_Md_launch_15
  · have h := it_t hc h
    refine lv_aload_n hx hb d_Md_launch_7 rfl (lv_at hl 0 rfl) ?_
    obtain ⟨r1, u2, hq3, h⟩ := ck_r h
    refine ly_callVi (As := []) (rest := []) ZsM_ok fx hk hz hA hw (c_Md_isAny l F u _ hq3) (cw_V fx.2.2.2.2 a_608 a_610 as_24 a_6 ac_Md_isAny rfl rfl rfl hd_Md_isAny ⟨Nat.le_of_ble_eq_true rfl, Nat.le_of_ble_eq_true rfl⟩) (0) rfl rfl rfl rfl hl.1 rfl (Nat.le_of_ble_eq_true rfl) d_Md_launch_8 (Nat.zero_le _) (Nat.zero_le _) (fun r' u' H locs hp hw => ?_)
    cases hp
    refine lv_if_ne (tgt := 16) hx hb d_Md_launch_11 (by decide) (fun hc => ?_) (fun hc => ?_)
    · have h := it_f hc h
      refine lv_aload_n hx hb d_Md_launch_16 rfl (lv_at hl 0 rfl) ?_
      refine lv_iconst (v := 1) hx hb d_Md_launch_17 (by decide) ?_
      refine ly_put (v := (1 : Int32)) fx hk hw (0) rfl rfl i_Model t_Model t_Model_ok n_Model 15 (by decide) rfl rfl rfl (List.mem_cons_of_mem _ a_482) (by decide) (by decide) d_Md_launch_18 (fun H locs hw => ?_)
      obtain ⟨u4, ev⟩ : ∃ z, z = ly_pi u2 (0) 15 (1 : Int32) := ⟨_, rfl⟩
      rw [← ev] at hw
      have h := nk_r ev h
      refine lv_aload_n hx hb d_Md_launch_21 rfl (lv_at hl 0 rfl) ?_
      refine lv_iconst (v := 1) hx hb d_Md_launch_22 (by decide) ?_
      refine ly_put (v := (1 : Int32)) fx hk hw (0) rfl rfl i_Model t_Model t_Model_ok n_Model 16 (by decide) rfl rfl rfl (List.mem_cons_of_mem _ a_483) rfl rfl d_Md_launch_23 (fun H locs hw => ?_)
      obtain ⟨u5, ev⟩ : ∃ z, z = ly_pi u4 (0) 16 (1 : Int32) := ⟨_, rfl⟩
      rw [← ev] at hw
      have h := nk_r ev h
      refine lv_iconst (v := 1) hx hb d_Md_launch_26 (by decide) ?_
      exact ly_retz fx hr hlocks hk hw (Or.inr rfl) (Option.some.inj h) d_Md_launch_27
    · have h := it_t hc h
      refine lv_iconst (v := 0) hx hb d_Md_launch_14 (by decide) ?_
      exact ly_retz fx hr hlocks hk hw (Or.inl rfl) (Option.some.inj h) d_Md_launch_15
set_option maxRecDepth 100000 in
set_option maxHeartbeats 4000000 in
theorem wl_Md_stop_7 {p : Program} {l : Launch} {e : Env} {s : State} {m : MethodId} {args : Array Value} {below : List Frame} {meth : Method} {c : Code} {D : va_G} {ad : Nat → Nat} {cA : Nat → ClassId} {A : Nat → Prop} (fx : CallFix p m c b_Md_stop 3 s args w_Md_stop y_Md_stop.cls) (hr : meth.sig.returnType = none) (hlocks : meth.locks = false) (hk : ly_K D clA layM cA s) (hA : ∀ q, s.heap.size ≤ q → A q) (hz : ZsM A s s.heap) (F : Nat) (v1 : Int32) {k7 : Int32 → St → Option (Int32 × St)} {res : Int32 × St}
    (hX7 : ∀ (v2 : Int32) (u : St) (H : Heap) (locs : List Loc) (ls : Array Slot), k7 v2 u = some res → lv_has ls 3 [(0, .ref (ad 0)), (1, .int v1), (2, .int v2)] → ly_G D clA layM ad cA A s.heap u H locs → W p l e { frames := 0, cells := 0, slots := 0, locals := 0 } s m args below meth c H locs 0 0 (MQ below (va_Qv (fun u1 => ((0 : Int32), u1) = res) (ly_B D clA layM ad cA A) A) args s 0 0 A) (F0 m 52 ls [])) :
    ∀ (n : Nat) (v2 : Int32) (u : St) (H : Heap) (locs : List Loc) (ls : Array Slot), lp_Md_stop_7 F v1 k7 n v2 u = some res → lv_has ls 3 [(0, .ref (ad 0)), (1, .int v1), (2, .int v2)] → ly_G D clA layM ad cA A s.heap u H locs → W p l e { frames := 0, cells := 0, slots := 0, locals := 0 } s m args below meth c H locs 0 0 (MQ below (va_Qv (fun u1 => ((0 : Int32), u1) = res) (ly_B D clA layM ad cA A) A) args s 0 0 A) (F0 m 7 ls []) := by
  have hx := fx.1
  have hb := fx.2.1
  intro n
  induction n with
  | zero => intro v2 u H locs ls h; exact nomatch h
  | succ n ih =>
    intro v2 u H locs ls h hl hw
    rw [lp_Md_stop_7] at h
    refine lv_iload_n hx hb d_Md_stop_7 rfl (lv_at hl 2 rfl) ?_
    refine lv_aload_n hx hb d_Md_stop_8 rfl (lv_at hl 0 rfl) ?_
    refine ly_get fx hk hw (0) rfl rfl i_Model 19 (by decide) rfl rfl (List.mem_cons_of_mem _ a_486) d_Md_stop_9 ?_
    refine lv_icmp_gt (tgt := 52) hx hb d_Md_stop_12 (by decide) (fun hc => ?_) (fun hc => ?_)
    · have h := it_t hc h
      exact hX7 v2 u _ _ _ h (lv_sub hl [0, 1, 2] rfl) hw
    · have h := it_f hc h
      refine lv_iload_n hx hb d_Md_stop_15 rfl (lv_at hl 2 rfl) ?_
      refine lv_if_le (tgt := 52) hx hb d_Md_stop_16 (by decide) (fun hc => ?_) (fun hc => ?_)
      · have h := it_t hc h
        exact hX7 v2 u _ _ _ h (lv_sub hl [0, 1, 2] rfl) hw
      · have h := it_f hc h
        refine lv_aload_n hx hb d_Md_stop_19 rfl (lv_at hl 0 rfl) ?_
        refine ly_getr fx hk hw (0) rfl rfl i_Model 20 (by decide) rfl rfl (List.mem_cons_of_mem _ a_487) d_Md_stop_20 ?_
        refine lv_iload_n hx hb d_Md_stop_23 rfl (lv_at hl 2 rfl) ?_
        obtain ⟨hi3, h⟩ := it_in h
        refine ly_iald fx hk hw (17) rfl hi3 d_Md_stop_24 ?_
        refine lv_iload_n hx hb d_Md_stop_25 rfl (lv_at hl 1 rfl) ?_
        refine lv_icmp_ne (tgt := 46) hx hb d_Md_stop_26 (by decide) (fun hc => ?_) (fun hc => ?_)
        · have h := it_f hc h
          refine lv_iinc (lv' := [(2, .int (v2 + (1 : Int32))), (0, .ref (ad 0)), (1, .int v1)]) (k := 2) hx hb d_Md_stop_46 hl rfl (oi_p1 _) (by decide) rfl (fun ls hl => ?_)
          refine lv_goto (tgt := 7) hx hb d_Md_stop_49 (by decide) ?_
          exact ih (v2 + (1 : Int32)) u _ _ _ h (lv_sub hl [1, 2, 0] rfl) hw
        · have h := it_t hc h
          refine lv_aload_n hx hb d_Md_stop_29 rfl (lv_at hl 0 rfl) ?_
          refine ly_getr fx hk hw (0) rfl rfl i_Model 21 (by decide) rfl rfl (List.mem_cons_of_mem _ a_488) d_Md_stop_30 ?_
          refine lv_iload_n hx hb d_Md_stop_33 rfl (lv_at hl 2 rfl) ?_
          obtain ⟨hi4, h⟩ := it_in h
          refine ly_iald fx hk hw (18) rfl hi4 d_Md_stop_34 ?_
          refine lv_iconst (v := 2) hx hb d_Md_stop_35 (by decide) ?_
          refine lv_icmp_gt (tgt := 46) hx hb d_Md_stop_36 (by decide) (fun hc => ?_) (fun hc => ?_)
          · have h := it_t hc h
            refine lv_iinc (lv' := [(2, .int (v2 + (1 : Int32))), (0, .ref (ad 0)), (1, .int v1)]) (k := 2) hx hb d_Md_stop_46 hl rfl (oi_p1 _) (by decide) rfl (fun ls hl => ?_)
            refine lv_goto (tgt := 7) hx hb d_Md_stop_49 (by decide) ?_
            exact ih (v2 + (1 : Int32)) u _ _ _ h (lv_sub hl [1, 2, 0] rfl) hw
          · have h := it_f hc h
            refine lv_aload_n hx hb d_Md_stop_39 rfl (lv_at hl 0 rfl) ?_
            refine ly_getr fx hk hw (0) rfl rfl i_Model 21 (by decide) rfl rfl (List.mem_cons_of_mem _ a_488) d_Md_stop_40 ?_
            refine lv_iload_n hx hb d_Md_stop_43 rfl (lv_at hl 2 rfl) ?_
            refine lv_iconst (v := 5) hx hb d_Md_stop_44 (by decide) ?_
            obtain ⟨hi5, h⟩ := it_in h
            refine ly_iast fx hk hw (18) rfl hi5 d_Md_stop_45 (fun H locs hw => ?_)
            obtain ⟨u6, ev⟩ : ∃ z, z = ly_pi u (18) v2.toNatClampNeg (5 : Int32) := ⟨_, rfl⟩
            rw [← ev] at hw
            have h := nk_r ev h
            refine lv_iinc (lv' := [(2, .int (v2 + (1 : Int32))), (0, .ref (ad 0)), (1, .int v1)]) (k := 2) hx hb d_Md_stop_46 hl rfl (oi_p1 _) (by decide) rfl (fun ls hl => ?_)
            refine lv_goto (tgt := 7) hx hb d_Md_stop_49 (by decide) ?_
            exact ih (v2 + (1 : Int32)) u6 _ _ _ h (lv_sub hl [1, 2, 0] rfl) hw
set_option maxRecDepth 100000 in
set_option maxHeartbeats 4000000 in
theorem c_Md_stop (l : Launch) (F : Nat) (a1 : Int32) (u : St) (res : Int32 × St) (h : sp_Md_stop F a1 u = some res) : ly_Mv ZsM clA layM l y_Md_stop w_Md_stop { frames := 0, cells := 0, slots := 0, locals := 0 } (fun ad => [.ref (ad 0), .int a1]) u (fun u1 => ((0 : Int32), u1) = res) := by
  refine ly_entv (cc := b_Md_stop) (maxL := 3) (ret := none) (by decide) rfl (fun ad => Nat.le_of_ble_eq_true rfl) ?_
  intro p e s m below meth c D ad cA A ls fx hr hlocks hk hA hz hw hl
  have hl : lv_has ls 3 [(0, .ref (ad 0)), (1, .int a1)] := hl
  have hx := fx.1
  have hb := fx.2.1
  unfold sp_Md_stop at h
  refine lv_aload_n hx hb d_Md_stop_0 rfl (lv_at hl 0 rfl) ?_
  refine ly_getr fx hk hw (0) rfl rfl i_Model 23 (by decide) rfl rfl (List.mem_cons_of_mem _ a_490) d_Md_stop_1 ?_
  refine lv_iload_n hx hb d_Md_stop_4 rfl (lv_at hl 1 rfl) ?_
  obtain ⟨hi1, h⟩ := it_in h
  refine ly_iald fx hk hw (20) rfl hi1 d_Md_stop_5 ?_
  refine lv_topi (fun v2_2 ev => ?_)
  have h := nk_r ev h
  refine lv_istore_n (lv' := [(2, .int v2_2), (0, .ref (ad 0)), (1, .int a1)]) hx hb d_Md_stop_6 rfl hl (by decide) rfl (fun ls hl => ?_)
  refine wl_Md_stop_7 fx hr hlocks hk hA hz F a1 (fun v2_7 u8 H locs ls h hl hw => ?_) _ v2_2 u _ _ _ h (lv_sub hl [1, 2, 0] rfl) hw
  refine lv_aload_n hx hb d_Md_stop_52 rfl (lv_at hl 0 rfl) ?_
  refine lv_dup hx hb d_Md_stop_53 rfl ?_
  refine ly_get fx hk hw (0) rfl rfl i_Model 16 (by decide) rfl rfl (List.mem_cons_of_mem _ a_483) d_Md_stop_54 ?_
  refine lv_iconst (v := 1) hx hb d_Md_stop_57 (by decide) ?_
  refine lv_bipush (v := 8) hx hb d_Md_stop_58 (by decide) ?_
  refine lv_iload_n hx hb d_Md_stop_60 rfl (lv_at hl 1 rfl) ?_
  refine lv_iadd hx hb d_Md_stop_61 ?_
  refine lv_ishl hx hb d_Md_stop_62 ?_
  refine lv_iconst (v := -1) hx hb d_Md_stop_63 (by decide) ?_
  refine lv_ixor hx hb d_Md_stop_64 ?_
  refine lv_iand hx hb d_Md_stop_65 ?_
  refine ly_put (v := ((u8.1 (0) 16) &&& (((1 : Int32) <<< (((8 : Int32) + a1) &&& 31)) ^^^ (-1 : Int32)))) fx hk hw (0) rfl rfl i_Model t_Model t_Model_ok n_Model 16 (by decide) rfl rfl rfl (List.mem_cons_of_mem _ a_483) rfl rfl d_Md_stop_66 (fun H locs hw => ?_)
  obtain ⟨u9, ev⟩ : ∃ z, z = ly_pi u8 (0) 16 ((u8.1 (0) 16) &&& (((1 : Int32) <<< (((8 : Int32) + a1) &&& 31)) ^^^ (-1 : Int32))) := ⟨_, rfl⟩
  rw [← ev] at hw
  have h := nk_r ev h
  exact ly_retv fx hr hlocks hk hw (Option.some.inj h) d_Md_stop_69
set_option maxRecDepth 100000 in
set_option maxHeartbeats 4000000 in
theorem wl_Md_cancel_11 {p : Program} {l : Launch} {e : Env} {s : State} {m : MethodId} {args : Array Value} {below : List Frame} {meth : Method} {c : Code} {D : va_G} {ad : Nat → Nat} {cA : Nat → ClassId} {A : Nat → Prop} (fx : CallFix p m c b_Md_cancel 2 s args w_Md_cancel y_Md_cancel.cls) (hr : meth.sig.returnType = (some .boolean)) (hlocks : meth.locks = false) (hk : ly_K D clA layM cA s) (hA : ∀ q, s.heap.size ≤ q → A q) (hz : ZsM A s s.heap) (F : Nat) {k11 : Int32 → St → Option (Int32 × St)} {res : Int32 × St}
    (hX11 : ∀ (v1 : Int32) (u : St) (H : Heap) (locs : List Loc) (ls : Array Slot), k11 v1 u = some res → lv_has ls 2 [(0, .ref (ad 0)), (1, .int v1)] → ly_G D clA layM ad cA A s.heap u H locs → W p l e { frames := 1, cells := 0, slots := 0, locals := 22 } s m args below meth c H locs 0 0 (MQ below (va_Qi (fun r1 u1 => (r1, u1) = res) (ly_B D clA layM ad cA A) A) args s 0 0 A) (F0 m 36 ls [])) :
    ∀ (n : Nat) (v1 : Int32) (u : St) (H : Heap) (locs : List Loc) (ls : Array Slot), lp_Md_cancel_11 F k11 n v1 u = some res → lv_has ls 2 [(0, .ref (ad 0)), (1, .int v1)] → ly_G D clA layM ad cA A s.heap u H locs → W p l e { frames := 1, cells := 0, slots := 0, locals := 22 } s m args below meth c H locs 0 0 (MQ below (va_Qi (fun r1 u1 => (r1, u1) = res) (ly_B D clA layM ad cA A) A) args s 0 0 A) (F0 m 11 ls []) := by
  have hx := fx.1
  have hb := fx.2.1
  intro n
  induction n with
  | zero => intro v1 u H locs ls h; exact nomatch h
  | succ n ih =>
    intro v1 u H locs ls h hl hw
    rw [lp_Md_cancel_11] at h
    refine lv_iload_n hx hb d_Md_cancel_11 rfl (lv_at hl 1 rfl) ?_
    refine lv_bipush (v := 6) hx hb d_Md_cancel_12 (by decide) ?_
    refine lv_icmp_ge (tgt := 36) hx hb d_Md_cancel_14 (by decide) (fun hc => ?_) (fun hc => ?_)
    · have h := it_t hc h
      exact hX11 v1 u _ _ _ h (lv_sub hl [0, 1] rfl) hw
    · have h := it_f hc h
      refine lv_aload_n hx hb d_Md_cancel_17 rfl (lv_at hl 0 rfl) ?_
      refine lv_iload_n hx hb d_Md_cancel_18 rfl (lv_at hl 1 rfl) ?_
      obtain ⟨r1, u2, hq3, h⟩ := ck_r h
      refine ly_callVi (As := [.int v1]) (rest := []) ZsM_ok fx hk hz hA hw (c_Md_runs l v1 u _ hq3) (cw_V fx.2.2.2.2 a_616 a_618 as_25 a_6 ac_Md_runs rfl rfl rfl hd_Md_runs ⟨Nat.le_of_ble_eq_true rfl, Nat.le_of_ble_eq_true rfl⟩) (0) rfl rfl rfl rfl hl.1 rfl (Nat.le_of_ble_eq_true rfl) d_Md_cancel_19 (Nat.zero_le _) (Nat.zero_le _) (fun r' u' H locs hp hw => ?_)
      cases hp
      refine lv_if_eq (tgt := 30) hx hb d_Md_cancel_22 (by decide) (fun hc => ?_) (fun hc => ?_)
      · have h := it_t hc h
        refine lv_iinc (lv' := [(1, .int (v1 + (1 : Int32))), (0, .ref (ad 0))]) (k := 1) hx hb d_Md_cancel_30 hl rfl (oi_p1 _) (by decide) rfl (fun ls hl => ?_)
        refine lv_goto (tgt := 11) hx hb d_Md_cancel_33 (by decide) ?_
        exact ih (v1 + (1 : Int32)) u2 _ _ _ h (lv_sub hl [1, 0] rfl) hw
      · have h := it_f hc h
        refine lv_aload_n hx hb d_Md_cancel_25 rfl (lv_at hl 0 rfl) ?_
        refine lv_iload_n hx hb d_Md_cancel_26 rfl (lv_at hl 1 rfl) ?_
        obtain ⟨r4, u5, hq6, h⟩ := ck_r h
        refine ly_callVv (As := [.int v1]) (rest := []) ZsM_ok fx hk hz hA hw (c_Md_stop l F v1 u2 _ hq6) (cw_V fx.2.2.2.2 a_620 a_622 as_26 a_6 ac_Md_stop rfl rfl rfl hd_Md_stop ⟨Nat.le_of_ble_eq_true rfl, Nat.le_of_ble_eq_true rfl⟩) (0) rfl rfl rfl rfl hl.1 rfl (Nat.le_of_ble_eq_true rfl) d_Md_cancel_27 (Nat.zero_le _) (Nat.zero_le _) (fun u' H locs hp hw => ?_)
        cases hp
        refine lv_iinc (lv' := [(1, .int (v1 + (1 : Int32))), (0, .ref (ad 0))]) (k := 1) hx hb d_Md_cancel_30 hl rfl (oi_p1 _) (by decide) rfl (fun ls hl => ?_)
        refine lv_goto (tgt := 11) hx hb d_Md_cancel_33 (by decide) ?_
        exact ih (v1 + (1 : Int32)) u5 _ _ _ h (lv_sub hl [1, 0] rfl) hw
set_option maxRecDepth 100000 in
set_option maxHeartbeats 4000000 in
theorem c_Md_cancel (l : Launch) (F : Nat) (u : St) (res : Int32 × St) (h : sp_Md_cancel F u = some res) : ly_Mi ZsM clA layM l y_Md_cancel w_Md_cancel { frames := 1, cells := 0, slots := 0, locals := 22 } (fun ad => [.ref (ad 0)]) u (fun r1 u1 => (r1, u1) = res) := by
  refine ly_enti (cc := b_Md_cancel) (maxL := 2) (ret := (some .boolean)) (by decide) rfl (fun ad => Nat.le_of_ble_eq_true rfl) ?_
  intro p e s m below meth c D ad cA A ls fx hr hlocks hk hA hz hw hl
  have hl : lv_has ls 2 [(0, .ref (ad 0))] := hl
  have hx := fx.1
  have hb := fx.2.1
  unfold sp_Md_cancel at h
  refine lv_aload_n hx hb d_Md_cancel_0 rfl (lv_at hl 0 rfl) ?_
  refine ly_get fx hk hw (0) rfl rfl i_Model 15 (by decide) rfl rfl (List.mem_cons_of_mem _ a_482) d_Md_cancel_1 ?_
  refine lv_if_ne (tgt := 9) hx hb d_Md_cancel_4 (by decide) (fun hc => ?_) (fun hc => ?_)
  · have h := it_f hc h
    refine lv_iconst (v := 0) hx hb d_Md_cancel_9 (by decide) ?_
    refine lv_istore_n (lv' := [(1, .int (0 : Int32)), (0, .ref (ad 0))]) hx hb d_Md_cancel_10 rfl hl (by decide) rfl (fun ls hl => ?_)
    refine wl_Md_cancel_11 fx hr hlocks hk hA hz F (fun v1_7 u8 H locs ls h hl hw => ?_) _ (0 : Int32) u _ _ _ h (lv_sub hl [1, 0] rfl) hw
    refine lv_aload_n hx hb d_Md_cancel_36 rfl (lv_at hl 0 rfl) ?_
    refine lv_iconst (v := 0) hx hb d_Md_cancel_37 (by decide) ?_
    refine ly_put (v := (0 : Int32)) fx hk hw (0) rfl rfl i_Model t_Model t_Model_ok n_Model 16 (by decide) rfl rfl rfl (List.mem_cons_of_mem _ a_483) rfl rfl d_Md_cancel_38 (fun H locs hw => ?_)
    obtain ⟨u9, ev⟩ : ∃ z, z = ly_pi u8 (0) 16 (0 : Int32) := ⟨_, rfl⟩
    rw [← ev] at hw
    have h := nk_r ev h
    refine lv_aload_n hx hb d_Md_cancel_41 rfl (lv_at hl 0 rfl) ?_
    refine lv_iconst (v := 0) hx hb d_Md_cancel_42 (by decide) ?_
    refine ly_put (v := (0 : Int32)) fx hk hw (0) rfl rfl i_Model t_Model t_Model_ok n_Model 15 (by decide) rfl rfl rfl (List.mem_cons_of_mem _ a_482) (by decide) (by decide) d_Md_cancel_43 (fun H locs hw => ?_)
    obtain ⟨u10, ev⟩ : ∃ z, z = ly_pi u9 (0) 15 (0 : Int32) := ⟨_, rfl⟩
    rw [← ev] at hw
    have h := nk_r ev h
    refine lv_iconst (v := 1) hx hb d_Md_cancel_46 (by decide) ?_
    exact ly_retz fx hr hlocks hk hw (Or.inr rfl) (Option.some.inj h) d_Md_cancel_47
  · have h := it_t hc h
    refine lv_iconst (v := 0) hx hb d_Md_cancel_7 (by decide) ?_
    exact ly_retz fx hr hlocks hk hw (Or.inl rfl) (Option.some.inj h) d_Md_cancel_8
set_option maxRecDepth 100000 in
set_option maxHeartbeats 4000000 in
theorem wl_Md_isLast_14 {p : Program} {l : Launch} {e : Env} {s : State} {m : MethodId} {args : Array Value} {below : List Frame} {meth : Method} {c : Code} {D : va_G} {ad : Nat → Nat} {cA : Nat → ClassId} {A : Nat → Prop} (fx : CallFix p m c b_Md_isLast 5 s args w_Md_isLast y_Md_isLast.cls) (hr : meth.sig.returnType = (some .boolean)) (hlocks : meth.locks = false) (hk : ly_K D clA layM cA s) (hA : ∀ q, s.heap.size ≤ q → A q) (hz : ZsM A s s.heap) (F : Nat) (v1 : Int32) (v2 : Int32) {k14 : Int32 → St → Option (Int32 × St)} {res : Int32 × St}
    (hX14 : ∀ (v3 : Int32) (u : St) (H : Heap) (locs : List Loc) (ls : Array Slot), k14 v3 u = some res → lv_has ls 5 [(0, .ref (ad 0)), (1, .int v1), (2, .int v2), (3, .int v3)] → ly_G D clA layM ad cA A s.heap u H locs → W p l e { frames := 3, cells := 0, slots := 0, locals := 79 } s m args below meth c H locs 0 0 (MQ below (va_Qi (fun r1 u1 => (r1, u1) = res) (ly_B D clA layM ad cA A) A) args s 0 0 A) (F0 m 67 ls [])) :
    ∀ (n : Nat) (v3 : Int32) (u : St) (H : Heap) (locs : List Loc) (ls : Array Slot), lp_Md_isLast_14 F v1 v2 k14 n v3 u = some res → lv_has ls 5 [(0, .ref (ad 0)), (1, .int v1), (2, .int v2), (3, .int v3)] → ly_G D clA layM ad cA A s.heap u H locs → W p l e { frames := 3, cells := 0, slots := 0, locals := 79 } s m args below meth c H locs 0 0 (MQ below (va_Qi (fun r1 u1 => (r1, u1) = res) (ly_B D clA layM ad cA A) A) args s 0 0 A) (F0 m 14 ls []) := by
  have hx := fx.1
  have hb := fx.2.1
  intro n
  induction n with
  | zero => intro v3 u H locs ls h; exact nomatch h
  | succ n ih =>
    intro v3 u H locs ls h hl hw
    rw [lp_Md_isLast_14] at h
    refine lv_iload_n hx hb d_Md_isLast_14 rfl (lv_at hl 3 rfl) ?_
    refine lv_iconst (v := 3) hx hb d_Md_isLast_15 (by decide) ?_
    refine lv_icmp_ge (tgt := 67) hx hb d_Md_isLast_16 (by decide) (fun hc => ?_) (fun hc => ?_)
    · have h := it_t hc h
      exact hX14 v3 u _ _ _ h (lv_sub hl [0, 1, 2, 3] rfl) hw
    · have h := it_f hc h
      refine lv_aload_n hx hb d_Md_isLast_19 rfl (lv_at hl 0 rfl) ?_
      refine ly_getr fx hk hw (0) rfl rfl i_Model 5 (by decide) rfl rfl (List.mem_cons_of_mem _ a_472) d_Md_isLast_20 ?_
      refine lv_iconst (v := 3) hx hb d_Md_isLast_23 (by decide) ?_
      refine lv_iload_n hx hb d_Md_isLast_24 rfl (lv_at hl 1 rfl) ?_
      refine lv_imul hx hb d_Md_isLast_25 ?_
      refine lv_iload_n hx hb d_Md_isLast_26 rfl (lv_at hl 3 rfl) ?_
      refine lv_iadd hx hb d_Md_isLast_27 ?_
      obtain ⟨hi3, h⟩ := it_in h
      refine ly_iald fx hk hw (6) rfl hi3 d_Md_isLast_28 ?_
      refine lv_topi (fun v4_4 ev => ?_)
      have h := nk_r ev h
      refine lv_istore (lv' := [(4, .int v4_4), (0, .ref (ad 0)), (1, .int v1), (2, .int v2), (3, .int v3)]) hx hb d_Md_isLast_29 hl (by decide) rfl (fun ls hl => ?_)
      refine lv_iload hx hb d_Md_isLast_31 (lv_at hl 0 rfl) ?_
      refine lv_if_eq (tgt := 61) hx hb d_Md_isLast_33 (by decide) (fun hc => ?_) (fun hc => ?_)
      · have h := it_t hc h
        refine lv_iinc (lv' := [(3, .int (v3 + (1 : Int32))), (4, .int v4_4), (0, .ref (ad 0)), (1, .int v1), (2, .int v2)]) (k := 4) hx hb d_Md_isLast_61 hl rfl (oi_p1 _) (by decide) rfl (fun ls hl => ?_)
        refine lv_goto (tgt := 14) hx hb d_Md_isLast_64 (by decide) ?_
        exact ih (v3 + (1 : Int32)) u _ _ _ h (lv_sub hl [2, 3, 4, 0] rfl) hw
      · have h := it_f hc h
        refine lv_iload_n hx hb d_Md_isLast_36 rfl (lv_at hl 3 rfl) ?_
        refine lv_iload hx hb d_Md_isLast_37 (lv_at hl 0 rfl) ?_
        refine lv_iand hx hb d_Md_isLast_39 ?_
        refine lv_if_ne (tgt := 61) hx hb d_Md_isLast_40 (by decide) (fun hc => ?_) (fun hc => ?_)
        · have h := it_f hc h
          refine lv_iinc (lv' := [(3, .int (v3 + (1 : Int32))), (4, .int v4_4), (0, .ref (ad 0)), (1, .int v1), (2, .int v2)]) (k := 4) hx hb d_Md_isLast_61 hl rfl (oi_p1 _) (by decide) rfl (fun ls hl => ?_)
          refine lv_goto (tgt := 14) hx hb d_Md_isLast_64 (by decide) ?_
          exact ih (v3 + (1 : Int32)) u _ _ _ h (lv_sub hl [2, 3, 4, 0] rfl) hw
        · have h := it_t hc h
          refine lv_aload_n hx hb d_Md_isLast_43 rfl (lv_at hl 1 rfl) ?_
          refine lv_aload_n hx hb d_Md_isLast_44 rfl (lv_at hl 1 rfl) ?_
          refine ly_get fx hk hw (0) rfl rfl i_Model 16 (by decide) rfl rfl (List.mem_cons_of_mem _ a_483) d_Md_isLast_45 ?_
          refine lv_iload_n hx hb d_Md_isLast_48 rfl (lv_at hl 3 rfl) ?_
          refine lv_iload hx hb d_Md_isLast_49 (lv_at hl 0 rfl) ?_
          refine lv_ior hx hb d_Md_isLast_51 ?_
          refine lv_iload_n hx hb d_Md_isLast_52 rfl (lv_at hl 2 rfl) ?_
          obtain ⟨r5, u6, hq7, h⟩ := ck_r h
          refine ly_callVi (As := [.int (u.1 (0) 16), .int (v2 ||| v4_4), .int v1]) (rest := []) ZsM_ok fx hk hz hA hw (c_Md_search l F (u.1 (0) 16) (v2 ||| v4_4) v1 u _ hq7) (cw_V fx.2.2.2.2 a_588 a_590 as_20 a_6 ac_Md_search rfl rfl rfl hd_Md_search ⟨Nat.le_of_ble_eq_true rfl, Nat.le_of_ble_eq_true rfl⟩) (0) rfl rfl rfl rfl hl.1 rfl (Nat.le_of_ble_eq_true rfl) d_Md_isLast_53 (Nat.zero_le _) (Nat.zero_le _) (fun r' u' H locs hp hw => ?_)
          cases hp
          refine lv_if_eq (tgt := 61) hx hb d_Md_isLast_56 (by decide) (fun hc => ?_) (fun hc => ?_)
          · have h := it_t hc h
            refine lv_iinc (lv' := [(3, .int (v3 + (1 : Int32))), (4, .int v4_4), (0, .ref (ad 0)), (1, .int v1), (2, .int v2)]) (k := 4) hx hb d_Md_isLast_61 hl rfl (oi_p1 _) (by decide) rfl (fun ls hl => ?_)
            refine lv_goto (tgt := 14) hx hb d_Md_isLast_64 (by decide) ?_
            exact ih (v3 + (1 : Int32)) u6 _ _ _ h (lv_sub hl [2, 3, 4, 0] rfl) hw
          · have h := it_f hc h
            refine lv_iconst (v := 0) hx hb d_Md_isLast_59 (by decide) ?_
            exact ly_retz fx hr hlocks hk hw (Or.inl rfl) (Option.some.inj h) d_Md_isLast_60
set_option maxRecDepth 100000 in
set_option maxHeartbeats 4000000 in
theorem c_Md_isLast (l : Launch) (F : Nat) (a1 : Int32) (u : St) (res : Int32 × St) (h : sp_Md_isLast F a1 u = some res) : ly_Mi ZsM clA layM l y_Md_isLast w_Md_isLast { frames := 3, cells := 0, slots := 0, locals := 79 } (fun ad => [.ref (ad 0), .int a1]) u (fun r1 u1 => (r1, u1) = res) := by
  refine ly_enti (cc := b_Md_isLast) (maxL := 5) (ret := (some .boolean)) (by decide) rfl (fun ad => Nat.le_of_ble_eq_true rfl) ?_
  intro p e s m below meth c D ad cA A ls fx hr hlocks hk hA hz hw hl
  have hl : lv_has ls 5 [(0, .ref (ad 0)), (1, .int a1)] := hl
  have hx := fx.1
  have hb := fx.2.1
  unfold sp_Md_isLast at h
  refine lv_aload_n hx hb d_Md_isLast_0 rfl (lv_at hl 0 rfl) ?_
  refine ly_getr fx hk hw (0) rfl rfl i_Model 3 (by decide) rfl rfl (List.mem_cons_of_mem _ a_470) d_Md_isLast_1 ?_
  refine lv_iload_n hx hb d_Md_isLast_4 rfl (lv_at hl 1 rfl) ?_
  obtain ⟨hi1, h⟩ := it_in h
  refine ly_iald fx hk hw (4) rfl hi1 d_Md_isLast_5 ?_
  refine lv_aload_n hx hb d_Md_isLast_6 rfl (lv_at hl 0 rfl) ?_
  refine ly_get fx hk hw (0) rfl rfl i_Model 16 (by decide) rfl rfl (List.mem_cons_of_mem _ a_483) d_Md_isLast_7 ?_
  refine lv_iand hx hb d_Md_isLast_10 ?_
  refine lv_topi (fun v2_2 ev => ?_)
  have h := nk_r ev h
  refine lv_istore_n (lv' := [(2, .int v2_2), (0, .ref (ad 0)), (1, .int a1)]) hx hb d_Md_isLast_11 rfl hl (by decide) rfl (fun ls hl => ?_)
  refine lv_iconst (v := 0) hx hb d_Md_isLast_12 (by decide) ?_
  refine lv_istore_n (lv' := [(3, .int (0 : Int32)), (2, .int v2_2), (0, .ref (ad 0)), (1, .int a1)]) hx hb d_Md_isLast_13 rfl hl (by decide) rfl (fun ls hl => ?_)
  refine wl_Md_isLast_14 fx hr hlocks hk hA hz F a1 v2_2 (fun v3_8 u9 H locs ls h hl hw => ?_) _ (0 : Int32) u _ _ _ h (lv_sub hl [2, 3, 1, 0] rfl) hw
  refine lv_iconst (v := 1) hx hb d_Md_isLast_67 (by decide) ?_
  exact ly_retz fx hr hlocks hk hw (Or.inr rfl) (Option.some.inj h) d_Md_isLast_68
set_option maxRecDepth 100000 in
set_option maxHeartbeats 4000000 in
theorem c_Md_isEnabled (l : Launch) (F : Nat) (a1 : Int32) (u : St) (res : Int32 × St) (h : sp_Md_isEnabled F a1 u = some res) : ly_Mi ZsM clA layM l y_Md_isEnabled w_Md_isEnabled { frames := 4, cells := 0, slots := 0, locals := 103 } (fun ad => [.ref (ad 0), .int a1]) u (fun r1 u1 => (r1, u1) = res) := by
  refine ly_enti (cc := b_Md_isEnabled) (maxL := 3) (ret := (some .boolean)) (by decide) rfl (fun ad => Nat.le_of_ble_eq_true rfl) ?_
  intro p e s m below meth c D ad cA A ls fx hr hlocks hk hA hz hw hl
  have hl : lv_has ls 3 [(0, .ref (ad 0)), (1, .int a1)] := hl
  have hx := fx.1
  have hb := fx.2.1
  unfold sp_Md_isEnabled at h
  refine lv_aload_n hx hb d_Md_isEnabled_0 rfl (lv_at hl 0 rfl) ?_
  refine ly_get fx hk hw (0) rfl rfl i_Model 15 (by decide) rfl rfl (List.mem_cons_of_mem _ a_482) d_Md_isEnabled_1 ?_
  refine lv_if_eq (tgt := 24) hx hb d_Md_isEnabled_4 (by decide) (fun hc => ?_) (fun hc => ?_)
  · have h := it_t hc h
    refine lv_iconst (v := 0) hx hb d_Md_isEnabled_24 (by decide) ?_
    exact ly_retz fx hr hlocks hk hw (Or.inl rfl) (Option.some.inj h) d_Md_isEnabled_25
  · have h := it_f hc h
    refine lv_aload_n hx hb d_Md_isEnabled_7 rfl (lv_at hl 0 rfl) ?_
    refine ly_getr fx hk hw (0) rfl rfl i_Model 0 (by decide) rfl rfl (List.mem_cons_of_mem _ a_467) d_Md_isEnabled_8 ?_
    refine lv_iload_n hx hb d_Md_isEnabled_11 rfl (lv_at hl 1 rfl) ?_
    obtain ⟨hi1, h⟩ := it_in h
    refine ly_zald fx hk hw (1) rfl hi1 d_Md_isEnabled_12 ?_
    refine lv_if_eq (tgt := 24) hx hb d_Md_isEnabled_13 (by decide) (fun hc => ?_) (fun hc => ?_)
    · have h := it_t hc h
      refine lv_iconst (v := 0) hx hb d_Md_isEnabled_24 (by decide) ?_
      exact ly_retz fx hr hlocks hk hw (Or.inl rfl) (Option.some.inj h) d_Md_isEnabled_25
    · have h := it_f hc h
      refine lv_aload_n hx hb d_Md_isEnabled_16 rfl (lv_at hl 0 rfl) ?_
      refine lv_iload_n hx hb d_Md_isEnabled_17 rfl (lv_at hl 1 rfl) ?_
      obtain ⟨r2, u3, hq4, h⟩ := ck_r h
      refine ly_callVi (As := [.int a1]) (rest := []) ZsM_ok fx hk hz hA hw (c_Md_runs l a1 u _ hq4) (cw_V fx.2.2.2.2 a_616 a_618 as_25 a_6 ac_Md_runs rfl rfl rfl hd_Md_runs ⟨Nat.le_of_ble_eq_true rfl, Nat.le_of_ble_eq_true rfl⟩) (0) rfl rfl rfl rfl hl.1 rfl (Nat.le_of_ble_eq_true rfl) d_Md_isEnabled_18 (Nat.zero_le _) (Nat.zero_le _) (fun r' u' H locs hp hw => ?_)
      cases hp
      refine lv_if_eq (tgt := 26) hx hb d_Md_isEnabled_21 (by decide) (fun hc => ?_) (fun hc => ?_)
      · have h := it_t hc h
        refine lv_aload_n hx hb d_Md_isEnabled_26 rfl (lv_at hl 0 rfl) ?_
        refine ly_getr fx hk hw (0) rfl rfl i_Model 3 (by decide) rfl rfl (List.mem_cons_of_mem _ a_470) d_Md_isEnabled_27 ?_
        refine lv_iload_n hx hb d_Md_isEnabled_30 rfl (lv_at hl 1 rfl) ?_
        obtain ⟨hi5, h⟩ := it_in h
        refine ly_iald fx hk hw (4) rfl hi5 d_Md_isEnabled_31 ?_
        refine lv_aload_n hx hb d_Md_isEnabled_32 rfl (lv_at hl 0 rfl) ?_
        refine ly_get fx hk hw (0) rfl rfl i_Model 16 (by decide) rfl rfl (List.mem_cons_of_mem _ a_483) d_Md_isEnabled_33 ?_
        refine lv_iand hx hb d_Md_isEnabled_36 ?_
        refine lv_topi (fun v2_6 ev => ?_)
        have h := nk_r ev h
        refine lv_istore_n (lv' := [(2, .int v2_6), (0, .ref (ad 0)), (1, .int a1)]) hx hb d_Md_isEnabled_37 rfl hl (by decide) rfl (fun ls hl => ?_)
        refine lv_aload_n hx hb d_Md_isEnabled_38 rfl (lv_at hl 1 rfl) ?_
        refine ly_getr fx hk hw (0) rfl rfl i_Model 1 (by decide) rfl rfl (List.mem_cons_of_mem _ a_468) d_Md_isEnabled_39 ?_
        refine lv_iload_n hx hb d_Md_isEnabled_42 rfl (lv_at hl 2 rfl) ?_
        obtain ⟨hi7, h⟩ := it_in h
        refine ly_iald fx hk hw (2) rfl hi7 d_Md_isEnabled_43 ?_
        refine lv_if_ne (tgt := 63) hx hb d_Md_isEnabled_44 (by decide) (fun hc => ?_) (fun hc => ?_)
        · have h := it_f hc h
          refine lv_iload_n hx hb d_Md_isEnabled_63 rfl (lv_at hl 0 rfl) ?_
          refine lv_if_eq (tgt := 89) hx hb d_Md_isEnabled_64 (by decide) (fun hc => ?_) (fun hc => ?_)
          · have h := it_t hc h
            refine lv_iconst (v := 0) hx hb d_Md_isEnabled_89 (by decide) ?_
            exact ly_retz fx hr hlocks hk hw (Or.inl rfl) (Option.some.inj h) d_Md_isEnabled_90
          · have h := it_f hc h
            refine lv_aload_n hx hb d_Md_isEnabled_67 rfl (lv_at hl 1 rfl) ?_
            refine ly_getr fx hk hw (0) rfl rfl i_Model 1 (by decide) rfl rfl (List.mem_cons_of_mem _ a_468) d_Md_isEnabled_68 ?_
            refine lv_iload_n hx hb d_Md_isEnabled_71 rfl (lv_at hl 2 rfl) ?_
            obtain ⟨hi8, h⟩ := it_in h
            refine ly_iald fx hk hw (2) rfl hi8 d_Md_isEnabled_72 ?_
            refine lv_iconst (v := 1) hx hb d_Md_isEnabled_73 (by decide) ?_
            refine lv_icmp_eq (tgt := 85) hx hb d_Md_isEnabled_74 (by decide) (fun hc => ?_) (fun hc => ?_)
            · have h := it_t hc h
              refine lv_iconst (v := 1) hx hb d_Md_isEnabled_85 (by decide) ?_
              refine lv_goto (tgt := 90) hx hb d_Md_isEnabled_86 (by decide) ?_
              exact ly_retz fx hr hlocks hk hw (Or.inr rfl) (Option.some.inj h) d_Md_isEnabled_90
            · have h := it_f hc h
              refine lv_aload_n hx hb d_Md_isEnabled_77 rfl (lv_at hl 1 rfl) ?_
              refine lv_iload_n hx hb d_Md_isEnabled_78 rfl (lv_at hl 2 rfl) ?_
              obtain ⟨r9, u10, hq11, h⟩ := ck_r h
              refine ly_callVi (As := [.int a1]) (rest := []) ZsM_ok fx hk hz hA hw (c_Md_isLast l F a1 u3 _ hq11) (cw_V fx.2.2.2.2 a_632 a_634 as_28 a_6 ac_Md_isLast rfl rfl rfl hd_Md_isLast ⟨Nat.le_of_ble_eq_true rfl, Nat.le_of_ble_eq_true rfl⟩) (0) rfl rfl rfl rfl hl.1 rfl (Nat.le_of_ble_eq_true rfl) d_Md_isEnabled_79 (Nat.zero_le _) (Nat.zero_le _) (fun r' u' H locs hp hw => ?_)
              cases hp
              refine lv_if_eq (tgt := 89) hx hb d_Md_isEnabled_82 (by decide) (fun hc => ?_) (fun hc => ?_)
              · have h := it_t hc h
                refine lv_iconst (v := 0) hx hb d_Md_isEnabled_89 (by decide) ?_
                exact ly_retz fx hr hlocks hk hw (Or.inl rfl) (Option.some.inj h) d_Md_isEnabled_90
              · have h := it_f hc h
                refine lv_iconst (v := 1) hx hb d_Md_isEnabled_85 (by decide) ?_
                refine lv_goto (tgt := 90) hx hb d_Md_isEnabled_86 (by decide) ?_
                exact ly_retz fx hr hlocks hk hw (Or.inr rfl) (Option.some.inj h) d_Md_isEnabled_90
        · have h := it_t hc h
          refine lv_iload_n hx hb d_Md_isEnabled_47 rfl (lv_at hl 0 rfl) ?_
          refine lv_aload_n hx hb d_Md_isEnabled_48 rfl (lv_at hl 1 rfl) ?_
          refine ly_getr fx hk hw (0) rfl rfl i_Model 3 (by decide) rfl rfl (List.mem_cons_of_mem _ a_470) d_Md_isEnabled_49 ?_
          refine lv_iload_n hx hb d_Md_isEnabled_52 rfl (lv_at hl 2 rfl) ?_
          obtain ⟨hi12, h⟩ := it_in h
          refine ly_iald fx hk hw (4) rfl hi12 d_Md_isEnabled_53 ?_
          refine lv_icmp_ne (tgt := 61) hx hb d_Md_isEnabled_54 (by decide) (fun hc => ?_) (fun hc => ?_)
          · have h := it_f hc h
            refine lv_iconst (v := 0) hx hb d_Md_isEnabled_61 (by decide) ?_
            exact ly_retz fx hr hlocks hk hw (Or.inl rfl) (Option.some.inj h) d_Md_isEnabled_62
          · have h := it_t hc h
            refine lv_iconst (v := 1) hx hb d_Md_isEnabled_57 (by decide) ?_
            refine lv_goto (tgt := 62) hx hb d_Md_isEnabled_58 (by decide) ?_
            exact ly_retz fx hr hlocks hk hw (Or.inr rfl) (Option.some.inj h) d_Md_isEnabled_62
      · have h := it_f hc h
        refine lv_iconst (v := 0) hx hb d_Md_isEnabled_24 (by decide) ?_
        exact ly_retz fx hr hlocks hk hw (Or.inl rfl) (Option.some.inj h) d_Md_isEnabled_25
