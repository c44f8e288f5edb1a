set_option maxRecDepth 100000 in
set_option maxHeartbeats 4000000 in
theorem c_CN_isBetween (l : Launch) (a1 : Int32) (a2 : Int32) (a3 : Int32) (u : St) (res : Int32 × St) (h : sp_CN_isBetween a1 a2 a3 u = some res) : ly_Mi ZsC clA layC l y_CN_isBetween w_CN_isBetween { frames := 0, cells := 0, slots := 0, locals := 0 } (fun ad => [.int a1, .int a2, .int a3]) u (fun r1 u1 => (r1, u1) = res) := by
  refine ly_enti (cc := b_CN_isBetween) (maxL := 3) (ret := (some .boolean)) (by decide) rfl (fun ad => Nat.le_of_ble_eq_true rfl) ?_
  intro p e s m below meth c D ad cA A ls fx hr hlocks hk hA hz hw hl
  have hl : lv_has ls 3 [(0, .int a1), (1, .int a2), (2, .int a3)] := hl
  have hx := fx.1
  have hb := fx.2.1
  unfold sp_CN_isBetween at h
  refine lv_iload_n hx hb d_CN_isBetween_0 rfl (lv_at hl 0 rfl) ?_
  refine lv_iload_n hx hb d_CN_isBetween_1 rfl (lv_at hl 1 rfl) ?_
  refine lv_icmp_lt (tgt := 14) hx hb d_CN_isBetween_2 (by decide) (fun hc => ?_) (fun hc => ?_)
  · have h := it_t hc h
    refine lv_iconst (v := 0) hx hb d_CN_isBetween_14 (by decide) ?_
    exact ly_retz fx hr hlocks hk hw (Or.inl rfl) (Option.some.inj h) d_CN_isBetween_15
  · have h := it_f hc h
    refine lv_iload_n hx hb d_CN_isBetween_5 rfl (lv_at hl 0 rfl) ?_
    refine lv_iload_n hx hb d_CN_isBetween_6 rfl (lv_at hl 2 rfl) ?_
    refine lv_icmp_gt (tgt := 14) hx hb d_CN_isBetween_7 (by decide) (fun hc => ?_) (fun hc => ?_)
    · have h := it_t hc h
      refine lv_iconst (v := 0) hx hb d_CN_isBetween_14 (by decide) ?_
      exact ly_retz fx hr hlocks hk hw (Or.inl rfl) (Option.some.inj h) d_CN_isBetween_15
    · have h := it_f hc h
      refine lv_iconst (v := 1) hx hb d_CN_isBetween_10 (by decide) ?_
      refine lv_goto (tgt := 15) hx hb d_CN_isBetween_11 (by decide) ?_
      exact ly_retz fx hr hlocks hk hw (Or.inr rfl) (Option.some.inj h) d_CN_isBetween_15
set_option maxRecDepth 100000 in
set_option maxHeartbeats 4000000 in
theorem c_Net_isDefined (l : Launch) (a1 : Int32) (u : St) (res : Int32 × St) (h : sp_Net_isDefined a1 u = some res) : ly_Mi ZsC clA layC l y_Net_isDefined w_Net_isDefined { frames := 1, cells := 0, slots := 0, locals := 22 } (fun ad => [.ref (ad 1), .int a1]) u (fun r1 u1 => (r1, u1) = res) := by
  refine ly_enti (cc := b_Net_isDefined) (maxL := 2) (ret := (some .boolean)) (by decide) rfl (fun ad => Nat.le_of_ble_eq_true rfl) ?_
  intro p e s m below meth c D ad cA A ls fx hr hlocks hk hA hz hw hl
  have hl : lv_has ls 2 [(0, .ref (ad 1)), (1, .int a1)] := hl
  have hx := fx.1
  have hb := fx.2.1
  unfold sp_Net_isDefined at h
  refine lv_iload_n hx hb d_Net_isDefined_0 rfl (lv_at hl 1 rfl) ?_
  refine lv_iconst (v := 0) hx hb d_Net_isDefined_1 (by decide) ?_
  refine lv_iconst (v := 5) hx hb d_Net_isDefined_2 (by decide) ?_
  obtain ⟨r1, u2, hq3, h⟩ := ck_r h
  refine ly_callSNi (As := [.int a1, .int (0 : Int32), .int (5 : Int32)]) (rest := []) ZsC_ok fx hk hz hA hw (c_CN_isBetween l a1 (0 : Int32) (5 : Int32) u _ hq3) (cw_SN fx.2.2.2.2 hz.2 a_188 a_1 ac_CN_isBetween rfl rfl hd_CN_isBetween ⟨Nat.le_of_ble_eq_true rfl, Nat.le_of_ble_eq_true rfl⟩) rfl rfl hl.1 rfl (Nat.le_of_ble_eq_true rfl) d_Net_isDefined_3 (Nat.zero_le _) (Nat.zero_le _) (fun r' u' H locs hp hw => ?_)
  cases hp
  refine lv_if_eq (tgt := 25) hx hb d_Net_isDefined_6 (by decide) (fun hc => ?_) (fun hc => ?_)
  · have h := it_t hc h
    refine lv_iconst (v := 0) hx hb d_Net_isDefined_25 (by decide) ?_
    exact ly_retz fx hr hlocks hk hw (Or.inl rfl) (Option.some.inj h) d_Net_isDefined_26
  · have h := it_f hc h
    refine lv_aload_n hx hb d_Net_isDefined_9 rfl (lv_at hl 0 rfl) ?_
    refine ly_getr fx hk hw (1) rfl rfl i_Net 0 (by decide) rfl rfl (List.mem_cons_of_mem _ a_121) d_Net_isDefined_10 ?_
    refine lv_iload_n hx hb d_Net_isDefined_13 rfl (lv_at hl 1 rfl) ?_
    obtain ⟨hi4, h⟩ := it_in h
    have ht5 := vt_lt hi4
    refine ly_aald fx hk hw (2) rfl hi4 (q1 := 9 + 6 * a1.toNatClampNeg) rfl d_Net_isDefined_14 ?_
    refine ly_get fx hk hw (9 + 6 * a1.toNatClampNeg) (la_T ht5) rfl i_Task 1 (by decide) rfl rfl (List.mem_cons_of_mem _ a_49) d_Net_isDefined_15 ?_
    refine lv_if_eq (tgt := 25) hx hb d_Net_isDefined_18 (by decide) (fun hc => ?_) (fun hc => ?_)
    · have h := it_t hc h
      refine lv_iconst (v := 0) hx hb d_Net_isDefined_25 (by decide) ?_
      exact ly_retz fx hr hlocks hk hw (Or.inl rfl) (Option.some.inj h) d_Net_isDefined_26
    · have h := it_f hc h
      refine lv_iconst (v := 1) hx hb d_Net_isDefined_21 (by decide) ?_
      refine lv_goto (tgt := 26) hx hb d_Net_isDefined_22 (by decide) ?_
      exact ly_retz fx hr hlocks hk hw (Or.inr rfl) (Option.some.inj h) d_Net_isDefined_26
set_option maxRecDepth 100000 in
set_option maxHeartbeats 4000000 in
theorem wl_Net_definedTasks_4 {p : Program} {l : Launch} {e : Env} {s : State} {m : MethodId} {args : Array Value} {below : List Frame} {meth : Method} {c : Code} {D : va_G} {ad : Nat → Nat} {cA : Nat → ClassId} {A : Nat → Prop} (fx : CallFix p m c b_Net_definedTasks 3 s args w_Net_definedTasks y_Net_definedTasks.cls) (hr : meth.sig.returnType = (some .int)) (hlocks : meth.locks = false) (hk : ly_K D clA layC cA s) (hA : ∀ q, s.heap.size ≤ q → A q) (hz : ZsC A s s.heap) (F : Nat) {k4 : Int32 → Int32 → St → Option (Int32 × St)} {res : Int32 × St}
    (hX4 : ∀ (v1 : Int32) (v2 : Int32) (u : St) (H : Heap) (locs : List Loc) (ls : Array Slot), k4 v1 v2 u = some res → lv_has ls 3 [(0, .ref (ad 1)), (1, .int v1), (2, .int v2)] → ly_G D clA layC ad cA A s.heap u H locs → W p l e { frames := 0, cells := 0, slots := 0, locals := 0 } s m args below meth c H locs 0 0 (MQ below (va_Qi (fun r1 u1 => (r1, u1) = res) (ly_B D clA layC ad cA A) A) args s 0 0 A) (F0 m 38 ls [])) :
    ∀ (n : Nat) (v1 : Int32) (v2 : Int32) (u : St) (H : Heap) (locs : List Loc) (ls : Array Slot), lp_Net_definedTasks_4 F k4 n v1 v2 u = some res → lv_has ls 3 [(0, .ref (ad 1)), (1, .int v1), (2, .int v2)] → ly_G D clA layC ad cA A s.heap u H locs → W p l e { frames := 0, cells := 0, slots := 0, locals := 0 } s m args below meth c H locs 0 0 (MQ below (va_Qi (fun r1 u1 => (r1, u1) = res) (ly_B D clA layC ad cA A) A) args s 0 0 A) (F0 m 4 ls []) := by
  have hx := fx.1
  have hb := fx.2.1
  intro n
  induction n with
  | zero => intro v1 v2 u H locs ls h; exact nomatch h
  | succ n ih =>
    intro v1 v2 u H locs ls h hl hw
    rw [lp_Net_definedTasks_4] at h
    refine lv_iload_n hx hb d_Net_definedTasks_4 rfl (lv_at hl 2 rfl) ?_
    refine lv_bipush (v := 6) hx hb d_Net_definedTasks_5 (by decide) ?_
    refine lv_icmp_ge (tgt := 38) hx hb d_Net_definedTasks_7 (by decide) (fun hc => ?_) (fun hc => ?_)
    · have h := it_t hc h
      exact hX4 v1 v2 u _ _ _ h (lv_sub hl [0, 1, 2] rfl) hw
    · have h := it_f hc h
      refine lv_iload_n hx hb d_Net_definedTasks_10 rfl (lv_at hl 1 rfl) ?_
      refine lv_aload_n hx hb d_Net_definedTasks_11 rfl (lv_at hl 0 rfl) ?_
      refine ly_getr fx hk hw (1) rfl rfl i_Net 0 (by decide) rfl rfl (List.mem_cons_of_mem _ a_121) d_Net_definedTasks_12 ?_
      refine lv_iload_n hx hb d_Net_definedTasks_15 rfl (lv_at hl 2 rfl) ?_
      obtain ⟨hi1, h⟩ := it_in h
      have ht2 := vt_lt hi1
      refine ly_aald fx hk hw (2) rfl hi1 (q1 := 9 + 6 * v2.toNatClampNeg) rfl d_Net_definedTasks_16 ?_
      refine ly_get fx hk hw (9 + 6 * v2.toNatClampNeg) (la_T ht2) rfl i_Task 1 (by decide) rfl rfl (List.mem_cons_of_mem _ a_49) d_Net_definedTasks_17 ?_
      refine lv_if_eq (tgt := 29) hx hb d_Net_definedTasks_20 (by decide) (fun hc => ?_) (fun hc => ?_)
      · have h := it_t hc h
        refine lv_iconst (v := 0) hx hb d_Net_definedTasks_29 (by decide) ?_
        refine lv_ior hx hb d_Net_definedTasks_30 ?_
        refine lv_topi (fun v1_3 ev => ?_)
        have h := nk_r ev h
        refine lv_istore_n (lv' := [(1, .int v1_3), (0, .ref (ad 1)), (2, .int v2)]) hx hb d_Net_definedTasks_31 rfl hl (by decide) rfl (fun ls hl => ?_)
        refine lv_iinc (lv' := [(2, .int (v2 + (1 : Int32))), (1, .int v1_3), (0, .ref (ad 1))]) (k := 2) hx hb d_Net_definedTasks_32 hl rfl (oi_p1 _) (by decide) rfl (fun ls hl => ?_)
        refine lv_goto (tgt := 4) hx hb d_Net_definedTasks_35 (by decide) ?_
        exact ih v1_3 (v2 + (1 : Int32)) u _ _ _ h (lv_sub hl [2, 1, 0] rfl) hw
      · have h := it_f hc h
        refine lv_iconst (v := 1) hx hb d_Net_definedTasks_23 (by decide) ?_
        refine lv_iload_n hx hb d_Net_definedTasks_24 rfl (lv_at hl 2 rfl) ?_
        refine lv_ishl hx hb d_Net_definedTasks_25 ?_
        refine lv_goto (tgt := 30) hx hb d_Net_definedTasks_26 (by decide) ?_
        refine lv_ior hx hb d_Net_definedTasks_30 ?_
        refine lv_topi (fun v1_4 ev => ?_)
        have h := nk_r ev h
        refine lv_istore_n (lv' := [(1, .int v1_4), (0, .ref (ad 1)), (2, .int v2)]) hx hb d_Net_definedTasks_31 rfl hl (by decide) rfl (fun ls hl => ?_)
        refine lv_iinc (lv' := [(2, .int (v2 + (1 : Int32))), (1, .int v1_4), (0, .ref (ad 1))]) (k := 2) hx hb d_Net_definedTasks_32 hl rfl (oi_p1 _) (by decide) rfl (fun ls hl => ?_)
        refine lv_goto (tgt := 4) hx hb d_Net_definedTasks_35 (by decide) ?_
        exact ih v1_4 (v2 + (1 : Int32)) u _ _ _ h (lv_sub hl [2, 1, 0] rfl) hw
set_option maxRecDepth 100000 in
set_option maxHeartbeats 4000000 in
theorem c_Net_definedTasks (l : Launch) (F : Nat) (u : St) (res : Int32 × St) (h : sp_Net_definedTasks F u = some res) : ly_Mi ZsC clA layC l y_Net_definedTasks w_Net_definedTasks { frames := 0, cells := 0, slots := 0, locals := 0 } (fun ad => [.ref (ad 1)]) u (fun r1 u1 => (r1, u1) = res) := by
  refine ly_enti (cc := b_Net_definedTasks) (maxL := 3) (ret := (some .int)) (by decide) rfl (fun ad => Nat.le_of_ble_eq_true rfl) ?_
  intro p e s m below meth c D ad cA A ls fx hr hlocks hk hA hz hw hl
  have hl : lv_has ls 3 [(0, .ref (ad 1))] := hl
  have hx := fx.1
  have hb := fx.2.1
  unfold sp_Net_definedTasks at h
  refine lv_iconst (v := 0) hx hb d_Net_definedTasks_0 (by decide) ?_
  refine lv_istore_n (lv' := [(1, .int (0 : Int32)), (0, .ref (ad 1))]) hx hb d_Net_definedTasks_1 rfl hl (by decide) rfl (fun ls hl => ?_)
  refine lv_iconst (v := 0) hx hb d_Net_definedTasks_2 (by decide) ?_
  refine lv_istore_n (lv' := [(2, .int (0 : Int32)), (1, .int (0 : Int32)), (0, .ref (ad 1))]) hx hb d_Net_definedTasks_3 rfl hl (by decide) rfl (fun ls hl => ?_)
  refine wl_Net_definedTasks_4 fx hr hlocks hk hA hz F (fun v1_5 v2_6 u7 H locs ls h hl hw => ?_) _ (0 : Int32) (0 : Int32) u _ _ _ h (lv_sub hl [2, 1, 0] rfl) hw
  refine lv_iload_n hx hb d_Net_definedTasks_38 rfl (lv_at hl 1 rfl) ?_
  exact ly_reti fx hr hlocks hk hw (Option.some.inj h) d_Net_definedTasks_39
set_option maxRecDepth 100000 in
set_option maxHeartbeats 4000000 in
theorem c_Net_addNeed (l : Launch) (F : Nat) (a1 : Int32) (u : St) (res : Int32 × St) (h : sp_Net_addNeed F a1 u = some res) : ly_Mv ZsC clA layC l y_Net_addNeed w_Net_addNeed { frames := 1, cells := 0, slots := 0, locals := 25 } (fun ad => [.ref (ad 1), .int a1]) u (fun u1 => ((0 : Int32), u1) = res) := by
  refine ly_entv (cc := b_Net_addNeed) (maxL := 2) (ret := none) (by decide) rfl (fun ad => Nat.le_of_ble_eq_true rfl) ?_
  intro p e s m below meth c D ad cA A ls fx hr hlocks hk hA hz hw hl
  have hl : lv_has ls 2 [(0, .ref (ad 1)), (1, .int a1)] := hl
  have hx := fx.1
  have hb := fx.2.1
  unfold sp_Net_addNeed at h
  refine lv_aload_n hx hb d_Net_addNeed_0 rfl (lv_at hl 0 rfl) ?_
  refine ly_getr fx hk hw (1) rfl rfl i_Net 3 (by decide) rfl rfl (List.mem_cons_of_mem _ a_125) d_Net_addNeed_1 ?_
  refine lv_iload_n hx hb d_Net_addNeed_4 rfl (lv_at hl 1 rfl) ?_
  obtain ⟨r1, u2, hq3, h⟩ := ck_r h
  refine ly_callVi (As := [.int a1]) (rest := []) ZsC_ok fx hk hz hA hw (c_MS_has l 7 a1 (Or.inr (Or.inr rfl)) u _ hq3) (cw_V fx.2.2.2.2 a_305 a_306 a_307 a_3 ac_MS_has rfl rfl rfl hd_MS_has ⟨Nat.le_of_ble_eq_true rfl, Nat.le_of_ble_eq_true rfl⟩) (7) rfl rfl rfl rfl hl.1 rfl (Nat.le_of_ble_eq_true rfl) d_Net_addNeed_5 (Nat.zero_le _) (Nat.zero_le _) (fun r' u' H locs hp hw => ?_)
  cases hp
  refine lv_if_ne (tgt := 27) hx hb d_Net_addNeed_8 (by decide) (fun hc => ?_) (fun hc => ?_)
  · have h := it_f hc h
    exact ly_retv fx hr hlocks hk hw (Option.some.inj h) d_Net_addNeed_27
  · have h := it_t hc h
    refine lv_aload_n hx hb d_Net_addNeed_11 rfl (lv_at hl 0 rfl) ?_
    refine ly_getr fx hk hw (1) rfl rfl i_Net 3 (by decide) rfl rfl (List.mem_cons_of_mem _ a_125) d_Net_addNeed_12 ?_
    refine lv_iload_n hx hb d_Net_addNeed_15 rfl (lv_at hl 1 rfl) ?_
    obtain ⟨r4, u5, hq6, h⟩ := ck_r h
    refine ly_callVv (As := [.int a1]) (rest := []) ZsC_ok fx hk hz hA hw (c_MS_addAllAbove l F 7 a1 (Or.inr (Or.inr rfl)) u2 _ hq6) (cw_V fx.2.2.2.2 a_309 a_310 a_311 a_3 ac_MS_addAllAbove rfl rfl rfl hd_MS_addAllAbove ⟨Nat.le_of_ble_eq_true rfl, Nat.le_of_ble_eq_true rfl⟩) (7) rfl rfl rfl rfl hl.1 rfl (Nat.le_of_ble_eq_true rfl) d_Net_addNeed_16 (Nat.zero_le _) (Nat.zero_le _) (fun u' H locs hp hw => ?_)
    cases hp
    refine lv_aload_n hx hb d_Net_addNeed_19 rfl (lv_at hl 0 rfl) ?_
    refine ly_getr fx hk hw (1) rfl rfl i_Net 1 (by decide) rfl rfl (List.mem_cons_of_mem _ a_123) d_Net_addNeed_20 ?_
    refine lv_iload_n hx hb d_Net_addNeed_23 rfl (lv_at hl 1 rfl) ?_
    obtain ⟨r7, u8, hq9, h⟩ := ck_r h
    refine ly_callVv (As := [.int a1]) (rest := []) ZsC_ok fx hk hz hA hw (c_MS_add l 3 a1 (Or.inl rfl) u5 _ hq9) (cw_V fx.2.2.2.2 a_316 a_317 a_318 a_3 ac_MS_add rfl rfl rfl hd_MS_add ⟨Nat.le_of_ble_eq_true rfl, Nat.le_of_ble_eq_true rfl⟩) (3) rfl rfl rfl rfl hl.1 rfl (Nat.le_of_ble_eq_true rfl) d_Net_addNeed_24 (Nat.zero_le _) (Nat.zero_le _) (fun u' H locs hp hw => ?_)
    cases hp
    exact ly_retv fx hr hlocks hk hw (Option.some.inj h) d_Net_addNeed_27
set_option maxRecDepth 100000 in
set_option maxHeartbeats 4000000 in
theorem wl_Net_goBackBeforeEnd_13 {p : Program} {l : Launch} {e : Env} {s : State} {m : MethodId} {args : Array Value} {below : List Frame} {meth : Method} {c : Code} {D : va_G} {ad : Nat → Nat} {cA : Nat → ClassId} {A : Nat → Prop} (fx : CallFix p m c b_Net_goBackBeforeEnd 6 s args w_Net_goBackBeforeEnd y_Net_goBackBeforeEnd.cls) (hr : meth.sig.returnType = none) (hlocks : meth.locks = false) (hk : ly_K D clA layC cA s) (hA : ∀ q, s.heap.size ≤ q → A q) (hz : ZsC A s s.heap) (F : Nat) (t1 : Nat) (v2 : Int32) (v3 : Int32) (ht1 : t1 < 6) {k13 : Int32 → St → Option (Int32 × St)} {res : Int32 × St}
    (hX13 : ∀ (v4 : Int32) (u : St) (H : Heap) (locs : List Loc) (ls : Array Slot), k13 v4 u = some res → lv_has ls 6 [(0, .ref (ad 1)), (1, .ref (ad (9 + 6 * t1))), (2, .int v2), (3, .int v3), (4, .int v4)] → ly_G D clA layC ad cA A s.heap u H locs → W p l e { frames := 2, cells := 0, slots := 0, locals := 46 } s m args below meth c H locs 0 0 (MQ below (va_Qv (fun u1 => ((0 : Int32), u1) = res) (ly_B D clA layC ad cA A) A) args s 0 0 A) (F0 m 65 ls [])) :
    ∀ (n : Nat) (v4 : Int32) (u : St) (H : Heap) (locs : List Loc) (ls : Array Slot), lp_Net_goBackBeforeEnd_13 F t1 v2 v3 k13 n v4 u = some res → lv_has ls 6 [(0, .ref (ad 1)), (1, .ref (ad (9 + 6 * t1))), (2, .int v2), (3, .int v3), (4, .int v4)] → ly_G D clA layC ad cA A s.heap u H locs → W p l e { frames := 2, cells := 0, slots := 0, locals := 46 } s m args below meth c H locs 0 0 (MQ below (va_Qv (fun u1 => ((0 : Int32), u1) = res) (ly_B D clA layC ad cA A) A) args s 0 0 A) (F0 m 13 ls []) := by
  have hx := fx.1
  have hb := fx.2.1
  intro n
  induction n with
  | zero => intro v4 u H locs ls h; exact nomatch h
  | succ n ih =>
    intro v4 u H locs ls h hl hw
    rw [lp_Net_goBackBeforeEnd_13] at h
    refine lv_iload hx hb d_Net_goBackBeforeEnd_13 (lv_at hl 4 rfl) ?_
    refine lv_aload_n hx hb d_Net_goBackBeforeEnd_15 rfl (lv_at hl 1 rfl) ?_
    refine ly_get fx hk hw (9 + 6 * t1) (la_T ht1) rfl i_Task 15 (by decide) rfl rfl (List.mem_cons_of_mem _ a_77) d_Net_goBackBeforeEnd_16 ?_
    refine lv_icmp_ge (tgt := 65) hx hb d_Net_goBackBeforeEnd_19 (by decide) (fun hc => ?_) (fun hc => ?_)
    · have h := it_t hc h
      exact hX13 v4 u _ _ _ h (lv_sub hl [0, 1, 2, 3, 4] rfl) hw
    · have h := it_f hc h
      refine lv_iload_n hx hb d_Net_goBackBeforeEnd_22 rfl (lv_at hl 2 rfl) ?_
      refine lv_aload_n hx hb d_Net_goBackBeforeEnd_23 rfl (lv_at hl 1 rfl) ?_
      refine ly_getr fx hk hw (9 + 6 * t1) (la_T ht1) rfl i_Task 13 (by decide) rfl rfl (List.mem_cons_of_mem _ a_73) d_Net_goBackBeforeEnd_24 ?_
      refine lv_iload hx hb d_Net_goBackBeforeEnd_27 (lv_at hl 4 rfl) ?_
      obtain ⟨hi2, h⟩ := it_in h
      refine ly_iald fx hk hw (9 + 6 * t1 + 2) (la_T2 ht1) hi2 d_Net_goBackBeforeEnd_29 ?_
      refine lv_iconst (v := -1) hx hb d_Net_goBackBeforeEnd_30 (by decide) ?_
      refine lv_ixor hx hb d_Net_goBackBeforeEnd_31 ?_
      refine lv_iand hx hb d_Net_goBackBeforeEnd_32 ?_
      refine lv_topi (fun v5_3 ev => ?_)
      have h := nk_r ev h
      refine lv_istore (lv' := [(5, .int v5_3), (0, .ref (ad 1)), (1, .ref (ad (9 + 6 * t1))), (2, .int v2), (3, .int v3), (4, .int v4)]) hx hb d_Net_goBackBeforeEnd_33 hl (by decide) rfl (fun ls hl => ?_)
      refine lv_iload hx hb d_Net_goBackBeforeEnd_35 (lv_at hl 0 rfl) ?_
      refine lv_iload_n hx hb d_Net_goBackBeforeEnd_37 rfl (lv_at hl 3 rfl) ?_
      refine lv_icmp_eq (tgt := 59) hx hb d_Net_goBackBeforeEnd_38 (by decide) (fun hc => ?_) (fun hc => ?_)
      · have h := it_t hc h
        refine lv_iinc (lv' := [(4, .int (v4 + (1 : Int32))), (5, .int v5_3), (0, .ref (ad 1)), (1, .ref (ad (9 + 6 * t1))), (2, .int v2), (3, .int v3)]) (k := 5) hx hb d_Net_goBackBeforeEnd_59 hl rfl (oi_p1 _) (by decide) rfl (fun ls hl => ?_)
        refine lv_goto (tgt := 13) hx hb d_Net_goBackBeforeEnd_62 (by decide) ?_
        exact ih (v4 + (1 : Int32)) u _ _ _ h (lv_sub hl [2, 3, 4, 5, 0] rfl) hw
      · have h := it_f hc h
        refine lv_iload hx hb d_Net_goBackBeforeEnd_41 (lv_at hl 0 rfl) ?_
        refine lv_iload_n hx hb d_Net_goBackBeforeEnd_43 rfl (lv_at hl 4 rfl) ?_
        refine lv_iand hx hb d_Net_goBackBeforeEnd_44 ?_
        refine lv_if_ne (tgt := 59) hx hb d_Net_goBackBeforeEnd_45 (by decide) (fun hc => ?_) (fun hc => ?_)
        · have h := it_f hc h
          refine lv_iinc (lv' := [(4, .int (v4 + (1 : Int32))), (5, .int v5_3), (0, .ref (ad 1)), (1, .ref (ad (9 + 6 * t1))), (2, .int v2), (3, .int v3)]) (k := 5) hx hb d_Net_goBackBeforeEnd_59 hl rfl (oi_p1 _) (by decide) rfl (fun ls hl => ?_)
          refine lv_goto (tgt := 13) hx hb d_Net_goBackBeforeEnd_62 (by decide) ?_
          exact ih (v4 + (1 : Int32)) u _ _ _ h (lv_sub hl [2, 3, 4, 5, 0] rfl) hw
        · have h := it_t hc h
          refine lv_aload_n hx hb d_Net_goBackBeforeEnd_48 rfl (lv_at hl 1 rfl) ?_
          refine lv_iload hx hb d_Net_goBackBeforeEnd_49 (lv_at hl 0 rfl) ?_
          refine lv_aload_n hx hb d_Net_goBackBeforeEnd_51 rfl (lv_at hl 2 rfl) ?_
          refine ly_get fx hk hw (9 + 6 * t1) (la_T ht1) rfl i_Task 0 (by decide) rfl rfl (List.mem_cons_of_mem _ a_46) d_Net_goBackBeforeEnd_52 ?_
          refine lv_ior hx hb d_Net_goBackBeforeEnd_55 ?_
          obtain ⟨r4, u5, hq6, h⟩ := ck_r h
          refine ly_callVv (As := [.int (v5_3 ||| (u.1 (9 + 6 * t1) 0))]) (rest := []) ZsC_ok fx hk hz hA hw (c_Net_addNeed l F (v5_3 ||| (u.1 (9 + 6 * t1) 0)) u _ hq6) (cw_V fx.2.2.2.2 a_301 a_303 as_6 a_2 ac_Net_addNeed rfl rfl rfl hd_Net_addNeed ⟨Nat.le_of_ble_eq_true rfl, Nat.le_of_ble_eq_true rfl⟩) (1) rfl rfl rfl rfl hl.1 rfl (Nat.le_of_ble_eq_true rfl) d_Net_goBackBeforeEnd_56 (Nat.zero_le _) (Nat.zero_le _) (fun u' H locs hp hw => ?_)
          cases hp
          refine lv_iinc (lv' := [(4, .int (v4 + (1 : Int32))), (5, .int v5_3), (0, .ref (ad 1)), (1, .ref (ad (9 + 6 * t1))), (2, .int v2), (3, .int v3)]) (k := 5) hx hb d_Net_goBackBeforeEnd_59 hl rfl (oi_p1 _) (by decide) rfl (fun ls hl => ?_)
          refine lv_goto (tgt := 13) hx hb d_Net_goBackBeforeEnd_62 (by decide) ?_
          exact ih (v4 + (1 : Int32)) u5 _ _ _ h (lv_sub hl [2, 3, 4, 5, 0] rfl) hw
set_option maxRecDepth 100000 in
set_option maxHeartbeats 4000000 in
theorem c_Net_goBackBeforeEnd (l : Launch) (F : Nat) (t : Nat) (a2 : Int32) (ht : t < 6) (u : St) (res : Int32 × St) (h : sp_Net_goBackBeforeEnd F t a2 u = some res) : ly_Mv ZsC clA layC l y_Net_goBackBeforeEnd w_Net_goBackBeforeEnd { frames := 2, cells := 0, slots := 0, locals := 46 } (fun ad => [.ref (ad 1), .ref (ad (9 + 6 * t)), .int a2]) u (fun u1 => ((0 : Int32), u1) = res) := by
  refine ly_entv (cc := b_Net_goBackBeforeEnd) (maxL := 6) (ret := none) (by decide) rfl (fun ad => Nat.le_of_ble_eq_true rfl) ?_
  intro p e s m below meth c D ad cA A ls fx hr hlocks hk hA hz hw hl
  have hl : lv_has ls 6 [(0, .ref (ad 1)), (1, .ref (ad (9 + 6 * t))), (2, .int a2)] := hl
  have hx := fx.1
  have hb := fx.2.1
  unfold sp_Net_goBackBeforeEnd at h
  refine lv_aload_n hx hb d_Net_goBackBeforeEnd_0 rfl (lv_at hl 1 rfl) ?_
  refine ly_get fx hk hw (9 + 6 * t) (la_T ht) rfl i_Task 6 (by decide) rfl rfl (List.mem_cons_of_mem _ a_60) d_Net_goBackBeforeEnd_1 ?_
  refine lv_aload_n hx hb d_Net_goBackBeforeEnd_4 rfl (lv_at hl 1 rfl) ?_
  refine ly_get fx hk hw (9 + 6 * t) (la_T ht) rfl i_Task 0 (by decide) rfl rfl (List.mem_cons_of_mem _ a_46) d_Net_goBackBeforeEnd_5 ?_
  refine lv_ior hx hb d_Net_goBackBeforeEnd_8 ?_
  refine lv_topi (fun v3_1 ev => ?_)
  have h := nk_r ev h
  refine lv_istore_n (lv' := [(3, .int v3_1), (0, .ref (ad 1)), (1, .ref (ad (9 + 6 * t))), (2, .int a2)]) hx hb d_Net_goBackBeforeEnd_9 rfl hl (by decide) rfl (fun ls hl => ?_)
  refine lv_iconst (v := 0) hx hb d_Net_goBackBeforeEnd_10 (by decide) ?_
  refine lv_istore (lv' := [(4, .int (0 : Int32)), (3, .int v3_1), (0, .ref (ad 1)), (1, .ref (ad (9 + 6 * t))), (2, .int a2)]) hx hb d_Net_goBackBeforeEnd_11 hl (by decide) rfl (fun ls hl => ?_)
  refine wl_Net_goBackBeforeEnd_13 fx hr hlocks hk hA hz F t a2 v3_1 ht (fun v4_7 u8 H locs ls h hl hw => ?_) _ (0 : Int32) u _ _ _ h (lv_sub hl [2, 3, 4, 1, 0] rfl) hw
  exact ly_retv fx hr hlocks hk hw (Option.some.inj h) d_Net_goBackBeforeEnd_65
set_option maxRecDepth 100000 in
set_option maxHeartbeats 4000000 in
theorem wl_Net_goBackBeforeBegin_18 {p : Program} {l : Launch} {e : Env} {s : State} {m : MethodId} {args : Array Value} {below : List Frame} {meth : Method} {c : Code} {D : va_G} {ad : Nat → Nat} {cA : Nat → ClassId} {A : Nat → Prop} (fx : CallFix p m c b_Net_goBackBeforeBegin 5 s args w_Net_goBackBeforeBegin y_Net_goBackBeforeBegin.cls) (hr : meth.sig.returnType = none) (hlocks : meth.locks = false) (hk : ly_K D clA layC cA s) (hA : ∀ q, s.heap.size ≤ q → A q) (hz : ZsC A s s.heap) (F : Nat) (t1 : Nat) (v2 : Int32) (v3 : Int32) (ht1 : t1 < 6) {k18 : Int32 → St → Option (Int32 × St)} {res : Int32 × St}
    (hX18 : ∀ (v4 : Int32) (u : St) (H : Heap) (locs : List Loc) (ls : Array Slot), k18 v4 u = some res → lv_has ls 5 [(0, .ref (ad 1)), (1, .ref (ad (9 + 6 * t1))), (2, .int v2), (3, .int v3), (4, .int v4)] → ly_G D clA layC ad cA A s.heap u H locs → W p l e { frames := 2, cells := 0, slots := 0, locals := 46 } s m args below meth c H locs 0 0 (MQ below (va_Qv (fun u1 => ((0 : Int32), u1) = res) (ly_B D clA layC ad cA A) A) args s 0 0 A) (F0 m 58 ls [])) :
    ∀ (n : Nat) (v4 : Int32) (u : St) (H : Heap) (locs : List Loc) (ls : Array Slot), lp_Net_goBackBeforeBegin_18 F t1 v2 v3 k18 n v4 u = some res → lv_has ls 5 [(0, .ref (ad 1)), (1, .ref (ad (9 + 6 * t1))), (2, .int v2), (3, .int v3), (4, .int v4)] → ly_G D clA layC ad cA A s.heap u H locs → W p l e { frames := 2, cells := 0, slots := 0, locals := 46 } s m args below meth c H locs 0 0 (MQ below (va_Qv (fun u1 => ((0 : Int32), u1) = res) (ly_B D clA layC ad cA A) A) args s 0 0 A) (F0 m 18 ls []) := by
  have hx := fx.1
  have hb := fx.2.1
  intro n
  induction n with
  | zero => intro v4 u H locs ls h; exact nomatch h
  | succ n ih =>
    intro v4 u H locs ls h hl hw
    rw [lp_Net_goBackBeforeBegin_18] at h
    refine lv_iload hx hb d_Net_goBackBeforeBegin_18 (lv_at hl 4 rfl) ?_
    refine lv_aload_n hx hb d_Net_goBackBeforeBegin_20 rfl (lv_at hl 1 rfl) ?_
    refine ly_get fx hk hw (9 + 6 * t1) (la_T ht1) rfl i_Task 14 (by decide) rfl rfl (List.mem_cons_of_mem _ a_75) d_Net_goBackBeforeBegin_21 ?_
    refine lv_icmp_ge (tgt := 58) hx hb d_Net_goBackBeforeBegin_24 (by decide) (fun hc => ?_) (fun hc => ?_)
    · have h := it_t hc h
      exact hX18 v4 u _ _ _ h (lv_sub hl [0, 1, 2, 3, 4] rfl) hw
    · have h := it_f hc h
      refine lv_iload_n hx hb d_Net_goBackBeforeBegin_27 rfl (lv_at hl 3 rfl) ?_
      refine lv_aload_n hx hb d_Net_goBackBeforeBegin_28 rfl (lv_at hl 1 rfl) ?_
      refine ly_getr fx hk hw (9 + 6 * t1) (la_T ht1) rfl i_Task 12 (by decide) rfl rfl (List.mem_cons_of_mem _ a_71) d_Net_goBackBeforeBegin_29 ?_
      refine lv_iload hx hb d_Net_goBackBeforeBegin_32 (lv_at hl 4 rfl) ?_
      obtain ⟨hi2, h⟩ := it_in h
      refine ly_iald fx hk hw (9 + 6 * t1 + 1) (la_T1 ht1) hi2 d_Net_goBackBeforeBegin_34 ?_
      refine lv_iand hx hb d_Net_goBackBeforeBegin_35 ?_
      refine lv_if_ne (tgt := 52) hx hb d_Net_goBackBeforeBegin_36 (by decide) (fun hc => ?_) (fun hc => ?_)
      · have h := it_f hc h
        refine lv_iinc (lv' := [(4, .int (v4 + (1 : Int32))), (0, .ref (ad 1)), (1, .ref (ad (9 + 6 * t1))), (2, .int v2), (3, .int v3)]) (k := 4) hx hb d_Net_goBackBeforeBegin_52 hl rfl (oi_p1 _) (by decide) rfl (fun ls hl => ?_)
        refine lv_goto (tgt := 18) hx hb d_Net_goBackBeforeBegin_55 (by decide) ?_
        exact ih (v4 + (1 : Int32)) u _ _ _ h (lv_sub hl [1, 2, 3, 4, 0] rfl) hw
      · have h := it_t hc h
        refine lv_aload_n hx hb d_Net_goBackBeforeBegin_39 rfl (lv_at hl 0 rfl) ?_
        refine lv_iload_n hx hb d_Net_goBackBeforeBegin_40 rfl (lv_at hl 3 rfl) ?_
        refine lv_aload_n hx hb d_Net_goBackBeforeBegin_41 rfl (lv_at hl 1 rfl) ?_
        refine ly_getr fx hk hw (9 + 6 * t1) (la_T ht1) rfl i_Task 12 (by decide) rfl rfl (List.mem_cons_of_mem _ a_71) d_Net_goBackBeforeBegin_42 ?_
        refine lv_iload hx hb d_Net_goBackBeforeBegin_45 (lv_at hl 4 rfl) ?_
        obtain ⟨hi3, h⟩ := it_in h
        refine ly_iald fx hk hw (9 + 6 * t1 + 1) (la_T1 ht1) hi3 d_Net_goBackBeforeBegin_47 ?_
        refine lv_ior hx hb d_Net_goBackBeforeBegin_48 ?_
        obtain ⟨r4, u5, hq6, h⟩ := ck_r h
        refine ly_callVv (As := [.int (v3 ||| (u.1 (9 + 6 * t1 + 1) v4.toNatClampNeg))]) (rest := []) ZsC_ok fx hk hz hA hw (c_Net_addNeed l F (v3 ||| (u.1 (9 + 6 * t1 + 1) v4.toNatClampNeg)) u _ hq6) (cw_V fx.2.2.2.2 a_301 a_303 as_6 a_2 ac_Net_addNeed rfl rfl rfl hd_Net_addNeed ⟨Nat.le_of_ble_eq_true rfl, Nat.le_of_ble_eq_true rfl⟩) (1) rfl rfl rfl rfl hl.1 rfl (Nat.le_of_ble_eq_true rfl) d_Net_goBackBeforeBegin_49 (Nat.zero_le _) (Nat.zero_le _) (fun u' H locs hp hw => ?_)
        cases hp
        refine lv_iinc (lv' := [(4, .int (v4 + (1 : Int32))), (0, .ref (ad 1)), (1, .ref (ad (9 + 6 * t1))), (2, .int v2), (3, .int v3)]) (k := 4) hx hb d_Net_goBackBeforeBegin_52 hl rfl (oi_p1 _) (by decide) rfl (fun ls hl => ?_)
        refine lv_goto (tgt := 18) hx hb d_Net_goBackBeforeBegin_55 (by decide) ?_
        exact ih (v4 + (1 : Int32)) u5 _ _ _ h (lv_sub hl [1, 2, 3, 4, 0] rfl) hw
set_option maxRecDepth 100000 in
set_option maxHeartbeats 4000000 in
theorem c_Net_goBackBeforeBegin (l : Launch) (F : Nat) (t : Nat) (a2 : Int32) (ht : t < 6) (u : St) (res : Int32 × St) (h : sp_Net_goBackBeforeBegin F t a2 u = some res) : ly_Mv ZsC clA layC l y_Net_goBackBeforeBegin w_Net_goBackBeforeBegin { frames := 2, cells := 0, slots := 0, locals := 46 } (fun ad => [.ref (ad 1), .ref (ad (9 + 6 * t)), .int a2]) u (fun u1 => ((0 : Int32), u1) = res) := by
  refine ly_entv (cc := b_Net_goBackBeforeBegin) (maxL := 5) (ret := none) (by decide) rfl (fun ad => Nat.le_of_ble_eq_true rfl) ?_
  intro p e s m below meth c D ad cA A ls fx hr hlocks hk hA hz hw hl
  have hl : lv_has ls 5 [(0, .ref (ad 1)), (1, .ref (ad (9 + 6 * t))), (2, .int a2)] := hl
  have hx := fx.1
  have hb := fx.2.1
  unfold sp_Net_goBackBeforeBegin at h
  refine lv_iload_n hx hb d_Net_goBackBeforeBegin_0 rfl (lv_at hl 2 rfl) ?_
  refine lv_aload_n hx hb d_Net_goBackBeforeBegin_1 rfl (lv_at hl 1 rfl) ?_
  refine ly_get fx hk hw (9 + 6 * t) (la_T ht) rfl i_Task 0 (by decide) rfl rfl (List.mem_cons_of_mem _ a_46) d_Net_goBackBeforeBegin_2 ?_
  refine lv_iconst (v := -1) hx hb d_Net_goBackBeforeBegin_5 (by decide) ?_
  refine lv_ixor hx hb d_Net_goBackBeforeBegin_6 ?_
  refine lv_iand hx hb d_Net_goBackBeforeBegin_7 ?_
  refine lv_topi (fun v3_1 ev => ?_)
  have h := nk_r ev h
  refine lv_istore_n (lv' := [(3, .int v3_1), (0, .ref (ad 1)), (1, .ref (ad (9 + 6 * t))), (2, .int a2)]) hx hb d_Net_goBackBeforeBegin_8 rfl hl (by decide) rfl (fun ls hl => ?_)
  refine lv_iload_n hx hb d_Net_goBackBeforeBegin_9 rfl (lv_at hl 0 rfl) ?_
  refine lv_iload_n hx hb d_Net_goBackBeforeBegin_10 rfl (lv_at hl 3 rfl) ?_
  refine lv_icmp_ne (tgt := 15) hx hb d_Net_goBackBeforeBegin_11 (by decide) (fun hc => ?_) (fun hc => ?_)
  · have h := it_f hc h
    refine lv_iconst (v := 0) hx hb d_Net_goBackBeforeBegin_15 (by decide) ?_
    refine lv_istore (lv' := [(4, .int (0 : Int32)), (3, .int v3_1), (0, .ref (ad 1)), (1, .ref (ad (9 + 6 * t))), (2, .int a2)]) hx hb d_Net_goBackBeforeBegin_16 hl (by decide) rfl (fun ls hl => ?_)
    refine wl_Net_goBackBeforeBegin_18 fx hr hlocks hk hA hz F t a2 v3_1 ht (fun v4_7 u8 H locs ls h hl hw => ?_) _ (0 : Int32) u _ _ _ h (lv_sub hl [2, 3, 4, 1, 0] rfl) hw
    exact ly_retv fx hr hlocks hk hw (Option.some.inj h) d_Net_goBackBeforeBegin_58
  · have h := it_t hc h
    exact ly_retv fx hr hlocks hk hw (Option.some.inj h) d_Net_goBackBeforeBegin_14
set_option maxRecDepth 100000 in
set_option maxHeartbeats 4000000 in
theorem wl_Net_findCovering_60 {p : Program} {l : Launch} {e : Env} {s : State} {m : MethodId} {args : Array Value} {below : List Frame} {meth : Method} {c : Code} {D : va_G} {ad : Nat → Nat} {cA : Nat → ClassId} {A : Nat → Prop} (fx : CallFix p m c b_Net_findCovering 7 s args w_Net_findCovering y_Net_findCovering.cls) (hr : meth.sig.returnType = (some .boolean)) (hlocks : meth.locks = false) (hk : ly_K D clA layC cA s) (hA : ∀ q, s.heap.size ≤ q → A q) (hz : ZsC A s s.heap) (F : Nat) (v1 : Int32) (v2 : Int32) (v3 : Int32) (v4 : Int32) (v5 : Int32) {k60 : Int32 → St → Option (Int32 × St)} {res : Int32 × St}
    (hX60 : ∀ (v6 : Int32) (u : St) (H : Heap) (locs : List Loc) (ls : Array Slot), k60 v6 u = some res → lv_has ls 7 [(0, .ref (ad 1)), (1, .int v1), (2, .int v2), (3, .int v3), (4, .int v4), (5, .int v5), (6, .int v6)] → ly_G D clA layC ad cA A s.heap u H locs → W p l e { frames := 3, cells := 0, slots := 0, locals := 71 } s m args below meth c H locs 0 0 (MQ below (va_Qi (fun r1 u1 => (r1, u1) = res) (ly_B D clA layC ad cA A) A) args s 0 0 A) (F0 m 118 ls [])) :
    ∀ (n : Nat) (v6 : Int32) (u : St) (H : Heap) (locs : List Loc) (ls : Array Slot), lp_Net_findCovering_60 F v1 v2 v3 v4 v5 k60 n v6 u = some res → lv_has ls 7 [(0, .ref (ad 1)), (1, .int v1), (2, .int v2), (3, .int v3), (4, .int v4), (5, .int v5), (6, .int v6)] → ly_G D clA layC ad cA A s.heap u H locs → W p l e { frames := 3, cells := 0, slots := 0, locals := 71 } s m args below meth c H locs 0 0 (MQ below (va_Qi (fun r1 u1 => (r1, u1) = res) (ly_B D clA layC ad cA A) A) args s 0 0 A) (F0 m 60 ls []) := by
  have hx := fx.1
  have hb := fx.2.1
  intro n
  induction n with
  | zero => intro v6 u H locs ls h; exact nomatch h
  | succ n ih =>
    intro v6 u H locs ls h hl hw
    rw [lp_Net_findCovering_60] at h
    refine lv_iload hx hb d_Net_findCovering_60 (lv_at hl 6 rfl) ?_
    refine lv_bipush (v := 6) hx hb d_Net_findCovering_62 (by decide) ?_
    refine lv_icmp_ge (tgt := 118) hx hb d_Net_findCovering_64 (by decide) (fun hc => ?_) (fun hc => ?_)
    · have h := it_t hc h
      exact hX60 v6 u _ _ _ h (lv_sub hl [0, 1, 2, 3, 4, 5, 6] rfl) hw
    · have h := it_f hc h
      refine lv_iload hx hb d_Net_findCovering_67 (lv_at hl 6 rfl) ?_
      refine lv_iload_n hx hb d_Net_findCovering_69 rfl (lv_at hl 3 rfl) ?_
      refine lv_icmp_eq (tgt := 112) hx hb d_Net_findCovering_70 (by decide) (fun hc => ?_) (fun hc => ?_)
      · have h := it_t hc h
        refine lv_iinc (lv' := [(6, .int (v6 + (1 : Int32))), (0, .ref (ad 1)), (1, .int v1), (2, .int v2), (3, .int v3), (4, .int v4), (5, .int v5)]) (k := 6) hx hb d_Net_findCovering_112 hl rfl (oi_p1 _) (by decide) rfl (fun ls hl => ?_)
        refine lv_goto (tgt := 60) hx hb d_Net_findCovering_115 (by decide) ?_
        exact ih (v6 + (1 : Int32)) u _ _ _ h (lv_sub hl [1, 2, 3, 4, 5, 6, 0] rfl) hw
      · have h := it_f hc h
        refine lv_aload_n hx hb d_Net_findCovering_73 rfl (lv_at hl 0 rfl) ?_
        refine ly_getr fx hk hw (1) rfl rfl i_Net 0 (by decide) rfl rfl (List.mem_cons_of_mem _ a_121) d_Net_findCovering_74 ?_
        refine lv_iload hx hb d_Net_findCovering_77 (lv_at hl 6 rfl) ?_
        obtain ⟨hi16, h⟩ := it_in h
        have ht17 := vt_lt hi16
        refine ly_aald fx hk hw (2) rfl hi16 (q1 := 9 + 6 * v6.toNatClampNeg) rfl d_Net_findCovering_79 ?_
        refine ly_get fx hk hw (9 + 6 * v6.toNatClampNeg) (la_T ht17) rfl i_Task 1 (by decide) rfl rfl (List.mem_cons_of_mem _ a_49) d_Net_findCovering_80 ?_
        refine lv_if_eq (tgt := 112) hx hb d_Net_findCovering_83 (by decide) (fun hc => ?_) (fun hc => ?_)
        · have h := it_t hc h
          refine lv_iinc (lv' := [(6, .int (v6 + (1 : Int32))), (0, .ref (ad 1)), (1, .int v1), (2, .int v2), (3, .int v3), (4, .int v4), (5, .int v5)]) (k := 6) hx hb d_Net_findCovering_112 hl rfl (oi_p1 _) (by decide) rfl (fun ls hl => ?_)
          refine lv_goto (tgt := 60) hx hb d_Net_findCovering_115 (by decide) ?_
          exact ih (v6 + (1 : Int32)) u _ _ _ h (lv_sub hl [1, 2, 3, 4, 5, 6, 0] rfl) hw
        · have h := it_f hc h
          refine lv_aload_n hx hb d_Net_findCovering_86 rfl (lv_at hl 0 rfl) ?_
          refine lv_aload_n hx hb d_Net_findCovering_87 rfl (lv_at hl 0 rfl) ?_
          refine ly_getr fx hk hw (1) rfl rfl i_Net 0 (by decide) rfl rfl (List.mem_cons_of_mem _ a_121) d_Net_findCovering_88 ?_
          refine lv_iload hx hb d_Net_findCovering_91 (lv_at hl 6 rfl) ?_
          obtain ⟨hi18, h⟩ := it_in h
          have ht19 := vt_lt hi18
          refine ly_aald fx hk hw (2) rfl hi18 (q1 := 9 + 6 * v6.toNatClampNeg) rfl d_Net_findCovering_93 ?_
          refine lv_iload hx hb d_Net_findCovering_94 (lv_at hl 5 rfl) ?_
          obtain ⟨r20, u21, hq22, h⟩ := ck_r h
          refine ly_callVv (As := [.ref (ad (9 + 6 * v6.toNatClampNeg)), .int v5]) (rest := []) ZsC_ok fx hk hz hA hw (c_Net_goBackBeforeEnd l F v6.toNatClampNeg v5 ht19 u _ hq22) (cw_V fx.2.2.2.2 a_330 a_332 as_7 a_2 ac_Net_goBackBeforeEnd rfl rfl rfl hd_Net_goBackBeforeEnd ⟨Nat.le_of_ble_eq_true rfl, Nat.le_of_ble_eq_true rfl⟩) (1) rfl rfl rfl rfl hl.1 rfl (Nat.le_of_ble_eq_true rfl) d_Net_findCovering_96 (Nat.zero_le _) (Nat.zero_le _) (fun u' H locs hp hw => ?_)
          cases hp
          refine lv_aload_n hx hb d_Net_findCovering_99 rfl (lv_at hl 0 rfl) ?_
          refine lv_aload_n hx hb d_Net_findCovering_100 rfl (lv_at hl 0 rfl) ?_
          refine ly_getr fx hk hw (1) rfl rfl i_Net 0 (by decide) rfl rfl (List.mem_cons_of_mem _ a_121) d_Net_findCovering_101 ?_
          refine lv_iload hx hb d_Net_findCovering_104 (lv_at hl 6 rfl) ?_
          obtain ⟨hi23, h⟩ := it_in h
          have ht24 := vt_lt hi23
          refine ly_aald fx hk hw (2) rfl hi23 (q1 := 9 + 6 * v6.toNatClampNeg) rfl d_Net_findCovering_106 ?_
          refine lv_iload hx hb d_Net_findCovering_107 (lv_at hl 5 rfl) ?_
          obtain ⟨r25, u26, hq27, h⟩ := ck_r h
          refine ly_callVv (As := [.ref (ad (9 + 6 * v6.toNatClampNeg)), .int v5]) (rest := []) ZsC_ok fx hk hz hA hw (c_Net_goBackBeforeBegin l F v6.toNatClampNeg v5 ht24 u21 _ hq27) (cw_V fx.2.2.2.2 a_334 a_336 as_8 a_2 ac_Net_goBackBeforeBegin rfl rfl rfl hd_Net_goBackBeforeBegin ⟨Nat.le_of_ble_eq_true rfl, Nat.le_of_ble_eq_true rfl⟩) (1) rfl rfl rfl rfl hl.1 rfl (Nat.le_of_ble_eq_true rfl) d_Net_findCovering_109 (Nat.zero_le _) (Nat.zero_le _) (fun u' H locs hp hw => ?_)
          cases hp
          refine lv_iinc (lv' := [(6, .int (v6 + (1 : Int32))), (0, .ref (ad 1)), (1, .int v1), (2, .int v2), (3, .int v3), (4, .int v4), (5, .int v5)]) (k := 6) hx hb d_Net_findCovering_112 hl rfl (oi_p1 _) (by decide) rfl (fun ls hl => ?_)
          refine lv_goto (tgt := 60) hx hb d_Net_findCovering_115 (by decide) ?_
          exact ih (v6 + (1 : Int32)) u26 _ _ _ h (lv_sub hl [1, 2, 3, 4, 5, 6, 0] rfl) hw
set_option maxRecDepth 100000 in
set_option maxHeartbeats 4000000 in
theorem wl_Net_findCovering_24 {p : Program} {l : Launch} {e : Env} {s : State} {m : MethodId} {args : Array Value} {below : List Frame} {meth : Method} {c : Code} {D : va_G} {ad : Nat → Nat} {cA : Nat → ClassId} {A : Nat → Prop} (fx : CallFix p m c b_Net_findCovering 7 s args w_Net_findCovering y_Net_findCovering.cls) (hr : meth.sig.returnType = (some .boolean)) (hlocks : meth.locks = false) (hk : ly_K D clA layC cA s) (hA : ∀ q, s.heap.size ≤ q → A q) (hz : ZsC A s s.heap) (F : Nat) (v1 : Int32) (v2 : Int32) (v3 : Int32) {k24 : Int32 → St → Option (Int32 × St)} {res : Int32 × St}
    (hX24 : ∀ (v4 : Int32) (u : St) (H : Heap) (locs : List Loc) (ls : Array Slot), k24 v4 u = some res → lv_has ls 7 [(0, .ref (ad 1)), (1, .int v1), (2, .int v2), (3, .int v3), (4, .int v4)] → ly_G D clA layC ad cA A s.heap u H locs → W p l e { frames := 3, cells := 0, slots := 0, locals := 71 } s m args below meth c H locs 0 0 (MQ below (va_Qi (fun r1 u1 => (r1, u1) = res) (ly_B D clA layC ad cA A) A) args s 0 0 A) (F0 m 124 ls [])) :
    ∀ (n : Nat) (v4 : Int32) (u : St) (H : Heap) (locs : List Loc) (ls : Array Slot), lp_Net_findCovering_24 F v1 v2 v3 k24 n v4 u = some res → lv_has ls 7 [(0, .ref (ad 1)), (1, .int v1), (2, .int v2), (3, .int v3), (4, .int v4)] → ly_G D clA layC ad cA A s.heap u H locs → W p l e { frames := 3, cells := 0, slots := 0, locals := 71 } s m args below meth c H locs 0 0 (MQ below (va_Qi (fun r1 u1 => (r1, u1) = res) (ly_B D clA layC ad cA A) A) args s 0 0 A) (F0 m 24 ls []) := by
  have hx := fx.1
  have hb := fx.2.1
  intro n
  induction n with
  | zero => intro v4 u H locs ls h; exact nomatch h
  | succ n ih =>
    intro v4 u H locs ls h hl hw
    rw [lp_Net_findCovering_24] at h
    refine lv_iload hx hb d_Net_findCovering_24 (lv_at hl 4 rfl) ?_
    refine lv_if_le (tgt := 124) hx hb d_Net_findCovering_26 (by decide) (fun hc => ?_) (fun hc => ?_)
    · have h := it_t hc h
      exact hX24 v4 u _ _ _ h (lv_sub hl [0, 1, 2, 3, 4] rfl) hw
    · have h := it_f hc h
      refine lv_aload_n hx hb d_Net_findCovering_29 rfl (lv_at hl 0 rfl) ?_
      refine ly_getr fx hk hw (1) rfl rfl i_Net 3 (by decide) rfl rfl (List.mem_cons_of_mem _ a_125) d_Net_findCovering_30 ?_
      refine lv_iload_n hx hb d_Net_findCovering_33 rfl (lv_at hl 2 rfl) ?_
      obtain ⟨r10, u11, hq12, h⟩ := ck_r h
      refine ly_callVi (As := [.int v2]) (rest := []) ZsC_ok fx hk hz hA hw (c_MS_has l 7 v2 (Or.inr (Or.inr rfl)) u _ hq12) (cw_V fx.2.2.2.2 a_305 a_306 a_307 a_3 ac_MS_has rfl rfl rfl hd_MS_has ⟨Nat.le_of_ble_eq_true rfl, Nat.le_of_ble_eq_true rfl⟩) (7) rfl rfl rfl rfl hl.1 rfl (Nat.le_of_ble_eq_true rfl) d_Net_findCovering_34 (Nat.zero_le _) (Nat.zero_le _) (fun r' u' H locs hp hw => ?_)
      cases hp
      refine lv_if_ne (tgt := 124) hx hb d_Net_findCovering_37 (by decide) (fun hc => ?_) (fun hc => ?_)
      · have h := it_f hc h
        exact hX24 v4 u11 _ _ _ h (lv_sub hl [0, 1, 2, 3, 4] rfl) hw
      · have h := it_t hc h
        refine lv_aload_n hx hb d_Net_findCovering_40 rfl (lv_at hl 0 rfl) ?_
        refine ly_getr fx hk hw (1) rfl rfl i_Net 1 (by decide) rfl rfl (List.mem_cons_of_mem _ a_123) d_Net_findCovering_41 ?_
        obtain ⟨r13, u14, hq15, h⟩ := ck_r h
        refine ly_callVi (As := []) (rest := []) ZsC_ok fx hk hz hA hw (c_MS_draw l F 3 (Or.inl rfl) u11 _ hq15) (cw_V fx.2.2.2.2 a_320 a_321 a_322 a_3 ac_MS_draw rfl rfl rfl hd_MS_draw ⟨Nat.le_of_ble_eq_true rfl, Nat.le_of_ble_eq_true rfl⟩) (3) rfl rfl rfl rfl hl.1 rfl (Nat.le_of_ble_eq_true rfl) d_Net_findCovering_44 (Nat.zero_le _) (Nat.zero_le _) (fun r' u' H locs hp hw => ?_)
        cases hp
        refine lv_istore (lv' := [(5, .int r13), (0, .ref (ad 1)), (1, .int v1), (2, .int v2), (3, .int v3), (4, .int v4)]) hx hb d_Net_findCovering_47 hl (by decide) rfl (fun ls hl => ?_)
        refine lv_iload hx hb d_Net_findCovering_49 (lv_at hl 0 rfl) ?_
        refine lv_iconst (v := -1) hx hb d_Net_findCovering_51 (by decide) ?_
        refine lv_icmp_ne (tgt := 57) hx hb d_Net_findCovering_52 (by decide) (fun hc => ?_) (fun hc => ?_)
        · have h := it_f hc h
          refine lv_iconst (v := 0) hx hb d_Net_findCovering_57 (by decide) ?_
          refine lv_istore (lv' := [(6, .int (0 : Int32)), (5, .int r13), (0, .ref (ad 1)), (1, .int v1), (2, .int v2), (3, .int v3), (4, .int v4)]) hx hb d_Net_findCovering_58 hl (by decide) rfl (fun ls hl => ?_)
          refine wl_Net_findCovering_60 fx hr hlocks hk hA hz F v1 v2 v3 v4 r13 (fun v6_28 u29 H locs ls h hl hw => ?_) _ (0 : Int32) u14 _ _ _ h (lv_sub hl [2, 3, 4, 5, 6, 1, 0] rfl) hw
          refine lv_iinc (lv' := [(4, .int (v4 + (-1 : Int32))), (0, .ref (ad 1)), (1, .int v1), (2, .int v2), (3, .int v3), (5, .int r13), (6, .int v6_28)]) (k := 4) hx hb d_Net_findCovering_118 hl rfl (oi_m1 _) (by decide) rfl (fun ls hl => ?_)
          refine lv_goto (tgt := 24) hx hb d_Net_findCovering_121 (by decide) ?_
          exact ih (v4 + (-1 : Int32)) u29 _ _ _ h (lv_sub hl [1, 2, 3, 4, 0] rfl) hw
        · have h := it_t hc h
          refine lv_iconst (v := 0) hx hb d_Net_findCovering_55 (by decide) ?_
          exact ly_retz fx hr hlocks hk hw (Or.inl rfl) (Option.some.inj h) d_Net_findCovering_56
set_option maxRecDepth 100000 in
set_option maxHeartbeats 4000000 in
theorem c_Net_findCovering (l : Launch) (F : Nat) (a1 : Int32) (a2 : Int32) (a3 : Int32) (u : St) (res : Int32 × St) (h : sp_Net_findCovering F a1 a2 a3 u = some res) : ly_Mi ZsC clA layC l y_Net_findCovering w_Net_findCovering { frames := 3, cells := 0, slots := 0, locals := 71 } (fun ad => [.ref (ad 1), .int a1, .int a2, .int a3]) u (fun r1 u1 => (r1, u1) = res) := by
  refine ly_enti (cc := b_Net_findCovering) (maxL := 7) (ret := (some .boolean)) (by decide) rfl (fun ad => Nat.le_of_ble_eq_true rfl) ?_
  intro p e s m below meth c D ad cA A ls fx hr hlocks hk hA hz hw hl
  have hl : lv_has ls 7 [(0, .ref (ad 1)), (1, .int a1), (2, .int a2), (3, .int a3)] := hl
  have hx := fx.1
  have hb := fx.2.1
  unfold sp_Net_findCovering at h
  refine lv_aload_n hx hb d_Net_findCovering_0 rfl (lv_at hl 0 rfl) ?_
  refine ly_getr fx hk hw (1) rfl rfl i_Net 3 (by decide) rfl rfl (List.mem_cons_of_mem _ a_125) d_Net_findCovering_1 ?_
  obtain ⟨r1, u2, hq3, h⟩ := ck_r h
  refine ly_callVv (As := []) (rest := []) ZsC_ok fx hk hz hA hw (c_MS_clear l F 7 (Or.inr (Or.inr rfl)) u _ hq3) (cw_V fx.2.2.2.2 a_294 a_295 a_296 a_3 ac_MS_clear rfl rfl rfl hd_MS_clear ⟨Nat.le_of_ble_eq_true rfl, Nat.le_of_ble_eq_true rfl⟩) (7) rfl rfl rfl rfl hl.1 rfl (Nat.le_of_ble_eq_true rfl) d_Net_findCovering_4 (Nat.zero_le _) (Nat.zero_le _) (fun u' H locs hp hw => ?_)
  cases hp
  refine lv_aload_n hx hb d_Net_findCovering_7 rfl (lv_at hl 0 rfl) ?_
  refine ly_getr fx hk hw (1) rfl rfl i_Net 1 (by decide) rfl rfl (List.mem_cons_of_mem _ a_123) d_Net_findCovering_8 ?_
  obtain ⟨r4, u5, hq6, h⟩ := ck_r h
  refine ly_callVv (As := []) (rest := []) ZsC_ok fx hk hz hA hw (c_MS_clear l F 3 (Or.inl rfl) u2 _ hq6) (cw_V fx.2.2.2.2 a_294 a_295 a_296 a_3 ac_MS_clear rfl rfl rfl hd_MS_clear ⟨Nat.le_of_ble_eq_true rfl, Nat.le_of_ble_eq_true rfl⟩) (3) rfl rfl rfl rfl hl.1 rfl (Nat.le_of_ble_eq_true rfl) d_Net_findCovering_11 (Nat.zero_le _) (Nat.zero_le _) (fun u' H locs hp hw => ?_)
  cases hp
  refine lv_aload_n hx hb d_Net_findCovering_14 rfl (lv_at hl 0 rfl) ?_
  refine lv_iload_n hx hb d_Net_findCovering_15 rfl (lv_at hl 1 rfl) ?_
  obtain ⟨r7, u8, hq9, h⟩ := ck_r h
  refine ly_callVv (As := [.int a1]) (rest := []) ZsC_ok fx hk hz hA hw (c_Net_addNeed l F a1 u5 _ hq9) (cw_V fx.2.2.2.2 a_301 a_303 as_6 a_2 ac_Net_addNeed rfl rfl rfl hd_Net_addNeed ⟨Nat.le_of_ble_eq_true rfl, Nat.le_of_ble_eq_true rfl⟩) (1) rfl rfl rfl rfl hl.1 rfl (Nat.le_of_ble_eq_true rfl) d_Net_findCovering_16 (Nat.zero_le _) (Nat.zero_le _) (fun u' H locs hp hw => ?_)
  cases hp
  refine lv_sipush (v := 16384) hx hb d_Net_findCovering_19 (by decide) ?_
  refine lv_istore (lv' := [(4, .int (16384 : Int32)), (0, .ref (ad 1)), (1, .int a1), (2, .int a2), (3, .int a3)]) hx hb d_Net_findCovering_22 hl (by decide) rfl (fun ls hl => ?_)
  refine wl_Net_findCovering_24 fx hr hlocks hk hA hz F a1 a2 a3 (fun v4_30 u31 H locs ls h hl hw => ?_) _ (16384 : Int32) u8 _ _ _ h (lv_sub hl [1, 2, 3, 4, 0] rfl) hw
  refine lv_aload_n hx hb d_Net_findCovering_124 rfl (lv_at hl 0 rfl) ?_
  refine ly_getr fx hk hw (1) rfl rfl i_Net 3 (by decide) rfl rfl (List.mem_cons_of_mem _ a_125) d_Net_findCovering_125 ?_
  refine lv_iload_n hx hb d_Net_findCovering_128 rfl (lv_at hl 2 rfl) ?_
  obtain ⟨r32, u33, hq34, h⟩ := ck_r h
  refine ly_callVi (As := [.int a2]) (rest := []) ZsC_ok fx hk hz hA hw (c_MS_has l 7 a2 (Or.inr (Or.inr rfl)) u31 _ hq34) (cw_V fx.2.2.2.2 a_305 a_306 a_307 a_3 ac_MS_has rfl rfl rfl hd_MS_has ⟨Nat.le_of_ble_eq_true rfl, Nat.le_of_ble_eq_true rfl⟩) (7) rfl rfl rfl rfl hl.1 rfl (Nat.le_of_ble_eq_true rfl) d_Net_findCovering_129 (Nat.zero_le _) (Nat.zero_le _) (fun r' u' H locs hp hw => ?_)
  cases hp
  obtain ⟨hn, h⟩ := it_n h
  exact ly_retz fx hr hlocks hk hw hn (Option.some.inj h) d_Net_findCovering_132
set_option maxRecDepth 100000 in
set_option maxHeartbeats 4000000 in
theorem wl_Net_hasJoinSome_2 {p : Program} {l : Launch} {e : Env} {s : State} {m : MethodId} {args : Array Value} {below : List Frame} {meth : Method} {c : Code} {D : va_G} {ad : Nat → Nat} {cA : Nat → ClassId} {A : Nat → Prop} (fx : CallFix p m c b_Net_hasJoinSome 2 s args w_Net_hasJoinSome y_Net_hasJoinSome.cls) (hr : meth.sig.returnType = (some .boolean)) (hlocks : meth.locks = false) (hk : ly_K D clA layC cA s) (hA : ∀ q, s.heap.size ≤ q → A q) (hz : ZsC A s s.heap) (F : Nat) {k2 : Int32 → St → Option (Int32 × St)} {res : Int32 × St}
    (hX2 : ∀ (v1 : Int32) (u : St) (H : Heap) (locs : List Loc) (ls : Array Slot), k2 v1 u = some res → lv_has ls 2 [(0, .ref (ad 1)), (1, .int v1)] → ly_G D clA layC ad cA A s.heap u H locs → W p l e { frames := 0, cells := 0, slots := 0, locals := 0 } s m args below meth c H locs 0 0 (MQ below (va_Qi (fun r1 u1 => (r1, u1) = res) (ly_B D clA layC ad cA A) A) args s 0 0 A) (F0 m 41 ls [])) :
    ∀ (n : Nat) (v1 : Int32) (u : St) (H : Heap) (locs : List Loc) (ls : Array Slot), lp_Net_hasJoinSome_2 F k2 n v1 u = some res → lv_has ls 2 [(0, .ref (ad 1)), (1, .int v1)] → ly_G D clA layC ad cA A s.heap u H locs → W p l e { frames := 0, cells := 0, slots := 0, locals := 0 } s m args below meth c H locs 0 0 (MQ below (va_Qi (fun r1 u1 => (r1, u1) = res) (ly_B D clA layC ad cA A) A) args s 0 0 A) (F0 m 2 ls []) := by
  have hx := fx.1
  have hb := fx.2.1
  intro n
  induction n with
  | zero => intro v1 u H locs ls h; exact nomatch h
  | succ n ih =>
    intro v1 u H locs ls h hl hw
    rw [lp_Net_hasJoinSome_2] at h
    refine lv_iload_n hx hb d_Net_hasJoinSome_2 rfl (lv_at hl 1 rfl) ?_
    refine lv_bipush (v := 6) hx hb d_Net_hasJoinSome_3 (by decide) ?_
    refine lv_icmp_ge (tgt := 41) hx hb d_Net_hasJoinSome_5 (by decide) (fun hc => ?_) (fun hc => ?_)
    · have h := it_t hc h
      exact hX2 v1 u _ _ _ h (lv_sub hl [0, 1] rfl) hw
    · have h := it_f hc h
      refine lv_aload_n hx hb d_Net_hasJoinSome_8 rfl (lv_at hl 0 rfl) ?_
      refine ly_getr fx hk hw (1) rfl rfl i_Net 0 (by decide) rfl rfl (List.mem_cons_of_mem _ a_121) d_Net_hasJoinSome_9 ?_
      refine lv_iload_n hx hb d_Net_hasJoinSome_12 rfl (lv_at hl 1 rfl) ?_
      obtain ⟨hi1, h⟩ := it_in h
      have ht2 := vt_lt hi1
      refine ly_aald fx hk hw (2) rfl hi1 (q1 := 9 + 6 * v1.toNatClampNeg) rfl d_Net_hasJoinSome_13 ?_
      refine ly_get fx hk hw (9 + 6 * v1.toNatClampNeg) (la_T ht2) rfl i_Task 1 (by decide) rfl rfl (List.mem_cons_of_mem _ a_49) d_Net_hasJoinSome_14 ?_
      refine lv_if_eq (tgt := 35) hx hb d_Net_hasJoinSome_17 (by decide) (fun hc => ?_) (fun hc => ?_)
      · have h := it_t hc h
        refine lv_iinc (lv' := [(1, .int (v1 + (1 : Int32))), (0, .ref (ad 1))]) (k := 1) hx hb d_Net_hasJoinSome_35 hl rfl (oi_p1 _) (by decide) rfl (fun ls hl => ?_)
        refine lv_goto (tgt := 2) hx hb d_Net_hasJoinSome_38 (by decide) ?_
        exact ih (v1 + (1 : Int32)) u _ _ _ h (lv_sub hl [1, 0] rfl) hw
      · have h := it_f hc h
        refine lv_aload_n hx hb d_Net_hasJoinSome_20 rfl (lv_at hl 0 rfl) ?_
        refine ly_getr fx hk hw (1) rfl rfl i_Net 0 (by decide) rfl rfl (List.mem_cons_of_mem _ a_121) d_Net_hasJoinSome_21 ?_
        refine lv_iload_n hx hb d_Net_hasJoinSome_24 rfl (lv_at hl 1 rfl) ?_
        obtain ⟨hi3, h⟩ := it_in h
        have ht4 := vt_lt hi3
        refine ly_aald fx hk hw (2) rfl hi3 (q1 := 9 + 6 * v1.toNatClampNeg) rfl d_Net_hasJoinSome_25 ?_
        refine ly_get fx hk hw (9 + 6 * v1.toNatClampNeg) (la_T ht4) rfl i_Task 2 (by decide) rfl rfl (List.mem_cons_of_mem _ a_51) d_Net_hasJoinSome_26 ?_
        refine lv_iconst (v := 2) hx hb d_Net_hasJoinSome_29 (by decide) ?_
        refine lv_icmp_ne (tgt := 35) hx hb d_Net_hasJoinSome_30 (by decide) (fun hc => ?_) (fun hc => ?_)
        · have h := it_f hc h
          refine lv_iinc (lv' := [(1, .int (v1 + (1 : Int32))), (0, .ref (ad 1))]) (k := 1) hx hb d_Net_hasJoinSome_35 hl rfl (oi_p1 _) (by decide) rfl (fun ls hl => ?_)
          refine lv_goto (tgt := 2) hx hb d_Net_hasJoinSome_38 (by decide) ?_
          exact ih (v1 + (1 : Int32)) u _ _ _ h (lv_sub hl [1, 0] rfl) hw
        · have h := it_t hc h
          refine lv_iconst (v := 1) hx hb d_Net_hasJoinSome_33 (by decide) ?_
          exact ly_retz fx hr hlocks hk hw (Or.inr rfl) (Option.some.inj h) d_Net_hasJoinSome_34
set_option maxRecDepth 100000 in
set_option maxHeartbeats 4000000 in
theorem c_Net_hasJoinSome (l : Launch) (F : Nat) (u : St) (res : Int32 × St) (h : sp_Net_hasJoinSome F u = some res) : ly_Mi ZsC clA layC l y_Net_hasJoinSome w_Net_hasJoinSome { frames := 0, cells := 0, slots := 0, locals := 0 } (fun ad => [.ref (ad 1)]) u (fun r1 u1 => (r1, u1) = res) := by
  refine ly_enti (cc := b_Net_hasJoinSome) (maxL := 2) (ret := (some .boolean)) (by decide) rfl (fun ad => Nat.le_of_ble_eq_true rfl) ?_
  intro p e s m below meth c D ad cA A ls fx hr hlocks hk hA hz hw hl
  have hl : lv_has ls 2 [(0, .ref (ad 1))] := hl
  have hx := fx.1
  have hb := fx.2.1
  unfold sp_Net_hasJoinSome at h
  refine lv_iconst (v := 0) hx hb d_Net_hasJoinSome_0 (by decide) ?_
  refine lv_istore_n (lv' := [(1, .int (0 : Int32)), (0, .ref (ad 1))]) hx hb d_Net_hasJoinSome_1 rfl hl (by decide) rfl (fun ls hl => ?_)
  refine wl_Net_hasJoinSome_2 fx hr hlocks hk hA hz F (fun v1_5 u6 H locs ls h hl hw => ?_) _ (0 : Int32) u _ _ _ h (lv_sub hl [1, 0] rfl) hw
  refine lv_iconst (v := 0) hx hb d_Net_hasJoinSome_41 (by decide) ?_
  exact ly_retz fx hr hlocks hk hw (Or.inl rfl) (Option.some.inj h) d_Net_hasJoinSome_42
set_option maxRecDepth 100000 in
set_option maxHeartbeats 4000000 in
theorem c_Net_addReached (l : Launch) (a1 : Int32) (u : St) (res : Int32 × St) (h : sp_Net_addReached a1 u = some res) : ly_Mv ZsC clA layC l y_Net_addReached w_Net_addReached { frames := 1, cells := 0, slots := 0, locals := 22 } (fun ad => [.ref (ad 1), .int a1]) u (fun u1 => ((0 : Int32), u1) = res) := by
  refine ly_entv (cc := b_Net_addReached) (maxL := 2) (ret := none) (by decide) rfl (fun ad => Nat.le_of_ble_eq_true rfl) ?_
  intro p e s m below meth c D ad cA A ls fx hr hlocks hk hA hz hw hl
  have hl : lv_has ls 2 [(0, .ref (ad 1)), (1, .int a1)] := hl
  have hx := fx.1
  have hb := fx.2.1
  unfold sp_Net_addReached at h
  refine lv_aload_n hx hb d_Net_addReached_0 rfl (lv_at hl 0 rfl) ?_
  refine ly_getr fx hk hw (1) rfl rfl i_Net 2 (by decide) rfl rfl (List.mem_cons_of_mem _ a_124) d_Net_addReached_1 ?_
  refine lv_iload_n hx hb d_Net_addReached_4 rfl (lv_at hl 1 rfl) ?_
  obtain ⟨r1, u2, hq3, h⟩ := ck_r h
  refine ly_callVi (As := [.int a1]) (rest := []) ZsC_ok fx hk hz hA hw (c_MS_has l 5 a1 (Or.inr (Or.inl rfl)) u _ hq3) (cw_V fx.2.2.2.2 a_305 a_306 a_307 a_3 ac_MS_has rfl rfl rfl hd_MS_has ⟨Nat.le_of_ble_eq_true rfl, Nat.le_of_ble_eq_true rfl⟩) (5) rfl rfl rfl rfl hl.1 rfl (Nat.le_of_ble_eq_true rfl) d_Net_addReached_5 (Nat.zero_le _) (Nat.zero_le _) (fun r' u' H locs hp hw => ?_)
  cases hp
  refine lv_if_ne (tgt := 27) hx hb d_Net_addReached_8 (by decide) (fun hc => ?_) (fun hc => ?_)
  · have h := it_f hc h
    exact ly_retv fx hr hlocks hk hw (Option.some.inj h) d_Net_addReached_27
  · have h := it_t hc h
    refine lv_aload_n hx hb d_Net_addReached_11 rfl (lv_at hl 0 rfl) ?_
    refine ly_getr fx hk hw (1) rfl rfl i_Net 2 (by decide) rfl rfl (List.mem_cons_of_mem _ a_124) d_Net_addReached_12 ?_
    refine lv_iload_n hx hb d_Net_addReached_15 rfl (lv_at hl 1 rfl) ?_
    obtain ⟨r4, u5, hq6, h⟩ := ck_r h
    refine ly_callVv (As := [.int a1]) (rest := []) ZsC_ok fx hk hz hA hw (c_MS_add l 5 a1 (Or.inr (Or.inl rfl)) u2 _ hq6) (cw_V fx.2.2.2.2 a_316 a_317 a_318 a_3 ac_MS_add rfl rfl rfl hd_MS_add ⟨Nat.le_of_ble_eq_true rfl, Nat.le_of_ble_eq_true rfl⟩) (5) rfl rfl rfl rfl hl.1 rfl (Nat.le_of_ble_eq_true rfl) d_Net_addReached_16 (Nat.zero_le _) (Nat.zero_le _) (fun u' H locs hp hw => ?_)
    cases hp
    refine lv_aload_n hx hb d_Net_addReached_19 rfl (lv_at hl 0 rfl) ?_
    refine ly_getr fx hk hw (1) rfl rfl i_Net 1 (by decide) rfl rfl (List.mem_cons_of_mem _ a_123) d_Net_addReached_20 ?_
    refine lv_iload_n hx hb d_Net_addReached_23 rfl (lv_at hl 1 rfl) ?_
    obtain ⟨r7, u8, hq9, h⟩ := ck_r h
    refine ly_callVv (As := [.int a1]) (rest := []) ZsC_ok fx hk hz hA hw (c_MS_add l 3 a1 (Or.inl rfl) u5 _ hq9) (cw_V fx.2.2.2.2 a_316 a_317 a_318 a_3 ac_MS_add rfl rfl rfl hd_MS_add ⟨Nat.le_of_ble_eq_true rfl, Nat.le_of_ble_eq_true rfl⟩) (3) rfl rfl rfl rfl hl.1 rfl (Nat.le_of_ble_eq_true rfl) d_Net_addReached_24 (Nat.zero_le _) (Nat.zero_le _) (fun u' H locs hp hw => ?_)
    cases hp
    exact ly_retv fx hr hlocks hk hw (Option.some.inj h) d_Net_addReached_27
set_option maxRecDepth 100000 in
set_option maxHeartbeats 4000000 in
theorem wl_Net_goOnByBegin_10 {p : Program} {l : Launch} {e : Env} {s : State} {m : MethodId} {args : Array Value} {below : List Frame} {meth : Method} {c : Code} {D : va_G} {ad : Nat → Nat} {cA : Nat → ClassId} {A : Nat → Prop} (fx : CallFix p m c b_Net_goOnByBegin 6 s args w_Net_goOnByBegin y_Net_goOnByBegin.cls) (hr : meth.sig.returnType = none) (hlocks : meth.locks = false) (hk : ly_K D clA layC cA s) (hA : ∀ q, s.heap.size ≤ q → A q) (hz : ZsC A s s.heap) (F : Nat) (v1 : Int32) (v2 : Int32) (t3 : Nat) (ht3 : t3 < 6) {k10 : Int32 → St → Option (Int32 × St)} {res : Int32 × St}
    (hX10 : ∀ (v4 : Int32) (u : St) (H : Heap) (locs : List Loc) (ls : Array Slot), k10 v4 u = some res → lv_has ls 6 [(0, .ref (ad 1)), (1, .int v1), (2, .int v2), (3, .ref (ad (9 + 6 * t3))), (4, .int v4)] → ly_G D clA layC ad cA A s.heap u H locs → W p l e { frames := 2, cells := 0, slots := 0, locals := 43 } s m args below meth c H locs 0 0 (MQ below (va_Qv (fun u1 => ((0 : Int32), u1) = res) (ly_B D clA layC ad cA A) A) args s 0 0 A) (F0 m 70 ls [])) :
    ∀ (n : Nat) (v4 : Int32) (u : St) (H : Heap) (locs : List Loc) (ls : Array Slot), lp_Net_goOnByBegin_10 F v1 v2 t3 k10 n v4 u = some res → lv_has ls 6 [(0, .ref (ad 1)), (1, .int v1), (2, .int v2), (3, .ref (ad (9 + 6 * t3))), (4, .int v4)] → ly_G D clA layC ad cA A s.heap u H locs → W p l e { frames := 2, cells := 0, slots := 0, locals := 43 } s m args below meth c H locs 0 0 (MQ below (va_Qv (fun u1 => ((0 : Int32), u1) = res) (ly_B D clA layC ad cA A) A) args s 0 0 A) (F0 m 10 ls []) := by
  have hx := fx.1
  have hb := fx.2.1
  intro n
  induction n with
  | zero => intro v4 u H locs ls h; exact nomatch h
  | succ n ih =>
    intro v4 u H locs ls h hl hw
    rw [lp_Net_goOnByBegin_10] at h
    refine lv_iload hx hb d_Net_goOnByBegin_10 (lv_at hl 4 rfl) ?_
    refine lv_aload_n hx hb d_Net_goOnByBegin_12 rfl (lv_at hl 3 rfl) ?_
    refine ly_get fx hk hw (9 + 6 * t3) (la_T ht3) rfl i_Task 14 (by decide) rfl rfl (List.mem_cons_of_mem _ a_75) d_Net_goOnByBegin_13 ?_
    refine lv_icmp_ge (tgt := 70) hx hb d_Net_goOnByBegin_16 (by decide) (fun hc => ?_) (fun hc => ?_)
    · have h := it_t hc h
      exact hX10 v4 u _ _ _ h (lv_sub hl [0, 1, 2, 3, 4] rfl) hw
    · have h := it_f hc h
      refine lv_aload_n hx hb d_Net_goOnByBegin_19 rfl (lv_at hl 3 rfl) ?_
      refine ly_getr fx hk hw (9 + 6 * t3) (la_T ht3) rfl i_Task 12 (by decide) rfl rfl (List.mem_cons_of_mem _ a_71) d_Net_goOnByBegin_20 ?_
      refine lv_iload hx hb d_Net_goOnByBegin_23 (lv_at hl 4 rfl) ?_
      obtain ⟨hi3, h⟩ := it_in h
      refine ly_iald fx hk hw (9 + 6 * t3 + 1) (la_T1 ht3) hi3 d_Net_goOnByBegin_25 ?_
      refine lv_topi (fun v5_4 ev => ?_)
      have h := nk_r ev h
      refine lv_istore (lv' := [(5, .int v5_4), (0, .ref (ad 1)), (1, .int v1), (2, .int v2), (3, .ref (ad (9 + 6 * t3))), (4, .int v4)]) hx hb d_Net_goOnByBegin_26 hl (by decide) rfl (fun ls hl => ?_)
      refine lv_iload_n hx hb d_Net_goOnByBegin_28 rfl (lv_at hl 3 rfl) ?_
      refine lv_iload hx hb d_Net_goOnByBegin_29 (lv_at hl 0 rfl) ?_
      refine lv_iand hx hb d_Net_goOnByBegin_31 ?_
      refine lv_iload hx hb d_Net_goOnByBegin_32 (lv_at hl 0 rfl) ?_
      refine lv_icmp_ne (tgt := 64) hx hb d_Net_goOnByBegin_34 (by decide) (fun hc => ?_) (fun hc => ?_)
      · have h := it_f hc h
        refine lv_iinc (lv' := [(4, .int (v4 + (1 : Int32))), (5, .int v5_4), (0, .ref (ad 1)), (1, .int v1), (2, .int v2), (3, .ref (ad (9 + 6 * t3)))]) (k := 5) hx hb d_Net_goOnByBegin_64 hl rfl (oi_p1 _) (by decide) rfl (fun ls hl => ?_)
        refine lv_goto (tgt := 10) hx hb d_Net_goOnByBegin_67 (by decide) ?_
        exact ih (v4 + (1 : Int32)) u _ _ _ h (lv_sub hl [2, 3, 4, 5, 0] rfl) hw
      · have h := it_t hc h
        refine lv_aload_n hx hb d_Net_goOnByBegin_37 rfl (lv_at hl 1 rfl) ?_
        refine lv_dup hx hb d_Net_goOnByBegin_38 rfl ?_
        refine ly_get fx hk hw (1) rfl rfl i_Net 4 (by decide) rfl rfl (List.mem_cons_of_mem _ a_126) d_Net_goOnByBegin_39 ?_
        refine lv_iconst (v := 1) hx hb d_Net_goOnByBegin_42 (by decide) ?_
        refine lv_iload_n hx hb d_Net_goOnByBegin_43 rfl (lv_at hl 2 rfl) ?_
        refine lv_ishl hx hb d_Net_goOnByBegin_44 ?_
        refine lv_ior hx hb d_Net_goOnByBegin_45 ?_
        refine ly_put (v := ((u.1 (1) 4) ||| ((1 : Int32) <<< (v1 &&& 31)))) fx hk hw (1) rfl rfl i_Net t_Net t_Net_ok n_Net 4 (by decide) rfl rfl rfl (List.mem_cons_of_mem _ a_126) rfl rfl d_Net_goOnByBegin_46 (fun H locs hw => ?_)
        obtain ⟨u5, ev⟩ : ∃ z, z = ly_pi u (1) 4 ((u.1 (1) 4) ||| ((1 : Int32) <<< (v1 &&& 31))) := ⟨_, rfl⟩
        rw [← ev] at hw
        have h := nk_r ev h
        refine lv_aload_n hx hb d_Net_goOnByBegin_49 rfl (lv_at hl 1 rfl) ?_
        refine lv_iload_n hx hb d_Net_goOnByBegin_50 rfl (lv_at hl 3 rfl) ?_
        refine lv_iload hx hb d_Net_goOnByBegin_51 (lv_at hl 0 rfl) ?_
        refine lv_iconst (v := -1) hx hb d_Net_goOnByBegin_53 (by decide) ?_
        refine lv_ixor hx hb d_Net_goOnByBegin_54 ?_
        refine lv_iand hx hb d_Net_goOnByBegin_55 ?_
        refine lv_aload_n hx hb d_Net_goOnByBegin_56 rfl (lv_at hl 4 rfl) ?_
        refine ly_get fx hk hw (9 + 6 * t3) (la_T ht3) rfl i_Task 0 (by decide) rfl rfl (List.mem_cons_of_mem _ a_46) d_Net_goOnByBegin_57 ?_
        refine lv_ior hx hb d_Net_goOnByBegin_60 ?_
        obtain ⟨r6, u7, hq8, h⟩ := ck_r h
        refine ly_callVv (As := [.int ((v2 &&& (v5_4 ^^^ (-1 : Int32))) ||| (u5.1 (9 + 6 * t3) 0))]) (rest := []) ZsC_ok fx hk hz hA hw (c_Net_addReached l ((v2 &&& (v5_4 ^^^ (-1 : Int32))) ||| (u5.1 (9 + 6 * t3) 0)) u5 _ hq8) (cw_V fx.2.2.2.2 a_444 a_446 as_16 a_2 ac_Net_addReached rfl rfl rfl hd_Net_addReached ⟨Nat.le_of_ble_eq_true rfl, Nat.le_of_ble_eq_true rfl⟩) (1) rfl rfl rfl rfl hl.1 rfl (Nat.le_of_ble_eq_true rfl) d_Net_goOnByBegin_61 (Nat.zero_le _) (Nat.zero_le _) (fun u' H locs hp hw => ?_)
        cases hp
        refine lv_iinc (lv' := [(4, .int (v4 + (1 : Int32))), (5, .int v5_4), (0, .ref (ad 1)), (1, .int v1), (2, .int v2), (3, .ref (ad (9 + 6 * t3)))]) (k := 5) hx hb d_Net_goOnByBegin_64 hl rfl (oi_p1 _) (by decide) rfl (fun ls hl => ?_)
        refine lv_goto (tgt := 10) hx hb d_Net_goOnByBegin_67 (by decide) ?_
        exact ih (v4 + (1 : Int32)) u7 _ _ _ h (lv_sub hl [2, 3, 4, 5, 0] rfl) hw
set_option maxRecDepth 100000 in
set_option maxHeartbeats 4000000 in
theorem c_Net_goOnByBegin (l : Launch) (F : Nat) (a1 : Int32) (a2 : Int32) (u : St) (res : Int32 × St) (h : sp_Net_goOnByBegin F a1 a2 u = some res) : ly_Mv ZsC clA layC l y_Net_goOnByBegin w_Net_goOnByBegin { frames := 2, cells := 0, slots := 0, locals := 43 } (fun ad => [.ref (ad 1), .int a1, .int a2]) u (fun u1 => ((0 : Int32), u1) = res) := by
  refine ly_entv (cc := b_Net_goOnByBegin) (maxL := 6) (ret := none) (by decide) rfl (fun ad => Nat.le_of_ble_eq_true rfl) ?_
  intro p e s m below meth c D ad cA A ls fx hr hlocks hk hA hz hw hl
  have hl : lv_has ls 6 [(0, .ref (ad 1)), (1, .int a1), (2, .int a2)] := hl
  have hx := fx.1
  have hb := fx.2.1
  unfold sp_Net_goOnByBegin at h
  refine lv_aload_n hx hb d_Net_goOnByBegin_0 rfl (lv_at hl 0 rfl) ?_
  refine ly_getr fx hk hw (1) rfl rfl i_Net 0 (by decide) rfl rfl (List.mem_cons_of_mem _ a_121) d_Net_goOnByBegin_1 ?_
  refine lv_iload_n hx hb d_Net_goOnByBegin_4 rfl (lv_at hl 1 rfl) ?_
  obtain ⟨hi1, h⟩ := it_in h
  have ht2 := vt_lt hi1
  refine ly_aald fx hk hw (2) rfl hi1 (q1 := 9 + 6 * a1.toNatClampNeg) rfl d_Net_goOnByBegin_5 ?_
  refine lv_astore_n (lv' := [(3, .ref (ad (9 + 6 * a1.toNatClampNeg))), (0, .ref (ad 1)), (1, .int a1), (2, .int a2)]) hx hb d_Net_goOnByBegin_6 rfl hl (by decide) rfl (fun ls hl => ?_)
  refine lv_iconst (v := 0) hx hb d_Net_goOnByBegin_7 (by decide) ?_
  refine lv_istore (lv' := [(4, .int (0 : Int32)), (3, .ref (ad (9 + 6 * a1.toNatClampNeg))), (0, .ref (ad 1)), (1, .int a1), (2, .int a2)]) hx hb d_Net_goOnByBegin_8 hl (by decide) rfl (fun ls hl => ?_)
  refine wl_Net_goOnByBegin_10 fx hr hlocks hk hA hz F a1 a2 a1.toNatClampNeg ht2 (fun v4_9 u10 H locs ls h hl hw => ?_) _ (0 : Int32) u _ _ _ h (lv_sub hl [2, 3, 4, 1, 0] rfl) hw
  exact ly_retv fx hr hlocks hk hw (Option.some.inj h) d_Net_goOnByBegin_70
set_option maxRecDepth 100000 in
set_option maxHeartbeats 4000000 in
theorem wl_Net_goOnByEnd_27 {p : Program} {l : Launch} {e : Env} {s : State} {m : MethodId} {args : Array Value} {below : List Frame} {meth : Method} {c : Code} {D : va_G} {ad : Nat → Nat} {cA : Nat → ClassId} {A : Nat → Prop} (fx : CallFix p m c b_Net_goOnByEnd 5 s args w_Net_goOnByEnd y_Net_goOnByEnd.cls) (hr : meth.sig.returnType = none) (hlocks : meth.locks = false) (hk : ly_K D clA layC cA s) (hA : ∀ q, s.heap.size ≤ q → A q) (hz : ZsC A s s.heap) (F : Nat) (t1 : Nat) (v2 : Int32) (v3 : Int32) (ht1 : t1 < 6) {k27 : Int32 → St → Option (Int32 × St)} {res : Int32 × St}
    (hX27 : ∀ (v4 : Int32) (u : St) (H : Heap) (locs : List Loc) (ls : Array Slot), k27 v4 u = some res → lv_has ls 5 [(0, .ref (ad 1)), (1, .ref (ad (9 + 6 * t1))), (2, .int v2), (3, .int v3), (4, .int v4)] → ly_G D clA layC ad cA A s.heap u H locs → W p l e { frames := 2, cells := 0, slots := 0, locals := 43 } s m args below meth c H locs 0 0 (MQ below (va_Qv (fun u1 => ((0 : Int32), u1) = res) (ly_B D clA layC ad cA A) A) args s 0 0 A) (F0 m 55 ls [])) :
    ∀ (n : Nat) (v4 : Int32) (u : St) (H : Heap) (locs : List Loc) (ls : Array Slot), lp_Net_goOnByEnd_27 F t1 v2 v3 k27 n v4 u = some res → lv_has ls 5 [(0, .ref (ad 1)), (1, .ref (ad (9 + 6 * t1))), (2, .int v2), (3, .int v3), (4, .int v4)] → ly_G D clA layC ad cA A s.heap u H locs → W p l e { frames := 2, cells := 0, slots := 0, locals := 43 } s m args below meth c H locs 0 0 (MQ below (va_Qv (fun u1 => ((0 : Int32), u1) = res) (ly_B D clA layC ad cA A) A) args s 0 0 A) (F0 m 27 ls []) := by
  have hx := fx.1
  have hb := fx.2.1
  intro n
  induction n with
  | zero => intro v4 u H locs ls h; exact nomatch h
  | succ n ih =>
    intro v4 u H locs ls h hl hw
    rw [lp_Net_goOnByEnd_27] at h
    refine lv_iload hx hb d_Net_goOnByEnd_27 (lv_at hl 4 rfl) ?_
    refine lv_aload_n hx hb d_Net_goOnByEnd_29 rfl (lv_at hl 1 rfl) ?_
    refine ly_get fx hk hw (9 + 6 * t1) (la_T ht1) rfl i_Task 15 (by decide) rfl rfl (List.mem_cons_of_mem _ a_77) d_Net_goOnByEnd_30 ?_
    refine lv_icmp_ge (tgt := 55) hx hb d_Net_goOnByEnd_33 (by decide) (fun hc => ?_) (fun hc => ?_)
    · have h := it_t hc h
      exact hX27 v4 u _ _ _ h (lv_sub hl [0, 1, 2, 3, 4] rfl) hw
    · have h := it_f hc h
      refine lv_aload_n hx hb d_Net_goOnByEnd_36 rfl (lv_at hl 0 rfl) ?_
      refine lv_iload_n hx hb d_Net_goOnByEnd_37 rfl (lv_at hl 3 rfl) ?_
      refine lv_aload_n hx hb d_Net_goOnByEnd_38 rfl (lv_at hl 1 rfl) ?_
      refine ly_getr fx hk hw (9 + 6 * t1) (la_T ht1) rfl i_Task 13 (by decide) rfl rfl (List.mem_cons_of_mem _ a_73) d_Net_goOnByEnd_39 ?_
      refine lv_iload hx hb d_Net_goOnByEnd_42 (lv_at hl 4 rfl) ?_
      obtain ⟨hi2, h⟩ := it_in h
      refine ly_iald fx hk hw (9 + 6 * t1 + 2) (la_T2 ht1) hi2 d_Net_goOnByEnd_44 ?_
      refine lv_ior hx hb d_Net_goOnByEnd_45 ?_
      obtain ⟨r3, u4, hq5, h⟩ := ck_r h
      refine ly_callVv (As := [.int (v3 ||| (u.1 (9 + 6 * t1 + 2) v4.toNatClampNeg))]) (rest := []) ZsC_ok fx hk hz hA hw (c_Net_addReached l (v3 ||| (u.1 (9 + 6 * t1 + 2) v4.toNatClampNeg)) u _ hq5) (cw_V fx.2.2.2.2 a_444 a_446 as_16 a_2 ac_Net_addReached rfl rfl rfl hd_Net_addReached ⟨Nat.le_of_ble_eq_true rfl, Nat.le_of_ble_eq_true rfl⟩) (1) rfl rfl rfl rfl hl.1 rfl (Nat.le_of_ble_eq_true rfl) d_Net_goOnByEnd_46 (Nat.zero_le _) (Nat.zero_le _) (fun u' H locs hp hw => ?_)
      cases hp
      refine lv_iinc (lv' := [(4, .int (v4 + (1 : Int32))), (0, .ref (ad 1)), (1, .ref (ad (9 + 6 * t1))), (2, .int v2), (3, .int v3)]) (k := 4) hx hb d_Net_goOnByEnd_49 hl rfl (oi_p1 _) (by decide) rfl (fun ls hl => ?_)
      refine lv_goto (tgt := 27) hx hb d_Net_goOnByEnd_52 (by decide) ?_
      exact ih (v4 + (1 : Int32)) u4 _ _ _ h (lv_sub hl [1, 2, 3, 4, 0] rfl) hw
set_option maxRecDepth 100000 in
set_option maxHeartbeats 4000000 in
theorem c_Net_goOnByEnd (l : Launch) (F : Nat) (t : Nat) (a2 : Int32) (ht : t < 6) (u : St) (res : Int32 × St) (h : sp_Net_goOnByEnd F t a2 u = some res) : ly_Mv ZsC clA layC l y_Net_goOnByEnd w_Net_goOnByEnd { frames := 2, cells := 0, slots := 0, locals := 43 } (fun ad => [.ref (ad 1), .ref (ad (9 + 6 * t)), .int a2]) u (fun u1 => ((0 : Int32), u1) = res) := by
  refine ly_entv (cc := b_Net_goOnByEnd) (maxL := 5) (ret := none) (by decide) rfl (fun ad => Nat.le_of_ble_eq_true rfl) ?_
  intro p e s m below meth c D ad cA A ls fx hr hlocks hk hA hz hw hl
  have hl : lv_has ls 5 [(0, .ref (ad 1)), (1, .ref (ad (9 + 6 * t))), (2, .int a2)] := hl
  have hx := fx.1
  have hb := fx.2.1
  unfold sp_Net_goOnByEnd at h
  refine lv_iload_n hx hb d_Net_goOnByEnd_0 rfl (lv_at hl 2 rfl) ?_
  refine lv_aload_n hx hb d_Net_goOnByEnd_1 rfl (lv_at hl 1 rfl) ?_
  refine ly_get fx hk hw (9 + 6 * t) (la_T ht) rfl i_Task 0 (by decide) rfl rfl (List.mem_cons_of_mem _ a_46) d_Net_goOnByEnd_2 ?_
  refine lv_iand hx hb d_Net_goOnByEnd_5 ?_
  refine lv_if_ne (tgt := 10) hx hb d_Net_goOnByEnd_6 (by decide) (fun hc => ?_) (fun hc => ?_)
  · have h := it_f hc h
    refine lv_iload_n hx hb d_Net_goOnByEnd_10 rfl (lv_at hl 2 rfl) ?_
    refine lv_aload_n hx hb d_Net_goOnByEnd_11 rfl (lv_at hl 1 rfl) ?_
    refine ly_get fx hk hw (9 + 6 * t) (la_T ht) rfl i_Task 6 (by decide) rfl rfl (List.mem_cons_of_mem _ a_60) d_Net_goOnByEnd_12 ?_
    refine lv_aload_n hx hb d_Net_goOnByEnd_15 rfl (lv_at hl 1 rfl) ?_
    refine ly_get fx hk hw (9 + 6 * t) (la_T ht) rfl i_Task 0 (by decide) rfl rfl (List.mem_cons_of_mem _ a_46) d_Net_goOnByEnd_16 ?_
    refine lv_ior hx hb d_Net_goOnByEnd_19 ?_
    refine lv_iconst (v := -1) hx hb d_Net_goOnByEnd_20 (by decide) ?_
    refine lv_ixor hx hb d_Net_goOnByEnd_21 ?_
    refine lv_iand hx hb d_Net_goOnByEnd_22 ?_
    refine lv_topi (fun v3_1 ev => ?_)
    have h := nk_r ev h
    refine lv_istore_n (lv' := [(3, .int v3_1), (0, .ref (ad 1)), (1, .ref (ad (9 + 6 * t))), (2, .int a2)]) hx hb d_Net_goOnByEnd_23 rfl hl (by decide) rfl (fun ls hl => ?_)
    refine lv_iconst (v := 0) hx hb d_Net_goOnByEnd_24 (by decide) ?_
    refine lv_istore (lv' := [(4, .int (0 : Int32)), (3, .int v3_1), (0, .ref (ad 1)), (1, .ref (ad (9 + 6 * t))), (2, .int a2)]) hx hb d_Net_goOnByEnd_25 hl (by decide) rfl (fun ls hl => ?_)
    refine wl_Net_goOnByEnd_27 fx hr hlocks hk hA hz F t a2 v3_1 ht (fun v4_6 u7 H locs ls h hl hw => ?_) _ (0 : Int32) u _ _ _ h (lv_sub hl [2, 3, 4, 1, 0] rfl) hw
    exact ly_retv fx hr hlocks hk hw (Option.some.inj h) d_Net_goOnByEnd_55
  · have h := it_t hc h
    exact ly_retv fx hr hlocks hk hw (Option.some.inj h) d_Net_goOnByEnd_9
set_option maxRecDepth 100000 in
set_option maxHeartbeats 4000000 in
theorem wl_Net_reachFromStart_69 {p : Program} {l : Launch} {e : Env} {s : State} {m : MethodId} {args : Array Value} {below : List Frame} {meth : Method} {c : Code} {D : va_G} {ad : Nat → Nat} {cA : Nat → ClassId} {A : Nat → Prop} (fx : CallFix p m c b_Net_reachFromStart 4 s args w_Net_reachFromStart y_Net_reachFromStart.cls) (hr : meth.sig.returnType = none) (hlocks : meth.locks = false) (hk : ly_K D clA layC cA s) (hA : ∀ q, s.heap.size ≤ q → A q) (hz : ZsC A s s.heap) (F : Nat) (v1 : Int32) (v2 : Int32) {k69 : Int32 → St → Option (Int32 × St)} {res : Int32 × St}
    (hX69 : ∀ (v3 : Int32) (u : St) (H : Heap) (locs : List Loc) (ls : Array Slot), k69 v3 u = some res → lv_has ls 4 [(0, .ref (ad 1)), (1, .int v1), (2, .int v2), (3, .int v3)] → ly_G D clA layC ad cA A s.heap u H locs → W p l e { frames := 3, cells := 0, slots := 0, locals := 68 } s m args below meth c H locs 0 0 (MQ below (va_Qv (fun u1 => ((0 : Int32), u1) = res) (ly_B D clA layC ad cA A) A) args s 0 0 A) (F0 m 110 ls [])) :
    ∀ (n : Nat) (v3 : Int32) (u : St) (H : Heap) (locs : List Loc) (ls : Array Slot), lp_Net_reachFromStart_69 F v1 v2 k69 n v3 u = some res → lv_has ls 4 [(0, .ref (ad 1)), (1, .int v1), (2, .int v2), (3, .int v3)] → ly_G D clA layC ad cA A s.heap u H locs → W p l e { frames := 3, cells := 0, slots := 0, locals := 68 } s m args below meth c H locs 0 0 (MQ below (va_Qv (fun u1 => ((0 : Int32), u1) = res) (ly_B D clA layC ad cA A) A) args s 0 0 A) (F0 m 69 ls []) := by
  have hx := fx.1
  have hb := fx.2.1
  intro n
  induction n with
  | zero => intro v3 u H locs ls h; exact nomatch h
  | succ n ih =>
    intro v3 u H locs ls h hl hw
    rw [lp_Net_reachFromStart_69] at h
    refine lv_iload_n hx hb d_Net_reachFromStart_69 rfl (lv_at hl 3 rfl) ?_
    refine lv_bipush (v := 6) hx hb d_Net_reachFromStart_70 (by decide) ?_
    refine lv_icmp_ge (tgt := 110) hx hb d_Net_reachFromStart_72 (by decide) (fun hc => ?_) (fun hc => ?_)
    · have h := it_t hc h
      exact hX69 v3 u _ _ _ h (lv_sub hl [0, 1, 2, 3] rfl) hw
    · have h := it_f hc h
      refine lv_aload_n hx hb d_Net_reachFromStart_75 rfl (lv_at hl 0 rfl) ?_
      refine ly_getr fx hk hw (1) rfl rfl i_Net 0 (by decide) rfl rfl (List.mem_cons_of_mem _ a_121) d_Net_reachFromStart_76 ?_
      refine lv_iload_n hx hb d_Net_reachFromStart_79 rfl (lv_at hl 3 rfl) ?_
      obtain ⟨hi15, h⟩ := it_in h
      have ht16 := vt_lt hi15
      refine ly_aald fx hk hw (2) rfl hi15 (q1 := 9 + 6 * v3.toNatClampNeg) rfl d_Net_reachFromStart_80 ?_
      refine ly_get fx hk hw (9 + 6 * v3.toNatClampNeg) (la_T ht16) rfl i_Task 1 (by decide) rfl rfl (List.mem_cons_of_mem _ a_49) d_Net_reachFromStart_81 ?_
      refine lv_if_eq (tgt := 104) hx hb d_Net_reachFromStart_84 (by decide) (fun hc => ?_) (fun hc => ?_)
      · have h := it_t hc h
        refine lv_iinc (lv' := [(3, .int (v3 + (1 : Int32))), (0, .ref (ad 1)), (1, .int v1), (2, .int v2)]) (k := 3) hx hb d_Net_reachFromStart_104 hl rfl (oi_p1 _) (by decide) rfl (fun ls hl => ?_)
        refine lv_goto (tgt := 69) hx hb d_Net_reachFromStart_107 (by decide) ?_
        exact ih (v3 + (1 : Int32)) u _ _ _ h (lv_sub hl [1, 2, 3, 0] rfl) hw
      · have h := it_f hc h
        refine lv_aload_n hx hb d_Net_reachFromStart_87 rfl (lv_at hl 0 rfl) ?_
        refine lv_iload_n hx hb d_Net_reachFromStart_88 rfl (lv_at hl 3 rfl) ?_
        refine lv_iload_n hx hb d_Net_reachFromStart_89 rfl (lv_at hl 2 rfl) ?_
        obtain ⟨r17, u18, hq19, h⟩ := ck_r h
        refine ly_callVv (As := [.int v3, .int v2]) (rest := []) ZsC_ok fx hk hz hA hw (c_Net_goOnByBegin l F v3 v2 u _ hq19) (cw_V fx.2.2.2.2 a_448 a_450 as_17 a_2 ac_Net_goOnByBegin rfl rfl rfl hd_Net_goOnByBegin ⟨Nat.le_of_ble_eq_true rfl, Nat.le_of_ble_eq_true rfl⟩) (1) rfl rfl rfl rfl hl.1 rfl (Nat.le_of_ble_eq_true rfl) d_Net_reachFromStart_90 (Nat.zero_le _) (Nat.zero_le _) (fun u' H locs hp hw => ?_)
        cases hp
        refine lv_aload_n hx hb d_Net_reachFromStart_93 rfl (lv_at hl 0 rfl) ?_
        refine lv_aload_n hx hb d_Net_reachFromStart_94 rfl (lv_at hl 0 rfl) ?_
        refine ly_getr fx hk hw (1) rfl rfl i_Net 0 (by decide) rfl rfl (List.mem_cons_of_mem _ a_121) d_Net_reachFromStart_95 ?_
        refine lv_iload_n hx hb d_Net_reachFromStart_98 rfl (lv_at hl 3 rfl) ?_
        obtain ⟨hi20, h⟩ := it_in h
        have ht21 := vt_lt hi20
        refine ly_aald fx hk hw (2) rfl hi20 (q1 := 9 + 6 * v3.toNatClampNeg) rfl d_Net_reachFromStart_99 ?_
        refine lv_iload_n hx hb d_Net_reachFromStart_100 rfl (lv_at hl 2 rfl) ?_
        obtain ⟨r22, u23, hq24, h⟩ := ck_r h
        refine ly_callVv (As := [.ref (ad (9 + 6 * v3.toNatClampNeg)), .int v2]) (rest := []) ZsC_ok fx hk hz hA hw (c_Net_goOnByEnd l F v3.toNatClampNeg v2 ht21 u18 _ hq24) (cw_V fx.2.2.2.2 a_452 a_454 as_18 a_2 ac_Net_goOnByEnd rfl rfl rfl hd_Net_goOnByEnd ⟨Nat.le_of_ble_eq_true rfl, Nat.le_of_ble_eq_true rfl⟩) (1) rfl rfl rfl rfl hl.1 rfl (Nat.le_of_ble_eq_true rfl) d_Net_reachFromStart_101 (Nat.zero_le _) (Nat.zero_le _) (fun u' H locs hp hw => ?_)
        cases hp
        refine lv_iinc (lv' := [(3, .int (v3 + (1 : Int32))), (0, .ref (ad 1)), (1, .int v1), (2, .int v2)]) (k := 3) hx hb d_Net_reachFromStart_104 hl rfl (oi_p1 _) (by decide) rfl (fun ls hl => ?_)
        refine lv_goto (tgt := 69) hx hb d_Net_reachFromStart_107 (by decide) ?_
        exact ih (v3 + (1 : Int32)) u23 _ _ _ h (lv_sub hl [1, 2, 3, 0] rfl) hw
set_option maxRecDepth 100000 in
set_option maxHeartbeats 4000000 in
theorem wl_Net_reachFromStart_33 {p : Program} {l : Launch} {e : Env} {s : State} {m : MethodId} {args : Array Value} {below : List Frame} {meth : Method} {c : Code} {D : va_G} {ad : Nat → Nat} {cA : Nat → ClassId} {A : Nat → Prop} (fx : CallFix p m c b_Net_reachFromStart 4 s args w_Net_reachFromStart y_Net_reachFromStart.cls) (hr : meth.sig.returnType = none) (hlocks : meth.locks = false) (hk : ly_K D clA layC cA s) (hA : ∀ q, s.heap.size ≤ q → A q) (hz : ZsC A s s.heap) (F : Nat) {k33 : Int32 → St → Option (Int32 × St)} {res : Int32 × St}
    (hX33 : ∀ (v1 : Int32) (u : St) (H : Heap) (locs : List Loc) (ls : Array Slot), k33 v1 u = some res → lv_has ls 4 [(0, .ref (ad 1)), (1, .int v1)] → ly_G D clA layC ad cA A s.heap u H locs → W p l e { frames := 3, cells := 0, slots := 0, locals := 68 } s m args below meth c H locs 0 0 (MQ below (va_Qv (fun u1 => ((0 : Int32), u1) = res) (ly_B D clA layC ad cA A) A) args s 0 0 A) (F0 m 116 ls [])) :
    ∀ (n : Nat) (v1 : Int32) (u : St) (H : Heap) (locs : List Loc) (ls : Array Slot), lp_Net_reachFromStart_33 F k33 n v1 u = some res → lv_has ls 4 [(0, .ref (ad 1)), (1, .int v1)] → ly_G D clA layC ad cA A s.heap u H locs → W p l e { frames := 3, cells := 0, slots := 0, locals := 68 } s m args below meth c H locs 0 0 (MQ below (va_Qv (fun u1 => ((0 : Int32), u1) = res) (ly_B D clA layC ad cA A) A) args s 0 0 A) (F0 m 33 ls []) := by
  have hx := fx.1
  have hb := fx.2.1
  intro n
  induction n with
  | zero => intro v1 u H locs ls h; exact nomatch h
  | succ n ih =>
    intro v1 u H locs ls h hl hw
    rw [lp_Net_reachFromStart_33] at h
    refine lv_iload_n hx hb d_Net_reachFromStart_33 rfl (lv_at hl 1 rfl) ?_
    refine lv_if_le (tgt := 116) hx hb d_Net_reachFromStart_34 (by decide) (fun hc => ?_) (fun hc => ?_)
    · have h := it_t hc h
      exact hX33 v1 u _ _ _ h (lv_sub hl [0, 1] rfl) hw
    · have h := it_f hc h
      refine lv_aload_n hx hb d_Net_reachFromStart_37 rfl (lv_at hl 0 rfl) ?_
      refine ly_getr fx hk hw (1) rfl rfl i_Net 1 (by decide) rfl rfl (List.mem_cons_of_mem _ a_123) d_Net_reachFromStart_38 ?_
      obtain ⟨r12, u13, hq14, h⟩ := ck_r h
      refine ly_callVi (As := []) (rest := []) ZsC_ok fx hk hz hA hw (c_MS_draw l F 3 (Or.inl rfl) u _ hq14) (cw_V fx.2.2.2.2 a_320 a_321 a_322 a_3 ac_MS_draw rfl rfl rfl hd_MS_draw ⟨Nat.le_of_ble_eq_true rfl, Nat.le_of_ble_eq_true rfl⟩) (3) rfl rfl rfl rfl hl.1 rfl (Nat.le_of_ble_eq_true rfl) d_Net_reachFromStart_41 (Nat.zero_le _) (Nat.zero_le _) (fun r' u' H locs hp hw => ?_)
      cases hp
      refine lv_istore_n (lv' := [(2, .int r12), (0, .ref (ad 1)), (1, .int v1)]) hx hb d_Net_reachFromStart_44 rfl hl (by decide) rfl (fun ls hl => ?_)
      refine lv_iload_n hx hb d_Net_reachFromStart_45 rfl (lv_at hl 0 rfl) ?_
      refine lv_iconst (v := -1) hx hb d_Net_reachFromStart_46 (by decide) ?_
      refine lv_icmp_ne (tgt := 51) hx hb d_Net_reachFromStart_47 (by decide) (fun hc => ?_) (fun hc => ?_)
      · have h := it_f hc h
        refine lv_iload_n hx hb d_Net_reachFromStart_51 rfl (lv_at hl 0 rfl) ?_
        refine lv_iconst (v := 2) hx hb d_Net_reachFromStart_52 (by decide) ?_
        refine lv_iand hx hb d_Net_reachFromStart_53 ?_
        refine lv_if_eq (tgt := 67) hx hb d_Net_reachFromStart_54 (by decide) (fun hc => ?_) (fun hc => ?_)
        · have h := it_t hc h
          refine lv_iconst (v := 0) hx hb d_Net_reachFromStart_67 (by decide) ?_
          refine lv_istore_n (lv' := [(3, .int (0 : Int32)), (2, .int r12), (0, .ref (ad 1)), (1, .int v1)]) hx hb d_Net_reachFromStart_68 rfl hl (by decide) rfl (fun ls hl => ?_)
          refine wl_Net_reachFromStart_69 fx hr hlocks hk hA hz F v1 r12 (fun v3_25 u26 H locs ls h hl hw => ?_) _ (0 : Int32) u13 _ _ _ h (lv_sub hl [2, 3, 1, 0] rfl) hw
          refine lv_iinc (lv' := [(1, .int (v1 + (-1 : Int32))), (0, .ref (ad 1)), (2, .int r12), (3, .int v3_25)]) (k := 1) hx hb d_Net_reachFromStart_110 hl rfl (oi_m1 _) (by decide) rfl (fun ls hl => ?_)
          refine lv_goto (tgt := 33) hx hb d_Net_reachFromStart_113 (by decide) ?_
          exact ih (v1 + (-1 : Int32)) u26 _ _ _ h (lv_sub hl [1, 0] rfl) hw
        · have h := it_f hc h
          refine lv_iload_n hx hb d_Net_reachFromStart_57 rfl (lv_at hl 0 rfl) ?_
          refine lv_iconst (v := 2) hx hb d_Net_reachFromStart_58 (by decide) ?_
          refine lv_icmp_eq (tgt := 67) hx hb d_Net_reachFromStart_59 (by decide) (fun hc => ?_) (fun hc => ?_)
          · have h := it_t hc h
            refine lv_iconst (v := 0) hx hb d_Net_reachFromStart_67 (by decide) ?_
            refine lv_istore_n (lv' := [(3, .int (0 : Int32)), (2, .int r12), (0, .ref (ad 1)), (1, .int v1)]) hx hb d_Net_reachFromStart_68 rfl hl (by decide) rfl (fun ls hl => ?_)
            refine wl_Net_reachFromStart_69 fx hr hlocks hk hA hz F v1 r12 (fun v3_27 u28 H locs ls h hl hw => ?_) _ (0 : Int32) u13 _ _ _ h (lv_sub hl [2, 3, 1, 0] rfl) hw
            refine lv_iinc (lv' := [(1, .int (v1 + (-1 : Int32))), (0, .ref (ad 1)), (2, .int r12), (3, .int v3_27)]) (k := 1) hx hb d_Net_reachFromStart_110 hl rfl (oi_m1 _) (by decide) rfl (fun ls hl => ?_)
            refine lv_goto (tgt := 33) hx hb d_Net_reachFromStart_113 (by decide) ?_
            exact ih (v1 + (-1 : Int32)) u28 _ _ _ h (lv_sub hl [1, 0] rfl) hw
          · have h := it_f hc h
            refine lv_aload_n hx hb d_Net_reachFromStart_62 rfl (lv_at hl 1 rfl) ?_
            refine lv_iconst (v := 0) hx hb d_Net_reachFromStart_63 (by decide) ?_
            refine ly_put (v := (0 : Int32)) fx hk hw (1) rfl rfl i_Net t_Net t_Net_ok n_Net 5 (by decide) rfl rfl rfl (List.mem_cons_of_mem _ a_127) (by decide) (by decide) d_Net_reachFromStart_64 (fun H locs hw => ?_)
            obtain ⟨u29, ev⟩ : ∃ z, z = ly_pi u13 (1) 5 (0 : Int32) := ⟨_, rfl⟩
            rw [← ev] at hw
            have h := nk_r ev h
            refine lv_iconst (v := 0) hx hb d_Net_reachFromStart_67 (by decide) ?_
            refine lv_istore_n (lv' := [(3, .int (0 : Int32)), (2, .int r12), (0, .ref (ad 1)), (1, .int v1)]) hx hb d_Net_reachFromStart_68 rfl hl (by decide) rfl (fun ls hl => ?_)
            refine wl_Net_reachFromStart_69 fx hr hlocks hk hA hz F v1 r12 (fun v3_30 u31 H locs ls h hl hw => ?_) _ (0 : Int32) u29 _ _ _ h (lv_sub hl [2, 3, 1, 0] rfl) hw
            refine lv_iinc (lv' := [(1, .int (v1 + (-1 : Int32))), (0, .ref (ad 1)), (2, .int r12), (3, .int v3_30)]) (k := 1) hx hb d_Net_reachFromStart_110 hl rfl (oi_m1 _) (by decide) rfl (fun ls hl => ?_)
            refine lv_goto (tgt := 33) hx hb d_Net_reachFromStart_113 (by decide) ?_
            exact ih (v1 + (-1 : Int32)) u31 _ _ _ h (lv_sub hl [1, 0] rfl) hw
      · have h := it_t hc h
        exact ly_retv fx hr hlocks hk hw (Option.some.inj h) d_Net_reachFromStart_50
set_option maxRecDepth 100000 in
set_option maxHeartbeats 4000000 in
theorem c_Net_reachFromStart (l : Launch) (F : Nat) (u : St) (res : Int32 × St) (h : sp_Net_reachFromStart F u = some res) : ly_Mv ZsC clA layC l y_Net_reachFromStart w_Net_reachFromStart { frames := 3, cells := 0, slots := 0, locals := 68 } (fun ad => [.ref (ad 1)]) u (fun u1 => ((0 : Int32), u1) = res) := by
  refine ly_entv (cc := b_Net_reachFromStart) (maxL := 4) (ret := none) (by decide) rfl (fun ad => Nat.le_of_ble_eq_true rfl) ?_
  intro p e s m below meth c D ad cA A ls fx hr hlocks hk hA hz hw hl
  have hl : lv_has ls 4 [(0, .ref (ad 1))] := hl
  have hx := fx.1
  have hb := fx.2.1
  unfold sp_Net_reachFromStart at h
  refine lv_aload_n hx hb d_Net_reachFromStart_0 rfl (lv_at hl 0 rfl) ?_
  refine ly_getr fx hk hw (1) rfl rfl i_Net 2 (by decide) rfl rfl (List.mem_cons_of_mem _ a_124) d_Net_reachFromStart_1 ?_
  obtain ⟨r1, u2, hq3, h⟩ := ck_r h
  refine ly_callVv (As := []) (rest := []) ZsC_ok fx hk hz hA hw (c_MS_clear l F 5 (Or.inr (Or.inl rfl)) u _ hq3) (cw_V fx.2.2.2.2 a_294 a_295 a_296 a_3 ac_MS_clear rfl rfl rfl hd_MS_clear ⟨Nat.le_of_ble_eq_true rfl, Nat.le_of_ble_eq_true rfl⟩) (5) rfl rfl rfl rfl hl.1 rfl (Nat.le_of_ble_eq_true rfl) d_Net_reachFromStart_4 (Nat.zero_le _) (Nat.zero_le _) (fun u' H locs hp hw => ?_)
  cases hp
  refine lv_aload_n hx hb d_Net_reachFromStart_7 rfl (lv_at hl 0 rfl) ?_
  refine ly_getr fx hk hw (1) rfl rfl i_Net 1 (by decide) rfl rfl (List.mem_cons_of_mem _ a_123) d_Net_reachFromStart_8 ?_
  obtain ⟨r4, u5, hq6, h⟩ := ck_r h
  refine ly_callVv (As := []) (rest := []) ZsC_ok fx hk hz hA hw (c_MS_clear l F 3 (Or.inl rfl) u2 _ hq6) (cw_V fx.2.2.2.2 a_294 a_295 a_296 a_3 ac_MS_clear rfl rfl rfl hd_MS_clear ⟨Nat.le_of_ble_eq_true rfl, Nat.le_of_ble_eq_true rfl⟩) (3) rfl rfl rfl rfl hl.1 rfl (Nat.le_of_ble_eq_true rfl) d_Net_reachFromStart_11 (Nat.zero_le _) (Nat.zero_le _) (fun u' H locs hp hw => ?_)
  cases hp
  refine lv_aload_n hx hb d_Net_reachFromStart_14 rfl (lv_at hl 0 rfl) ?_
  refine lv_iconst (v := 0) hx hb d_Net_reachFromStart_15 (by decide) ?_
  refine ly_put (v := (0 : Int32)) fx hk hw (1) rfl rfl i_Net t_Net t_Net_ok n_Net 4 (by decide) rfl rfl rfl (List.mem_cons_of_mem _ a_126) rfl rfl d_Net_reachFromStart_16 (fun H locs hw => ?_)
  obtain ⟨u7, ev⟩ : ∃ z, z = ly_pi u5 (1) 4 (0 : Int32) := ⟨_, rfl⟩
  rw [← ev] at hw
  have h := nk_r ev h
  refine lv_aload_n hx hb d_Net_reachFromStart_19 rfl (lv_at hl 0 rfl) ?_
  refine lv_iconst (v := 1) hx hb d_Net_reachFromStart_20 (by decide) ?_
  refine ly_put (v := (1 : Int32)) fx hk hw (1) rfl rfl i_Net t_Net t_Net_ok n_Net 5 (by decide) rfl rfl rfl (List.mem_cons_of_mem _ a_127) (by decide) (by decide) d_Net_reachFromStart_21 (fun H locs hw => ?_)
  obtain ⟨u8, ev⟩ : ∃ z, z = ly_pi u7 (1) 5 (1 : Int32) := ⟨_, rfl⟩
  rw [← ev] at hw
  have h := nk_r ev h
  refine lv_aload_n hx hb d_Net_reachFromStart_24 rfl (lv_at hl 0 rfl) ?_
  refine lv_iconst (v := 1) hx hb d_Net_reachFromStart_25 (by decide) ?_
  obtain ⟨r9, u10, hq11, h⟩ := ck_r h
  refine ly_callVv (As := [.int (1 : Int32)]) (rest := []) ZsC_ok fx hk hz hA hw (c_Net_addReached l (1 : Int32) u8 _ hq11) (cw_V fx.2.2.2.2 a_444 a_446 as_16 a_2 ac_Net_addReached rfl rfl rfl hd_Net_addReached ⟨Nat.le_of_ble_eq_true rfl, Nat.le_of_ble_eq_true rfl⟩) (1) rfl rfl rfl rfl hl.1 rfl (Nat.le_of_ble_eq_true rfl) d_Net_reachFromStart_26 (Nat.zero_le _) (Nat.zero_le _) (fun u' H locs hp hw => ?_)
  cases hp
  refine lv_sipush (v := 16384) hx hb d_Net_reachFromStart_29 (by decide) ?_
  refine lv_istore_n (lv' := [(1, .int (16384 : Int32)), (0, .ref (ad 1))]) hx hb d_Net_reachFromStart_32 rfl hl (by decide) rfl (fun ls hl => ?_)
  refine wl_Net_reachFromStart_33 fx hr hlocks hk hA hz F (fun v1_32 u33 H locs ls h hl hw => ?_) _ (16384 : Int32) u10 _ _ _ h (lv_sub hl [1, 0] rfl) hw
  exact ly_retv fx hr hlocks hk hw (Option.some.inj h) d_Net_reachFromStart_116
set_option maxRecDepth 100000 in
set_option maxHeartbeats 4000000 in
theorem c_Net_judge (l : Launch) (F : Nat) (u : St) (res : Int32 × St) (h : sp_Net_judge F u = some res) : ly_Mi ZsC clA layC l y_Net_judge w_Net_judge { frames := 4, cells := 0, slots := 0, locals := 97 } (fun ad => [.ref (ad 1)]) u (fun r1 u1 => (r1, u1) = res) := by
  refine ly_enti (cc := b_Net_judge) (maxL := 2) (ret := (some .int)) (by decide) rfl (fun ad => Nat.le_of_ble_eq_true rfl) ?_
  intro p e s m below meth c D ad cA A ls fx hr hlocks hk hA hz hw hl
  have hl : lv_has ls 2 [(0, .ref (ad 1))] := hl
  have hx := fx.1
  have hb := fx.2.1
  unfold sp_Net_judge at h
  refine lv_aload_n hx hb d_Net_judge_0 rfl (lv_at hl 0 rfl) ?_
  obtain ⟨r1, u2, hq3, h⟩ := ck_r h
  refine ly_callVi (As := []) (rest := []) ZsC_ok fx hk hz hA hw (c_Net_definedTasks l F u _ hq3) (cw_V fx.2.2.2.2 a_435 a_255 a_256 a_2 ac_Net_definedTasks rfl rfl rfl hd_Net_definedTasks ⟨Nat.le_of_ble_eq_true rfl, Nat.le_of_ble_eq_true rfl⟩) (1) rfl rfl rfl rfl hl.1 rfl (Nat.le_of_ble_eq_true rfl) d_Net_judge_1 (Nat.zero_le _) (Nat.zero_le _) (fun r' u' H locs hp hw => ?_)
  cases hp
  refine lv_if_eq (tgt := 14) hx hb d_Net_judge_4 (by decide) (fun hc => ?_) (fun hc => ?_)
  · have h := it_t hc h
    refine lv_iconst (v := -1) hx hb d_Net_judge_14 (by decide) ?_
    exact ly_reti fx hr hlocks hk hw (Option.some.inj h) d_Net_judge_15
  · have h := it_f hc h
    refine lv_aload_n hx hb d_Net_judge_7 rfl (lv_at hl 0 rfl) ?_
    obtain ⟨r4, u5, hq6, h⟩ := ck_r h
    refine ly_callVi (As := []) (rest := []) ZsC_ok fx hk hz hA hw (c_Net_hasJoinSome l F u2 _ hq6) (cw_V fx.2.2.2.2 a_436 a_438 as_14 a_2 ac_Net_hasJoinSome rfl rfl rfl hd_Net_hasJoinSome ⟨Nat.le_of_ble_eq_true rfl, Nat.le_of_ble_eq_true rfl⟩) (1) rfl rfl rfl rfl hl.1 rfl (Nat.le_of_ble_eq_true rfl) d_Net_judge_8 (Nat.zero_le _) (Nat.zero_le _) (fun r' u' H locs hp hw => ?_)
    cases hp
    refine lv_if_eq (tgt := 16) hx hb d_Net_judge_11 (by decide) (fun hc => ?_) (fun hc => ?_)
    · have h := it_t hc h
      refine lv_aload_n hx hb d_Net_judge_16 rfl (lv_at hl 0 rfl) ?_
      obtain ⟨r7, u8, hq9, h⟩ := ck_r h
      refine ly_callVv (As := []) (rest := []) ZsC_ok fx hk hz hA hw (c_Net_reachFromStart l F u5 _ hq9) (cw_V fx.2.2.2.2 a_440 a_442 as_15 a_2 ac_Net_reachFromStart rfl rfl rfl hd_Net_reachFromStart ⟨Nat.le_of_ble_eq_true rfl, Nat.le_of_ble_eq_true rfl⟩) (1) rfl rfl rfl rfl hl.1 rfl (Nat.le_of_ble_eq_true rfl) d_Net_judge_17 (Nat.zero_le _) (Nat.zero_le _) (fun u' H locs hp hw => ?_)
      cases hp
      refine lv_aload_n hx hb d_Net_judge_20 rfl (lv_at hl 0 rfl) ?_
      refine lv_iconst (v := 2) hx hb d_Net_judge_21 (by decide) ?_
      refine lv_iconst (v := 0) hx hb d_Net_judge_22 (by decide) ?_
      refine lv_iconst (v := -1) hx hb d_Net_judge_23 (by decide) ?_
      obtain ⟨r10, u11, hq12, h⟩ := ck_r h
      refine ly_callVi (As := [.int (2 : Int32), .int (0 : Int32), .int (-1 : Int32)]) (rest := []) ZsC_ok fx hk hz hA hw (c_Net_findCovering l F (2 : Int32) (0 : Int32) (-1 : Int32) u8 _ hq12) (cw_V fx.2.2.2.2 a_456 a_291 a_292 a_2 ac_Net_findCovering rfl rfl rfl hd_Net_findCovering ⟨Nat.le_of_ble_eq_true rfl, Nat.le_of_ble_eq_true rfl⟩) (1) rfl rfl rfl rfl hl.1 rfl (Nat.le_of_ble_eq_true rfl) d_Net_judge_24 (Nat.zero_le _) (Nat.zero_le _) (fun r' u' H locs hp hw => ?_)
      cases hp
      refine lv_pop hx hb d_Net_judge_27 rfl ?_
      refine lv_aload_n hx hb d_Net_judge_28 rfl (lv_at hl 0 rfl) ?_
      refine ly_getr fx hk hw (1) rfl rfl i_Net 2 (by decide) rfl rfl (List.mem_cons_of_mem _ a_124) d_Net_judge_29 ?_
      refine lv_aload_n hx hb d_Net_judge_32 rfl (lv_at hl 0 rfl) ?_
      refine ly_getr fx hk hw (1) rfl rfl i_Net 3 (by decide) rfl rfl (List.mem_cons_of_mem _ a_125) d_Net_judge_33 ?_
      obtain ⟨r13, u14, hq15, h⟩ := ck_r h
      refine ly_callVi (As := [.ref (ad 7)]) (rest := []) ZsC_ok fx hk hz hA hw (c_MS_isWithin l F 5 7 (Or.inr (Or.inl rfl)) (Or.inr (Or.inr rfl)) u11 _ hq15) (cw_V fx.2.2.2.2 a_457 a_458 a_459 a_3 ac_MS_isWithin rfl rfl rfl hd_MS_isWithin ⟨Nat.le_of_ble_eq_true rfl, Nat.le_of_ble_eq_true rfl⟩) (5) rfl rfl rfl rfl hl.1 rfl (Nat.le_of_ble_eq_true rfl) d_Net_judge_36 (Nat.zero_le _) (Nat.zero_le _) (fun r' u' H locs hp hw => ?_)
      cases hp
      refine lv_if_eq (tgt := 46) hx hb d_Net_judge_39 (by decide) (fun hc => ?_) (fun hc => ?_)
      · have h := it_t hc h
        refine lv_iconst (v := 0) hx hb d_Net_judge_46 (by decide) ?_
        refine lv_istore_n (lv' := [(1, .int (0 : Int32)), (0, .ref (ad 1))]) hx hb d_Net_judge_47 rfl hl (by decide) rfl (fun ls hl => ?_)
        refine lv_iload_n hx hb d_Net_judge_48 rfl (lv_at hl 0 rfl) ?_
        refine lv_aload_n hx hb d_Net_judge_49 rfl (lv_at hl 1 rfl) ?_
        refine ly_get fx hk hw (1) rfl rfl i_Net 5 (by decide) rfl rfl (List.mem_cons_of_mem _ a_127) d_Net_judge_50 ?_
        refine lv_if_eq (tgt := 60) hx hb d_Net_judge_53 (by decide) (fun hc => ?_) (fun hc => ?_)
        · have h := it_t hc h
          refine lv_iconst (v := 0) hx hb d_Net_judge_60 (by decide) ?_
          refine lv_ior hx hb d_Net_judge_61 ?_
          refine lv_topi (fun v1_16 ev => ?_)
          have h := nk_r ev h
          refine lv_istore_n (lv' := [(1, .int v1_16), (0, .ref (ad 1))]) hx hb d_Net_judge_62 rfl hl (by decide) rfl (fun ls hl => ?_)
          refine lv_iload_n hx hb d_Net_judge_63 rfl (lv_at hl 0 rfl) ?_
          refine lv_aload_n hx hb d_Net_judge_64 rfl (lv_at hl 1 rfl) ?_
          refine ly_get fx hk hw (1) rfl rfl i_Net 4 (by decide) rfl rfl (List.mem_cons_of_mem _ a_126) d_Net_judge_65 ?_
          refine lv_aload_n hx hb d_Net_judge_68 rfl (lv_at hl 1 rfl) ?_
          obtain ⟨r17, u18, hq19, h⟩ := ck_r h
          refine ly_callVi (As := []) (rest := [.int (u14.1 (1) 4), .int v1_16]) ZsC_ok fx hk hz hA hw (c_Net_definedTasks l F u14 _ hq19) (cw_V fx.2.2.2.2 a_435 a_255 a_256 a_2 ac_Net_definedTasks rfl rfl rfl hd_Net_definedTasks ⟨Nat.le_of_ble_eq_true rfl, Nat.le_of_ble_eq_true rfl⟩) (1) rfl rfl rfl rfl hl.1 rfl (Nat.le_of_ble_eq_true rfl) d_Net_judge_69 (Nat.zero_le _) (Nat.zero_le _) (fun r' u' H locs hp hw => ?_)
          cases hp
          refine lv_icmp_ne (tgt := 79) hx hb d_Net_judge_72 (by decide) (fun hc => ?_) (fun hc => ?_)
          · have h := it_f hc h
            refine lv_iconst (v := 0) hx hb d_Net_judge_79 (by decide) ?_
            refine lv_ior hx hb d_Net_judge_80 ?_
            refine lv_topi (fun v1_20 ev => ?_)
            have h := nk_r ev h
            refine lv_istore_n (lv' := [(1, .int v1_20), (0, .ref (ad 1))]) hx hb d_Net_judge_81 rfl hl (by decide) rfl (fun ls hl => ?_)
            refine lv_iload_n hx hb d_Net_judge_82 rfl (lv_at hl 0 rfl) ?_
            exact ly_reti fx hr hlocks hk hw (Option.some.inj h) d_Net_judge_83
          · have h := it_t hc h
            refine lv_iconst (v := 4) hx hb d_Net_judge_75 (by decide) ?_
            refine lv_goto (tgt := 80) hx hb d_Net_judge_76 (by decide) ?_
            refine lv_ior hx hb d_Net_judge_80 ?_
            refine lv_topi (fun v1_21 ev => ?_)
            have h := nk_r ev h
            refine lv_istore_n (lv' := [(1, .int v1_21), (0, .ref (ad 1))]) hx hb d_Net_judge_81 rfl hl (by decide) rfl (fun ls hl => ?_)
            refine lv_iload_n hx hb d_Net_judge_82 rfl (lv_at hl 0 rfl) ?_
            exact ly_reti fx hr hlocks hk hw (Option.some.inj h) d_Net_judge_83
        · have h := it_f hc h
          refine lv_iconst (v := 2) hx hb d_Net_judge_56 (by decide) ?_
          refine lv_goto (tgt := 61) hx hb d_Net_judge_57 (by decide) ?_
          refine lv_ior hx hb d_Net_judge_61 ?_
          refine lv_topi (fun v1_22 ev => ?_)
          have h := nk_r ev h
          refine lv_istore_n (lv' := [(1, .int v1_22), (0, .ref (ad 1))]) hx hb d_Net_judge_62 rfl hl (by decide) rfl (fun ls hl => ?_)
          refine lv_iload_n hx hb d_Net_judge_63 rfl (lv_at hl 0 rfl) ?_
          refine lv_aload_n hx hb d_Net_judge_64 rfl (lv_at hl 1 rfl) ?_
          refine ly_get fx hk hw (1) rfl rfl i_Net 4 (by decide) rfl rfl (List.mem_cons_of_mem _ a_126) d_Net_judge_65 ?_
          refine lv_aload_n hx hb d_Net_judge_68 rfl (lv_at hl 1 rfl) ?_
          obtain ⟨r23, u24, hq25, h⟩ := ck_r h
          refine ly_callVi (As := []) (rest := [.int (u14.1 (1) 4), .int v1_22]) ZsC_ok fx hk hz hA hw (c_Net_definedTasks l F u14 _ hq25) (cw_V fx.2.2.2.2 a_435 a_255 a_256 a_2 ac_Net_definedTasks rfl rfl rfl hd_Net_definedTasks ⟨Nat.le_of_ble_eq_true rfl, Nat.le_of_ble_eq_true rfl⟩) (1) rfl rfl rfl rfl hl.1 rfl (Nat.le_of_ble_eq_true rfl) d_Net_judge_69 (Nat.zero_le _) (Nat.zero_le _) (fun r' u' H locs hp hw => ?_)
          cases hp
          refine lv_icmp_ne (tgt := 79) hx hb d_Net_judge_72 (by decide) (fun hc => ?_) (fun hc => ?_)
          · have h := it_f hc h
            refine lv_iconst (v := 0) hx hb d_Net_judge_79 (by decide) ?_
            refine lv_ior hx hb d_Net_judge_80 ?_
            refine lv_topi (fun v1_26 ev => ?_)
            have h := nk_r ev h
            refine lv_istore_n (lv' := [(1, .int v1_26), (0, .ref (ad 1))]) hx hb d_Net_judge_81 rfl hl (by decide) rfl (fun ls hl => ?_)
            refine lv_iload_n hx hb d_Net_judge_82 rfl (lv_at hl 0 rfl) ?_
            exact ly_reti fx hr hlocks hk hw (Option.some.inj h) d_Net_judge_83
          · have h := it_t hc h
            refine lv_iconst (v := 4) hx hb d_Net_judge_75 (by decide) ?_
            refine lv_goto (tgt := 80) hx hb d_Net_judge_76 (by decide) ?_
            refine lv_ior hx hb d_Net_judge_80 ?_
            refine lv_topi (fun v1_27 ev => ?_)
            have h := nk_r ev h
            refine lv_istore_n (lv' := [(1, .int v1_27), (0, .ref (ad 1))]) hx hb d_Net_judge_81 rfl hl (by decide) rfl (fun ls hl => ?_)
            refine lv_iload_n hx hb d_Net_judge_82 rfl (lv_at hl 0 rfl) ?_
            exact ly_reti fx hr hlocks hk hw (Option.some.inj h) d_Net_judge_83
      · have h := it_f hc h
        refine lv_iconst (v := 1) hx hb d_Net_judge_42 (by decide) ?_
        refine lv_goto (tgt := 47) hx hb d_Net_judge_43 (by decide) ?_
        refine lv_istore_n (lv' := [(1, .int (1 : Int32)), (0, .ref (ad 1))]) hx hb d_Net_judge_47 rfl hl (by decide) rfl (fun ls hl => ?_)
        refine lv_iload_n hx hb d_Net_judge_48 rfl (lv_at hl 0 rfl) ?_
        refine lv_aload_n hx hb d_Net_judge_49 rfl (lv_at hl 1 rfl) ?_
        refine ly_get fx hk hw (1) rfl rfl i_Net 5 (by decide) rfl rfl (List.mem_cons_of_mem _ a_127) d_Net_judge_50 ?_
        refine lv_if_eq (tgt := 60) hx hb d_Net_judge_53 (by decide) (fun hc => ?_) (fun hc => ?_)
        · have h := it_t hc h
          refine lv_iconst (v := 0) hx hb d_Net_judge_60 (by decide) ?_
          refine lv_ior hx hb d_Net_judge_61 ?_
          refine lv_topi (fun v1_28 ev => ?_)
          have h := nk_r ev h
          refine lv_istore_n (lv' := [(1, .int v1_28), (0, .ref (ad 1))]) hx hb d_Net_judge_62 rfl hl (by decide) rfl (fun ls hl => ?_)
          refine lv_iload_n hx hb d_Net_judge_63 rfl (lv_at hl 0 rfl) ?_
          refine lv_aload_n hx hb d_Net_judge_64 rfl (lv_at hl 1 rfl) ?_
          refine ly_get fx hk hw (1) rfl rfl i_Net 4 (by decide) rfl rfl (List.mem_cons_of_mem _ a_126) d_Net_judge_65 ?_
          refine lv_aload_n hx hb d_Net_judge_68 rfl (lv_at hl 1 rfl) ?_
          obtain ⟨r29, u30, hq31, h⟩ := ck_r h
          refine ly_callVi (As := []) (rest := [.int (u14.1 (1) 4), .int v1_28]) ZsC_ok fx hk hz hA hw (c_Net_definedTasks l F u14 _ hq31) (cw_V fx.2.2.2.2 a_435 a_255 a_256 a_2 ac_Net_definedTasks rfl rfl rfl hd_Net_definedTasks ⟨Nat.le_of_ble_eq_true rfl, Nat.le_of_ble_eq_true rfl⟩) (1) rfl rfl rfl rfl hl.1 rfl (Nat.le_of_ble_eq_true rfl) d_Net_judge_69 (Nat.zero_le _) (Nat.zero_le _) (fun r' u' H locs hp hw => ?_)
          cases hp
          refine lv_icmp_ne (tgt := 79) hx hb d_Net_judge_72 (by decide) (fun hc => ?_) (fun hc => ?_)
          · have h := it_f hc h
            refine lv_iconst (v := 0) hx hb d_Net_judge_79 (by decide) ?_
            refine lv_ior hx hb d_Net_judge_80 ?_
            refine lv_topi (fun v1_32 ev => ?_)
            have h := nk_r ev h
            refine lv_istore_n (lv' := [(1, .int v1_32), (0, .ref (ad 1))]) hx hb d_Net_judge_81 rfl hl (by decide) rfl (fun ls hl => ?_)
            refine lv_iload_n hx hb d_Net_judge_82 rfl (lv_at hl 0 rfl) ?_
            exact ly_reti fx hr hlocks hk hw (Option.some.inj h) d_Net_judge_83
          · have h := it_t hc h
            refine lv_iconst (v := 4) hx hb d_Net_judge_75 (by decide) ?_
            refine lv_goto (tgt := 80) hx hb d_Net_judge_76 (by decide) ?_
            refine lv_ior hx hb d_Net_judge_80 ?_
            refine lv_topi (fun v1_33 ev => ?_)
            have h := nk_r ev h
            refine lv_istore_n (lv' := [(1, .int v1_33), (0, .ref (ad 1))]) hx hb d_Net_judge_81 rfl hl (by decide) rfl (fun ls hl => ?_)
            refine lv_iload_n hx hb d_Net_judge_82 rfl (lv_at hl 0 rfl) ?_
            exact ly_reti fx hr hlocks hk hw (Option.some.inj h) d_Net_judge_83
        · have h := it_f hc h
          refine lv_iconst (v := 2) hx hb d_Net_judge_56 (by decide) ?_
          refine lv_goto (tgt := 61) hx hb d_Net_judge_57 (by decide) ?_
          refine lv_ior hx hb d_Net_judge_61 ?_
          refine lv_topi (fun v1_34 ev => ?_)
          have h := nk_r ev h
          refine lv_istore_n (lv' := [(1, .int v1_34), (0, .ref (ad 1))]) hx hb d_Net_judge_62 rfl hl (by decide) rfl (fun ls hl => ?_)
          refine lv_iload_n hx hb d_Net_judge_63 rfl (lv_at hl 0 rfl) ?_
          refine lv_aload_n hx hb d_Net_judge_64 rfl (lv_at hl 1 rfl) ?_
          refine ly_get fx hk hw (1) rfl rfl i_Net 4 (by decide) rfl rfl (List.mem_cons_of_mem _ a_126) d_Net_judge_65 ?_
          refine lv_aload_n hx hb d_Net_judge_68 rfl (lv_at hl 1 rfl) ?_
          obtain ⟨r35, u36, hq37, h⟩ := ck_r h
          refine ly_callVi (As := []) (rest := [.int (u14.1 (1) 4), .int v1_34]) ZsC_ok fx hk hz hA hw (c_Net_definedTasks l F u14 _ hq37) (cw_V fx.2.2.2.2 a_435 a_255 a_256 a_2 ac_Net_definedTasks rfl rfl rfl hd_Net_definedTasks ⟨Nat.le_of_ble_eq_true rfl, Nat.le_of_ble_eq_true rfl⟩) (1) rfl rfl rfl rfl hl.1 rfl (Nat.le_of_ble_eq_true rfl) d_Net_judge_69 (Nat.zero_le _) (Nat.zero_le _) (fun r' u' H locs hp hw => ?_)
          cases hp
          refine lv_icmp_ne (tgt := 79) hx hb d_Net_judge_72 (by decide) (fun hc => ?_) (fun hc => ?_)
          · have h := it_f hc h
            refine lv_iconst (v := 0) hx hb d_Net_judge_79 (by decide) ?_
            refine lv_ior hx hb d_Net_judge_80 ?_
            refine lv_topi (fun v1_38 ev => ?_)
            have h := nk_r ev h
            refine lv_istore_n (lv' := [(1, .int v1_38), (0, .ref (ad 1))]) hx hb d_Net_judge_81 rfl hl (by decide) rfl (fun ls hl => ?_)
            refine lv_iload_n hx hb d_Net_judge_82 rfl (lv_at hl 0 rfl) ?_
            exact ly_reti fx hr hlocks hk hw (Option.some.inj h) d_Net_judge_83
          · have h := it_t hc h
            refine lv_iconst (v := 4) hx hb d_Net_judge_75 (by decide) ?_
            refine lv_goto (tgt := 80) hx hb d_Net_judge_76 (by decide) ?_
            refine lv_ior hx hb d_Net_judge_80 ?_
            refine lv_topi (fun v1_39 ev => ?_)
            have h := nk_r ev h
            refine lv_istore_n (lv' := [(1, .int v1_39), (0, .ref (ad 1))]) hx hb d_Net_judge_81 rfl hl (by decide) rfl (fun ls hl => ?_)
            refine lv_iload_n hx hb d_Net_judge_82 rfl (lv_at hl 0 rfl) ?_
            exact ly_reti fx hr hlocks hk hw (Option.some.inj h) d_Net_judge_83
    · have h := it_f hc h
      refine lv_iconst (v := -1) hx hb d_Net_judge_14 (by decide) ?_
      exact ly_reti fx hr hlocks hk hw (Option.some.inj h) d_Net_judge_15
