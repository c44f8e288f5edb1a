set_option maxRecDepth 100000 in
set_option maxHeartbeats 4000000 in
theorem c_Work_isOpen (l : Launch) (a1 : Int32) (u : St) (res : Int32 × St) (h : sp_Work_isOpen a1 u = some res) : ly_Mi ZsC clA layC l y_Work_isOpen w_Work_isOpen { frames := 0, cells := 0, slots := 0, locals := 0 } (fun ad => [.ref (ad 45), .int a1]) u (fun r1 u1 => (r1, u1) = res) := by
  refine ly_enti (cc := b_Work_isOpen) (maxL := 2) (ret := (some .boolean)) (by decide) rfl (fun ad => Nat.le_of_ble_eq_true rfl) ?_
  intro p e s m below meth c D ad cA A ls fx hr hlocks hk hA hz hw hl
  have hl : lv_has ls 2 [(0, .ref (ad 45)), (1, .int a1)] := hl
  have hx := fx.1
  have hb := fx.2.1
  unfold sp_Work_isOpen at h
  refine lv_aload_n hx hb d_Work_isOpen_0 rfl (lv_at hl 0 rfl) ?_
  refine ly_getr fx hk hw (45) rfl rfl i_WorkList 1 (by decide) rfl rfl (List.mem_cons_of_mem _ a_149) d_Work_isOpen_1 ?_
  refine lv_iload_n hx hb d_Work_isOpen_4 rfl (lv_at hl 1 rfl) ?_
  obtain ⟨hi1, h⟩ := it_in h
  refine ly_iald fx hk hw (47) rfl hi1 d_Work_isOpen_5 ?_
  refine lv_iconst (v := 1) hx hb d_Work_isOpen_6 (by decide) ?_
  refine lv_icmp_eq (tgt := 20) hx hb d_Work_isOpen_7 (by decide) (fun hc => ?_) (fun hc => ?_)
  · have h := it_t hc h
    refine lv_iconst (v := 1) hx hb d_Work_isOpen_20 (by decide) ?_
    refine lv_goto (tgt := 25) hx hb d_Work_isOpen_21 (by decide) ?_
    exact ly_retz fx hr hlocks hk hw (Or.inr rfl) (Option.some.inj h) d_Work_isOpen_25
  · have h := it_f hc h
    refine lv_aload_n hx hb d_Work_isOpen_10 rfl (lv_at hl 0 rfl) ?_
    refine ly_getr fx hk hw (45) rfl rfl i_WorkList 1 (by decide) rfl rfl (List.mem_cons_of_mem _ a_149) d_Work_isOpen_11 ?_
    refine lv_iload_n hx hb d_Work_isOpen_14 rfl (lv_at hl 1 rfl) ?_
    obtain ⟨hi2, h⟩ := it_in h
    refine ly_iald fx hk hw (47) rfl hi2 d_Work_isOpen_15 ?_
    refine lv_iconst (v := 2) hx hb d_Work_isOpen_16 (by decide) ?_
    refine lv_icmp_ne (tgt := 24) hx hb d_Work_isOpen_17 (by decide) (fun hc => ?_) (fun hc => ?_)
    · have h := it_f hc h
      refine lv_iconst (v := 0) hx hb d_Work_isOpen_24 (by decide) ?_
      exact ly_retz fx hr hlocks hk hw (Or.inl rfl) (Option.some.inj h) d_Work_isOpen_25
    · have h := it_t hc h
      refine lv_iconst (v := 1) hx hb d_Work_isOpen_20 (by decide) ?_
      refine lv_goto (tgt := 25) hx hb d_Work_isOpen_21 (by decide) ?_
      exact ly_retz fx hr hlocks hk hw (Or.inr rfl) (Option.some.inj h) d_Work_isOpen_25
set_option maxRecDepth 100000 in
set_option maxHeartbeats 4000000 in
theorem wl_Work_withdrawOpen_2 {p : Program} {l : Launch} {e : Env} {s : State} {m : MethodId} {args : Array Value} {below : List Frame} {meth : Method} {c : Code} {D : va_G} {ad : Nat → Nat} {cA : Nat → ClassId} {A : Nat → Prop} (fx : CallFix p m c b_Work_withdrawOpen 4 s args w_Work_withdrawOpen y_Work_withdrawOpen.cls) (hr : meth.sig.returnType = none) (hlocks : meth.locks = false) (hk : ly_K D clA layC cA s) (hA : ∀ q, s.heap.size ≤ q → A q) (hz : ZsC A s s.heap) (F : Nat) (v1 : Int32) (v2 : Int32) {k2 : Int32 → St → Option (Int32 × St)} {res : Int32 × St}
    (hX2 : ∀ (v3 : Int32) (u : St) (H : Heap) (locs : List Loc) (ls : Array Slot), k2 v3 u = some res → lv_has ls 4 [(0, .ref (ad 45)), (1, .int v1), (2, .int v2), (3, .int v3)] → ly_G D clA layC ad cA A s.heap u H locs → W p l e { frames := 1, cells := 0, slots := 0, locals := 21 } s m args below meth c H locs 0 0 (MQ below (va_Qv (fun u1 => ((0 : Int32), u1) = res) (ly_B D clA layC ad cA A) A) args s 0 0 A) (F0 m 30 ls [])) :
    ∀ (n : Nat) (v3 : Int32) (u : St) (H : Heap) (locs : List Loc) (ls : Array Slot), lp_Work_withdrawOpen_2 F v1 v2 k2 n v3 u = some res → lv_has ls 4 [(0, .ref (ad 45)), (1, .int v1), (2, .int v2), (3, .int v3)] → ly_G D clA layC ad cA A s.heap u H locs → W p l e { frames := 1, cells := 0, slots := 0, locals := 21 } s m args below meth c H locs 0 0 (MQ below (va_Qv (fun u1 => ((0 : Int32), u1) = res) (ly_B D clA layC ad cA A) A) args s 0 0 A) (F0 m 2 ls []) := by
  have hx := fx.1
  have hb := fx.2.1
  intro n
  induction n with
  | zero => intro v3 u H locs ls h; exact nomatch h
  | succ n ih =>
    intro v3 u H locs ls h hl hw
    rw [lp_Work_withdrawOpen_2] at h
    refine lv_iload_n hx hb d_Work_withdrawOpen_2 rfl (lv_at hl 3 rfl) ?_
    refine lv_iload_n hx hb d_Work_withdrawOpen_3 rfl (lv_at hl 1 rfl) ?_
    refine lv_iload_n hx hb d_Work_withdrawOpen_4 rfl (lv_at hl 2 rfl) ?_
    refine lv_iadd hx hb d_Work_withdrawOpen_5 ?_
    refine lv_icmp_ge (tgt := 30) hx hb d_Work_withdrawOpen_6 (by decide) (fun hc => ?_) (fun hc => ?_)
    · have h := it_t hc h
      exact hX2 v3 u _ _ _ h (lv_sub hl [0, 1, 2, 3] rfl) hw
    · have h := it_f hc h
      refine lv_aload_n hx hb d_Work_withdrawOpen_9 rfl (lv_at hl 0 rfl) ?_
      refine lv_iload_n hx hb d_Work_withdrawOpen_10 rfl (lv_at hl 3 rfl) ?_
      obtain ⟨r1, u2, hq3, h⟩ := ck_r h
      refine ly_callVi (As := [.int v3]) (rest := []) ZsC_ok fx hk hz hA hw (c_Work_isOpen l v3 u _ hq3) (cw_V fx.2.2.2.2 a_274 a_275 a_276 a_5 ac_Work_isOpen rfl rfl rfl hd_Work_isOpen ⟨Nat.le_of_ble_eq_true rfl, Nat.le_of_ble_eq_true rfl⟩) (45) rfl rfl rfl rfl hl.1 rfl (Nat.le_of_ble_eq_true rfl) d_Work_withdrawOpen_11 (Nat.zero_le _) (Nat.zero_le _) (fun r' u' H locs hp hw => ?_)
      cases hp
      refine lv_if_eq (tgt := 24) hx hb d_Work_withdrawOpen_14 (by decide) (fun hc => ?_) (fun hc => ?_)
      · have h := it_t hc h
        refine lv_iinc (lv' := [(3, .int (v3 + (1 : Int32))), (0, .ref (ad 45)), (1, .int v1), (2, .int v2)]) (k := 3) hx hb d_Work_withdrawOpen_24 hl rfl (oi_p1 _) (by decide) rfl (fun ls hl => ?_)
        refine lv_goto (tgt := 2) hx hb d_Work_withdrawOpen_27 (by decide) ?_
        exact ih (v3 + (1 : Int32)) u2 _ _ _ h (lv_sub hl [1, 2, 3, 0] rfl) hw
      · have h := it_f hc h
        refine lv_aload_n hx hb d_Work_withdrawOpen_17 rfl (lv_at hl 0 rfl) ?_
        refine ly_getr fx hk hw (45) rfl rfl i_WorkList 1 (by decide) rfl rfl (List.mem_cons_of_mem _ a_149) d_Work_withdrawOpen_18 ?_
        refine lv_iload_n hx hb d_Work_withdrawOpen_21 rfl (lv_at hl 3 rfl) ?_
        refine lv_iconst (v := 5) hx hb d_Work_withdrawOpen_22 (by decide) ?_
        obtain ⟨hi4, h⟩ := it_in h
        refine ly_iast fx hk hw (47) rfl hi4 d_Work_withdrawOpen_23 (fun H locs hw => ?_)
        obtain ⟨u5, ev⟩ : ∃ z, z = ly_pi u2 (47) v3.toNatClampNeg (5 : Int32) := ⟨_, rfl⟩
        rw [← ev] at hw
        have h := nk_r ev h
        refine lv_iinc (lv' := [(3, .int (v3 + (1 : Int32))), (0, .ref (ad 45)), (1, .int v1), (2, .int v2)]) (k := 3) hx hb d_Work_withdrawOpen_24 hl rfl (oi_p1 _) (by decide) rfl (fun ls hl => ?_)
        refine lv_goto (tgt := 2) hx hb d_Work_withdrawOpen_27 (by decide) ?_
        exact ih (v3 + (1 : Int32)) u5 _ _ _ h (lv_sub hl [1, 2, 3, 0] rfl) hw
set_option maxRecDepth 100000 in
set_option maxHeartbeats 4000000 in
theorem c_Work_withdrawOpen (l : Launch) (F : Nat) (a1 : Int32) (a2 : Int32) (u : St) (res : Int32 × St) (h : sp_Work_withdrawOpen F a1 a2 u = some res) : ly_Mv ZsC clA layC l y_Work_withdrawOpen w_Work_withdrawOpen { frames := 1, cells := 0, slots := 0, locals := 21 } (fun ad => [.ref (ad 45), .int a1, .int a2]) u (fun u1 => ((0 : Int32), u1) = res) := by
  refine ly_entv (cc := b_Work_withdrawOpen) (maxL := 4) (ret := none) (by decide) rfl (fun ad => Nat.le_of_ble_eq_true rfl) ?_
  intro p e s m below meth c D ad cA A ls fx hr hlocks hk hA hz hw hl
  have hl : lv_has ls 4 [(0, .ref (ad 45)), (1, .int a1), (2, .int a2)] := hl
  have hx := fx.1
  have hb := fx.2.1
  unfold sp_Work_withdrawOpen at h
  refine lv_iload_n hx hb d_Work_withdrawOpen_0 rfl (lv_at hl 1 rfl) ?_
  refine lv_istore_n (lv' := [(3, .int a1), (0, .ref (ad 45)), (1, .int a1), (2, .int a2)]) hx hb d_Work_withdrawOpen_1 rfl hl (by decide) rfl (fun ls hl => ?_)
  refine wl_Work_withdrawOpen_2 fx hr hlocks hk hA hz F a1 a2 (fun v3_6 u7 H locs ls h hl hw => ?_) _ a1 u _ _ _ h (lv_sub hl [1, 2, 3, 0] rfl) hw
  exact ly_retv fx hr hlocks hk hw (Option.some.inj h) d_Work_withdrawOpen_30
set_option maxRecDepth 100000 in
set_option maxHeartbeats 4000000 in
theorem c_Work_hasRoomFor (l : Launch) (a1 : Int32) (u : St) (res : Int32 × St) (h : sp_Work_hasRoomFor a1 u = some res) : ly_Mi ZsC clA layC l y_Work_hasRoomFor w_Work_hasRoomFor { frames := 0, cells := 0, slots := 0, locals := 0 } (fun ad => [.ref (ad 45), .int a1]) u (fun r1 u1 => (r1, u1) = res) := by
  refine ly_enti (cc := b_Work_hasRoomFor) (maxL := 2) (ret := (some .boolean)) (by decide) rfl (fun ad => Nat.le_of_ble_eq_true rfl) ?_
  intro p e s m below meth c D ad cA A ls fx hr hlocks hk hA hz hw hl
  have hl : lv_has ls 2 [(0, .ref (ad 45)), (1, .int a1)] := hl
  have hx := fx.1
  have hb := fx.2.1
  unfold sp_Work_hasRoomFor at h
  refine lv_aload_n hx hb d_Work_hasRoomFor_0 rfl (lv_at hl 0 rfl) ?_
  refine ly_get fx hk hw (45) rfl rfl i_WorkList 3 (by decide) rfl rfl (List.mem_cons_of_mem _ a_153) d_Work_hasRoomFor_1 ?_
  refine lv_iload_n hx hb d_Work_hasRoomFor_4 rfl (lv_at hl 1 rfl) ?_
  refine lv_iadd hx hb d_Work_hasRoomFor_5 ?_
  refine lv_bipush (v := 60) hx hb d_Work_hasRoomFor_6 (by decide) ?_
  refine lv_icmp_gt (tgt := 15) hx hb d_Work_hasRoomFor_8 (by decide) (fun hc => ?_) (fun hc => ?_)
  · have h := it_t hc h
    refine lv_iconst (v := 0) hx hb d_Work_hasRoomFor_15 (by decide) ?_
    exact ly_retz fx hr hlocks hk hw (Or.inl rfl) (Option.some.inj h) d_Work_hasRoomFor_16
  · have h := it_f hc h
    refine lv_iconst (v := 1) hx hb d_Work_hasRoomFor_11 (by decide) ?_
    refine lv_goto (tgt := 16) hx hb d_Work_hasRoomFor_12 (by decide) ?_
    exact ly_retz fx hr hlocks hk hw (Or.inr rfl) (Option.some.inj h) d_Work_hasRoomFor_16
set_option maxRecDepth 100000 in
set_option maxHeartbeats 4000000 in
theorem wl_Work_offer_12 {p : Program} {l : Launch} {e : Env} {s : State} {m : MethodId} {args : Array Value} {below : List Frame} {meth : Method} {c : Code} {D : va_G} {ad : Nat → Nat} {cA : Nat → ClassId} {A : Nat → Prop} (fx : CallFix p m c b_Work_offer 6 s args w_Work_offer y_Work_offer.cls) (hr : meth.sig.returnType = (some .int)) (hlocks : meth.locks = false) (hk : ly_K D clA layC cA s) (hA : ∀ q, s.heap.size ≤ q → A q) (hz : ZsC A s s.heap) (F : Nat) (v1 : Int32) (v2 : Int32) (v3 : Int32) (v4 : Int32) {k12 : Int32 → St → Option (Int32 × St)} {res : Int32 × St}
    (hX12 : ∀ (v5 : Int32) (u : St) (H : Heap) (locs : List Loc) (ls : Array Slot), k12 v5 u = some res → lv_has ls 6 [(0, .ref (ad 45)), (1, .int v1), (2, .int v2), (3, .int v3), (4, .int v4), (5, .int v5)] → ly_G D clA layC ad cA A s.heap u H locs → W p l e { frames := 0, cells := 0, slots := 0, locals := 0 } s m args below meth c H locs 0 0 (MQ below (va_Qi (fun r1 u1 => (r1, u1) = res) (ly_B D clA layC ad cA A) A) args s 0 0 A) (F0 m 51 ls [])) :
    ∀ (n : Nat) (v5 : Int32) (u : St) (H : Heap) (locs : List Loc) (ls : Array Slot), lp_Work_offer_12 F v1 v2 v3 v4 k12 n v5 u = some res → lv_has ls 6 [(0, .ref (ad 45)), (1, .int v1), (2, .int v2), (3, .int v3), (4, .int v4), (5, .int v5)] → ly_G D clA layC ad cA A s.heap u H locs → W p l e { frames := 0, cells := 0, slots := 0, locals := 0 } s m args below meth c H locs 0 0 (MQ below (va_Qi (fun r1 u1 => (r1, u1) = res) (ly_B D clA layC ad cA A) A) args s 0 0 A) (F0 m 12 ls []) := by
  have hx := fx.1
  have hb := fx.2.1
  intro n
  induction n with
  | zero => intro v5 u H locs ls h; exact nomatch h
  | succ n ih =>
    intro v5 u H locs ls h hl hw
    rw [lp_Work_offer_12] at h
    refine lv_iload hx hb d_Work_offer_12 (lv_at hl 5 rfl) ?_
    refine lv_iload hx hb d_Work_offer_14 (lv_at hl 4 rfl) ?_
    refine lv_iload_n hx hb d_Work_offer_16 rfl (lv_at hl 2 rfl) ?_
    refine lv_iadd hx hb d_Work_offer_17 ?_
    refine lv_icmp_ge (tgt := 51) hx hb d_Work_offer_18 (by decide) (fun hc => ?_) (fun hc => ?_)
    · have h := it_t hc h
      exact hX12 v5 u _ _ _ h (lv_sub hl [0, 1, 2, 3, 4, 5] rfl) hw
    · have h := it_f hc h
      refine lv_aload_n hx hb d_Work_offer_21 rfl (lv_at hl 0 rfl) ?_
      refine ly_getr fx hk hw (45) rfl rfl i_WorkList 0 (by decide) rfl rfl (List.mem_cons_of_mem _ a_147) d_Work_offer_22 ?_
      refine lv_iload hx hb d_Work_offer_25 (lv_at hl 5 rfl) ?_
      refine lv_iload_n hx hb d_Work_offer_27 rfl (lv_at hl 1 rfl) ?_
      obtain ⟨hi2, h⟩ := it_in h
      refine ly_iast fx hk hw (46) rfl hi2 d_Work_offer_28 (fun H locs hw => ?_)
      obtain ⟨u3, ev⟩ : ∃ z, z = ly_pi u (46) v5.toNatClampNeg v1 := ⟨_, rfl⟩
      rw [← ev] at hw
      have h := nk_r ev h
      refine lv_aload_n hx hb d_Work_offer_29 rfl (lv_at hl 0 rfl) ?_
      refine ly_getr fx hk hw (45) rfl rfl i_WorkList 1 (by decide) rfl rfl (List.mem_cons_of_mem _ a_149) d_Work_offer_30 ?_
      refine lv_iload hx hb d_Work_offer_33 (lv_at hl 5 rfl) ?_
      refine lv_iconst (v := 1) hx hb d_Work_offer_35 (by decide) ?_
      obtain ⟨hi4, h⟩ := it_in h
      refine ly_iast fx hk hw (47) rfl hi4 d_Work_offer_36 (fun H locs hw => ?_)
      obtain ⟨u5, ev⟩ : ∃ z, z = ly_pi u3 (47) v5.toNatClampNeg (1 : Int32) := ⟨_, rfl⟩
      rw [← ev] at hw
      have h := nk_r ev h
      refine lv_aload_n hx hb d_Work_offer_37 rfl (lv_at hl 0 rfl) ?_
      refine ly_getr fx hk hw (45) rfl rfl i_WorkList 2 (by decide) rfl rfl (List.mem_cons_of_mem _ a_151) d_Work_offer_38 ?_
      refine lv_iload hx hb d_Work_offer_41 (lv_at hl 5 rfl) ?_
      refine lv_iload_n hx hb d_Work_offer_43 rfl (lv_at hl 3 rfl) ?_
      obtain ⟨hi6, h⟩ := it_in h
      refine ly_iast fx hk hw (48) rfl hi6 d_Work_offer_44 (fun H locs hw => ?_)
      obtain ⟨u7, ev⟩ : ∃ z, z = ly_pi u5 (48) v5.toNatClampNeg v3 := ⟨_, rfl⟩
      rw [← ev] at hw
      have h := nk_r ev h
      refine lv_iinc (lv' := [(5, .int (v5 + (1 : Int32))), (0, .ref (ad 45)), (1, .int v1), (2, .int v2), (3, .int v3), (4, .int v4)]) (k := 5) hx hb d_Work_offer_45 hl rfl (oi_p1 _) (by decide) rfl (fun ls hl => ?_)
      refine lv_goto (tgt := 12) hx hb d_Work_offer_48 (by decide) ?_
      exact ih (v5 + (1 : Int32)) u7 _ _ _ h (lv_sub hl [1, 2, 3, 4, 5, 0] rfl) hw
set_option maxRecDepth 100000 in
set_option maxHeartbeats 4000000 in
theorem c_Work_offer (l : Launch) (F : Nat) (a1 : Int32) (a2 : Int32) (a3 : Int32) (u : St) (res : Int32 × St) (h : sp_Work_offer F a1 a2 a3 u = some res) : ly_Mi ZsC clA layC l y_Work_offer w_Work_offer { frames := 0, cells := 0, slots := 0, locals := 0 } (fun ad => [.ref (ad 45), .int a1, .int a2, .int a3]) u (fun r1 u1 => (r1, u1) = res) := by
  refine ly_enti (cc := b_Work_offer) (maxL := 6) (ret := (some .int)) (by decide) rfl (fun ad => Nat.le_of_ble_eq_true rfl) ?_
  intro p e s m below meth c D ad cA A ls fx hr hlocks hk hA hz hw hl
  have hl : lv_has ls 6 [(0, .ref (ad 45)), (1, .int a1), (2, .int a2), (3, .int a3)] := hl
  have hx := fx.1
  have hb := fx.2.1
  unfold sp_Work_offer at h
  refine lv_aload_n hx hb d_Work_offer_0 rfl (lv_at hl 0 rfl) ?_
  refine ly_get fx hk hw (45) rfl rfl i_WorkList 3 (by decide) rfl rfl (List.mem_cons_of_mem _ a_153) d_Work_offer_1 ?_
  refine lv_iconst (v := 1) hx hb d_Work_offer_4 (by decide) ?_
  refine lv_iadd hx hb d_Work_offer_5 ?_
  refine lv_topi (fun v4_1 ev => ?_)
  have h := nk_r ev h
  refine lv_istore (lv' := [(4, .int v4_1), (0, .ref (ad 45)), (1, .int a1), (2, .int a2), (3, .int a3)]) hx hb d_Work_offer_6 hl (by decide) rfl (fun ls hl => ?_)
  refine lv_iload hx hb d_Work_offer_8 (lv_at hl 0 rfl) ?_
  refine lv_istore (lv' := [(5, .int v4_1), (4, .int v4_1), (0, .ref (ad 45)), (1, .int a1), (2, .int a2), (3, .int a3)]) hx hb d_Work_offer_10 hl (by decide) rfl (fun ls hl => ?_)
  refine wl_Work_offer_12 fx hr hlocks hk hA hz F a1 a2 a3 v4_1 (fun v5_8 u9 H locs ls h hl hw => ?_) _ v4_1 u _ _ _ h (lv_sub hl [2, 3, 4, 5, 1, 0] rfl) hw
  refine lv_aload_n hx hb d_Work_offer_51 rfl (lv_at hl 0 rfl) ?_
  refine lv_dup hx hb d_Work_offer_52 rfl ?_
  refine ly_get fx hk hw (45) rfl rfl i_WorkList 3 (by decide) rfl rfl (List.mem_cons_of_mem _ a_153) d_Work_offer_53 ?_
  refine lv_iload_n hx hb d_Work_offer_56 rfl (lv_at hl 2 rfl) ?_
  refine lv_iadd hx hb d_Work_offer_57 ?_
  refine ly_put (v := ((u9.1 (45) 3) + a2)) fx hk hw (45) rfl rfl i_WorkList t_WorkList t_WorkList_ok n_WorkList 3 (by decide) rfl rfl rfl (List.mem_cons_of_mem _ a_153) rfl rfl d_Work_offer_58 (fun H locs hw => ?_)
  obtain ⟨u10, ev⟩ : ∃ z, z = ly_pi u9 (45) 3 ((u9.1 (45) 3) + a2) := ⟨_, rfl⟩
  rw [← ev] at hw
  have h := nk_r ev h
  refine lv_iload hx hb d_Work_offer_61 (lv_at hl 4 rfl) ?_
  exact ly_reti fx hr hlocks hk hw (Option.some.inj h) d_Work_offer_63
set_option maxRecDepth 100000 in
set_option maxHeartbeats 4000000 in
theorem c_Work_has (l : Launch) (a1 : Int32) (u : St) (res : Int32 × St) (h : sp_Work_has a1 u = some res) : ly_Mi ZsC clA layC l y_Work_has w_Work_has { frames := 0, cells := 0, slots := 0, locals := 0 } (fun ad => [.ref (ad 45), .int a1]) u (fun r1 u1 => (r1, u1) = res) := by
  refine ly_enti (cc := b_Work_has) (maxL := 2) (ret := (some .boolean)) (by decide) rfl (fun ad => Nat.le_of_ble_eq_true rfl) ?_
  intro p e s m below meth c D ad cA A ls fx hr hlocks hk hA hz hw hl
  have hl : lv_has ls 2 [(0, .ref (ad 45)), (1, .int a1)] := hl
  have hx := fx.1
  have hb := fx.2.1
  unfold sp_Work_has at h
  refine lv_iload_n hx hb d_Work_has_0 rfl (lv_at hl 1 rfl) ?_
  refine lv_iconst (v := 1) hx hb d_Work_has_1 (by decide) ?_
  refine lv_icmp_lt (tgt := 17) hx hb d_Work_has_2 (by decide) (fun hc => ?_) (fun hc => ?_)
  · have h := it_t hc h
    refine lv_iconst (v := 0) hx hb d_Work_has_17 (by decide) ?_
    exact ly_retz fx hr hlocks hk hw (Or.inl rfl) (Option.some.inj h) d_Work_has_18
  · have h := it_f hc h
    refine lv_iload_n hx hb d_Work_has_5 rfl (lv_at hl 1 rfl) ?_
    refine lv_aload_n hx hb d_Work_has_6 rfl (lv_at hl 0 rfl) ?_
    refine ly_get fx hk hw (45) rfl rfl i_WorkList 3 (by decide) rfl rfl (List.mem_cons_of_mem _ a_153) d_Work_has_7 ?_
    refine lv_icmp_gt (tgt := 17) hx hb d_Work_has_10 (by decide) (fun hc => ?_) (fun hc => ?_)
    · have h := it_t hc h
      refine lv_iconst (v := 0) hx hb d_Work_has_17 (by decide) ?_
      exact ly_retz fx hr hlocks hk hw (Or.inl rfl) (Option.some.inj h) d_Work_has_18
    · have h := it_f hc h
      refine lv_iconst (v := 1) hx hb d_Work_has_13 (by decide) ?_
      refine lv_goto (tgt := 18) hx hb d_Work_has_14 (by decide) ?_
      exact ly_retz fx hr hlocks hk hw (Or.inr rfl) (Option.some.inj h) d_Work_has_18
set_option maxRecDepth 100000 in
set_option maxHeartbeats 4000000 in
theorem wl_Work_countCompleted_5 {p : Program} {l : Launch} {e : Env} {s : State} {m : MethodId} {args : Array Value} {below : List Frame} {meth : Method} {c : Code} {D : va_G} {ad : Nat → Nat} {cA : Nat → ClassId} {A : Nat → Prop} (fx : CallFix p m c b_Work_countCompleted 5 s args w_Work_countCompleted y_Work_countCompleted.cls) (hr : meth.sig.returnType = (some .int)) (hlocks : meth.locks = false) (hk : ly_K D clA layC cA s) (hA : ∀ q, s.heap.size ≤ q → A q) (hz : ZsC A s s.heap) (F : Nat) (v1 : Int32) (v2 : Int32) {k5 : Int32 → Int32 → St → Option (Int32 × St)} {res : Int32 × St}
    (hX5 : ∀ (v3 : Int32) (v4 : Int32) (u : St) (H : Heap) (locs : List Loc) (ls : Array Slot), k5 v3 v4 u = some res → lv_has ls 5 [(0, .ref (ad 45)), (1, .int v1), (2, .int v2), (3, .int v3), (4, .int v4)] → ly_G D clA layC ad cA A s.heap u H locs → W p l e { frames := 0, cells := 0, slots := 0, locals := 0 } s m args below meth c H locs 0 0 (MQ below (va_Qi (fun r1 u1 => (r1, u1) = res) (ly_B D clA layC ad cA A) A) args s 0 0 A) (F0 m 33 ls [])) :
    ∀ (n : Nat) (v3 : Int32) (v4 : Int32) (u : St) (H : Heap) (locs : List Loc) (ls : Array Slot), lp_Work_countCompleted_5 F v1 v2 k5 n v3 v4 u = some res → lv_has ls 5 [(0, .ref (ad 45)), (1, .int v1), (2, .int v2), (3, .int v3), (4, .int v4)] → ly_G D clA layC ad cA A s.heap u H locs → W p l e { frames := 0, cells := 0, slots := 0, locals := 0 } s m args below meth c H locs 0 0 (MQ below (va_Qi (fun r1 u1 => (r1, u1) = res) (ly_B D clA layC ad cA A) A) args s 0 0 A) (F0 m 5 ls []) := by
  have hx := fx.1
  have hb := fx.2.1
  intro n
  induction n with
  | zero => intro v3 v4 u H locs ls h; exact nomatch h
  | succ n ih =>
    intro v3 v4 u H locs ls h hl hw
    rw [lp_Work_countCompleted_5] at h
    refine lv_iload hx hb d_Work_countCompleted_5 (lv_at hl 4 rfl) ?_
    refine lv_iload_n hx hb d_Work_countCompleted_7 rfl (lv_at hl 1 rfl) ?_
    refine lv_iload_n hx hb d_Work_countCompleted_8 rfl (lv_at hl 2 rfl) ?_
    refine lv_iadd hx hb d_Work_countCompleted_9 ?_
    refine lv_icmp_ge (tgt := 33) hx hb d_Work_countCompleted_10 (by decide) (fun hc => ?_) (fun hc => ?_)
    · have h := it_t hc h
      exact hX5 v3 v4 u _ _ _ h (lv_sub hl [0, 1, 2, 3, 4] rfl) hw
    · have h := it_f hc h
      refine lv_aload_n hx hb d_Work_countCompleted_13 rfl (lv_at hl 0 rfl) ?_
      refine ly_getr fx hk hw (45) rfl rfl i_WorkList 1 (by decide) rfl rfl (List.mem_cons_of_mem _ a_149) d_Work_countCompleted_14 ?_
      refine lv_iload hx hb d_Work_countCompleted_17 (lv_at hl 4 rfl) ?_
      obtain ⟨hi1, h⟩ := it_in h
      refine ly_iald fx hk hw (47) rfl hi1 d_Work_countCompleted_19 ?_
      refine lv_iconst (v := 3) hx hb d_Work_countCompleted_20 (by decide) ?_
      refine lv_icmp_ne (tgt := 27) hx hb d_Work_countCompleted_21 (by decide) (fun hc => ?_) (fun hc => ?_)
      · have h := it_f hc h
        refine lv_iinc (lv' := [(4, .int (v4 + (1 : Int32))), (0, .ref (ad 45)), (1, .int v1), (2, .int v2), (3, .int v3)]) (k := 4) hx hb d_Work_countCompleted_27 hl rfl (oi_p1 _) (by decide) rfl (fun ls hl => ?_)
        refine lv_goto (tgt := 5) hx hb d_Work_countCompleted_30 (by decide) ?_
        exact ih v3 (v4 + (1 : Int32)) u _ _ _ h (lv_sub hl [1, 2, 3, 4, 0] rfl) hw
      · have h := it_t hc h
        refine lv_iinc (lv' := [(3, .int (v3 + (1 : Int32))), (0, .ref (ad 45)), (1, .int v1), (2, .int v2), (4, .int v4)]) (k := 3) hx hb d_Work_countCompleted_24 hl rfl (oi_p1 _) (by decide) rfl (fun ls hl => ?_)
        refine lv_iinc (lv' := [(4, .int (v4 + (1 : Int32))), (3, .int (v3 + (1 : Int32))), (0, .ref (ad 45)), (1, .int v1), (2, .int v2)]) (k := 4) hx hb d_Work_countCompleted_27 hl rfl (oi_p1 _) (by decide) rfl (fun ls hl => ?_)
        refine lv_goto (tgt := 5) hx hb d_Work_countCompleted_30 (by decide) ?_
        exact ih (v3 + (1 : Int32)) (v4 + (1 : Int32)) u _ _ _ h (lv_sub hl [2, 3, 4, 1, 0] rfl) hw
set_option maxRecDepth 100000 in
set_option maxHeartbeats 4000000 in
theorem c_Work_countCompleted (l : Launch) (F : Nat) (a1 : Int32) (a2 : Int32) (u : St) (res : Int32 × St) (h : sp_Work_countCompleted F a1 a2 u = some res) : ly_Mi ZsC clA layC l y_Work_countCompleted w_Work_countCompleted { frames := 0, cells := 0, slots := 0, locals := 0 } (fun ad => [.ref (ad 45), .int a1, .int a2]) u (fun r1 u1 => (r1, u1) = res) := by
  refine ly_enti (cc := b_Work_countCompleted) (maxL := 5) (ret := (some .int)) (by decide) rfl (fun ad => Nat.le_of_ble_eq_true rfl) ?_
  intro p e s m below meth c D ad cA A ls fx hr hlocks hk hA hz hw hl
  have hl : lv_has ls 5 [(0, .ref (ad 45)), (1, .int a1), (2, .int a2)] := hl
  have hx := fx.1
  have hb := fx.2.1
  unfold sp_Work_countCompleted at h
  refine lv_iconst (v := 0) hx hb d_Work_countCompleted_0 (by decide) ?_
  refine lv_istore_n (lv' := [(3, .int (0 : Int32)), (0, .ref (ad 45)), (1, .int a1), (2, .int a2)]) hx hb d_Work_countCompleted_1 rfl hl (by decide) rfl (fun ls hl => ?_)
  refine lv_iload_n hx hb d_Work_countCompleted_2 rfl (lv_at hl 2 rfl) ?_
  refine lv_istore (lv' := [(4, .int a1), (3, .int (0 : Int32)), (0, .ref (ad 45)), (1, .int a1), (2, .int a2)]) hx hb d_Work_countCompleted_3 hl (by decide) rfl (fun ls hl => ?_)
  refine wl_Work_countCompleted_5 fx hr hlocks hk hA hz F a1 a2 (fun v3_2 v4_3 u4 H locs ls h hl hw => ?_) _ (0 : Int32) a1 u _ _ _ h (lv_sub hl [2, 3, 4, 1, 0] rfl) hw
  refine lv_iload_n hx hb d_Work_countCompleted_33 rfl (lv_at hl 3 rfl) ?_
  exact ly_reti fx hr hlocks hk hw (Option.some.inj h) d_Work_countCompleted_34
set_option maxRecDepth 100000 in
set_option maxHeartbeats 4000000 in
theorem wl_Work_isAnyOpen_2 {p : Program} {l : Launch} {e : Env} {s : State} {m : MethodId} {args : Array Value} {below : List Frame} {meth : Method} {c : Code} {D : va_G} {ad : Nat → Nat} {cA : Nat → ClassId} {A : Nat → Prop} (fx : CallFix p m c b_Work_isAnyOpen 4 s args w_Work_isAnyOpen y_Work_isAnyOpen.cls) (hr : meth.sig.returnType = (some .boolean)) (hlocks : meth.locks = false) (hk : ly_K D clA layC cA s) (hA : ∀ q, s.heap.size ≤ q → A q) (hz : ZsC A s s.heap) (F : Nat) (v1 : Int32) (v2 : Int32) {k2 : Int32 → St → Option (Int32 × St)} {res : Int32 × St}
    (hX2 : ∀ (v3 : Int32) (u : St) (H : Heap) (locs : List Loc) (ls : Array Slot), k2 v3 u = some res → lv_has ls 4 [(0, .ref (ad 45)), (1, .int v1), (2, .int v2), (3, .int v3)] → ly_G D clA layC ad cA A s.heap u H locs → W p l e { frames := 1, cells := 0, slots := 0, locals := 21 } s m args below meth c H locs 0 0 (MQ below (va_Qi (fun r1 u1 => (r1, u1) = res) (ly_B D clA layC ad cA A) A) args s 0 0 A) (F0 m 25 ls [])) :
    ∀ (n : Nat) (v3 : Int32) (u : St) (H : Heap) (locs : List Loc) (ls : Array Slot), lp_Work_isAnyOpen_2 F v1 v2 k2 n v3 u = some res → lv_has ls 4 [(0, .ref (ad 45)), (1, .int v1), (2, .int v2), (3, .int v3)] → ly_G D clA layC ad cA A s.heap u H locs → W p l e { frames := 1, cells := 0, slots := 0, locals := 21 } s m args below meth c H locs 0 0 (MQ below (va_Qi (fun r1 u1 => (r1, u1) = res) (ly_B D clA layC ad cA A) A) args s 0 0 A) (F0 m 2 ls []) := by
  have hx := fx.1
  have hb := fx.2.1
  intro n
  induction n with
  | zero => intro v3 u H locs ls h; exact nomatch h
  | succ n ih =>
    intro v3 u H locs ls h hl hw
    rw [lp_Work_isAnyOpen_2] at h
    refine lv_iload_n hx hb d_Work_isAnyOpen_2 rfl (lv_at hl 3 rfl) ?_
    refine lv_iload_n hx hb d_Work_isAnyOpen_3 rfl (lv_at hl 1 rfl) ?_
    refine lv_iload_n hx hb d_Work_isAnyOpen_4 rfl (lv_at hl 2 rfl) ?_
    refine lv_iadd hx hb d_Work_isAnyOpen_5 ?_
    refine lv_icmp_ge (tgt := 25) hx hb d_Work_isAnyOpen_6 (by decide) (fun hc => ?_) (fun hc => ?_)
    · have h := it_t hc h
      exact hX2 v3 u _ _ _ h (lv_sub hl [0, 1, 2, 3] rfl) hw
    · have h := it_f hc h
      refine lv_aload_n hx hb d_Work_isAnyOpen_9 rfl (lv_at hl 0 rfl) ?_
      refine lv_iload_n hx hb d_Work_isAnyOpen_10 rfl (lv_at hl 3 rfl) ?_
      obtain ⟨r1, u2, hq3, h⟩ := ck_r h
      refine ly_callVi (As := [.int v3]) (rest := []) ZsC_ok fx hk hz hA hw (c_Work_isOpen l v3 u _ hq3) (cw_V fx.2.2.2.2 a_274 a_275 a_276 a_5 ac_Work_isOpen rfl rfl rfl hd_Work_isOpen ⟨Nat.le_of_ble_eq_true rfl, Nat.le_of_ble_eq_true rfl⟩) (45) rfl rfl rfl rfl hl.1 rfl (Nat.le_of_ble_eq_true rfl) d_Work_isAnyOpen_11 (Nat.zero_le _) (Nat.zero_le _) (fun r' u' H locs hp hw => ?_)
      cases hp
      refine lv_if_eq (tgt := 19) hx hb d_Work_isAnyOpen_14 (by decide) (fun hc => ?_) (fun hc => ?_)
      · have h := it_t hc h
        refine lv_iinc (lv' := [(3, .int (v3 + (1 : Int32))), (0, .ref (ad 45)), (1, .int v1), (2, .int v2)]) (k := 3) hx hb d_Work_isAnyOpen_19 hl rfl (oi_p1 _) (by decide) rfl (fun ls hl => ?_)
        refine lv_goto (tgt := 2) hx hb d_Work_isAnyOpen_22 (by decide) ?_
        exact ih (v3 + (1 : Int32)) u2 _ _ _ h (lv_sub hl [1, 2, 3, 0] rfl) hw
      · have h := it_f hc h
        refine lv_iconst (v := 1) hx hb d_Work_isAnyOpen_17 (by decide) ?_
        exact ly_retz fx hr hlocks hk hw (Or.inr rfl) (Option.some.inj h) d_Work_isAnyOpen_18
set_option maxRecDepth 100000 in
set_option maxHeartbeats 4000000 in
theorem c_Work_isAnyOpen (l : Launch) (F : Nat) (a1 : Int32) (a2 : Int32) (u : St) (res : Int32 × St) (h : sp_Work_isAnyOpen F a1 a2 u = some res) : ly_Mi ZsC clA layC l y_Work_isAnyOpen w_Work_isAnyOpen { frames := 1, cells := 0, slots := 0, locals := 21 } (fun ad => [.ref (ad 45), .int a1, .int a2]) u (fun r1 u1 => (r1, u1) = res) := by
  refine ly_enti (cc := b_Work_isAnyOpen) (maxL := 4) (ret := (some .boolean)) (by decide) rfl (fun ad => Nat.le_of_ble_eq_true rfl) ?_
  intro p e s m below meth c D ad cA A ls fx hr hlocks hk hA hz hw hl
  have hl : lv_has ls 4 [(0, .ref (ad 45)), (1, .int a1), (2, .int a2)] := hl
  have hx := fx.1
  have hb := fx.2.1
  unfold sp_Work_isAnyOpen at h
  refine lv_iload_n hx hb d_Work_isAnyOpen_0 rfl (lv_at hl 1 rfl) ?_
  refine lv_istore_n (lv' := [(3, .int a1), (0, .ref (ad 45)), (1, .int a1), (2, .int a2)]) hx hb d_Work_isAnyOpen_1 rfl hl (by decide) rfl (fun ls hl => ?_)
  refine wl_Work_isAnyOpen_2 fx hr hlocks hk hA hz F a1 a2 (fun v3_4 u5 H locs ls h hl hw => ?_) _ a1 u _ _ _ h (lv_sub hl [1, 2, 3, 0] rfl) hw
  refine lv_iconst (v := 0) hx hb d_Work_isAnyOpen_25 (by decide) ?_
  exact ly_retz fx hr hlocks hk hw (Or.inl rfl) (Option.some.inj h) d_Work_isAnyOpen_26
